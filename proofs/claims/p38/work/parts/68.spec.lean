set_option maxRecDepth 100000 in
set_option maxHeartbeats 4000000 in
theorem ct_X8_torn {E : zE} {I : zI} {L : zL} {R : zR} (hR : zLx R) : zCf E m_X8_torn zShF [.ref 64] I L R (some (.int (I 64 35))) (I) (L) (R) := by
  refine z_met (by decide) [some (.ref 64)] rfl rfl (Nat.le_of_ble_eq_true rfl) (fun X => ?_)
  refine z_aload_n d_X8_torn_0 rfl ?_
  refine z_getI d_X8_torn_1 f_X8_321 (by first | rfl | assumption) (by omega) ?_
  exact z_ireturn d_X8_torn_4 rfl ⟨rfl, rfl, rfl, rfl, rfl⟩
set_option maxRecDepth 100000 in
set_option maxHeartbeats 4000000 in
theorem ct_X8_still {E : zE} {I : zI} {L : zL} {R : zR} (hR : zLx R) : zCf E m_X8_still zShF [.ref 64] I L R (some (.int (I 64 6))) (zi I 64 6 0) (L) (R) := by
  refine z_met (by decide) [some (.ref 64), none] rfl rfl (Nat.le_of_ble_eq_true rfl) (fun X => ?_)
  refine z_aload_n d_X8_still_0 rfl ?_
  refine z_getI d_X8_still_1 f_X8_99 (by first | rfl | assumption) (by omega) ?_
  refine z_istore1 d_X8_still_4 rfl ?_
  refine z_aload_n d_X8_still_5 rfl ?_
  refine z_iconst d_X8_still_6 ki_0 ?_
  refine z_putI d_X8_still_7 f_X8_99 p_X8_6 (by first | rfl | assumption) (by omega) ?_
  refine z_iload_n d_X8_still_10 rfl ?_
  exact z_ireturn d_X8_still_11 rfl ⟨rfl, rfl, rfl, rfl, rfl⟩
set_option maxRecDepth 100000 in
set_option maxHeartbeats 4000000 in
theorem ct_X8_isSheet {E : zE} {Sh : zSh} {I : zI} {L : zL} {R : zR} {k l : Int32} : zCf E m_X8_isSheet Sh [.int k, .int l] I L R (some (.int (b2i (inV 0 3 k && inV 0 2 l)))) (I) (L) (R) := by
  refine z_met (by decide) [some (.int k), some (.int l)] rfl rfl (Nat.le_of_ble_eq_true rfl) (fun X => ?_)
  refine z_iload_n d_X8_isSheet_0 rfl ?_
  refine z_i2l d_X8_isSheet_1 ?_
  refine z_lconst (v := 0) d_X8_isSheet_2 (by decide) ?_
  refine z_ldc2 d_X8_isSheet_3 l_X8_252 ?_
  refine z_cSi d_X8_isSheet_6 q_X8_isSheet_92 ⟨rfl, rfl⟩ (ct_X8_in) rfl rfl rfl ⟨Nat.zero_le _, Nat.zero_le _⟩ ?_
  rw [inLc (lo := 0) (hi := 3) (by decide) (by decide)]
  refine z_if_eq d_X8_isSheet_9 (fun h_9 => ?_) (fun h_9 => ?_)
  · refine z_iconst d_X8_isSheet_28 ki_0 ?_
    exact z_zreturn d_X8_isSheet_29 rfl (by first | rfl | exact nar_b _) ⟨by first | (rw [b0 h_9]; rfl) | (rw [b1 h_9, b0 h_21]; rfl) | (rw [b1 h_9, b1 h_21]; rfl), rfl, rfl, rfl, rfl⟩
  · refine z_iload_n d_X8_isSheet_12 rfl ?_
    refine z_i2l d_X8_isSheet_13 ?_
    refine z_lconst (v := 0) d_X8_isSheet_14 (by decide) ?_
    refine z_ldc2 d_X8_isSheet_15 l_X8_288 ?_
    refine z_cSi d_X8_isSheet_18 q_X8_isSheet_92 ⟨rfl, rfl⟩ (ct_X8_in) rfl rfl rfl ⟨Nat.zero_le _, Nat.zero_le _⟩ ?_
    rw [inLc (lo := 0) (hi := 2) (by decide) (by decide)]
    refine z_if_eq d_X8_isSheet_21 (fun h_21 => ?_) (fun h_21 => ?_)
    · refine z_iconst d_X8_isSheet_28 ki_0 ?_
      exact z_zreturn d_X8_isSheet_29 rfl (by first | rfl | exact nar_b _) ⟨by first | (rw [b0 h_9]; rfl) | (rw [b1 h_9, b0 h_21]; rfl) | (rw [b1 h_9, b1 h_21]; rfl), rfl, rfl, rfl, rfl⟩
    · refine z_iconst d_X8_isSheet_24 ki_1 ?_
      refine z_goto d_X8_isSheet_25 ?_
      exact z_zreturn d_X8_isSheet_29 rfl (by first | rfl | exact nar_b _) ⟨by first | (rw [b0 h_9]; rfl) | (rw [b1 h_9, b0 h_21]; rfl) | (rw [b1 h_9, b1 h_21]; rfl), rfl, rfl, rfl, rfl⟩
set_option maxRecDepth 100000 in
set_option maxHeartbeats 4000000 in
theorem ct_X8_isPicture {E : zE} {Sh : zSh} {I : zI} {L : zL} {R : zR} {k l : Int32} : zCf E m_X8_isPicture Sh [.int k, .int l] I L R (some (.int (b2i (inV 1 3 k && inV 1 3 l)))) (I) (L) (R) := by
  refine z_met (by decide) [some (.int k), some (.int l)] rfl rfl (Nat.le_of_ble_eq_true rfl) (fun X => ?_)
  refine z_iload_n d_X8_isPicture_0 rfl ?_
  refine z_i2l d_X8_isPicture_1 ?_
  refine z_lconst (v := 1) d_X8_isPicture_2 (by decide) ?_
  refine z_ldc2 d_X8_isPicture_3 l_X8_252 ?_
  refine z_cSi d_X8_isPicture_6 q_X8_isPicture_92 ⟨rfl, rfl⟩ (ct_X8_in) rfl rfl rfl ⟨Nat.zero_le _, Nat.zero_le _⟩ ?_
  rw [inLc (lo := 1) (hi := 3) (by decide) (by decide)]
  refine z_if_eq d_X8_isPicture_9 (fun h_9 => ?_) (fun h_9 => ?_)
  · refine z_iconst d_X8_isPicture_28 ki_0 ?_
    exact z_zreturn d_X8_isPicture_29 rfl (by first | rfl | exact nar_b _) ⟨by first | (rw [b0 h_9]; rfl) | (rw [b1 h_9, b0 h_21]; rfl) | (rw [b1 h_9, b1 h_21]; rfl), rfl, rfl, rfl, rfl⟩
  · refine z_iload_n d_X8_isPicture_12 rfl ?_
    refine z_i2l d_X8_isPicture_13 ?_
    refine z_lconst (v := 1) d_X8_isPicture_14 (by decide) ?_
    refine z_ldc2 d_X8_isPicture_15 l_X8_252 ?_
    refine z_cSi d_X8_isPicture_18 q_X8_isPicture_92 ⟨rfl, rfl⟩ (ct_X8_in) rfl rfl rfl ⟨Nat.zero_le _, Nat.zero_le _⟩ ?_
    rw [inLc (lo := 1) (hi := 3) (by decide) (by decide)]
    refine z_if_eq d_X8_isPicture_21 (fun h_21 => ?_) (fun h_21 => ?_)
    · refine z_iconst d_X8_isPicture_28 ki_0 ?_
      exact z_zreturn d_X8_isPicture_29 rfl (by first | rfl | exact nar_b _) ⟨by first | (rw [b0 h_9]; rfl) | (rw [b1 h_9, b0 h_21]; rfl) | (rw [b1 h_9, b1 h_21]; rfl), rfl, rfl, rfl, rfl⟩
    · refine z_iconst d_X8_isPicture_24 ki_1 ?_
      refine z_goto d_X8_isPicture_25 ?_
      exact z_zreturn d_X8_isPicture_29 rfl (by first | rfl | exact nar_b _) ⟨by first | (rw [b0 h_9]; rfl) | (rw [b1 h_9, b0 h_21]; rfl) | (rw [b1 h_9, b1 h_21]; rfl), rfl, rfl, rfl, rfl⟩
set_option maxRecDepth 100000 in
set_option maxHeartbeats 4000000 in
theorem ct_X8_words {E : zE} {I : zI} {L : zL} {R : zR} {i : Int32} (hR : zLx R) (h12 : (I 64 6).toInt ≤ 12) (h0 : 0 ≤ (I 64 6).toInt) : zCf E m_X8_words zShF [.ref 64, .int i] I L R (some (.int (if inV 0 (I 64 6 - 1) i = true then I 71 i.toNatClampNeg else -1))) (I) (L) (R) := by
  refine z_met (by decide) [some (.ref 64), some (.int i)] rfl rfl (Nat.le_of_ble_eq_true rfl) (fun X => ?_)
  refine z_iload_n d_X8_words_0 rfl ?_
  refine z_i2l d_X8_words_1 ?_
  refine z_lconst (v := 0) d_X8_words_2 (by decide) ?_
  refine z_aload_n d_X8_words_3 rfl ?_
  refine z_getI d_X8_words_4 f_X8_99 (by first | rfl | assumption) (by omega) ?_
  refine z_iconst d_X8_words_7 ki_1 ?_
  refine z_isub d_X8_words_8 ?_
  refine z_i2l d_X8_words_9 ?_
  refine z_cSi d_X8_words_10 q_X8_words_92 ⟨rfl, rfl⟩ (ct_X8_in) rfl rfl rfl ⟨Nat.zero_le _, Nat.zero_le _⟩ ?_
  rw [inLc (lo := 0) (by decide) rfl]
  refine z_if_eq d_X8_words_13 (fun h_13 => ?_) (fun h_13 => ?_)
  · refine z_iconst d_X8_words_25 ki_m1 ?_
    exact z_ireturn d_X8_words_26 rfl ⟨by first | rw [if_pos (b1 h_13)] | (rw [b0 h_13]; rfl), rfl, rfl, rfl, rfl⟩
  · have hw := b1 h_13
    have hix : zix i 12 i.toNatClampNeg := by
      simp only [inV, Bool.and_eq_true, Bool.not_eq_true', decide_eq_false_iff_not] at hw
      have e1 : (I 64 6 - 1).toInt = (I 64 6).toInt - 1 := by rw [i_sub (by rw [show (1 : Int32).toInt = 1 from rfl]; omega) (by rw [show (1 : Int32).toInt = 1 from rfl]; omega)]; rfl
      have h2 : ¬ 11 < i := fun g => by
        have g2 := Int32.lt_iff_toInt_lt.mp g
        have g3 := mt Int32.lt_iff_toInt_lt.mpr hw.2
        rw [show (11 : Int32).toInt = 11 from rfl] at g2
        omega
      obtain ⟨e, h3⟩ := nat_of (n := 11) (by decide) hw.1 h2
      exact ⟨by omega, rfl, hw.1⟩
    refine z_aload_n d_X8_words_16 rfl ?_
    refine z_getR d_X8_words_17 f_X8_30 (by first | rfl | assumption) (by omega) (by first | exact hR _ _ _ rfl | rfl | assumption) ?_
    refine z_iload_n d_X8_words_20 rfl ?_
    refine z_iaload d_X8_words_21 (by first | rfl | assumption) (by omega) (by first | exact zix_nI (by assumption) (by first | decide | assumption) | exact zix_nI (by omega) (by first | decide | assumption) | assumption) ?_
    refine z_goto d_X8_words_22 ?_
    exact z_ireturn d_X8_words_26 rfl ⟨by first | rw [if_pos (b1 h_13)] | (rw [b0 h_13]; rfl), rfl, rfl, rfl, rfl⟩
set_option maxRecDepth 100000 in
set_option maxHeartbeats 4000000 in
theorem ct_X8_full {E : zE} {I : zI} {L : zL} {R : zR} {w : Int32} (hR : zLx R) : zCf E m_X8_full zShF [.ref 64, .int w] I L R (some (.int (if isW w = true then (if I 65 (104 + w.toNatClampNeg) + I 69 w.toNatClampNeg + I 68 1 = 0 then -4 else (I 68 0 + (I 65 (104 + w.toNatClampNeg) + I 69 w.toNatClampNeg + I 68 1) - 1) / (I 65 (104 + w.toNatClampNeg) + I 69 w.toNatClampNeg + I 68 1)) else -1))) (I) (L) (R) := by
  refine z_met (by decide) [some (.ref 64), some (.int w), none] rfl rfl (Nat.le_of_ble_eq_true rfl) (fun X => ?_)
  refine z_iload_n d_X8_full_0 rfl ?_
  refine z_cSi d_X8_full_1 q_X8_full_183 ⟨rfl, rfl⟩ (ct_X8_isWell) rfl rfl rfl ⟨Nat.zero_le _, Nat.zero_le _⟩ ?_
  refine z_if_ne d_X8_full_4 (fun h_4 => ?_) (fun h_4 => ?_)
  · have hw := isW_nI (b1 h_4)
    rw [if_pos (b1 h_4)]
    generalize w.toNatClampNeg = n at hw ⊢
    obtain ⟨rfl, hn⟩ := hw
    refine z_aload_n d_X8_full_9 rfl ?_
    refine z_iload_n d_X8_full_10 rfl ?_
    refine z_cVi d_X8_full_11 q_X8_full_204 (by first | rfl | assumption) (by omega) ⟨rfl, rfl⟩ (ct_X8_rateOf hR hn) rfl rfl rfl ⟨Nat.zero_le _, Nat.zero_le _⟩ ?_
    refine z_istore2 d_X8_full_14 rfl ?_
    refine z_iload_n d_X8_full_15 rfl ?_
    refine z_if_ne d_X8_full_16 (fun h_16 => ?_) (fun h_16 => ?_)
    · refine z_aload_n d_X8_full_24 rfl ?_
      refine z_getR d_X8_full_25 f_X8_21 (by first | rfl | assumption) (by omega) (by first | exact hR _ _ _ rfl | rfl | assumption) ?_
      refine z_iconst d_X8_full_28 ki_0 ?_
      refine z_iaload d_X8_full_29 (by first | rfl | assumption) (by omega) (zix_lit 0 (by decide)) ?_
      refine z_iload_n d_X8_full_30 rfl ?_
      refine z_iadd d_X8_full_31 ?_
      refine z_iconst d_X8_full_32 ki_1 ?_
      refine z_isub d_X8_full_33 ?_
      refine z_iload_n d_X8_full_34 rfl ?_
      refine z_idiv d_X8_full_35 (by first | assumption | decide) ?_
      exact z_ireturn d_X8_full_36 rfl ⟨by first | rw [if_pos h_16] | rw [if_neg h_16], rfl, rfl, rfl, rfl⟩
    · refine z_bipush d_X8_full_19 kb_m4 ?_
      refine z_goto d_X8_full_21 ?_
      exact z_ireturn d_X8_full_36 rfl ⟨by first | rw [if_pos h_16] | rw [if_neg h_16], rfl, rfl, rfl, rfl⟩
  · have e := b0 h_4
    refine z_iconst d_X8_full_7 ki_m1 ?_
    exact z_ireturn d_X8_full_8 rfl ⟨by rw [e]; rfl, rfl, rfl, rfl, rfl⟩
