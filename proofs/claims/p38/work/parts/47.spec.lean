set_option maxRecDepth 100000 in
set_option maxHeartbeats 4000000 in
theorem ct_X7_smear {E : zE} {I : zI} {L : zL} {R : zR} {w : Int32} (hR : zLx R) : zCf E m_X7_smear zShF [.ref 0, .int w] I L R (some (.int (if isW w = true then sumV (fun i => I 17 (w.toNatClampNeg + 8 * (i + 1))) (5 - w.toNatClampNeg / 8) * I 4 3 else -1))) (I) (L) (R) := by
  refine z_met (by decide) [some (.ref 0), some (.int w), none, none] rfl rfl (Nat.le_of_ble_eq_true rfl) (fun X => ?_)
  refine z_iload_n d_X7_smear_0 rfl ?_
  refine z_cSi d_X7_smear_1 q_X7_smear_93 ⟨rfl, rfl⟩ (ct_X7_isWell) rfl rfl rfl ⟨Nat.zero_le _, Nat.zero_le _⟩ ?_
  refine z_if_ne d_X7_smear_4 (fun h_4 => ?_) (fun h_4 => ?_)
  · have hw := b1 h_4
    have hix := isW_ix hw
    rw [if_pos hw]
    obtain ⟨j, hj, rfl⟩ := nI_of hix.2.2
    have hj2 := hix.1
    rw [nI_clamp hj] at hj2 ⊢
    refine z_iconst d_X7_smear_9 ki_0 ?_
    refine z_istore2 d_X7_smear_10 rfl ?_
    refine z_iload_n d_X7_smear_11 rfl ?_
    refine z_bipush d_X7_smear_12 kb_8 ?_
    refine z_iadd d_X7_smear_14 ?_
    rw [show nI j + (8 : Int32) = nI (j + 8 * (0 + 1)) from nI_add j 8]
    refine z_istore3 d_X7_smear_15 rfl ?_
    have loop : ∀ (Qs : State → Prop), (∀ k, zZ E m_X7_smear X Qs zShF 0 0 40 [some (.ref 0), some (.int (nI j)), some (.int (sumV (fun i => I 17 (j + 8 * (i + 1))) (5 - j / 8))), some (.int (nI k))] [] I L R) → ∀ i, i ≤ 5 - j / 8 → zZ E m_X7_smear X Qs zShF 0 0 16 [some (.ref 0), some (.int (nI j)), some (.int (sumV (fun i => I 17 (j + 8 * (i + 1))) i)), some (.int (nI (j + 8 * (i + 1))))] [] I L R := by
      intro Qs hx
      refine up_rec (fun i hi ih => ?_)
      refine z_iload_n d_X7_smear_16 rfl ?_
      refine z_bipush d_X7_smear_17 kb_48 ?_
      refine z_icmp_ge d_X7_smear_19 (fun h_19 => ?_) (fun h_19 => ?_)
      · have h9 := (nI_leI (a := 48) (b := j + 8 * (i + 1)) (by decide) (by omega)).mp h_19
        obtain rfl : i = 5 - j / 8 := by omega
        exact hx _
      · have hlt := lt_of_nge (i := j + 8 * (i + 1)) (n := 48) (by decide) h_19 (by omega)
        refine z_iload_n d_X7_smear_22 rfl ?_
        refine z_aload_n d_X7_smear_23 rfl ?_
        refine z_getR d_X7_smear_24 f_X7_35 (by first | rfl | assumption) (by omega) (by first | exact hR _ _ _ rfl | rfl | assumption) ?_
        refine z_getR d_X7_smear_27 f_X7_100 (by first | rfl | assumption) (by omega) (by first | exact hR _ _ _ rfl | rfl | assumption) ?_
        refine z_iload_n d_X7_smear_30 rfl ?_
        refine z_iaload d_X7_smear_31 (by first | rfl | assumption) (by omega) (by first | exact zix_nI (by assumption) (by first | decide | assumption) | exact zix_nI (by omega) (by first | decide | assumption) | assumption) ?_
        refine z_iadd d_X7_smear_32 ?_
        refine z_istore2 d_X7_smear_33 rfl ?_
        refine z_iinc3 d_X7_smear_34 ki_8 rfl ?_
        refine z_goto d_X7_smear_37 ?_
        rw [show nI (j + 8 * (i + 1)) + (8 : Int32) = nI (j + 8 * (i + 1 + 1)) from nI_add _ 8]
        exact ih (by omega)
    refine loop _ (fun k => ?_) 0 (Nat.zero_le _)
    refine z_iload_n d_X7_smear_40 rfl ?_
    refine z_aload_n d_X7_smear_41 rfl ?_
    refine z_getR d_X7_smear_42 f_X7_19 (by first | rfl | assumption) (by omega) (by first | exact hR _ _ _ rfl | rfl | assumption) ?_
    refine z_getR d_X7_smear_45 f_X7_89 (by first | rfl | assumption) (by omega) (by first | exact hR _ _ _ rfl | rfl | assumption) ?_
    refine z_iconst d_X7_smear_48 ki_3 ?_
    refine z_iaload d_X7_smear_49 (by first | rfl | assumption) (by omega) (zix_lit 3 (by decide)) ?_
    refine z_imul d_X7_smear_50 ?_
    exact z_ireturn d_X7_smear_51 rfl ⟨rfl, rfl, rfl, rfl, rfl⟩
  · have hw := b0 h_4
    refine z_iconst d_X7_smear_7 ki_m1 ?_
    exact z_ireturn d_X7_smear_8 rfl ⟨by rw [hw]; rfl, rfl, rfl, rfl, rfl⟩
set_option maxRecDepth 100000 in
set_option maxHeartbeats 4000000 in
theorem ct_X7_mostWord {E : zE} {I : zI} {L : zL} {R : zR} (hR : zLx R) : zCf E m_X7_mostWord zShF [.ref 0] I L R (some (.int (if I 4 6 = 3 then 7 else 15))) (I) (L) (R) := by
  refine z_met (by decide) [some (.ref 0)] rfl rfl (Nat.le_of_ble_eq_true rfl) (fun X => ?_)
  refine z_aload_n d_X7_mostWord_0 rfl ?_
  refine z_getR d_X7_mostWord_1 f_X7_19 (by first | rfl | assumption) (by omega) (by first | exact hR _ _ _ rfl | rfl | assumption) ?_
  refine z_getR d_X7_mostWord_4 f_X7_89 (by first | rfl | assumption) (by omega) (by first | exact hR _ _ _ rfl | rfl | assumption) ?_
  refine z_bipush d_X7_mostWord_7 kb_6 ?_
  refine z_iaload d_X7_mostWord_9 (by first | rfl | assumption) (by omega) (zix_lit 6 (by decide)) ?_
  refine z_iconst d_X7_mostWord_10 ki_3 ?_
  refine z_icmp_ne d_X7_mostWord_11 (fun h_11 => ?_) (fun h_11 => ?_)
  · refine z_bipush d_X7_mostWord_19 kb_15 ?_
    exact z_ireturn d_X7_mostWord_21 rfl ⟨by simp [*], rfl, rfl, rfl, rfl⟩
  · refine z_bipush d_X7_mostWord_14 kb_7 ?_
    refine z_goto d_X7_mostWord_16 ?_
    exact z_ireturn d_X7_mostWord_21 rfl ⟨by simp [*], rfl, rfl, rfl, rfl⟩
set_option maxRecDepth 100000 in
set_option maxHeartbeats 4000000 in
theorem ct_X7_isWord {E : zE} {I : zI} {L : zL} {R : zR} {v : Int32} (hR : zLx R) : zCf E m_X7_isWord zShF [.ref 0, .int v] I L R (some (.int (b2i (inV 0 (if I 4 6 = 3 then 7 else 15) v)))) (I) (L) (R) := by
  generalize hm : (if I 4 6 = 3 then (7 : Int32) else 15) = mw
  refine z_met (by decide) [some (.ref 0), some (.int v)] rfl rfl (Nat.le_of_ble_eq_true rfl) (fun X => ?_)
  refine z_iload_n d_X7_isWord_0 rfl ?_
  refine z_if_lt d_X7_isWord_1 (fun h_1 => ?_) (fun h_1 => ?_)
  · refine z_iconst d_X7_isWord_16 ki_0 ?_
    exact z_zreturn d_X7_isWord_17 rfl rfl ⟨by simp [inV, b2i, *], rfl, rfl, rfl, rfl⟩
  · refine z_iload_n d_X7_isWord_4 rfl ?_
    refine z_aload_n d_X7_isWord_5 rfl ?_
    refine z_cVi d_X7_isWord_6 q_X7_isWord_248 (by first | rfl | assumption) (by omega) ⟨rfl, rfl⟩ (ct_X7_mostWord hR) rfl rfl rfl ⟨Nat.zero_le _, Nat.zero_le _⟩ ?_
    rw [hm]
    refine z_icmp_gt d_X7_isWord_9 (fun h_9 => ?_) (fun h_9 => ?_)
    · refine z_iconst d_X7_isWord_16 ki_0 ?_
      exact z_zreturn d_X7_isWord_17 rfl rfl ⟨by simp [inV, b2i, *], rfl, rfl, rfl, rfl⟩
    · refine z_iconst d_X7_isWord_12 ki_1 ?_
      refine z_goto d_X7_isWord_13 ?_
      exact z_zreturn d_X7_isWord_17 rfl rfl ⟨by simp [inV, b2i, *], rfl, rfl, rfl, rfl⟩
set_option maxRecDepth 100000 in
set_option maxHeartbeats 4000000 in
theorem ct_X7_word {E : zE} {I : zI} {L : zL} {R : zR} {v : Int32} {n : Nat} (hR : zLx R) (hn : I 3 4 = nI n) (hn2 : n ≤ 12) : zCf E m_X7_word zShF [.ref 0, .int v] I L R (some (.int (if inV 0 (if I 4 6 = 3 then 7 else 15) v = true then (if n < 12 then nI (n + 1) else -3) else -1))) (if inV 0 (if I 4 6 = 3 then 7 else 15) v = true then (if n < 12 then zi (zi I 7 n v) 3 4 (nI (n + 1)) else I) else I) (L) (R) := by
  refine z_met (by decide) [some (.ref 0), some (.int v)] rfl rfl (Nat.le_of_ble_eq_true rfl) (fun X => ?_)
  refine z_aload_n d_X7_word_0 rfl ?_
  refine z_iload_n d_X7_word_1 rfl ?_
  refine z_cVi d_X7_word_2 q_X7_word_213 (by first | rfl | assumption) (by omega) ⟨rfl, rfl⟩ (ct_X7_isWord hR) rfl rfl rfl ⟨Nat.zero_le _, Nat.zero_le _⟩ ?_
  refine z_if_ne d_X7_word_5 (fun h_5 => ?_) (fun h_5 => ?_)
  · have hw := b1 h_5
    rw [hw, if_pos rfl, if_pos rfl]
    refine z_aload_n d_X7_word_10 rfl ?_
    refine z_getR d_X7_word_11 f_X7_19 (by first | rfl | assumption) (by omega) (by first | exact hR _ _ _ rfl | rfl | assumption) ?_
    refine z_getI d_X7_word_14 f_X7_216 (by first | rfl | assumption) (by omega) ?_
    rw [hn]
    refine z_bipush d_X7_word_17 kb_12 ?_
    refine z_icmp_lt d_X7_word_19 (fun h_19 => ?_) (fun h_19 => ?_)
    · have hlt := (nI_ltI (a := n) (b := 12) (by omega) (by decide)).mp h_19
      refine z_aload_n d_X7_word_25 rfl ?_
      refine z_getR d_X7_word_26 f_X7_19 (by first | rfl | assumption) (by omega) (by first | exact hR _ _ _ rfl | rfl | assumption) ?_
      refine z_getR d_X7_word_29 f_X7_219 (by first | rfl | assumption) (by omega) (by first | exact hR _ _ _ rfl | rfl | assumption) ?_
      refine z_aload_n d_X7_word_32 rfl ?_
      refine z_getR d_X7_word_33 f_X7_19 (by first | rfl | assumption) (by omega) (by first | exact hR _ _ _ rfl | rfl | assumption) ?_
      refine z_getI d_X7_word_36 f_X7_216 (by first | rfl | assumption) (by omega) ?_
      rw [hn]
      refine z_iload_n d_X7_word_39 rfl ?_
      refine z_iastore d_X7_word_40 (by first | rfl | assumption) (by omega) (by first | exact zix_nI (by assumption) (by first | decide | assumption) | exact zix_nI (by omega) (by first | decide | assumption) | assumption) ?_
      refine z_aload_n d_X7_word_41 rfl ?_
      refine z_getR d_X7_word_42 f_X7_19 (by first | rfl | assumption) (by omega) (by first | exact hR _ _ _ rfl | rfl | assumption) ?_
      refine z_dup d_X7_word_45 rfl ?_
      refine z_getI d_X7_word_46 f_X7_216 (by first | rfl | assumption) (by omega) ?_
      rw [zi_ne (by decide), hn]
      refine z_iconst d_X7_word_49 ki_1 ?_
      refine z_iadd d_X7_word_50 ?_
      rw [nI_1]
      refine z_putI d_X7_word_51 f_X7_216 p_X3_4 (by first | rfl | assumption) (by omega) ?_
      refine z_aload_n d_X7_word_54 rfl ?_
      refine z_getR d_X7_word_55 f_X7_19 (by first | rfl | assumption) (by omega) (by first | exact hR _ _ _ rfl | rfl | assumption) ?_
      refine z_getI d_X7_word_58 f_X7_216 (by first | rfl | assumption) (by omega) ?_
      exact z_ireturn d_X7_word_61 rfl ⟨by rw [if_pos hlt, zi_at], rfl, by rw [if_pos hlt], rfl, rfl⟩
    · refine z_bipush d_X7_word_22 kb_m3 ?_
      exact z_ireturn d_X7_word_24 rfl ⟨by rw [if_neg (fun q => h_19 (nI_lt (b := 12) q (by decide)))], rfl, by rw [if_neg (fun q => h_19 (nI_lt (b := 12) q (by decide)))], rfl, rfl⟩
  · have hw := b0 h_5
    refine z_iconst d_X7_word_8 ki_m1 ?_
    exact z_ireturn d_X7_word_9 rfl ⟨by rw [hw]; rfl, rfl, by rw [hw]; rfl, rfl, rfl⟩
set_option maxRecDepth 100000 in
set_option maxHeartbeats 4000000 in
theorem ct_X7_still {E : zE} {I : zI} {L : zL} {R : zR} (hR : zLx R) : zCf E m_X7_still zShF [.ref 0] I L R (some (.int (I 3 4))) (zi I 3 4 0) (L) (R) := by
  refine z_met (by decide) [some (.ref 0), none] rfl rfl (Nat.le_of_ble_eq_true rfl) (fun X => ?_)
  refine z_aload_n d_X7_still_0 rfl ?_
  refine z_getR d_X7_still_1 f_X7_19 (by first | rfl | assumption) (by omega) (by first | exact hR _ _ _ rfl | rfl | assumption) ?_
  refine z_getI d_X7_still_4 f_X7_216 (by first | rfl | assumption) (by omega) ?_
  refine z_istore1 d_X7_still_7 rfl ?_
  refine z_aload_n d_X7_still_8 rfl ?_
  refine z_getR d_X7_still_9 f_X7_19 (by first | rfl | assumption) (by omega) (by first | exact hR _ _ _ rfl | rfl | assumption) ?_
  refine z_iconst d_X7_still_12 ki_0 ?_
  refine z_putI d_X7_still_13 f_X7_216 p_X3_4 (by first | rfl | assumption) (by omega) ?_
  refine z_iload_n d_X7_still_16 rfl ?_
  exact z_ireturn d_X7_still_17 rfl ⟨rfl, rfl, rfl, rfl, rfl⟩
set_option maxRecDepth 100000 in
set_option maxHeartbeats 4000000 in
theorem ct_X7_words {E : zE} {I : zI} {L : zL} {R : zR} {i : Int32} {n : Nat} (hR : zLx R) (hn : I 3 4 = nI n) (hn2 : n ≤ 12) : zCf E m_X7_words zShF [.ref 0, .int i] I L R (some (.int (if i < 0 then -1 else if i < nI n then I 7 i.toNatClampNeg else -1))) (I) (L) (R) := by
  refine z_met (by decide) [some (.ref 0), some (.int i)] rfl rfl (Nat.le_of_ble_eq_true rfl) (fun X => ?_)
  refine z_iload_n d_X7_words_0 rfl ?_
  refine z_if_lt d_X7_words_1 (fun h_1 => ?_) (fun h_1 => ?_)
  · refine z_iconst d_X7_words_15 ki_m1 ?_
    refine z_goto d_X7_words_16 ?_
    exact z_ireturn d_X7_words_28 rfl ⟨by simp [*], rfl, rfl, rfl, rfl⟩
  · refine z_iload_n d_X7_words_4 rfl ?_
    refine z_aload_n d_X7_words_5 rfl ?_
    refine z_getR d_X7_words_6 f_X7_19 (by first | rfl | assumption) (by omega) (by first | exact hR _ _ _ rfl | rfl | assumption) ?_
    refine z_getI d_X7_words_9 f_X7_216 (by first | rfl | assumption) (by omega) ?_
    rw [hn]
    refine z_icmp_lt d_X7_words_12 (fun h_12 => ?_) (fun h_12 => ?_)
    · refine z_aload_n d_X7_words_19 rfl ?_
      refine z_getR d_X7_words_20 f_X7_19 (by first | rfl | assumption) (by omega) (by first | exact hR _ _ _ rfl | rfl | assumption) ?_
      refine z_getR d_X7_words_23 f_X7_219 (by first | rfl | assumption) (by omega) (by first | exact hR _ _ _ rfl | rfl | assumption) ?_
      refine z_iload_n d_X7_words_26 rfl ?_
      refine z_iaload d_X7_words_27 (by first | rfl | assumption) (by omega) (zix_of2 h_1 (Int32.not_le.mpr (Int32.lt_of_lt_of_le h_12 (nI_le (b := 12) hn2 (by decide)))) (by decide)) ?_
      exact z_ireturn d_X7_words_28 rfl ⟨by simp [*], rfl, rfl, rfl, rfl⟩
    · refine z_iconst d_X7_words_15 ki_m1 ?_
      refine z_goto d_X7_words_16 ?_
      exact z_ireturn d_X7_words_28 rfl ⟨by simp [*], rfl, rfl, rfl, rfl⟩
/-- a copy of a Charge -/
def cpQ (a b : zQ) : zQ := (zcp (qLi a) (qLi b) 48, zcp (qWe a) (qWe b) 48, zcp (qHe a) (qHe b) 48, zcp (qLn a) (qLn b) 8, qLo a, qRd a, qCm a)
theorem cp_I (I : zI) (L : zL) (c o : Nat) : va_up (va_up (va_up (va_up I (c + 1) (zcp (I (o + 1)) (I (c + 1)) 48)) (c + 2) (zcp (I (o + 2)) (I (c + 2)) 48)) (c + 3) (zcp (I (o + 3)) (I (c + 3)) 48)) (c + 4) (zcp (I (o + 4)) (I (c + 4)) 8) = qI I c (cpQ (qOf I L o) (qOf I L c)) := rfl
theorem cp_L (I : zI) (L : zL) (c o : Nat) : zj (zj (zj L c 4 (L o 4)) c 5 (L o 5)) c 6 (L o 6) = qL L c (cpQ (qOf I L o) (qOf I L c)) := rfl
theorem nar1 : vp_nar .boolean 1 = 1 := by decide
theorem nar0 : vp_nar .boolean 0 = 0 := by decide
set_option maxRecDepth 100000 in
set_option maxHeartbeats 4000000 in
theorem ct_X7_keep {E : zE} {I : zI} {L : zL} {R : zR} {i : Nat} (hR : zLx R) (hi : i < 2) : zCf E m_X7_keep zShF [.ref 0, .int (nI i)] I L R (some (.int (if I 22 i = 0 then 0 else 1))) (zi (qI I (46 + 5 * i) (cpQ (qOf I L 16) (qOf I L (46 + 5 * i)))) 22 i 1) (qL L (46 + 5 * i) (cpQ (qOf I L 16) (qOf I L (46 + 5 * i)))) (R) := by
  have h16 := lC_16 hR
  have hci : zCh zShF R (46 + 5 * i) := by rcases (show i = 0 ∨ i = 1 by omega) with rfl | rfl; exact lC_46 hR; exact lC_51 hR
  have hri : R 21 i = some (46 + 5 * i) := by rcases (show i = 0 ∨ i = 1 by omega) with rfl | rfl <;> exact hR _ _ _ rfl
  have hsi : zShF[46 + 5 * i]? = some (0, 0) := hci.1
  refine z_met (by decide) [some (.ref 0), some (.int (nI i)), none] rfl rfl (Nat.le_of_ble_eq_true rfl) (fun X => ?_)
  refine z_iload_n d_X7_keep_0 rfl ?_
  refine z_if_lt d_X7_keep_1 (fun h_1 => absurd h_1 (nI_pos (by omega))) (fun h_1 => ?_)
  refine z_iload_n d_X7_keep_4 rfl ?_
  refine z_iconst d_X7_keep_5 ki_2 ?_
  refine z_icmp_lt d_X7_keep_6 (fun h_6 => ?_) (fun h_6 => absurd (nI_lt (b := 2) hi (by decide)) h_6)
  refine z_aload_n d_X7_keep_11 rfl ?_
  refine z_getR d_X7_keep_12 f_X7_43 (by first | rfl | assumption) (by omega) (by first | exact hR _ _ _ rfl | rfl | assumption) ?_
  refine z_iload_n d_X7_keep_15 rfl ?_
  refine z_zaload d_X7_keep_16 (by first | rfl | assumption) (by omega) (by first | exact zix_nI (by assumption) (by first | decide | assumption) | exact zix_nI (by omega) (by first | decide | assumption) | assumption) ?_
  refine z_if_eq d_X7_keep_17 (fun h_17 => ?_) (fun h_17 => ?_)
  · refine z_iconst d_X7_keep_24 ki_0 ?_
    refine z_topi (y := if I 22 i = 0 then 0 else 1) (by simp [h_17]) ?_
    refine z_istore2 d_X7_keep_25 rfl ?_
    refine z_aload_n d_X7_keep_26 rfl ?_
    refine z_getR d_X7_keep_27 f_X7_39 (by first | rfl | assumption) (by omega) (by first | exact hR _ _ _ rfl | rfl | assumption) ?_
    refine z_iload_n d_X7_keep_30 rfl ?_
    refine z_aaload5 d_X7_keep_31 (by first | rfl | assumption) (by omega) (by first | exact zix_nI (by assumption) (by first | decide | assumption) | exact zix_nI (by omega) (by first | decide | assumption) | assumption) (by first | exact hR _ _ _ rfl | rfl | assumption) ?_
    refine z_aload_n d_X7_keep_32 rfl ?_
    refine z_getR d_X7_keep_33 f_X7_35 (by first | rfl | assumption) (by omega) (by first | exact hR _ _ _ rfl | rfl | assumption) ?_
    refine z_cVv d_X7_keep_36 q_X7_keep_255 (by first | rfl | assumption) (by omega) ⟨rfl, rfl⟩ (ct_X0_takeFrom hci h16 (by omega)) rfl rfl rfl ⟨Nat.zero_le _, Nat.zero_le _⟩ ?_
    refine z_aload_n d_X7_keep_39 rfl ?_
    refine z_getR d_X7_keep_40 f_X7_43 (by first | rfl | assumption) (by omega) (by first | exact hR _ _ _ rfl | rfl | assumption) ?_
    refine z_iload_n d_X7_keep_43 rfl ?_
    refine z_iconst d_X7_keep_44 ki_1 ?_
    refine z_zastore d_X7_keep_45 (by first | rfl | assumption) (by omega) (by first | exact zix_nI (by assumption) (by first | decide | assumption) | exact zix_nI (by omega) (by first | decide | assumption) | assumption) ?_
    rw [nar1]
    refine z_iload_n d_X7_keep_46 rfl ?_
    exact z_ireturn d_X7_keep_47 rfl ⟨rfl, rfl, rfl, rfl, rfl⟩
  · refine z_iconst d_X7_keep_20 ki_1 ?_
    refine z_goto d_X7_keep_21 ?_
    refine z_topi (y := if I 22 i = 0 then 0 else 1) (by simp [h_17]) ?_
    refine z_istore2 d_X7_keep_25 rfl ?_
    refine z_aload_n d_X7_keep_26 rfl ?_
    refine z_getR d_X7_keep_27 f_X7_39 (by first | rfl | assumption) (by omega) (by first | exact hR _ _ _ rfl | rfl | assumption) ?_
    refine z_iload_n d_X7_keep_30 rfl ?_
    refine z_aaload5 d_X7_keep_31 (by first | rfl | assumption) (by omega) (by first | exact zix_nI (by assumption) (by first | decide | assumption) | exact zix_nI (by omega) (by first | decide | assumption) | assumption) (by first | exact hR _ _ _ rfl | rfl | assumption) ?_
    refine z_aload_n d_X7_keep_32 rfl ?_
    refine z_getR d_X7_keep_33 f_X7_35 (by first | rfl | assumption) (by omega) (by first | exact hR _ _ _ rfl | rfl | assumption) ?_
    refine z_cVv d_X7_keep_36 q_X7_keep_255 (by first | rfl | assumption) (by omega) ⟨rfl, rfl⟩ (ct_X0_takeFrom hci h16 (by omega)) rfl rfl rfl ⟨Nat.zero_le _, Nat.zero_le _⟩ ?_
    refine z_aload_n d_X7_keep_39 rfl ?_
    refine z_getR d_X7_keep_40 f_X7_43 (by first | rfl | assumption) (by omega) (by first | exact hR _ _ _ rfl | rfl | assumption) ?_
    refine z_iload_n d_X7_keep_43 rfl ?_
    refine z_iconst d_X7_keep_44 ki_1 ?_
    refine z_zastore d_X7_keep_45 (by first | rfl | assumption) (by omega) (by first | exact zix_nI (by assumption) (by first | decide | assumption) | exact zix_nI (by omega) (by first | decide | assumption) | assumption) ?_
    rw [nar1]
    refine z_iload_n d_X7_keep_46 rfl ?_
    exact z_ireturn d_X7_keep_47 rfl ⟨rfl, rfl, rfl, rfl, rfl⟩
set_option maxRecDepth 100000 in
set_option maxHeartbeats 4000000 in
theorem ct_X7_keep_bad {E : zE} {I : zI} {L : zL} {R : zR} {x : Int32} (hR : zLx R) (hx : x < 0 ∨ ¬ x < 2) : zCf E m_X7_keep zShF [.ref 0, .int x] I L R (some (.int (-1))) (I) (L) (R) := by
  refine z_met (by decide) [some (.ref 0), some (.int x), none] rfl rfl (Nat.le_of_ble_eq_true rfl) (fun X => ?_)
  refine z_iload_n d_X7_keep_0 rfl ?_
  refine z_if_lt d_X7_keep_1 (fun h_1 => ?_) (fun h_1 => ?_)
  · refine z_iconst d_X7_keep_9 ki_m1 ?_
    exact z_ireturn d_X7_keep_10 rfl ⟨rfl, rfl, rfl, rfl, rfl⟩
  · refine z_iload_n d_X7_keep_4 rfl ?_
    refine z_iconst d_X7_keep_5 ki_2 ?_
    refine z_icmp_lt d_X7_keep_6 (fun h_6 => absurd hx (fun q => q.elim h_1 (fun q => q h_6))) (fun h_6 => ?_)
    refine z_iconst d_X7_keep_9 ki_m1 ?_
    exact z_ireturn d_X7_keep_10 rfl ⟨rfl, rfl, rfl, rfl, rfl⟩
set_option maxRecDepth 100000 in
set_option maxHeartbeats 4000000 in
theorem ct_X7_back {E : zE} {I : zI} {L : zL} {R : zR} {i : Nat} (hR : zLx R) (hi : i < 2) : zCf E m_X7_back zShF [.ref 0, .int (nI i)] I L R (some (.int (if I 22 i = 0 then -2 else sumV (zcp (I (46 + 5 * i + 2)) (I 18) 48) 48))) (if I 22 i = 0 then I else qI I 16 (cpQ (qOf I L (46 + 5 * i)) (qOf I L 16))) (if I 22 i = 0 then L else qL L 16 (cpQ (qOf I L (46 + 5 * i)) (qOf I L 16))) (R) := by
  have h16 := lC_16 hR
  have hci : zCh zShF R (46 + 5 * i) := by rcases (show i = 0 ∨ i = 1 by omega) with rfl | rfl; exact lC_46 hR; exact lC_51 hR
  have hri : R 21 i = some (46 + 5 * i) := by rcases (show i = 0 ∨ i = 1 by omega) with rfl | rfl <;> exact hR _ _ _ rfl
  have hsi : zShF[46 + 5 * i]? = some (0, 0) := hci.1
  refine z_met (by decide) [some (.ref 0), some (.int (nI i))] rfl rfl (Nat.le_of_ble_eq_true rfl) (fun X => ?_)
  refine z_iload_n d_X7_back_0 rfl ?_
  refine z_if_lt d_X7_back_1 (fun h_1 => absurd h_1 (nI_pos (by omega))) (fun h_1 => ?_)
  refine z_iload_n d_X7_back_4 rfl ?_
  refine z_iconst d_X7_back_5 ki_2 ?_
  refine z_icmp_lt d_X7_back_6 (fun h_6 => ?_) (fun h_6 => absurd (nI_lt (b := 2) hi (by decide)) h_6)
  refine z_aload_n d_X7_back_11 rfl ?_
  refine z_getR d_X7_back_12 f_X7_43 (by first | rfl | assumption) (by omega) (by first | exact hR _ _ _ rfl | rfl | assumption) ?_
  refine z_iload_n d_X7_back_15 rfl ?_
  refine z_zaload d_X7_back_16 (by first | rfl | assumption) (by omega) (by first | exact zix_nI (by assumption) (by first | decide | assumption) | exact zix_nI (by omega) (by first | decide | assumption) | assumption) ?_
  refine z_if_ne d_X7_back_17 (fun h_17 => ?_) (fun h_17 => ?_)
  · refine z_aload_n d_X7_back_23 rfl ?_
    refine z_getR d_X7_back_24 f_X7_35 (by first | rfl | assumption) (by omega) (by first | exact hR _ _ _ rfl | rfl | assumption) ?_
    refine z_aload_n d_X7_back_27 rfl ?_
    refine z_getR d_X7_back_28 f_X7_39 (by first | rfl | assumption) (by omega) (by first | exact hR _ _ _ rfl | rfl | assumption) ?_
    refine z_iload_n d_X7_back_31 rfl ?_
    refine z_aaload5 d_X7_back_32 (by first | rfl | assumption) (by omega) (by first | exact zix_nI (by assumption) (by first | decide | assumption) | exact zix_nI (by omega) (by first | decide | assumption) | assumption) (by first | exact hR _ _ _ rfl | rfl | assumption) ?_
    refine z_cVv d_X7_back_33 q_X7_back_255 (by first | rfl | assumption) (by omega) ⟨rfl, rfl⟩ (ct_X0_takeFrom h16 hci (by omega)) rfl rfl rfl ⟨Nat.zero_le _, Nat.zero_le _⟩ ?_
    refine z_aload_n d_X7_back_36 rfl ?_
    refine z_getR d_X7_back_37 f_X7_35 (by first | rfl | assumption) (by omega) (by first | exact hR _ _ _ rfl | rfl | assumption) ?_
    refine z_getR d_X7_back_40 f_X7_97 (by first | rfl | assumption) (by omega) (by first | exact hR _ _ _ rfl | rfl | assumption) ?_
    refine z_cSi d_X7_back_43 q_X7_back_123 ⟨rfl, rfl⟩ (ct_X7_sumOf (by first | rfl | assumption) (by omega) (by decide)) rfl rfl rfl ⟨Nat.zero_le _, Nat.zero_le _⟩ ?_
    exact z_ireturn d_X7_back_46 rfl ⟨by rw [if_neg h_17]; rfl, rfl, by rw [if_neg h_17]; rfl, by rw [if_neg h_17]; rfl, rfl⟩
  · refine z_bipush d_X7_back_20 kb_m2 ?_
    exact z_ireturn d_X7_back_22 rfl ⟨by rw [if_pos h_17], rfl, by rw [if_pos h_17], by rw [if_pos h_17], rfl⟩
set_option maxRecDepth 100000 in
set_option maxHeartbeats 4000000 in
theorem ct_X7_back_bad {E : zE} {I : zI} {L : zL} {R : zR} {x : Int32} (hR : zLx R) (hx : x < 0 ∨ ¬ x < 2) : zCf E m_X7_back zShF [.ref 0, .int x] I L R (some (.int (-1))) (I) (L) (R) := by
  refine z_met (by decide) [some (.ref 0), some (.int x)] rfl rfl (Nat.le_of_ble_eq_true rfl) (fun X => ?_)
  refine z_iload_n d_X7_back_0 rfl ?_
  refine z_if_lt d_X7_back_1 (fun h_1 => ?_) (fun h_1 => ?_)
  · refine z_iconst d_X7_back_9 ki_m1 ?_
    exact z_ireturn d_X7_back_10 rfl ⟨rfl, rfl, rfl, rfl, rfl⟩
  · refine z_iload_n d_X7_back_4 rfl ?_
    refine z_iconst d_X7_back_5 ki_2 ?_
    refine z_icmp_lt d_X7_back_6 (fun h_6 => absurd hx (fun q => q.elim h_1 (fun q => q h_6))) (fun h_6 => ?_)
    refine z_iconst d_X7_back_9 ki_m1 ?_
    exact z_ireturn d_X7_back_10 rfl ⟨rfl, rfl, rfl, rfl, rfl⟩
set_option maxRecDepth 100000 in
set_option maxHeartbeats 4000000 in
theorem ct_X7_torn {E : zE} {I : zI} {L : zL} {R : zR} (hR : zLx R) : zCf E m_X7_torn zShF [.ref 0] I L R (some (.int (I 0 10))) (I) (L) (R) := by
  refine z_met (by decide) [some (.ref 0)] rfl rfl (Nat.le_of_ble_eq_true rfl) (fun X => ?_)
  refine z_aload_n d_X7_torn_0 rfl ?_
  refine z_getI d_X7_torn_1 f_X7_284 (by first | rfl | assumption) (by omega) ?_
  exact z_ireturn d_X7_torn_4 rfl ⟨rfl, rfl, rfl, rfl, rfl⟩
set_option maxRecDepth 100000 in
set_option maxHeartbeats 4000000 in
theorem ct_X7_count {E : zE} {I : zI} {L : zL} {R : zR} {x : Int32} (hR : zLx R) : zCf E m_X7_count zShF [.ref 0, .int x] I L R (some (.int (if x = 0 then cntV (fun j => decide (0 < I 5 j)) 48 else if x = 1 then cntV (fun j => decide (0 < I 6 j)) 48 else if x = 2 then I 3 4 else if x = 3 then (if I 22 0 = 0 then 0 else 1) + (if I 22 1 = 0 then 0 else 1) else if x = 4 then I 1 1 else if x = 5 then (if 0 ≤ I 56 2 then I 56 2 else -4) else if x = 6 then cntV (fun j => decide (0 < I 17 j)) 48 else -1))) (I) (L) (R) := by
  refine z_met (by decide) [some (.ref 0), some (.int x)] rfl rfl (Nat.le_of_ble_eq_true rfl) (fun X => ?_)
  refine z_iload_n d_X7_count_0 rfl ?_
  refine z_by (0) (fun e_1_0 => ?_) (fun e_1_0 => ?_)
  · refine z_tabIn (off := 43) (tgt := 44) d_X7_count_1 (by rw [e_1_0]; decide) (by rw [e_1_0]; decide) (by rw [e_1_0]; rfl) (by decide) ?_
    refine z_aload_n d_X7_count_44 rfl ?_
    refine z_getR d_X7_count_45 f_X7_19 (by first | rfl | assumption) (by omega) (by first | exact hR _ _ _ rfl | rfl | assumption) ?_
    refine z_getR d_X7_count_48 f_X7_103 (by first | rfl | assumption) (by omega) (by first | exact hR _ _ _ rfl | rfl | assumption) ?_
    refine z_cSi d_X7_count_51 q_X7_count_287 ⟨rfl, rfl⟩ (ct_X7_howManyAbove0 (by first | rfl | assumption) (by omega) (by decide)) rfl rfl rfl ⟨Nat.zero_le _, Nat.zero_le _⟩ ?_
    exact z_ireturn d_X7_count_54 rfl ⟨by simp [*], rfl, rfl, rfl, rfl⟩
  refine z_by (1) (fun e_1_1 => ?_) (fun e_1_1 => ?_)
  · refine z_tabIn (off := 54) (tgt := 55) d_X7_count_1 (by rw [e_1_1]; decide) (by rw [e_1_1]; decide) (by rw [e_1_1]; rfl) (by decide) ?_
    refine z_aload_n d_X7_count_55 rfl ?_
    refine z_getR d_X7_count_56 f_X7_19 (by first | rfl | assumption) (by omega) (by first | exact hR _ _ _ rfl | rfl | assumption) ?_
    refine z_getR d_X7_count_59 f_X7_106 (by first | rfl | assumption) (by omega) (by first | exact hR _ _ _ rfl | rfl | assumption) ?_
    refine z_cSi d_X7_count_62 q_X7_count_287 ⟨rfl, rfl⟩ (ct_X7_howManyAbove0 (by first | rfl | assumption) (by omega) (by decide)) rfl rfl rfl ⟨Nat.zero_le _, Nat.zero_le _⟩ ?_
    exact z_ireturn d_X7_count_65 rfl ⟨by simp [*], rfl, rfl, rfl, rfl⟩
  refine z_by (2) (fun e_1_2 => ?_) (fun e_1_2 => ?_)
  · refine z_tabIn (off := 65) (tgt := 66) d_X7_count_1 (by rw [e_1_2]; decide) (by rw [e_1_2]; decide) (by rw [e_1_2]; rfl) (by decide) ?_
    refine z_aload_n d_X7_count_66 rfl ?_
    refine z_getR d_X7_count_67 f_X7_19 (by first | rfl | assumption) (by omega) (by first | exact hR _ _ _ rfl | rfl | assumption) ?_
    refine z_getI d_X7_count_70 f_X7_216 (by first | rfl | assumption) (by omega) ?_
    exact z_ireturn d_X7_count_73 rfl ⟨by simp [*], rfl, rfl, rfl, rfl⟩
  refine z_by (3) (fun e_1_3 => ?_) (fun e_1_3 => ?_)
  · refine z_tabIn (off := 73) (tgt := 74) d_X7_count_1 (by rw [e_1_3]; decide) (by rw [e_1_3]; decide) (by rw [e_1_3]; rfl) (by decide) ?_
    refine z_aload_n d_X7_count_74 rfl ?_
    refine z_getR d_X7_count_75 f_X7_43 (by first | rfl | assumption) (by omega) (by first | exact hR _ _ _ rfl | rfl | assumption) ?_
    refine z_iconst d_X7_count_78 ki_0 ?_
    refine z_zaload d_X7_count_79 (by first | rfl | assumption) (by omega) (zix_lit 0 (by decide)) ?_
    refine z_if_eq d_X7_count_80 (fun h_80 => ?_) (fun h_80 => ?_)
    · refine z_iconst d_X7_count_87 ki_0 ?_
      refine z_aload_n d_X7_count_88 rfl ?_
      refine z_getR d_X7_count_89 f_X7_43 (by first | rfl | assumption) (by omega) (by first | exact hR _ _ _ rfl | rfl | assumption) ?_
      refine z_iconst d_X7_count_92 ki_1 ?_
      refine z_zaload d_X7_count_93 (by first | rfl | assumption) (by omega) (zix_lit 1 (by decide)) ?_
      refine z_if_eq d_X7_count_94 (fun h_94 => ?_) (fun h_94 => ?_)
      · refine z_iconst d_X7_count_101 ki_0 ?_
        refine z_iadd d_X7_count_102 ?_
        exact z_ireturn d_X7_count_103 rfl ⟨by simp [*], rfl, rfl, rfl, rfl⟩
      · refine z_iconst d_X7_count_97 ki_1 ?_
        refine z_goto d_X7_count_98 ?_
        refine z_iadd d_X7_count_102 ?_
        exact z_ireturn d_X7_count_103 rfl ⟨by simp [*], rfl, rfl, rfl, rfl⟩
    · refine z_iconst d_X7_count_83 ki_1 ?_
      refine z_goto d_X7_count_84 ?_
      refine z_aload_n d_X7_count_88 rfl ?_
      refine z_getR d_X7_count_89 f_X7_43 (by first | rfl | assumption) (by omega) (by first | exact hR _ _ _ rfl | rfl | assumption) ?_
      refine z_iconst d_X7_count_92 ki_1 ?_
      refine z_zaload d_X7_count_93 (by first | rfl | assumption) (by omega) (zix_lit 1 (by decide)) ?_
      refine z_if_eq d_X7_count_94 (fun h_94 => ?_) (fun h_94 => ?_)
      · refine z_iconst d_X7_count_101 ki_0 ?_
        refine z_iadd d_X7_count_102 ?_
        exact z_ireturn d_X7_count_103 rfl ⟨by simp [*], rfl, rfl, rfl, rfl⟩
      · refine z_iconst d_X7_count_97 ki_1 ?_
        refine z_goto d_X7_count_98 ?_
        refine z_iadd d_X7_count_102 ?_
        exact z_ireturn d_X7_count_103 rfl ⟨by simp [*], rfl, rfl, rfl, rfl⟩
  refine z_by (4) (fun e_1_4 => ?_) (fun e_1_4 => ?_)
  · refine z_tabIn (off := 103) (tgt := 104) d_X7_count_1 (by rw [e_1_4]; decide) (by rw [e_1_4]; decide) (by rw [e_1_4]; rfl) (by decide) ?_
    refine z_aload_n d_X7_count_104 rfl ?_
    refine z_getR d_X7_count_105 f_X7_12 (by first | rfl | assumption) (by omega) (by first | exact hR _ _ _ rfl | rfl | assumption) ?_
    refine z_getI d_X7_count_108 f_X7_75 (by first | rfl | assumption) (by omega) ?_
    exact z_ireturn d_X7_count_111 rfl ⟨by simp [*], rfl, rfl, rfl, rfl⟩
  refine z_by (5) (fun e_1_5 => ?_) (fun e_1_5 => ?_)
  · refine z_tabIn (off := 111) (tgt := 112) d_X7_count_1 (by rw [e_1_5]; decide) (by rw [e_1_5]; decide) (by rw [e_1_5]; rfl) (by decide) ?_
    refine z_aload_n d_X7_count_112 rfl ?_
    refine z_getR d_X7_count_113 f_X7_66 (by first | rfl | assumption) (by omega) (by first | exact hR _ _ _ rfl | rfl | assumption) ?_
    refine z_iconst d_X7_count_116 ki_0 ?_
    refine z_aaload6 d_X7_count_117 (by first | rfl | assumption) (by omega) (zix_lit 0 (by decide)) (by first | exact hR _ _ _ rfl | rfl | assumption) ?_
    refine z_getI d_X7_count_118 f_X7_290 (by first | rfl | assumption) (by omega) ?_
    refine z_if_ge d_X7_count_121 (fun h_121 => ?_) (fun h_121 => ?_)
    · refine z_aload_n d_X7_count_129 rfl ?_
      refine z_getR d_X7_count_130 f_X7_66 (by first | rfl | assumption) (by omega) (by first | exact hR _ _ _ rfl | rfl | assumption) ?_
      refine z_iconst d_X7_count_133 ki_0 ?_
      refine z_aaload6 d_X7_count_134 (by first | rfl | assumption) (by omega) (zix_lit 0 (by decide)) (by first | exact hR _ _ _ rfl | rfl | assumption) ?_
      refine z_getI d_X7_count_135 f_X7_290 (by first | rfl | assumption) (by omega) ?_
      exact z_ireturn d_X7_count_138 rfl ⟨by simp [*], rfl, rfl, rfl, rfl⟩
    · refine z_bipush d_X7_count_124 kb_m4 ?_
      refine z_goto d_X7_count_126 ?_
      exact z_ireturn d_X7_count_138 rfl ⟨by simp [*], rfl, rfl, rfl, rfl⟩
  refine z_by (6) (fun e_1_6 => ?_) (fun e_1_6 => ?_)
  · refine z_tabIn (off := 138) (tgt := 139) d_X7_count_1 (by rw [e_1_6]; decide) (by rw [e_1_6]; decide) (by rw [e_1_6]; rfl) (by decide) ?_
    refine z_aload_n d_X7_count_139 rfl ?_
    refine z_getR d_X7_count_140 f_X7_35 (by first | rfl | assumption) (by omega) (by first | exact hR _ _ _ rfl | rfl | assumption) ?_
    refine z_getR d_X7_count_143 f_X7_100 (by first | rfl | assumption) (by omega) (by first | exact hR _ _ _ rfl | rfl | assumption) ?_
    refine z_cSi d_X7_count_146 q_X7_count_287 ⟨rfl, rfl⟩ (ct_X7_howManyAbove0 (by first | rfl | assumption) (by omega) (by decide)) rfl rfl rfl ⟨Nat.zero_le _, Nat.zero_le _⟩ ?_
    exact z_ireturn d_X7_count_149 rfl ⟨by simp [*], rfl, rfl, rfl, rfl⟩
  refine z_tabOut (tgt := 150) d_X7_count_1 (by have n_0 := sw_ne e_1_0; have n_1 := sw_ne e_1_1; have n_2 := sw_ne e_1_2; have n_3 := sw_ne e_1_3; have n_4 := sw_ne e_1_4; have n_5 := sw_ne e_1_5; have n_6 := sw_ne e_1_6; replace n_0 : _ ≠ (0 : Int) := n_0; replace n_1 : _ ≠ (1 : Int) := n_1; replace n_2 : _ ≠ (2 : Int) := n_2; replace n_3 : _ ≠ (3 : Int) := n_3; replace n_4 : _ ≠ (4 : Int) := n_4; replace n_5 : _ ≠ (5 : Int) := n_5; replace n_6 : _ ≠ (6 : Int) := n_6; omega) (by decide) ?_
  refine z_iconst d_X7_count_150 ki_m1 ?_
  exact z_ireturn d_X7_count_151 rfl ⟨by simp [*], rfl, rfl, rfl, rfl⟩
set_option maxRecDepth 100000 in
set_option maxHeartbeats 4000000 in
theorem ct_X7_tellAll {E : zE} {I : zI} {L : zL} {R : zR} (hR : zLx R) : zCf E m_X7_tellAll zShF [.ref 0] I L R (none) (zi (zi (va_up (qI (zi (va_up (va_up (va_up (va_up I 4 (zcp (I 10) (I 4) 7)) 5 (zcp (I 11) (I 5) 48)) 6 (zcp (I 12) (I 6) 48)) 7 (zcp (I 13) (I 7) 12)) 3 4 (I 9 4)) 16 (drQ (qOf I L 16))) 17 (zcp (I 14) (I 17) 48)) 22 0 0) 22 1 0) (qL L 16 (drQ (qOf I L 16))) (R) := by
  have h16 := lC_16 hR; have h3 := lP_3 hR; have h9 := lP_9 hR
  refine z_met (by decide) [some (.ref 0)] rfl rfl (Nat.le_of_ble_eq_true rfl) (fun X => ?_)
  refine z_aload_n d_X7_tellAll_0 rfl ?_
  refine z_getR d_X7_tellAll_1 f_X7_19 (by first | rfl | assumption) (by omega) (by first | exact hR _ _ _ rfl | rfl | assumption) ?_
  refine z_aload_n d_X7_tellAll_4 rfl ?_
  refine z_getR d_X7_tellAll_5 f_X7_28 (by first | rfl | assumption) (by omega) (by first | exact hR _ _ _ rfl | rfl | assumption) ?_
  refine z_getR d_X7_tellAll_8 f_X7_291 (by first | rfl | assumption) (by omega) (by first | exact hR _ _ _ rfl | rfl | assumption) ?_
  refine z_cVv d_X7_tellAll_11 q_X7_tellAll_294 (by first | rfl | assumption) (by omega) ⟨rfl, rfl⟩ (ct_X3_takeFrom (by assumption) (by assumption) (by omega)) rfl rfl rfl ⟨Nat.zero_le _, Nat.zero_le _⟩ ?_
  generalize hJ : zi (va_up (va_up (va_up (va_up I (3 + 1) (zcp (I (9 + 1)) (I (3 + 1)) 7)) (3 + 2) (zcp (I (9 + 2)) (I (3 + 2)) 48)) (3 + 3) (zcp (I (9 + 3)) (I (3 + 3)) 48)) (3 + 4) (zcp (I (9 + 4)) (I (3 + 4)) 12)) 3 4 (I 9 4) = J
  have e16 : qOf J L 16 = qOf I L 16 := by rw [← hJ]; rfl
  have e14 : J 14 = I 14 := by rw [← hJ]; rfl
  refine z_aload_n d_X7_tellAll_14 rfl ?_
  refine z_getR d_X7_tellAll_15 f_X7_35 (by first | rfl | assumption) (by omega) (by first | exact hR _ _ _ rfl | rfl | assumption) ?_
  refine z_cVv d_X7_tellAll_18 q_X7_tellAll_159 (by first | rfl | assumption) (by omega) ⟨rfl, rfl⟩ (ct_X0_drainAll (by assumption)) rfl rfl rfl ⟨Nat.zero_le _, Nat.zero_le _⟩ ?_
  refine z_mem (dr_I J L 16) (dr_L J L 16) rfl ?_
  rw [e16]
  refine z_aload_n d_X7_tellAll_21 rfl ?_
  refine z_getR d_X7_tellAll_22 f_X7_28 (by first | rfl | assumption) (by omega) (by first | exact hR _ _ _ rfl | rfl | assumption) ?_
  refine z_getR d_X7_tellAll_25 f_X7_296 (by first | rfl | assumption) (by omega) (by first | exact hR _ _ _ rfl | rfl | assumption) ?_
  refine z_iconst d_X7_tellAll_28 ki_0 ?_
  refine z_aload_n d_X7_tellAll_29 rfl ?_
  refine z_getR d_X7_tellAll_30 f_X7_35 (by first | rfl | assumption) (by omega) (by first | exact hR _ _ _ rfl | rfl | assumption) ?_
  refine z_getR d_X7_tellAll_33 f_X7_100 (by first | rfl | assumption) (by omega) (by first | exact hR _ _ _ rfl | rfl | assumption) ?_
  refine z_iconst d_X7_tellAll_36 ki_0 ?_
  refine z_bipush d_X7_tellAll_37 kb_48 ?_
  refine z_copy (N := 48) d_X7_tellAll_39 q_X7_tellAll_299 (by first | rfl | assumption) (by omega) (by first | rfl | assumption) (by omega) (by decide) (by decide) (by decide) (by decide) (by decide) (Nat.le_of_ble_eq_true rfl) ?_
  rw [show qI J 16 (drQ (qOf I L 16)) 14 = I 14 from by rw [qI_ne (by decide)]; exact e14, show qI J 16 (drQ (qOf I L 16)) 17 = I 17 from qI_1 J 16 _]
  refine z_aload_n d_X7_tellAll_42 rfl ?_
  refine z_getR d_X7_tellAll_43 f_X7_43 (by first | rfl | assumption) (by omega) (by first | exact hR _ _ _ rfl | rfl | assumption) ?_
  refine z_iconst d_X7_tellAll_46 ki_0 ?_
  refine z_iconst d_X7_tellAll_47 ki_0 ?_
  refine z_zastore d_X7_tellAll_48 (by first | rfl | assumption) (by omega) (zix_lit 0 (by decide)) ?_
  refine z_aload_n d_X7_tellAll_49 rfl ?_
  refine z_getR d_X7_tellAll_50 f_X7_43 (by first | rfl | assumption) (by omega) (by first | exact hR _ _ _ rfl | rfl | assumption) ?_
  refine z_iconst d_X7_tellAll_53 ki_1 ?_
  refine z_iconst d_X7_tellAll_54 ki_0 ?_
  refine z_zastore d_X7_tellAll_55 (by first | rfl | assumption) (by omega) (zix_lit 1 (by decide)) ?_
  exact z_return d_X7_tellAll_56 rfl ⟨rfl, rfl, by rw [nar0], rfl, rfl⟩
