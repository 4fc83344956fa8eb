def tlQ (cap : Int32) (c : Nat) (v : Int32) (q : zQ) : zQ :=
  (qLi q, qWe q, qHe q, va_up (qLn q) c (if 0 < qLn q c + v - 2 * cap then 2 * cap else qLn q c + v), qLo q + (if 0 < qLn q c + v - 2 * cap then qLn q c + v - 2 * cap else 0 : Int32).toInt64, qRd q, qCm q)
def tpQ (tr : Nat → Int32) (w : Nat) (q : zQ) : zQ :=
  if 0 < qWe q w then (qLi q, va_up (qWe q) w (qWe q w - lsV (tr w - qHe q w) (qWe q w)), va_up (qHe q) w (qHe q w + lsV (tr w - qHe q w) (qWe q w)), q.2.2.2)
  else (qLi q, va_up (qWe q) w (qHe q w), va_up (qHe q) w 0, q.2.2.2)
theorem sL_w (L : zL) (k : Nat) (q : zQ) (a b c d : Nat → Int32) : sL L k (a, b, c, d, q.2.2.2.2) = sL L k q := rfl
set_option maxRecDepth 100000 in
set_option maxHeartbeats 4000000 in
theorem ct_X8_toLine {E : zE} {I : zI} {L : zL} {R : zR} {k c : Nat} {v : Int32} {q : zQ} (hR : zLx R) (hk : k < 4) (hq : sR I L k q) (hc : c < 8) : zCf E m_X8_toLine zShF [.ref 64, .int (nI (160 * k)), .int (nI c), .int v] I L R (none) (sI I k (tlQ (I 68 0) c v q)) (sL L k (tlQ (I 68 0) c v q)) (R) := by
  refine z_met (by decide) [some (.ref 64), some (.int (nI (160 * k))), some (.int (nI c)), some (.int v), none, none] rfl rfl (Nat.le_of_ble_eq_true rfl) (fun X => ?_)
  refine z_mem (I' := sI I k q) (L' := sL L k q) (sI_self hq).symm (sL_self hq).symm rfl ?_
  refine z_aload_n d_X8_toLine_0 rfl ?_
  refine z_getR d_X8_toLine_1 f_X8_7 (by first | rfl | assumption) (by omega) (by first | exact hR _ _ _ rfl | rfl | assumption) ?_
  refine z_iload_n d_X8_toLine_4 rfl ?_
  refine z_bipush d_X8_toLine_5 kb_48 ?_
  refine z_iadd d_X8_toLine_7 ?_
  refine z_iload_n d_X8_toLine_8 rfl ?_
  refine z_iadd d_X8_toLine_9 ?_
  refine z_iaload d_X8_toLine_10 (by first | rfl | assumption) (by omega) (zix_e (ix3 _ 48 _) (by omega) (by decide)) ?_
  rw [sI_n hc]
  refine z_iload_n d_X8_toLine_11 rfl ?_
  refine z_iadd d_X8_toLine_12 ?_
  refine z_istore4 d_X8_toLine_13 rfl ?_
  refine z_iload d_X8_toLine_15 rfl ?_
  refine z_iconst d_X8_toLine_17 ki_2 ?_
  refine z_aload_n d_X8_toLine_18 rfl ?_
  refine z_getR d_X8_toLine_19 f_X8_21 (by first | rfl | assumption) (by omega) (by first | exact hR _ _ _ rfl | rfl | assumption) ?_
  refine z_iconst d_X8_toLine_22 ki_0 ?_
  refine z_iaload d_X8_toLine_23 (by first | rfl | assumption) (by omega) (zix_lit 0 (by decide)) ?_
  rw [sI_ne (p := 68) (by decide)]
  refine z_imul d_X8_toLine_24 ?_
  refine z_isub d_X8_toLine_25 ?_
  refine z_istore5 d_X8_toLine_26 rfl ?_
  refine z_aload_n d_X8_toLine_28 rfl ?_
  refine z_getR d_X8_toLine_29 f_X8_7 (by first | rfl | assumption) (by omega) (by first | exact hR _ _ _ rfl | rfl | assumption) ?_
  refine z_iload_n d_X8_toLine_32 rfl ?_
  refine z_bipush d_X8_toLine_33 kb_48 ?_
  refine z_iadd d_X8_toLine_35 ?_
  refine z_iload_n d_X8_toLine_36 rfl ?_
  refine z_iadd d_X8_toLine_37 ?_
  refine z_iload d_X8_toLine_38 rfl ?_
  refine z_if_le d_X8_toLine_40 (fun h_40 => ?_) (fun h_40 => ?_)
  · refine z_iload d_X8_toLine_54 rfl ?_
    refine z_iastore d_X8_toLine_56 (by first | rfl | assumption) (by omega) (zix_e (ix3 _ 48 _) (by omega) (by decide)) ?_
    rw [sI_un hc]
    refine z_aload_n d_X8_toLine_57 rfl ?_
    refine z_iload_n d_X8_toLine_58 rfl ?_
    refine z_iconst d_X8_toLine_59 ki_0 ?_
    refine z_iload d_X8_toLine_60 rfl ?_
    refine z_if_le d_X8_toLine_62 (fun h_62 => ?_) (fun h_62 => ?_)
    · refine z_iconst d_X8_toLine_70 ki_0 ?_
      refine z_cVv d_X8_toLine_71 q_X8_toLine_198 (by first | rfl | assumption) (by omega) ⟨rfl, rfl⟩ (ct_X8_adds (w := 0) hR hk (by decide)) rfl rfl rfl ⟨Nat.zero_le _, Nat.zero_le _⟩ ?_
      exact z_return d_X8_toLine_74 rfl ⟨rfl, rfl, by unfold tlQ; first | (exact absurd h_40 h_62) | (exact absurd h_62 h_40) | (rw [if_pos (Int32.not_le.mp h_40), if_pos (Int32.not_le.mp h_40)]; rfl) | (rw [if_neg (Int32.not_lt.mpr h_40), if_neg (Int32.not_lt.mpr h_40)]; rfl), by rw [show 3 * k + 0 = 3 * k from rfl, sL_u0, sL_0]; unfold tlQ; first | (exact absurd h_40 h_62) | (exact absurd h_62 h_40) | (rw [if_pos (Int32.not_le.mp h_40), if_pos (Int32.not_le.mp h_40)]; rfl) | (rw [if_neg (Int32.not_lt.mpr h_40), if_neg (Int32.not_lt.mpr h_40)]; rfl), rfl⟩
    · refine z_iload d_X8_toLine_65 rfl ?_
      refine z_goto d_X8_toLine_67 ?_
      refine z_cVv d_X8_toLine_71 q_X8_toLine_198 (by first | rfl | assumption) (by omega) ⟨rfl, rfl⟩ (ct_X8_adds (w := 0) hR hk (by decide)) rfl rfl rfl ⟨Nat.zero_le _, Nat.zero_le _⟩ ?_
      exact z_return d_X8_toLine_74 rfl ⟨rfl, rfl, by unfold tlQ; first | (exact absurd h_40 h_62) | (exact absurd h_62 h_40) | (rw [if_pos (Int32.not_le.mp h_40), if_pos (Int32.not_le.mp h_40)]; rfl) | (rw [if_neg (Int32.not_lt.mpr h_40), if_neg (Int32.not_lt.mpr h_40)]; rfl), by rw [show 3 * k + 0 = 3 * k from rfl, sL_u0, sL_0]; unfold tlQ; first | (exact absurd h_40 h_62) | (exact absurd h_62 h_40) | (rw [if_pos (Int32.not_le.mp h_40), if_pos (Int32.not_le.mp h_40)]; rfl) | (rw [if_neg (Int32.not_lt.mpr h_40), if_neg (Int32.not_lt.mpr h_40)]; rfl), rfl⟩
  · refine z_iconst d_X8_toLine_43 ki_2 ?_
    refine z_aload_n d_X8_toLine_44 rfl ?_
    refine z_getR d_X8_toLine_45 f_X8_21 (by first | rfl | assumption) (by omega) (by first | exact hR _ _ _ rfl | rfl | assumption) ?_
    refine z_iconst d_X8_toLine_48 ki_0 ?_
    refine z_iaload d_X8_toLine_49 (by first | rfl | assumption) (by omega) (zix_lit 0 (by decide)) ?_
    rw [sI_ne (p := 68) (by decide)]
    refine z_imul d_X8_toLine_50 ?_
    refine z_goto d_X8_toLine_51 ?_
    refine z_iastore d_X8_toLine_56 (by first | rfl | assumption) (by omega) (zix_e (ix3 _ 48 _) (by omega) (by decide)) ?_
    rw [sI_un hc]
    refine z_aload_n d_X8_toLine_57 rfl ?_
    refine z_iload_n d_X8_toLine_58 rfl ?_
    refine z_iconst d_X8_toLine_59 ki_0 ?_
    refine z_iload d_X8_toLine_60 rfl ?_
    refine z_if_le d_X8_toLine_62 (fun h_62 => ?_) (fun h_62 => ?_)
    · refine z_iconst d_X8_toLine_70 ki_0 ?_
      refine z_cVv d_X8_toLine_71 q_X8_toLine_198 (by first | rfl | assumption) (by omega) ⟨rfl, rfl⟩ (ct_X8_adds (w := 0) hR hk (by decide)) rfl rfl rfl ⟨Nat.zero_le _, Nat.zero_le _⟩ ?_
      exact z_return d_X8_toLine_74 rfl ⟨rfl, rfl, by unfold tlQ; first | (exact absurd h_40 h_62) | (exact absurd h_62 h_40) | (rw [if_pos (Int32.not_le.mp h_40), if_pos (Int32.not_le.mp h_40)]; rfl) | (rw [if_neg (Int32.not_lt.mpr h_40), if_neg (Int32.not_lt.mpr h_40)]; rfl), by rw [show 3 * k + 0 = 3 * k from rfl, sL_u0, sL_0]; unfold tlQ; first | (exact absurd h_40 h_62) | (exact absurd h_62 h_40) | (rw [if_pos (Int32.not_le.mp h_40), if_pos (Int32.not_le.mp h_40)]; rfl) | (rw [if_neg (Int32.not_lt.mpr h_40), if_neg (Int32.not_lt.mpr h_40)]; rfl), rfl⟩
    · refine z_iload d_X8_toLine_65 rfl ?_
      refine z_goto d_X8_toLine_67 ?_
      refine z_cVv d_X8_toLine_71 q_X8_toLine_198 (by first | rfl | assumption) (by omega) ⟨rfl, rfl⟩ (ct_X8_adds (w := 0) hR hk (by decide)) rfl rfl rfl ⟨Nat.zero_le _, Nat.zero_le _⟩ ?_
      exact z_return d_X8_toLine_74 rfl ⟨rfl, rfl, by unfold tlQ; first | (exact absurd h_40 h_62) | (exact absurd h_62 h_40) | (rw [if_pos (Int32.not_le.mp h_40), if_pos (Int32.not_le.mp h_40)]; rfl) | (rw [if_neg (Int32.not_lt.mpr h_40), if_neg (Int32.not_lt.mpr h_40)]; rfl), by rw [show 3 * k + 0 = 3 * k from rfl, sL_u0, sL_0]; unfold tlQ; first | (exact absurd h_40 h_62) | (exact absurd h_62 h_40) | (rw [if_pos (Int32.not_le.mp h_40), if_pos (Int32.not_le.mp h_40)]; rfl) | (rw [if_neg (Int32.not_lt.mpr h_40), if_neg (Int32.not_lt.mpr h_40)]; rfl), rfl⟩
set_option maxRecDepth 100000 in
set_option maxHeartbeats 4000000 in
theorem ct_X8_traps {E : zE} {I : zI} {L : zL} {R : zR} {k w : Nat} {q : zQ} (hR : zLx R) (hk : k < 4) (hq : sR I L k q) (hw : w < 48) : zCf E m_X8_traps zShF [.ref 64, .int (nI (160 * k)), .int (nI w)] I L R (none) (sI I k (tpQ (I 70) w q)) (sL L k (tpQ (I 70) w q)) (R) := by
  refine z_met (by decide) [some (.ref 64), some (.int (nI (160 * k))), some (.int (nI w)), none] rfl rfl (Nat.le_of_ble_eq_true rfl) (fun X => ?_)
  refine z_mem (I' := sI I k q) (L' := sL L k q) (sI_self hq).symm (sL_self hq).symm rfl ?_
  refine z_aload_n d_X8_traps_0 rfl ?_
  refine z_getR d_X8_traps_1 f_X8_7 (by first | rfl | assumption) (by omega) (by first | exact hR _ _ _ rfl | rfl | assumption) ?_
  refine z_iload_n d_X8_traps_4 rfl ?_
  refine z_iload_n d_X8_traps_5 rfl ?_
  refine z_iadd d_X8_traps_6 ?_
  refine z_iaload d_X8_traps_7 (by first | rfl | assumption) (by omega) (zix_e (ix2 _ _) (by omega) (by decide)) ?_
  rw [sI_w hw]
  refine z_if_le d_X8_traps_8 (fun h_8 => ?_) (fun h_8 => ?_)
  · refine z_aload_n d_X8_traps_71 rfl ?_
    refine z_getR d_X8_traps_72 f_X8_7 (by first | rfl | assumption) (by omega) (by first | exact hR _ _ _ rfl | rfl | assumption) ?_
    refine z_iload_n d_X8_traps_75 rfl ?_
    refine z_iload_n d_X8_traps_76 rfl ?_
    refine z_iadd d_X8_traps_77 ?_
    refine z_aload_n d_X8_traps_78 rfl ?_
    refine z_getR d_X8_traps_79 f_X8_7 (by first | rfl | assumption) (by omega) (by first | exact hR _ _ _ rfl | rfl | assumption) ?_
    refine z_iload_n d_X8_traps_82 rfl ?_
    refine z_bipush d_X8_traps_83 kb_56 ?_
    refine z_iadd d_X8_traps_85 ?_
    refine z_iload_n d_X8_traps_86 rfl ?_
    refine z_iadd d_X8_traps_87 ?_
    refine z_iaload d_X8_traps_88 (by first | rfl | assumption) (by omega) (zix_e (ix3 _ 56 _) (by omega) (by decide)) ?_
    rw [sI_h hw]
    refine z_iastore d_X8_traps_89 (by first | rfl | assumption) (by omega) (zix_e (ix2 _ _) (by omega) (by decide)) ?_
    rw [sI_uw hw]
    refine z_aload_n d_X8_traps_90 rfl ?_
    refine z_getR d_X8_traps_91 f_X8_7 (by first | rfl | assumption) (by omega) (by first | exact hR _ _ _ rfl | rfl | assumption) ?_
    refine z_iload_n d_X8_traps_94 rfl ?_
    refine z_bipush d_X8_traps_95 kb_56 ?_
    refine z_iadd d_X8_traps_97 ?_
    refine z_iload_n d_X8_traps_98 rfl ?_
    refine z_iadd d_X8_traps_99 ?_
    refine z_iconst d_X8_traps_100 ki_0 ?_
    refine z_iastore d_X8_traps_101 (by first | rfl | assumption) (by omega) (zix_e (ix3 _ 56 _) (by omega) (by decide)) ?_
    exact z_return d_X8_traps_102 rfl ⟨rfl, rfl, by rw [sI_uh hw]; unfold tpQ; first | rw [if_pos (Int32.not_le.mp h_8)] | rw [if_neg (Int32.not_lt.mpr h_8)], by unfold tpQ; first | (rw [if_pos (Int32.not_le.mp h_8)]; rfl) | (rw [if_neg (Int32.not_lt.mpr h_8)]; rfl), rfl⟩
  · refine z_aload_n d_X8_traps_11 rfl ?_
    refine z_getR d_X8_traps_12 f_X8_27 (by first | rfl | assumption) (by omega) (by first | exact hR _ _ _ rfl | rfl | assumption) ?_
    refine z_iload_n d_X8_traps_15 rfl ?_
    refine z_iaload d_X8_traps_16 (by first | rfl | assumption) (by omega) (by first | exact zix_nI (by assumption) (by first | decide | assumption) | exact zix_nI (by omega) (by first | decide | assumption) | assumption) ?_
    rw [sI_ne (p := 70) (by decide)]
    refine z_aload_n d_X8_traps_17 rfl ?_
    refine z_getR d_X8_traps_18 f_X8_7 (by first | rfl | assumption) (by omega) (by first | exact hR _ _ _ rfl | rfl | assumption) ?_
    refine z_iload_n d_X8_traps_21 rfl ?_
    refine z_bipush d_X8_traps_22 kb_56 ?_
    refine z_iadd d_X8_traps_24 ?_
    refine z_iload_n d_X8_traps_25 rfl ?_
    refine z_iadd d_X8_traps_26 ?_
    refine z_iaload d_X8_traps_27 (by first | rfl | assumption) (by omega) (zix_e (ix3 _ 56 _) (by omega) (by decide)) ?_
    rw [sI_h hw]
    refine z_isub d_X8_traps_28 ?_
    refine z_aload_n d_X8_traps_29 rfl ?_
    refine z_getR d_X8_traps_30 f_X8_7 (by first | rfl | assumption) (by omega) (by first | exact hR _ _ _ rfl | rfl | assumption) ?_
    refine z_iload_n d_X8_traps_33 rfl ?_
    refine z_iload_n d_X8_traps_34 rfl ?_
    refine z_iadd d_X8_traps_35 ?_
    refine z_iaload d_X8_traps_36 (by first | rfl | assumption) (by omega) (zix_e (ix2 _ _) (by omega) (by decide)) ?_
    rw [sI_w hw]
    refine z_cSi d_X8_traps_37 q_X8_traps_191 ⟨rfl, rfl⟩ (ct_X8_less) rfl rfl rfl ⟨Nat.zero_le _, Nat.zero_le _⟩ ?_
    refine z_istore3 d_X8_traps_40 rfl ?_
    refine z_aload_n d_X8_traps_41 rfl ?_
    refine z_getR d_X8_traps_42 f_X8_7 (by first | rfl | assumption) (by omega) (by first | exact hR _ _ _ rfl | rfl | assumption) ?_
    refine z_iload_n d_X8_traps_45 rfl ?_
    refine z_iload_n d_X8_traps_46 rfl ?_
    refine z_iadd d_X8_traps_47 ?_
    refine z_dup2 d_X8_traps_48 rfl rfl ?_
    refine z_iaload d_X8_traps_49 (by first | rfl | assumption) (by omega) (zix_e (ix2 _ _) (by omega) (by decide)) ?_
    rw [sI_w hw]
    refine z_iload_n d_X8_traps_50 rfl ?_
    refine z_isub d_X8_traps_51 ?_
    refine z_iastore d_X8_traps_52 (by first | rfl | assumption) (by omega) (zix_e (ix2 _ _) (by omega) (by decide)) ?_
    rw [sI_uw hw]
    refine z_aload_n d_X8_traps_53 rfl ?_
    refine z_getR d_X8_traps_54 f_X8_7 (by first | rfl | assumption) (by omega) (by first | exact hR _ _ _ rfl | rfl | assumption) ?_
    refine z_iload_n d_X8_traps_57 rfl ?_
    refine z_bipush d_X8_traps_58 kb_56 ?_
    refine z_iadd d_X8_traps_60 ?_
    refine z_iload_n d_X8_traps_61 rfl ?_
    refine z_iadd d_X8_traps_62 ?_
    refine z_dup2 d_X8_traps_63 rfl rfl ?_
    refine z_iaload d_X8_traps_64 (by first | rfl | assumption) (by omega) (zix_e (ix3 _ 56 _) (by omega) (by decide)) ?_
    rw [sI_h hw]
    refine z_iload_n d_X8_traps_65 rfl ?_
    refine z_iadd d_X8_traps_66 ?_
    refine z_iastore d_X8_traps_67 (by first | rfl | assumption) (by omega) (zix_e (ix3 _ 56 _) (by omega) (by decide)) ?_
    refine z_goto d_X8_traps_68 ?_
    exact z_return d_X8_traps_102 rfl ⟨rfl, rfl, by rw [sI_uh hw]; unfold tpQ; first | rw [if_pos (Int32.not_le.mp h_8)] | rw [if_neg (Int32.not_lt.mpr h_8)], by unfold tpQ; first | (rw [if_pos (Int32.not_le.mp h_8)]; rfl) | (rw [if_neg (Int32.not_lt.mpr h_8)]; rfl), rfl⟩
set_option maxRecDepth 100000 in
set_option maxHeartbeats 4000000 in
theorem ct_X8_takes {E : zE} {I : zI} {L : zL} {R : zR} {k : Nat} {q : zQ} (hR : zLx R) (hk : k < 4) (hq : sR I L k q) : zCf E m_X8_takes zShF [.ref 64, .int (nI (160 * k))] I L R (some (.int (qLn q 7))) (sI I k (rdQ q)) (sL L k (rdQ q)) (R) := by
  refine z_met (by decide) [some (.ref 64), some (.int (nI (160 * k))), none, none] rfl rfl (Nat.le_of_ble_eq_true rfl) (fun X => ?_)
  refine z_mem (I' := sI I k q) (L' := sL L k q) (sI_self hq).symm (sL_self hq).symm rfl ?_
  refine z_aload_n d_X8_takes_0 rfl ?_
  refine z_getR d_X8_takes_1 f_X8_7 (by first | rfl | assumption) (by omega) (by first | exact hR _ _ _ rfl | rfl | assumption) ?_
  refine z_iload_n d_X8_takes_4 rfl ?_
  refine z_bipush d_X8_takes_5 kb_48 ?_
  refine z_iadd d_X8_takes_7 ?_
  refine z_bipush d_X8_takes_8 kb_8 ?_
  refine z_iadd d_X8_takes_10 ?_
  refine z_iconst d_X8_takes_11 ki_1 ?_
  refine z_isub d_X8_takes_12 ?_
  refine z_iaload d_X8_takes_13 (by first | rfl | assumption) (by omega) (zix_e (show nI (160 * k) + (48 : Int32) + (8 : Int32) - (1 : Int32) = nI (160 * k + 48 + 7) from by rw [show nI (160 * k) + (48 : Int32) + (8 : Int32) = nI (160 * k + 48 + 8) from ix3 _ 48 8]; exact pk_sub (show 1 ≤ 160 * k + 48 + 8 by omega)) (by omega) (by decide)) ?_
  rw [sI_n (by decide)]
  refine z_istore2 d_X8_takes_14 rfl ?_
  refine z_bipush d_X8_takes_15 kb_7 ?_
  refine z_istore3 d_X8_takes_17 rfl ?_
  have loop : ∀ (Qs : State → Prop), (zZ E m_X8_takes X Qs zShF 0 0 52 [some (.ref 64), some (.int (nI (160 * k))), some (.int (qLn q 7)), some (.int (nI 0))] [] (sI I k (nQ q (rdN (qLn q) 0))) (sL L k q) R) → ∀ i, i < 8 → zZ E m_X8_takes X Qs zShF 0 0 18 [some (.ref 64), some (.int (nI (160 * k))), some (.int (qLn q 7)), some (.int (nI i))] [] (sI I k (nQ q (rdN (qLn q) i))) (sL L k q) R := by
    intro Qs hx
    refine dn_rec (fun i ih h8 => ?_)
    refine z_iload_n d_X8_takes_18 rfl ?_
    refine z_if_le d_X8_takes_19 (fun h_19 => ?_) (fun h_19 => ?_)
    · have h0 : i = 0 := by have := (nI_leI (a := i) (b := 0) (by omega) (by decide)).mp h_19; omega
      subst h0
      exact hx
    · have h0 : 0 < i := by rcases Nat.eq_zero_or_pos i with q | q; exact absurd (by rw [q]; decide) h_19; exact q
      refine z_aload_n d_X8_takes_22 rfl ?_
      refine z_getR d_X8_takes_23 f_X8_7 (by first | rfl | assumption) (by omega) (by first | exact hR _ _ _ rfl | rfl | assumption) ?_
      refine z_iload_n d_X8_takes_26 rfl ?_
      refine z_bipush d_X8_takes_27 kb_48 ?_
      refine z_iadd d_X8_takes_29 ?_
      refine z_iload_n d_X8_takes_30 rfl ?_
      refine z_iadd d_X8_takes_31 ?_
      refine z_aload_n d_X8_takes_32 rfl ?_
      refine z_getR d_X8_takes_33 f_X8_7 (by first | rfl | assumption) (by omega) (by first | exact hR _ _ _ rfl | rfl | assumption) ?_
      refine z_iload_n d_X8_takes_36 rfl ?_
      refine z_bipush d_X8_takes_37 kb_48 ?_
      refine z_iadd d_X8_takes_39 ?_
      refine z_iload_n d_X8_takes_40 rfl ?_
      refine z_iadd d_X8_takes_41 ?_
      refine z_iconst d_X8_takes_42 ki_1 ?_
      refine z_isub d_X8_takes_43 ?_
      refine z_iaload d_X8_takes_44 (by first | rfl | assumption) (by omega) (zix_e (show nI (160 * k) + (48 : Int32) + nI i - (1 : Int32) = nI (160 * k + 48 + (i - 1)) from by rw [show nI (160 * k) + (48 : Int32) + nI i = nI (160 * k + 48 + i) from ix3 _ 48 i, show 160 * k + 48 + (i - 1) = 160 * k + 48 + i - 1 by omega]; exact pk_sub (show 1 ≤ 160 * k + 48 + i by omega)) (by omega) (by decide)) ?_
      rw [sI_n (by omega)]
      refine z_iastore d_X8_takes_45 (by first | rfl | assumption) (by omega) (zix_e (ix3 _ 48 _) (by omega) (by decide)) ?_
      refine z_iinc3 d_X8_takes_46 ki_m1 rfl ?_
      refine z_goto d_X8_takes_49 ?_
      have h := ih (by omega) (by omega)
      rw [sI_un h8, show nI i + -1 = nI (i - 1) from by rw [show i = (i - 1) + 1 by omega]; exact pk_m1 (i - 1)]
      refine z_mem ?_ rfl rfl h
      rw [show qLn (nQ q (rdN (qLn q) i)) = rdN (qLn q) i from rfl, rdN_s _ h0 h8]
  refine z_mem (I' := sI I k (nQ q (rdN (qLn q) 7))) (by rw [rdN_7]) rfl rfl (loop _ ?_ 7 (by decide))
  refine z_aload_n d_X8_takes_52 rfl ?_
  refine z_getR d_X8_takes_53 f_X8_7 (by first | rfl | assumption) (by omega) (by first | exact hR _ _ _ rfl | rfl | assumption) ?_
  refine z_iload_n d_X8_takes_56 rfl ?_
  refine z_bipush d_X8_takes_57 kb_48 ?_
  refine z_iadd d_X8_takes_59 ?_
  refine z_iconst d_X8_takes_60 ki_0 ?_
  refine z_iastore d_X8_takes_61 (by first | rfl | assumption) (by omega) (zix_e (ix2 _ 48) (by omega) (by decide)) ?_
  rw [show 160 * k + 48 = 160 * k + 48 + 0 from rfl, sI_un (by decide)]
  refine z_aload_n d_X8_takes_62 rfl ?_
  refine z_iload_n d_X8_takes_63 rfl ?_
  refine z_iconst d_X8_takes_64 ki_1 ?_
  refine z_iload_n d_X8_takes_65 rfl ?_
  refine z_cVv d_X8_takes_66 q_X8_takes_198 (by first | rfl | assumption) (by omega) ⟨rfl, rfl⟩ (ct_X8_adds (w := 1) hR hk (by decide)) rfl rfl rfl ⟨Nat.zero_le _, Nat.zero_le _⟩ ?_
  refine z_iload_n d_X8_takes_69 rfl ?_
  exact z_ireturn d_X8_takes_70 rfl ⟨rfl, rfl, rfl, by rw [sL_u1, sL_1]; rfl, rfl⟩
set_option maxRecDepth 100000 in
set_option maxHeartbeats 4000000 in
theorem ct_X8_shadeOf {E : zE} {I : zI} {L : zL} {R : zR} {v : Int32} (hR : zLx R) (h5 : ¬ I 68 5 = 0) : zCf E m_X8_shadeOf zShF [.ref 64, .int v] I L R (some (.int (lsV 255 (v * I 68 4 / I 68 5)))) (I) (L) (R) := by
  refine z_met (by decide) [some (.ref 64), some (.int v)] rfl rfl (Nat.le_of_ble_eq_true rfl) (fun X => ?_)
  refine z_sipush d_X8_shadeOf_0 ks_255 ?_
  refine z_iload_n d_X8_shadeOf_3 rfl ?_
  refine z_aload_n d_X8_shadeOf_4 rfl ?_
  refine z_getR d_X8_shadeOf_5 f_X8_21 (by first | rfl | assumption) (by omega) (by first | exact hR _ _ _ rfl | rfl | assumption) ?_
  refine z_iconst d_X8_shadeOf_8 ki_4 ?_
  refine z_iaload d_X8_shadeOf_9 (by first | rfl | assumption) (by omega) (zix_lit 4 (by decide)) ?_
  refine z_imul d_X8_shadeOf_10 ?_
  refine z_aload_n d_X8_shadeOf_11 rfl ?_
  refine z_getR d_X8_shadeOf_12 f_X8_21 (by first | rfl | assumption) (by omega) (by first | exact hR _ _ _ rfl | rfl | assumption) ?_
  refine z_iconst d_X8_shadeOf_15 ki_5 ?_
  refine z_iaload d_X8_shadeOf_16 (by first | rfl | assumption) (by omega) (zix_lit 5 (by decide)) ?_
  refine z_idiv d_X8_shadeOf_17 (by first | assumption | decide) ?_
  refine z_cSi d_X8_shadeOf_18 q_X8_shadeOf_191 ⟨rfl, rfl⟩ (ct_X8_less) rfl rfl rfl ⟨Nat.zero_le _, Nat.zero_le _⟩ ?_
  exact z_ireturn d_X8_shadeOf_21 rfl ⟨rfl, rfl, rfl, rfl, rfl⟩
set_option maxRecDepth 100000 in
set_option maxHeartbeats 4000000 in
theorem ct_X8_lineSum {E : zE} {I : zI} {L : zL} {R : zR} {b : Nat} (hR : zLx R) (hb : b + 56 ≤ 640) : zCf E m_X8_lineSum zShF [.ref 64, .int (nI b)] I L R (some (.int (sumV (fun k => I 65 (b + 48 + k)) 8))) (I) (L) (R) := by
  refine z_met (by decide) [some (.ref 64), some (.int (nI b))] rfl rfl (Nat.le_of_ble_eq_true rfl) (fun X => ?_)
  refine z_aload_n d_X8_lineSum_0 rfl ?_
  refine z_iload_n d_X8_lineSum_1 rfl ?_
  refine z_bipush d_X8_lineSum_2 kb_48 ?_
  refine z_iadd d_X8_lineSum_4 ?_
  refine z_bipush d_X8_lineSum_5 kb_8 ?_
  rw [show nI b + (48 : Int32) = nI (b + 48) from nI_add b 48]
  refine z_cVi d_X8_lineSum_7 q_X8_lineSum_213 (by first | rfl | assumption) (by omega) ⟨rfl, rfl⟩ (ct_X8_sumOf (m := 8) hR (by omega)) rfl rfl rfl ⟨Nat.zero_le _, Nat.zero_le _⟩ ?_
  exact z_ireturn d_X8_lineSum_10 rfl ⟨rfl, rfl, rfl, rfl, rfl⟩
