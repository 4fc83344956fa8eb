set_option maxRecDepth 100000 in
set_option maxHeartbeats 4000000 in
theorem ct_X7_feed {E : zE} {I : zI} {L : zL} {R : zR} {n : Nat} {v : Int64} (hR : zLx R) (hn : I 1 1 = nI n) (hn2 : n ≤ 400) : zCf E m_X7_feed zShF [.ref 0, .long v] I L R (some (.int (if n + 8 ≤ 400 then nI (n + 8) else -3))) (if n + 8 ≤ 400 then apI I 1 v n 8 else I) (L) (R) := by
  have h1 := lT_1 hR
  refine z_met (by decide) [some (.ref 0), some (.long v), none] rfl rfl (Nat.le_of_ble_eq_true rfl) (fun X => ?_)
  refine z_aload_n d_X7_feed_0 rfl ?_
  refine z_getR d_X7_feed_1 f_X7_12 (by first | rfl | assumption) (by omega) (by first | exact hR _ _ _ rfl | rfl | assumption) ?_
  refine z_lload_n d_X7_feed_4 rfl ?_
  refine z_cVi d_X7_feed_5 q_X7_feed_71 (by first | rfl | assumption) (by omega) ⟨rfl, rfl⟩ (ct_X6_append (by assumption) (by assumption) (by assumption)) rfl rfl rfl ⟨Nat.zero_le _, Nat.zero_le _⟩ ?_
  exact z_ireturn d_X7_feed_8 rfl ⟨rfl, rfl, rfl, rfl, rfl⟩
set_option maxRecDepth 100000 in
set_option maxHeartbeats 4000000 in
theorem ct_X7_end {E : zE} {I : zI} {L : zL} {R : zR} {n : Int32} (hR : zLx R) : zCf E m_X7_end zShF [.ref 0, .int n] I L R (some (.int (if n < 0 then -1 else if n ≤ I 1 1 then I 1 1 else -1))) (if n < 0 then I else if n ≤ I 1 1 then zi I 1 1 n else I) (L) (R) := by
  refine z_met (by decide) [some (.ref 0), some (.int n), none] rfl rfl (Nat.le_of_ble_eq_true rfl) (fun X => ?_)
  refine z_iload_n d_X7_end_0 rfl ?_
  refine z_if_lt d_X7_end_1 (fun h_1 => ?_) (fun h_1 => ?_)
  · refine z_iconst d_X7_end_15 ki_m1 ?_
    exact z_ireturn d_X7_end_16 rfl ⟨by simp [*], rfl, by simp [*], rfl, rfl⟩
  · refine z_iload_n d_X7_end_4 rfl ?_
    refine z_aload_n d_X7_end_5 rfl ?_
    refine z_getR d_X7_end_6 f_X7_12 (by first | rfl | assumption) (by omega) (by first | exact hR _ _ _ rfl | rfl | assumption) ?_
    refine z_getI d_X7_end_9 f_X7_75 (by first | rfl | assumption) (by omega) ?_
    refine z_icmp_le d_X7_end_12 (fun h_12 => ?_) (fun h_12 => ?_)
    · refine z_aload_n d_X7_end_17 rfl ?_
      refine z_getR d_X7_end_18 f_X7_12 (by first | rfl | assumption) (by omega) (by first | exact hR _ _ _ rfl | rfl | assumption) ?_
      refine z_getI d_X7_end_21 f_X7_75 (by first | rfl | assumption) (by omega) ?_
      refine z_istore2 d_X7_end_24 rfl ?_
      refine z_aload_n d_X7_end_25 rfl ?_
      refine z_getR d_X7_end_26 f_X7_12 (by first | rfl | assumption) (by omega) (by first | exact hR _ _ _ rfl | rfl | assumption) ?_
      refine z_iload_n d_X7_end_29 rfl ?_
      refine z_putI d_X7_end_30 f_X7_75 p_X6_1 (by first | rfl | assumption) (by omega) ?_
      refine z_iload_n d_X7_end_33 rfl ?_
      exact z_ireturn d_X7_end_34 rfl ⟨by simp [*], rfl, by simp [*], rfl, rfl⟩
    · refine z_iconst d_X7_end_15 ki_m1 ?_
      exact z_ireturn d_X7_end_16 rfl ⟨by simp [*], rfl, by simp [*], rfl, rfl⟩
set_option maxRecDepth 100000 in
set_option maxHeartbeats 4000000 in
theorem ct_X7_fault {E : zE} {I : zI} {L : zL} {R : zR} (hR : zLx R) : zCf E m_X7_fault zShF [.ref 0] I L R (some (.int (I 8 10))) (I) (L) (R) := by
  refine z_met (by decide) [some (.ref 0)] rfl rfl (Nat.le_of_ble_eq_true rfl) (fun X => ?_)
  refine z_aload_n d_X7_fault_0 rfl ?_
  refine z_getR d_X7_fault_1 f_X7_28 (by first | rfl | assumption) (by omega) (by first | exact hR _ _ _ rfl | rfl | assumption) ?_
  refine z_getI d_X7_fault_4 f_X7_83 (by first | rfl | assumption) (by omega) ?_
  exact z_ireturn d_X7_fault_7 rfl ⟨rfl, rfl, rfl, rfl, rfl⟩
set_option maxRecDepth 100000 in
set_option maxHeartbeats 4000000 in
theorem ct_X7_rule {E : zE} {I : zI} {L : zL} {R : zR} {w : Int32} (hR : zLx R) : zCf E m_X7_rule zShF [.ref 0, .int w] I L R (some (.int (if w < 0 then -1 else if w < 7 then I 4 w.toNatClampNeg else -1))) (I) (L) (R) := by
  refine z_met (by decide) [some (.ref 0), some (.int w)] rfl rfl (Nat.le_of_ble_eq_true rfl) (fun X => ?_)
  refine z_iload_n d_X7_rule_0 rfl ?_
  refine z_if_lt d_X7_rule_1 (fun h_1 => ?_) (fun h_1 => ?_)
  · refine z_iconst d_X7_rule_10 ki_m1 ?_
    refine z_goto d_X7_rule_11 ?_
    exact z_ireturn d_X7_rule_23 rfl ⟨by simp [*], rfl, rfl, rfl, rfl⟩
  · refine z_iload_n d_X7_rule_4 rfl ?_
    refine z_bipush d_X7_rule_5 kb_7 ?_
    refine z_icmp_lt d_X7_rule_7 (fun h_7 => ?_) (fun h_7 => ?_)
    · refine z_aload_n d_X7_rule_14 rfl ?_
      refine z_getR d_X7_rule_15 f_X7_19 (by first | rfl | assumption) (by omega) (by first | exact hR _ _ _ rfl | rfl | assumption) ?_
      refine z_getR d_X7_rule_18 f_X7_89 (by first | rfl | assumption) (by omega) (by first | exact hR _ _ _ rfl | rfl | assumption) ?_
      refine z_iload_n d_X7_rule_21 rfl ?_
      refine z_iaload d_X7_rule_22 (by first | rfl | assumption) (by omega) (zix_of2 h_1 (Int32.not_le.mpr h_7) (by decide)) ?_
      exact z_ireturn d_X7_rule_23 rfl ⟨by simp [*], rfl, rfl, rfl, rfl⟩
    · refine z_iconst d_X7_rule_10 ki_m1 ?_
      refine z_goto d_X7_rule_11 ?_
      exact z_ireturn d_X7_rule_23 rfl ⟨by simp [*], rfl, rfl, rfl, rfl⟩
set_option maxRecDepth 100000 in
set_option maxHeartbeats 4000000 in
theorem ct_X7_well {E : zE} {I : zI} {L : zL} {R : zR} {w x : Int32} (hR : zLx R) : zCf E m_X7_well zShF [.ref 0, .int w, .int x] I L R (some (.int (if isW w = true then (if x = 0 then I 18 w.toNatClampNeg else if x = 1 then I 17 w.toNatClampNeg else if x = 2 then I 5 w.toNatClampNeg else if x = 3 then I 6 w.toNatClampNeg else if x = 4 then I 19 w.toNatClampNeg else -1) else -1))) (I) (L) (R) := by
  refine z_met (by decide) [some (.ref 0), some (.int w), some (.int x)] rfl rfl (Nat.le_of_ble_eq_true rfl) (fun X => ?_)
  refine z_iload_n d_X7_well_0 rfl ?_
  refine z_cSi d_X7_well_1 q_X7_well_93 ⟨rfl, rfl⟩ (ct_X7_isWell) rfl rfl rfl ⟨Nat.zero_le _, Nat.zero_le _⟩ ?_
  refine z_if_ne d_X7_well_4 (fun h_4 => ?_) (fun h_4 => ?_)
  · have hw := b1 h_4; have hix := isW_ix hw
    refine z_iload_n d_X7_well_9 rfl ?_
    refine z_by (0) (fun e_10_0 => ?_) (fun e_10_0 => ?_)
    · refine z_tabIn (off := 34) (tgt := 44) d_X7_well_10 (by rw [e_10_0]; decide) (by rw [e_10_0]; decide) (by rw [e_10_0]; rfl) (by decide) ?_
      refine z_aload_n d_X7_well_44 rfl ?_
      refine z_getR d_X7_well_45 f_X7_35 (by first | rfl | assumption) (by omega) (by first | exact hR _ _ _ rfl | rfl | assumption) ?_
      refine z_getR d_X7_well_48 f_X7_97 (by first | rfl | assumption) (by omega) (by first | exact hR _ _ _ rfl | rfl | assumption) ?_
      refine z_iload_n d_X7_well_51 rfl ?_
      refine z_iaload d_X7_well_52 (by first | rfl | assumption) (by omega) (by first | exact zix_nI (by assumption) (by first | decide | assumption) | exact zix_nI (by omega) (by first | decide | assumption) | assumption) ?_
      exact z_ireturn d_X7_well_53 rfl ⟨by simp [*], rfl, rfl, rfl, rfl⟩
    refine z_by (1) (fun e_10_1 => ?_) (fun e_10_1 => ?_)
    · refine z_tabIn (off := 44) (tgt := 54) d_X7_well_10 (by rw [e_10_1]; decide) (by rw [e_10_1]; decide) (by rw [e_10_1]; rfl) (by decide) ?_
      refine z_aload_n d_X7_well_54 rfl ?_
      refine z_getR d_X7_well_55 f_X7_35 (by first | rfl | assumption) (by omega) (by first | exact hR _ _ _ rfl | rfl | assumption) ?_
      refine z_getR d_X7_well_58 f_X7_100 (by first | rfl | assumption) (by omega) (by first | exact hR _ _ _ rfl | rfl | assumption) ?_
      refine z_iload_n d_X7_well_61 rfl ?_
      refine z_iaload d_X7_well_62 (by first | rfl | assumption) (by omega) (by first | exact zix_nI (by assumption) (by first | decide | assumption) | exact zix_nI (by omega) (by first | decide | assumption) | assumption) ?_
      exact z_ireturn d_X7_well_63 rfl ⟨by simp [*], rfl, rfl, rfl, rfl⟩
    refine z_by (2) (fun e_10_2 => ?_) (fun e_10_2 => ?_)
    · refine z_tabIn (off := 54) (tgt := 64) d_X7_well_10 (by rw [e_10_2]; decide) (by rw [e_10_2]; decide) (by rw [e_10_2]; rfl) (by decide) ?_
      refine z_aload_n d_X7_well_64 rfl ?_
      refine z_getR d_X7_well_65 f_X7_19 (by first | rfl | assumption) (by omega) (by first | exact hR _ _ _ rfl | rfl | assumption) ?_
      refine z_getR d_X7_well_68 f_X7_103 (by first | rfl | assumption) (by omega) (by first | exact hR _ _ _ rfl | rfl | assumption) ?_
      refine z_iload_n d_X7_well_71 rfl ?_
      refine z_iaload d_X7_well_72 (by first | rfl | assumption) (by omega) (by first | exact zix_nI (by assumption) (by first | decide | assumption) | exact zix_nI (by omega) (by first | decide | assumption) | assumption) ?_
      exact z_ireturn d_X7_well_73 rfl ⟨by simp [*], rfl, rfl, rfl, rfl⟩
    refine z_by (3) (fun e_10_3 => ?_) (fun e_10_3 => ?_)
    · refine z_tabIn (off := 64) (tgt := 74) d_X7_well_10 (by rw [e_10_3]; decide) (by rw [e_10_3]; decide) (by rw [e_10_3]; rfl) (by decide) ?_
      refine z_aload_n d_X7_well_74 rfl ?_
      refine z_getR d_X7_well_75 f_X7_19 (by first | rfl | assumption) (by omega) (by first | exact hR _ _ _ rfl | rfl | assumption) ?_
      refine z_getR d_X7_well_78 f_X7_106 (by first | rfl | assumption) (by omega) (by first | exact hR _ _ _ rfl | rfl | assumption) ?_
      refine z_iload_n d_X7_well_81 rfl ?_
      refine z_iaload d_X7_well_82 (by first | rfl | assumption) (by omega) (by first | exact zix_nI (by assumption) (by first | decide | assumption) | exact zix_nI (by omega) (by first | decide | assumption) | assumption) ?_
      exact z_ireturn d_X7_well_83 rfl ⟨by simp [*], rfl, rfl, rfl, rfl⟩
    refine z_by (4) (fun e_10_4 => ?_) (fun e_10_4 => ?_)
    · refine z_tabIn (off := 74) (tgt := 84) d_X7_well_10 (by rw [e_10_4]; decide) (by rw [e_10_4]; decide) (by rw [e_10_4]; rfl) (by decide) ?_
      refine z_aload_n d_X7_well_84 rfl ?_
      refine z_getR d_X7_well_85 f_X7_35 (by first | rfl | assumption) (by omega) (by first | exact hR _ _ _ rfl | rfl | assumption) ?_
      refine z_getR d_X7_well_88 f_X7_109 (by first | rfl | assumption) (by omega) (by first | exact hR _ _ _ rfl | rfl | assumption) ?_
      refine z_iload_n d_X7_well_91 rfl ?_
      refine z_iaload d_X7_well_92 (by first | rfl | assumption) (by omega) (by first | exact zix_nI (by assumption) (by first | decide | assumption) | exact zix_nI (by omega) (by first | decide | assumption) | assumption) ?_
      exact z_ireturn d_X7_well_93 rfl ⟨by simp [*], rfl, rfl, rfl, rfl⟩
    refine z_tabOut (tgt := 94) d_X7_well_10 (by have n_0 := sw_ne e_10_0; have n_1 := sw_ne e_10_1; have n_2 := sw_ne e_10_2; have n_3 := sw_ne e_10_3; have n_4 := sw_ne e_10_4; replace n_0 : _ ≠ (0 : Int) := n_0; replace n_1 : _ ≠ (1 : Int) := n_1; replace n_2 : _ ≠ (2 : Int) := n_2; replace n_3 : _ ≠ (3 : Int) := n_3; replace n_4 : _ ≠ (4 : Int) := n_4; omega) (by decide) ?_
    refine z_iconst d_X7_well_94 ki_m1 ?_
    exact z_ireturn d_X7_well_95 rfl ⟨by simp [*], rfl, rfl, rfl, rfl⟩
  · have hw := b0 h_4
    refine z_iconst d_X7_well_7 ki_m1 ?_
    exact z_ireturn d_X7_well_8 rfl ⟨by rw [hw]; rfl, rfl, rfl, rfl, rfl⟩
set_option maxRecDepth 100000 in
set_option maxHeartbeats 4000000 in
theorem ct_X7_light {E : zE} {I : zI} {L : zL} {R : zR} {w v : Int32} (hR : zLx R) : zCf E m_X7_light zShF [.ref 0, .int w, .int v] I L R (some (.int (if isLi w v = true then I 17 w.toNatClampNeg else -1))) (if isLi w v = true then zi I 17 w.toNatClampNeg v else I) (L) (R) := by
  refine z_met (by decide) [some (.ref 0), some (.int w), some (.int v), none] rfl rfl (Nat.le_of_ble_eq_true rfl) (fun X => ?_)
  refine z_iload_n d_X7_light_0 rfl ?_
  refine z_iload_n d_X7_light_1 rfl ?_
  refine z_cSi d_X7_light_2 q_X7_light_112 ⟨rfl, rfl⟩ (ct_X7_isLighting) rfl rfl rfl ⟨Nat.zero_le _, Nat.zero_le _⟩ ?_
  refine z_if_ne d_X7_light_5 (fun h_5 => ?_) (fun h_5 => ?_)
  · have hw := b1 h_5; have hix : zix w 48 w.toNatClampNeg := isW_ix (by simp only [isLi, Bool.and_eq_true] at hw; exact hw.1)
    refine z_aload_n d_X7_light_10 rfl ?_
    refine z_getR d_X7_light_11 f_X7_35 (by first | rfl | assumption) (by omega) (by first | exact hR _ _ _ rfl | rfl | assumption) ?_
    refine z_getR d_X7_light_14 f_X7_100 (by first | rfl | assumption) (by omega) (by first | exact hR _ _ _ rfl | rfl | assumption) ?_
    refine z_iload_n d_X7_light_17 rfl ?_
    refine z_iaload d_X7_light_18 (by first | rfl | assumption) (by omega) (by first | exact zix_nI (by assumption) (by first | decide | assumption) | exact zix_nI (by omega) (by first | decide | assumption) | assumption) ?_
    refine z_istore3 d_X7_light_19 rfl ?_
    refine z_aload_n d_X7_light_20 rfl ?_
    refine z_getR d_X7_light_21 f_X7_35 (by first | rfl | assumption) (by omega) (by first | exact hR _ _ _ rfl | rfl | assumption) ?_
    refine z_getR d_X7_light_24 f_X7_100 (by first | rfl | assumption) (by omega) (by first | exact hR _ _ _ rfl | rfl | assumption) ?_
    refine z_iload_n d_X7_light_27 rfl ?_
    refine z_iload_n d_X7_light_28 rfl ?_
    refine z_iastore d_X7_light_29 (by first | rfl | assumption) (by omega) (by first | exact zix_nI (by assumption) (by first | decide | assumption) | exact zix_nI (by omega) (by first | decide | assumption) | assumption) ?_
    refine z_iload_n d_X7_light_30 rfl ?_
    exact z_ireturn d_X7_light_31 rfl ⟨by rw [if_pos hw], rfl, by rw [if_pos hw], rfl, rfl⟩
  · have hw := b0 h_5
    refine z_iconst d_X7_light_8 ki_m1 ?_
    exact z_ireturn d_X7_light_9 rfl ⟨by rw [hw]; rfl, rfl, by rw [hw]; rfl, rfl, rfl⟩
def exQ (cap drain dark t : Int32) (hot : Nat → Int32) (q : zQ) : zQ :=
  (qLi q, (ro cap drain (addW (fun j => (qLi q j + hot j + dark) * t) (qWe q) 48, qLo q)).1, qHe q, qLn q, (ro cap drain (addW (fun j => (qLi q j + hot j + dark) * t) (qWe q) 48, qLo q)).2, qRd q, addC (fun j => (qLi q j + hot j + dark) * t) 48 (qCm q))
theorem ex_I (I : zI) (L : zL) (c p : Nat) (t : Int32) : mW I c (ro (I (p + 1) 0) (I (p + 1) 2) (addW (fun j => (I (c + 1) j + I (p + 2) j + I (p + 1) 1) * t) (I (c + 2)) 48, L c 4)).1 = qI I c (exQ (I (p + 1) 0) (I (p + 1) 2) (I (p + 1) 1) t (I (p + 2)) (qOf I L c)) := by
  refine qI_ext ?_ ?_ ?_ ?_ ?_
  · rw [mW_ne (by omega)]; simp [exQ, qOf]
  · rw [mW_at]; simp [exQ, qOf]
  · rw [mW_ne (by omega)]; simp [exQ, qOf]
  · rw [mW_ne (by omega)]; simp [exQ, qOf]
  · intro k h1 h2 h3 h4; rw [mW_ne h2]
theorem ex_L (I : zI) (L : zL) (c p : Nat) (t : Int32) : zj (zj L c 6 (addC (fun j => (I (c + 1) j + I (p + 2) j + I (p + 1) 1) * t) 48 (L c 6))) c 4 (ro (I (p + 1) 0) (I (p + 1) 2) (addW (fun j => (I (c + 1) j + I (p + 2) j + I (p + 1) 1) * t) (I (c + 2)) 48, L c 4)).2 = qL L c (exQ (I (p + 1) 0) (I (p + 1) 2) (I (p + 1) 1) t (I (p + 2)) (qOf I L c)) := by
  refine qL_ext ?_ ?_ ?_ ?_ ?_
  · rw [zj_at]; simp [exQ, qOf]
  · rw [zj_at2 (by decide), zj_at2 (by decide)]; simp [exQ, qOf]
  · rw [zj_at2 (by decide), zj_at]; simp [exQ, qOf]
  · intro k h; rw [zj_ne h, zj_ne h]
  · intro j h4 h5 h6; rw [zj_at2 h4, zj_at2 h6]
theorem rd_I (I : zI) (L : zL) (c : Nat) : mN I c (rdL (I (c + 4))) = qI I c (rdQ (qOf I L c)) := by
  refine qI_ext ?_ ?_ ?_ ?_ ?_
  · rw [mN_ne (by omega)]; rfl
  · rw [mN_ne (by omega)]; rfl
  · rw [mN_ne (by omega)]; rfl
  · rw [mN_at]; rfl
  · intro k h1 h2 h3 h4; rw [mN_ne h4]
theorem rd_L (I : zI) (L : zL) (c : Nat) : zj L c 5 (L c 5 + (I (c + 4) 7).toInt64) = qL L c (rdQ (qOf I L c)) := by
  refine qL_ext ?_ ?_ ?_ ?_ ?_
  · rw [zj_at2 (by decide)]; rfl
  · rw [zj_at]; rfl
  · rw [zj_at2 (by decide)]; rfl
  · intro k h; rw [zj_ne h]
  · intro j h4 h5 h6; rw [zj_at2 h5]
/-- drained: LIGHT stays -/
def drQ (q : zQ) : zQ := (qLi q, zfill (qWe q) 48 0, zfill (qHe q) 48 0, zfill (qLn q) 8 0, 0, 0, 0)
theorem dr_I (I : zI) (L : zL) (c : Nat) : mN (mH (mW I c (zfill (I (c + 2)) 48 0)) c (zfill (I (c + 3)) 48 0)) c (zfill (I (c + 4)) 8 0) = qI I c (drQ (qOf I L c)) := by
  refine qI_ext ?_ ?_ ?_ ?_ ?_
  · rw [mN_ne (by omega), mH_ne (by omega), mW_ne (by omega)]; rfl
  · rw [mN_ne (by omega), mH_ne (by omega), mW_at]; rfl
  · rw [mN_ne (by omega), mH_at]; rfl
  · rw [mN_at]; rfl
  · intro k h1 h2 h3 h4; rw [mN_ne h4, mH_ne h3, mW_ne h2]
theorem dr_L (I : zI) (L : zL) (c : Nat) : zj (zj (zj L c 4 0) c 5 0) c 6 0 = qL L c (drQ (qOf I L c)) := rfl
set_option maxRecDepth 100000 in
set_option maxHeartbeats 4000000 in
theorem ct_X7_expose {E : zE} {I : zI} {L : zL} {R : zR} {t : Int32} (hR : zLx R) : zCf E m_X7_expose zShF [.ref 0, .int t] I L R (some (.int (if inV 1 999 t = true then sumV (qWe (exQ (I 4 0) (I 4 2) (I 4 1) t (I 5) (qOf I L 16))) 48 else -1))) (if inV 1 999 t = true then qI I 16 (exQ (I 4 0) (I 4 2) (I 4 1) t (I 5) (qOf I L 16)) else I) (if inV 1 999 t = true then qL L 16 (exQ (I 4 0) (I 4 2) (I 4 1) t (I 5) (qOf I L 16)) else L) (R) := by
  have h16 := lC_16 hR; have h3 := lP_3 hR
  refine z_met (by decide) [some (.ref 0), some (.int t)] rfl rfl (Nat.le_of_ble_eq_true rfl) (fun X => ?_)
  refine z_iload_n d_X7_expose_0 rfl ?_
  refine z_cSi d_X7_expose_1 q_X7_expose_116 ⟨rfl, rfl⟩ (ct_X7_isTicks) rfl rfl rfl ⟨Nat.zero_le _, Nat.zero_le _⟩ ?_
  refine z_if_ne d_X7_expose_4 (fun h_4 => ?_) (fun h_4 => ?_)
  · have hw := b1 h_4
    refine z_aload_n d_X7_expose_9 rfl ?_
    refine z_getR d_X7_expose_10 f_X7_35 (by first | rfl | assumption) (by omega) (by first | exact hR _ _ _ rfl | rfl | assumption) ?_
    refine z_iload_n d_X7_expose_13 rfl ?_
    refine z_aload_n d_X7_expose_14 rfl ?_
    refine z_getR d_X7_expose_15 f_X7_19 (by first | rfl | assumption) (by omega) (by first | exact hR _ _ _ rfl | rfl | assumption) ?_
    refine z_cVv d_X7_expose_18 q_X7_expose_119 (by first | rfl | assumption) (by omega) ⟨rfl, rfl⟩ (ct_X0_fillFor (by assumption) (by assumption) (by omega)) rfl rfl rfl ⟨Nat.zero_le _, Nat.zero_le _⟩ ?_
    refine z_mem (ex_I I L 16 3 t) (ex_L I L 16 3 t) rfl ?_
    refine z_aload_n d_X7_expose_21 rfl ?_
    refine z_getR d_X7_expose_22 f_X7_35 (by first | rfl | assumption) (by omega) (by first | exact hR _ _ _ rfl | rfl | assumption) ?_
    refine z_getR d_X7_expose_25 f_X7_97 (by first | rfl | assumption) (by omega) (by first | exact hR _ _ _ rfl | rfl | assumption) ?_
    refine z_cSi d_X7_expose_28 q_X7_expose_123 ⟨rfl, rfl⟩ (ct_X7_sumOf (by first | rfl | assumption) (by omega) (by decide)) rfl rfl rfl ⟨Nat.zero_le _, Nat.zero_le _⟩ ?_
    exact z_ireturn d_X7_expose_31 rfl ⟨by rw [if_pos hw, show qI I 16 (exQ (I (3 + 1) 0) (I (3 + 1) 2) (I (3 + 1) 1) t (I (3 + 2)) (qOf I L 16)) 18 = _ from qI_2 I 16 _], rfl, by rw [if_pos hw], by rw [if_pos hw], rfl⟩
  · have hw := b0 h_4
    refine z_iconst d_X7_expose_7 ki_m1 ?_
    exact z_ireturn d_X7_expose_8 rfl ⟨by rw [hw]; rfl, rfl, by rw [hw]; rfl, by rw [hw]; rfl, rfl⟩
set_option maxRecDepth 100000 in
set_option maxHeartbeats 4000000 in
theorem ct_X7_down {E : zE} {I : zI} {L : zL} {R : zR} (hR : zLx R) : zCf E m_X7_down zShF [.ref 0] I L R (some (.int (sumV (qLn (hdQ (I 4 0) (I 4 2) (I 4 3) (I 6) true (qOf I L 16))) 8))) (qI I 16 (hdQ (I 4 0) (I 4 2) (I 4 3) (I 6) true (qOf I L 16))) (qL L 16 (hdQ (I 4 0) (I 4 2) (I 4 3) (I 6) true (qOf I L 16))) (R) := by
  have h16 := lC_16 hR; have h3 := lP_3 hR
  refine z_met (by decide) [some (.ref 0)] rfl rfl (Nat.le_of_ble_eq_true rfl) (fun X => ?_)
  refine z_aload_n d_X7_down_0 rfl ?_
  refine z_getR d_X7_down_1 f_X7_35 (by first | rfl | assumption) (by omega) (by first | exact hR _ _ _ rfl | rfl | assumption) ?_
  refine z_aload_n d_X7_down_4 rfl ?_
  refine z_getR d_X7_down_5 f_X7_19 (by first | rfl | assumption) (by omega) (by first | exact hR _ _ _ rfl | rfl | assumption) ?_
  refine z_iconst d_X7_down_8 ki_1 ?_
  refine z_cVv d_X7_down_9 q_X7_down_127 (by first | rfl | assumption) (by omega) ⟨rfl, rfl⟩ (ct_X0_handDown (sp := true) h16 h3 (by omega)) rfl rfl rfl ⟨Nat.zero_le _, Nat.zero_le _⟩ ?_
  refine z_aload_n d_X7_down_12 rfl ?_
  refine z_getR d_X7_down_13 f_X7_35 (by first | rfl | assumption) (by omega) (by first | exact hR _ _ _ rfl | rfl | assumption) ?_
  refine z_getR d_X7_down_16 f_X7_131 (by first | rfl | assumption) (by omega) (by first | exact hR _ _ _ rfl | rfl | assumption) ?_
  refine z_cSi d_X7_down_19 q_X7_down_123 ⟨rfl, rfl⟩ (ct_X7_sumOf (by first | rfl | assumption) (by omega) (by decide)) rfl rfl rfl ⟨Nat.zero_le _, Nat.zero_le _⟩ ?_
  exact z_ireturn d_X7_down_22 rfl ⟨by rw [show qI I 16 (hdQ (I (3 + 1) 0) (I (3 + 1) 2) (I (3 + 1) 3) (I (3 + 3)) true (qOf I L 16)) 20 = _ from qI_4 I 16 _], rfl, rfl, rfl, rfl⟩
set_option maxRecDepth 100000 in
set_option maxHeartbeats 4000000 in
theorem ct_X7_read {E : zE} {I : zI} {L : zL} {R : zR} (hR : zLx R) : zCf E m_X7_read zShF [.ref 0] I L R (some (.int (valV (I 4 4) (I 4 5) (I 20 7)))) (qI I 16 (rdQ (qOf I L 16))) (qL L 16 (rdQ (qOf I L 16))) (R) := by
  have h16 := lC_16 hR; have h3 := lP_3 hR
  refine z_met (by decide) [some (.ref 0)] rfl rfl (Nat.le_of_ble_eq_true rfl) (fun X => ?_)
  refine z_aload_n d_X7_read_0 rfl ?_
  refine z_getR d_X7_read_1 f_X7_35 (by first | rfl | assumption) (by omega) (by first | exact hR _ _ _ rfl | rfl | assumption) ?_
  refine z_cVi d_X7_read_4 q_X7_read_134 (by first | rfl | assumption) (by omega) ⟨rfl, rfl⟩ (ct_X0_readOne (by assumption)) rfl rfl rfl ⟨Nat.zero_le _, Nat.zero_le _⟩ ?_
  refine z_mem (rd_I I L 16) (rd_L I L 16) rfl ?_
  refine z_aload_n d_X7_read_7 rfl ?_
  refine z_getR d_X7_read_8 f_X7_19 (by first | rfl | assumption) (by omega) (by first | exact hR _ _ _ rfl | rfl | assumption) ?_
  refine z_cSi d_X7_read_11 q_X7_read_137 ⟨rfl, rfl⟩ (ct_X7_valueOf (by assumption)) rfl rfl rfl ⟨Nat.zero_le _, Nat.zero_le _⟩ ?_
  exact z_ireturn d_X7_read_14 rfl ⟨by rw [show qI I 16 (rdQ (qOf I L 16)) (3 + 1) = I 4 from qI_ne (by omega)], rfl, rfl, rfl, rfl⟩
set_option maxRecDepth 100000 in
set_option maxHeartbeats 4000000 in
theorem ct_X7_line {E : zE} {I : zI} {L : zL} {R : zR} {c : Int32} (hR : zLx R) : zCf E m_X7_line zShF [.ref 0, .int c] I L R (some (.int (if in0 8 c = true then I 20 c.toNatClampNeg else -1))) (I) (L) (R) := by
  refine z_met (by decide) [some (.ref 0), some (.int c)] rfl rfl (Nat.le_of_ble_eq_true rfl) (fun X => ?_)
  refine z_iload_n d_X7_line_0 rfl ?_
  refine z_cSi d_X7_line_1 q_X7_line_141 ⟨rfl, rfl⟩ (ct_X7_isColumn) rfl rfl rfl ⟨Nat.zero_le _, Nat.zero_le _⟩ ?_
  refine z_if_eq d_X7_line_4 (fun h_4 => ?_) (fun h_4 => ?_)
  · have hw := b0 h_4
    refine z_iconst d_X7_line_19 ki_m1 ?_
    exact z_ireturn d_X7_line_20 rfl ⟨by rw [hw]; rfl, rfl, rfl, rfl, rfl⟩
  · have hw := b1 h_4; have hix := in0_ix (n := 8) hw (by decide)
    refine z_aload_n d_X7_line_7 rfl ?_
    refine z_getR d_X7_line_8 f_X7_35 (by first | rfl | assumption) (by omega) (by first | exact hR _ _ _ rfl | rfl | assumption) ?_
    refine z_getR d_X7_line_11 f_X7_131 (by first | rfl | assumption) (by omega) (by first | exact hR _ _ _ rfl | rfl | assumption) ?_
    refine z_iload_n d_X7_line_14 rfl ?_
    refine z_iaload d_X7_line_15 (by first | rfl | assumption) (by omega) (by first | exact zix_nI (by assumption) (by first | decide | assumption) | exact zix_nI (by omega) (by first | decide | assumption) | assumption) ?_
    refine z_goto d_X7_line_16 ?_
    exact z_ireturn d_X7_line_20 rfl ⟨by rw [if_pos hw], rfl, rfl, rfl, rfl⟩
set_option maxRecDepth 100000 in
set_option maxHeartbeats 4000000 in
theorem ct_X7_fullWells {E : zE} {I : zI} {L : zL} {R : zR} (hR : zLx R) : zCf E m_X7_fullWells zShF [.ref 0] I L R (some (.int (cntV (fun j => !decide (I 18 j < I 4 0)) 48))) (I) (L) (R) := by
  refine z_met (by decide) [some (.ref 0), none, none] rfl rfl (Nat.le_of_ble_eq_true rfl) (fun X => ?_)
  refine z_iconst d_X7_fullWells_0 ki_0 ?_
  refine z_istore1 d_X7_fullWells_1 rfl ?_
  refine z_iconst d_X7_fullWells_2 ki_0 ?_
  refine z_istore2 d_X7_fullWells_3 rfl ?_
  have loop : ∀ (Qs : State → Prop), (zZ E m_X7_fullWells X Qs zShF 0 0 45 [some (.ref 0), some (.int (cntV (fun j => !decide (I 18 j < I 4 0)) 48)), some (.int (nI 48))] [] I L R) → ∀ i, i ≤ 48 → zZ E m_X7_fullWells X Qs zShF 0 0 4 [some (.ref 0), some (.int (cntV (fun j => !decide (I 18 j < I 4 0)) i)), some (.int (nI i))] [] I L R := by
    intro Qs hx
    refine up_rec (fun i hi ih => ?_)
    refine z_iload_n d_X7_fullWells_4 rfl ?_
    refine z_bipush d_X7_fullWells_5 kb_48 ?_
    refine z_icmp_ge d_X7_fullWells_7 (fun h_7 => ?_) (fun h_7 => ?_)
    · obtain rfl := eq_of_ge (n := 48) (by decide) hi h_7
      exact hx
    · have hlt := lt_of_nge (n := 48) (by decide) h_7 (by omega)
      refine z_iload_n d_X7_fullWells_10 rfl ?_
      refine z_aload_n d_X7_fullWells_11 rfl ?_
      refine z_getR d_X7_fullWells_12 f_X7_35 (by first | rfl | assumption) (by omega) (by first | exact hR _ _ _ rfl | rfl | assumption) ?_
      refine z_getR d_X7_fullWells_15 f_X7_97 (by first | rfl | assumption) (by omega) (by first | exact hR _ _ _ rfl | rfl | assumption) ?_
      refine z_iload_n d_X7_fullWells_18 rfl ?_
      refine z_iaload d_X7_fullWells_19 (by first | rfl | assumption) (by omega) (by first | exact zix_nI (by assumption) (by first | decide | assumption) | exact zix_nI (by omega) (by first | decide | assumption) | assumption) ?_
      refine z_aload_n d_X7_fullWells_20 rfl ?_
      refine z_getR d_X7_fullWells_21 f_X7_19 (by first | rfl | assumption) (by omega) (by first | exact hR _ _ _ rfl | rfl | assumption) ?_
      refine z_getR d_X7_fullWells_24 f_X7_89 (by first | rfl | assumption) (by omega) (by first | exact hR _ _ _ rfl | rfl | assumption) ?_
      refine z_iconst d_X7_fullWells_27 ki_0 ?_
      refine z_iaload d_X7_fullWells_28 (by first | rfl | assumption) (by omega) (zix_lit 0 (by decide)) ?_
      refine z_icmp_lt d_X7_fullWells_29 (fun h_29 => ?_) (fun h_29 => ?_)
      · refine z_iconst d_X7_fullWells_36 ki_0 ?_
        refine z_iadd d_X7_fullWells_37 ?_
        refine z_istore1 d_X7_fullWells_38 rfl ?_
        refine z_iinc2 d_X7_fullWells_39 ki_1 rfl ?_
        refine z_goto d_X7_fullWells_42 ?_
        rw [nI_1]
        have h := ih hlt
        rw [cntV] at h
        first
          | (rw [show b2i (!decide (I 18 i < I 4 0)) = 0 from by simp [b2i, h_29]] at h; exact h)
          | (rw [show b2i (!decide (I 18 i < I 4 0)) = 1 from by simp [b2i, h_29]] at h; exact h)
      · refine z_iconst d_X7_fullWells_32 ki_1 ?_
        refine z_goto d_X7_fullWells_33 ?_
        refine z_iadd d_X7_fullWells_37 ?_
        refine z_istore1 d_X7_fullWells_38 rfl ?_
        refine z_iinc2 d_X7_fullWells_39 ki_1 rfl ?_
        refine z_goto d_X7_fullWells_42 ?_
        rw [nI_1]
        have h := ih hlt
        rw [cntV] at h
        first
          | (rw [show b2i (!decide (I 18 i < I 4 0)) = 0 from by simp [b2i, h_29]] at h; exact h)
          | (rw [show b2i (!decide (I 18 i < I 4 0)) = 1 from by simp [b2i, h_29]] at h; exact h)
  refine loop _ ?_ 0 (Nat.zero_le 48)
  refine z_iload_n d_X7_fullWells_45 rfl ?_
  exact z_ireturn d_X7_fullWells_46 rfl ⟨rfl, rfl, rfl, rfl, rfl⟩
set_option maxRecDepth 100000 in
set_option maxHeartbeats 4000000 in
theorem ct_X7_now {E : zE} {I : zI} {L : zL} {R : zR} {x : Int32} (hR : zLx R) : zCf E m_X7_now zShF [.ref 0, .int x] I L R (some (.long (if x = 0 then (sumV (I 18) 48).toInt64 else if x = 1 then (sumV (I 20) 8).toInt64 else if x = 2 then (sumV (I 19) 48).toInt64 else if x = 3 then L 16 4 else if x = 4 then L 16 5 else if x = 5 then (cntV (fun j => !decide (I 18 j < I 4 0)) 48).toInt64 else if x = 6 then L 16 6 else -1))) (I) (L) (R) := by
  refine z_met (by decide) [some (.ref 0), some (.int x)] rfl rfl (Nat.le_of_ble_eq_true rfl) (fun X => ?_)
  refine z_iload_n d_X7_now_0 rfl ?_
  refine z_by (0) (fun e_1_0 => ?_) (fun e_1_0 => ?_)
  · refine z_tabIn (off := 43) (tgt := 44) d_X7_now_1 (by rw [e_1_0]; decide) (by rw [e_1_0]; decide) (by rw [e_1_0]; rfl) (by decide) ?_
    refine z_aload_n d_X7_now_44 rfl ?_
    refine z_getR d_X7_now_45 f_X7_35 (by first | rfl | assumption) (by omega) (by first | exact hR _ _ _ rfl | rfl | assumption) ?_
    refine z_getR d_X7_now_48 f_X7_97 (by first | rfl | assumption) (by omega) (by first | exact hR _ _ _ rfl | rfl | assumption) ?_
    refine z_cSi d_X7_now_51 q_X7_now_123 ⟨rfl, rfl⟩ (ct_X7_sumOf (by first | rfl | assumption) (by omega) (by decide)) rfl rfl rfl ⟨Nat.zero_le _, Nat.zero_le _⟩ ?_
    refine z_i2l d_X7_now_54 ?_
    exact z_lreturn d_X7_now_55 rfl ⟨by simp [*], rfl, rfl, rfl, rfl⟩
  refine z_by (1) (fun e_1_1 => ?_) (fun e_1_1 => ?_)
  · refine z_tabIn (off := 55) (tgt := 56) d_X7_now_1 (by rw [e_1_1]; decide) (by rw [e_1_1]; decide) (by rw [e_1_1]; rfl) (by decide) ?_
    refine z_aload_n d_X7_now_56 rfl ?_
    refine z_getR d_X7_now_57 f_X7_35 (by first | rfl | assumption) (by omega) (by first | exact hR _ _ _ rfl | rfl | assumption) ?_
    refine z_getR d_X7_now_60 f_X7_131 (by first | rfl | assumption) (by omega) (by first | exact hR _ _ _ rfl | rfl | assumption) ?_
    refine z_cSi d_X7_now_63 q_X7_now_123 ⟨rfl, rfl⟩ (ct_X7_sumOf (by first | rfl | assumption) (by omega) (by decide)) rfl rfl rfl ⟨Nat.zero_le _, Nat.zero_le _⟩ ?_
    refine z_i2l d_X7_now_66 ?_
    exact z_lreturn d_X7_now_67 rfl ⟨by simp [*], rfl, rfl, rfl, rfl⟩
  refine z_by (2) (fun e_1_2 => ?_) (fun e_1_2 => ?_)
  · refine z_tabIn (off := 67) (tgt := 68) d_X7_now_1 (by rw [e_1_2]; decide) (by rw [e_1_2]; decide) (by rw [e_1_2]; rfl) (by decide) ?_
    refine z_aload_n d_X7_now_68 rfl ?_
    refine z_getR d_X7_now_69 f_X7_35 (by first | rfl | assumption) (by omega) (by first | exact hR _ _ _ rfl | rfl | assumption) ?_
    refine z_getR d_X7_now_72 f_X7_109 (by first | rfl | assumption) (by omega) (by first | exact hR _ _ _ rfl | rfl | assumption) ?_
    refine z_cSi d_X7_now_75 q_X7_now_123 ⟨rfl, rfl⟩ (ct_X7_sumOf (by first | rfl | assumption) (by omega) (by decide)) rfl rfl rfl ⟨Nat.zero_le _, Nat.zero_le _⟩ ?_
    refine z_i2l d_X7_now_78 ?_
    exact z_lreturn d_X7_now_79 rfl ⟨by simp [*], rfl, rfl, rfl, rfl⟩
  refine z_by (3) (fun e_1_3 => ?_) (fun e_1_3 => ?_)
  · refine z_tabIn (off := 79) (tgt := 80) d_X7_now_1 (by rw [e_1_3]; decide) (by rw [e_1_3]; decide) (by rw [e_1_3]; rfl) (by decide) ?_
    refine z_aload_n d_X7_now_80 rfl ?_
    refine z_getR d_X7_now_81 f_X7_35 (by first | rfl | assumption) (by omega) (by first | exact hR _ _ _ rfl | rfl | assumption) ?_
    refine z_getL d_X7_now_84 f_X7_144 (by first | rfl | assumption) (by omega) ?_
    exact z_lreturn d_X7_now_87 rfl ⟨by simp [*], rfl, rfl, rfl, rfl⟩
  refine z_by (4) (fun e_1_4 => ?_) (fun e_1_4 => ?_)
  · refine z_tabIn (off := 87) (tgt := 88) d_X7_now_1 (by rw [e_1_4]; decide) (by rw [e_1_4]; decide) (by rw [e_1_4]; rfl) (by decide) ?_
    refine z_aload_n d_X7_now_88 rfl ?_
    refine z_getR d_X7_now_89 f_X7_35 (by first | rfl | assumption) (by omega) (by first | exact hR _ _ _ rfl | rfl | assumption) ?_
    refine z_getL d_X7_now_92 f_X7_148 (by first | rfl | assumption) (by omega) ?_
    exact z_lreturn d_X7_now_95 rfl ⟨by simp [*], rfl, rfl, rfl, rfl⟩
  refine z_by (5) (fun e_1_5 => ?_) (fun e_1_5 => ?_)
  · refine z_tabIn (off := 95) (tgt := 96) d_X7_now_1 (by rw [e_1_5]; decide) (by rw [e_1_5]; decide) (by rw [e_1_5]; rfl) (by decide) ?_
    refine z_aload_n d_X7_now_96 rfl ?_
    refine z_cVi d_X7_now_97 q_X7_now_151 (by first | rfl | assumption) (by omega) ⟨rfl, rfl⟩ (ct_X7_fullWells hR) rfl rfl rfl ⟨Nat.zero_le _, Nat.zero_le _⟩ ?_
    refine z_i2l d_X7_now_100 ?_
    exact z_lreturn d_X7_now_101 rfl ⟨by simp [*], rfl, rfl, rfl, rfl⟩
  refine z_by (6) (fun e_1_6 => ?_) (fun e_1_6 => ?_)
  · refine z_tabIn (off := 101) (tgt := 102) d_X7_now_1 (by rw [e_1_6]; decide) (by rw [e_1_6]; decide) (by rw [e_1_6]; rfl) (by decide) ?_
    refine z_aload_n d_X7_now_102 rfl ?_
    refine z_getR d_X7_now_103 f_X7_35 (by first | rfl | assumption) (by omega) (by first | exact hR _ _ _ rfl | rfl | assumption) ?_
    refine z_getL d_X7_now_106 f_X7_154 (by first | rfl | assumption) (by omega) ?_
    exact z_lreturn d_X7_now_109 rfl ⟨by simp [*], rfl, rfl, rfl, rfl⟩
  refine z_tabOut (tgt := 110) d_X7_now_1 (by have n_0 := sw_ne e_1_0; have n_1 := sw_ne e_1_1; have n_2 := sw_ne e_1_2; have n_3 := sw_ne e_1_3; have n_4 := sw_ne e_1_4; have n_5 := sw_ne e_1_5; have n_6 := sw_ne e_1_6; replace n_0 : _ ≠ (0 : Int) := n_0; replace n_1 : _ ≠ (1 : Int) := n_1; replace n_2 : _ ≠ (2 : Int) := n_2; replace n_3 : _ ≠ (3 : Int) := n_3; replace n_4 : _ ≠ (4 : Int) := n_4; replace n_5 : _ ≠ (5 : Int) := n_5; replace n_6 : _ ≠ (6 : Int) := n_6; omega) (by decide) ?_
  refine z_ldc2 d_X7_now_110 l_X7_157 ?_
  exact z_lreturn d_X7_now_113 rfl ⟨by simp [*], rfl, rfl, rfl, rfl⟩
set_option maxRecDepth 100000 in
set_option maxHeartbeats 4000000 in
theorem ct_X7_clear {E : zE} {I : zI} {L : zL} {R : zR} (hR : zLx R) : zCf E m_X7_clear zShF [.ref 0] I L R (some (.int (sumV (I 18) 48 + sumV (I 20) 8 + sumV (I 19) 48))) (qI I 16 (drQ (qOf I L 16))) (qL L 16 (drQ (qOf I L 16))) (R) := by
  have h16 := lC_16 hR
  refine z_met (by decide) [some (.ref 0), none] rfl rfl (Nat.le_of_ble_eq_true rfl) (fun X => ?_)
  refine z_aload_n d_X7_clear_0 rfl ?_
  refine z_getR d_X7_clear_1 f_X7_35 (by first | rfl | assumption) (by omega) (by first | exact hR _ _ _ rfl | rfl | assumption) ?_
  refine z_getR d_X7_clear_4 f_X7_97 (by first | rfl | assumption) (by omega) (by first | exact hR _ _ _ rfl | rfl | assumption) ?_
  refine z_cSi d_X7_clear_7 q_X7_clear_123 ⟨rfl, rfl⟩ (ct_X7_sumOf (by first | rfl | assumption) (by omega) (by decide)) rfl rfl rfl ⟨Nat.zero_le _, Nat.zero_le _⟩ ?_
  refine z_aload_n d_X7_clear_10 rfl ?_
  refine z_getR d_X7_clear_11 f_X7_35 (by first | rfl | assumption) (by omega) (by first | exact hR _ _ _ rfl | rfl | assumption) ?_
  refine z_getR d_X7_clear_14 f_X7_131 (by first | rfl | assumption) (by omega) (by first | exact hR _ _ _ rfl | rfl | assumption) ?_
  refine z_cSi d_X7_clear_17 q_X7_clear_123 ⟨rfl, rfl⟩ (ct_X7_sumOf (by first | rfl | assumption) (by omega) (by decide)) rfl rfl rfl ⟨Nat.zero_le _, Nat.zero_le _⟩ ?_
  refine z_iadd d_X7_clear_20 ?_
  refine z_aload_n d_X7_clear_21 rfl ?_
  refine z_getR d_X7_clear_22 f_X7_35 (by first | rfl | assumption) (by omega) (by first | exact hR _ _ _ rfl | rfl | assumption) ?_
  refine z_getR d_X7_clear_25 f_X7_109 (by first | rfl | assumption) (by omega) (by first | exact hR _ _ _ rfl | rfl | assumption) ?_
  refine z_cSi d_X7_clear_28 q_X7_clear_123 ⟨rfl, rfl⟩ (ct_X7_sumOf (by first | rfl | assumption) (by omega) (by decide)) rfl rfl rfl ⟨Nat.zero_le _, Nat.zero_le _⟩ ?_
  refine z_iadd d_X7_clear_31 ?_
  refine z_istore1 d_X7_clear_32 rfl ?_
  refine z_aload_n d_X7_clear_33 rfl ?_
  refine z_getR d_X7_clear_34 f_X7_35 (by first | rfl | assumption) (by omega) (by first | exact hR _ _ _ rfl | rfl | assumption) ?_
  refine z_cVv d_X7_clear_37 q_X7_clear_159 (by first | rfl | assumption) (by omega) ⟨rfl, rfl⟩ (ct_X0_drainAll (by assumption)) rfl rfl rfl ⟨Nat.zero_le _, Nat.zero_le _⟩ ?_
  refine z_mem (dr_I I L 16) (dr_L I L 16) rfl ?_
  refine z_iload_n d_X7_clear_40 rfl ?_
  exact z_ireturn d_X7_clear_41 rfl ⟨rfl, rfl, rfl, rfl, rfl⟩
