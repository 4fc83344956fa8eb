set_option maxRecDepth 100000 in
set_option maxHeartbeats 4000000 in
theorem ct_X7_late {E : zE} {I : zI} {L : zL} {R : zR} {c : Int32} (hR : zLx R) : zCf E m_X7_late zShF [.ref 0, .int c] I L R (some (.int (if in0 8 c = true then qLn (hdQ (I 4 0) (I 4 2) (I 4 3) (I 6) true (mkS I L 23 16 3 1 1 true).2) c.toNatClampNeg else -1))) (if in0 8 c = true then pI (pN I 23 1 1) 23 ((mkS I L 23 16 3 1 1 true).1, hdQ (I 4 0) (I 4 2) (I 4 3) (I 6) true (mkS I L 23 16 3 1 1 true).2) else I) (if in0 8 c = true then qL L 24 (hdQ (I 4 0) (I 4 2) (I 4 3) (I 6) true (mkS I L 23 16 3 1 1 true).2) else L) (R) := by
  have h16 := lC_16 hR; have h3 := lP_3 hR; have h23 := lQ_23 hR; have h24 := lC_24 hR
  refine z_met (by decide) [some (.ref 0), some (.int c)] rfl rfl (Nat.le_of_ble_eq_true rfl) (fun X => ?_)
  refine z_iload_n d_X7_late_0 rfl ?_
  refine z_cSi d_X7_late_1 q_X7_late_141 ⟨rfl, rfl⟩ (ct_X7_isColumn) rfl rfl rfl ⟨Nat.zero_le _, Nat.zero_le _⟩ ?_
  refine z_if_ne d_X7_late_4 (fun h_4 => ?_) (fun h_4 => ?_)
  · have hw := b1 h_4
    have hix := in0_ix (n := 8) hw (by decide)
    rw [hw, if_pos rfl, if_pos rfl, if_pos rfl]
    refine z_aload_n d_X7_late_9 rfl ?_
    refine z_getR d_X7_late_10 f_X7_50 (by first | rfl | assumption) (by omega) (by first | exact hR _ _ _ rfl | rfl | assumption) ?_
    refine z_aload_n d_X7_late_13 rfl ?_
    refine z_getR d_X7_late_14 f_X7_35 (by first | rfl | assumption) (by omega) (by first | exact hR _ _ _ rfl | rfl | assumption) ?_
    refine z_aload_n d_X7_late_17 rfl ?_
    refine z_getR d_X7_late_18 f_X7_19 (by first | rfl | assumption) (by omega) (by first | exact hR _ _ _ rfl | rfl | assumption) ?_
    refine z_iconst d_X7_late_21 ki_1 ?_
    refine z_iconst d_X7_late_22 ki_1 ?_
    refine z_iconst d_X7_late_23 ki_1 ?_
    refine z_cVv d_X7_late_24 q_X7_late_169 (by first | rfl | assumption) (by omega) ⟨rfl, rfl⟩ (ct_X2_make (v := 1) (h := 1) (sp := true) h23 h16 h3 (by omega) (by omega) (by omega) (by decide) (by decide) (by decide) (by decide)) rfl rfl rfl ⟨Nat.zero_le _, Nat.zero_le _⟩ ?_
    refine z_aload_n d_X7_late_27 rfl ?_
    refine z_getR d_X7_late_28 f_X7_50 (by first | rfl | assumption) (by omega) (by first | exact hR _ _ _ rfl | rfl | assumption) ?_
    refine z_getR d_X7_late_31 f_X7_188 (by first | rfl | assumption) (by omega) (by first | exact hR _ _ _ rfl | rfl | assumption) ?_
    refine z_aload_n d_X7_late_34 rfl ?_
    refine z_getR d_X7_late_35 f_X7_19 (by first | rfl | assumption) (by omega) (by first | exact hR _ _ _ rfl | rfl | assumption) ?_
    refine z_iconst d_X7_late_38 ki_1 ?_
    refine z_cVv d_X7_late_39 q_X7_late_127 (by first | rfl | assumption) (by omega) ⟨rfl, rfl⟩ (ct_X0_handDown (sp := true) h24 h3 (by omega)) rfl rfl rfl ⟨Nat.zero_le _, Nat.zero_le _⟩ ?_
    have e1 : pI (pN I 23 1 1) 23 (mkS I L 23 16 3 1 1 true) (3 + 1) = I 4 := by rw [pI_ne (by omega), pN_ne (by omega)]
    have e3 : pI (pN I 23 1 1) 23 (mkS I L 23 16 3 1 1 true) (3 + 3) = I 6 := by rw [pI_ne (by omega), pN_ne (by omega)]
    have eq := pI_of (pN I 23 1 1) L 23 (mkS I L 23 16 3 1 1 true)
    have e4 := pI_qI (pN I 23 1 1) 23 (mkS I L 23 16 3 1 1 true)
    rw [e1, e3, show qOf (pI (pN I 23 1 1) 23 (mkS I L 23 16 3 1 1 true)) (qL L (23 + 1) (mkS I L 23 16 3 1 1 true).2) 24 = _ from eq]
    refine z_mem (e4 _) (qL_qL L 24 _ _) rfl ?_
    refine z_aload_n d_X7_late_42 rfl ?_
    refine z_getR d_X7_late_43 f_X7_50 (by first | rfl | assumption) (by omega) (by first | exact hR _ _ _ rfl | rfl | assumption) ?_
    refine z_getR d_X7_late_46 f_X7_188 (by first | rfl | assumption) (by omega) (by first | exact hR _ _ _ rfl | rfl | assumption) ?_
    refine z_getR d_X7_late_49 f_X7_131 (by first | rfl | assumption) (by omega) (by first | exact hR _ _ _ rfl | rfl | assumption) ?_
    refine z_iload_n d_X7_late_52 rfl ?_
    refine z_iaload d_X7_late_53 (by first | rfl | assumption) (by omega) (by first | exact zix_nI (by assumption) (by first | decide | assumption) | exact zix_nI (by omega) (by first | decide | assumption) | assumption) ?_
    exact z_ireturn d_X7_late_54 rfl ⟨by rw [pI_q _ _ _ _ (by decide)]; exact congrArg (fun f => some (Value.int (f c.toNatClampNeg))) (qI_4 (pN I 23 1 1) 24 _), rfl, rfl, rfl, rfl⟩
  · have hw := b0 h_4
    refine z_iconst d_X7_late_7 ki_m1 ?_
    exact z_ireturn d_X7_late_8 rfl ⟨by rw [hw]; rfl, rfl, by rw [hw]; rfl, by rw [hw]; rfl, rfl⟩
