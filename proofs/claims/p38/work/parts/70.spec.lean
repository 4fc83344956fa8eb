set_option maxRecDepth 100000 in
set_option maxHeartbeats 4000000 in
theorem ct_X8_now {E : zE} {I : zI} {L : zL} {R : zR} {x : Int32} (hR : zLx R) : zCf E m_X8_now zShF [.ref 64, .int x] I L R (some (.long (if x = 0 then (sumV (fun j => I 65 (0 + j)) 48).toInt64 else if x = 1 then (sumV (fun j => I 65 (0 + 48 + j)) 8).toInt64 else if x = 2 then (sumV (fun j => I 65 (56 + j)) 48).toInt64 else if x = 3 then L 66 0 else if x = 4 then L 66 1 else if x = 5 then (cntV (fun j => !decide (I 65 j < I 68 0)) 48).toInt64 else if x = 6 then L 66 2 else -1))) (I) (L) (R) := by
  refine z_met (by decide) [some (.ref 64), some (.int x), none, none] rfl rfl (Nat.le_of_ble_eq_true rfl) (fun X => ?_)
  refine z_iconst d_X8_now_0 ki_0 ?_
  refine z_istore2 d_X8_now_1 rfl ?_
  refine z_iconst d_X8_now_2 ki_0 ?_
  refine z_istore3 d_X8_now_3 rfl ?_
  have loop : ∀ (Qs : State → Prop), (zZ E m_X8_now X Qs zShF 0 0 42 [some (.ref 64), some (.int x), some (.int (cntV (fun j => !decide (I 65 j < I 68 0)) 48)), some (.int (nI 48))] [] I L R) → ∀ i, i ≤ 48 → zZ E m_X8_now X Qs zShF 0 0 4 [some (.ref 64), some (.int x), some (.int (cntV (fun j => !decide (I 65 j < I 68 0)) i)), some (.int (nI i))] [] I L R := by
    intro Qs hx
    refine up_rec (fun i hi ih => ?_)
    refine z_iload_n d_X8_now_4 rfl ?_
    refine z_bipush d_X8_now_5 kb_48 ?_
    refine z_icmp_ge d_X8_now_7 (fun h_7 => ?_) (fun h_7 => ?_)
    · obtain rfl := eq_of_ge (n := 48) (by decide) hi h_7
      exact hx
    · have hlt := lt_of_nge (n := 48) (by decide) h_7 (by omega)
      refine z_iload_n d_X8_now_10 rfl ?_
      refine z_aload_n d_X8_now_11 rfl ?_
      refine z_getR d_X8_now_12 f_X8_7 (by first | rfl | assumption) (by omega) (by first | exact hR _ _ _ rfl | rfl | assumption) ?_
      refine z_iload_n d_X8_now_15 rfl ?_
      refine z_iaload d_X8_now_16 (by first | rfl | assumption) (by omega) (by first | exact zix_nI (by assumption) (by first | decide | assumption) | exact zix_nI (by omega) (by first | decide | assumption) | assumption) ?_
      refine z_aload_n d_X8_now_17 rfl ?_
      refine z_getR d_X8_now_18 f_X8_21 (by first | rfl | assumption) (by omega) (by first | exact hR _ _ _ rfl | rfl | assumption) ?_
      refine z_iconst d_X8_now_21 ki_0 ?_
      refine z_iaload d_X8_now_22 (by first | rfl | assumption) (by omega) (zix_lit 0 (by decide)) ?_
      refine z_icmp_lt d_X8_now_23 (fun h_23 => ?_) (fun h_23 => ?_)
      · refine z_iconst d_X8_now_30 ki_0 ?_
        refine z_topi (y := b2i (!decide (I 65 i < I 68 0))) (by simp [h_23, b2i]) ?_
        refine z_cSi d_X8_now_31 q_X8_now_237 ⟨rfl, rfl⟩ (ct_X8_flag (b := !decide (I 65 i < I 68 0))) rfl rfl rfl ⟨Nat.zero_le _, Nat.zero_le _⟩ ?_
        refine z_iadd d_X8_now_34 ?_
        refine z_istore2 d_X8_now_35 rfl ?_
        refine z_iinc3 d_X8_now_36 ki_1 rfl ?_
        refine z_goto d_X8_now_39 ?_
        have h := ih hlt
        rw [nI_1]
        rw [cntV] at h
        exact h
      · refine z_iconst d_X8_now_26 ki_1 ?_
        refine z_goto d_X8_now_27 ?_
        refine z_topi (y := b2i (!decide (I 65 i < I 68 0))) (by simp [h_23, b2i]) ?_
        refine z_cSi d_X8_now_31 q_X8_now_237 ⟨rfl, rfl⟩ (ct_X8_flag (b := !decide (I 65 i < I 68 0))) rfl rfl rfl ⟨Nat.zero_le _, Nat.zero_le _⟩ ?_
        refine z_iadd d_X8_now_34 ?_
        refine z_istore2 d_X8_now_35 rfl ?_
        refine z_iinc3 d_X8_now_36 ki_1 rfl ?_
        refine z_goto d_X8_now_39 ?_
        have h := ih hlt
        rw [nI_1]
        rw [cntV] at h
        exact h
  refine loop _ ?_ 0 (Nat.zero_le 48)
  generalize cntV (fun j => !decide (I 65 j < I 68 0)) 48 = fu
  refine z_iload_n d_X8_now_42 rfl ?_
  refine z_by (0) (fun e_43_0 => ?_) (fun e_43_0 => ?_)
  · refine z_tabIn (off := 41) (tgt := 84) d_X8_now_43 (by rw [e_43_0]; decide) (by rw [e_43_0]; decide) (by rw [e_43_0]; rfl) (by decide) ?_
    refine z_aload_n d_X8_now_84 rfl ?_
    refine z_iconst d_X8_now_85 ki_0 ?_
    refine z_bipush d_X8_now_86 kb_48 ?_
    refine z_cVi d_X8_now_88 q_X8_now_213 (by first | rfl | assumption) (by omega) ⟨rfl, rfl⟩ (ct_X8_sumOf (b := 0) (m := 48) hR (by decide)) rfl rfl rfl ⟨Nat.zero_le _, Nat.zero_le _⟩ ?_
    refine z_i2l d_X8_now_91 ?_
    exact z_lreturn d_X8_now_92 rfl ⟨by simp [*], rfl, rfl, rfl, rfl⟩
  refine z_by (1) (fun e_43_1 => ?_) (fun e_43_1 => ?_)
  · refine z_tabIn (off := 50) (tgt := 93) d_X8_now_43 (by rw [e_43_1]; decide) (by rw [e_43_1]; decide) (by rw [e_43_1]; rfl) (by decide) ?_
    refine z_aload_n d_X8_now_93 rfl ?_
    refine z_iconst d_X8_now_94 ki_0 ?_
    refine z_cVi d_X8_now_95 q_X8_now_226 (by first | rfl | assumption) (by omega) ⟨rfl, rfl⟩ (ct_X8_lineSum (b := 0) hR (by decide)) rfl rfl rfl ⟨Nat.zero_le _, Nat.zero_le _⟩ ?_
    refine z_i2l d_X8_now_98 ?_
    exact z_lreturn d_X8_now_99 rfl ⟨by simp [*], rfl, rfl, rfl, rfl⟩
  refine z_by (2) (fun e_43_2 => ?_) (fun e_43_2 => ?_)
  · refine z_tabIn (off := 57) (tgt := 100) d_X8_now_43 (by rw [e_43_2]; decide) (by rw [e_43_2]; decide) (by rw [e_43_2]; rfl) (by decide) ?_
    refine z_aload_n d_X8_now_100 rfl ?_
    refine z_bipush d_X8_now_101 kb_56 ?_
    refine z_bipush d_X8_now_103 kb_48 ?_
    refine z_cVi d_X8_now_105 q_X8_now_213 (by first | rfl | assumption) (by omega) ⟨rfl, rfl⟩ (ct_X8_sumOf (b := 56) (m := 48) hR (by decide)) rfl rfl rfl ⟨Nat.zero_le _, Nat.zero_le _⟩ ?_
    refine z_i2l d_X8_now_108 ?_
    exact z_lreturn d_X8_now_109 rfl ⟨by simp [*], rfl, rfl, rfl, rfl⟩
  refine z_by (3) (fun e_43_3 => ?_) (fun e_43_3 => ?_)
  · refine z_tabIn (off := 67) (tgt := 110) d_X8_now_43 (by rw [e_43_3]; decide) (by rw [e_43_3]; decide) (by rw [e_43_3]; rfl) (by decide) ?_
    refine z_aload_n d_X8_now_110 rfl ?_
    refine z_getR d_X8_now_111 f_X8_13 (by first | rfl | assumption) (by omega) (by first | exact hR _ _ _ rfl | rfl | assumption) ?_
    refine z_iconst d_X8_now_114 ki_0 ?_
    refine z_laload d_X8_now_115 (by first | rfl | assumption) (by omega) (zix_lit 0 (by decide)) ?_
    exact z_lreturn d_X8_now_116 rfl ⟨by simp [*], rfl, rfl, rfl, rfl⟩
  refine z_by (4) (fun e_43_4 => ?_) (fun e_43_4 => ?_)
  · refine z_tabIn (off := 74) (tgt := 117) d_X8_now_43 (by rw [e_43_4]; decide) (by rw [e_43_4]; decide) (by rw [e_43_4]; rfl) (by decide) ?_
    refine z_aload_n d_X8_now_117 rfl ?_
    refine z_getR d_X8_now_118 f_X8_13 (by first | rfl | assumption) (by omega) (by first | exact hR _ _ _ rfl | rfl | assumption) ?_
    refine z_iconst d_X8_now_121 ki_1 ?_
    refine z_laload d_X8_now_122 (by first | rfl | assumption) (by omega) (zix_lit 1 (by decide)) ?_
    exact z_lreturn d_X8_now_123 rfl ⟨by simp [*], rfl, rfl, rfl, rfl⟩
  refine z_by (5) (fun e_43_5 => ?_) (fun e_43_5 => ?_)
  · refine z_tabIn (off := 81) (tgt := 124) d_X8_now_43 (by rw [e_43_5]; decide) (by rw [e_43_5]; decide) (by rw [e_43_5]; rfl) (by decide) ?_
    refine z_iload_n d_X8_now_124 rfl ?_
    refine z_i2l d_X8_now_125 ?_
    exact z_lreturn d_X8_now_126 rfl ⟨by simp [*], rfl, rfl, rfl, rfl⟩
  refine z_by (6) (fun e_43_6 => ?_) (fun e_43_6 => ?_)
  · refine z_tabIn (off := 84) (tgt := 127) d_X8_now_43 (by rw [e_43_6]; decide) (by rw [e_43_6]; decide) (by rw [e_43_6]; rfl) (by decide) ?_
    refine z_aload_n d_X8_now_127 rfl ?_
    refine z_getR d_X8_now_128 f_X8_13 (by first | rfl | assumption) (by omega) (by first | exact hR _ _ _ rfl | rfl | assumption) ?_
    refine z_iconst d_X8_now_131 ki_2 ?_
    refine z_laload d_X8_now_132 (by first | rfl | assumption) (by omega) (zix_lit 2 (by decide)) ?_
    exact z_lreturn d_X8_now_133 rfl ⟨by simp [*], rfl, rfl, rfl, rfl⟩
  refine z_tabOut (tgt := 134) d_X8_now_43 (by have n_0 := sw_ne e_43_0; have n_1 := sw_ne e_43_1; have n_2 := sw_ne e_43_2; have n_3 := sw_ne e_43_3; have n_4 := sw_ne e_43_4; have n_5 := sw_ne e_43_5; have n_6 := sw_ne e_43_6; replace n_0 : _ ≠ (0 : Int) := n_0; replace n_1 : _ ≠ (1 : Int) := n_1; replace n_2 : _ ≠ (2 : Int) := n_2; replace n_3 : _ ≠ (3 : Int) := n_3; replace n_4 : _ ≠ (4 : Int) := n_4; replace n_5 : _ ≠ (5 : Int) := n_5; replace n_6 : _ ≠ (6 : Int) := n_6; omega) (by decide) ?_
  refine z_ldc2 d_X8_now_134 l_X8_241 ?_
  exact z_lreturn d_X8_now_137 rfl ⟨by simp [*], rfl, rfl, rfl, rfl⟩
