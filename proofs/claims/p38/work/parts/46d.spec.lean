set_option maxRecDepth 100000 in
set_option maxHeartbeats 4000000 in
theorem ct_X7_comesInTick {E : zE} {I : zI} {L : zL} {R : zR} {w : Int32} {j : Nat} (hR : zLx R) (hw : zix w 48 j) : zCf E m_X7_comesInTick zShF [.ref 0, .int w] I L R (some (.int (cmV I j))) (I) (L) (R) := by
  refine z_met (by decide) [some (.ref 0), some (.int w)] rfl rfl (Nat.le_of_ble_eq_true rfl) (fun X => ?_)
  refine z_aload_n d_X7_comesInTick_0 rfl ?_
  refine z_getR d_X7_comesInTick_1 f_X7_35 (by first | rfl | assumption) (by omega) (by first | exact hR _ _ _ rfl | rfl | assumption) ?_
  refine z_getR d_X7_comesInTick_4 f_X7_100 (by first | rfl | assumption) (by omega) (by first | exact hR _ _ _ rfl | rfl | assumption) ?_
  refine z_iload_n d_X7_comesInTick_7 rfl ?_
  refine z_iaload d_X7_comesInTick_8 (by first | rfl | assumption) (by omega) (by first | exact zix_nI (by assumption) (by first | decide | assumption) | exact zix_nI (by omega) (by first | decide | assumption) | assumption) ?_
  refine z_aload_n d_X7_comesInTick_9 rfl ?_
  refine z_getR d_X7_comesInTick_10 f_X7_19 (by first | rfl | assumption) (by omega) (by first | exact hR _ _ _ rfl | rfl | assumption) ?_
  refine z_getR d_X7_comesInTick_13 f_X7_103 (by first | rfl | assumption) (by omega) (by first | exact hR _ _ _ rfl | rfl | assumption) ?_
  refine z_iload_n d_X7_comesInTick_16 rfl ?_
  refine z_iaload d_X7_comesInTick_17 (by first | rfl | assumption) (by omega) (by first | exact zix_nI (by assumption) (by first | decide | assumption) | exact zix_nI (by omega) (by first | decide | assumption) | assumption) ?_
  refine z_iadd d_X7_comesInTick_18 ?_
  refine z_aload_n d_X7_comesInTick_19 rfl ?_
  refine z_getR d_X7_comesInTick_20 f_X7_19 (by first | rfl | assumption) (by omega) (by first | exact hR _ _ _ rfl | rfl | assumption) ?_
  refine z_getR d_X7_comesInTick_23 f_X7_89 (by first | rfl | assumption) (by omega) (by first | exact hR _ _ _ rfl | rfl | assumption) ?_
  refine z_iconst d_X7_comesInTick_26 ki_1 ?_
  refine z_iaload d_X7_comesInTick_27 (by first | rfl | assumption) (by omega) (zix_lit 1 (by decide)) ?_
  refine z_iadd d_X7_comesInTick_28 ?_
  exact z_ireturn d_X7_comesInTick_29 rfl ⟨rfl, rfl, rfl, rfl, rfl⟩
set_option maxRecDepth 100000 in
set_option maxHeartbeats 4000000 in
theorem ct_X7_full {E : zE} {I : zI} {L : zL} {R : zR} {w : Int32} (hR : zLx R) : zCf E m_X7_full zShF [.ref 0, .int w] I L R (some (.int (if isW w = true then (if 1 ≤ cmV I w.toNatClampNeg then binV (I 4 0) (cmV I w.toNatClampNeg) else -4) else -1))) (I) (L) (R) := by
  refine z_met (by decide) [some (.ref 0), some (.int w), none] rfl rfl (Nat.le_of_ble_eq_true rfl) (fun X => ?_)
  refine z_iload_n d_X7_full_0 rfl ?_
  refine z_cSi d_X7_full_1 q_X7_full_93 ⟨rfl, rfl⟩ (ct_X7_isWell) rfl rfl rfl ⟨Nat.zero_le _, Nat.zero_le _⟩ ?_
  refine z_if_ne d_X7_full_4 (fun h_4 => ?_) (fun h_4 => ?_)
  · have hw := b1 h_4; have hix := isW_ix hw
    refine z_aload_n d_X7_full_9 rfl ?_
    refine z_iload_n d_X7_full_10 rfl ?_
    refine z_cVi d_X7_full_11 q_X7_full_200 (by first | rfl | assumption) (by omega) ⟨rfl, rfl⟩ (ct_X7_comesInTick hR (by first | assumption | exact zix_nI (by assumption) (by decide))) rfl rfl rfl ⟨Nat.zero_le _, Nat.zero_le _⟩ ?_
    refine z_istore2 d_X7_full_14 rfl ?_
    refine z_iload_n d_X7_full_15 rfl ?_
    refine z_iconst d_X7_full_16 ki_1 ?_
    refine z_icmp_ge d_X7_full_17 (fun h_17 => ?_) (fun h_17 => ?_)
    · refine z_aload_n d_X7_full_25 rfl ?_
      refine z_getR d_X7_full_26 f_X7_19 (by first | rfl | assumption) (by omega) (by first | exact hR _ _ _ rfl | rfl | assumption) ?_
      refine z_getR d_X7_full_29 f_X7_89 (by first | rfl | assumption) (by omega) (by first | exact hR _ _ _ rfl | rfl | assumption) ?_
      refine z_iconst d_X7_full_32 ki_0 ?_
      refine z_iaload d_X7_full_33 (by first | rfl | assumption) (by omega) (zix_lit 0 (by decide)) ?_
      refine z_iload_n d_X7_full_34 rfl ?_
      refine z_cSi d_X7_full_35 q_X7_full_165 ⟨rfl, rfl⟩ (ct_X7_binsOf) rfl rfl rfl ⟨Nat.zero_le _, Nat.zero_le _⟩ ?_
      exact z_ireturn d_X7_full_38 rfl ⟨by rw [if_pos hw]; simp [*], rfl, rfl, rfl, rfl⟩
    · refine z_bipush d_X7_full_20 kb_m4 ?_
      refine z_goto d_X7_full_22 ?_
      exact z_ireturn d_X7_full_38 rfl ⟨by rw [if_pos hw]; simp [*], rfl, rfl, rfl, rfl⟩
  · have hw := b0 h_4
    refine z_iconst d_X7_full_7 ki_m1 ?_
    exact z_ireturn d_X7_full_8 rfl ⟨by rw [hw]; rfl, rfl, rfl, rfl, rfl⟩
set_option maxRecDepth 100000 in
set_option maxHeartbeats 4000000 in
theorem ct_X7_longest {E : zE} {I : zI} {L : zL} {R : zR} (hR : zLx R) : zCf E m_X7_longest zShF [.ref 0] I L R (some (.int (lonV (I 4 0) (grV (cmV I) 48)))) (I) (L) (R) := by
  refine z_met (by decide) [some (.ref 0), none, none] rfl rfl (Nat.le_of_ble_eq_true rfl) (fun X => ?_)
  refine z_iconst d_X7_longest_0 ki_0 ?_
  refine z_istore1 d_X7_longest_1 rfl ?_
  refine z_iconst d_X7_longest_2 ki_0 ?_
  refine z_istore2 d_X7_longest_3 rfl ?_
  have loop : ∀ (Qs : State → Prop), (zZ E m_X7_longest X Qs zShF 0 0 26 [some (.ref 0), some (.int (grV (cmV I) 48)), some (.int (nI 48))] [] I L R) → ∀ i, i ≤ 48 → zZ E m_X7_longest X Qs zShF 0 0 4 [some (.ref 0), some (.int (grV (cmV I) i)), some (.int (nI i))] [] I L R := by
    intro Qs hx
    refine up_rec (fun i hi ih => ?_)
    refine z_iload_n d_X7_longest_4 rfl ?_
    refine z_bipush d_X7_longest_5 kb_48 ?_
    refine z_icmp_ge d_X7_longest_7 (fun h_7 => ?_) (fun h_7 => ?_)
    · obtain rfl := eq_of_ge (n := 48) (by decide) hi h_7
      exact hx
    · have hlt := lt_of_nge (n := 48) (by decide) h_7 (by omega)
      refine z_iload_n d_X7_longest_10 rfl ?_
      refine z_aload_n d_X7_longest_11 rfl ?_
      refine z_iload_n d_X7_longest_12 rfl ?_
      refine z_cVi d_X7_longest_13 q_X7_longest_200 (by first | rfl | assumption) (by omega) ⟨rfl, rfl⟩ (ct_X7_comesInTick hR (by first | assumption | exact zix_nI (by assumption) (by decide))) rfl rfl rfl ⟨Nat.zero_le _, Nat.zero_le _⟩ ?_
      refine z_mmax d_X7_longest_16 q_X7_longest_197 (by decide) (Nat.le_of_ble_eq_true rfl) ⟨Nat.zero_le _, Nat.zero_le _⟩ ?_
      refine z_istore1 d_X7_longest_19 rfl ?_
      refine z_iinc2 d_X7_longest_20 ki_1 rfl ?_
      refine z_goto d_X7_longest_23 ?_
      rw [nI_1]
      exact ih hlt
  refine loop _ ?_ 0 (Nat.zero_le 48)
  generalize grV (cmV I) 48 = most
  refine z_iload_n d_X7_longest_26 rfl ?_
  refine z_iconst d_X7_longest_27 ki_1 ?_
  refine z_icmp_ge d_X7_longest_28 (fun h_28 => ?_) (fun h_28 => ?_)
  · refine z_sipush d_X7_longest_37 ks_999 ?_
    refine z_aload_n d_X7_longest_40 rfl ?_
    refine z_getR d_X7_longest_41 f_X7_19 (by first | rfl | assumption) (by omega) (by first | exact hR _ _ _ rfl | rfl | assumption) ?_
    refine z_getR d_X7_longest_44 f_X7_89 (by first | rfl | assumption) (by omega) (by first | exact hR _ _ _ rfl | rfl | assumption) ?_
    refine z_iconst d_X7_longest_47 ki_0 ?_
    refine z_iaload d_X7_longest_48 (by first | rfl | assumption) (by omega) (zix_lit 0 (by decide)) ?_
    refine z_iload_n d_X7_longest_49 rfl ?_
    refine z_idiv d_X7_longest_50 (by intro q; subst q; exact absurd h_28 (by decide)) ?_
    refine z_mmin d_X7_longest_51 q_X7_longest_203 (by decide) (Nat.le_of_ble_eq_true rfl) ⟨Nat.zero_le _, Nat.zero_le _⟩ ?_
    exact z_ireturn d_X7_longest_54 rfl ⟨by simp only [lonV, h_28, if_true, if_false]; try rfl, rfl, rfl, rfl, rfl⟩
  · refine z_sipush d_X7_longest_31 ks_999 ?_
    refine z_goto d_X7_longest_34 ?_
    exact z_ireturn d_X7_longest_54 rfl ⟨by simp only [lonV, h_28, if_true, if_false]; try rfl, rfl, rfl, rfl, rfl⟩
