def lgR (cap : Int32) (r : Nat → Int32) : Nat → Int32
  | 0 => 999
  | n + 1 => if r n = 0 then lgR cap r n else lsV (lgR cap r n) (cap / r n)
set_option maxRecDepth 100000 in
set_option maxHeartbeats 4000000 in
theorem ct_X8_longest {E : zE} {I : zI} {L : zL} {R : zR} (hR : zLx R) : zCf E m_X8_longest zShF [.ref 64] I L R (some (.int (lgR (I 68 0) (fun w => I 65 (104 + w) + I 69 w + I 68 1) 48))) (I) (L) (R) := by
  refine z_met (by decide) [some (.ref 64), none, none] rfl rfl (Nat.le_of_ble_eq_true rfl) (fun X => ?_)
  refine z_sipush d_X8_longest_0 ks_999 ?_
  refine z_istore1 d_X8_longest_3 rfl ?_
  refine z_iconst d_X8_longest_4 ki_0 ?_
  refine z_istore2 d_X8_longest_5 rfl ?_
  have loop : ∀ (Qs : State → Prop), (zZ E m_X8_longest X Qs zShF 0 0 47 [some (.ref 64), some (.int (lgR (I 68 0) (fun w => I 65 (104 + w) + I 69 w + I 68 1) 48)), some (.int (nI 48))] [] I L R) → ∀ i, i ≤ 48 → zZ E m_X8_longest X Qs zShF 0 0 6 [some (.ref 64), some (.int (lgR (I 68 0) (fun w => I 65 (104 + w) + I 69 w + I 68 1) i)), some (.int (nI i))] [] I L R := by
    intro Qs hx
    refine up_rec (fun i hi ih => ?_)
    refine z_iload_n d_X8_longest_6 rfl ?_
    refine z_bipush d_X8_longest_7 kb_48 ?_
    refine z_icmp_ge d_X8_longest_9 (fun h_9 => ?_) (fun h_9 => ?_)
    · obtain rfl := eq_of_ge (n := 48) (by decide) hi h_9
      exact hx
    · have hlt := lt_of_nge (n := 48) (by decide) h_9 (by omega)
      refine z_aload_n d_X8_longest_12 rfl ?_
      refine z_iload_n d_X8_longest_13 rfl ?_
      refine z_cVi d_X8_longest_14 q_X8_longest_204 (by first | rfl | assumption) (by omega) ⟨rfl, rfl⟩ (ct_X8_rateOf hR hlt) rfl rfl rfl ⟨Nat.zero_le _, Nat.zero_le _⟩ ?_
      refine z_if_ne d_X8_longest_17 (fun h_17 => ?_) (fun h_17 => ?_)
      · refine z_iload_n d_X8_longest_24 rfl ?_
        refine z_aload_n d_X8_longest_25 rfl ?_
        refine z_getR d_X8_longest_26 f_X8_21 (by first | rfl | assumption) (by omega) (by first | exact hR _ _ _ rfl | rfl | assumption) ?_
        refine z_iconst d_X8_longest_29 ki_0 ?_
        refine z_iaload d_X8_longest_30 (by first | rfl | assumption) (by omega) (zix_lit 0 (by decide)) ?_
        refine z_aload_n d_X8_longest_31 rfl ?_
        refine z_iload_n d_X8_longest_32 rfl ?_
        refine z_cVi d_X8_longest_33 q_X8_longest_204 (by first | rfl | assumption) (by omega) ⟨rfl, rfl⟩ (ct_X8_rateOf hR hlt) rfl rfl rfl ⟨Nat.zero_le _, Nat.zero_le _⟩ ?_
        refine z_idiv d_X8_longest_36 (by first | assumption | decide) ?_
        refine z_cSi d_X8_longest_37 q_X8_longest_191 ⟨rfl, rfl⟩ (ct_X8_less) rfl rfl rfl ⟨Nat.zero_le _, Nat.zero_le _⟩ ?_
        refine z_istore1 d_X8_longest_40 rfl ?_
        refine z_iinc2 d_X8_longest_41 ki_1 rfl ?_
        refine z_goto d_X8_longest_44 ?_
        have h := ih hlt
        rw [nI_1]
        first
          | (rw [lgR, if_pos h_17] at h; exact h)
          | (rw [lgR, if_neg h_17] at h; exact h)
      · refine z_iload_n d_X8_longest_20 rfl ?_
        refine z_goto d_X8_longest_21 ?_
        refine z_istore1 d_X8_longest_40 rfl ?_
        refine z_iinc2 d_X8_longest_41 ki_1 rfl ?_
        refine z_goto d_X8_longest_44 ?_
        have h := ih hlt
        rw [nI_1]
        first
          | (rw [lgR, if_pos h_17] at h; exact h)
          | (rw [lgR, if_neg h_17] at h; exact h)
  refine loop _ ?_ 0 (Nat.zero_le 48)
  refine z_iload_n d_X8_longest_47 rfl ?_
  exact z_ireturn d_X8_longest_48 rfl ⟨rfl, rfl, rfl, rfl, rfl⟩
