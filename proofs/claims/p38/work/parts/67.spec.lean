def clR (f : Nat → Int32) (n : Nat) : Nat → Int32 := fun j => if j < n ∧ ¬ (104 ≤ j ∧ j ≤ 151) then 0 else f j
theorem clR_0 (f : Nat → Int32) : clR f 0 = f := by
  funext j
  unfold clR
  rw [if_neg (by omega)]
theorem clR_s (f : Nat → Int32) (i : Nat) : va_up (clR f i) i (if 104 ≤ i ∧ i ≤ 151 then clR f i i else 0) = clR f (i + 1) := by
  funext j
  by_cases e : j = i
  · subst e
    rw [up_eq]
    unfold clR
    by_cases h : 104 ≤ j ∧ j ≤ 151
    · rw [if_pos h, if_neg (by omega), if_neg (by omega)]
    · rw [if_neg h, if_pos (by omega)]
  · rw [up_ne e]
    unfold clR
    by_cases h : j < i ∧ ¬ (104 ≤ j ∧ j ≤ 151)
    · rw [if_pos h, if_pos (by omega)]
    · rw [if_neg h, if_neg (by omega)]
theorem in_li {i : Nat} (hi : i < 2 ^ 31) : inV 104 151 (nI i) = true ↔ (104 ≤ i ∧ i ≤ 151) := by
  simp only [inV, Bool.and_eq_true, Bool.not_eq_true', decide_eq_false_iff_not]
  constructor
  · intro ⟨h1, h2⟩
    have g1 := (nI_leI (a := 104) (b := i) (by decide) hi).mp (Int32.not_lt.mp h1)
    have g2 := (nI_leI (a := i) (b := 151) hi (by decide)).mp (Int32.not_lt.mp h2)
    exact ⟨g1, g2⟩
  · intro ⟨h1, h2⟩
    exact ⟨Int32.not_lt.mpr ((nI_leI (a := 104) (b := i) (by decide) hi).mpr h1), Int32.not_lt.mpr ((nI_leI (a := i) (b := 151) hi (by decide)).mpr h2)⟩
set_option maxRecDepth 100000 in
set_option maxHeartbeats 4000000 in
theorem ct_X8_clear {E : zE} {I : zI} {L : zL} {R : zR} (hR : zLx R) : zCf E m_X8_clear zShF [.ref 64] I L R (some (.int (sumV (fun j => I 65 (0 + j)) 104))) (va_up I 65 (clR (I 65) 160)) (va_up L 66 (zfill (L 66) 3 0)) (R) := by
  refine z_met (by decide) [some (.ref 64), none, none] rfl rfl (Nat.le_of_ble_eq_true rfl) (fun X => ?_)
  refine z_aload_n d_X8_clear_0 rfl ?_
  refine z_iconst d_X8_clear_1 ki_0 ?_
  refine z_bipush d_X8_clear_2 kb_104 ?_
  refine z_cVi d_X8_clear_4 q_X8_clear_213 (by first | rfl | assumption) (by omega) ⟨rfl, rfl⟩ (ct_X8_sumOf (b := 0) (m := 104) hR (by decide)) rfl rfl rfl ⟨Nat.zero_le _, Nat.zero_le _⟩ ?_
  refine z_istore1 d_X8_clear_7 rfl ?_
  refine z_iconst d_X8_clear_8 ki_0 ?_
  refine z_istore2 d_X8_clear_9 rfl ?_
  generalize sumV (fun j => I 65 (0 + j)) 104 = sm
  have loop : ∀ (Qs : State → Prop), (zZ E m_X8_clear X Qs zShF 0 0 53 [some (.ref 64), some (.int sm), some (.int (nI 160))] [] (va_up I 65 (clR (I 65) 160)) L R) → ∀ i, i ≤ 160 → zZ E m_X8_clear X Qs zShF 0 0 10 [some (.ref 64), some (.int sm), some (.int (nI i))] [] (va_up I 65 (clR (I 65) i)) L R := by
    intro Qs hx
    refine up_rec (fun i hi ih => ?_)
    refine z_iload_n d_X8_clear_10 rfl ?_
    refine z_sipush d_X8_clear_11 ks_160 ?_
    refine z_icmp_ge d_X8_clear_14 (fun h_14 => ?_) (fun h_14 => ?_)
    · obtain rfl := eq_of_ge (n := 160) (by decide) hi h_14
      exact hx
    · have hlt := lt_of_nge (n := 160) (by decide) h_14 (by omega)
      refine z_aload_n d_X8_clear_17 rfl ?_
      refine z_getR d_X8_clear_18 f_X8_7 (by first | rfl | assumption) (by omega) (by first | exact hR _ _ _ rfl | rfl | assumption) ?_
      refine z_iload_n d_X8_clear_21 rfl ?_
      refine z_iload_n d_X8_clear_22 rfl ?_
      refine z_i2l d_X8_clear_23 ?_
      refine z_ldc2 d_X8_clear_24 l_X8_88 ?_
      refine z_ldc2 d_X8_clear_27 l_X8_90 ?_
      refine z_cSi d_X8_clear_30 q_X8_clear_92 ⟨rfl, rfl⟩ (ct_X8_in) rfl rfl rfl ⟨Nat.zero_le _, Nat.zero_le _⟩ ?_
      rw [inLc (lo := 104) (hi := 151) (by decide) (by decide)]
      refine z_if_eq d_X8_clear_33 (fun h_33 => ?_) (fun h_33 => ?_)
      · refine z_iconst d_X8_clear_45 ki_0 ?_
        refine z_iastore d_X8_clear_46 (by first | rfl | assumption) (by omega) (by first | exact zix_nI (by assumption) (by first | decide | assumption) | exact zix_nI (by omega) (by first | decide | assumption) | assumption) ?_
        refine z_iinc2 d_X8_clear_47 ki_1 rfl ?_
        refine z_goto d_X8_clear_50 ?_
        have h := ih hlt
        rw [← clR_s] at h
        rw [nI_1, zi_up]
        first
          | (rw [if_pos ((in_li (by omega)).mp (b1 h_33))] at h; rw [up_eq]; exact h)
          | (rw [if_neg (fun g => by rw [(in_li (by omega)).mpr g] at h_33; exact absurd h_33 (by decide))] at h; exact h)
      · refine z_aload_n d_X8_clear_36 rfl ?_
        refine z_getR d_X8_clear_37 f_X8_7 (by first | rfl | assumption) (by omega) (by first | exact hR _ _ _ rfl | rfl | assumption) ?_
        refine z_iload_n d_X8_clear_40 rfl ?_
        refine z_iaload d_X8_clear_41 (by first | rfl | assumption) (by omega) (by first | exact zix_nI (by assumption) (by first | decide | assumption) | exact zix_nI (by omega) (by first | decide | assumption) | assumption) ?_
        refine z_goto d_X8_clear_42 ?_
        refine z_iastore d_X8_clear_46 (by first | rfl | assumption) (by omega) (by first | exact zix_nI (by assumption) (by first | decide | assumption) | exact zix_nI (by omega) (by first | decide | assumption) | assumption) ?_
        refine z_iinc2 d_X8_clear_47 ki_1 rfl ?_
        refine z_goto d_X8_clear_50 ?_
        have h := ih hlt
        rw [← clR_s] at h
        rw [nI_1, zi_up]
        first
          | (rw [if_pos ((in_li (by omega)).mp (b1 h_33))] at h; rw [up_eq]; exact h)
          | (rw [if_neg (fun g => by rw [(in_li (by omega)).mpr g] at h_33; exact absurd h_33 (by decide))] at h; exact h)
  refine z_mem (I' := va_up I 65 (clR (I 65) 0)) (by rw [clR_0, up_self]) rfl rfl (loop _ ?_ 0 (Nat.zero_le 160))
  refine z_aload_n d_X8_clear_53 rfl ?_
  refine z_cVv d_X8_clear_54 q_X8_clear_96 (by first | rfl | assumption) (by omega) ⟨rfl, rfl⟩ (ct_X8_clearSums hR) rfl rfl rfl ⟨Nat.zero_le _, Nat.zero_le _⟩ ?_
  refine z_iload_n d_X8_clear_57 rfl ?_
  exact z_ireturn d_X8_clear_58 rfl ⟨rfl, rfl, rfl, rfl, rfl⟩
