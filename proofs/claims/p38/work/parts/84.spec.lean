/-! the reference's draft, its constructor -/
def r0V (i : Nat) : Int32 := if i = 0 then 200 else if i = 4 ∨ i = 5 then 1 else if i = 6 then 3 else 0
def fdD (I : zI) : zI := zi (zi (zi (va_up (va_up (va_up (va_up I 73 (zfill (I 73) 48 0)) 74 (zfill (I 74) 48 0)) 75 (zfill (I 75) 48 0)) 72 (zcp r0V (I 72) 7)) 64 12 0) 64 14 0) 64 15 0
theorem dr_s (I : zI) (i : Nat) : zi (zi (zi (va_up (va_up (va_up I 73 (zfill (I 73) i 0)) 74 (zfill (I 74) i 0)) 75 (zfill (I 75) i 0)) 73 i 0) 74 i 0) 75 i 0 = va_up (va_up (va_up I 73 (zfill (I 73) (i + 1) 0)) 74 (zfill (I 74) (i + 1) 0)) 75 (zfill (I 75) (i + 1) 0) := by
  rw [zi_up2 (show 73 ≠ 75 by decide), zi_up2 (show 73 ≠ 74 by decide), zi_up, zi_up2 (show 74 ≠ 75 by decide), zi_up, zi_up, zfill_s, zfill_s, zfill_s]
def kdS (f l : Nat → Int32) (i : Nat) : Nat → Int32 := fun j => if j < i then (if 104 ≤ j ∧ j ≤ 151 then l (j - 104) else 0) else f j
theorem kdS_0 (f l : Nat → Int32) : kdS f l 0 = f := by funext j; simp [kdS]
theorem kdS_s (f l : Nat → Int32) (i : Nat) : va_up (kdS f l i) i (if 104 ≤ i ∧ i ≤ 151 then l (i - 104) else 0) = kdS f l (i + 1) := by
  funext j
  by_cases h : j = i
  · subst h
    rw [up_eq]
    unfold kdS
    rw [if_pos (show j < j + 1 by omega)]
  · rw [up_ne h]
    unfold kdS
    by_cases h2 : j < i
    · rw [if_pos h2, if_pos (show j < i + 1 by omega)]
    · rw [if_neg h2, if_neg (by omega)]
def kdI (I : zI) : zI := zi (zi (va_up (zi (va_up (va_up (va_up (va_up I 65 (kdS (I 65) (I 73) 160)) 69 (zcp (I 74) (I 69) 48)) 70 (zcp (I 75) (I 70) 48)) 68 (zcp (I 72) (I 68) 7)) 64 6 (I 64 12)) 71 (zcp (I 76) (I 71) 12)) 67 0 0) 67 1 0
def kdL (L : zL) : zL := va_up L 66 (zfill (L 66) 3 0)
theorem kd_s2 (I : zI) (a b c d : Nat → Int32) (i : Nat) : zi (zi (va_up (va_up I 69 (zcp a b i)) 70 (zcp c d i)) 69 i (a i)) 70 i (c i) = va_up (va_up I 69 (zcp a b (i + 1))) 70 (zcp c d (i + 1)) := by
  rw [zi_up2 (show 69 ≠ 70 by decide), zi_up, zi_up, zcp_s, zcp_s]
set_option maxRecDepth 100000 in
set_option maxHeartbeats 4000000 in
theorem ct_X8_firstDraft {E : zE} {I : zI} {L : zL} {R : zR} (hR : R 64 9 = some 73 ∧ R 64 10 = some 74 ∧ R 64 11 = some 75 ∧ R 64 8 = some 72) : zCf E m_X8_firstDraft zShF [.ref 64] I L R (none) (fdD I) (L) (R) := by
  obtain ⟨h9, h10, h11, h8⟩ := hR
  refine z_met (by decide) [some (.ref 64), none] rfl rfl (Nat.le_of_ble_eq_true rfl) (fun X => ?_)
  refine z_iconst d_X8_firstDraft_0 ki_0 ?_
  refine z_istore1 d_X8_firstDraft_1 rfl ?_
  have loop : ∀ (Qs : State → Prop), (zZ E m_X8_firstDraft X Qs zShF 0 0 35 [some (.ref 64), some (.int (nI 48))] [] (va_up (va_up (va_up I 73 (zfill (I 73) 48 0)) 74 (zfill (I 74) 48 0)) 75 (zfill (I 75) 48 0)) L R) → ∀ i, i ≤ 48 → zZ E m_X8_firstDraft X Qs zShF 0 0 2 [some (.ref 64), some (.int (nI i))] [] (va_up (va_up (va_up I 73 (zfill (I 73) i 0)) 74 (zfill (I 74) i 0)) 75 (zfill (I 75) i 0)) L R := by
    intro Qs hx
    refine up_rec (fun i hi' ih => ?_)
    refine z_iload_n d_X8_firstDraft_2 rfl ?_
    refine z_bipush d_X8_firstDraft_3 kb_48 ?_
    refine z_icmp_ge d_X8_firstDraft_5 (fun h_5 => ?_) (fun h_5 => ?_)
    · obtain rfl := eq_of_ge (n := 48) (by decide) hi' h_5
      exact hx
    · have hlt := lt_of_nge (n := 48) (by decide) h_5 (by omega)
      refine z_aload_n d_X8_firstDraft_8 rfl ?_
      refine z_getR d_X8_firstDraft_9 f_X8_36 (by first | rfl | assumption) (by omega) (by first | exact hR _ _ _ rfl | rfl | assumption) ?_
      refine z_iload_n d_X8_firstDraft_12 rfl ?_
      refine z_iconst d_X8_firstDraft_13 ki_0 ?_
      refine z_iastore d_X8_firstDraft_14 (by first | rfl | assumption) (by omega) (by first | exact zix_nI (by assumption) (by first | decide | assumption) | exact zix_nI (by omega) (by first | decide | assumption) | assumption) ?_
      refine z_aload_n d_X8_firstDraft_15 rfl ?_
      refine z_getR d_X8_firstDraft_16 f_X8_39 (by first | rfl | assumption) (by omega) (by first | exact hR _ _ _ rfl | rfl | assumption) ?_
      refine z_iload_n d_X8_firstDraft_19 rfl ?_
      refine z_iconst d_X8_firstDraft_20 ki_0 ?_
      refine z_iastore d_X8_firstDraft_21 (by first | rfl | assumption) (by omega) (by first | exact zix_nI (by assumption) (by first | decide | assumption) | exact zix_nI (by omega) (by first | decide | assumption) | assumption) ?_
      refine z_aload_n d_X8_firstDraft_22 rfl ?_
      refine z_getR d_X8_firstDraft_23 f_X8_42 (by first | rfl | assumption) (by omega) (by first | exact hR _ _ _ rfl | rfl | assumption) ?_
      refine z_iload_n d_X8_firstDraft_26 rfl ?_
      refine z_iconst d_X8_firstDraft_27 ki_0 ?_
      refine z_iastore d_X8_firstDraft_28 (by first | rfl | assumption) (by omega) (by first | exact zix_nI (by assumption) (by first | decide | assumption) | exact zix_nI (by omega) (by first | decide | assumption) | assumption) ?_
      refine z_iinc1 d_X8_firstDraft_29 ki_1 rfl ?_
      refine z_goto d_X8_firstDraft_32 ?_
      rw [nI_1, dr_s]
      exact ih hlt
  refine z_mem (I' := va_up (va_up (va_up I 73 (zfill (I 73) 0 0)) 74 (zfill (I 74) 0 0)) 75 (zfill (I 75) 0 0)) (by rw [zfill_0, zfill_0, zfill_0, up_self, up_self, up_self]) rfl rfl (loop _ ?_ 0 (Nat.zero_le 48))
  refine z_iconst d_X8_firstDraft_35 ki_0 ?_
  refine z_istore1 d_X8_firstDraft_36 rfl ?_
  generalize hJ : va_up (va_up (va_up I 73 (zfill (I 73) 48 0)) 74 (zfill (I 74) 48 0)) 75 (zfill (I 75) 48 0) = J
  have hJ2 : J 72 = I 72 := by rw [← hJ]; rfl
  have hfd : fdD I = zi (zi (zi (va_up J 72 (zcp r0V (J 72) 7)) 64 12 0) 64 14 0) 64 15 0 := by rw [hJ2, ← hJ]; rfl
  rw [hfd]
  have loop : ∀ (Qs : State → Prop), (zZ E m_X8_firstDraft X Qs zShF 0 0 90 [some (.ref 64), some (.int (nI 7))] [] (va_up J 72 (zcp r0V (J 72) 7)) L R) → ∀ i, i ≤ 7 → zZ E m_X8_firstDraft X Qs zShF 0 0 37 [some (.ref 64), some (.int (nI i))] [] (va_up J 72 (zcp r0V (J 72) i)) L R := by
    intro Qs hx
    refine up_rec (fun i hi' ih => ?_)
    refine z_iload_n d_X8_firstDraft_37 rfl ?_
    refine z_bipush d_X8_firstDraft_38 kb_7 ?_
    refine z_icmp_ge d_X8_firstDraft_40 (fun h_40 => ?_) (fun h_40 => ?_)
    · obtain rfl := eq_of_ge (n := 7) (by decide) hi' h_40
      exact hx
    · have hlt := lt_of_nge (n := 7) (by decide) h_40 (by omega)
      have e0 : nI i = 0 ↔ i = 0 := nI_eq (a := i) (b := 0) (by omega) (by decide)
      have e4 : nI i = 4 ↔ i = 4 := nI_eq (a := i) (b := 4) (by omega) (by decide)
      have e5 : nI i = 5 ↔ i = 5 := nI_eq (a := i) (b := 5) (by omega) (by decide)
      have e6 : nI i = 6 ↔ i = 6 := nI_eq (a := i) (b := 6) (by omega) (by decide)
      refine z_aload_n d_X8_firstDraft_43 rfl ?_
      refine z_getR d_X8_firstDraft_44 f_X8_33 (by first | rfl | assumption) (by omega) (by first | exact hR _ _ _ rfl | rfl | assumption) ?_
      refine z_iload_n d_X8_firstDraft_47 rfl ?_
      refine z_iload_n d_X8_firstDraft_48 rfl ?_
      refine z_if_ne d_X8_firstDraft_49 (fun h_49 => ?_) (fun h_49 => ?_)
      · refine z_iload_n d_X8_firstDraft_58 rfl ?_
        refine z_iconst d_X8_firstDraft_59 ki_4 ?_
        refine z_icmp_eq d_X8_firstDraft_60 (fun h_60 => ?_) (fun h_60 => ?_)
        · refine z_iconst d_X8_firstDraft_68 ki_1 ?_
          refine z_goto d_X8_firstDraft_69 ?_
          refine z_topi (y := r0V i) (by
            unfold r0V
            first
              | rw [if_pos (e0.mp h_49)]
              | rw [if_neg (mt e0.mpr h_49), if_pos (Or.inl (e4.mp h_60))]
              | rw [if_neg (mt e0.mpr h_49), if_pos (Or.inr (e5.mp h_65))]
              | rw [if_neg (mt e0.mpr h_49), if_neg (fun q => q.elim (mt e4.mpr h_60) (mt e5.mpr h_65)), if_pos (e6.mp h_75)]
              | rw [if_neg (mt e0.mpr h_49), if_neg (fun q => q.elim (mt e4.mpr h_60) (mt e5.mpr h_65)), if_neg (mt e6.mpr h_75)]) ?_
          refine z_iastore d_X8_firstDraft_83 (by first | rfl | assumption) (by omega) (by first | exact zix_nI (by assumption) (by first | decide | assumption) | exact zix_nI (by omega) (by first | decide | assumption) | assumption) ?_
          refine z_iinc1 d_X8_firstDraft_84 ki_1 rfl ?_
          refine z_goto d_X8_firstDraft_87 ?_
          rw [nI_1, zi_up, zcp_s]
          exact ih hlt
        · refine z_iload_n d_X8_firstDraft_63 rfl ?_
          refine z_iconst d_X8_firstDraft_64 ki_5 ?_
          refine z_icmp_ne d_X8_firstDraft_65 (fun h_65 => ?_) (fun h_65 => ?_)
          · refine z_iload_n d_X8_firstDraft_72 rfl ?_
            refine z_bipush d_X8_firstDraft_73 kb_6 ?_
            refine z_icmp_ne d_X8_firstDraft_75 (fun h_75 => ?_) (fun h_75 => ?_)
            · refine z_iconst d_X8_firstDraft_82 ki_0 ?_
              refine z_topi (y := r0V i) (by
                unfold r0V
                first
                  | rw [if_pos (e0.mp h_49)]
                  | rw [if_neg (mt e0.mpr h_49), if_pos (Or.inl (e4.mp h_60))]
                  | rw [if_neg (mt e0.mpr h_49), if_pos (Or.inr (e5.mp h_65))]
                  | rw [if_neg (mt e0.mpr h_49), if_neg (fun q => q.elim (mt e4.mpr h_60) (mt e5.mpr h_65)), if_pos (e6.mp h_75)]
                  | rw [if_neg (mt e0.mpr h_49), if_neg (fun q => q.elim (mt e4.mpr h_60) (mt e5.mpr h_65)), if_neg (mt e6.mpr h_75)]) ?_
              refine z_iastore d_X8_firstDraft_83 (by first | rfl | assumption) (by omega) (by first | exact zix_nI (by assumption) (by first | decide | assumption) | exact zix_nI (by omega) (by first | decide | assumption) | assumption) ?_
              refine z_iinc1 d_X8_firstDraft_84 ki_1 rfl ?_
              refine z_goto d_X8_firstDraft_87 ?_
              rw [nI_1, zi_up, zcp_s]
              exact ih hlt
            · refine z_iconst d_X8_firstDraft_78 ki_3 ?_
              refine z_goto d_X8_firstDraft_79 ?_
              refine z_topi (y := r0V i) (by
                unfold r0V
                first
                  | rw [if_pos (e0.mp h_49)]
                  | rw [if_neg (mt e0.mpr h_49), if_pos (Or.inl (e4.mp h_60))]
                  | rw [if_neg (mt e0.mpr h_49), if_pos (Or.inr (e5.mp h_65))]
                  | rw [if_neg (mt e0.mpr h_49), if_neg (fun q => q.elim (mt e4.mpr h_60) (mt e5.mpr h_65)), if_pos (e6.mp h_75)]
                  | rw [if_neg (mt e0.mpr h_49), if_neg (fun q => q.elim (mt e4.mpr h_60) (mt e5.mpr h_65)), if_neg (mt e6.mpr h_75)]) ?_
              refine z_iastore d_X8_firstDraft_83 (by first | rfl | assumption) (by omega) (by first | exact zix_nI (by assumption) (by first | decide | assumption) | exact zix_nI (by omega) (by first | decide | assumption) | assumption) ?_
              refine z_iinc1 d_X8_firstDraft_84 ki_1 rfl ?_
              refine z_goto d_X8_firstDraft_87 ?_
              rw [nI_1, zi_up, zcp_s]
              exact ih hlt
          · refine z_iconst d_X8_firstDraft_68 ki_1 ?_
            refine z_goto d_X8_firstDraft_69 ?_
            refine z_topi (y := r0V i) (by
              unfold r0V
              first
                | rw [if_pos (e0.mp h_49)]
                | rw [if_neg (mt e0.mpr h_49), if_pos (Or.inl (e4.mp h_60))]
                | rw [if_neg (mt e0.mpr h_49), if_pos (Or.inr (e5.mp h_65))]
                | rw [if_neg (mt e0.mpr h_49), if_neg (fun q => q.elim (mt e4.mpr h_60) (mt e5.mpr h_65)), if_pos (e6.mp h_75)]
                | rw [if_neg (mt e0.mpr h_49), if_neg (fun q => q.elim (mt e4.mpr h_60) (mt e5.mpr h_65)), if_neg (mt e6.mpr h_75)]) ?_
            refine z_iastore d_X8_firstDraft_83 (by first | rfl | assumption) (by omega) (by first | exact zix_nI (by assumption) (by first | decide | assumption) | exact zix_nI (by omega) (by first | decide | assumption) | assumption) ?_
            refine z_iinc1 d_X8_firstDraft_84 ki_1 rfl ?_
            refine z_goto d_X8_firstDraft_87 ?_
            rw [nI_1, zi_up, zcp_s]
            exact ih hlt
      · refine z_sipush d_X8_firstDraft_52 ks_200 ?_
        refine z_goto d_X8_firstDraft_55 ?_
        refine z_topi (y := r0V i) (by
          unfold r0V
          first
            | rw [if_pos (e0.mp h_49)]
            | rw [if_neg (mt e0.mpr h_49), if_pos (Or.inl (e4.mp h_60))]
            | rw [if_neg (mt e0.mpr h_49), if_pos (Or.inr (e5.mp h_65))]
            | rw [if_neg (mt e0.mpr h_49), if_neg (fun q => q.elim (mt e4.mpr h_60) (mt e5.mpr h_65)), if_pos (e6.mp h_75)]
            | rw [if_neg (mt e0.mpr h_49), if_neg (fun q => q.elim (mt e4.mpr h_60) (mt e5.mpr h_65)), if_neg (mt e6.mpr h_75)]) ?_
        refine z_iastore d_X8_firstDraft_83 (by first | rfl | assumption) (by omega) (by first | exact zix_nI (by assumption) (by first | decide | assumption) | exact zix_nI (by omega) (by first | decide | assumption) | assumption) ?_
        refine z_iinc1 d_X8_firstDraft_84 ki_1 rfl ?_
        refine z_goto d_X8_firstDraft_87 ?_
        rw [nI_1, zi_up, zcp_s]
        exact ih hlt
  refine z_mem (I' := va_up J 72 (zcp r0V (J 72) 0)) (by rw [zcp_0, up_self]) rfl rfl (loop _ ?_ 0 (Nat.zero_le 7))
  refine z_aload_n d_X8_firstDraft_90 rfl ?_
  refine z_iconst d_X8_firstDraft_91 ki_0 ?_
  refine z_putI d_X8_firstDraft_92 f_X8_78 p_X8_12 (by first | rfl | assumption) (by omega) ?_
  refine z_aload_n d_X8_firstDraft_95 rfl ?_
  refine z_iconst d_X8_firstDraft_96 ki_0 ?_
  refine z_putI d_X8_firstDraft_97 f_X8_82 p_X8_14 (by first | rfl | assumption) (by omega) ?_
  refine z_aload_n d_X8_firstDraft_100 rfl ?_
  refine z_iconst d_X8_firstDraft_101 ki_0 ?_
  refine z_putI d_X8_firstDraft_102 f_X8_85 p_X8_15 (by first | rfl | assumption) (by omega) ?_
  exact z_return d_X8_firstDraft_105 rfl ⟨rfl, rfl, rfl, rfl, rfl⟩
set_option maxRecDepth 100000 in
set_option maxHeartbeats 4000000 in
theorem ct_X8_keepDraft {E : zE} {I : zI} {L : zL} {R : zR} (hR : zLx R) : zCf E m_X8_keepDraft zShF [.ref 64] I L R (none) (kdI I) (kdL L) (R) := by
  refine z_met (by decide) [some (.ref 64), none] rfl rfl (Nat.le_of_ble_eq_true rfl) (fun X => ?_)
  refine z_iconst d_X8_keepDraft_0 ki_0 ?_
  refine z_istore1 d_X8_keepDraft_1 rfl ?_
  have loop : ∀ (Qs : State → Prop), (zZ E m_X8_keepDraft X Qs zShF 0 0 48 [some (.ref 64), some (.int (nI 160))] [] (va_up I 65 (kdS (I 65) (I 73) 160)) L R) → ∀ i, i ≤ 160 → zZ E m_X8_keepDraft X Qs zShF 0 0 2 [some (.ref 64), some (.int (nI i))] [] (va_up I 65 (kdS (I 65) (I 73) i)) L R := by
    intro Qs hx
    refine up_rec (fun i hi' ih => ?_)
    refine z_iload_n d_X8_keepDraft_2 rfl ?_
    refine z_sipush d_X8_keepDraft_3 ks_160 ?_
    refine z_icmp_ge d_X8_keepDraft_6 (fun h_6 => ?_) (fun h_6 => ?_)
    · obtain rfl := eq_of_ge (n := 160) (by decide) hi' h_6
      exact hx
    · have hlt := lt_of_nge (n := 160) (by decide) h_6 (by omega)
      refine z_aload_n d_X8_keepDraft_9 rfl ?_
      refine z_getR d_X8_keepDraft_10 f_X8_7 (by first | rfl | assumption) (by omega) (by first | exact hR _ _ _ rfl | rfl | assumption) ?_
      refine z_iload_n d_X8_keepDraft_13 rfl ?_
      refine z_iload_n d_X8_keepDraft_14 rfl ?_
      refine z_i2l d_X8_keepDraft_15 ?_
      refine z_ldc2 d_X8_keepDraft_16 l_X8_88 ?_
      refine z_ldc2 d_X8_keepDraft_19 l_X8_90 ?_
      refine z_cSi d_X8_keepDraft_22 q_X8_keepDraft_92 ⟨rfl, rfl⟩ (ct_X8_in) rfl rfl rfl ⟨Nat.zero_le _, Nat.zero_le _⟩ ?_
      rw [inLc (lo := 104) (hi := 151) (by decide) (by decide)]
      refine z_if_eq d_X8_keepDraft_25 (fun h_25 => ?_) (fun h_25 => ?_)
      · refine z_iconst d_X8_keepDraft_40 ki_0 ?_
        refine z_topi (y := if 104 ≤ i ∧ i ≤ 151 then I 73 (i - 104) else 0) (by first | (rw [if_pos ((in_li (by omega)).mp (b1 h_25)), up_ne (by decide)]; done) | rw [if_neg (fun g => by rw [(in_li (by omega)).mpr g] at h_25; exact absurd h_25 (by decide))]) ?_
        refine z_iastore d_X8_keepDraft_41 (by first | rfl | assumption) (by omega) (by first | exact zix_nI (by assumption) (by first | decide | assumption) | exact zix_nI (by omega) (by first | decide | assumption) | assumption) ?_
        refine z_iinc1 d_X8_keepDraft_42 ki_1 rfl ?_
        refine z_goto d_X8_keepDraft_45 ?_
        rw [nI_1, zi_up, kdS_s]
        exact ih hlt
      · have hin := (in_li (by omega)).mp (b1 h_25)
        refine z_aload_n d_X8_keepDraft_28 rfl ?_
        refine z_getR d_X8_keepDraft_29 f_X8_36 (by first | rfl | assumption) (by omega) (by first | exact hR _ _ _ rfl | rfl | assumption) ?_
        refine z_iload_n d_X8_keepDraft_32 rfl ?_
        refine z_bipush d_X8_keepDraft_33 kb_104 ?_
        refine z_isub d_X8_keepDraft_35 ?_
        refine z_iaload d_X8_keepDraft_36 (by first | rfl | assumption) (by omega) (zix_e (show nI i - (104 : Int32) = nI (i - 104) from pk_sub (a := i) (b := 104) (by omega)) (by omega) (by decide)) ?_
        refine z_goto d_X8_keepDraft_37 ?_
        refine z_topi (y := if 104 ≤ i ∧ i ≤ 151 then I 73 (i - 104) else 0) (by first | (rw [if_pos ((in_li (by omega)).mp (b1 h_25)), up_ne (by decide)]; done) | rw [if_neg (fun g => by rw [(in_li (by omega)).mpr g] at h_25; exact absurd h_25 (by decide))]) ?_
        refine z_iastore d_X8_keepDraft_41 (by first | rfl | assumption) (by omega) (by first | exact zix_nI (by assumption) (by first | decide | assumption) | exact zix_nI (by omega) (by first | decide | assumption) | assumption) ?_
        refine z_iinc1 d_X8_keepDraft_42 ki_1 rfl ?_
        refine z_goto d_X8_keepDraft_45 ?_
        rw [nI_1, zi_up, kdS_s]
        exact ih hlt
  refine z_mem (I' := va_up I 65 (kdS (I 65) (I 73) 0)) (by rw [kdS_0, up_self]) rfl rfl (loop _ ?_ 0 (Nat.zero_le 160))
  refine z_aload_n d_X8_keepDraft_48 rfl ?_
  refine z_cVv d_X8_keepDraft_49 q_X8_keepDraft_96 (by first | rfl | assumption) (by omega) ⟨rfl, rfl⟩ (ct_X8_clearSums hR) rfl rfl rfl ⟨Nat.zero_le _, Nat.zero_le _⟩ ?_
  refine z_iconst d_X8_keepDraft_52 ki_0 ?_
  refine z_istore1 d_X8_keepDraft_53 rfl ?_
  generalize hJ : va_up I 65 (kdS (I 65) (I 73) 160) = J
  have hkd : kdI I = zi (zi (va_up (zi (va_up (va_up (va_up J 69 (zcp (J 74) (J 69) 48)) 70 (zcp (J 75) (J 70) 48)) 68 (zcp (J 72) (J 68) 7)) 64 6 (J 64 12)) 71 (zcp (J 76) (J 71) 12)) 67 0 0) 67 1 0 := by rw [← hJ]; rfl
  rw [hkd]
  have loop : ∀ (Qs : State → Prop), (zZ E m_X8_keepDraft X Qs zShF 0 0 90 [some (.ref 64), some (.int (nI 48))] [] (va_up (va_up J 69 (zcp (J 74) (J 69) 48)) 70 (zcp (J 75) (J 70) 48)) (kdL L) R) → ∀ i, i ≤ 48 → zZ E m_X8_keepDraft X Qs zShF 0 0 54 [some (.ref 64), some (.int (nI i))] [] (va_up (va_up J 69 (zcp (J 74) (J 69) i)) 70 (zcp (J 75) (J 70) i)) (kdL L) R := by
    intro Qs hx
    refine up_rec (fun i hi' ih => ?_)
    refine z_iload_n d_X8_keepDraft_54 rfl ?_
    refine z_bipush d_X8_keepDraft_55 kb_48 ?_
    refine z_icmp_ge d_X8_keepDraft_57 (fun h_57 => ?_) (fun h_57 => ?_)
    · obtain rfl := eq_of_ge (n := 48) (by decide) hi' h_57
      exact hx
    · have hlt := lt_of_nge (n := 48) (by decide) h_57 (by omega)
      refine z_aload_n d_X8_keepDraft_60 rfl ?_
      refine z_getR d_X8_keepDraft_61 f_X8_24 (by first | rfl | assumption) (by omega) (by first | exact hR _ _ _ rfl | rfl | assumption) ?_
      refine z_iload_n d_X8_keepDraft_64 rfl ?_
      refine z_aload_n d_X8_keepDraft_65 rfl ?_
      refine z_getR d_X8_keepDraft_66 f_X8_39 (by first | rfl | assumption) (by omega) (by first | exact hR _ _ _ rfl | rfl | assumption) ?_
      refine z_iload_n d_X8_keepDraft_69 rfl ?_
      refine z_iaload d_X8_keepDraft_70 (by first | rfl | assumption) (by omega) (by first | exact zix_nI (by assumption) (by first | decide | assumption) | exact zix_nI (by omega) (by first | decide | assumption) | assumption) ?_
      refine z_iastore d_X8_keepDraft_71 (by first | rfl | assumption) (by omega) (by first | exact zix_nI (by assumption) (by first | decide | assumption) | exact zix_nI (by omega) (by first | decide | assumption) | assumption) ?_
      refine z_aload_n d_X8_keepDraft_72 rfl ?_
      refine z_getR d_X8_keepDraft_73 f_X8_27 (by first | rfl | assumption) (by omega) (by first | exact hR _ _ _ rfl | rfl | assumption) ?_
      refine z_iload_n d_X8_keepDraft_76 rfl ?_
      refine z_aload_n d_X8_keepDraft_77 rfl ?_
      refine z_getR d_X8_keepDraft_78 f_X8_42 (by first | rfl | assumption) (by omega) (by first | exact hR _ _ _ rfl | rfl | assumption) ?_
      refine z_iload_n d_X8_keepDraft_81 rfl ?_
      refine z_iaload d_X8_keepDraft_82 (by first | rfl | assumption) (by omega) (by first | exact zix_nI (by assumption) (by first | decide | assumption) | exact zix_nI (by omega) (by first | decide | assumption) | assumption) ?_
      refine z_iastore d_X8_keepDraft_83 (by first | rfl | assumption) (by omega) (by first | exact zix_nI (by assumption) (by first | decide | assumption) | exact zix_nI (by omega) (by first | decide | assumption) | assumption) ?_
      refine z_iinc1 d_X8_keepDraft_84 ki_1 rfl ?_
      refine z_goto d_X8_keepDraft_87 ?_
      rw [nI_1]
      refine z_mem ?_ rfl rfl (ih hlt)
      rw [← kd_s2]
      rfl
  refine z_mem (I' := va_up (va_up J 69 (zcp (J 74) (J 69) 0)) 70 (zcp (J 75) (J 70) 0)) (by rw [zcp_0, zcp_0, up_self, up_self]) rfl rfl (loop _ ?_ 0 (Nat.zero_le 48))
  refine z_iconst d_X8_keepDraft_90 ki_0 ?_
  refine z_istore1 d_X8_keepDraft_91 rfl ?_
  generalize hK : va_up (va_up J 69 (zcp (J 74) (J 69) 48)) 70 (zcp (J 75) (J 70) 48) = K
  have k72 : K 72 = J 72 := by rw [← hK]; rfl
  have k68 : K 68 = J 68 := by rw [← hK]; rfl
  have k64 : K 64 = J 64 := by rw [← hK]; rfl
  have k76 : K 76 = J 76 := by rw [← hK]; rfl
  have k71 : K 71 = J 71 := by rw [← hK]; rfl
  rw [← k72, ← k68, ← k64, ← k76, ← k71]
  have loop : ∀ (Qs : State → Prop), (zZ E m_X8_keepDraft X Qs zShF 0 0 116 [some (.ref 64), some (.int (nI 7))] [] (va_up K 68 (zcp (K 72) (K 68) 7)) (kdL L) R) → ∀ i, i ≤ 7 → zZ E m_X8_keepDraft X Qs zShF 0 0 92 [some (.ref 64), some (.int (nI i))] [] (va_up K 68 (zcp (K 72) (K 68) i)) (kdL L) R := by
    intro Qs hx
    refine up_rec (fun i hi' ih => ?_)
    refine z_iload_n d_X8_keepDraft_92 rfl ?_
    refine z_bipush d_X8_keepDraft_93 kb_7 ?_
    refine z_icmp_ge d_X8_keepDraft_95 (fun h_95 => ?_) (fun h_95 => ?_)
    · obtain rfl := eq_of_ge (n := 7) (by decide) hi' h_95
      exact hx
    · have hlt := lt_of_nge (n := 7) (by decide) h_95 (by omega)
      refine z_aload_n d_X8_keepDraft_98 rfl ?_
      refine z_getR d_X8_keepDraft_99 f_X8_21 (by first | rfl | assumption) (by omega) (by first | exact hR _ _ _ rfl | rfl | assumption) ?_
      refine z_iload_n d_X8_keepDraft_102 rfl ?_
      refine z_aload_n d_X8_keepDraft_103 rfl ?_
      refine z_getR d_X8_keepDraft_104 f_X8_33 (by first | rfl | assumption) (by omega) (by first | exact hR _ _ _ rfl | rfl | assumption) ?_
      refine z_iload_n d_X8_keepDraft_107 rfl ?_
      refine z_iaload d_X8_keepDraft_108 (by first | rfl | assumption) (by omega) (by first | exact zix_nI (by assumption) (by first | decide | assumption) | exact zix_nI (by omega) (by first | decide | assumption) | assumption) ?_
      refine z_iastore d_X8_keepDraft_109 (by first | rfl | assumption) (by omega) (by first | exact zix_nI (by assumption) (by first | decide | assumption) | exact zix_nI (by omega) (by first | decide | assumption) | assumption) ?_
      refine z_iinc1 d_X8_keepDraft_110 ki_1 rfl ?_
      refine z_goto d_X8_keepDraft_113 ?_
      rw [nI_1, zi_up, up_ne (by decide), zcp_s]
      exact ih hlt
  refine z_mem (I' := va_up K 68 (zcp (K 72) (K 68) 0)) (by rw [zcp_0, up_self]) rfl rfl (loop _ ?_ 0 (Nat.zero_le 7))
  refine z_aload_n d_X8_keepDraft_116 rfl ?_
  refine z_aload_n d_X8_keepDraft_117 rfl ?_
  refine z_getI d_X8_keepDraft_118 f_X8_78 (by first | rfl | assumption) (by omega) ?_
  refine z_putI d_X8_keepDraft_121 f_X8_99 p_X8_6 (by first | rfl | assumption) (by omega) ?_
  refine z_iconst d_X8_keepDraft_124 ki_0 ?_
  refine z_istore1 d_X8_keepDraft_125 rfl ?_
  generalize hM : zi (va_up K 68 (zcp (K 72) (K 68) 7)) 64 6 (va_up K 68 (zcp (K 72) (K 68) 7) 64 12) = M
  have hM2 : zi (va_up K 68 (zcp (K 72) (K 68) 7)) 64 6 (K 64 12) = M := by rw [← hM, up_ne (by decide)]
  have m76 : M 76 = K 76 := by rw [← hM2]; rfl
  have m71 : M 71 = K 71 := by rw [← hM2]; rfl
  rw [hM2, ← m76, ← m71]
  have loop : ∀ (Qs : State → Prop), (zZ E m_X8_keepDraft X Qs zShF 0 0 150 [some (.ref 64), some (.int (nI 12))] [] (va_up M 71 (zcp (M 76) (M 71) 12)) (kdL L) R) → ∀ i, i ≤ 12 → zZ E m_X8_keepDraft X Qs zShF 0 0 126 [some (.ref 64), some (.int (nI i))] [] (va_up M 71 (zcp (M 76) (M 71) i)) (kdL L) R := by
    intro Qs hx
    refine up_rec (fun i hi' ih => ?_)
    refine z_iload_n d_X8_keepDraft_126 rfl ?_
    refine z_bipush d_X8_keepDraft_127 kb_12 ?_
    refine z_icmp_ge d_X8_keepDraft_129 (fun h_129 => ?_) (fun h_129 => ?_)
    · obtain rfl := eq_of_ge (n := 12) (by decide) hi' h_129
      exact hx
    · have hlt := lt_of_nge (n := 12) (by decide) h_129 (by omega)
      refine z_aload_n d_X8_keepDraft_132 rfl ?_
      refine z_getR d_X8_keepDraft_133 f_X8_30 (by first | rfl | assumption) (by omega) (by first | exact hR _ _ _ rfl | rfl | assumption) ?_
      refine z_iload_n d_X8_keepDraft_136 rfl ?_
      refine z_aload_n d_X8_keepDraft_137 rfl ?_
      refine z_getR d_X8_keepDraft_138 f_X8_45 (by first | rfl | assumption) (by omega) (by first | exact hR _ _ _ rfl | rfl | assumption) ?_
      refine z_iload_n d_X8_keepDraft_141 rfl ?_
      refine z_iaload d_X8_keepDraft_142 (by first | rfl | assumption) (by omega) (by first | exact zix_nI (by assumption) (by first | decide | assumption) | exact zix_nI (by omega) (by first | decide | assumption) | assumption) ?_
      refine z_iastore d_X8_keepDraft_143 (by first | rfl | assumption) (by omega) (by first | exact zix_nI (by assumption) (by first | decide | assumption) | exact zix_nI (by omega) (by first | decide | assumption) | assumption) ?_
      refine z_iinc1 d_X8_keepDraft_144 ki_1 rfl ?_
      refine z_goto d_X8_keepDraft_147 ?_
      rw [nI_1, zi_up, up_ne (by decide), zcp_s]
      exact ih hlt
  refine z_mem (I' := va_up M 71 (zcp (M 76) (M 71) 0)) (by rw [zcp_0, up_self]) rfl rfl (loop _ ?_ 0 (Nat.zero_le 12))
  refine z_aload_n d_X8_keepDraft_150 rfl ?_
  refine z_getR d_X8_keepDraft_151 f_X8_17 (by first | rfl | assumption) (by omega) (by first | exact hR _ _ _ rfl | rfl | assumption) ?_
  refine z_iconst d_X8_keepDraft_154 ki_0 ?_
  refine z_iconst d_X8_keepDraft_155 ki_0 ?_
  refine z_zastore d_X8_keepDraft_156 (by first | rfl | assumption) (by omega) (zix_lit 0 (by decide)) ?_
  refine z_aload_n d_X8_keepDraft_157 rfl ?_
  refine z_getR d_X8_keepDraft_158 f_X8_17 (by first | rfl | assumption) (by omega) (by first | exact hR _ _ _ rfl | rfl | assumption) ?_
  refine z_iconst d_X8_keepDraft_161 ki_1 ?_
  refine z_iconst d_X8_keepDraft_162 ki_0 ?_
  refine z_zastore d_X8_keepDraft_163 (by first | rfl | assumption) (by omega) (zix_lit 1 (by decide)) ?_
  exact z_return d_X8_keepDraft_164 rfl ⟨rfl, rfl, by rw [nar0], rfl, rfl⟩
def rY (R : zR) : zR := zr (zr (zr (zr (zr (zr (zr (zr (zr (zr (zr (zr (zr (zr (zr (zr (zr (zr (zr (zr (R) 64 0 (some 65)) 64 1 (some 66)) 64 2 (some 67)) 64 3 (some 68)) 64 4 (some 69)) 64 5 (some 70)) 64 7 (some 71)) 64 8 (some 72)) 64 9 (some 73)) 64 10 (some 74)) 64 11 (some 75)) 64 13 (some 76)) 64 16 (some 77)) 64 24 (some 78)) 64 25 (some 79)) 64 30 (some 80)) 64 31 (some 81)) 64 32 (some 82)) 64 33 (some 83)) 64 34 (some 84)
theorem rY_at (R : zR) : ∀ j a, xRef 64 j = some a → rY R 64 j = some a := by
  intro j a h
  have hj : j < 35 := by
    rcases Nat.lt_or_ge j 35 with q | q
    · exact q
    · exfalso
      unfold xRef at h
      split at h <;> first | omega | (cases h)
  have key : ∀ i : Fin 35, xRef 64 i.val = none ∨ rY R 64 i.val = xRef 64 i.val := by
    intro i
    match i with
    | ⟨0, _⟩ => exact Or.inr rfl
    | ⟨1, _⟩ => exact Or.inr rfl
    | ⟨2, _⟩ => exact Or.inr rfl
    | ⟨3, _⟩ => exact Or.inr rfl
    | ⟨4, _⟩ => exact Or.inr rfl
    | ⟨5, _⟩ => exact Or.inr rfl
    | ⟨6, _⟩ => exact Or.inl rfl
    | ⟨7, _⟩ => exact Or.inr rfl
    | ⟨8, _⟩ => exact Or.inr rfl
    | ⟨9, _⟩ => exact Or.inr rfl
    | ⟨10, _⟩ => exact Or.inr rfl
    | ⟨11, _⟩ => exact Or.inr rfl
    | ⟨12, _⟩ => exact Or.inl rfl
    | ⟨13, _⟩ => exact Or.inr rfl
    | ⟨14, _⟩ => exact Or.inl rfl
    | ⟨15, _⟩ => exact Or.inl rfl
    | ⟨16, _⟩ => exact Or.inr rfl
    | ⟨17, _⟩ => exact Or.inl rfl
    | ⟨18, _⟩ => exact Or.inl rfl
    | ⟨19, _⟩ => exact Or.inl rfl
    | ⟨20, _⟩ => exact Or.inl rfl
    | ⟨21, _⟩ => exact Or.inl rfl
    | ⟨22, _⟩ => exact Or.inl rfl
    | ⟨23, _⟩ => exact Or.inl rfl
    | ⟨24, _⟩ => exact Or.inr rfl
    | ⟨25, _⟩ => exact Or.inr rfl
    | ⟨26, _⟩ => exact Or.inl rfl
    | ⟨27, _⟩ => exact Or.inl rfl
    | ⟨28, _⟩ => exact Or.inl rfl
    | ⟨29, _⟩ => exact Or.inl rfl
    | ⟨30, _⟩ => exact Or.inr rfl
    | ⟨31, _⟩ => exact Or.inr rfl
    | ⟨32, _⟩ => exact Or.inr rfl
    | ⟨33, _⟩ => exact Or.inr rfl
    | ⟨34, _⟩ => exact Or.inr rfl
    | ⟨n + 35, hn⟩ => exact absurd hn (by omega)
  rcases key ⟨j, hj⟩ with q | q
  · rw [show xRef 64 j = none from q] at h; cases h
  · exact (show rY R 64 j = xRef 64 j from q).trans h
theorem rY_ne {R : zR} {k : Nat} (h : k ≠ 64) : rY R k = R k := by
  unfold rY
  simp only [zr_ne h]
theorem rY_L {R : zR} (hc : ∀ k j a, k ≠ 64 → xRef k j = some a → R k j = some a) : zLx (rY R) := by
  intro k j a h
  by_cases e : k = 64
  · subst e; exact rY_at R j a h
  · rw [rY_ne e]; exact hc k j a e h
set_option maxRecDepth 100000 in
set_option maxHeartbeats 4000000 in
theorem ct_X8_init {E : zE} {I : zI} {L : zL} {R : zR} (hz : zZ0 I L R 65) (hc : ∀ k j a, k ≠ 64 → xRef k j = some a → R k j = some a) : zCt E m_X8_init (zShF.take 65) [.ref 64] I L R (fun r Sh1 I1 L1 R1 => r = none ∧ Sh1 = zShF ∧ I1 = kdI (fdD (va_up I 82 (zfill (I 82) 4 (-4)))) ∧ L1 = kdL L ∧ R1 = rY R) := by
  refine z_met (by decide) [some (.ref 64), none] rfl rfl (Nat.le_of_ble_eq_true rfl) (fun X => ?_)
  refine z_aload_n d_X8_init_0 rfl ?_
  refine z_objInit d_X8_init_1 q_X8_init_1 (in_g (up_1 (List.mem_of_getElem? (i := 23) rfl)) rfl) (in_g (up_1 (List.mem_of_getElem? (i := 24) rfl)) rfl) (by decide) (Nat.le_of_ble_eq_true rfl) ?_
  refine z_aload_n d_X8_init_4 rfl ?_
  refine z_sipush d_X8_init_5 ks_640 ?_
  refine z_newI0 (N := 640) (n := 65) d_X8_init_8 (by decide) (by decide) (by decide) rfl (by repeat (first | exact hz.up (by decide) | refine zZ0.r ?_ (by decide))) ⟨Nat.le_of_ble_eq_true rfl, Nat.le_of_ble_eq_true rfl⟩ ?_
  refine z_putFR d_X8_init_10 f_X8_7 p_X8_0 rfl (fun C T N h => by cases h; rfl) (fun _ => rfl) (fun _ => rfl) (by first | rfl | assumption) (by omega) ?_
  refine z_aload_n d_X8_init_13 rfl ?_
  refine z_bipush d_X8_init_14 kb_12 ?_
  refine z_newL0 (N := 12) (n := 66) d_X8_init_16 (by decide) (by decide) (by decide) rfl (by repeat (first | exact hz.up (by decide) | refine zZ0.r ?_ (by decide))) ⟨Nat.le_of_ble_eq_true rfl, Nat.le_of_ble_eq_true rfl⟩ ?_
  refine z_putFR d_X8_init_18 f_X8_13 p_X8_1 rfl (fun C T N h => by cases h; rfl) (fun _ => rfl) (fun _ => rfl) (by first | rfl | assumption) (by omega) ?_
  refine z_aload_n d_X8_init_21 rfl ?_
  refine z_iconst d_X8_init_22 ki_2 ?_
  refine z_newZ0 (N := 2) (n := 67) d_X8_init_23 (by decide) (by decide) (by decide) rfl (by repeat (first | exact hz.up (by decide) | refine zZ0.r ?_ (by decide))) ⟨Nat.le_of_ble_eq_true rfl, Nat.le_of_ble_eq_true rfl⟩ ?_
  refine z_putFR d_X8_init_25 f_X8_17 p_X8_2 rfl (fun C T N h => by cases h; rfl) (fun _ => rfl) (fun _ => rfl) (by first | rfl | assumption) (by omega) ?_
  refine z_aload_n d_X8_init_28 rfl ?_
  refine z_bipush d_X8_init_29 kb_7 ?_
  refine z_newI0 (N := 7) (n := 68) d_X8_init_31 (by decide) (by decide) (by decide) rfl (by repeat (first | exact hz.up (by decide) | refine zZ0.r ?_ (by decide))) ⟨Nat.le_of_ble_eq_true rfl, Nat.le_of_ble_eq_true rfl⟩ ?_
  refine z_putFR d_X8_init_33 f_X8_21 p_X8_3 rfl (fun C T N h => by cases h; rfl) (fun _ => rfl) (fun _ => rfl) (by first | rfl | assumption) (by omega) ?_
  refine z_aload_n d_X8_init_36 rfl ?_
  refine z_bipush d_X8_init_37 kb_48 ?_
  refine z_newI0 (N := 48) (n := 69) d_X8_init_39 (by decide) (by decide) (by decide) rfl (by repeat (first | exact hz.up (by decide) | refine zZ0.r ?_ (by decide))) ⟨Nat.le_of_ble_eq_true rfl, Nat.le_of_ble_eq_true rfl⟩ ?_
  refine z_putFR d_X8_init_41 f_X8_24 p_X8_4 rfl (fun C T N h => by cases h; rfl) (fun _ => rfl) (fun _ => rfl) (by first | rfl | assumption) (by omega) ?_
  refine z_aload_n d_X8_init_44 rfl ?_
  refine z_bipush d_X8_init_45 kb_48 ?_
  refine z_newI0 (N := 48) (n := 70) d_X8_init_47 (by decide) (by decide) (by decide) rfl (by repeat (first | exact hz.up (by decide) | refine zZ0.r ?_ (by decide))) ⟨Nat.le_of_ble_eq_true rfl, Nat.le_of_ble_eq_true rfl⟩ ?_
  refine z_putFR d_X8_init_49 f_X8_27 p_X8_5 rfl (fun C T N h => by cases h; rfl) (fun _ => rfl) (fun _ => rfl) (by first | rfl | assumption) (by omega) ?_
  refine z_aload_n d_X8_init_52 rfl ?_
  refine z_bipush d_X8_init_53 kb_12 ?_
  refine z_newI0 (N := 12) (n := 71) d_X8_init_55 (by decide) (by decide) (by decide) rfl (by repeat (first | exact hz.up (by decide) | refine zZ0.r ?_ (by decide))) ⟨Nat.le_of_ble_eq_true rfl, Nat.le_of_ble_eq_true rfl⟩ ?_
  refine z_putFR d_X8_init_57 f_X8_30 p_X8_7 rfl (fun C T N h => by cases h; rfl) (fun _ => rfl) (fun _ => rfl) (by first | rfl | assumption) (by omega) ?_
  refine z_aload_n d_X8_init_60 rfl ?_
  refine z_bipush d_X8_init_61 kb_7 ?_
  refine z_newI0 (N := 7) (n := 72) d_X8_init_63 (by decide) (by decide) (by decide) rfl (by repeat (first | exact hz.up (by decide) | refine zZ0.r ?_ (by decide))) ⟨Nat.le_of_ble_eq_true rfl, Nat.le_of_ble_eq_true rfl⟩ ?_
  refine z_putFR d_X8_init_65 f_X8_33 p_X8_8 rfl (fun C T N h => by cases h; rfl) (fun _ => rfl) (fun _ => rfl) (by first | rfl | assumption) (by omega) ?_
  refine z_aload_n d_X8_init_68 rfl ?_
  refine z_bipush d_X8_init_69 kb_48 ?_
  refine z_newI0 (N := 48) (n := 73) d_X8_init_71 (by decide) (by decide) (by decide) rfl (by repeat (first | exact hz.up (by decide) | refine zZ0.r ?_ (by decide))) ⟨Nat.le_of_ble_eq_true rfl, Nat.le_of_ble_eq_true rfl⟩ ?_
  refine z_putFR d_X8_init_73 f_X8_36 p_X8_9 rfl (fun C T N h => by cases h; rfl) (fun _ => rfl) (fun _ => rfl) (by first | rfl | assumption) (by omega) ?_
  refine z_aload_n d_X8_init_76 rfl ?_
  refine z_bipush d_X8_init_77 kb_48 ?_
  refine z_newI0 (N := 48) (n := 74) d_X8_init_79 (by decide) (by decide) (by decide) rfl (by repeat (first | exact hz.up (by decide) | refine zZ0.r ?_ (by decide))) ⟨Nat.le_of_ble_eq_true rfl, Nat.le_of_ble_eq_true rfl⟩ ?_
  refine z_putFR d_X8_init_81 f_X8_39 p_X8_10 rfl (fun C T N h => by cases h; rfl) (fun _ => rfl) (fun _ => rfl) (by first | rfl | assumption) (by omega) ?_
  refine z_aload_n d_X8_init_84 rfl ?_
  refine z_bipush d_X8_init_85 kb_48 ?_
  refine z_newI0 (N := 48) (n := 75) d_X8_init_87 (by decide) (by decide) (by decide) rfl (by repeat (first | exact hz.up (by decide) | refine zZ0.r ?_ (by decide))) ⟨Nat.le_of_ble_eq_true rfl, Nat.le_of_ble_eq_true rfl⟩ ?_
  refine z_putFR d_X8_init_89 f_X8_42 p_X8_11 rfl (fun C T N h => by cases h; rfl) (fun _ => rfl) (fun _ => rfl) (by first | rfl | assumption) (by omega) ?_
  refine z_aload_n d_X8_init_92 rfl ?_
  refine z_bipush d_X8_init_93 kb_12 ?_
  refine z_newI0 (N := 12) (n := 76) d_X8_init_95 (by decide) (by decide) (by decide) rfl (by repeat (first | exact hz.up (by decide) | refine zZ0.r ?_ (by decide))) ⟨Nat.le_of_ble_eq_true rfl, Nat.le_of_ble_eq_true rfl⟩ ?_
  refine z_putFR d_X8_init_97 f_X8_45 p_X8_13 rfl (fun C T N h => by cases h; rfl) (fun _ => rfl) (fun _ => rfl) (by first | rfl | assumption) (by omega) ?_
  refine z_aload_n d_X8_init_100 rfl ?_
  refine z_sipush d_X8_init_101 ks_400 ?_
  refine z_newI0 (N := 400) (n := 77) d_X8_init_104 (by decide) (by decide) (by decide) rfl (by repeat (first | exact hz.up (by decide) | refine zZ0.r ?_ (by decide))) ⟨Nat.le_of_ble_eq_true rfl, Nat.le_of_ble_eq_true rfl⟩ ?_
  refine z_putFR d_X8_init_106 f_X8_48 p_X8_16 rfl (fun C T N h => by cases h; rfl) (fun _ => rfl) (fun _ => rfl) (by first | rfl | assumption) (by omega) ?_
  refine z_aload_n d_X8_init_109 rfl ?_
  refine z_bipush d_X8_init_110 kb_48 ?_
  refine z_newI0 (N := 48) (n := 78) d_X8_init_112 (by decide) (by decide) (by decide) rfl (by repeat (first | exact hz.up (by decide) | refine zZ0.r ?_ (by decide))) ⟨Nat.le_of_ble_eq_true rfl, Nat.le_of_ble_eq_true rfl⟩ ?_
  refine z_putFR d_X8_init_114 f_X8_51 p_X8_24 rfl (fun C T N h => by cases h; rfl) (fun _ => rfl) (fun _ => rfl) (by first | rfl | assumption) (by omega) ?_
  refine z_aload_n d_X8_init_117 rfl ?_
  refine z_bipush d_X8_init_118 kb_48 ?_
  refine z_newI0 (N := 48) (n := 79) d_X8_init_120 (by decide) (by decide) (by decide) rfl (by repeat (first | exact hz.up (by decide) | refine zZ0.r ?_ (by decide))) ⟨Nat.le_of_ble_eq_true rfl, Nat.le_of_ble_eq_true rfl⟩ ?_
  refine z_putFR d_X8_init_122 f_X8_54 p_X8_25 rfl (fun C T N h => by cases h; rfl) (fun _ => rfl) (fun _ => rfl) (by first | rfl | assumption) (by omega) ?_
  refine z_aload_n d_X8_init_125 rfl ?_
  refine z_sipush d_X8_init_126 ks_3216 ?_
  refine z_newL0 (N := 3216) (n := 80) d_X8_init_129 (by decide) (by decide) (by decide) rfl (by repeat (first | exact hz.up (by decide) | refine zZ0.r ?_ (by decide))) ⟨Nat.le_of_ble_eq_true rfl, Nat.le_of_ble_eq_true rfl⟩ ?_
  refine z_putFR d_X8_init_131 f_X8_57 p_X8_30 rfl (fun C T N h => by cases h; rfl) (fun _ => rfl) (fun _ => rfl) (by first | rfl | assumption) (by omega) ?_
  refine z_aload_n d_X8_init_134 rfl ?_
  refine z_sipush d_X8_init_135 ks_3216 ?_
  refine z_newL0 (N := 3216) (n := 81) d_X8_init_138 (by decide) (by decide) (by decide) rfl (by repeat (first | exact hz.up (by decide) | refine zZ0.r ?_ (by decide))) ⟨Nat.le_of_ble_eq_true rfl, Nat.le_of_ble_eq_true rfl⟩ ?_
  refine z_putFR d_X8_init_140 f_X8_60 p_X8_31 rfl (fun C T N h => by cases h; rfl) (fun _ => rfl) (fun _ => rfl) (by first | rfl | assumption) (by omega) ?_
  refine z_aload_n d_X8_init_143 rfl ?_
  refine z_iconst d_X8_init_144 ki_4 ?_
  refine z_newI0 (N := 4) (n := 82) d_X8_init_145 (by decide) (by decide) (by decide) rfl (by repeat (first | exact hz.up (by decide) | refine zZ0.r ?_ (by decide))) ⟨Nat.le_of_ble_eq_true rfl, Nat.le_of_ble_eq_true rfl⟩ ?_
  refine z_putFR d_X8_init_147 f_X8_63 p_X8_32 rfl (fun C T N h => by cases h; rfl) (fun _ => rfl) (fun _ => rfl) (by first | rfl | assumption) (by omega) ?_
  refine z_aload_n d_X8_init_150 rfl ?_
  refine z_iconst d_X8_init_151 ki_4 ?_
  refine z_newI0 (N := 4) (n := 83) d_X8_init_152 (by decide) (by decide) (by decide) rfl (by repeat (first | exact hz.up (by decide) | refine zZ0.r ?_ (by decide))) ⟨Nat.le_of_ble_eq_true rfl, Nat.le_of_ble_eq_true rfl⟩ ?_
  refine z_putFR d_X8_init_154 f_X8_66 p_X8_33 rfl (fun C T N h => by cases h; rfl) (fun _ => rfl) (fun _ => rfl) (by first | rfl | assumption) (by omega) ?_
  refine z_aload_n d_X8_init_157 rfl ?_
  refine z_sipush d_X8_init_158 ks_160 ?_
  refine z_newI0 (N := 160) (n := 84) d_X8_init_161 (by decide) (by decide) (by decide) rfl (by repeat (first | exact hz.up (by decide) | refine zZ0.r ?_ (by decide))) ⟨Nat.le_of_ble_eq_true rfl, Nat.le_of_ble_eq_true rfl⟩ ?_
  refine z_putFR d_X8_init_163 f_X8_69 p_X8_34 rfl (fun C T N h => by cases h; rfl) (fun _ => rfl) (fun _ => rfl) (by first | rfl | assumption) (by omega) ?_
  refine z_iconst d_X8_init_166 ki_0 ?_
  refine z_istore1 d_X8_init_167 rfl ?_
  have loop : ∀ (kc ks : Nat) (R1 : zR) (Qs : State → Prop), R1 64 32 = some 82 → (zZ E m_X8_init X Qs zShF kc ks 187 [some (.ref 64), some (.int (nI 4))] [] (va_up I 82 (zfill (I 82) 4 (-4))) L R1) → ∀ i, i ≤ 4 → zZ E m_X8_init X Qs zShF kc ks 168 [some (.ref 64), some (.int (nI i))] [] (va_up I 82 (zfill (I 82) i (-4))) L R1 := by
    intro kc ks R1 Qs hR1 hx
    refine up_rec (fun i hi' ih => ?_)
    refine z_iload_n d_X8_init_168 rfl ?_
    refine z_iconst d_X8_init_169 ki_4 ?_
    refine z_icmp_ge d_X8_init_170 (fun h_170 => ?_) (fun h_170 => ?_)
    · obtain rfl := eq_of_ge (n := 4) (by decide) hi' h_170
      exact hx
    · have hlt := lt_of_nge (n := 4) (by decide) h_170 (by omega)
      refine z_aload_n d_X8_init_173 rfl ?_
      refine z_getR d_X8_init_174 f_X8_63 (by first | rfl | assumption) (by omega) hR1 ?_
      refine z_iload_n d_X8_init_177 rfl ?_
      refine z_bipush d_X8_init_178 kb_m4 ?_
      refine z_iastore d_X8_init_180 (by first | rfl | assumption) (by omega) (by first | exact zix_nI (by assumption) (by first | decide | assumption) | exact zix_nI (by omega) (by first | decide | assumption) | assumption) ?_
      refine z_iinc1 d_X8_init_181 ki_1 rfl ?_
      refine z_goto d_X8_init_184 ?_
      rw [nI_1, zi_up, zfill_s]
      exact ih hlt
  refine z_sh (Sh' := zShF) rfl ?_
  refine z_mem (I' := va_up I 82 (zfill (I 82) 0 (-4))) (by rw [zfill_0, up_self]) rfl rfl (loop _ _ _ _ rfl ?_ 0 (Nat.zero_le 4))
  refine z_aload_n d_X8_init_187 rfl ?_
  refine z_cVv d_X8_init_188 q_X8_init_72 (by first | rfl | assumption) (by omega) ⟨rfl, rfl⟩ (ct_X8_firstDraft ⟨rfl, rfl, rfl, rfl⟩) rfl rfl rfl ⟨Nat.le_of_ble_eq_true rfl, Nat.le_of_ble_eq_true rfl⟩ ?_
  refine z_aload_n d_X8_init_191 rfl ?_
  refine z_cVv d_X8_init_192 q_X8_init_75 (by first | rfl | assumption) (by omega) ⟨rfl, rfl⟩ (ct_X8_keepDraft (rY_L hc)) rfl rfl rfl ⟨Nat.le_of_ble_eq_true rfl, Nat.le_of_ble_eq_true rfl⟩ ?_
  exact z_return d_X8_init_195 rfl ⟨rfl, rfl, rfl, rfl, rfl⟩
