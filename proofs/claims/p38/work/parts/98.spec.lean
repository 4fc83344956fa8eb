/-! TEXT OF AN EMPTY TAPE -/
def tokV (s : Int32) : Int32 := if s < 0 then 1 else if ¬ s < 97 ∧ ¬ 122 < s then 2 else if ¬ s < 48 ∧ ¬ 57 < s then 3 else if s = 59 then 4 else 0
def bgI (I : zI) : zI := zi (zi (zi (va_up (va_up (pl0 I 9) 14 (zfill (I 14) 48 0)) 15 (zfill (I 15) 10 0)) 8 4 0) 8 8 0) 8 10 0
def ftI (I : zI) : zI := zi (zi (zi (zi I 8 5 0) 8 6 (I 8 4)) 8 7 0) 8 5 1
def nxI (I : zI) : zI := zi (zi I 64 19 (I 64 18)) 64 20 0
def tellI (I : zI) (L : zL) : zI := zi (zi (va_up (qI (zi (va_up (va_up (va_up (va_up I 4 (zcp (I 10) (I 4) 7)) 5 (zcp (I 11) (I 5) 48)) 6 (zcp (I 12) (I 6) 48)) 7 (zcp (I 13) (I 7) 12)) 3 4 (I 9 4)) 16 (drQ (qOf I L 16))) 17 (zcp (I 14) (I 17) 48)) 22 0 0) 22 1 0
set_option maxRecDepth 100000 in
set_option maxHeartbeats 4000000 in
theorem ct_X4_tokenOf {E : zE} {Sh : zSh} {I : zI} {L : zL} {R : zR} {s : Int32} : zCf E m_X4_tokenOf Sh [.int s] I L R (some (.int (tokV s))) (I) (L) (R) := by
  refine z_met (by decide) [some (.int s)] rfl rfl (Nat.le_of_ble_eq_true rfl) (fun X => ?_)
  refine z_iload_n d_X4_tokenOf_0 rfl ?_
  refine z_if_ge d_X4_tokenOf_1 (fun h_1 => ?_) (fun h_1 => ?_)
  · refine z_iload_n d_X4_tokenOf_6 rfl ?_
    refine z_bipush d_X4_tokenOf_7 kb_97 ?_
    refine z_icmp_lt d_X4_tokenOf_9 (fun h_9 => ?_) (fun h_9 => ?_)
    · refine z_iload_n d_X4_tokenOf_20 rfl ?_
      refine z_bipush d_X4_tokenOf_21 kb_48 ?_
      refine z_icmp_lt d_X4_tokenOf_23 (fun h_23 => ?_) (fun h_23 => ?_)
      · refine z_iload_n d_X4_tokenOf_34 rfl ?_
        refine z_bipush d_X4_tokenOf_35 kb_59 ?_
        refine z_icmp_ne d_X4_tokenOf_37 (fun h_37 => ?_) (fun h_37 => ?_)
        · refine z_iconst d_X4_tokenOf_44 ki_0 ?_
          exact z_ireturn d_X4_tokenOf_45 rfl ⟨by simp [tokV, *], rfl, rfl, rfl, rfl⟩
        · refine z_iconst d_X4_tokenOf_40 ki_4 ?_
          refine z_goto d_X4_tokenOf_41 ?_
          exact z_ireturn d_X4_tokenOf_45 rfl ⟨by simp [tokV, *], rfl, rfl, rfl, rfl⟩
      · refine z_iload_n d_X4_tokenOf_26 rfl ?_
        refine z_bipush d_X4_tokenOf_27 kb_57 ?_
        refine z_icmp_gt d_X4_tokenOf_29 (fun h_29 => ?_) (fun h_29 => ?_)
        · refine z_iload_n d_X4_tokenOf_34 rfl ?_
          refine z_bipush d_X4_tokenOf_35 kb_59 ?_
          refine z_icmp_ne d_X4_tokenOf_37 (fun h_37 => ?_) (fun h_37 => ?_)
          · refine z_iconst d_X4_tokenOf_44 ki_0 ?_
            exact z_ireturn d_X4_tokenOf_45 rfl ⟨by simp [tokV, *], rfl, rfl, rfl, rfl⟩
          · refine z_iconst d_X4_tokenOf_40 ki_4 ?_
            refine z_goto d_X4_tokenOf_41 ?_
            exact z_ireturn d_X4_tokenOf_45 rfl ⟨by simp [tokV, *], rfl, rfl, rfl, rfl⟩
        · refine z_iconst d_X4_tokenOf_32 ki_3 ?_
          exact z_ireturn d_X4_tokenOf_33 rfl ⟨by simp [tokV, *], rfl, rfl, rfl, rfl⟩
    · refine z_iload_n d_X4_tokenOf_12 rfl ?_
      refine z_bipush d_X4_tokenOf_13 kb_122 ?_
      refine z_icmp_gt d_X4_tokenOf_15 (fun h_15 => ?_) (fun h_15 => ?_)
      · refine z_iload_n d_X4_tokenOf_20 rfl ?_
        refine z_bipush d_X4_tokenOf_21 kb_48 ?_
        refine z_icmp_lt d_X4_tokenOf_23 (fun h_23 => ?_) (fun h_23 => ?_)
        · refine z_iload_n d_X4_tokenOf_34 rfl ?_
          refine z_bipush d_X4_tokenOf_35 kb_59 ?_
          refine z_icmp_ne d_X4_tokenOf_37 (fun h_37 => ?_) (fun h_37 => ?_)
          · refine z_iconst d_X4_tokenOf_44 ki_0 ?_
            exact z_ireturn d_X4_tokenOf_45 rfl ⟨by simp [tokV, *], rfl, rfl, rfl, rfl⟩
          · refine z_iconst d_X4_tokenOf_40 ki_4 ?_
            refine z_goto d_X4_tokenOf_41 ?_
            exact z_ireturn d_X4_tokenOf_45 rfl ⟨by simp [tokV, *], rfl, rfl, rfl, rfl⟩
        · refine z_iload_n d_X4_tokenOf_26 rfl ?_
          refine z_bipush d_X4_tokenOf_27 kb_57 ?_
          refine z_icmp_gt d_X4_tokenOf_29 (fun h_29 => ?_) (fun h_29 => ?_)
          · refine z_iload_n d_X4_tokenOf_34 rfl ?_
            refine z_bipush d_X4_tokenOf_35 kb_59 ?_
            refine z_icmp_ne d_X4_tokenOf_37 (fun h_37 => ?_) (fun h_37 => ?_)
            · refine z_iconst d_X4_tokenOf_44 ki_0 ?_
              exact z_ireturn d_X4_tokenOf_45 rfl ⟨by simp [tokV, *], rfl, rfl, rfl, rfl⟩
            · refine z_iconst d_X4_tokenOf_40 ki_4 ?_
              refine z_goto d_X4_tokenOf_41 ?_
              exact z_ireturn d_X4_tokenOf_45 rfl ⟨by simp [tokV, *], rfl, rfl, rfl, rfl⟩
          · refine z_iconst d_X4_tokenOf_32 ki_3 ?_
            exact z_ireturn d_X4_tokenOf_33 rfl ⟨by simp [tokV, *], rfl, rfl, rfl, rfl⟩
      · refine z_iconst d_X4_tokenOf_18 ki_2 ?_
        exact z_ireturn d_X4_tokenOf_19 rfl ⟨by simp [tokV, *], rfl, rfl, rfl, rfl⟩
  · refine z_iconst d_X4_tokenOf_4 ki_1 ?_
    exact z_ireturn d_X4_tokenOf_5 rfl ⟨by simp [tokV, *], rfl, rfl, rfl, rfl⟩
set_option maxRecDepth 100000 in
set_option maxHeartbeats 4000000 in
theorem ct_X6_byteAt_e {E : zE} {Sh : zSh} {I : zI} {L : zL} {R : zR} {t : Nat} {i : Int32} (ht : zTa Sh R t) (hi : ¬ i < I t 1) : zCf E m_X6_byteAt Sh [.ref t, .int i] I L R (some (.int (-1))) (I) (L) (R) := by
  obtain ⟨ht0, ht1, hr0, htl⟩ := ht
  refine z_met (by decide) [some (.ref t), some (.int i)] rfl rfl (Nat.le_of_ble_eq_true rfl) (fun X => ?_)
  refine z_iload_n d_X6_byteAt_0 rfl ?_
  refine z_if_lt d_X6_byteAt_1 (fun h_1 => ?_) (fun h_1 => ?_)
  · refine z_iconst d_X6_byteAt_12 ki_m1 ?_
    refine z_goto d_X6_byteAt_13 ?_
    exact z_ireturn d_X6_byteAt_26 rfl ⟨rfl, rfl, rfl, rfl, rfl⟩
  · refine z_iload_n d_X6_byteAt_4 rfl ?_
    refine z_aload_n d_X6_byteAt_5 rfl ?_
    refine z_getI d_X6_byteAt_6 f_X6_15 (by first | rfl | assumption) (by omega) ?_
    refine z_icmp_lt d_X6_byteAt_9 (fun h_9 => absurd h_9 hi) (fun h_9 => ?_)
    refine z_iconst d_X6_byteAt_12 ki_m1 ?_
    refine z_goto d_X6_byteAt_13 ?_
    exact z_ireturn d_X6_byteAt_26 rfl ⟨rfl, rfl, rfl, rfl, rfl⟩
set_option maxRecDepth 100000 in
set_option maxHeartbeats 4000000 in
theorem ct_X4_begin {E : zE} {I : zI} {L : zL} {R : zR} (hR : zLx R) : zCf E m_X4_begin zShF [.ref 8] I L R (none) (bgI I) (L) (R) := by
  have h9 := lP_9 hR
  refine z_met (by decide) [some (.ref 8), none] rfl rfl (Nat.le_of_ble_eq_true rfl) (fun X => ?_)
  refine z_aload_n d_X4_begin_0 rfl ?_
  refine z_getR d_X4_begin_1 f_X4_12 (by first | rfl | assumption) (by omega) (by first | exact hR _ _ _ rfl | rfl | assumption) ?_
  refine z_cVv d_X4_begin_4 q_X4_begin_52 (by first | rfl | assumption) (by omega) ⟨rfl, rfl⟩ (ct_X3_beAsAtFirst (by assumption)) rfl rfl rfl ⟨Nat.zero_le _, Nat.zero_le _⟩ ?_
  refine z_aload_n d_X4_begin_7 rfl ?_
  refine z_getR d_X4_begin_8 f_X4_18 (by first | rfl | assumption) (by omega) (by first | exact hR _ _ _ rfl | rfl | assumption) ?_
  refine z_iconst d_X4_begin_11 ki_0 ?_
  refine z_cSv d_X4_begin_12 q_X4_begin_55 ⟨rfl, rfl⟩ (ct_fillI (by first | assumption | rfl) (by omega) (by decide)) rfl rfl rfl ⟨Nat.zero_le _, Nat.zero_le _⟩ ?_
  refine z_iconst d_X4_begin_15 ki_0 ?_
  refine z_istore1 d_X4_begin_16 rfl ?_
  have loop : ∀ (J : zI) (Qs : State → Prop), (zZ E m_X4_begin X Qs zShF 0 0 36 [some (.ref 8), some (.int (nI 10))] [] (va_up J 15 (zfill (J 15) 10 0)) L R) → ∀ i, i ≤ 10 → zZ E m_X4_begin X Qs zShF 0 0 17 [some (.ref 8), some (.int (nI i))] [] (va_up J 15 (zfill (J 15) i 0)) L R := by
    intro J Qs hx
    refine up_rec (fun i hi' ih => ?_)
    refine z_iload_n d_X4_begin_17 rfl ?_
    refine z_bipush d_X4_begin_18 kb_10 ?_
    refine z_icmp_ge d_X4_begin_20 (fun h_20 => ?_) (fun h_20 => ?_)
    · obtain rfl := eq_of_ge (n := 10) (by decide) hi' h_20
      exact hx
    · have hlt := lt_of_nge (n := 10) (by decide) h_20 (by omega)
      refine z_aload_n d_X4_begin_23 rfl ?_
      refine z_getR d_X4_begin_24 f_X4_22 (by first | rfl | assumption) (by omega) (by first | exact hR _ _ _ rfl | rfl | assumption) ?_
      refine z_iload_n d_X4_begin_27 rfl ?_
      refine z_iconst d_X4_begin_28 ki_0 ?_
      refine z_zastore d_X4_begin_29 (by first | rfl | assumption) (by omega) (by first | exact zix_nI (by assumption) (by first | decide | assumption) | exact zix_nI (by omega) (by first | decide | assumption) | assumption) ?_
      refine z_iinc1 d_X4_begin_30 ki_1 rfl ?_
      refine z_goto d_X4_begin_33 ?_
      rw [nar0, nI_1, zi_up, zfill_s]
      exact ih hlt
  generalize hJ : va_up (zi (va_up (va_up (va_up I (9 + 1) (rules0 (I (9 + 1)))) (9 + 2) (zfill (I (9 + 2)) 48 0)) (9 + 3) (zfill (I (9 + 3)) 48 0)) 9 4 0) 14 (zfill (I 14) 48 0) = J
  refine z_mem (I' := va_up J 15 (zfill (J 15) 0 0)) (by rw [zfill_0, up_self, ← hJ]; rfl) rfl rfl (loop _ _ ?_ 0 (Nat.zero_le 10))
  refine z_aload_n d_X4_begin_36 rfl ?_
  refine z_iconst d_X4_begin_37 ki_0 ?_
  refine z_putI d_X4_begin_38 f_X4_61 p_X4_4 (by first | rfl | assumption) (by omega) ?_
  refine z_aload_n d_X4_begin_41 rfl ?_
  refine z_iconst d_X4_begin_42 ki_0 ?_
  refine z_putI d_X4_begin_43 f_X4_64 p_X4_8 (by first | rfl | assumption) (by omega) ?_
  refine z_aload_n d_X4_begin_46 rfl ?_
  refine z_iconst d_X4_begin_47 ki_0 ?_
  refine z_putI d_X4_begin_48 f_X4_36 p_X4_10 (by first | rfl | assumption) (by omega) ?_
  exact z_return d_X4_begin_51 rfl ⟨rfl, rfl, by rw [← hJ]; rfl, rfl, rfl⟩
set_option maxRecDepth 100000 in
set_option maxHeartbeats 4000000 in
theorem ct_X4_fetch_e {E : zE} {I : zI} {L : zL} {R : zR} (hR : zLx R) (h1 : I 1 1 = 0) (h2 : I 8 4 = 0) (h3 : I 8 10 = 0) : zCf E m_X4_fetch zShF [.ref 8] I L R (none) (ftI I) (L) (R) := by
  refine z_met (by decide) [some (.ref 8), none] rfl rfl (Nat.le_of_ble_eq_true rfl) (fun X => ?_)
  refine z_aload_n d_X4_fetch_0 rfl ?_
  refine z_iconst d_X4_fetch_1 ki_0 ?_
  refine z_putI d_X4_fetch_2 f_X4_40 p_X4_5 (by first | rfl | assumption) (by omega) ?_
  refine z_aload_n d_X4_fetch_5 rfl ?_
  refine z_getI d_X4_fetch_6 f_X4_36 (by first | rfl | assumption) (by omega) ?_
  refine z_if_eq d_X4_fetch_9 (fun h_9 => ?_) (fun h_9 => absurd h3 h_9)
  refine z_iconst d_X4_fetch_13 ki_0 ?_
  refine z_istore1 d_X4_fetch_14 rfl ?_
  refine z_iload_n d_X4_fetch_15 rfl ?_
  refine z_sipush d_X4_fetch_16 ks_400 ?_
  refine z_icmp_ge d_X4_fetch_19 (fun h_19 => absurd h_19 (by decide)) (fun h_19 => ?_)
  refine z_aload_n d_X4_fetch_22 rfl ?_
  refine z_getR d_X4_fetch_23 f_X4_26 (by first | rfl | assumption) (by omega) (by first | exact hR _ _ _ rfl | rfl | assumption) ?_
  refine z_aload_n d_X4_fetch_26 rfl ?_
  refine z_getI d_X4_fetch_27 f_X4_61 (by first | rfl | assumption) (by omega) ?_
  refine z_cVi d_X4_fetch_30 q_X4_fetch_67 (by first | rfl | assumption) (by omega) ⟨rfl, rfl⟩ (ct_X6_byteAt_e (lT_1 hR) (show ¬ I 8 4 < I 1 1 from by rw [h2, h1]; decide)) rfl rfl rfl ⟨Nat.zero_le _, Nat.zero_le _⟩ ?_
  refine z_bipush d_X4_fetch_33 kb_32 ?_
  refine z_icmp_ne d_X4_fetch_35 (fun h_35 => ?_) (fun h_35 => absurd h_35 (by decide))
  refine z_aload_n d_X4_fetch_54 rfl ?_
  refine z_aload_n d_X4_fetch_55 rfl ?_
  refine z_getI d_X4_fetch_56 f_X4_61 (by first | rfl | assumption) (by omega) ?_
  refine z_putI d_X4_fetch_59 f_X4_73 p_X4_6 (by first | rfl | assumption) (by omega) ?_
  refine z_aload_n d_X4_fetch_62 rfl ?_
  refine z_iconst d_X4_fetch_63 ki_0 ?_
  refine z_putI d_X4_fetch_64 f_X4_76 p_X4_7 (by first | rfl | assumption) (by omega) ?_
  refine z_aload_n d_X4_fetch_67 rfl ?_
  refine z_aload_n d_X4_fetch_68 rfl ?_
  refine z_getR d_X4_fetch_69 f_X4_26 (by first | rfl | assumption) (by omega) (by first | exact hR _ _ _ rfl | rfl | assumption) ?_
  refine z_aload_n d_X4_fetch_72 rfl ?_
  refine z_getI d_X4_fetch_73 f_X4_61 (by first | rfl | assumption) (by omega) ?_
  refine z_cVi d_X4_fetch_76 q_X4_fetch_67 (by first | rfl | assumption) (by omega) ⟨rfl, rfl⟩ (ct_X6_byteAt_e (lT_1 hR) (show ¬ I 8 4 < I 1 1 from by rw [h2, h1]; decide)) rfl rfl rfl ⟨Nat.zero_le _, Nat.zero_le _⟩ ?_
  refine z_cSi d_X4_fetch_79 q_X4_fetch_79 ⟨rfl, rfl⟩ (ct_X4_tokenOf) rfl rfl rfl ⟨Nat.zero_le _, Nat.zero_le _⟩ ?_
  refine z_putI d_X4_fetch_82 f_X4_40 p_X4_5 (by first | rfl | assumption) (by omega) ?_
  refine z_aload_n d_X4_fetch_85 rfl ?_
  refine z_getI d_X4_fetch_86 f_X4_40 (by first | rfl | assumption) (by omega) ?_
  refine z_iconst d_X4_fetch_89 ki_4 ?_
  refine z_icmp_ne d_X4_fetch_90 (fun h_90 => ?_) (fun h_90 => absurd (show tokV (-1) = 4 from h_90) (by decide))
  refine z_aload_n d_X4_fetch_106 rfl ?_
  refine z_getI d_X4_fetch_107 f_X4_40 (by first | rfl | assumption) (by omega) ?_
  refine z_iconst d_X4_fetch_110 ki_2 ?_
  refine z_icmp_eq d_X4_fetch_111 (fun h_111 => absurd (show tokV (-1) = 2 from h_111) (by decide)) (fun h_111 => ?_)
  refine z_aload_n d_X4_fetch_114 rfl ?_
  refine z_getI d_X4_fetch_115 f_X4_40 (by first | rfl | assumption) (by omega) ?_
  refine z_iconst d_X4_fetch_118 ki_3 ?_
  refine z_icmp_ne d_X4_fetch_119 (fun h_119 => ?_) (fun h_119 => absurd (show tokV (-1) = 3 from h_119) (by decide))
  refine z_aload_n d_X4_fetch_126 rfl ?_
  refine z_getI d_X4_fetch_127 f_X4_40 (by first | rfl | assumption) (by omega) ?_
  refine z_if_eq d_X4_fetch_130 (fun h_130 => absurd (show tokV (-1) = 0 from h_130) (by decide)) (fun h_130 => ?_)
  refine z_aload_n d_X4_fetch_133 rfl ?_
  refine z_getI d_X4_fetch_134 f_X4_40 (by first | rfl | assumption) (by omega) ?_
  refine z_iconst d_X4_fetch_137 ki_3 ?_
  refine z_icmp_ne d_X4_fetch_138 (fun h_138 => ?_) (fun h_138 => absurd (show tokV (-1) = 3 from h_138) (by decide))
  exact z_return d_X4_fetch_168 rfl ⟨rfl, rfl, rfl, rfl, rfl⟩
set_option maxRecDepth 100000 in
set_option maxHeartbeats 4000000 in
theorem ct_X4_lookAtWords_e {E : zE} {I : zI} {L : zL} {R : zR} (hR : zLx R) (h1 : I 10 6 = 3) (h2 : I 9 4 = 0) : zCf E m_X4_lookAtWords zShF [.ref 8] I L R (none) (I) (L) (R) := by
  have h9 := lP_9 hR
  refine z_met (by decide) [some (.ref 8), none] rfl rfl (Nat.le_of_ble_eq_true rfl) (fun X => ?_)
  refine z_aload_n d_X4_lookAtWords_0 rfl ?_
  refine z_getR d_X4_lookAtWords_1 f_X4_12 (by first | rfl | assumption) (by omega) (by first | exact hR _ _ _ rfl | rfl | assumption) ?_
  refine z_getR d_X4_lookAtWords_4 f_X4_109 (by first | rfl | assumption) (by omega) (by first | exact hR _ _ _ rfl | rfl | assumption) ?_
  refine z_bipush d_X4_lookAtWords_7 kb_6 ?_
  refine z_iaload d_X4_lookAtWords_9 (by first | rfl | assumption) (by omega) (zix_lit 6 (by decide)) ?_
  refine z_iconst d_X4_lookAtWords_10 ki_3 ?_
  refine z_icmp_eq d_X4_lookAtWords_11 (fun h_11 => ?_) (fun h_11 => absurd h1 h_11)
  refine z_iconst d_X4_lookAtWords_15 ki_0 ?_
  refine z_istore1 d_X4_lookAtWords_16 rfl ?_
  refine z_iload_n d_X4_lookAtWords_17 rfl ?_
  refine z_aload_n d_X4_lookAtWords_18 rfl ?_
  refine z_getR d_X4_lookAtWords_19 f_X4_12 (by first | rfl | assumption) (by omega) (by first | exact hR _ _ _ rfl | rfl | assumption) ?_
  refine z_getI d_X4_lookAtWords_22 f_X4_157 (by first | rfl | assumption) (by omega) ?_
  refine z_icmp_ge d_X4_lookAtWords_25 (fun h_25 => ?_) (fun h_25 => absurd (show (0 : Int32) < I 9 4 from Int32.not_le.mp h_25) (by rw [h2]; decide))
  exact z_return d_X4_lookAtWords_61 rfl ⟨rfl, rfl, rfl, rfl, rfl⟩
set_option maxRecDepth 100000 in
set_option maxHeartbeats 4000000 in
theorem ct_X4_readAll_e {E : zE} {I : zI} {L : zL} {R : zR} (hR : zLx R) (h1 : I 1 1 = 0) : zCf E m_X4_readAll zShF [.ref 8] I L R (some (.int 0)) (ftI (bgI I)) (L) (R) := by
  refine z_met (by decide) [some (.ref 8), none, none] rfl rfl (Nat.le_of_ble_eq_true rfl) (fun X => ?_)
  refine z_aload_n d_X4_readAll_0 rfl ?_
  refine z_cVv d_X4_readAll_1 q_X4_readAll_30 (by first | rfl | assumption) (by omega) ⟨rfl, rfl⟩ (ct_X4_begin hR) rfl rfl rfl ⟨Nat.zero_le _, Nat.zero_le _⟩ ?_
  refine z_iconst d_X4_readAll_4 ki_0 ?_
  refine z_istore1 d_X4_readAll_5 rfl ?_
  refine z_aload_n d_X4_readAll_6 rfl ?_
  refine z_cVv d_X4_readAll_7 q_X4_readAll_33 (by first | rfl | assumption) (by omega) ⟨rfl, rfl⟩ (ct_X4_fetch_e hR h1 rfl rfl) rfl rfl rfl ⟨Nat.zero_le _, Nat.zero_le _⟩ ?_
  refine z_iconst d_X4_readAll_10 ki_0 ?_
  refine z_istore2 d_X4_readAll_11 rfl ?_
  refine z_iload_n d_X4_readAll_12 rfl ?_
  refine z_sipush d_X4_readAll_13 ks_400 ?_
  refine z_icmp_ge d_X4_readAll_16 (fun h_16 => absurd h_16 (by decide)) (fun h_16 => ?_)
  refine z_aload_n d_X4_readAll_19 rfl ?_
  refine z_getI d_X4_readAll_20 f_X4_36 (by first | rfl | assumption) (by omega) ?_
  refine z_if_ne d_X4_readAll_23 (fun h_23 => absurd rfl h_23) (fun h_23 => ?_)
  refine z_aload_n d_X4_readAll_26 rfl ?_
  refine z_getI d_X4_readAll_27 f_X4_40 (by first | rfl | assumption) (by omega) ?_
  refine z_iconst d_X4_readAll_30 ki_1 ?_
  refine z_icmp_eq d_X4_readAll_31 (fun h_31 => ?_) (fun h_31 => absurd rfl h_31)
  refine z_aload_n d_X4_readAll_51 rfl ?_
  refine z_cVv d_X4_readAll_52 q_X4_readAll_46 (by first | rfl | assumption) (by omega) ⟨rfl, rfl⟩ (ct_X4_lookAtWords_e hR rfl rfl) rfl rfl rfl ⟨Nat.zero_le _, Nat.zero_le _⟩ ?_
  refine z_aload_n d_X4_readAll_55 rfl ?_
  refine z_getI d_X4_readAll_56 f_X4_36 (by first | rfl | assumption) (by omega) ?_
  refine z_if_ne d_X4_readAll_59 (fun h_59 => absurd rfl h_59) (fun h_59 => ?_)
  refine z_iload_n d_X4_readAll_62 rfl ?_
  refine z_goto d_X4_readAll_63 ?_
  exact z_ireturn d_X4_readAll_73 rfl ⟨rfl, rfl, rfl, rfl, rfl⟩
set_option maxRecDepth 100000 in
set_option maxHeartbeats 4000000 in
theorem ct_X7_text_e {E : zE} {I : zI} {L : zL} {R : zR} (hR : zLx R) (h1 : I 1 1 = 0) : zCf E m_X7_text zShF [.ref 0] I L R (some (.int 0)) (tellI (zi (ftI (bgI I)) 1 1 0) L) (qL L 16 (drQ (qOf I L 16))) (R) := by
  refine z_met (by decide) [some (.ref 0), none] rfl rfl (Nat.le_of_ble_eq_true rfl) (fun X => ?_)
  refine z_aload_n d_X7_text_0 rfl ?_
  refine z_getR d_X7_text_1 f_X7_28 (by first | rfl | assumption) (by omega) (by first | exact hR _ _ _ rfl | rfl | assumption) ?_
  refine z_cVi d_X7_text_4 q_X7_text_79 (by first | rfl | assumption) (by omega) ⟨rfl, rfl⟩ (ct_X4_readAll_e hR h1) rfl rfl rfl ⟨Nat.zero_le _, Nat.zero_le _⟩ ?_
  refine z_istore1 d_X7_text_7 rfl ?_
  refine z_aload_n d_X7_text_8 rfl ?_
  refine z_getR d_X7_text_9 f_X7_12 (by first | rfl | assumption) (by omega) (by first | exact hR _ _ _ rfl | rfl | assumption) ?_
  refine z_iconst d_X7_text_12 ki_0 ?_
  refine z_putI d_X7_text_13 f_X7_75 p_X6_1 (by first | rfl | assumption) (by omega) ?_
  refine z_aload_n d_X7_text_16 rfl ?_
  refine z_getR d_X7_text_17 f_X7_28 (by first | rfl | assumption) (by omega) (by first | exact hR _ _ _ rfl | rfl | assumption) ?_
  refine z_getI d_X7_text_20 f_X7_83 (by first | rfl | assumption) (by omega) ?_
  refine z_if_ne d_X7_text_23 (fun h_23 => absurd rfl h_23) (fun h_23 => ?_)
  refine z_aload_n d_X7_text_26 rfl ?_
  refine z_cVv d_X7_text_27 q_X7_text_86 (by first | rfl | assumption) (by omega) ⟨rfl, rfl⟩ (ct_X7_tellAll hR) rfl rfl rfl ⟨Nat.zero_le _, Nat.zero_le _⟩ ?_
  refine z_iload_n d_X7_text_30 rfl ?_
  exact z_ireturn d_X7_text_31 rfl ⟨rfl, rfl, rfl, rfl, rfl⟩
set_option maxRecDepth 100000 in
set_option maxHeartbeats 4000000 in
theorem ct_X8_look_e {E : zE} {I : zI} {L : zL} {R : zR} {i : Int32} (hR : zLx R) (hi : ¬ i < I 64 17) : zCf E m_X8_look zShF [.ref 64, .int i] I L R (some (.int (-1))) (I) (L) (R) := by
  refine z_met (by decide) [some (.ref 64), some (.int i)] rfl rfl (Nat.le_of_ble_eq_true rfl) (fun X => ?_)
  refine z_iload_n d_X8_look_0 rfl ?_
  refine z_aload_n d_X8_look_1 rfl ?_
  refine z_getI d_X8_look_2 f_X8_102 (by first | rfl | assumption) (by omega) ?_
  refine z_icmp_ge d_X8_look_5 (fun h_5 => ?_) (fun h_5 => absurd (Int32.not_le.mp h_5) hi)
  refine z_iconst d_X8_look_17 ki_m1 ?_
  exact z_ireturn d_X8_look_18 rfl ⟨rfl, rfl, rfl, rfl, rfl⟩
set_option maxRecDepth 100000 in
set_option maxHeartbeats 4000000 in
theorem ct_X8_next_e {E : zE} {I : zI} {L : zL} {R : zR} (hR : zLx R) (h17 : I 64 17 = 0) (h18 : I 64 18 = 0) (h22 : I 64 22 = 0) : zCf E m_X8_next zShF [.ref 64] I L R (none) (nxI I) (L) (R) := by
  refine z_met (by decide) [some (.ref 64), none] rfl rfl (Nat.le_of_ble_eq_true rfl) (fun X => ?_)
  refine z_aload_n d_X8_next_0 rfl ?_
  refine z_getI d_X8_next_1 f_X8_107 (by first | rfl | assumption) (by omega) ?_
  refine z_if_le d_X8_next_4 (fun h_4 => ?_) (fun h_4 => absurd h22 (fun z => by rw [z] at h_4; exact absurd h_4 (by decide)))
  refine z_aload_n d_X8_next_8 rfl ?_
  refine z_aload_n d_X8_next_9 rfl ?_
  refine z_getI d_X8_next_10 f_X8_116 (by first | rfl | assumption) (by omega) ?_
  refine z_cVi d_X8_next_13 q_X8_next_119 (by first | rfl | assumption) (by omega) ⟨rfl, rfl⟩ (ct_X8_look_e hR (show ¬ I 64 18 < I 64 17 from by rw [h18, h17]; decide)) rfl rfl rfl ⟨Nat.zero_le _, Nat.zero_le _⟩ ?_
  refine z_bipush d_X8_next_16 kb_32 ?_
  refine z_icmp_ne d_X8_next_18 (fun h_18 => ?_) (fun h_18 => absurd h_18 (by decide))
  refine z_aload_n d_X8_next_34 rfl ?_
  refine z_aload_n d_X8_next_35 rfl ?_
  refine z_getI d_X8_next_36 f_X8_116 (by first | rfl | assumption) (by omega) ?_
  refine z_putI d_X8_next_39 f_X8_110 p_X8_19 (by first | rfl | assumption) (by omega) ?_
  refine z_aload_n d_X8_next_42 rfl ?_
  refine z_aload_n d_X8_next_43 rfl ?_
  refine z_getI d_X8_next_44 f_X8_116 (by first | rfl | assumption) (by omega) ?_
  refine z_cVi d_X8_next_47 q_X8_next_119 (by first | rfl | assumption) (by omega) ⟨rfl, rfl⟩ (ct_X8_look_e hR (show ¬ I 64 18 < I 64 17 from by rw [h18, h17]; decide)) rfl rfl rfl ⟨Nat.zero_le _, Nat.zero_le _⟩ ?_
  refine z_istore1 d_X8_next_50 rfl ?_
  refine z_iload_n d_X8_next_51 rfl ?_
  refine z_if_ge d_X8_next_52 (fun h_52 => absurd h_52 (by decide)) (fun h_52 => ?_)
  refine z_aload_n d_X8_next_55 rfl ?_
  refine z_iconst d_X8_next_56 ki_0 ?_
  refine z_putI d_X8_next_57 f_X8_127 p_X8_20 (by first | rfl | assumption) (by omega) ?_
  refine z_goto d_X8_next_60 ?_
  exact z_return d_X8_next_274 rfl ⟨rfl, rfl, rfl, rfl, rfl⟩
set_option maxRecDepth 100000 in
set_option maxHeartbeats 4000000 in
theorem ct_X8_text_e {E : zE} {I : zI} {L : zL} {R : zR} (hR : zLx R) (h17 : I 64 17 = 0) : zCf E m_X8_text zShF [.ref 64] I L R (some (.int 0)) (kdI (zi (nxI (fdD (zi (zi I 64 22 0) 64 18 0))) 64 17 0)) (kdL L) (R) := by
  refine z_met (by decide) [some (.ref 64), none, none] rfl rfl (Nat.le_of_ble_eq_true rfl) (fun X => ?_)
  refine z_iconst d_X8_text_0 ki_0 ?_
  refine z_istore1 d_X8_text_1 rfl ?_
  refine z_aload_n d_X8_text_2 rfl ?_
  refine z_iconst d_X8_text_3 ki_0 ?_
  refine z_putI d_X8_text_4 f_X8_107 p_X8_22 (by first | rfl | assumption) (by omega) ?_
  refine z_aload_n d_X8_text_7 rfl ?_
  refine z_iconst d_X8_text_8 ki_0 ?_
  refine z_putI d_X8_text_9 f_X8_116 p_X8_18 (by first | rfl | assumption) (by omega) ?_
  refine z_aload_n d_X8_text_12 rfl ?_
  refine z_cVv d_X8_text_13 q_X8_text_72 (by first | rfl | assumption) (by omega) ⟨rfl, rfl⟩ (ct_X8_firstDraft ⟨hR _ _ _ rfl, hR _ _ _ rfl, hR _ _ _ rfl, hR _ _ _ rfl⟩) rfl rfl rfl ⟨Nat.zero_le _, Nat.zero_le _⟩ ?_
  refine z_aload_n d_X8_text_16 rfl ?_
  refine z_cVv d_X8_text_17 q_X8_text_149 (by first | rfl | assumption) (by omega) ⟨rfl, rfl⟩ (ct_X8_next_e hR h17 rfl rfl) rfl rfl rfl ⟨Nat.zero_le _, Nat.zero_le _⟩ ?_
  refine z_aload_n d_X8_text_20 rfl ?_
  refine z_getI d_X8_text_21 f_X8_107 (by first | rfl | assumption) (by omega) ?_
  refine z_if_ne d_X8_text_24 (fun h_24 => absurd rfl h_24) (fun h_24 => ?_)
  refine z_aload_n d_X8_text_27 rfl ?_
  refine z_getI d_X8_text_28 f_X8_127 (by first | rfl | assumption) (by omega) ?_
  refine z_if_eq d_X8_text_31 (fun h_31 => ?_) (fun h_31 => absurd rfl h_31)
  refine z_iconst d_X8_text_44 ki_0 ?_
  refine z_istore2 d_X8_text_45 rfl ?_
  refine z_iload_n d_X8_text_46 rfl ?_
  refine z_aload_n d_X8_text_47 rfl ?_
  refine z_getI d_X8_text_48 f_X8_78 (by first | rfl | assumption) (by omega) ?_
  refine z_icmp_ge d_X8_text_51 (fun h_51 => ?_) (fun h_51 => absurd (show (0 : Int32) < 0 from Int32.not_le.mp h_51) (by decide))
  refine z_aload_n d_X8_text_93 rfl ?_
  refine z_iconst d_X8_text_94 ki_0 ?_
  refine z_putI d_X8_text_95 f_X8_102 p_X8_17 (by first | rfl | assumption) (by omega) ?_
  refine z_aload_n d_X8_text_98 rfl ?_
  refine z_getI d_X8_text_99 f_X8_107 (by first | rfl | assumption) (by omega) ?_
  refine z_if_le d_X8_text_102 (fun h_102 => ?_) (fun h_102 => absurd (show (0 : Int32) ≤ 0 by decide) h_102)
  refine z_aload_n d_X8_text_113 rfl ?_
  refine z_cVv d_X8_text_114 q_X8_text_75 (by first | rfl | assumption) (by omega) ⟨rfl, rfl⟩ (ct_X8_keepDraft hR) rfl rfl rfl ⟨Nat.zero_le _, Nat.zero_le _⟩ ?_
  refine z_iload_n d_X8_text_117 rfl ?_
  exact z_ireturn d_X8_text_118 rfl ⟨rfl, rfl, rfl, rfl, rfl⟩
theorem st_text_e {E : zE} : zAi E m_X7_text m_X8_text [] IF LF RF (fun _ _ _ => True) :=
  mk_i (ct_X7_text_e x_F fault_F.2.2.1) (ct_X8_text_e x_F (by decide +kernel)) rfl trivial
theorem st_fault_e {E : zE} : zAi E m_X7_fault m_X8_fault [] IF LF RF (fun _ _ _ => True) :=
  mk_i (ct_X7_fault x_F) (ct_X8_fault x_F) (fault_F.2.1.trans fault_F.1.symm) trivial
theorem zAi_w {E : zE} {mc mr : zMD} {args : List Value} {I : zI} {L : zL} {R : zR} {A B : zI → zL → zR → Prop} (hAB : ∀ I L R, A I L R → B I L R) (h : zAi E mc mr args I L R A) : zAi E mc mr args I L R B :=
  zCt_mono h (fun _ _ _ _ _ q => ⟨q.1, q.2.choose, q.2.choose_spec.1, zCt_mono q.2.choose_spec.2 (fun _ _ _ _ _ z => ⟨z.1, z.2.1, hAB _ _ _ z.2.2⟩)⟩)
theorem zAl_w {E : zE} {mc mr : zMD} {args : List Value} {I : zI} {L : zL} {R : zR} {A B : zI → zL → zR → Prop} (hAB : ∀ I L R, A I L R → B I L R) (h : zAl E mc mr args I L R A) : zAl E mc mr args I L R B :=
  zCt_mono h (fun _ _ _ _ _ q => ⟨q.1, q.2.choose, q.2.choose_spec.1, zCt_mono q.2.choose_spec.2 (fun _ _ _ _ _ z => ⟨z.1, z.2.1, hAB _ _ _ z.2.2⟩)⟩)
