set_option maxRecDepth 100000 in
set_option maxHeartbeats 4000000 in
theorem ct_X7_enough {E : zE} {I : zI} {L : zL} {R : zR} {n : Int32} (hR : zLx R) : zCf E m_X7_enough zShF [.ref 0, .int n] I L R (some (.int (if inV 1 999 n = true then (if lonV (I 4 0) (grV (cmV I) 48) < ndV (I 17) (cmV I) n 48 then -4 else ndV (I 17) (cmV I) n 48) else -1))) (I) (L) (R) := by
  refine z_met (by decide) [some (.ref 0), some (.int n), none, none] rfl rfl (Nat.le_of_ble_eq_true rfl) (fun X => ?_)
  refine z_iload_n d_X7_enough_0 rfl ?_
  refine z_iconst d_X7_enough_1 ki_1 ?_
  refine z_icmp_lt d_X7_enough_2 (fun h_2 => ?_) (fun h_2 => ?_)
  · refine z_iconst d_X7_enough_12 ki_m1 ?_
    exact z_ireturn d_X7_enough_13 rfl ⟨by simp [inV, *], rfl, rfl, rfl, rfl⟩
  · refine z_iload_n d_X7_enough_5 rfl ?_
    refine z_sipush d_X7_enough_6 ks_999 ?_
    refine z_icmp_le d_X7_enough_9 (fun h_9 => ?_) (fun h_9 => ?_)
    · have hok : inV 1 999 n = true := by simp [inV, h_2, Int32.not_lt.mpr h_9]
      rw [if_pos hok]
      refine z_iconst d_X7_enough_14 ki_1 ?_
      refine z_istore2 d_X7_enough_15 rfl ?_
      refine z_iconst d_X7_enough_16 ki_0 ?_
      refine z_istore3 d_X7_enough_17 rfl ?_
      have loop : ∀ (Qs : State → Prop), (zZ E m_X7_enough X Qs zShF 0 0 56 [some (.ref 0), some (.int n), some (.int (ndV (I 17) (cmV I) n 48)), some (.int (nI 48))] [] I L R) → ∀ i, i ≤ 48 → zZ E m_X7_enough X Qs zShF 0 0 18 [some (.ref 0), some (.int n), some (.int (ndV (I 17) (cmV I) n i)), some (.int (nI i))] [] I L R := by
        intro Qs hx
        refine up_rec (fun i hi ih => ?_)
        refine z_iload_n d_X7_enough_18 rfl ?_
        refine z_bipush d_X7_enough_19 kb_48 ?_
        refine z_icmp_ge d_X7_enough_21 (fun h_21 => ?_) (fun h_21 => ?_)
        · obtain rfl := eq_of_ge (n := 48) (by decide) hi h_21
          exact hx
        · have hlt := lt_of_nge (n := 48) (by decide) h_21 (by omega)
          refine z_aload_n d_X7_enough_24 rfl ?_
          refine z_getR d_X7_enough_25 f_X7_35 (by first | rfl | assumption) (by omega) (by first | exact hR _ _ _ rfl | rfl | assumption) ?_
          refine z_getR d_X7_enough_28 f_X7_100 (by first | rfl | assumption) (by omega) (by first | exact hR _ _ _ rfl | rfl | assumption) ?_
          refine z_iload_n d_X7_enough_31 rfl ?_
          refine z_iaload d_X7_enough_32 (by first | rfl | assumption) (by omega) (by first | exact zix_nI (by assumption) (by first | decide | assumption) | exact zix_nI (by omega) (by first | decide | assumption) | assumption) ?_
          refine z_if_le d_X7_enough_33 (fun h_33 => ?_) (fun h_33 => ?_)
          · refine z_iinc3 d_X7_enough_50 ki_1 rfl ?_
            refine z_goto d_X7_enough_53 ?_
            rw [nI_1]
            have h := ih hlt
            rw [ndV] at h
            first
              | (rw [if_pos h_33] at h; exact h)
              | (rw [if_neg h_33] at h; exact h)
          · refine z_iload_n d_X7_enough_36 rfl ?_
            refine z_iload_n d_X7_enough_37 rfl ?_
            refine z_aload_n d_X7_enough_38 rfl ?_
            refine z_iload_n d_X7_enough_39 rfl ?_
            refine z_cVi d_X7_enough_40 q_X7_enough_200 (by first | rfl | assumption) (by omega) ⟨rfl, rfl⟩ (ct_X7_comesInTick hR (by first | assumption | exact zix_nI (by assumption) (by decide))) rfl rfl rfl ⟨Nat.zero_le _, Nat.zero_le _⟩ ?_
            refine z_cSi d_X7_enough_43 q_X7_enough_165 ⟨rfl, rfl⟩ (ct_X7_binsOf) rfl rfl rfl ⟨Nat.zero_le _, Nat.zero_le _⟩ ?_
            refine z_mmax d_X7_enough_46 q_X7_enough_197 (by decide) (Nat.le_of_ble_eq_true rfl) ⟨Nat.zero_le _, Nat.zero_le _⟩ ?_
            refine z_istore2 d_X7_enough_49 rfl ?_
            refine z_iinc3 d_X7_enough_50 ki_1 rfl ?_
            refine z_goto d_X7_enough_53 ?_
            rw [nI_1]
            have h := ih hlt
            rw [ndV] at h
            first
              | (rw [if_pos h_33] at h; exact h)
              | (rw [if_neg h_33] at h; exact h)
      refine loop _ ?_ 0 (Nat.zero_le 48)
      generalize ndV (I 17) (cmV I) n 48 = nd
      refine z_iload_n d_X7_enough_56 rfl ?_
      refine z_aload_n d_X7_enough_57 rfl ?_
      refine z_cVi d_X7_enough_58 q_X7_enough_206 (by first | rfl | assumption) (by omega) ⟨rfl, rfl⟩ (ct_X7_longest hR) rfl rfl rfl ⟨Nat.zero_le _, Nat.zero_le _⟩ ?_
      refine z_icmp_gt d_X7_enough_61 (fun h_61 => ?_) (fun h_61 => ?_)
      · refine z_bipush d_X7_enough_68 kb_m4 ?_
        exact z_ireturn d_X7_enough_70 rfl ⟨by simp [h_61], rfl, rfl, rfl, rfl⟩
      · refine z_iload_n d_X7_enough_64 rfl ?_
        refine z_goto d_X7_enough_65 ?_
        exact z_ireturn d_X7_enough_70 rfl ⟨by simp [h_61], rfl, rfl, rfl, rfl⟩
    · refine z_iconst d_X7_enough_12 ki_m1 ?_
      exact z_ireturn d_X7_enough_13 rfl ⟨by simp [inV, Int32.not_le.mp h_9], rfl, rfl, rfl, rfl⟩
set_option maxRecDepth 100000 in
set_option maxHeartbeats 4000000 in
theorem ct_X7_hots {E : zE} {I : zI} {L : zL} {R : zR} {t n : Int32} (hR : zLx R) : zCf E m_X7_hots zShF [.ref 0, .int t, .int n] I L R (some (.long (if (inV 1 999 t && inV 1 9999 n) = true then htV (fun w => (I 5 w + I 4 1) * t) n 48 else -1))) (I) (L) (R) := by
  refine z_met (by decide) [some (.ref 0), some (.int t), some (.int n), none, none, none] rfl rfl (Nat.le_of_ble_eq_true rfl) (fun X => ?_)
  refine z_iload_n d_X7_hots_0 rfl ?_
  refine z_cSi d_X7_hots_1 q_X7_hots_116 ⟨rfl, rfl⟩ (ct_X7_isTicks) rfl rfl rfl ⟨Nat.zero_le _, Nat.zero_le _⟩ ?_
  refine z_if_eq d_X7_hots_4 (fun h_4 => ?_) (fun h_4 => ?_)
  · have hw := b0 h_4
    refine z_ldc2 d_X7_hots_19 l_X7_157 ?_
    exact z_lreturn d_X7_hots_22 rfl ⟨by simp [hw], rfl, rfl, rfl, rfl⟩
  · refine z_iload_n d_X7_hots_7 rfl ?_
    refine z_iconst d_X7_hots_8 ki_1 ?_
    refine z_icmp_lt d_X7_hots_9 (fun h_9 => ?_) (fun h_9 => ?_)
    · refine z_ldc2 d_X7_hots_19 l_X7_157 ?_
      exact z_lreturn d_X7_hots_22 rfl ⟨by simp [inV, *], rfl, rfl, rfl, rfl⟩
    · refine z_iload_n d_X7_hots_12 rfl ?_
      refine z_sipush d_X7_hots_13 ks_9999 ?_
      refine z_icmp_le d_X7_hots_16 (fun h_16 => ?_) (fun h_16 => ?_)
      · have hok : (inV 1 999 t && inV 1 9999 n) = true := by rw [b1 h_4]; simp [inV, h_9, Int32.not_lt.mpr h_16]
        rw [if_pos hok]
        refine z_lconst (v := 0) d_X7_hots_23 (by decide) ?_
        refine z_lstore3 d_X7_hots_24 rfl ?_
        refine z_iconst d_X7_hots_25 ki_0 ?_
        refine z_istore5 d_X7_hots_26 rfl ?_
        have loop : ∀ (Qs : State → Prop), (zZ E m_X7_hots X Qs zShF 0 0 74 [some (.ref 0), some (.int t), some (.int n), some (.long (htV (fun w => (I 5 w + I 4 1) * t) n 48)), none, some (.int (nI 48))] [] I L R) → ∀ i, i ≤ 48 → zZ E m_X7_hots X Qs zShF 0 0 28 [some (.ref 0), some (.int t), some (.int n), some (.long (htV (fun w => (I 5 w + I 4 1) * t) n i)), none, some (.int (nI i))] [] I L R := by
          intro Qs hx
          refine up_rec (fun i hi ih => ?_)
          refine z_iload d_X7_hots_28 rfl ?_
          refine z_bipush d_X7_hots_30 kb_48 ?_
          refine z_icmp_ge d_X7_hots_32 (fun h_32 => ?_) (fun h_32 => ?_)
          · obtain rfl := eq_of_ge (n := 48) (by decide) hi h_32
            exact hx
          · have hlt := lt_of_nge (n := 48) (by decide) h_32 (by omega)
            refine z_aload_n d_X7_hots_35 rfl ?_
            refine z_getR d_X7_hots_36 f_X7_19 (by first | rfl | assumption) (by omega) (by first | exact hR _ _ _ rfl | rfl | assumption) ?_
            refine z_getR d_X7_hots_39 f_X7_103 (by first | rfl | assumption) (by omega) (by first | exact hR _ _ _ rfl | rfl | assumption) ?_
            refine z_iload d_X7_hots_42 rfl ?_
            refine z_iaload d_X7_hots_44 (by first | rfl | assumption) (by omega) (by first | exact zix_nI (by assumption) (by first | decide | assumption) | exact zix_nI (by omega) (by first | decide | assumption) | assumption) ?_
            refine z_aload_n d_X7_hots_45 rfl ?_
            refine z_getR d_X7_hots_46 f_X7_19 (by first | rfl | assumption) (by omega) (by first | exact hR _ _ _ rfl | rfl | assumption) ?_
            refine z_getR d_X7_hots_49 f_X7_89 (by first | rfl | assumption) (by omega) (by first | exact hR _ _ _ rfl | rfl | assumption) ?_
            refine z_iconst d_X7_hots_52 ki_1 ?_
            refine z_iaload d_X7_hots_53 (by first | rfl | assumption) (by omega) (zix_lit 1 (by decide)) ?_
            refine z_iadd d_X7_hots_54 ?_
            refine z_iload_n d_X7_hots_55 rfl ?_
            refine z_imul d_X7_hots_56 ?_
            refine z_iload_n d_X7_hots_57 rfl ?_
            refine z_icmp_lt d_X7_hots_58 (fun h_58 => ?_) (fun h_58 => ?_)
            · refine z_iinc5 d_X7_hots_68 ki_1 rfl ?_
              refine z_goto d_X7_hots_71 ?_
              rw [nI_1]
              have h := ih hlt
              rw [htV] at h
              first
                | (rw [if_pos h_58] at h; exact h)
                | (rw [if_neg h_58] at h; exact h)
            · refine z_lload_n d_X7_hots_61 rfl ?_
              refine z_lconst (v := 1) d_X7_hots_62 (by decide) ?_
              refine z_iload d_X7_hots_63 rfl ?_
              refine z_lshl d_X7_hots_65 ?_
              refine z_lor d_X7_hots_66 ?_
              refine z_lstore3 d_X7_hots_67 rfl ?_
              refine z_iinc5 d_X7_hots_68 ki_1 rfl ?_
              refine z_goto d_X7_hots_71 ?_
              rw [nI_1]
              have h := ih hlt
              rw [htV] at h
              first
                | (rw [if_pos h_58] at h; exact h)
                | (rw [if_neg h_58] at h; exact h)
        refine loop _ ?_ 0 (Nat.zero_le 48)
        refine z_lload_n d_X7_hots_74 rfl ?_
        exact z_lreturn d_X7_hots_75 rfl ⟨rfl, rfl, rfl, rfl, rfl⟩
      · refine z_ldc2 d_X7_hots_19 l_X7_157 ?_
        exact z_lreturn d_X7_hots_22 rfl ⟨by simp [inV, Int32.not_le.mp h_16], rfl, rfl, rfl, rfl⟩
