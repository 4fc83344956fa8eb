set_option maxRecDepth 100000 in
set_option maxHeartbeats 4000000 in
theorem ct_X7_mended {E : zE} {I : zI} {L : zL} {R : zR} {w : Int32} (hR : zLx R) : zCf E m_X7_mended zShF [.ref 0, .int w] I L R (some (.int (if isW w = true then (if (mdV (I 18) (I 5) w (w - w / 8 * 8) 4).2 = 0 then -4 else (mdV (I 18) (I 5) w (w - w / 8 * 8) 4).1 / (mdV (I 18) (I 5) w (w - w / 8 * 8) 4).2) else -1))) (I) (L) (R) := by
  refine z_met (by decide) [some (.ref 0), some (.int w), none, none, none, none, none] rfl rfl (Nat.le_of_ble_eq_true rfl) (fun X => ?_)
  refine z_iload_n d_X7_mended_0 rfl ?_
  refine z_cSi d_X7_mended_1 q_X7_mended_93 ⟨rfl, rfl⟩ (ct_X7_isWell) rfl rfl rfl ⟨Nat.zero_le _, Nat.zero_le _⟩ ?_
  refine z_if_ne d_X7_mended_4 (fun h_4 => ?_) (fun h_4 => ?_)
  · have hw := b1 h_4
    rw [if_pos hw]
    refine z_iload_n d_X7_mended_9 rfl ?_
    refine z_bipush d_X7_mended_10 kb_8 ?_
    refine z_irem d_X7_mended_12 (by first | assumption | decide) ?_
    generalize w - w / 8 * 8 = col
    refine z_istore2 d_X7_mended_13 rfl ?_
    refine z_iconst d_X7_mended_14 ki_0 ?_
    refine z_istore3 d_X7_mended_15 rfl ?_
    refine z_iconst d_X7_mended_16 ki_0 ?_
    refine z_istore4 d_X7_mended_17 rfl ?_
    refine z_iconst d_X7_mended_19 ki_0 ?_
    refine z_istore5 d_X7_mended_20 rfl ?_
    have loop : ∀ (Qs : State → Prop), (∀ o : Option Value, zZ E m_X7_mended X Qs zShF 0 0 80 [some (.ref 0), some (.int w), some (.int col), some (.int (mdV (I 18) (I 5) w col 4).1), some (.int (mdV (I 18) (I 5) w col 4).2), some (.int (nI 4)), o] [] I L R) → ∀ i, i ≤ 4 → ∀ o : Option Value, zZ E m_X7_mended X Qs zShF 0 0 22 [some (.ref 0), some (.int w), some (.int col), some (.int (mdV (I 18) (I 5) w col i).1), some (.int (mdV (I 18) (I 5) w col i).2), some (.int (nI i)), o] [] I L R := by
      intro Qs hx
      refine up_rec (fun i hi ih o => ?_)
      refine z_iload d_X7_mended_22 rfl ?_
      refine z_iconst d_X7_mended_24 ki_4 ?_
      refine z_icmp_ge d_X7_mended_25 (fun h_25 => ?_) (fun h_25 => ?_)
      · obtain rfl := eq_of_ge (n := 4) (by decide) hi h_25
        exact hx o
      · have hlt := lt_of_nge (n := 4) (by decide) h_25 (by omega)
        refine z_iload_n d_X7_mended_28 rfl ?_
        refine z_iload_n d_X7_mended_29 rfl ?_
        refine z_iload d_X7_mended_30 rfl ?_
        refine z_cSi d_X7_mended_32 q_X7_mended_209 ⟨rfl, rfl⟩ (ct_X7_besideOf) rfl rfl rfl ⟨Nat.zero_le _, Nat.zero_le _⟩ ?_
        refine z_istore6 d_X7_mended_35 rfl ?_
        refine z_iload d_X7_mended_37 rfl ?_
        refine z_cSi d_X7_mended_39 q_X7_mended_93 ⟨rfl, rfl⟩ (ct_X7_isWell) rfl rfl rfl ⟨Nat.zero_le _, Nat.zero_le _⟩ ?_
        refine z_if_eq d_X7_mended_42 (fun h_42 => ?_) (fun h_42 => ?_)
        · refine z_iinc5 d_X7_mended_74 ki_1 rfl ?_
          refine z_goto d_X7_mended_77 ?_
          rw [nI_1]
          have h := ih hlt (some (.int (besV w col (nI i))))
          rw [mdV] at h
          first
            | (rw [if_neg (fun q => by rw [b0 h_42] at q; exact absurd q.1 (by decide))] at h; exact h)
            | (rw [if_neg (fun q => h_55 q.2)] at h; exact h)
            | (rw [if_pos ⟨b1 h_42, h_55⟩] at h; exact h)
        · have hix := isW_ix (b1 h_42)
          refine z_aload_n d_X7_mended_45 rfl ?_
          refine z_getR d_X7_mended_46 f_X7_19 (by first | rfl | assumption) (by omega) (by first | exact hR _ _ _ rfl | rfl | assumption) ?_
          refine z_getR d_X7_mended_49 f_X7_103 (by first | rfl | assumption) (by omega) (by first | exact hR _ _ _ rfl | rfl | assumption) ?_
          refine z_iload d_X7_mended_52 rfl ?_
          refine z_iaload d_X7_mended_54 (by first | rfl | assumption) (by omega) hix ?_
          refine z_if_ne d_X7_mended_55 (fun h_55 => ?_) (fun h_55 => ?_)
          · refine z_iinc5 d_X7_mended_74 ki_1 rfl ?_
            refine z_goto d_X7_mended_77 ?_
            rw [nI_1]
            have h := ih hlt (some (.int (besV w col (nI i))))
            rw [mdV] at h
            first
              | (rw [if_neg (fun q => by rw [b0 h_42] at q; exact absurd q.1 (by decide))] at h; exact h)
              | (rw [if_neg (fun q => h_55 q.2)] at h; exact h)
              | (rw [if_pos ⟨b1 h_42, h_55⟩] at h; exact h)
          · refine z_iload_n d_X7_mended_58 rfl ?_
            refine z_aload_n d_X7_mended_59 rfl ?_
            refine z_getR d_X7_mended_60 f_X7_35 (by first | rfl | assumption) (by omega) (by first | exact hR _ _ _ rfl | rfl | assumption) ?_
            refine z_getR d_X7_mended_63 f_X7_97 (by first | rfl | assumption) (by omega) (by first | exact hR _ _ _ rfl | rfl | assumption) ?_
            refine z_iload d_X7_mended_66 rfl ?_
            refine z_iaload d_X7_mended_68 (by first | rfl | assumption) (by omega) hix ?_
            refine z_iadd d_X7_mended_69 ?_
            refine z_istore3 d_X7_mended_70 rfl ?_
            refine z_iinc4 d_X7_mended_71 ki_1 rfl ?_
            refine z_iinc5 d_X7_mended_74 ki_1 rfl ?_
            refine z_goto d_X7_mended_77 ?_
            rw [nI_1]
            have h := ih hlt (some (.int (besV w col (nI i))))
            rw [mdV] at h
            first
              | (rw [if_neg (fun q => by rw [b0 h_42] at q; exact absurd q.1 (by decide))] at h; exact h)
              | (rw [if_neg (fun q => h_55 q.2)] at h; exact h)
              | (rw [if_pos ⟨b1 h_42, h_55⟩] at h; exact h)
    refine loop _ (fun o => ?_) 0 (Nat.zero_le 4) none
    generalize mdV (I 18) (I 5) w col 4 = md
    refine z_iload d_X7_mended_80 rfl ?_
    refine z_if_ne d_X7_mended_82 (fun h_82 => ?_) (fun h_82 => ?_)
    · refine z_iload_n d_X7_mended_90 rfl ?_
      refine z_iload d_X7_mended_91 rfl ?_
      refine z_idiv d_X7_mended_93 (by first | assumption | decide) ?_
      exact z_ireturn d_X7_mended_94 rfl ⟨by simp [h_82], rfl, rfl, rfl, rfl⟩
    · refine z_bipush d_X7_mended_85 kb_m4 ?_
      refine z_goto d_X7_mended_87 ?_
      exact z_ireturn d_X7_mended_94 rfl ⟨by simp [h_82], rfl, rfl, rfl, rfl⟩
  · have hw := b0 h_4
    refine z_iconst d_X7_mended_7 ki_m1 ?_
    exact z_ireturn d_X7_mended_8 rfl ⟨by rw [hw]; rfl, rfl, rfl, rfl, rfl⟩
