set_option maxRecDepth 100000 in
set_option maxHeartbeats 4000000 in
theorem ct_X8_smear {E : zE} {I : zI} {L : zL} {R : zR} {w : Int32} (hR : zLx R) : zCf E m_X8_smear zShF [.ref 64, .int w] I L R (some (.int (if isW w = true then sumV (fun i => I 65 (104 + (w.toNatClampNeg + 8 * (i + 1))) * I 68 3) (5 - w.toNatClampNeg / 8) else -1))) (I) (L) (R) := by
  refine z_met (by decide) [some (.ref 64), some (.int w), none, none] rfl rfl (Nat.le_of_ble_eq_true rfl) (fun X => ?_)
  refine z_iload_n d_X8_smear_0 rfl ?_
  refine z_cSi d_X8_smear_1 q_X8_smear_183 ⟨rfl, rfl⟩ (ct_X8_isWell) rfl rfl rfl ⟨Nat.zero_le _, Nat.zero_le _⟩ ?_
  refine z_if_ne d_X8_smear_4 (fun h_4 => ?_) (fun h_4 => ?_)
  · have hw := b1 h_4
    have hix := isW_ix hw
    rw [if_pos hw]
    obtain ⟨j, hj, rfl⟩ := nI_of hix.2.2
    have hj2 := hix.1
    rw [nI_clamp hj] at hj2 ⊢
    refine z_iconst d_X8_smear_9 ki_0 ?_
    refine z_istore2 d_X8_smear_10 rfl ?_
    refine z_iload_n d_X8_smear_11 rfl ?_
    refine z_bipush d_X8_smear_12 kb_8 ?_
    refine z_iadd d_X8_smear_14 ?_
    rw [show nI j + (8 : Int32) = nI (j + 8 * (0 + 1)) from nI_add j 8]
    refine z_istore3 d_X8_smear_15 rfl ?_
    have loop : ∀ (Qs : State → Prop), (∀ k, zZ E m_X8_smear X Qs zShF 0 0 47 [some (.ref 64), some (.int (nI j)), some (.int (sumV (fun i => I 65 (104 + (j + 8 * (i + 1))) * I 68 3) (5 - j / 8))), some (.int (nI k))] [] I L R) → ∀ i, i ≤ 5 - j / 8 → zZ E m_X8_smear X Qs zShF 0 0 16 [some (.ref 64), some (.int (nI j)), some (.int (sumV (fun i => I 65 (104 + (j + 8 * (i + 1))) * I 68 3) i)), some (.int (nI (j + 8 * (i + 1))))] [] I L R := by
      intro Qs hx
      refine up_rec (fun i hi ih => ?_)
      refine z_iload_n d_X8_smear_16 rfl ?_
      refine z_bipush d_X8_smear_17 kb_48 ?_
      refine z_icmp_ge d_X8_smear_19 (fun h_19 => ?_) (fun h_19 => ?_)
      · have h9 := (nI_leI (a := 48) (b := j + 8 * (i + 1)) (by decide) (by omega)).mp h_19
        obtain rfl : i = 5 - j / 8 := by omega
        exact hx _
      · have hlt := lt_of_nge (i := j + 8 * (i + 1)) (n := 48) (by decide) h_19 (by omega)
        refine z_iload_n d_X8_smear_22 rfl ?_
        refine z_aload_n d_X8_smear_23 rfl ?_
        refine z_getR d_X8_smear_24 f_X8_7 (by first | rfl | assumption) (by omega) (by first | exact hR _ _ _ rfl | rfl | assumption) ?_
        refine z_bipush d_X8_smear_27 kb_104 ?_
        refine z_iload_n d_X8_smear_29 rfl ?_
        refine z_iadd d_X8_smear_30 ?_
        refine z_iaload d_X8_smear_31 (by first | rfl | assumption) (by omega) (zix_e (show (104 : Int32) + nI (j + 8 * (i + 1)) = nI (104 + (j + 8 * (i + 1))) from nI_add 104 _) (by omega) (by decide)) ?_
        refine z_aload_n d_X8_smear_32 rfl ?_
        refine z_getR d_X8_smear_33 f_X8_21 (by first | rfl | assumption) (by omega) (by first | exact hR _ _ _ rfl | rfl | assumption) ?_
        refine z_iconst d_X8_smear_36 ki_3 ?_
        refine z_iaload d_X8_smear_37 (by first | rfl | assumption) (by omega) (zix_lit 3 (by decide)) ?_
        refine z_imul d_X8_smear_38 ?_
        refine z_iadd d_X8_smear_39 ?_
        refine z_istore2 d_X8_smear_40 rfl ?_
        refine z_iinc3 d_X8_smear_41 ki_8 rfl ?_
        refine z_goto d_X8_smear_44 ?_
        rw [show nI (j + 8 * (i + 1)) + (8 : Int32) = nI (j + 8 * (i + 1 + 1)) from nI_add _ 8]
        exact ih (by omega)
    refine loop _ (fun k => ?_) 0 (Nat.zero_le _)
    refine z_iload_n d_X8_smear_47 rfl ?_
    exact z_ireturn d_X8_smear_48 rfl ⟨rfl, rfl, rfl, rfl, rfl⟩
  · have hw := b0 h_4
    refine z_iconst d_X8_smear_7 ki_m1 ?_
    exact z_ireturn d_X8_smear_8 rfl ⟨by rw [hw]; rfl, rfl, rfl, rfl, rfl⟩
set_option maxRecDepth 100000 in
set_option maxHeartbeats 4000000 in
theorem ct_X8_hots {E : zE} {I : zI} {L : zL} {R : zR} {t n : Int32} (hR : zLx R) : zCf E m_X8_hots zShF [.ref 64, .int t, .int n] I L R (some (.long (if (inV 1 999 t && inV 1 9999 n) = true then htV (fun w => (I 69 w + I 68 1) * t) n 48 else -1))) (I) (L) (R) := by
  refine z_met (by decide) [some (.ref 64), some (.int t), some (.int n), none, none, none] rfl rfl (Nat.le_of_ble_eq_true rfl) (fun X => ?_)
  refine z_iload_n d_X8_hots_0 rfl ?_
  refine z_i2l d_X8_hots_1 ?_
  refine z_lconst (v := 1) d_X8_hots_2 (by decide) ?_
  refine z_ldc2 d_X8_hots_3 l_X8_202 ?_
  refine z_cSi d_X8_hots_6 q_X8_hots_92 ⟨rfl, rfl⟩ (ct_X8_in) rfl rfl rfl ⟨Nat.zero_le _, Nat.zero_le _⟩ ?_
  rw [inLc (lo := 1) (hi := 999) (by decide) (by decide)]
  refine z_if_eq d_X8_hots_9 (fun h_9 => ?_) (fun h_9 => ?_)
  · have hw := b0 h_9
    refine z_ldc2 d_X8_hots_24 l_X8_241 ?_
    exact z_lreturn d_X8_hots_27 rfl ⟨by simp [hw], rfl, rfl, rfl, rfl⟩
  · refine z_iload_n d_X8_hots_12 rfl ?_
    refine z_i2l d_X8_hots_13 ?_
    refine z_lconst (v := 1) d_X8_hots_14 (by decide) ?_
    refine z_ldc2 d_X8_hots_15 l_X8_265 ?_
    refine z_cSi d_X8_hots_18 q_X8_hots_92 ⟨rfl, rfl⟩ (ct_X8_in) rfl rfl rfl ⟨Nat.zero_le _, Nat.zero_le _⟩ ?_
    rw [inLc (lo := 1) (hi := 9999) (by decide) (by decide)]
    refine z_if_ne d_X8_hots_21 (fun h_21 => ?_) (fun h_21 => ?_)
    · have hok : (inV 1 999 t && inV 1 9999 n) = true := by rw [b1 h_9, b1 h_21]; rfl
      rw [if_pos hok]
      refine z_lconst (v := 0) d_X8_hots_28 (by decide) ?_
      refine z_lstore3 d_X8_hots_29 rfl ?_
      refine z_iconst d_X8_hots_30 ki_0 ?_
      refine z_istore5 d_X8_hots_31 rfl ?_
      have loop : ∀ (Qs : State → Prop), (zZ E m_X8_hots X Qs zShF 0 0 77 [some (.ref 64), some (.int t), some (.int n), some (.long (htV (fun w => (I 69 w + I 68 1) * t) n 48)), none, some (.int (nI 48))] [] I L R) → ∀ i, i ≤ 48 → zZ E m_X8_hots X Qs zShF 0 0 33 [some (.ref 64), some (.int t), some (.int n), some (.long (htV (fun w => (I 69 w + I 68 1) * t) n i)), none, some (.int (nI i))] [] I L R := by
        intro Qs hx
        refine up_rec (fun i hi ih => ?_)
        refine z_iload d_X8_hots_33 rfl ?_
        refine z_bipush d_X8_hots_35 kb_48 ?_
        refine z_icmp_ge d_X8_hots_37 (fun h_37 => ?_) (fun h_37 => ?_)
        · obtain rfl := eq_of_ge (n := 48) (by decide) hi h_37
          exact hx
        · have hlt := lt_of_nge (n := 48) (by decide) h_37 (by omega)
          refine z_lload_n d_X8_hots_40 rfl ?_
          refine z_aload_n d_X8_hots_41 rfl ?_
          refine z_getR d_X8_hots_42 f_X8_24 (by first | rfl | assumption) (by omega) (by first | exact hR _ _ _ rfl | rfl | assumption) ?_
          refine z_iload d_X8_hots_45 rfl ?_
          refine z_iaload d_X8_hots_47 (by first | rfl | assumption) (by omega) (by first | exact zix_nI (by assumption) (by first | decide | assumption) | exact zix_nI (by omega) (by first | decide | assumption) | assumption) ?_
          refine z_aload_n d_X8_hots_48 rfl ?_
          refine z_getR d_X8_hots_49 f_X8_21 (by first | rfl | assumption) (by omega) (by first | exact hR _ _ _ rfl | rfl | assumption) ?_
          refine z_iconst d_X8_hots_52 ki_1 ?_
          refine z_iaload d_X8_hots_53 (by first | rfl | assumption) (by omega) (zix_lit 1 (by decide)) ?_
          refine z_iadd d_X8_hots_54 ?_
          refine z_iload_n d_X8_hots_55 rfl ?_
          refine z_imul d_X8_hots_56 ?_
          refine z_iload_n d_X8_hots_57 rfl ?_
          refine z_icmp_lt d_X8_hots_58 (fun h_58 => ?_) (fun h_58 => ?_)
          · refine z_lconst (v := 0) d_X8_hots_68 (by decide) ?_
            refine z_lor d_X8_hots_69 ?_
            refine z_lstore3 d_X8_hots_70 rfl ?_
            refine z_iinc5 d_X8_hots_71 ki_1 rfl ?_
            refine z_goto d_X8_hots_74 ?_
            rw [nI_1]
            have h := ih hlt
            rw [htV] at h
            first
              | (rw [if_pos h_58] at h; rw [Int64.or_zero]; exact h)
              | (rw [if_neg h_58] at h; exact h)
          · refine z_lconst (v := 1) d_X8_hots_61 (by decide) ?_
            refine z_iload d_X8_hots_62 rfl ?_
            refine z_lshl d_X8_hots_64 ?_
            refine z_goto d_X8_hots_65 ?_
            refine z_lor d_X8_hots_69 ?_
            refine z_lstore3 d_X8_hots_70 rfl ?_
            refine z_iinc5 d_X8_hots_71 ki_1 rfl ?_
            refine z_goto d_X8_hots_74 ?_
            rw [nI_1]
            have h := ih hlt
            rw [htV] at h
            first
              | (rw [if_pos h_58] at h; rw [Int64.or_zero]; exact h)
              | (rw [if_neg h_58] at h; exact h)
      refine loop _ ?_ 0 (Nat.zero_le 48)
      refine z_lload_n d_X8_hots_77 rfl ?_
      exact z_lreturn d_X8_hots_78 rfl ⟨rfl, rfl, rfl, rfl, rfl⟩
    · have hw := b0 h_21
      refine z_ldc2 d_X8_hots_24 l_X8_241 ?_
      exact z_lreturn d_X8_hots_27 rfl ⟨by simp [hw], rfl, rfl, rfl, rfl⟩
/-- beside: above or below, before or behind -/
def upB (w k : Int32) : Bool := decide (k - k / 8 * 8 = w - w / 8 * 8) && (decide (k - w = 8) || decide (w - k = 8))
def onB (w k : Int32) : Bool := decide (k / 8 = w / 8) && (decide (k - w = 1) || decide (w - k = 1))
def mdR (we hot : Nat → Int32) (w : Int32) : Nat → Int32 × Int32
  | 0 => (0, 0)
  | k + 1 => if (upB w (nI k) || onB w (nI k)) = true ∧ hot k = 0 then ((mdR we hot w k).1 + we k, (mdR we hot w k).2 + 1) else mdR we hot w k
def anR (li rt : Nat → Int32) (n t : Int32) : Nat → Bool
  | 0 => true
  | w + 1 => anR li rt n t w && (decide (li w = 0) || !decide (rt w * t < n))
def enR (ok : Nat → Bool) (lg : Int32) : Nat → Nat → Int32
  | 0, _ => -4
  | m + 1, t => if lg < nI t then -4 else if ok t = true then nI t else enR ok lg m (t + 1)
theorem lsV_le (a b : Int32) : lsV a b ≤ a := by
  unfold lsV
  split
  · assumption
  · exact Int32.le_refl _
theorem lgR_le (cap : Int32) (r : Nat → Int32) : ∀ n, lgR cap r n ≤ 999
  | 0 => by show (999 : Int32) ≤ 999; decide
  | n + 1 => by
    have h := lgR_le cap r n
    unfold lgR
    split
    · exact h
    · exact Int32.le_trans (lsV_le _ _) h
set_option maxRecDepth 100000 in
set_option maxHeartbeats 4000000 in
theorem ct_X8_mended {E : zE} {I : zI} {L : zL} {R : zR} {w : Int32} (hR : zLx R) : zCf E m_X8_mended zShF [.ref 64, .int w] I L R (some (.int (if isW w = true then (if (mdR (I 65) (I 69) w 48).2 = 0 then -4 else (mdR (I 65) (I 69) w 48).1 / (mdR (I 65) (I 69) w 48).2) else -1))) (I) (L) (R) := by
  refine z_met (by decide) [some (.ref 64), some (.int w), none, none, none, none, none] rfl rfl (Nat.le_of_ble_eq_true rfl) (fun X => ?_)
  refine z_iload_n d_X8_mended_0 rfl ?_
  refine z_cSi d_X8_mended_1 q_X8_mended_183 ⟨rfl, rfl⟩ (ct_X8_isWell) rfl rfl rfl ⟨Nat.zero_le _, Nat.zero_le _⟩ ?_
  refine z_if_ne d_X8_mended_4 (fun h_4 => ?_) (fun h_4 => ?_)
  · have hw := b1 h_4
    rw [if_pos hw]
    refine z_iconst d_X8_mended_9 ki_0 ?_
    refine z_istore2 d_X8_mended_10 rfl ?_
    refine z_iconst d_X8_mended_11 ki_0 ?_
    refine z_istore3 d_X8_mended_12 rfl ?_
    refine z_iconst d_X8_mended_13 ki_0 ?_
    refine z_istore4 d_X8_mended_14 rfl ?_
    have loop : ∀ (Qs : State → Prop), (∀ o1 o2 : Option Value, zZ E m_X8_mended X Qs zShF 0 0 134 [some (.ref 64), some (.int w), some (.int (mdR (I 65) (I 69) w 48).1), some (.int (mdR (I 65) (I 69) w 48).2), some (.int (nI 48)), o1, o2] [] I L R) → ∀ i, i ≤ 48 → ∀ o1 o2 : Option Value, zZ E m_X8_mended X Qs zShF 0 0 16 [some (.ref 64), some (.int w), some (.int (mdR (I 65) (I 69) w i).1), some (.int (mdR (I 65) (I 69) w i).2), some (.int (nI i)), o1, o2] [] I L R := by
      intro Qs hx
      refine up_rec (fun i hi ih o1 o2 => ?_)
      refine z_iload d_X8_mended_16 rfl ?_
      refine z_bipush d_X8_mended_18 kb_48 ?_
      refine z_icmp_ge d_X8_mended_20 (fun h_20 => ?_) (fun h_20 => ?_)
      · obtain rfl := eq_of_ge (n := 48) (by decide) hi h_20
        exact hx o1 o2
      · have hlt := lt_of_nge (n := 48) (by decide) h_20 (by omega)
        have j58 : zZ E m_X8_mended X Qs zShF 0 0 58 [some (.ref 64), some (.int w), some (.int (mdR (I 65) (I 69) w i).1), some (.int (mdR (I 65) (I 69) w i).2), some (.int (nI i)), o1, o2] [.int (b2i (upB w (nI i)))] I L R := by
          have j93 : zZ E m_X8_mended X Qs zShF 0 0 93 [some (.ref 64), some (.int w), some (.int (mdR (I 65) (I 69) w i).1), some (.int (mdR (I 65) (I 69) w i).2), some (.int (nI i)), some (.int (b2i (upB w (nI i)))), o2] [.int (b2i (onB w (nI i)))] I L R := by
            refine z_istore6 d_X8_mended_93 rfl ?_
            refine z_iload d_X8_mended_95 rfl ?_
            refine z_if_ne d_X8_mended_97 (fun h_97 => ?_) (fun h_97 => ?_)
            · refine z_aload_n d_X8_mended_105 rfl ?_
              refine z_getR d_X8_mended_106 f_X8_24 (by first | rfl | assumption) (by omega) (by first | exact hR _ _ _ rfl | rfl | assumption) ?_
              refine z_iload d_X8_mended_109 rfl ?_
              refine z_iaload d_X8_mended_111 (by first | rfl | assumption) (by omega) (by first | exact zix_nI (by assumption) (by first | decide | assumption) | exact zix_nI (by omega) (by first | decide | assumption) | assumption) ?_
              refine z_if_ne d_X8_mended_112 (fun h_112 => ?_) (fun h_112 => ?_)
              · refine z_iinc4 d_X8_mended_128 ki_1 rfl ?_
                refine z_goto d_X8_mended_131 ?_
                rw [nI_1]
                have h := ih hlt (some (.int (b2i (upB w (nI i))))) (some (.int (b2i (onB w (nI i)))))
                rw [mdR] at h
                first
                  | (rw [if_neg (fun q => by rw [b0 h_97, b0 h_102] at q; exact absurd q.1 (by decide))] at h; exact h)
                  | (rw [if_neg (fun q => h_112 q.2)] at h; exact h)
                  | (rw [if_pos ⟨by rw [b1 h_97]; rfl, h_112⟩] at h; exact h)
                  | (rw [if_pos ⟨by rw [b1 h_102]; exact Bool.or_true _, h_112⟩] at h; exact h)
              · refine z_iload_n d_X8_mended_115 rfl ?_
                refine z_aload_n d_X8_mended_116 rfl ?_
                refine z_getR d_X8_mended_117 f_X8_7 (by first | rfl | assumption) (by omega) (by first | exact hR _ _ _ rfl | rfl | assumption) ?_
                refine z_iload d_X8_mended_120 rfl ?_
                refine z_iaload d_X8_mended_122 (by first | rfl | assumption) (by omega) (by first | exact zix_nI (by assumption) (by first | decide | assumption) | exact zix_nI (by omega) (by first | decide | assumption) | assumption) ?_
                refine z_iadd d_X8_mended_123 ?_
                refine z_istore2 d_X8_mended_124 rfl ?_
                refine z_iinc3 d_X8_mended_125 ki_1 rfl ?_
                refine z_iinc4 d_X8_mended_128 ki_1 rfl ?_
                refine z_goto d_X8_mended_131 ?_
                rw [nI_1]
                have h := ih hlt (some (.int (b2i (upB w (nI i))))) (some (.int (b2i (onB w (nI i)))))
                rw [mdR] at h
                first
                  | (rw [if_neg (fun q => by rw [b0 h_97, b0 h_102] at q; exact absurd q.1 (by decide))] at h; exact h)
                  | (rw [if_neg (fun q => h_112 q.2)] at h; exact h)
                  | (rw [if_pos ⟨by rw [b1 h_97]; rfl, h_112⟩] at h; exact h)
                  | (rw [if_pos ⟨by rw [b1 h_102]; exact Bool.or_true _, h_112⟩] at h; exact h)
            · refine z_iload d_X8_mended_100 rfl ?_
              refine z_if_eq d_X8_mended_102 (fun h_102 => ?_) (fun h_102 => ?_)
              · refine z_iinc4 d_X8_mended_128 ki_1 rfl ?_
                refine z_goto d_X8_mended_131 ?_
                rw [nI_1]
                have h := ih hlt (some (.int (b2i (upB w (nI i))))) (some (.int (b2i (onB w (nI i)))))
                rw [mdR] at h
                first
                  | (rw [if_neg (fun q => by rw [b0 h_97, b0 h_102] at q; exact absurd q.1 (by decide))] at h; exact h)
                  | (rw [if_neg (fun q => h_112 q.2)] at h; exact h)
                  | (rw [if_pos ⟨by rw [b1 h_97]; rfl, h_112⟩] at h; exact h)
                  | (rw [if_pos ⟨by rw [b1 h_102]; exact Bool.or_true _, h_112⟩] at h; exact h)
              · refine z_aload_n d_X8_mended_105 rfl ?_
                refine z_getR d_X8_mended_106 f_X8_24 (by first | rfl | assumption) (by omega) (by first | exact hR _ _ _ rfl | rfl | assumption) ?_
                refine z_iload d_X8_mended_109 rfl ?_
                refine z_iaload d_X8_mended_111 (by first | rfl | assumption) (by omega) (by first | exact zix_nI (by assumption) (by first | decide | assumption) | exact zix_nI (by omega) (by first | decide | assumption) | assumption) ?_
                refine z_if_ne d_X8_mended_112 (fun h_112 => ?_) (fun h_112 => ?_)
                · refine z_iinc4 d_X8_mended_128 ki_1 rfl ?_
                  refine z_goto d_X8_mended_131 ?_
                  rw [nI_1]
                  have h := ih hlt (some (.int (b2i (upB w (nI i))))) (some (.int (b2i (onB w (nI i)))))
                  rw [mdR] at h
                  first
                    | (rw [if_neg (fun q => by rw [b0 h_97, b0 h_102] at q; exact absurd q.1 (by decide))] at h; exact h)
                    | (rw [if_neg (fun q => h_112 q.2)] at h; exact h)
                    | (rw [if_pos ⟨by rw [b1 h_97]; rfl, h_112⟩] at h; exact h)
                    | (rw [if_pos ⟨by rw [b1 h_102]; exact Bool.or_true _, h_112⟩] at h; exact h)
                · refine z_iload_n d_X8_mended_115 rfl ?_
                  refine z_aload_n d_X8_mended_116 rfl ?_
                  refine z_getR d_X8_mended_117 f_X8_7 (by first | rfl | assumption) (by omega) (by first | exact hR _ _ _ rfl | rfl | assumption) ?_
                  refine z_iload d_X8_mended_120 rfl ?_
                  refine z_iaload d_X8_mended_122 (by first | rfl | assumption) (by omega) (by first | exact zix_nI (by assumption) (by first | decide | assumption) | exact zix_nI (by omega) (by first | decide | assumption) | assumption) ?_
                  refine z_iadd d_X8_mended_123 ?_
                  refine z_istore2 d_X8_mended_124 rfl ?_
                  refine z_iinc3 d_X8_mended_125 ki_1 rfl ?_
                  refine z_iinc4 d_X8_mended_128 ki_1 rfl ?_
                  refine z_goto d_X8_mended_131 ?_
                  rw [nI_1]
                  have h := ih hlt (some (.int (b2i (upB w (nI i))))) (some (.int (b2i (onB w (nI i)))))
                  rw [mdR] at h
                  first
                    | (rw [if_neg (fun q => by rw [b0 h_97, b0 h_102] at q; exact absurd q.1 (by decide))] at h; exact h)
                    | (rw [if_neg (fun q => h_112 q.2)] at h; exact h)
                    | (rw [if_pos ⟨by rw [b1 h_97]; rfl, h_112⟩] at h; exact h)
                    | (rw [if_pos ⟨by rw [b1 h_102]; exact Bool.or_true _, h_112⟩] at h; exact h)
          refine z_istore5 d_X8_mended_58 rfl ?_
          refine z_iload d_X8_mended_60 rfl ?_
          refine z_bipush d_X8_mended_62 kb_8 ?_
          refine z_idiv d_X8_mended_64 (by decide) ?_
          refine z_iload_n d_X8_mended_65 rfl ?_
          refine z_bipush d_X8_mended_66 kb_8 ?_
          refine z_idiv d_X8_mended_68 (by decide) ?_
          refine z_icmp_ne d_X8_mended_69 (fun h_69 => ?_) (fun h_69 => ?_)
          · refine z_iconst d_X8_mended_92 ki_0 ?_
            refine z_topi (y := b2i (onB w (nI i))) (by simp [onB, b2i, *]) ?_
            exact j93
          · refine z_iload d_X8_mended_72 rfl ?_
            refine z_iload_n d_X8_mended_74 rfl ?_
            refine z_isub d_X8_mended_75 ?_
            refine z_iconst d_X8_mended_76 ki_1 ?_
            refine z_icmp_eq d_X8_mended_77 (fun h_77 => ?_) (fun h_77 => ?_)
            · refine z_iconst d_X8_mended_88 ki_1 ?_
              refine z_goto d_X8_mended_89 ?_
              refine z_topi (y := b2i (onB w (nI i))) (by simp [onB, b2i, *]) ?_
              exact j93
            · refine z_iload_n d_X8_mended_80 rfl ?_
              refine z_iload d_X8_mended_81 rfl ?_
              refine z_isub d_X8_mended_83 ?_
              refine z_iconst d_X8_mended_84 ki_1 ?_
              refine z_icmp_ne d_X8_mended_85 (fun h_85 => ?_) (fun h_85 => ?_)
              · refine z_iconst d_X8_mended_92 ki_0 ?_
                refine z_topi (y := b2i (onB w (nI i))) (by simp [onB, b2i, *]) ?_
                exact j93
              · refine z_iconst d_X8_mended_88 ki_1 ?_
                refine z_goto d_X8_mended_89 ?_
                refine z_topi (y := b2i (onB w (nI i))) (by simp [onB, b2i, *]) ?_
                exact j93
        refine z_iload d_X8_mended_23 rfl ?_
        refine z_bipush d_X8_mended_25 kb_8 ?_
        refine z_irem d_X8_mended_27 (by decide) ?_
        refine z_iload_n d_X8_mended_28 rfl ?_
        refine z_bipush d_X8_mended_29 kb_8 ?_
        refine z_irem d_X8_mended_31 (by decide) ?_
        refine z_icmp_ne d_X8_mended_32 (fun h_32 => ?_) (fun h_32 => ?_)
        · refine z_iconst d_X8_mended_57 ki_0 ?_
          refine z_topi (y := b2i (upB w (nI i))) (by simp [upB, b2i, *]) ?_
          exact j58
        · refine z_iload d_X8_mended_35 rfl ?_
          refine z_iload_n d_X8_mended_37 rfl ?_
          refine z_isub d_X8_mended_38 ?_
          refine z_bipush d_X8_mended_39 kb_8 ?_
          refine z_icmp_eq d_X8_mended_41 (fun h_41 => ?_) (fun h_41 => ?_)
          · refine z_iconst d_X8_mended_53 ki_1 ?_
            refine z_goto d_X8_mended_54 ?_
            refine z_topi (y := b2i (upB w (nI i))) (by simp [upB, b2i, *]) ?_
            exact j58
          · refine z_iload_n d_X8_mended_44 rfl ?_
            refine z_iload d_X8_mended_45 rfl ?_
            refine z_isub d_X8_mended_47 ?_
            refine z_bipush d_X8_mended_48 kb_8 ?_
            refine z_icmp_ne d_X8_mended_50 (fun h_50 => ?_) (fun h_50 => ?_)
            · refine z_iconst d_X8_mended_57 ki_0 ?_
              refine z_topi (y := b2i (upB w (nI i))) (by simp [upB, b2i, *]) ?_
              exact j58
            · refine z_iconst d_X8_mended_53 ki_1 ?_
              refine z_goto d_X8_mended_54 ?_
              refine z_topi (y := b2i (upB w (nI i))) (by simp [upB, b2i, *]) ?_
              exact j58
    refine loop _ (fun o1 o2 => ?_) 0 (Nat.zero_le 48) none none
    generalize mdR (I 65) (I 69) w 48 = md
    refine z_iload_n d_X8_mended_134 rfl ?_
    refine z_if_ne d_X8_mended_135 (fun h_135 => ?_) (fun h_135 => ?_)
    · refine z_iload_n d_X8_mended_143 rfl ?_
      refine z_iload_n d_X8_mended_144 rfl ?_
      refine z_idiv d_X8_mended_145 (by first | assumption | decide) ?_
      exact z_ireturn d_X8_mended_146 rfl ⟨by simp [h_135], rfl, rfl, rfl, rfl⟩
    · refine z_bipush d_X8_mended_138 kb_m4 ?_
      refine z_goto d_X8_mended_140 ?_
      exact z_ireturn d_X8_mended_146 rfl ⟨by simp [h_135], rfl, rfl, rfl, rfl⟩
  · have hw := b0 h_4
    refine z_iconst d_X8_mended_7 ki_m1 ?_
    exact z_ireturn d_X8_mended_8 rfl ⟨by rw [hw]; rfl, rfl, rfl, rfl, rfl⟩
set_option maxRecDepth 100000 in
set_option maxHeartbeats 4000000 in
theorem ct_X8_enough {E : zE} {I : zI} {L : zL} {R : zR} {n : Int32} (hR : zLx R) : zCf E m_X8_enough zShF [.ref 64, .int n] I L R (some (.int (if inV 1 999 n = true then enR (fun t => anR (fun w => I 65 (104 + w)) (fun w => I 65 (104 + w) + I 69 w + I 68 1) n (nI t) 48) (lgR (I 68 0) (fun w => I 65 (104 + w) + I 69 w + I 68 1) 48) 999 1 else -1))) (I) (L) (R) := by
  refine z_met (by decide) [some (.ref 64), some (.int n), none, none, none] rfl rfl (Nat.le_of_ble_eq_true rfl) (fun X => ?_)
  refine z_iload_n d_X8_enough_0 rfl ?_
  refine z_i2l d_X8_enough_1 ?_
  refine z_lconst (v := 1) d_X8_enough_2 (by decide) ?_
  refine z_ldc2 d_X8_enough_3 l_X8_202 ?_
  refine z_cSi d_X8_enough_6 q_X8_enough_92 ⟨rfl, rfl⟩ (ct_X8_in) rfl rfl rfl ⟨Nat.zero_le _, Nat.zero_le _⟩ ?_
  rw [inLc (lo := 1) (hi := 999) (by decide) (by decide)]
  refine z_if_ne d_X8_enough_9 (fun h_9 => ?_) (fun h_9 => ?_)
  · rw [if_pos (b1 h_9)]
    generalize hlg : lgR (I 68 0) (fun w => I 65 (104 + w) + I 69 w + I 68 1) 48 = lg
    have hlg9 : lg ≤ 999 := by rw [← hlg]; exact lgR_le _ _ _
    generalize hr0 : enR (fun t => anR (fun w => I 65 (104 + w)) (fun w => I 65 (104 + w) + I 69 w + I 68 1) n (nI t) 48) lg 999 1 = r
    refine z_iconst d_X8_enough_14 ki_1 ?_
    refine z_istore2 d_X8_enough_15 rfl ?_
    have loop : ∀ (Qs : State → Prop), (r = -4 → ∀ (o0 o1 o2 : Option Value), zZ E m_X8_enough X Qs zShF 0 0 89 [some (.ref 64), some (.int n), o0, o1, o2] [] I L R) → (∀ (o1 o2 : Option Value), zZ E m_X8_enough X Qs zShF 0 0 81 [some (.ref 64), some (.int n), some (.int r), o1, o2] [] I L R) → ∀ m t, m + t = 1000 → (∀ (o1 o2 : Option Value), enR (fun t => anR (fun w => I 65 (104 + w)) (fun w => I 65 (104 + w) + I 69 w + I 68 1) n (nI t) 48) lg m t = r → zZ E m_X8_enough X Qs zShF 0 0 16 [some (.ref 64), some (.int n), some (.int (nI t)), o1, o2] [] I L R) := by
      intro Qs hx hx2 m
      induction m with
      | zero =>
        intro t hm o1 o2 hr
        obtain rfl : t = 1000 := by omega
        refine z_iload_n d_X8_enough_16 rfl ?_
        refine z_aload_n d_X8_enough_17 rfl ?_
        refine z_cVi d_X8_enough_18 q_X8_enough_262 (by first | rfl | assumption) (by omega) ⟨rfl, rfl⟩ (ct_X8_longest hR) rfl rfl rfl ⟨Nat.zero_le _, Nat.zero_le _⟩ ?_
        rw [hlg]
        refine z_icmp_gt d_X8_enough_21 (fun h_21 => ?_) (fun h_21 => absurd (Int32.lt_of_le_of_lt hlg9 (by decide)) h_21)
        exact hx hr.symm _ _ _
      | succ m ih =>
        intro t hm o1 o2 hr
        rw [enR] at hr
        refine z_iload_n d_X8_enough_16 rfl ?_
        refine z_aload_n d_X8_enough_17 rfl ?_
        refine z_cVi d_X8_enough_18 q_X8_enough_262 (by first | rfl | assumption) (by omega) ⟨rfl, rfl⟩ (ct_X8_longest hR) rfl rfl rfl ⟨Nat.zero_le _, Nat.zero_le _⟩ ?_
        rw [hlg]
        refine z_icmp_gt d_X8_enough_21 (fun h_21 => ?_) (fun h_21 => ?_)
        · rw [if_pos h_21] at hr
          exact hx hr.symm _ _ _
        · rw [if_neg h_21] at hr
          refine z_iconst d_X8_enough_24 ki_1 ?_
          refine z_istore3 d_X8_enough_25 rfl ?_
          refine z_iconst d_X8_enough_26 ki_0 ?_
          refine z_istore4 d_X8_enough_27 rfl ?_
          have loop2 : ∀ (Qs : State → Prop), (zZ E m_X8_enough X Qs zShF 0 0 77 [some (.ref 64), some (.int n), some (.int (nI t)), some (.int (b2i (anR (fun w => I 65 (104 + w)) (fun w => I 65 (104 + w) + I 69 w + I 68 1) n (nI t) 48))), some (.int (nI 48))] [] I L R) → ∀ i, i ≤ 48 → zZ E m_X8_enough X Qs zShF 0 0 29 [some (.ref 64), some (.int n), some (.int (nI t)), some (.int (b2i (anR (fun w => I 65 (104 + w)) (fun w => I 65 (104 + w) + I 69 w + I 68 1) n (nI t) i))), some (.int (nI i))] [] I L R := by
            intro Qs hx
            refine up_rec (fun i hi ih => ?_)
            refine z_iload d_X8_enough_29 rfl ?_
            refine z_bipush d_X8_enough_31 kb_48 ?_
            refine z_icmp_ge d_X8_enough_33 (fun h_33 => ?_) (fun h_33 => ?_)
            · obtain rfl := eq_of_ge (n := 48) (by decide) hi h_33
              exact hx
            · have hlt := lt_of_nge (n := 48) (by decide) h_33 (by omega)
              refine z_iload_n d_X8_enough_36 rfl ?_
              refine z_if_eq d_X8_enough_37 (fun h_37 => ?_) (fun h_37 => ?_)
              · refine z_iconst d_X8_enough_69 ki_0 ?_
                refine z_istore3 d_X8_enough_70 rfl ?_
                refine z_iinc4 d_X8_enough_71 ki_1 rfl ?_
                refine z_goto d_X8_enough_74 ?_
                rw [nI_1]
                have h := ih hlt
                rw [anR] at h
                first
                  | (rw [b0 h_37] at h; exact h)
                  | (rw [b1 h_37, show (decide (I 65 (104 + i) = 0)) = true from decide_eq_true h_50] at h; exact h)
                  | (rw [b1 h_37, show (decide (I 65 (104 + i) = 0)) = false from decide_eq_false h_50, show decide ((I 65 (104 + i) + I 69 i + I 68 1) * nI t < n) = true from decide_eq_true h_62] at h; exact h)
                  | (rw [b1 h_37, show (decide (I 65 (104 + i) = 0)) = false from decide_eq_false h_50, show decide ((I 65 (104 + i) + I 69 i + I 68 1) * nI t < n) = false from decide_eq_false h_62] at h; exact h)
              · refine z_aload_n d_X8_enough_40 rfl ?_
                refine z_getR d_X8_enough_41 f_X8_7 (by first | rfl | assumption) (by omega) (by first | exact hR _ _ _ rfl | rfl | assumption) ?_
                refine z_bipush d_X8_enough_44 kb_104 ?_
                refine z_iload d_X8_enough_46 rfl ?_
                refine z_iadd d_X8_enough_48 ?_
                refine z_iaload d_X8_enough_49 (by first | rfl | assumption) (by omega) (zix_e (show (104 : Int32) + nI i = nI (104 + i) from nI_add 104 i) (by omega) (by decide)) ?_
                refine z_if_eq d_X8_enough_50 (fun h_50 => ?_) (fun h_50 => ?_)
                · refine z_iconst d_X8_enough_65 ki_1 ?_
                  refine z_goto d_X8_enough_66 ?_
                  refine z_istore3 d_X8_enough_70 rfl ?_
                  refine z_iinc4 d_X8_enough_71 ki_1 rfl ?_
                  refine z_goto d_X8_enough_74 ?_
                  rw [nI_1]
                  have h := ih hlt
                  rw [anR] at h
                  first
                    | (rw [b0 h_37] at h; exact h)
                    | (rw [b1 h_37, show (decide (I 65 (104 + i) = 0)) = true from decide_eq_true h_50] at h; exact h)
                    | (rw [b1 h_37, show (decide (I 65 (104 + i) = 0)) = false from decide_eq_false h_50, show decide ((I 65 (104 + i) + I 69 i + I 68 1) * nI t < n) = true from decide_eq_true h_62] at h; exact h)
                    | (rw [b1 h_37, show (decide (I 65 (104 + i) = 0)) = false from decide_eq_false h_50, show decide ((I 65 (104 + i) + I 69 i + I 68 1) * nI t < n) = false from decide_eq_false h_62] at h; exact h)
                · refine z_aload_n d_X8_enough_53 rfl ?_
                  refine z_iload d_X8_enough_54 rfl ?_
                  refine z_cVi d_X8_enough_56 q_X8_enough_204 (by first | rfl | assumption) (by omega) ⟨rfl, rfl⟩ (ct_X8_rateOf hR hlt) rfl rfl rfl ⟨Nat.zero_le _, Nat.zero_le _⟩ ?_
                  refine z_iload_n d_X8_enough_59 rfl ?_
                  refine z_imul d_X8_enough_60 ?_
                  refine z_iload_n d_X8_enough_61 rfl ?_
                  refine z_icmp_lt d_X8_enough_62 (fun h_62 => ?_) (fun h_62 => ?_)
                  · refine z_iconst d_X8_enough_69 ki_0 ?_
                    refine z_istore3 d_X8_enough_70 rfl ?_
                    refine z_iinc4 d_X8_enough_71 ki_1 rfl ?_
                    refine z_goto d_X8_enough_74 ?_
                    rw [nI_1]
                    have h := ih hlt
                    rw [anR] at h
                    first
                      | (rw [b0 h_37] at h; exact h)
                      | (rw [b1 h_37, show (decide (I 65 (104 + i) = 0)) = true from decide_eq_true h_50] at h; exact h)
                      | (rw [b1 h_37, show (decide (I 65 (104 + i) = 0)) = false from decide_eq_false h_50, show decide ((I 65 (104 + i) + I 69 i + I 68 1) * nI t < n) = true from decide_eq_true h_62] at h; exact h)
                      | (rw [b1 h_37, show (decide (I 65 (104 + i) = 0)) = false from decide_eq_false h_50, show decide ((I 65 (104 + i) + I 69 i + I 68 1) * nI t < n) = false from decide_eq_false h_62] at h; exact h)
                  · refine z_iconst d_X8_enough_65 ki_1 ?_
                    refine z_goto d_X8_enough_66 ?_
                    refine z_istore3 d_X8_enough_70 rfl ?_
                    refine z_iinc4 d_X8_enough_71 ki_1 rfl ?_
                    refine z_goto d_X8_enough_74 ?_
                    rw [nI_1]
                    have h := ih hlt
                    rw [anR] at h
                    first
                      | (rw [b0 h_37] at h; exact h)
                      | (rw [b1 h_37, show (decide (I 65 (104 + i) = 0)) = true from decide_eq_true h_50] at h; exact h)
                      | (rw [b1 h_37, show (decide (I 65 (104 + i) = 0)) = false from decide_eq_false h_50, show decide ((I 65 (104 + i) + I 69 i + I 68 1) * nI t < n) = true from decide_eq_true h_62] at h; exact h)
                      | (rw [b1 h_37, show (decide (I 65 (104 + i) = 0)) = false from decide_eq_false h_50, show decide ((I 65 (104 + i) + I 69 i + I 68 1) * nI t < n) = false from decide_eq_false h_62] at h; exact h)
          refine loop2 _ ?_ 0 (Nat.zero_le 48)
          refine z_iload_n d_X8_enough_77 rfl ?_
          refine z_if_eq d_X8_enough_78 (fun h_78 => ?_) (fun h_78 => ?_)
          · refine z_iinc2 d_X8_enough_83 ki_1 rfl ?_
            refine z_goto d_X8_enough_86 ?_
            rw [if_neg (by rw [b0 h_78]; decide)] at hr
            rw [nI_1]
            exact ih (t + 1) (by omega) _ _ hr
          · rw [if_pos (b1 h_78)] at hr
            rw [hr]
            exact hx2 _ _
    refine loop _ (fun hr4 o0 o1 o2 => ?_) (fun o1 o2 => ?_) 999 1 rfl none none hr0
    · rw [hr4]
      refine z_bipush d_X8_enough_89 kb_m4 ?_
      exact z_ireturn d_X8_enough_91 rfl ⟨rfl, rfl, rfl, rfl, rfl⟩
    · refine z_iload_n d_X8_enough_81 rfl ?_
      exact z_ireturn d_X8_enough_82 rfl ⟨rfl, rfl, rfl, rfl, rfl⟩
  · have hw := b0 h_9
    refine z_iconst d_X8_enough_12 ki_m1 ?_
    exact z_ireturn d_X8_enough_13 rfl ⟨by rw [hw]; rfl, rfl, rfl, rfl, rfl⟩
set_option maxRecDepth 100000 in
set_option maxHeartbeats 4000000 in
theorem ct_X8_count {E : zE} {I : zI} {L : zL} {R : zR} {x : Int32} (hR : zLx R) {k0 k1 : Bool} (hk0 : I 67 0 = b2i k0) (hk1 : I 67 1 = b2i k1) : zCf E m_X8_count zShF [.ref 64, .int x] I L R (some (.int (if x = 0 then cntV (fun j => decide (0 < I 69 j)) 48 else if x = 1 then cntV (fun j => decide (0 < I 70 j)) 48 else if x = 2 then I 64 6 else if x = 3 then b2i k0 + b2i k1 else if x = 4 then I 64 17 else if x = 5 then (if I 82 0 = -4 then -4 else I 83 0) else if x = 6 then cntV (fun j => decide (0 < I 65 (104 + j))) 48 else -1))) (I) (L) (R) := by
  refine z_met (by decide) [some (.ref 64), some (.int x), none, none, none, none] rfl rfl (Nat.le_of_ble_eq_true rfl) (fun X => ?_)
  refine z_iconst d_X8_count_0 ki_0 ?_
  refine z_istore2 d_X8_count_1 rfl ?_
  refine z_iconst d_X8_count_2 ki_0 ?_
  refine z_istore3 d_X8_count_3 rfl ?_
  refine z_iconst d_X8_count_4 ki_0 ?_
  refine z_istore4 d_X8_count_5 rfl ?_
  refine z_iconst d_X8_count_7 ki_0 ?_
  refine z_istore5 d_X8_count_8 rfl ?_
  have loop : ∀ (Qs : State → Prop), (zZ E m_X8_count X Qs zShF 0 0 91 [some (.ref 64), some (.int x), some (.int (cntV (fun j => decide (0 < I 69 j)) 48)), some (.int (cntV (fun j => decide (0 < I 70 j)) 48)), some (.int (cntV (fun j => decide (0 < I 65 (104 + j))) 48)), some (.int (nI 48))] [] I L R) → ∀ i, i ≤ 48 → zZ E m_X8_count X Qs zShF 0 0 10 [some (.ref 64), some (.int x), some (.int (cntV (fun j => decide (0 < I 69 j)) i)), some (.int (cntV (fun j => decide (0 < I 70 j)) i)), some (.int (cntV (fun j => decide (0 < I 65 (104 + j))) i)), some (.int (nI i))] [] I L R := by
    intro Qs hx
    refine up_rec (fun i hi ih => ?_)
    refine z_iload d_X8_count_10 rfl ?_
    refine z_bipush d_X8_count_12 kb_48 ?_
    refine z_icmp_ge d_X8_count_14 (fun h_14 => ?_) (fun h_14 => ?_)
    · obtain rfl := eq_of_ge (n := 48) (by decide) hi h_14
      exact hx
    · have hlt := lt_of_nge (n := 48) (by decide) h_14 (by omega)
      have j33 : zZ E m_X8_count X Qs zShF 0 0 33 [some (.ref 64), some (.int x), some (.int (cntV (fun j => decide (0 < I 69 j)) i)), some (.int (cntV (fun j => decide (0 < I 70 j)) i)), some (.int (cntV (fun j => decide (0 < I 65 (104 + j))) i)), some (.int (nI i))] [.int (b2i (decide (0 < I 69 i))), .int (cntV (fun j => decide (0 < I 69 j)) i)] I L R := by
        have j54 : zZ E m_X8_count X Qs zShF 0 0 54 [some (.ref 64), some (.int x), some (.int (cntV (fun j => decide (0 < I 69 j)) (i + 1))), some (.int (cntV (fun j => decide (0 < I 70 j)) i)), some (.int (cntV (fun j => decide (0 < I 65 (104 + j))) i)), some (.int (nI i))] [.int (b2i (decide (0 < I 70 i))), .int (cntV (fun j => decide (0 < I 70 j)) i)] I L R := by
          have j79 : zZ E m_X8_count X Qs zShF 0 0 79 [some (.ref 64), some (.int x), some (.int (cntV (fun j => decide (0 < I 69 j)) (i + 1))), some (.int (cntV (fun j => decide (0 < I 70 j)) (i + 1))), some (.int (cntV (fun j => decide (0 < I 65 (104 + j))) i)), some (.int (nI i))] [.int (b2i (decide (0 < I 65 (104 + i)))), .int (cntV (fun j => decide (0 < I 65 (104 + j))) i)] I L R := by
            refine z_cSi d_X8_count_79 q_X8_count_237 ⟨rfl, rfl⟩ (ct_X8_flag (b := decide (0 < I 65 (104 + i)))) rfl rfl rfl ⟨Nat.zero_le _, Nat.zero_le _⟩ ?_
            refine z_iadd d_X8_count_82 ?_
            refine z_istore4 d_X8_count_83 rfl ?_
            refine z_iinc5 d_X8_count_85 ki_1 rfl ?_
            refine z_goto d_X8_count_88 ?_
            rw [nI_1]
            exact ih hlt
          refine z_cSi d_X8_count_54 q_X8_count_237 ⟨rfl, rfl⟩ (ct_X8_flag (b := decide (0 < I 70 i))) rfl rfl rfl ⟨Nat.zero_le _, Nat.zero_le _⟩ ?_
          refine z_iadd d_X8_count_57 ?_
          refine z_istore3 d_X8_count_58 rfl ?_
          refine z_iload d_X8_count_59 rfl ?_
          refine z_aload_n d_X8_count_61 rfl ?_
          refine z_getR d_X8_count_62 f_X8_7 (by first | rfl | assumption) (by omega) (by first | exact hR _ _ _ rfl | rfl | assumption) ?_
          refine z_bipush d_X8_count_65 kb_104 ?_
          refine z_iload d_X8_count_67 rfl ?_
          refine z_iadd d_X8_count_69 ?_
          refine z_iaload d_X8_count_70 (by first | rfl | assumption) (by omega) (zix_e (show (104 : Int32) + nI i = nI (104 + i) from nI_add 104 i) (by omega) (by decide)) ?_
          refine z_if_le d_X8_count_71 (fun h_71 => ?_) (fun h_71 => ?_)
          · refine z_iconst d_X8_count_78 ki_0 ?_
            refine z_topi (y := b2i (decide (0 < I 65 (104 + i)))) (by first | simp [b2i, h_71] | simp [b2i, Int32.not_le.mp h_71]) ?_
            exact j79
          · refine z_iconst d_X8_count_74 ki_1 ?_
            refine z_goto d_X8_count_75 ?_
            refine z_topi (y := b2i (decide (0 < I 65 (104 + i)))) (by first | simp [b2i, h_71] | simp [b2i, Int32.not_le.mp h_71]) ?_
            exact j79
        refine z_cSi d_X8_count_33 q_X8_count_237 ⟨rfl, rfl⟩ (ct_X8_flag (b := decide (0 < I 69 i))) rfl rfl rfl ⟨Nat.zero_le _, Nat.zero_le _⟩ ?_
        refine z_iadd d_X8_count_36 ?_
        refine z_istore2 d_X8_count_37 rfl ?_
        refine z_iload_n d_X8_count_38 rfl ?_
        refine z_aload_n d_X8_count_39 rfl ?_
        refine z_getR d_X8_count_40 f_X8_27 (by first | rfl | assumption) (by omega) (by first | exact hR _ _ _ rfl | rfl | assumption) ?_
        refine z_iload d_X8_count_43 rfl ?_
        refine z_iaload d_X8_count_45 (by first | rfl | assumption) (by omega) (by first | exact zix_nI (by assumption) (by first | decide | assumption) | exact zix_nI (by omega) (by first | decide | assumption) | assumption) ?_
        refine z_if_le d_X8_count_46 (fun h_46 => ?_) (fun h_46 => ?_)
        · refine z_iconst d_X8_count_53 ki_0 ?_
          refine z_topi (y := b2i (decide (0 < I 70 i))) (by first | simp [b2i, h_46] | simp [b2i, Int32.not_le.mp h_46]) ?_
          exact j54
        · refine z_iconst d_X8_count_49 ki_1 ?_
          refine z_goto d_X8_count_50 ?_
          refine z_topi (y := b2i (decide (0 < I 70 i))) (by first | simp [b2i, h_46] | simp [b2i, Int32.not_le.mp h_46]) ?_
          exact j54
      refine z_iload_n d_X8_count_17 rfl ?_
      refine z_aload_n d_X8_count_18 rfl ?_
      refine z_getR d_X8_count_19 f_X8_24 (by first | rfl | assumption) (by omega) (by first | exact hR _ _ _ rfl | rfl | assumption) ?_
      refine z_iload d_X8_count_22 rfl ?_
      refine z_iaload d_X8_count_24 (by first | rfl | assumption) (by omega) (by first | exact zix_nI (by assumption) (by first | decide | assumption) | exact zix_nI (by omega) (by first | decide | assumption) | assumption) ?_
      refine z_if_le d_X8_count_25 (fun h_25 => ?_) (fun h_25 => ?_)
      · refine z_iconst d_X8_count_32 ki_0 ?_
        refine z_topi (y := b2i (decide (0 < I 69 i))) (by first | simp [b2i, h_25] | simp [b2i, Int32.not_le.mp h_25]) ?_
        exact j33
      · refine z_iconst d_X8_count_28 ki_1 ?_
        refine z_goto d_X8_count_29 ?_
        refine z_topi (y := b2i (decide (0 < I 69 i))) (by first | simp [b2i, h_25] | simp [b2i, Int32.not_le.mp h_25]) ?_
        exact j33
  refine loop _ ?_ 0 (Nat.zero_le 48)
  generalize cntV (fun j => decide (0 < I 69 j)) 48 = c1
  generalize cntV (fun j => decide (0 < I 70 j)) 48 = c2
  generalize cntV (fun j => decide (0 < I 65 (104 + j))) 48 = c3
  refine z_iload_n d_X8_count_91 rfl ?_
  refine z_by (0) (fun e_92_0 => ?_) (fun e_92_0 => ?_)
  · refine z_tabIn (off := 44) (tgt := 136) d_X8_count_92 (by rw [e_92_0]; decide) (by rw [e_92_0]; decide) (by rw [e_92_0]; rfl) (by decide) ?_
    refine z_iload_n d_X8_count_136 rfl ?_
    exact z_ireturn d_X8_count_137 rfl ⟨by simp [*], rfl, rfl, rfl, rfl⟩
  refine z_by (1) (fun e_92_1 => ?_) (fun e_92_1 => ?_)
  · refine z_tabIn (off := 46) (tgt := 138) d_X8_count_92 (by rw [e_92_1]; decide) (by rw [e_92_1]; decide) (by rw [e_92_1]; rfl) (by decide) ?_
    refine z_iload_n d_X8_count_138 rfl ?_
    exact z_ireturn d_X8_count_139 rfl ⟨by simp [*], rfl, rfl, rfl, rfl⟩
  refine z_by (2) (fun e_92_2 => ?_) (fun e_92_2 => ?_)
  · refine z_tabIn (off := 48) (tgt := 140) d_X8_count_92 (by rw [e_92_2]; decide) (by rw [e_92_2]; decide) (by rw [e_92_2]; rfl) (by decide) ?_
    refine z_aload_n d_X8_count_140 rfl ?_
    refine z_getI d_X8_count_141 f_X8_99 (by first | rfl | assumption) (by omega) ?_
    exact z_ireturn d_X8_count_144 rfl ⟨by simp [*], rfl, rfl, rfl, rfl⟩
  refine z_by (3) (fun e_92_3 => ?_) (fun e_92_3 => ?_)
  · refine z_tabIn (off := 53) (tgt := 145) d_X8_count_92 (by rw [e_92_3]; decide) (by rw [e_92_3]; decide) (by rw [e_92_3]; rfl) (by decide) ?_
    refine z_aload_n d_X8_count_145 rfl ?_
    refine z_getR d_X8_count_146 f_X8_17 (by first | rfl | assumption) (by omega) (by first | exact hR _ _ _ rfl | rfl | assumption) ?_
    refine z_iconst d_X8_count_149 ki_0 ?_
    refine z_zaload d_X8_count_150 (by first | rfl | assumption) (by omega) (zix_lit 0 (by decide)) ?_
    rw [hk0]
    refine z_cSi d_X8_count_151 q_X8_count_237 ⟨rfl, rfl⟩ (ct_X8_flag (b := k0)) rfl rfl rfl ⟨Nat.zero_le _, Nat.zero_le _⟩ ?_
    refine z_aload_n d_X8_count_154 rfl ?_
    refine z_getR d_X8_count_155 f_X8_17 (by first | rfl | assumption) (by omega) (by first | exact hR _ _ _ rfl | rfl | assumption) ?_
    refine z_iconst d_X8_count_158 ki_1 ?_
    refine z_zaload d_X8_count_159 (by first | rfl | assumption) (by omega) (zix_lit 1 (by decide)) ?_
    rw [hk1]
    refine z_cSi d_X8_count_160 q_X8_count_237 ⟨rfl, rfl⟩ (ct_X8_flag (b := k1)) rfl rfl rfl ⟨Nat.zero_le _, Nat.zero_le _⟩ ?_
    refine z_iadd d_X8_count_163 ?_
    exact z_ireturn d_X8_count_164 rfl ⟨by simp [*], rfl, rfl, rfl, rfl⟩
  refine z_by (4) (fun e_92_4 => ?_) (fun e_92_4 => ?_)
  · refine z_tabIn (off := 73) (tgt := 165) d_X8_count_92 (by rw [e_92_4]; decide) (by rw [e_92_4]; decide) (by rw [e_92_4]; rfl) (by decide) ?_
    refine z_aload_n d_X8_count_165 rfl ?_
    refine z_getI d_X8_count_166 f_X8_102 (by first | rfl | assumption) (by omega) ?_
    exact z_ireturn d_X8_count_169 rfl ⟨by simp [*], rfl, rfl, rfl, rfl⟩
  refine z_by (5) (fun e_92_5 => ?_) (fun e_92_5 => ?_)
  · refine z_tabIn (off := 78) (tgt := 170) d_X8_count_92 (by rw [e_92_5]; decide) (by rw [e_92_5]; decide) (by rw [e_92_5]; rfl) (by decide) ?_
    refine z_aload_n d_X8_count_170 rfl ?_
    refine z_getR d_X8_count_171 f_X8_63 (by first | rfl | assumption) (by omega) (by first | exact hR _ _ _ rfl | rfl | assumption) ?_
    refine z_iconst d_X8_count_174 ki_0 ?_
    refine z_iaload d_X8_count_175 (by first | rfl | assumption) (by omega) (zix_lit 0 (by decide)) ?_
    refine z_bipush d_X8_count_176 kb_m4 ?_
    refine z_icmp_ne d_X8_count_178 (fun h_178 => ?_) (fun h_178 => ?_)
    · refine z_aload_n d_X8_count_186 rfl ?_
      refine z_getR d_X8_count_187 f_X8_66 (by first | rfl | assumption) (by omega) (by first | exact hR _ _ _ rfl | rfl | assumption) ?_
      refine z_iconst d_X8_count_190 ki_0 ?_
      refine z_iaload d_X8_count_191 (by first | rfl | assumption) (by omega) (zix_lit 0 (by decide)) ?_
      exact z_ireturn d_X8_count_192 rfl ⟨by simp [*], rfl, rfl, rfl, rfl⟩
    · refine z_bipush d_X8_count_181 kb_m4 ?_
      refine z_goto d_X8_count_183 ?_
      exact z_ireturn d_X8_count_192 rfl ⟨by simp [*], rfl, rfl, rfl, rfl⟩
  refine z_by (6) (fun e_92_6 => ?_) (fun e_92_6 => ?_)
  · refine z_tabIn (off := 101) (tgt := 193) d_X8_count_92 (by rw [e_92_6]; decide) (by rw [e_92_6]; decide) (by rw [e_92_6]; rfl) (by decide) ?_
    refine z_iload d_X8_count_193 rfl ?_
    exact z_ireturn d_X8_count_195 rfl ⟨by simp [*], rfl, rfl, rfl, rfl⟩
  refine z_tabOut (tgt := 196) d_X8_count_92 (by have n_0 := sw_ne e_92_0; have n_1 := sw_ne e_92_1; have n_2 := sw_ne e_92_2; have n_3 := sw_ne e_92_3; have n_4 := sw_ne e_92_4; have n_5 := sw_ne e_92_5; have n_6 := sw_ne e_92_6; replace n_0 : _ ≠ (0 : Int) := n_0; replace n_1 : _ ≠ (1 : Int) := n_1; replace n_2 : _ ≠ (2 : Int) := n_2; replace n_3 : _ ≠ (3 : Int) := n_3; replace n_4 : _ ≠ (4 : Int) := n_4; replace n_5 : _ ≠ (5 : Int) := n_5; replace n_6 : _ ≠ (6 : Int) := n_6; omega) (by decide) ?_
  refine z_iconst d_X8_count_196 ki_m1 ?_
  exact z_ireturn d_X8_count_197 rfl ⟨by simp [*], rfl, rfl, rfl, rfl⟩
