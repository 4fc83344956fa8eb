set_option maxRecDepth 100000 in
set_option maxHeartbeats 4000000 in
theorem ct_X8_reads_bad {E : zE} {I : zI} {L : zL} {R : zR} {k lane f n : Int32} (hR : zLx R) (hb : inV 0 3 k = false ∨ inV 0 2 lane = false ∨ inV 0 20 n = false) : zCf E m_X8_reads zShF [.ref 64, .int k, .int lane, .int f, .int n] I L R (some (.int (-1))) (I) (L) (R) := by
  refine z_met (by decide) [some (.ref 64), some (.int k), some (.int lane), some (.int f), some (.int n), none, none, none, none, none, none] rfl rfl (Nat.le_of_ble_eq_true rfl) (fun X => ?_)
  refine z_iload_n d_X8_reads_0 rfl ?_
  refine z_iload_n d_X8_reads_1 rfl ?_
  refine z_cSi d_X8_reads_2 q_X8_reads_316 ⟨rfl, rfl⟩ (ct_X8_isSheet) rfl rfl rfl ⟨Nat.zero_le _, Nat.zero_le _⟩ ?_
  refine z_if_eq d_X8_reads_5 (fun h_5 => ?_) (fun h_5 => ?_)
  · refine z_iconst d_X8_reads_21 ki_m1 ?_
    exact z_ireturn d_X8_reads_22 rfl ⟨rfl, rfl, rfl, rfl, rfl⟩
  · refine z_iload d_X8_reads_8 rfl ?_
    refine z_i2l d_X8_reads_10 ?_
    refine z_lconst (v := 0) d_X8_reads_11 (by decide) ?_
    refine z_ldc2 d_X8_reads_12 l_X8_319 ?_
    refine z_cSi d_X8_reads_15 q_X8_reads_92 ⟨rfl, rfl⟩ (ct_X8_in) rfl rfl rfl ⟨Nat.zero_le _, Nat.zero_le _⟩ ?_
    rw [inLc (lo := 0) (hi := 20) (by decide) (by decide)]
    refine z_if_ne d_X8_reads_18 (fun h_18 => absurd hb (fun q => by have e := b1 h_5; simp only [Bool.and_eq_true] at e; rw [e.1, e.2, b1 h_18] at q; simp at q)) (fun h_18 => ?_)
    refine z_iconst d_X8_reads_21 ki_m1 ?_
    exact z_ireturn d_X8_reads_22 rfl ⟨rfl, rfl, rfl, rfl, rfl⟩
set_option maxRecDepth 100000 in
set_option maxHeartbeats 4000000 in
theorem ct_X8_reads {E : zE} {I : zI} {L : zL} {R : zR} {k n : Nat} {lane f : Int32} (hR : zLx R) (hk4 : k < 4) (hl : inV 0 2 lane = true) (hn20 : n ≤ 20) (h40 : (I 83 k).toInt ≤ 40) : zCf E m_X8_reads zShF [.ref 64, .int (nI k), .int lane, .int f, .int (nI n)] I L R (some (.int (if (rdG (fun i => rsR (fun c => rfR (I 82 k) (I 83 k) lane (pxL f i c)) 2) (okR (I 84) k f) n 0).2.2 = true then -20 - nI (rdG (fun i => rsR (fun c => rfR (I 82 k) (I 83 k) lane (pxL f i c)) 2) (okR (I 84) k f) n 0).2.1 else nI (rdG (fun i => rsR (fun c => rfR (I 82 k) (I 83 k) lane (pxL f i c)) 2) (okR (I 84) k f) n 0).2.1))) (if (rdG (fun i => rsR (fun c => rfR (I 82 k) (I 83 k) lane (pxL f i c)) 2) (okR (I 84) k f) n 0).2.2 = true then I else va_up (zi I 64 35 (rdG (fun i => rsR (fun c => rfR (I 82 k) (I 83 k) lane (pxL f i c)) 2) (okR (I 84) k f) n 0).1) 65 (liR (I 84) k f (I 65) (rdG (fun i => rsR (fun c => rfR (I 82 k) (I 83 k) lane (pxL f i c)) 2) (okR (I 84) k f) n 0).2.1)) (L) (R) := by
  generalize hpf : (fun i => rsR (fun c => rfR (I 82 k) (I 83 k) lane (pxL f i c)) 2) = pf
  have hpf' : ∀ i, pf i = rsR (fun c => rfR (I 82 k) (I 83 k) lane (pxL f i c)) 2 := fun i => by rw [← hpf]
  generalize hrr : rdG pf (okR (I 84) k f) n 0 = r
  have hrl : r.2.1 ≤ n := by have := rdG_le (pf := pf) (ok := okR (I 84) k f) n 0; rw [hrr] at this; omega
  have hb2 : ∀ i, i ≤ 20 → pf i = 0 → 0 ≤ f.toInt + 2 * i ∧ f.toInt + 2 * i + 1 < 40 := by
    intro i hi h
    rw [hpf'] at h
    have h2 := rs_2 h
    have a := rf_b (c := 0) hi (by decide) h2.1
    have b := rf_b (c := 1) hi (by decide) h2.2
    omega
  have hbx : ∀ i, i ≤ 20 → pf i = 0 → zix ((40 : Int32) * nI k + f + 2 * nI i) 160 (px k f i) ∧ zix ((40 : Int32) * nI k + f + 2 * nI i + 1) 160 (px k f i + 1) := by
    intro i hi h
    have hb := hb2 i hi h
    have e := px_ix (k := k) (f := f) (i := i) hk4 hb.1
    have hp : px k f i + 1 < 160 := by unfold px; omega
    exact ⟨zix_e e (by omega) (by decide), zix_e (by rw [e, nI_1]) hp (by decide)⟩
  have hro : ∀ j, j < r.2.1 → pf j = 0 ∧ okR (I 84) k f j = true := fun j hj => rdG_ok n 0 j (Nat.zero_le j) (by rw [hrr]; exact hj)
  refine z_met (by decide) [some (.ref 64), some (.int (nI k)), some (.int lane), some (.int f), some (.int (nI n)), none, none, none, none, none, none] rfl rfl (Nat.le_of_ble_eq_true rfl) (fun X => ?_)
  refine z_iload_n d_X8_reads_0 rfl ?_
  refine z_iload_n d_X8_reads_1 rfl ?_
  refine z_cSi d_X8_reads_2 q_X8_reads_316 ⟨rfl, rfl⟩ (ct_X8_isSheet) rfl rfl rfl ⟨Nat.zero_le _, Nat.zero_le _⟩ ?_
  refine z_if_eq d_X8_reads_5 (fun h_5 => absurd (b0 h_5) (by rw [nI4 hk4, hl]; decide)) (fun h_5 => ?_)
  refine z_iload d_X8_reads_8 rfl ?_
  refine z_i2l d_X8_reads_10 ?_
  refine z_lconst (v := 0) d_X8_reads_11 (by decide) ?_
  refine z_ldc2 d_X8_reads_12 l_X8_319 ?_
  refine z_cSi d_X8_reads_15 q_X8_reads_92 ⟨rfl, rfl⟩ (ct_X8_in) rfl rfl rfl ⟨Nat.zero_le _, Nat.zero_le _⟩ ?_
  rw [inLc (lo := 0) (hi := 20) (by decide) (by decide)]
  refine z_if_ne d_X8_reads_18 (fun h_18 => ?_) (fun h_18 => absurd (b0 h_18) (by rw [show inV 0 20 (nI n) = true from by unfold inV; rw [decide_eq_false (nI_pos (show n < 2 ^ 31 by omega)), decide_eq_false (show ¬ (20 : Int32) < nI n from Int32.not_lt.mpr (nI_le (b := 20) hn20 (by decide)))]; rfl]; decide))
  refine z_iconst d_X8_reads_23 ki_0 ?_
  refine z_istore5 d_X8_reads_24 rfl ?_
  refine z_iconst d_X8_reads_26 ki_0 ?_
  refine z_istore6 d_X8_reads_27 rfl ?_
  refine z_iconst d_X8_reads_29 ki_0 ?_
  refine z_istore7 d_X8_reads_30 rfl ?_
  have loop : ∀ (Qs : State → Prop), (r.2.2 = false → ∀ (o7 o8 o9 o10 : Option Value), zZ E m_X8_reads X Qs zShF 0 0 200 [some (.ref 64), some (.int (nI k)), some (.int lane), some (.int f), some (.int (nI n)), some (.int r.1), some (.int (nI r.2.1)), o7, o8, o9, o10] [] I L R) → (r.2.2 = true → ∀ (o5 o6 o8 o9 o10 : Option Value), zZ E m_X8_reads X Qs zShF 0 0 185 [some (.ref 64), some (.int (nI k)), some (.int lane), some (.int f), some (.int (nI n)), o5, o6, some (.int (nI r.2.1)), o8, o9, o10] [] I L R) → ∀ m i, m + i = n → ∀ (ρ : Int32) (wh : Nat) (o8 o9 o10 : Option Value), ((ρ = 0 → wh = i ∧ rdG pf (okR (I 84) k f) m i = r) ∧ (¬ ρ = 0 → r = (ρ, wh, false))) → zZ E m_X8_reads X Qs zShF 0 0 32 [some (.ref 64), some (.int (nI k)), some (.int lane), some (.int f), some (.int (nI n)), some (.int ρ), some (.int (nI wh)), some (.int (nI i)), o8, o9, o10] [] I L R := by
    intro Qs hx hx2 m
    induction m with
    | zero =>
      intro i hm ρ wh o8 o9 o10 hr
      obtain rfl : i = n := by omega
      refine z_iload d_X8_reads_32 rfl ?_
      refine z_iload d_X8_reads_34 rfl ?_
      refine z_icmp_ge d_X8_reads_36 (fun h_36 => ?_) (fun h_36 => absurd (Int32.le_refl _) h_36)
      by_cases h0 : ρ = 0
      · obtain ⟨rfl, h2⟩ := hr.1 h0
        have h3 : r = (0, wh, false) := h2.symm
        subst h0
        have h4 := hx (by rw [h3]) (some (.int (nI wh))) o8 o9 o10
        rw [h3] at h4
        exact h4
      · have h3 := hr.2 h0
        have h4 := hx (by rw [h3]) (some (.int (nI i))) o8 o9 o10
        rw [h3] at h4
        exact h4
    | succ m ih =>
      intro i hm ρ wh o8 o9 o10 hr
      refine z_iload d_X8_reads_32 rfl ?_
      refine z_iload d_X8_reads_34 rfl ?_
      refine z_icmp_ge d_X8_reads_36 (fun h_36 => absurd ((nI_leI (a := n) (b := i) (by omega) (by omega)).mp h_36) (by omega)) (fun h_36 => ?_)
      refine z_iload d_X8_reads_39 rfl ?_
      refine z_if_ne d_X8_reads_41 (fun h_41 => ?_) (fun h_41 => ?_)
      · have h3 := hr.2 h_41
        have h4 := hx (by rw [h3]) (some (.int (nI i))) o8 o9 o10
        rw [h3] at h4
        exact h4
      · have h41 := h_41
        subst h41
        obtain ⟨rfl, hr⟩ := hr.1 rfl
        rw [rdG] at hr
        refine z_iconst d_X8_reads_44 ki_0 ?_
        refine z_istore8 d_X8_reads_45 rfl ?_
        have loop3 : ∀ (Qs : State → Prop), (∀ (o8 o9 o10 : Option Value), zZ E m_X8_reads X Qs zShF 0 0 134 [some (.ref 64), some (.int (nI k)), some (.int lane), some (.int f), some (.int (nI n)), some (.int (pf wh)), some (.int (nI wh)), some (.int (nI wh)), o8, o9, o10] [] I L R) → ∀ c, c ≤ 2 → ∀ (o9 o10 : Option Value), zZ E m_X8_reads X Qs zShF 0 0 47 [some (.ref 64), some (.int (nI k)), some (.int lane), some (.int f), some (.int (nI n)), some (.int (rsR (fun c => rfR (I 82 k) (I 83 k) lane (pxL f wh c)) c)), some (.int (nI wh)), some (.int (nI wh)), some (.int (nI c)), o9, o10] [] I L R := by
          intro Qs hx
          refine up_rec (fun c hc ih o9 o10 => ?_)
          refine z_iload d_X8_reads_47 rfl ?_
          refine z_iconst d_X8_reads_49 ki_2 ?_
          refine z_icmp_ge d_X8_reads_50 (fun h_50 => ?_) (fun h_50 => ?_)
          · have h2 := hx (some (.int (nI c))) o9 o10
            rw [hpf'] at h2
            obtain rfl := eq_of_ge (n := 2) (by decide) hc h_50
            exact h2
          · have hc2 := lt_of_nge (n := 2) (by decide) h_50 (by omega)
            refine z_iload d_X8_reads_53 rfl ?_
            refine z_if_ne d_X8_reads_55 (fun h_55 => ?_) (fun h_55 => ?_)
            · have h2 := hx (some (.int (nI c))) o9 o10
              rw [hpf'] at h2
              have e : rsR (fun c => rfR (I 82 k) (I 83 k) lane (pxL f wh c)) 2 = rsR (fun c => rfR (I 82 k) (I 83 k) lane (pxL f wh c)) c := by
                rcases (show c = 0 ∨ c = 1 by omega) with rfl | rfl
                · exact absurd rfl h_55
                · exact if_neg h_55
              rw [e] at h2
              exact h2
            · refine z_iload_n d_X8_reads_58 rfl ?_
              refine z_i2l d_X8_reads_59 ?_
              refine z_iconst d_X8_reads_60 ki_2 ?_
              refine z_iload d_X8_reads_61 rfl ?_
              refine z_imul d_X8_reads_63 ?_
              refine z_i2l d_X8_reads_64 ?_
              refine z_ladd d_X8_reads_65 ?_
              refine z_iload d_X8_reads_66 rfl ?_
              refine z_i2l d_X8_reads_68 ?_
              refine z_ladd d_X8_reads_69 ?_
              refine z_lstore9 d_X8_reads_70 rfl ?_
              have hpx : f.toInt64 + (2 * nI wh).toInt64 + (nI c).toInt64 = pxL f wh c := rfl
              rw [hpx]
              refine z_aload_n d_X8_reads_72 rfl ?_
              refine z_getR d_X8_reads_73 f_X8_63 (by first | rfl | assumption) (by omega) (by first | exact hR _ _ _ rfl | rfl | assumption) ?_
              refine z_iload_n d_X8_reads_76 rfl ?_
              refine z_iaload d_X8_reads_77 (by first | rfl | assumption) (by omega) (zix_nI (j := k) hk4 (by decide)) ?_
              refine z_bipush d_X8_reads_78 kb_m4 ?_
              refine z_icmp_ne d_X8_reads_80 (fun h_80 => ?_) (fun h_80 => ?_)
              · refine z_aload_n d_X8_reads_87 rfl ?_
                refine z_getR d_X8_reads_88 f_X8_63 (by first | rfl | assumption) (by omega) (by first | exact hR _ _ _ rfl | rfl | assumption) ?_
                refine z_iload_n d_X8_reads_91 rfl ?_
                refine z_iaload d_X8_reads_92 (by first | rfl | assumption) (by omega) (zix_nI (j := k) hk4 (by decide)) ?_
                refine z_iload_n d_X8_reads_93 rfl ?_
                refine z_icmp_eq d_X8_reads_94 (fun h_94 => ?_) (fun h_94 => ?_)
                · refine z_lload d_X8_reads_101 rfl ?_
                  refine z_lconst (v := 0) d_X8_reads_103 (by decide) ?_
                  refine z_lcmp d_X8_reads_104 ?_
                  refine z_if_lt d_X8_reads_105 (fun h_105 => ?_) (fun h_105 => ?_)
                  · refine z_iconst d_X8_reads_121 ki_2 ?_
                    refine z_goto d_X8_reads_122 ?_
                    refine z_topi (y := rfR (I 82 k) (I 83 k) lane (pxL f wh c)) (by unfold rfR; first | rw [if_pos h_80] | (rw [if_neg h_80, if_neg h_94]; done) | rw [if_neg h_80, if_pos h_94, if_pos ((lg_lt _ _).mp h_105)] | rw [if_neg h_80, if_pos h_94, if_neg (mt (lg_lt _ _).mpr h_105), if_pos ((lg_lt _ _).mp h_118)] | rw [if_neg h_80, if_pos h_94, if_neg (mt (lg_lt _ _).mpr h_105), if_neg (mt (lg_lt _ _).mpr h_118)]) ?_
                    refine z_istore5 d_X8_reads_126 rfl ?_
                    refine z_iinc8 d_X8_reads_128 ki_1 rfl ?_
                    refine z_goto d_X8_reads_131 ?_
                    rw [nI_1]
                    have h := ih hc2 (some (.long (pxL f wh c))) none
                    rw [rsR, if_pos h_55] at h
                    exact h
                  · refine z_lload d_X8_reads_108 rfl ?_
                    refine z_aload_n d_X8_reads_110 rfl ?_
                    refine z_getR d_X8_reads_111 f_X8_66 (by first | rfl | assumption) (by omega) (by first | exact hR _ _ _ rfl | rfl | assumption) ?_
                    refine z_iload_n d_X8_reads_114 rfl ?_
                    refine z_iaload d_X8_reads_115 (by first | rfl | assumption) (by omega) (zix_nI (j := k) hk4 (by decide)) ?_
                    refine z_i2l d_X8_reads_116 ?_
                    refine z_lcmp d_X8_reads_117 ?_
                    refine z_if_lt d_X8_reads_118 (fun h_118 => ?_) (fun h_118 => ?_)
                    · refine z_iconst d_X8_reads_125 ki_0 ?_
                      refine z_topi (y := rfR (I 82 k) (I 83 k) lane (pxL f wh c)) (by unfold rfR; first | rw [if_pos h_80] | (rw [if_neg h_80, if_neg h_94]; done) | rw [if_neg h_80, if_pos h_94, if_pos ((lg_lt _ _).mp h_105)] | rw [if_neg h_80, if_pos h_94, if_neg (mt (lg_lt _ _).mpr h_105), if_pos ((lg_lt _ _).mp h_118)] | rw [if_neg h_80, if_pos h_94, if_neg (mt (lg_lt _ _).mpr h_105), if_neg (mt (lg_lt _ _).mpr h_118)]) ?_
                      refine z_istore5 d_X8_reads_126 rfl ?_
                      refine z_iinc8 d_X8_reads_128 ki_1 rfl ?_
                      refine z_goto d_X8_reads_131 ?_
                      rw [nI_1]
                      have h := ih hc2 (some (.long (pxL f wh c))) none
                      rw [rsR, if_pos h_55] at h
                      exact h
                    · refine z_iconst d_X8_reads_121 ki_2 ?_
                      refine z_goto d_X8_reads_122 ?_
                      refine z_topi (y := rfR (I 82 k) (I 83 k) lane (pxL f wh c)) (by unfold rfR; first | rw [if_pos h_80] | (rw [if_neg h_80, if_neg h_94]; done) | rw [if_neg h_80, if_pos h_94, if_pos ((lg_lt _ _).mp h_105)] | rw [if_neg h_80, if_pos h_94, if_neg (mt (lg_lt _ _).mpr h_105), if_pos ((lg_lt _ _).mp h_118)] | rw [if_neg h_80, if_pos h_94, if_neg (mt (lg_lt _ _).mpr h_105), if_neg (mt (lg_lt _ _).mpr h_118)]) ?_
                      refine z_istore5 d_X8_reads_126 rfl ?_
                      refine z_iinc8 d_X8_reads_128 ki_1 rfl ?_
                      refine z_goto d_X8_reads_131 ?_
                      rw [nI_1]
                      have h := ih hc2 (some (.long (pxL f wh c))) none
                      rw [rsR, if_pos h_55] at h
                      exact h
                · refine z_iconst d_X8_reads_97 ki_3 ?_
                  refine z_goto d_X8_reads_98 ?_
                  refine z_topi (y := rfR (I 82 k) (I 83 k) lane (pxL f wh c)) (by unfold rfR; first | rw [if_pos h_80] | (rw [if_neg h_80, if_neg h_94]; done) | rw [if_neg h_80, if_pos h_94, if_pos ((lg_lt _ _).mp h_105)] | rw [if_neg h_80, if_pos h_94, if_neg (mt (lg_lt _ _).mpr h_105), if_pos ((lg_lt _ _).mp h_118)] | rw [if_neg h_80, if_pos h_94, if_neg (mt (lg_lt _ _).mpr h_105), if_neg (mt (lg_lt _ _).mpr h_118)]) ?_
                  refine z_istore5 d_X8_reads_126 rfl ?_
                  refine z_iinc8 d_X8_reads_128 ki_1 rfl ?_
                  refine z_goto d_X8_reads_131 ?_
                  rw [nI_1]
                  have h := ih hc2 (some (.long (pxL f wh c))) none
                  rw [rsR, if_pos h_55] at h
                  exact h
              · refine z_iconst d_X8_reads_83 ki_1 ?_
                refine z_goto d_X8_reads_84 ?_
                refine z_topi (y := rfR (I 82 k) (I 83 k) lane (pxL f wh c)) (by unfold rfR; first | rw [if_pos h_80] | (rw [if_neg h_80, if_neg h_94]; done) | rw [if_neg h_80, if_pos h_94, if_pos ((lg_lt _ _).mp h_105)] | rw [if_neg h_80, if_pos h_94, if_neg (mt (lg_lt _ _).mpr h_105), if_pos ((lg_lt _ _).mp h_118)] | rw [if_neg h_80, if_pos h_94, if_neg (mt (lg_lt _ _).mpr h_105), if_neg (mt (lg_lt _ _).mpr h_118)]) ?_
                refine z_istore5 d_X8_reads_126 rfl ?_
                refine z_iinc8 d_X8_reads_128 ki_1 rfl ?_
                refine z_goto d_X8_reads_131 ?_
                rw [nI_1]
                have h := ih hc2 (some (.long (pxL f wh c))) none
                rw [rsR, if_pos h_55] at h
                exact h
        refine loop3 _ (fun o8 o9 o10 => ?_) 0 (Nat.zero_le 2) _ _
        refine z_iload d_X8_reads_134 rfl ?_
        refine z_if_ne d_X8_reads_136 (fun h_136 => ?_) (fun h_136 => ?_)
        · rw [if_neg h_136] at hr
          refine z_iinc7 d_X8_reads_194 ki_1 rfl ?_
          refine z_goto d_X8_reads_197 ?_
          rw [nI_1]
          exact ih (wh + 1) (by omega) (pf wh) wh _ _ _ ⟨fun q => absurd q h_136, fun _ => hr.symm⟩
        · rw [if_pos h_136] at hr
          obtain ⟨hi1, hi2⟩ := hbx wh (by omega) h_136
          refine z_bipush d_X8_reads_139 kb_40 ?_
          refine z_iload_n d_X8_reads_141 rfl ?_
          refine z_imul d_X8_reads_142 ?_
          refine z_iload_n d_X8_reads_143 rfl ?_
          refine z_iadd d_X8_reads_144 ?_
          refine z_iconst d_X8_reads_145 ki_2 ?_
          refine z_iload d_X8_reads_146 rfl ?_
          refine z_imul d_X8_reads_148 ?_
          refine z_iadd d_X8_reads_149 ?_
          refine z_istore8 d_X8_reads_150 rfl ?_
          refine z_aload_n d_X8_reads_152 rfl ?_
          refine z_getR d_X8_reads_153 f_X8_69 (by first | rfl | assumption) (by omega) (by first | exact hR _ _ _ rfl | rfl | assumption) ?_
          refine z_iload d_X8_reads_156 rfl ?_
          refine z_iaload d_X8_reads_158 (by first | rfl | assumption) (by omega) hi1 ?_
          refine z_cSi d_X8_reads_159 q_X8_reads_183 ⟨rfl, rfl⟩ (ct_X8_isWell) rfl rfl rfl ⟨Nat.zero_le _, Nat.zero_le _⟩ ?_
          refine z_if_eq d_X8_reads_162 (fun h_162 => ?_) (fun h_162 => ?_)
          · rw [if_neg (by first | (rw [show okR (I 84) k f wh = false from by (unfold okR; rw [b0 h_162]; rfl)]; decide) | (rw [show okR (I 84) k f wh = false from by (unfold okR; rw [b0 h_182]; exact Bool.and_false _)]; decide))] at hr
            have h5 := hx2 (by rw [← hr])
            rw [← hr] at h5
            exact h5 _ _ _ _ _
          · refine z_aload_n d_X8_reads_165 rfl ?_
            refine z_getR d_X8_reads_166 f_X8_69 (by first | rfl | assumption) (by omega) (by first | exact hR _ _ _ rfl | rfl | assumption) ?_
            refine z_iload d_X8_reads_169 rfl ?_
            refine z_iconst d_X8_reads_171 ki_1 ?_
            refine z_iadd d_X8_reads_172 ?_
            refine z_iaload d_X8_reads_173 (by first | rfl | assumption) (by omega) hi2 ?_
            refine z_i2l d_X8_reads_174 ?_
            refine z_lconst (v := 0) d_X8_reads_175 (by decide) ?_
            refine z_ldc2 d_X8_reads_176 l_X8_189 ?_
            refine z_cSi d_X8_reads_179 q_X8_reads_92 ⟨rfl, rfl⟩ (ct_X8_in) rfl rfl rfl ⟨Nat.zero_le _, Nat.zero_le _⟩ ?_
            rw [inLc (lo := 0) (hi := 99) (by decide) (by decide)]
            refine z_if_ne d_X8_reads_182 (fun h_182 => ?_) (fun h_182 => ?_)
            · rw [if_pos (by unfold okR; rw [b1 h_162, b1 h_182]; rfl)] at hr
              refine z_iinc6 d_X8_reads_191 ki_1 rfl ?_
              skip
              refine z_iinc7 d_X8_reads_194 ki_1 rfl ?_
              refine z_goto d_X8_reads_197 ?_
              rw [nI_1]
              exact ih (wh + 1) (by omega) (pf wh) (wh + 1) _ _ _ ⟨fun _ => ⟨rfl, hr⟩, fun q => absurd h_136 q⟩
            · rw [if_neg (by first | (rw [show okR (I 84) k f wh = false from by (unfold okR; rw [b0 h_162]; rfl)]; decide) | (rw [show okR (I 84) k f wh = false from by (unfold okR; rw [b0 h_182]; exact Bool.and_false _)]; decide))] at hr
              have h5 := hx2 (by rw [← hr])
              rw [← hr] at h5
              exact h5 _ _ _ _ _
  refine loop _ (fun h9 o7 o8 o9 o10 => ?_) (fun h9 o5 o6 o8 o9 o10 => ?_) n 0 (by omega) 0 0 none none none ⟨fun _ => ⟨rfl, hrr⟩, fun q => absurd rfl q⟩
  · refine z_aload_n d_X8_reads_200 rfl ?_
    refine z_iload d_X8_reads_201 rfl ?_
    refine z_putI d_X8_reads_203 f_X8_321 p_X8_35 (by first | rfl | assumption) (by omega) ?_
    refine z_iconst d_X8_reads_206 ki_0 ?_
    refine z_istore7 d_X8_reads_207 rfl ?_
    have loop2 : ∀ (Qs : State → Prop), (∀ (o8 o9 o10 : Option Value), zZ E m_X8_reads X Qs zShF 0 0 259 [some (.ref 64), some (.int (nI k)), some (.int lane), some (.int f), some (.int (nI n)), some (.int r.1), some (.int (nI r.2.1)), some (.int (nI r.2.1)), o8, o9, o10] [] (va_up (zi I 64 35 r.1) 65 (liR (I 84) k f (I 65) r.2.1)) L R) → ∀ j, j ≤ r.2.1 → ∀ (o8 o9 o10 : Option Value), zZ E m_X8_reads X Qs zShF 0 0 209 [some (.ref 64), some (.int (nI k)), some (.int lane), some (.int f), some (.int (nI n)), some (.int r.1), some (.int (nI r.2.1)), some (.int (nI j)), o8, o9, o10] [] (va_up (zi I 64 35 r.1) 65 (liR (I 84) k f (I 65) j)) L R := by
      intro Qs hx
      refine up_rec (fun j hj ih o8 o9 o10 => ?_)
      refine z_iload d_X8_reads_209 rfl ?_
      refine z_iload d_X8_reads_211 rfl ?_
      refine z_icmp_ge d_X8_reads_213 (fun h_213 => ?_) (fun h_213 => ?_)
      · obtain rfl := eq_of_ge (by omega) hj h_213
        exact hx _ _ _
      · have hlt := lt_of_nge (by omega) h_213 (by omega)
        obtain ⟨ho1, ho2⟩ := hro j hlt
        obtain ⟨hi1, hi2⟩ := hbx j (by omega) ho1
        have hne : va_up (zi I 64 35 r.1) 65 (liR (I 84) k f (I 65) j) 84 = I 84 := by rw [up_ne (by decide), zi_ne (by decide)]
        have hwl := isW_nI (w := I 84 (px k f j)) (by simp only [okR, Bool.and_eq_true] at ho2; exact ho2.1)
        refine z_bipush d_X8_reads_216 kb_40 ?_
        refine z_iload_n d_X8_reads_218 rfl ?_
        refine z_imul d_X8_reads_219 ?_
        refine z_iload_n d_X8_reads_220 rfl ?_
        refine z_iadd d_X8_reads_221 ?_
        refine z_iconst d_X8_reads_222 ki_2 ?_
        refine z_iload d_X8_reads_223 rfl ?_
        refine z_imul d_X8_reads_225 ?_
        refine z_iadd d_X8_reads_226 ?_
        refine z_istore8 d_X8_reads_227 rfl ?_
        refine z_aload_n d_X8_reads_229 rfl ?_
        refine z_getR d_X8_reads_230 f_X8_7 (by first | rfl | assumption) (by omega) (by first | exact hR _ _ _ rfl | rfl | assumption) ?_
        refine z_bipush d_X8_reads_233 kb_104 ?_
        refine z_aload_n d_X8_reads_235 rfl ?_
        refine z_getR d_X8_reads_236 f_X8_69 (by first | rfl | assumption) (by omega) (by first | exact hR _ _ _ rfl | rfl | assumption) ?_
        refine z_iload d_X8_reads_239 rfl ?_
        refine z_iaload d_X8_reads_241 (by first | rfl | assumption) (by omega) hi1 ?_
        rw [hne]
        refine z_iadd d_X8_reads_242 ?_
        refine z_aload_n d_X8_reads_243 rfl ?_
        refine z_getR d_X8_reads_244 f_X8_69 (by first | rfl | assumption) (by omega) (by first | exact hR _ _ _ rfl | rfl | assumption) ?_
        refine z_iload d_X8_reads_247 rfl ?_
        refine z_iconst d_X8_reads_249 ki_1 ?_
        refine z_iadd d_X8_reads_250 ?_
        refine z_iaload d_X8_reads_251 (by first | rfl | assumption) (by omega) hi2 ?_
        rw [hne]
        refine z_iastore d_X8_reads_252 (by first | rfl | assumption) (by omega) (zix_e (ixT (b := 104) hwl.1) (by omega) (by decide)) ?_
        refine z_iinc7 d_X8_reads_253 ki_1 rfl ?_
        refine z_goto d_X8_reads_256 ?_
        rw [nI_1, zi_up]
        exact ih hlt _ _ _
    refine z_mem (I' := va_up (zi I 64 35 r.1) 65 (liR (I 84) k f (I 65) 0)) (by rw [liR, show I 65 = zi I 64 35 r.1 65 from (zi_ne (by decide)).symm, up_self]) rfl rfl (loop2 _ (fun o8 o9 o10 => ?_) 0 (Nat.zero_le _) _ _ _)
    refine z_iload d_X8_reads_259 rfl ?_
    exact z_ireturn d_X8_reads_261 rfl ⟨by rw [h9]; rfl, rfl, by rw [h9]; rfl, rfl, rfl⟩
  · refine z_bipush d_X8_reads_185 kb_m20 ?_
    refine z_iload d_X8_reads_187 rfl ?_
    refine z_isub d_X8_reads_189 ?_
    exact z_ireturn d_X8_reads_190 rfl ⟨by rw [if_pos h9], rfl, by rw [if_pos h9], rfl, rfl⟩
