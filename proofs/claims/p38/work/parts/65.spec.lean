theorem inV_nat0 {x hi : Int32} {n : Nat} (hM : hi.toInt = n) (h : inV 0 hi x = true) : x = nI x.toNatClampNeg ∧ x.toNatClampNeg ≤ n := by
  simp only [inV, Bool.and_eq_true, Bool.not_eq_true', decide_eq_false_iff_not] at h
  exact nat_of hM h.1 h.2
/-- n places from b on, copied to a on -/
def cpR {α : Type} (f : Nat → α) (a b n : Nat) : Nat → α := fun j => if a ≤ j ∧ j < a + n then f (b + (j - a)) else f j
theorem cpR_0 {α : Type} (f : Nat → α) (a b : Nat) : cpR f a b 0 = f := by
  funext j
  unfold cpR
  rw [if_neg (by omega)]
theorem cpR_s {α : Type} {f : Nat → α} {a b n m : Nat} (hn : n < m) (h : a + m ≤ b ∨ b + m ≤ a) : va_up (cpR f a b n) (a + n) (cpR f a b n (b + n)) = cpR f a b (n + 1) := by
  funext j
  by_cases e : j = a + n
  · subst e
    rw [up_eq]
    unfold cpR
    rw [if_neg (by omega), if_pos (by omega), show a + n - a = n by omega]
  · rw [up_ne e]
    unfold cpR
    by_cases h2 : a ≤ j ∧ j < a + n
    · rw [if_pos h2, if_pos (by omega)]
    · rw [if_neg h2, if_neg (by omega)]
set_option maxRecDepth 100000 in
set_option maxHeartbeats 4000000 in
theorem ct_X8_light {E : zE} {I : zI} {L : zL} {R : zR} {w v : Int32} (hR : zLx R) : zCf E m_X8_light zShF [.ref 64, .int w, .int v] I L R (some (.int (if isW w = true ∧ inV 0 99 v = true then I 65 (104 + w.toNatClampNeg) else -1))) (if isW w = true ∧ inV 0 99 v = true then zi I 65 (104 + w.toNatClampNeg) v else I) (L) (R) := by
  refine z_met (by decide) [some (.ref 64), some (.int w), some (.int v), none] rfl rfl (Nat.le_of_ble_eq_true rfl) (fun X => ?_)
  refine z_iload_n d_X8_light_0 rfl ?_
  refine z_cSi d_X8_light_1 q_X8_light_183 ⟨rfl, rfl⟩ (ct_X8_isWell) rfl rfl rfl ⟨Nat.zero_le _, Nat.zero_le _⟩ ?_
  refine z_if_eq d_X8_light_4 (fun h_4 => ?_) (fun h_4 => ?_)
  · have e := b0 h_4
    refine z_iconst d_X8_light_19 ki_m1 ?_
    exact z_ireturn d_X8_light_20 rfl ⟨by rw [if_neg (by simp [e])], rfl, by rw [if_neg (by simp [e])], rfl, rfl⟩
  · refine z_iload_n d_X8_light_7 rfl ?_
    refine z_i2l d_X8_light_8 ?_
    refine z_lconst (v := 0) d_X8_light_9 (by decide) ?_
    refine z_ldc2 d_X8_light_10 l_X8_189 ?_
    refine z_cSi d_X8_light_13 q_X8_light_92 ⟨rfl, rfl⟩ (ct_X8_in) rfl rfl rfl ⟨Nat.zero_le _, Nat.zero_le _⟩ ?_
    rw [inLc (lo := 0) (hi := 99) (by decide) (by decide)]
    refine z_if_ne d_X8_light_16 (fun h_16 => ?_) (fun h_16 => ?_)
    · have hw := isW_nI (b1 h_4)
      have hb : isW w = true ∧ inV 0 99 v = true := ⟨b1 h_4, b1 h_16⟩
      refine z_aload_n d_X8_light_21 rfl ?_
      refine z_getR d_X8_light_22 f_X8_7 (by first | rfl | assumption) (by omega) (by first | exact hR _ _ _ rfl | rfl | assumption) ?_
      refine z_bipush d_X8_light_25 kb_104 ?_
      refine z_iload_n d_X8_light_27 rfl ?_
      refine z_iadd d_X8_light_28 ?_
      refine z_iaload d_X8_light_29 (by first | rfl | assumption) (by omega) (zix_e (ixT (b := 104) hw.1) (by omega) (by decide)) ?_
      refine z_istore3 d_X8_light_30 rfl ?_
      refine z_aload_n d_X8_light_31 rfl ?_
      refine z_getR d_X8_light_32 f_X8_7 (by first | rfl | assumption) (by omega) (by first | exact hR _ _ _ rfl | rfl | assumption) ?_
      refine z_bipush d_X8_light_35 kb_104 ?_
      refine z_iload_n d_X8_light_37 rfl ?_
      refine z_iadd d_X8_light_38 ?_
      refine z_iload_n d_X8_light_39 rfl ?_
      refine z_iastore d_X8_light_40 (by first | rfl | assumption) (by omega) (zix_e (ixT (b := 104) hw.1) (by omega) (by decide)) ?_
      refine z_iload_n d_X8_light_41 rfl ?_
      exact z_ireturn d_X8_light_42 rfl ⟨by rw [if_pos hb], rfl, by rw [if_pos hb], rfl, rfl⟩
    · have e := b0 h_16
      refine z_iconst d_X8_light_19 ki_m1 ?_
      exact z_ireturn d_X8_light_20 rfl ⟨by rw [if_neg (by simp [e])], rfl, by rw [if_neg (by simp [e])], rfl, rfl⟩
set_option maxRecDepth 100000 in
set_option maxHeartbeats 4000000 in
theorem ct_X8_line {E : zE} {I : zI} {L : zL} {R : zR} {c : Int32} (hR : zLx R) : zCf E m_X8_line zShF [.ref 64, .int c] I L R (some (.int (if inV 0 7 c = true then I 65 (48 + c.toNatClampNeg) else -1))) (I) (L) (R) := by
  refine z_met (by decide) [some (.ref 64), some (.int c)] rfl rfl (Nat.le_of_ble_eq_true rfl) (fun X => ?_)
  refine z_iload_n d_X8_line_0 rfl ?_
  refine z_i2l d_X8_line_1 ?_
  refine z_lconst (v := 0) d_X8_line_2 (by decide) ?_
  refine z_ldc2 d_X8_line_3 l_X8_235 ?_
  refine z_cSi d_X8_line_6 q_X8_line_92 ⟨rfl, rfl⟩ (ct_X8_in) rfl rfl rfl ⟨Nat.zero_le _, Nat.zero_le _⟩ ?_
  rw [inLc (lo := 0) (hi := 7) (by decide) (by decide)]
  refine z_if_eq d_X8_line_9 (fun h_9 => ?_) (fun h_9 => ?_)
  · refine z_iconst d_X8_line_24 ki_m1 ?_
    exact z_ireturn d_X8_line_25 rfl ⟨by first | rw [if_pos (b1 h_9)] | (rw [b0 h_9]; rfl), rfl, rfl, rfl, rfl⟩
  · have hw := inV_nat0 (n := 7) (by decide) (b1 h_9)
    refine z_aload_n d_X8_line_12 rfl ?_
    refine z_getR d_X8_line_13 f_X8_7 (by first | rfl | assumption) (by omega) (by first | exact hR _ _ _ rfl | rfl | assumption) ?_
    refine z_bipush d_X8_line_16 kb_48 ?_
    refine z_iload_n d_X8_line_18 rfl ?_
    refine z_iadd d_X8_line_19 ?_
    refine z_iaload d_X8_line_20 (by first | rfl | assumption) (by omega) (zix_e (ixT (b := 48) hw.1) (by omega) (by decide)) ?_
    refine z_goto d_X8_line_21 ?_
    exact z_ireturn d_X8_line_25 rfl ⟨by first | rw [if_pos (b1 h_9)] | (rw [b0 h_9]; rfl), rfl, rfl, rfl, rfl⟩
set_option maxRecDepth 100000 in
set_option maxHeartbeats 4000000 in
theorem ct_X8_read {E : zE} {I : zI} {L : zL} {R : zR} {q : zQ} (hR : zLx R) (hq : sR I L 0 q) (h5 : ¬ I 68 5 = 0) : zCf E m_X8_read zShF [.ref 64] I L R (some (.int (lsV 255 (qLn q 7 * I 68 4 / I 68 5)))) (sI I 0 (rdQ q)) (sL L 0 (rdQ q)) (R) := by
  refine z_met (by decide) [some (.ref 64)] rfl rfl (Nat.le_of_ble_eq_true rfl) (fun X => ?_)
  refine z_aload_n d_X8_read_0 rfl ?_
  refine z_aload_n d_X8_read_1 rfl ?_
  refine z_iconst d_X8_read_2 ki_0 ?_
  refine z_cVi d_X8_read_3 q_X8_read_229 (by first | rfl | assumption) (by omega) ⟨rfl, rfl⟩ (ct_X8_takes (k := 0) hR (by decide) hq) rfl rfl rfl ⟨Nat.zero_le _, Nat.zero_le _⟩ ?_
  refine z_cVi d_X8_read_6 q_X8_read_232 (by first | rfl | assumption) (by omega) ⟨rfl, rfl⟩ (ct_X8_shadeOf hR (by rw [sI_ne (p := 68) (by decide)]; exact h5)) rfl rfl rfl ⟨Nat.zero_le _, Nat.zero_le _⟩ ?_
  exact z_ireturn d_X8_read_9 rfl ⟨by rw [sI_ne (p := 68) (by decide)], rfl, rfl, rfl, rfl⟩
set_option maxRecDepth 100000 in
set_option maxHeartbeats 4000000 in
theorem ct_X8_well {E : zE} {I : zI} {L : zL} {R : zR} {w v : Int32} (hR : zLx R) : zCf E m_X8_well zShF [.ref 64, .int w, .int v] I L R (some (.int (if isW w = true ∧ inV 0 4 v = true then (if v = 0 then I 65 w.toNatClampNeg else if v = 1 then I 65 (104 + w.toNatClampNeg) else if v = 2 then I 69 w.toNatClampNeg else if v = 3 then I 70 w.toNatClampNeg else I 65 (56 + w.toNatClampNeg)) else -1))) (I) (L) (R) := by
  refine z_met (by decide) [some (.ref 64), some (.int w), some (.int v)] rfl rfl (Nat.le_of_ble_eq_true rfl) (fun X => ?_)
  refine z_iload_n d_X8_well_0 rfl ?_
  refine z_cSi d_X8_well_1 q_X8_well_183 ⟨rfl, rfl⟩ (ct_X8_isWell) rfl rfl rfl ⟨Nat.zero_le _, Nat.zero_le _⟩ ?_
  refine z_if_eq d_X8_well_4 (fun h_4 => ?_) (fun h_4 => ?_)
  · have e := b0 h_4
    refine z_iconst d_X8_well_19 ki_m1 ?_
    exact z_ireturn d_X8_well_20 rfl ⟨by rw [if_neg (by simp [e])], rfl, rfl, rfl, rfl⟩
  · refine z_iload_n d_X8_well_7 rfl ?_
    refine z_i2l d_X8_well_8 ?_
    refine z_lconst (v := 0) d_X8_well_9 (by decide) ?_
    refine z_ldc2 d_X8_well_10 l_X8_187 ?_
    refine z_cSi d_X8_well_13 q_X8_well_92 ⟨rfl, rfl⟩ (ct_X8_in) rfl rfl rfl ⟨Nat.zero_le _, Nat.zero_le _⟩ ?_
    rw [inLc (lo := 0) (hi := 4) (by decide) (by decide)]
    refine z_if_ne d_X8_well_16 (fun h_16 => ?_) (fun h_16 => ?_)
    · have hw := isW_nI (b1 h_4)
      have hb : isW w = true ∧ inV 0 4 v = true := ⟨b1 h_4, b1 h_16⟩
      have h65 : zix w 640 w.toNatClampNeg := zix_e hw.1 (by omega) (by decide)
      have h48 : zix w 48 w.toNatClampNeg := zix_e hw.1 (by omega) (by decide)
      refine z_iload_n d_X8_well_21 rfl ?_
      refine z_if_ne d_X8_well_22 (fun h_22 => ?_) (fun h_22 => ?_)
      · refine z_iload_n d_X8_well_34 rfl ?_
        refine z_iconst d_X8_well_35 ki_1 ?_
        refine z_icmp_ne d_X8_well_36 (fun h_36 => ?_) (fun h_36 => ?_)
        · refine z_iload_n d_X8_well_51 rfl ?_
          refine z_iconst d_X8_well_52 ki_2 ?_
          refine z_icmp_ne d_X8_well_53 (fun h_53 => ?_) (fun h_53 => ?_)
          · refine z_iload_n d_X8_well_65 rfl ?_
            refine z_iconst d_X8_well_66 ki_3 ?_
            refine z_icmp_ne d_X8_well_67 (fun h_67 => ?_) (fun h_67 => ?_)
            · refine z_aload_n d_X8_well_79 rfl ?_
              refine z_getR d_X8_well_80 f_X8_7 (by first | rfl | assumption) (by omega) (by first | exact hR _ _ _ rfl | rfl | assumption) ?_
              refine z_bipush d_X8_well_83 kb_56 ?_
              refine z_iload_n d_X8_well_85 rfl ?_
              refine z_iadd d_X8_well_86 ?_
              refine z_iaload d_X8_well_87 (by first | rfl | assumption) (by omega) (zix_e (ixT (b := 56) hw.1) (by omega) (by decide)) ?_
              exact z_ireturn d_X8_well_88 rfl ⟨by rw [if_pos hb]; clear hw; simp [*], rfl, rfl, rfl, rfl⟩
            · refine z_aload_n d_X8_well_70 rfl ?_
              refine z_getR d_X8_well_71 f_X8_27 (by first | rfl | assumption) (by omega) (by first | exact hR _ _ _ rfl | rfl | assumption) ?_
              refine z_iload_n d_X8_well_74 rfl ?_
              refine z_iaload d_X8_well_75 (by first | rfl | assumption) (by omega) h48 ?_
              refine z_goto d_X8_well_76 ?_
              exact z_ireturn d_X8_well_88 rfl ⟨by rw [if_pos hb]; clear hw; simp [*], rfl, rfl, rfl, rfl⟩
          · refine z_aload_n d_X8_well_56 rfl ?_
            refine z_getR d_X8_well_57 f_X8_24 (by first | rfl | assumption) (by omega) (by first | exact hR _ _ _ rfl | rfl | assumption) ?_
            refine z_iload_n d_X8_well_60 rfl ?_
            refine z_iaload d_X8_well_61 (by first | rfl | assumption) (by omega) h48 ?_
            refine z_goto d_X8_well_62 ?_
            exact z_ireturn d_X8_well_88 rfl ⟨by rw [if_pos hb]; clear hw; simp [*], rfl, rfl, rfl, rfl⟩
        · refine z_aload_n d_X8_well_39 rfl ?_
          refine z_getR d_X8_well_40 f_X8_7 (by first | rfl | assumption) (by omega) (by first | exact hR _ _ _ rfl | rfl | assumption) ?_
          refine z_bipush d_X8_well_43 kb_104 ?_
          refine z_iload_n d_X8_well_45 rfl ?_
          refine z_iadd d_X8_well_46 ?_
          refine z_iaload d_X8_well_47 (by first | rfl | assumption) (by omega) (zix_e (ixT (b := 104) hw.1) (by omega) (by decide)) ?_
          refine z_goto d_X8_well_48 ?_
          exact z_ireturn d_X8_well_88 rfl ⟨by rw [if_pos hb]; clear hw; simp [*], rfl, rfl, rfl, rfl⟩
      · refine z_aload_n d_X8_well_25 rfl ?_
        refine z_getR d_X8_well_26 f_X8_7 (by first | rfl | assumption) (by omega) (by first | exact hR _ _ _ rfl | rfl | assumption) ?_
        refine z_iload_n d_X8_well_29 rfl ?_
        refine z_iaload d_X8_well_30 (by first | rfl | assumption) (by omega) h65 ?_
        refine z_goto d_X8_well_31 ?_
        exact z_ireturn d_X8_well_88 rfl ⟨by rw [if_pos hb]; clear hw; simp [*], rfl, rfl, rfl, rfl⟩
    · have e := b0 h_16
      refine z_iconst d_X8_well_19 ki_m1 ?_
      exact z_ireturn d_X8_well_20 rfl ⟨by rw [if_neg (by simp [e])], rfl, rfl, rfl, rfl⟩
set_option maxRecDepth 100000 in
set_option maxHeartbeats 4000000 in
theorem ct_X8_copies {E : zE} {I : zI} {L : zL} {R : zR} {a b : Nat} (hR : zLx R) (ha : a < 4) (hb : b < 4) (hab : a ≠ b) : zCf E m_X8_copies zShF [.ref 64, .int (nI (160 * a)), .int (nI (160 * b))] I L R (none) (va_up I 65 (cpR (I 65) (160 * a) (160 * b) 160)) (va_up L 66 (cpR (L 66) (3 * a) (3 * b) 3)) (R) := by
  refine z_met (by decide) [some (.ref 64), some (.int (nI (160 * a))), some (.int (nI (160 * b))), none] rfl rfl (Nat.le_of_ble_eq_true rfl) (fun X => ?_)
  refine z_iconst d_X8_copies_0 ki_0 ?_
  refine z_istore3 d_X8_copies_1 rfl ?_
  have loop : ∀ (Qs : State → Prop), (zZ E m_X8_copies X Qs zShF 0 0 31 [some (.ref 64), some (.int (nI (160 * a))), some (.int (nI (160 * b))), some (.int (nI 160))] [] (va_up I 65 (cpR (I 65) (160 * a) (160 * b) 160)) L R) → ∀ i, i ≤ 160 → zZ E m_X8_copies X Qs zShF 0 0 2 [some (.ref 64), some (.int (nI (160 * a))), some (.int (nI (160 * b))), some (.int (nI i))] [] (va_up I 65 (cpR (I 65) (160 * a) (160 * b) i)) L R := by
    intro Qs hx
    refine up_rec (fun i hi ih => ?_)
    refine z_iload_n d_X8_copies_2 rfl ?_
    refine z_sipush d_X8_copies_3 ks_160 ?_
    refine z_icmp_ge d_X8_copies_6 (fun h_6 => ?_) (fun h_6 => ?_)
    · obtain rfl := eq_of_ge (n := 160) (by decide) hi h_6
      exact hx
    · have hlt := lt_of_nge (n := 160) (by decide) h_6 (by omega)
      refine z_aload_n d_X8_copies_9 rfl ?_
      refine z_getR d_X8_copies_10 f_X8_7 (by first | rfl | assumption) (by omega) (by first | exact hR _ _ _ rfl | rfl | assumption) ?_
      refine z_iload_n d_X8_copies_13 rfl ?_
      refine z_iload_n d_X8_copies_14 rfl ?_
      refine z_iadd d_X8_copies_15 ?_
      refine z_aload_n d_X8_copies_16 rfl ?_
      refine z_getR d_X8_copies_17 f_X8_7 (by first | rfl | assumption) (by omega) (by first | exact hR _ _ _ rfl | rfl | assumption) ?_
      refine z_iload_n d_X8_copies_20 rfl ?_
      refine z_iload_n d_X8_copies_21 rfl ?_
      refine z_iadd d_X8_copies_22 ?_
      refine z_iaload d_X8_copies_23 (by first | rfl | assumption) (by omega) (zix_e (ix2 _ _) (by omega) (by decide)) ?_
      refine z_iastore d_X8_copies_24 (by first | rfl | assumption) (by omega) (zix_e (ix2 _ _) (by omega) (by decide)) ?_
      refine z_iinc3 d_X8_copies_25 ki_1 rfl ?_
      refine z_goto d_X8_copies_28 ?_
      rw [nI_1, zi_up, up_eq, cpR_s (m := 160) (by omega) (by omega)]
      exact ih hlt
  refine z_mem (I' := va_up I 65 (cpR (I 65) (160 * a) (160 * b) 0)) (by rw [cpR_0, up_self]) rfl rfl (loop _ ?_ 0 (Nat.zero_le 160))
  refine z_iconst d_X8_copies_31 ki_0 ?_
  refine z_istore3 d_X8_copies_32 rfl ?_
  have loop2 : ∀ (Qs : State → Prop), (zZ E m_X8_copies X Qs zShF 0 0 72 [some (.ref 64), some (.int (nI (160 * a))), some (.int (nI (160 * b))), some (.int (nI 3))] [] (va_up I 65 (cpR (I 65) (160 * a) (160 * b) 160)) (va_up L 66 (cpR (L 66) (3 * a) (3 * b) 3)) R) → ∀ i, i ≤ 3 → zZ E m_X8_copies X Qs zShF 0 0 33 [some (.ref 64), some (.int (nI (160 * a))), some (.int (nI (160 * b))), some (.int (nI i))] [] (va_up I 65 (cpR (I 65) (160 * a) (160 * b) 160)) (va_up L 66 (cpR (L 66) (3 * a) (3 * b) i)) R := by
    intro Qs hx
    refine up_rec (fun i hi ih => ?_)
    refine z_iload_n d_X8_copies_33 rfl ?_
    refine z_iconst d_X8_copies_34 ki_3 ?_
    refine z_icmp_ge d_X8_copies_35 (fun h_35 => ?_) (fun h_35 => ?_)
    · obtain rfl := eq_of_ge (n := 3) (by decide) hi h_35
      exact hx
    · have hlt := lt_of_nge (n := 3) (by decide) h_35 (by omega)
      refine z_aload_n d_X8_copies_38 rfl ?_
      refine z_getR d_X8_copies_39 f_X8_13 (by first | rfl | assumption) (by omega) (by first | exact hR _ _ _ rfl | rfl | assumption) ?_
      refine z_iconst d_X8_copies_42 ki_3 ?_
      refine z_iload_n d_X8_copies_43 rfl ?_
      refine z_sipush d_X8_copies_44 ks_160 ?_
      refine z_idiv d_X8_copies_47 (by first | assumption | decide) ?_
      rw [show nI (160 * a) / (160 : Int32) = nI a from by rw [show (160 : Int32) = nI 160 from rfl, pk_div (by omega) (by decide) (by decide), show 160 * a / 160 = a by omega]]
      refine z_imul d_X8_copies_48 ?_
      refine z_iload_n d_X8_copies_49 rfl ?_
      refine z_iadd d_X8_copies_50 ?_
      refine z_aload_n d_X8_copies_51 rfl ?_
      refine z_getR d_X8_copies_52 f_X8_13 (by first | rfl | assumption) (by omega) (by first | exact hR _ _ _ rfl | rfl | assumption) ?_
      refine z_iconst d_X8_copies_55 ki_3 ?_
      refine z_iload_n d_X8_copies_56 rfl ?_
      refine z_sipush d_X8_copies_57 ks_160 ?_
      refine z_idiv d_X8_copies_60 (by first | assumption | decide) ?_
      rw [show nI (160 * b) / (160 : Int32) = nI b from by rw [show (160 : Int32) = nI 160 from rfl, pk_div (by omega) (by decide) (by decide), show 160 * b / 160 = b by omega]]
      refine z_imul d_X8_copies_61 ?_
      refine z_iload_n d_X8_copies_62 rfl ?_
      refine z_iadd d_X8_copies_63 ?_
      refine z_laload d_X8_copies_64 (by first | rfl | assumption) (by omega) (zix_e (show (3 : Int32) * nI b + nI i = nI (3 * b + i) from by rw [show (3 : Int32) * nI b = nI (3 * b) from pk_mul 3 b]; exact nI_add _ _) (by omega) (by decide)) ?_
      refine z_lastore d_X8_copies_65 (by first | rfl | assumption) (by omega) (zix_e (show (3 : Int32) * nI a + nI i = nI (3 * a + i) from by rw [show (3 : Int32) * nI a = nI (3 * a) from pk_mul 3 a]; exact nI_add _ _) (by omega) (by decide)) ?_
      refine z_iinc3 d_X8_copies_66 ki_1 rfl ?_
      refine z_goto d_X8_copies_69 ?_
      rw [nI_1, zj_up, up_eq, cpR_s (m := 3) (by omega) (by omega)]
      exact ih hlt
  refine z_mem (L' := va_up L 66 (cpR (L 66) (3 * a) (3 * b) 0)) rfl (by rw [cpR_0, up_self]) rfl (loop2 _ ?_ 0 (Nat.zero_le 3))
  exact z_return d_X8_copies_72 rfl ⟨rfl, rfl, rfl, rfl, rfl⟩
