def trT (wl hd tr : Nat → Int32) (j : Nat) : Int32 := if 0 < wl j then mn (wl j) (tr j - hd j) else -hd j
def trH (wl hd tr : Nat → Int32) (n : Nat) : Nat → Int32 := fun j => if j < n then hd j + trT wl hd tr j else hd j
def trW (wl hd tr : Nat → Int32) (n : Nat) : Nat → Int32 := fun j => if j < n then wl j - trT wl hd tr j else wl j
theorem trH_0 (wl hd tr : Nat → Int32) : trH wl hd tr 0 = hd := by funext j; simp [trH]
theorem trW_0 (wl hd tr : Nat → Int32) : trW wl hd tr 0 = wl := by funext j; simp [trW]
theorem trH_at (wl hd tr : Nat → Int32) (i : Nat) : trH wl hd tr i i = hd i := by simp [trH]
theorem trW_at (wl hd tr : Nat → Int32) (i : Nat) : trW wl hd tr i i = wl i := by simp [trW]
theorem trH_s (wl hd tr : Nat → Int32) (i : Nat) : va_up (trH wl hd tr i) i (hd i + trT wl hd tr i) = trH wl hd tr (i + 1) := by
  funext j
  by_cases h : j = i
  · subst h; simp [va_up, trH]
  · by_cases h2 : j < i
    · simp [va_up, trH, h, h2, show j < i + 1 by omega]
    · simp [va_up, trH, h, h2, show ¬ j < i + 1 by omega]
theorem trW_s (wl hd tr : Nat → Int32) (i : Nat) : va_up (trW wl hd tr i) i (wl i - trT wl hd tr i) = trW wl hd tr (i + 1) := by
  funext j
  by_cases h : j = i
  · subst h; simp [va_up, trW]
  · by_cases h2 : j < i
    · simp [va_up, trW, h, h2, show j < i + 1 by omega]
    · simp [va_up, trW, h, h2, show ¬ j < i + 1 by omega]
theorem mH_zi2 (I : zI) (c : Nat) (f g : Nat → Int32) (j : Nat) (x : Int32) : zi (mW (mH I c g) c f) (c + 3) j x = mW (mH I c (va_up g j x)) c f := by
  unfold zi
  rw [mW_ne (by omega), mH_at]
  show va_up (va_up _ _ _) _ _ = _
  rw [up_comm _ _ _ (by omega)]
  show mW (va_up (va_up I (c + 3) g) (c + 3) _) c f = _
  rw [up_up]
  rfl
/-- the line when one is read -/
def rdN (ln : Nat → Int32) (i : Nat) : Nat → Int32 := fun j => if i < j ∧ j < 8 then ln (j - 1) else ln j
def rdL (ln : Nat → Int32) : Nat → Int32 := va_up (rdN ln 0) 0 0
theorem rdN_7 (ln : Nat → Int32) : rdN ln 7 = ln := by
  funext j
  have : ¬ (7 < j ∧ j < 8) := by omega
  simp [rdN, this]
theorem rdN_s (ln : Nat → Int32) {i : Nat} (h0 : 0 < i) (h8 : i < 8) : va_up (rdN ln i) i (rdN ln i (i - 1)) = rdN ln (i - 1) := by
  funext j
  have e : rdN ln i (i - 1) = ln (i - 1) := by simp [rdN, show ¬ (i < i - 1 ∧ i - 1 < 8) by omega]
  rw [e]
  by_cases h : j = i
  · subst h; simp [va_up, rdN, show j - 1 < j by omega, h8]
  · by_cases h2 : i < j ∧ j < 8
    · simp [va_up, rdN, h, h2, show i - 1 < j by omega]
    · have h3 : ¬ (i - 1 < j ∧ j < 8) := by omega
      simp [va_up, rdN, h, h2, h3]
set_option maxRecDepth 100000 in
set_option maxHeartbeats 4000000 in
theorem ct_X0_trapAll {E : zE} {Sh : zSh} {I : zI} {L : zL} {R : zR} {c p : Nat} (hc : zCh Sh R c) (hp : zPl Sh R p) (hpc : p + 4 < c) : zCf E m_X0_trapAll Sh [.ref c, .ref p] I L R (none) (mW (mH I c (trH (I (c + 2)) (I (c + 3)) (I (p + 3)) 48)) c (trW (I (c + 2)) (I (c + 3)) (I (p + 3)) 48)) (L) (R) := by
  obtain ⟨hc0, hc1, hc2, hc3, hc4, hr0, hr1, hr2, hr3, hcl⟩ := hc
  obtain ⟨hp0, hp1, hp2, hp3, hp4, hs0, hs1, hs2, hs3, hpl⟩ := hp
  generalize hwl : I (c + 2) = wl
  generalize hhd : I (c + 3) = hd
  generalize htr : I (p + 3) = tr
  refine z_met (by decide) [some (.ref c), some (.ref p), none, none] rfl rfl (Nat.le_of_ble_eq_true rfl) (fun X => ?_)
  refine z_iconst d_X0_trapAll_0 ki_0 ?_
  refine z_istore2 d_X0_trapAll_1 rfl ?_
  have loop : ∀ (Qs : State → Prop), (∀ o : Option Value, zZ E m_X0_trapAll X Qs Sh 0 0 76 [some (.ref c), some (.ref p), some (.int (nI 48)), o] [] (mW (mH I c (trH wl hd tr 48)) c (trW wl hd tr 48)) L R) → ∀ i, i ≤ 48 → ∀ o : Option Value, zZ E m_X0_trapAll X Qs Sh 0 0 2 [some (.ref c), some (.ref p), some (.int (nI i)), o] [] (mW (mH I c (trH wl hd tr i)) c (trW wl hd tr i)) L R := by
    intro Qs hx
    refine up_rec (fun i hi ih o => ?_)
    refine z_iload_n d_X0_trapAll_2 rfl ?_
    refine z_bipush d_X0_trapAll_3 kb_48 ?_
    refine z_icmp_ge d_X0_trapAll_5 (fun h_5 => ?_) (fun h_5 => ?_)
    · obtain rfl := eq_of_ge (n := 48) (by decide) hi h_5
      exact hx o
    · have hlt := lt_of_nge (n := 48) (by decide) h_5 (by omega)
      refine z_aload_n d_X0_trapAll_8 rfl ?_
      refine z_getR d_X0_trapAll_9 f_X0_15 (by first | rfl | assumption) (by omega) (by first | exact hR _ _ _ rfl | rfl | assumption) ?_
      refine z_iload_n d_X0_trapAll_12 rfl ?_
      refine z_iaload d_X0_trapAll_13 (by first | rfl | assumption) (by omega) (by first | exact zix_nI (by assumption) (by first | decide | assumption) | exact zix_nI (by omega) (by first | decide | assumption) | assumption) ?_
      rw [mW_at, trW_at]
      refine z_if_le d_X0_trapAll_14 (fun h_14 => ?_) (fun h_14 => ?_)
      · refine z_aload_n d_X0_trapAll_42 rfl ?_
        refine z_getR d_X0_trapAll_43 f_X0_18 (by first | rfl | assumption) (by omega) (by first | exact hR _ _ _ rfl | rfl | assumption) ?_
        refine z_iload_n d_X0_trapAll_46 rfl ?_
        refine z_iaload d_X0_trapAll_47 (by first | rfl | assumption) (by omega) (by first | exact zix_nI (by assumption) (by first | decide | assumption) | exact zix_nI (by omega) (by first | decide | assumption) | assumption) ?_
        refine z_ineg d_X0_trapAll_48 ?_
        refine z_topi (y := trT wl hd tr i) ?_ ?_
        · first
            | (rw [mW_at, trW_at, mW_ne (by omega), mH_ne (by omega), htr, mW_ne (by omega), mH_at, trH_at]; unfold trT; rw [if_pos (Int32.not_le.mp h_14)]; rfl)
            | (rw [mW_ne (by omega), mH_at, trH_at]; unfold trT; rw [if_neg (Int32.not_lt.mpr h_14)])
        refine z_istore3 d_X0_trapAll_49 rfl ?_
        refine z_aload_n d_X0_trapAll_50 rfl ?_
        refine z_getR d_X0_trapAll_51 f_X0_18 (by first | rfl | assumption) (by omega) (by first | exact hR _ _ _ rfl | rfl | assumption) ?_
        refine z_iload_n d_X0_trapAll_54 rfl ?_
        refine z_dup2 d_X0_trapAll_55 rfl rfl ?_
        refine z_iaload d_X0_trapAll_56 (by first | rfl | assumption) (by omega) (by first | exact zix_nI (by assumption) (by first | decide | assumption) | exact zix_nI (by omega) (by first | decide | assumption) | assumption) ?_
        refine z_iload_n d_X0_trapAll_57 rfl ?_
        refine z_iadd d_X0_trapAll_58 ?_
        refine z_iastore d_X0_trapAll_59 (by first | rfl | assumption) (by omega) (by first | exact zix_nI (by assumption) (by first | decide | assumption) | exact zix_nI (by omega) (by first | decide | assumption) | assumption) ?_
        rw [mH_zi2, mW_ne (by omega), mH_at, trH_at, trH_s]
        refine z_aload_n d_X0_trapAll_60 rfl ?_
        refine z_getR d_X0_trapAll_61 f_X0_15 (by first | rfl | assumption) (by omega) (by first | exact hR _ _ _ rfl | rfl | assumption) ?_
        refine z_iload_n d_X0_trapAll_64 rfl ?_
        refine z_dup2 d_X0_trapAll_65 rfl rfl ?_
        refine z_iaload d_X0_trapAll_66 (by first | rfl | assumption) (by omega) (by first | exact zix_nI (by assumption) (by first | decide | assumption) | exact zix_nI (by omega) (by first | decide | assumption) | assumption) ?_
        refine z_iload_n d_X0_trapAll_67 rfl ?_
        refine z_isub d_X0_trapAll_68 ?_
        refine z_iastore d_X0_trapAll_69 (by first | rfl | assumption) (by omega) (by first | exact zix_nI (by assumption) (by first | decide | assumption) | exact zix_nI (by omega) (by first | decide | assumption) | assumption) ?_
        rw [mW_zi, mW_at, trW_at, trW_s]
        refine z_iinc2 d_X0_trapAll_70 ki_1 rfl ?_
        refine z_goto d_X0_trapAll_73 ?_
        rw [nI_1]
        exact ih hlt _
      · refine z_aload_n d_X0_trapAll_17 rfl ?_
        refine z_getR d_X0_trapAll_18 f_X0_15 (by first | rfl | assumption) (by omega) (by first | exact hR _ _ _ rfl | rfl | assumption) ?_
        refine z_iload_n d_X0_trapAll_21 rfl ?_
        refine z_iaload d_X0_trapAll_22 (by first | rfl | assumption) (by omega) (by first | exact zix_nI (by assumption) (by first | decide | assumption) | exact zix_nI (by omega) (by first | decide | assumption) | assumption) ?_
        refine z_aload_n d_X0_trapAll_23 rfl ?_
        refine z_getR d_X0_trapAll_24 f_X0_86 (by first | rfl | assumption) (by omega) (by first | exact hR _ _ _ rfl | rfl | assumption) ?_
        refine z_iload_n d_X0_trapAll_27 rfl ?_
        refine z_iaload d_X0_trapAll_28 (by first | rfl | assumption) (by omega) (by first | exact zix_nI (by assumption) (by first | decide | assumption) | exact zix_nI (by omega) (by first | decide | assumption) | assumption) ?_
        refine z_aload_n d_X0_trapAll_29 rfl ?_
        refine z_getR d_X0_trapAll_30 f_X0_18 (by first | rfl | assumption) (by omega) (by first | exact hR _ _ _ rfl | rfl | assumption) ?_
        refine z_iload_n d_X0_trapAll_33 rfl ?_
        refine z_iaload d_X0_trapAll_34 (by first | rfl | assumption) (by omega) (by first | exact zix_nI (by assumption) (by first | decide | assumption) | exact zix_nI (by omega) (by first | decide | assumption) | assumption) ?_
        refine z_isub d_X0_trapAll_35 ?_
        refine z_mmin d_X0_trapAll_36 q_X0_trapAll_73 (by decide) (Nat.le_of_ble_eq_true rfl) ⟨Nat.zero_le _, Nat.zero_le _⟩ ?_
        refine z_goto d_X0_trapAll_39 ?_
        refine z_topi (y := trT wl hd tr i) ?_ ?_
        · first
            | (rw [mW_at, trW_at, mW_ne (by omega), mH_ne (by omega), htr, mW_ne (by omega), mH_at, trH_at]; unfold trT; rw [if_pos (Int32.not_le.mp h_14)]; rfl)
            | (rw [mW_ne (by omega), mH_at, trH_at]; unfold trT; rw [if_neg (Int32.not_lt.mpr h_14)])
        refine z_istore3 d_X0_trapAll_49 rfl ?_
        refine z_aload_n d_X0_trapAll_50 rfl ?_
        refine z_getR d_X0_trapAll_51 f_X0_18 (by first | rfl | assumption) (by omega) (by first | exact hR _ _ _ rfl | rfl | assumption) ?_
        refine z_iload_n d_X0_trapAll_54 rfl ?_
        refine z_dup2 d_X0_trapAll_55 rfl rfl ?_
        refine z_iaload d_X0_trapAll_56 (by first | rfl | assumption) (by omega) (by first | exact zix_nI (by assumption) (by first | decide | assumption) | exact zix_nI (by omega) (by first | decide | assumption) | assumption) ?_
        refine z_iload_n d_X0_trapAll_57 rfl ?_
        refine z_iadd d_X0_trapAll_58 ?_
        refine z_iastore d_X0_trapAll_59 (by first | rfl | assumption) (by omega) (by first | exact zix_nI (by assumption) (by first | decide | assumption) | exact zix_nI (by omega) (by first | decide | assumption) | assumption) ?_
        rw [mH_zi2, mW_ne (by omega), mH_at, trH_at, trH_s]
        refine z_aload_n d_X0_trapAll_60 rfl ?_
        refine z_getR d_X0_trapAll_61 f_X0_15 (by first | rfl | assumption) (by omega) (by first | exact hR _ _ _ rfl | rfl | assumption) ?_
        refine z_iload_n d_X0_trapAll_64 rfl ?_
        refine z_dup2 d_X0_trapAll_65 rfl rfl ?_
        refine z_iaload d_X0_trapAll_66 (by first | rfl | assumption) (by omega) (by first | exact zix_nI (by assumption) (by first | decide | assumption) | exact zix_nI (by omega) (by first | decide | assumption) | assumption) ?_
        refine z_iload_n d_X0_trapAll_67 rfl ?_
        refine z_isub d_X0_trapAll_68 ?_
        refine z_iastore d_X0_trapAll_69 (by first | rfl | assumption) (by omega) (by first | exact zix_nI (by assumption) (by first | decide | assumption) | exact zix_nI (by omega) (by first | decide | assumption) | assumption) ?_
        rw [mW_zi, mW_at, trW_at, trW_s]
        refine z_iinc2 d_X0_trapAll_70 ki_1 rfl ?_
        refine z_goto d_X0_trapAll_73 ?_
        rw [nI_1]
        exact ih hlt _
  refine z_mem (I' := mW (mH I c (trH wl hd tr 0)) c (trW wl hd tr 0)) (by rw [trH_0, trW_0, ← hhd, mH_self, ← hwl, mW_self]) rfl rfl (loop _ (fun o => ?_) 0 (Nat.zero_le 48) none)
  exact z_return d_X0_trapAll_76 rfl ⟨rfl, rfl, rfl, rfl, rfl⟩
set_option maxRecDepth 100000 in
set_option maxHeartbeats 4000000 in
theorem ct_X0_readOne {E : zE} {Sh : zSh} {I : zI} {L : zL} {R : zR} {c : Nat} (hc : zCh Sh R c) : zCf E m_X0_readOne Sh [.ref c] I L R (some (.int (I (c + 4) 7))) (mN I c (rdL (I (c + 4)))) (zj L c 5 (L c 5 + (I (c + 4) 7).toInt64)) (R) := by
  obtain ⟨hc0, hc1, hc2, hc3, hc4, hr0, hr1, hr2, hr3, hcl⟩ := hc
  refine z_met (by decide) [some (.ref c), none, none] rfl rfl (Nat.le_of_ble_eq_true rfl) (fun X => ?_)
  refine z_aload_n d_X0_readOne_0 rfl ?_
  refine z_getR d_X0_readOne_1 f_X0_21 (by first | rfl | assumption) (by omega) (by first | exact hR _ _ _ rfl | rfl | assumption) ?_
  refine z_bipush d_X0_readOne_4 kb_7 ?_
  refine z_iaload d_X0_readOne_6 (by first | rfl | assumption) (by omega) (zix_lit 7 (by decide)) ?_
  refine z_istore1 d_X0_readOne_7 rfl ?_
  refine z_bipush d_X0_readOne_8 kb_7 ?_
  refine z_istore2 d_X0_readOne_10 rfl ?_
  have loop : ∀ (Qs : State → Prop), (zZ E m_X0_readOne X Qs Sh 0 0 35 [some (.ref c), some (.int (I (c + 4) 7)), some (.int (nI 0))] [] (mN I c (rdN (I (c + 4)) 0)) L R) → ∀ i, i < 8 → zZ E m_X0_readOne X Qs Sh 0 0 11 [some (.ref c), some (.int (I (c + 4) 7)), some (.int (nI i))] [] (mN I c (rdN (I (c + 4)) i)) L R := by
    intro Qs hx
    refine dn_rec (fun i ih h8 => ?_)
    refine z_iload_n d_X0_readOne_11 rfl ?_
    refine z_if_le d_X0_readOne_12 (fun h_12 => ?_) (fun h_12 => ?_)
    · have h0 : i = 0 := by have := (nI_leI (a := i) (b := 0) (by omega) (by decide)).mp h_12; omega
      subst h0
      exact hx
    · have h0 : 0 < i := by rcases Nat.eq_zero_or_pos i with q | q; exact absurd (by rw [q]; decide) h_12; exact q
      refine z_aload_n d_X0_readOne_15 rfl ?_
      refine z_getR d_X0_readOne_16 f_X0_21 (by first | rfl | assumption) (by omega) (by first | exact hR _ _ _ rfl | rfl | assumption) ?_
      refine z_iload_n d_X0_readOne_19 rfl ?_
      refine z_aload_n d_X0_readOne_20 rfl ?_
      refine z_getR d_X0_readOne_21 f_X0_21 (by first | rfl | assumption) (by omega) (by first | exact hR _ _ _ rfl | rfl | assumption) ?_
      refine z_iload_n d_X0_readOne_24 rfl ?_
      refine z_iconst d_X0_readOne_25 ki_1 ?_
      refine z_isub d_X0_readOne_26 ?_
      refine z_iaload d_X0_readOne_27 (by first | rfl | assumption) (by omega) (zix_e (show nI i - (1 : Int32) = nI (i - 1) from pk_sub h0) (by omega) (by decide)) ?_
      refine z_iastore d_X0_readOne_28 (by first | rfl | assumption) (by omega) (by first | exact zix_nI (by assumption) (by first | decide | assumption) | exact zix_nI (by omega) (by first | decide | assumption) | assumption) ?_
      refine z_iinc2 d_X0_readOne_29 ki_m1 rfl ?_
      refine z_goto d_X0_readOne_32 ?_
      have h := ih (by omega) (by omega)
      rw [mN_zi, mN_at, rdN_s _ h0 h8, show nI i + -1 = nI (i - 1) from by rw [show i = (i - 1) + 1 by omega]; exact pk_m1 (i - 1)]
      exact h
  refine z_mem (I' := mN I c (rdN (I (c + 4)) 7)) (by rw [rdN_7, mN_self]) rfl rfl (loop _ ?_ 7 (by decide))
  refine z_aload_n d_X0_readOne_35 rfl ?_
  refine z_getR d_X0_readOne_36 f_X0_21 (by first | rfl | assumption) (by omega) (by first | exact hR _ _ _ rfl | rfl | assumption) ?_
  refine z_iconst d_X0_readOne_39 ki_0 ?_
  refine z_iconst d_X0_readOne_40 ki_0 ?_
  refine z_iastore d_X0_readOne_41 (by first | rfl | assumption) (by omega) (zix_lit 0 (by decide)) ?_
  refine z_aload_n d_X0_readOne_42 rfl ?_
  refine z_dup d_X0_readOne_43 rfl ?_
  refine z_getL d_X0_readOne_44 f_X0_34 (by first | rfl | assumption) (by omega) ?_
  refine z_iload_n d_X0_readOne_47 rfl ?_
  refine z_i2l d_X0_readOne_48 ?_
  refine z_ladd d_X0_readOne_49 ?_
  refine z_putL d_X0_readOne_50 f_X0_34 p_X0_5 (by first | rfl | assumption) (by omega) ?_
  refine z_iload_n d_X0_readOne_53 rfl ?_
  exact z_ireturn d_X0_readOne_54 rfl ⟨rfl, rfl, by rw [mN_zi]; rfl, rfl, rfl⟩
set_option maxRecDepth 100000 in
set_option maxHeartbeats 4000000 in
theorem ct_X0_drainAll {E : zE} {Sh : zSh} {I : zI} {L : zL} {R : zR} {c : Nat} (hc : zCh Sh R c) : zCf E m_X0_drainAll Sh [.ref c] I L R (none) (mN (mH (mW I c (zfill (I (c + 2)) 48 0)) c (zfill (I (c + 3)) 48 0)) c (zfill (I (c + 4)) 8 0)) (zj (zj (zj L c 4 0) c 5 0) c 6 0) (R) := by
  obtain ⟨hc0, hc1, hc2, hc3, hc4, hr0, hr1, hr2, hr3, hcl⟩ := hc
  refine z_met (by decide) [some (.ref c)] rfl rfl (Nat.le_of_ble_eq_true rfl) (fun X => ?_)
  refine z_aload_n d_X0_drainAll_0 rfl ?_
  refine z_getR d_X0_drainAll_1 f_X0_15 (by first | rfl | assumption) (by omega) (by first | exact hR _ _ _ rfl | rfl | assumption) ?_
  refine z_iconst d_X0_drainAll_4 ki_0 ?_
  refine z_cSv d_X0_drainAll_5 q_X0_drainAll_40 ⟨rfl, rfl⟩ (ct_fillI (by first | assumption | rfl) (by omega) (by decide)) rfl rfl rfl ⟨Nat.zero_le _, Nat.zero_le _⟩ ?_
  refine z_aload_n d_X0_drainAll_8 rfl ?_
  refine z_getR d_X0_drainAll_9 f_X0_18 (by first | rfl | assumption) (by omega) (by first | exact hR _ _ _ rfl | rfl | assumption) ?_
  refine z_iconst d_X0_drainAll_12 ki_0 ?_
  refine z_cSv d_X0_drainAll_13 q_X0_drainAll_40 ⟨rfl, rfl⟩ (ct_fillI (by first | assumption | rfl) (by omega) (by decide)) rfl rfl rfl ⟨Nat.zero_le _, Nat.zero_le _⟩ ?_
  refine z_aload_n d_X0_drainAll_16 rfl ?_
  refine z_getR d_X0_drainAll_17 f_X0_21 (by first | rfl | assumption) (by omega) (by first | exact hR _ _ _ rfl | rfl | assumption) ?_
  refine z_iconst d_X0_drainAll_20 ki_0 ?_
  refine z_cSv d_X0_drainAll_21 q_X0_drainAll_40 ⟨rfl, rfl⟩ (ct_fillI (by first | assumption | rfl) (by omega) (by decide)) rfl rfl rfl ⟨Nat.zero_le _, Nat.zero_le _⟩ ?_
  refine z_aload_n d_X0_drainAll_24 rfl ?_
  refine z_lconst (v := 0) d_X0_drainAll_25 (by decide) ?_
  refine z_putL d_X0_drainAll_26 f_X0_30 p_X0_4 (by first | rfl | assumption) (by omega) ?_
  refine z_aload_n d_X0_drainAll_29 rfl ?_
  refine z_lconst (v := 0) d_X0_drainAll_30 (by decide) ?_
  refine z_putL d_X0_drainAll_31 f_X0_34 p_X0_5 (by first | rfl | assumption) (by omega) ?_
  refine z_aload_n d_X0_drainAll_34 rfl ?_
  refine z_lconst (v := 0) d_X0_drainAll_35 (by decide) ?_
  refine z_putL d_X0_drainAll_36 f_X0_37 p_X0_6 (by first | rfl | assumption) (by omega) ?_
  exact z_return d_X0_drainAll_39 rfl ⟨rfl, rfl, by rw [up_ne (by omega), up_ne (by omega), up_ne (by omega)]; rfl, rfl, rfl⟩
set_option maxRecDepth 100000 in
set_option maxHeartbeats 4000000 in
theorem ct_X0_takeFrom {E : zE} {Sh : zSh} {I : zI} {L : zL} {R : zR} {c o : Nat} (hc : zCh Sh R c) (ho : zCh Sh R o) (hco : c + 4 < o ∨ o + 4 < c) : zCf E m_X0_takeFrom Sh [.ref c, .ref o] I L R (none) (va_up (va_up (va_up (va_up I (c + 1) (zcp (I (o + 1)) (I (c + 1)) 48)) (c + 2) (zcp (I (o + 2)) (I (c + 2)) 48)) (c + 3) (zcp (I (o + 3)) (I (c + 3)) 48)) (c + 4) (zcp (I (o + 4)) (I (c + 4)) 8)) (zj (zj (zj L c 4 (L o 4)) c 5 (L o 5)) c 6 (L o 6)) (R) := by
  obtain ⟨hc0, hc1, hc2, hc3, hc4, hr0, hr1, hr2, hr3, hcl⟩ := hc
  obtain ⟨ho0, ho1, ho2, ho3, ho4, hs0, hs1, hs2, hs3, hol⟩ := ho
  refine z_met (by decide) [some (.ref c), some (.ref o)] rfl rfl (Nat.le_of_ble_eq_true rfl) (fun X => ?_)
  refine z_aload_n d_X0_takeFrom_0 rfl ?_
  refine z_getR d_X0_takeFrom_1 f_X0_9 (by first | rfl | assumption) (by omega) (by first | exact hR _ _ _ rfl | rfl | assumption) ?_
  refine z_iconst d_X0_takeFrom_4 ki_0 ?_
  refine z_aload_n d_X0_takeFrom_5 rfl ?_
  refine z_getR d_X0_takeFrom_6 f_X0_9 (by first | rfl | assumption) (by omega) (by first | exact hR _ _ _ rfl | rfl | assumption) ?_
  refine z_iconst d_X0_takeFrom_9 ki_0 ?_
  refine z_bipush d_X0_takeFrom_10 kb_48 ?_
  refine z_copy (N := 48) d_X0_takeFrom_12 q_X0_takeFrom_24 (by first | rfl | assumption) (by omega) (by first | rfl | assumption) (by omega) (by decide) (by decide) (by decide) (by decide) (by decide) (Nat.le_of_ble_eq_true rfl) ?_
  refine z_aload_n d_X0_takeFrom_15 rfl ?_
  refine z_getR d_X0_takeFrom_16 f_X0_15 (by first | rfl | assumption) (by omega) (by first | exact hR _ _ _ rfl | rfl | assumption) ?_
  refine z_iconst d_X0_takeFrom_19 ki_0 ?_
  refine z_aload_n d_X0_takeFrom_20 rfl ?_
  refine z_getR d_X0_takeFrom_21 f_X0_15 (by first | rfl | assumption) (by omega) (by first | exact hR _ _ _ rfl | rfl | assumption) ?_
  refine z_iconst d_X0_takeFrom_24 ki_0 ?_
  refine z_bipush d_X0_takeFrom_25 kb_48 ?_
  refine z_copy (N := 48) d_X0_takeFrom_27 q_X0_takeFrom_24 (by first | rfl | assumption) (by omega) (by first | rfl | assumption) (by omega) (by decide) (by decide) (by decide) (by decide) (by decide) (Nat.le_of_ble_eq_true rfl) ?_
  refine z_aload_n d_X0_takeFrom_30 rfl ?_
  refine z_getR d_X0_takeFrom_31 f_X0_18 (by first | rfl | assumption) (by omega) (by first | exact hR _ _ _ rfl | rfl | assumption) ?_
  refine z_iconst d_X0_takeFrom_34 ki_0 ?_
  refine z_aload_n d_X0_takeFrom_35 rfl ?_
  refine z_getR d_X0_takeFrom_36 f_X0_18 (by first | rfl | assumption) (by omega) (by first | exact hR _ _ _ rfl | rfl | assumption) ?_
  refine z_iconst d_X0_takeFrom_39 ki_0 ?_
  refine z_bipush d_X0_takeFrom_40 kb_48 ?_
  refine z_copy (N := 48) d_X0_takeFrom_42 q_X0_takeFrom_24 (by first | rfl | assumption) (by omega) (by first | rfl | assumption) (by omega) (by decide) (by decide) (by decide) (by decide) (by decide) (Nat.le_of_ble_eq_true rfl) ?_
  refine z_aload_n d_X0_takeFrom_45 rfl ?_
  refine z_getR d_X0_takeFrom_46 f_X0_21 (by first | rfl | assumption) (by omega) (by first | exact hR _ _ _ rfl | rfl | assumption) ?_
  refine z_iconst d_X0_takeFrom_49 ki_0 ?_
  refine z_aload_n d_X0_takeFrom_50 rfl ?_
  refine z_getR d_X0_takeFrom_51 f_X0_21 (by first | rfl | assumption) (by omega) (by first | exact hR _ _ _ rfl | rfl | assumption) ?_
  refine z_iconst d_X0_takeFrom_54 ki_0 ?_
  refine z_bipush d_X0_takeFrom_55 kb_8 ?_
  refine z_copy (N := 8) d_X0_takeFrom_57 q_X0_takeFrom_24 (by first | rfl | assumption) (by omega) (by first | rfl | assumption) (by omega) (by decide) (by decide) (by decide) (by decide) (by decide) (Nat.le_of_ble_eq_true rfl) ?_
  refine z_aload_n d_X0_takeFrom_60 rfl ?_
  refine z_aload_n d_X0_takeFrom_61 rfl ?_
  refine z_getL d_X0_takeFrom_62 f_X0_30 (by first | rfl | assumption) (by omega) ?_
  refine z_putL d_X0_takeFrom_65 f_X0_30 p_X0_4 (by first | rfl | assumption) (by omega) ?_
  refine z_aload_n d_X0_takeFrom_68 rfl ?_
  refine z_aload_n d_X0_takeFrom_69 rfl ?_
  refine z_getL d_X0_takeFrom_70 f_X0_34 (by first | rfl | assumption) (by omega) ?_
  refine z_putL d_X0_takeFrom_73 f_X0_34 p_X0_5 (by first | rfl | assumption) (by omega) ?_
  refine z_aload_n d_X0_takeFrom_76 rfl ?_
  refine z_aload_n d_X0_takeFrom_77 rfl ?_
  refine z_getL d_X0_takeFrom_78 f_X0_37 (by first | rfl | assumption) (by omega) ?_
  refine z_putL d_X0_takeFrom_81 f_X0_37 p_X0_6 (by first | rfl | assumption) (by omega) ?_
  exact z_return d_X0_takeFrom_84 rfl ⟨rfl, rfl, by simp only [up_ne (show o + 2 ≠ c + 1 by omega), up_ne (show c + 2 ≠ c + 1 by omega), up_ne (show o + 3 ≠ c + 1 by omega), up_ne (show c + 3 ≠ c + 1 by omega), up_ne (show o + 3 ≠ c + 2 by omega), up_ne (show c + 3 ≠ c + 2 by omega), up_ne (show o + 4 ≠ c + 1 by omega), up_ne (show c + 4 ≠ c + 1 by omega), up_ne (show o + 4 ≠ c + 2 by omega), up_ne (show c + 4 ≠ c + 2 by omega), up_ne (show o + 4 ≠ c + 3 by omega), up_ne (show c + 4 ≠ c + 3 by omega)], by simp only [zj_ne (show o ≠ c by omega)], rfl⟩
