def mn (x y : Int32) : Int32 := if y < x then y else x
/-- rows handed down: the line, what is lost, the wells -/
def lnD (cap : Int32) (wl ln : Nat → Int32) (n : Nat) : Nat → Int32 := fun j => if j < n then mn (ln j + wl (40 + j)) cap else ln j
def lsD (cap : Int32) (wl ln : Nat → Int32) : Nat → Int64 → Int64
  | 0, x => x
  | n + 1, x => lsD cap wl ln n x + (ln n + wl (40 + n) - mn (ln n + wl (40 + n)) cap).toInt64
def shD (wl : Nat → Int32) (i : Nat) : Nat → Int32 := fun j => if i < j ∧ j < 48 then wl (j - 8) else wl j
def dnW (wl : Nat → Int32) : Nat → Int32 := zfill (shD wl 7) 8 0
theorem lnD_0 (cap : Int32) (wl ln : Nat → Int32) : lnD cap wl ln 0 = ln := by funext j; simp [lnD]
theorem lnD_at (cap : Int32) (wl ln : Nat → Int32) (i : Nat) : lnD cap wl ln i i = ln i := by simp [lnD]
theorem lnD_s (cap : Int32) (wl ln : Nat → Int32) (i : Nat) : va_up (lnD cap wl ln i) i (mn (ln i + wl (40 + i)) cap) = lnD cap wl ln (i + 1) := by
  funext j
  by_cases h : j = i
  · subst h; simp [va_up, lnD]
  · by_cases h2 : j < i
    · simp [va_up, lnD, h, h2, show j < i + 1 by omega]
    · simp [va_up, lnD, h, h2, show ¬ j < i + 1 by omega]
theorem shD_47 (wl : Nat → Int32) : shD wl 47 = wl := by
  funext j
  have : ¬ (47 < j ∧ j < 48) := by omega
  simp [shD, this]
theorem shD_s (wl : Nat → Int32) {i : Nat} (h7 : 7 < i) (h48 : i < 48) : va_up (shD wl i) i (shD wl i (i - 8)) = shD wl (i - 1) := by
  funext j
  have e : shD wl i (i - 8) = wl (i - 8) := by simp [shD, show ¬ (i < i - 8 ∧ i - 8 < 48) by omega]
  rw [e]
  by_cases h : j = i
  · subst h; simp [va_up, shD, show j - 1 < j by omega, h48]
  · by_cases h2 : i < j ∧ j < 48
    · simp [va_up, shD, h, h2, show i - 1 < j by omega]
    · have h3 : ¬ (i - 1 < j ∧ j < 48) := by omega
      simp [va_up, shD, h, h2, h3]
theorem zi_at (I : zI) (k j : Nat) (x : Int32) : zi I k j x k j = x := by simp [zi, up_eq]
/-- memory of a Charge at c: its line -/
def mN (I : zI) (c : Nat) (ln : Nat → Int32) : zI := va_up I (c + 4) ln
theorem mN_self (I : zI) (c : Nat) : mN I c (I (c + 4)) = I := up_self I (c + 4)
theorem mN_at (I : zI) (c : Nat) (f : Nat → Int32) : mN I c f (c + 4) = f := up_eq I (c + 4) f
theorem mN_ne {I : zI} {c q : Nat} {f : Nat → Int32} (h : q ≠ c + 4) : mN I c f q = I q := up_ne h
theorem mN_mN (I : zI) (c : Nat) (f g : Nat → Int32) : mN (mN I c f) c g = mN I c g := up_up I (c + 4) f g
theorem mN_zi (I : zI) (c : Nat) (f : Nat → Int32) (j : Nat) (x : Int32) : zi (mN I c f) (c + 4) j x = mN I c (va_up f j x) := zi_up I (c + 4) f j x
theorem mN_va (I : zI) (c : Nat) (f g : Nat → Int32) : va_up (mN I c f) (c + 4) g = mN I c g := up_up I (c + 4) f g
def mH (I : zI) (c : Nat) (ln : Nat → Int32) : zI := va_up I (c + 3) ln
theorem mH_self (I : zI) (c : Nat) : mH I c (I (c + 3)) = I := up_self I (c + 3)
theorem mH_at (I : zI) (c : Nat) (f : Nat → Int32) : mH I c f (c + 3) = f := up_eq I (c + 3) f
theorem mH_ne {I : zI} {c q : Nat} {f : Nat → Int32} (h : q ≠ c + 3) : mH I c f q = I q := up_ne h
theorem mH_zi (I : zI) (c : Nat) (f : Nat → Int32) (j : Nat) (x : Int32) : zi (mH I c f) (c + 3) j x = mH I c (va_up f j x) := zi_up I (c + 3) f j x
theorem mW_mH (I : zI) (c : Nat) (f g : Nat → Int32) : mH (mW I c f) c g = mW (mH I c g) c f := up_comm I f g (by omega)
theorem mW_eq {I : zI} {c : Nat} {f : Nat → Int32} (h : I (c + 2) = f) : mW I c f = I := by subst h; exact mW_self I c
theorem nge_lt {a b : Int32} (h : ¬ b ≤ a) : a < b := Int32.not_le.mp h
set_option maxRecDepth 100000 in
set_option maxHeartbeats 4000000 in
theorem ct_X0_rowsDown {E : zE} {Sh : zSh} {I : zI} {L : zL} {R : zR} {c : Nat} {cap : Int32} (hc : zCh Sh R c) : zCf E m_X0_rowsDown Sh [.ref c, .int cap] I L R (none) (mW (mN I c (lnD cap (I (c + 2)) (I (c + 4)) 8)) c (dnW (I (c + 2)))) (zj L c 4 (lsD cap (I (c + 2)) (I (c + 4)) 8 (L c 4))) (R) := by
  obtain ⟨hc0, hc1, hc2, hc3, hc4, hr0, hr1, hr2, hr3, hcl⟩ := hc
  refine z_met (by decide) [some (.ref c), some (.int cap), none, none] rfl rfl (Nat.le_of_ble_eq_true rfl) (fun X => ?_)
  refine z_iconst d_X0_rowsDown_0 ki_0 ?_
  refine z_istore2 d_X0_rowsDown_1 rfl ?_
  have loop : ∀ (Qs : State → Prop), (∀ o : Option Value, zZ E m_X0_rowsDown X Qs Sh 0 0 60 [some (.ref c), some (.int cap), some (.int (nI 8)), o] [] (mN I c (lnD cap (I (c + 2)) (I (c + 4)) 8)) (zj L c 4 (lsD cap (I (c + 2)) (I (c + 4)) 8 (L c 4))) R) → ∀ i, i ≤ 8 → ∀ o : Option Value, zZ E m_X0_rowsDown X Qs Sh 0 0 2 [some (.ref c), some (.int cap), some (.int (nI i)), o] [] (mN I c (lnD cap (I (c + 2)) (I (c + 4)) i)) (zj L c 4 (lsD cap (I (c + 2)) (I (c + 4)) i (L c 4))) R := by
    intro Qs hx
    refine up_rec (fun i hi ih o => ?_)
    refine z_iload_n d_X0_rowsDown_2 rfl ?_
    refine z_bipush d_X0_rowsDown_3 kb_8 ?_
    refine z_icmp_ge d_X0_rowsDown_5 (fun h_5 => ?_) (fun h_5 => ?_)
    · obtain rfl := eq_of_ge (n := 8) (by decide) hi h_5
      exact hx o
    · have hlt := lt_of_nge (n := 8) (by decide) h_5 (by omega)
      refine z_aload_n d_X0_rowsDown_8 rfl ?_
      refine z_getR d_X0_rowsDown_9 f_X0_21 (by first | rfl | assumption) (by omega) (by first | exact hR _ _ _ rfl | rfl | assumption) ?_
      refine z_iload_n d_X0_rowsDown_12 rfl ?_
      refine z_iaload d_X0_rowsDown_13 (by first | rfl | assumption) (by omega) (by first | exact zix_nI (by assumption) (by first | decide | assumption) | exact zix_nI (by omega) (by first | decide | assumption) | assumption) ?_
      refine z_aload_n d_X0_rowsDown_14 rfl ?_
      refine z_getR d_X0_rowsDown_15 f_X0_15 (by first | rfl | assumption) (by omega) (by first | exact hR _ _ _ rfl | rfl | assumption) ?_
      refine z_bipush d_X0_rowsDown_18 kb_40 ?_
      refine z_iload_n d_X0_rowsDown_20 rfl ?_
      refine z_iadd d_X0_rowsDown_21 ?_
      refine z_iaload d_X0_rowsDown_22 (by first | rfl | assumption) (by omega) (zix_e (show (40 : Int32) + nI i = nI (40 + i) from nI_add 40 i) (by omega) (by decide)) ?_
      refine z_iadd d_X0_rowsDown_23 ?_
      rw [mN_at, mN_ne (by omega), lnD_at]
      refine z_istore3 d_X0_rowsDown_24 rfl ?_
      refine z_aload_n d_X0_rowsDown_25 rfl ?_
      refine z_getR d_X0_rowsDown_26 f_X0_21 (by first | rfl | assumption) (by omega) (by first | exact hR _ _ _ rfl | rfl | assumption) ?_
      refine z_iload_n d_X0_rowsDown_29 rfl ?_
      refine z_iload_n d_X0_rowsDown_30 rfl ?_
      refine z_iload_n d_X0_rowsDown_31 rfl ?_
      refine z_mmin d_X0_rowsDown_32 q_X0_rowsDown_73 (by decide) (Nat.le_of_ble_eq_true rfl) ⟨Nat.zero_le _, Nat.zero_le _⟩ ?_
      refine z_iastore d_X0_rowsDown_35 (by first | rfl | assumption) (by omega) (by first | exact zix_nI (by assumption) (by first | decide | assumption) | exact zix_nI (by omega) (by first | decide | assumption) | assumption) ?_
      rw [mN_zi, show (if cap < I (c + 4) i + I (c + 2) (40 + i) then cap else I (c + 4) i + I (c + 2) (40 + i)) = mn (I (c + 4) i + I (c + 2) (40 + i)) cap from rfl, lnD_s]
      refine z_aload_n d_X0_rowsDown_36 rfl ?_
      refine z_dup d_X0_rowsDown_37 rfl ?_
      refine z_getL d_X0_rowsDown_38 f_X0_30 (by first | rfl | assumption) (by omega) ?_
      refine z_iload_n d_X0_rowsDown_41 rfl ?_
      refine z_aload_n d_X0_rowsDown_42 rfl ?_
      refine z_getR d_X0_rowsDown_43 f_X0_21 (by first | rfl | assumption) (by omega) (by first | exact hR _ _ _ rfl | rfl | assumption) ?_
      refine z_iload_n d_X0_rowsDown_46 rfl ?_
      refine z_iaload d_X0_rowsDown_47 (by first | rfl | assumption) (by omega) (by first | exact zix_nI (by assumption) (by first | decide | assumption) | exact zix_nI (by omega) (by first | decide | assumption) | assumption) ?_
      refine z_isub d_X0_rowsDown_48 ?_
      refine z_i2l d_X0_rowsDown_49 ?_
      refine z_ladd d_X0_rowsDown_50 ?_
      refine z_putL d_X0_rowsDown_51 f_X0_30 p_X0_4 (by first | rfl | assumption) (by omega) ?_
      refine z_iinc2 d_X0_rowsDown_54 ki_1 rfl ?_
      refine z_goto d_X0_rowsDown_57 ?_
      have h := ih hlt (some (.int (I (c + 4) i + I (c + 2) (40 + i))))
      rw [nI_1, zj_zj, zj_at, mN_at]
      rw [lsD] at h
      rw [show lnD cap (I (c + 2)) (I (c + 4)) (i + 1) i = mn (I (c + 4) i + I (c + 2) (40 + i)) cap from by simp [lnD]]
      exact h
  refine z_mem (I' := mN I c (lnD cap (I (c + 2)) (I (c + 4)) 0)) (L' := zj L c 4 (lsD cap (I (c + 2)) (I (c + 4)) 0 (L c 4))) (by rw [lnD_0, mN_self]) (by rw [lsD, zj_self]) rfl (loop _ (fun o => ?_) 0 (Nat.zero_le 8) none)
  refine z_bipush d_X0_rowsDown_60 kb_47 ?_
  refine z_istore2 d_X0_rowsDown_62 rfl ?_
  have loop2 : ∀ (Qs : State → Prop) (J : zI) (L : zL) (o : Option Value), J (c + 2) = I (c + 2) → (zZ E m_X0_rowsDown X Qs Sh 0 0 90 [some (.ref c), some (.int cap), some (.int (nI 7)), o] [] (mW J c (shD (I (c + 2)) 7)) L R) → ∀ i, 7 ≤ i → i < 48 → zZ E m_X0_rowsDown X Qs Sh 0 0 63 [some (.ref c), some (.int cap), some (.int (nI i)), o] [] (mW J c (shD (I (c + 2)) i)) L R := by
    intro Qs J L o hJ hx
    refine dn_rec (fun i ih h7 h48 => ?_)
    refine z_iload_n d_X0_rowsDown_63 rfl ?_
    refine z_bipush d_X0_rowsDown_64 kb_8 ?_
    refine z_icmp_lt d_X0_rowsDown_66 (fun h_66 => ?_) (fun h_66 => ?_)
    · have h8 : i = 7 := by have := (nI_ltI (a := i) (b := 8) (by omega) (by decide)).mp h_66; omega
      subst h8
      exact hx
    · have h8 : 8 ≤ i := by rcases Nat.lt_or_ge i 8 with q | q; exact absurd (show nI i < nI 8 from nI_lt q (by decide)) h_66; exact q
      refine z_aload_n d_X0_rowsDown_69 rfl ?_
      refine z_getR d_X0_rowsDown_70 f_X0_15 (by first | rfl | assumption) (by omega) (by first | exact hR _ _ _ rfl | rfl | assumption) ?_
      refine z_iload_n d_X0_rowsDown_73 rfl ?_
      refine z_aload_n d_X0_rowsDown_74 rfl ?_
      refine z_getR d_X0_rowsDown_75 f_X0_15 (by first | rfl | assumption) (by omega) (by first | exact hR _ _ _ rfl | rfl | assumption) ?_
      refine z_iload_n d_X0_rowsDown_78 rfl ?_
      refine z_bipush d_X0_rowsDown_79 kb_8 ?_
      refine z_isub d_X0_rowsDown_81 ?_
      refine z_iaload d_X0_rowsDown_82 (by first | rfl | assumption) (by omega) (zix_e (show nI i - (8 : Int32) = nI (i - 8) from pk_sub h8) (by omega) (by decide)) ?_
      refine z_iastore d_X0_rowsDown_83 (by first | rfl | assumption) (by omega) (by first | exact zix_nI (by assumption) (by first | decide | assumption) | exact zix_nI (by omega) (by first | decide | assumption) | assumption) ?_
      refine z_iinc2 d_X0_rowsDown_84 ki_m1 rfl ?_
      refine z_goto d_X0_rowsDown_87 ?_
      have h := ih (by omega) (by omega) (by omega)
      rw [mW_zi, mW_at, shD_s _ (by omega) h48, show nI i + -1 = nI (i - 1) from by rw [show i = (i - 1) + 1 by omega]; exact pk_m1 (i - 1)]
      exact h
  refine z_mem (I' := mW (mN I c (lnD cap (I (c + 2)) (I (c + 4)) 8)) c (shD (I (c + 2)) 47)) (by rw [shD_47]; exact (mW_eq (mN_ne (by omega))).symm) rfl rfl (loop2 _ _ _ _ (mN_ne (by omega)) ?_ 47 (by decide) (by decide))
  refine z_iconst d_X0_rowsDown_90 ki_0 ?_
  refine z_istore2 d_X0_rowsDown_91 rfl ?_
  have loop3 : ∀ (Qs : State → Prop) (J : zI) (L : zL) (o : Option Value), (zZ E m_X0_rowsDown X Qs Sh 0 0 111 [some (.ref c), some (.int cap), some (.int (nI 8)), o] [] (mW J c (dnW (I (c + 2)))) L R) → ∀ i, i ≤ 8 → zZ E m_X0_rowsDown X Qs Sh 0 0 92 [some (.ref c), some (.int cap), some (.int (nI i)), o] [] (mW J c (zfill (shD (I (c + 2)) 7) i 0)) L R := by
    intro Qs J L o hx
    refine up_rec (fun i hi ih => ?_)
    refine z_iload_n d_X0_rowsDown_92 rfl ?_
    refine z_bipush d_X0_rowsDown_93 kb_8 ?_
    refine z_icmp_ge d_X0_rowsDown_95 (fun h_95 => ?_) (fun h_95 => ?_)
    · obtain rfl := eq_of_ge (n := 8) (by decide) hi h_95
      exact hx
    · have hlt := lt_of_nge (n := 8) (by decide) h_95 (by omega)
      refine z_aload_n d_X0_rowsDown_98 rfl ?_
      refine z_getR d_X0_rowsDown_99 f_X0_15 (by first | rfl | assumption) (by omega) (by first | exact hR _ _ _ rfl | rfl | assumption) ?_
      refine z_iload_n d_X0_rowsDown_102 rfl ?_
      refine z_iconst d_X0_rowsDown_103 ki_0 ?_
      refine z_iastore d_X0_rowsDown_104 (by first | rfl | assumption) (by omega) (by first | exact zix_nI (by assumption) (by first | decide | assumption) | exact zix_nI (by omega) (by first | decide | assumption) | assumption) ?_
      refine z_iinc2 d_X0_rowsDown_105 ki_1 rfl ?_
      refine z_goto d_X0_rowsDown_108 ?_
      rw [mW_zi, zfill_s, nI_1]
      exact ih hlt
  refine z_mem (I' := mW (mN I c (lnD cap (I (c + 2)) (I (c + 4)) 8)) c (zfill (shD (I (c + 2)) 7) 0 0)) (by rw [zfill_0]) rfl rfl (loop3 _ _ _ _ ?_ 0 (Nat.zero_le 8))
  exact z_return d_X0_rowsDown_111 rfl ⟨rfl, rfl, rfl, rfl, rfl⟩
