/-! the tape takes eight bytes -/
def shv (k : Nat) : Int32 := 56 - 8 * nI k
def bt (v : Int64) (k : Nat) : Int32 := vp_nar .byte ((v >>> ((shv k).toInt64 &&& 63)).toInt32.toInt8.toInt32)
def apB (v : Int64) (n : Nat) (f : Nat → Int32) (m : Nat) : Nat → Int32 := fun j => if n ≤ j ∧ j < n + m then bt v (j - n) else f j
theorem apB_0 (v : Int64) (n : Nat) (f : Nat → Int32) : apB v n f 0 = f := by
  funext j
  simp [apB, show ¬ (n ≤ j ∧ j < n) by omega]
theorem apB_s (v : Int64) (n : Nat) (f : Nat → Int32) (k : Nat) : va_up (apB v n f k) (n + k) (bt v k) = apB v n f (k + 1) := by
  funext j
  by_cases h : j = n + k
  · subst h; simp [va_up, apB, show n + k < n + (k + 1) by omega]
  · by_cases h2 : n ≤ j ∧ j < n + k
    · simp [va_up, apB, h, h2, show j < n + (k + 1) by omega]
    · have h3 : ¬ (n ≤ j ∧ j < n + (k + 1)) := by omega
      simp [va_up, apB, h, h2, h3]
theorem shv_s : ∀ k : Fin 8, shv k.val + -8 = shv (k.val + 1) := by decide
theorem shv_p : ∀ k : Fin 8, ¬ shv k.val < 0 := by decide
theorem shv_8 : shv 8 < 0 := by decide
theorem zi_back (I : zI) (k j : Nat) : zi I k j (I k j) = I := by unfold zi; rw [up_self (I k) j, up_self]
theorem zi_at2 {I : zI} {k j j' : Nat} {x : Int32} (h : j' ≠ j) : zi I k j x k j' = I k j' := by simp [zi, up_eq, up_ne h]
theorem zi_2 (I : zI) (k j : Nat) (x y : Int32) : zi (zi I k j x) k j y = zi I k j y := by unfold zi; rw [up_eq, up_up, up_up]
theorem zi_up2 {I : zI} {k l j : Nat} {f : Nat → Int32} {x : Int32} (h : l ≠ k) : zi (va_up I k f) l j x = va_up (zi I l j x) k f := by unfold zi; rw [up_ne h, up_comm _ _ _ (Ne.symm h)]
/-- the tape behind eight bytes -/
def apI (I : zI) (t : Nat) (v : Int64) (n k : Nat) : zI := va_up (zi I t 1 (nI (n + k))) (t + 1) (apB v n (I (t + 1)) k)
theorem apI_1 (I : zI) (t : Nat) (v : Int64) (n k : Nat) : apI I t v n k t 1 = nI (n + k) := by unfold apI; rw [up_ne (by omega), zi_at]
theorem apI_s (I : zI) (t : Nat) (v : Int64) (n k : Nat) : zi (zi (apI I t v n k) (t + 1) (n + k) (bt v k)) t 1 (nI (n + (k + 1))) = apI I t v n (k + 1) := by
  unfold apI
  rw [zi_up, zi_up2 (by omega), zi_2, apB_s]
set_option maxRecDepth 100000 in
set_option maxHeartbeats 4000000 in
theorem ct_X6_append {E : zE} {Sh : zSh} {I : zI} {L : zL} {R : zR} {t n : Nat} {v : Int64} (ht : zTa Sh R t) (hn : I t 1 = nI n) (hn2 : n ≤ 400) : zCf E m_X6_append Sh [.ref t, .long v] I L R (some (.int (if n + 8 ≤ 400 then nI (n + 8) else -3))) (if n + 8 ≤ 400 then apI I t v n 8 else I) (L) (R) := by
  obtain ⟨ht0, ht1, hr0, htl⟩ := ht
  refine z_met (by decide) [some (.ref t), some (.long v), none, none] rfl rfl (Nat.le_of_ble_eq_true rfl) (fun X => ?_)
  refine z_aload_n d_X6_append_0 rfl ?_
  refine z_getI d_X6_append_1 f_X6_15 (by first | rfl | assumption) (by omega) ?_
  rw [hn]
  refine z_bipush d_X6_append_4 kb_8 ?_
  refine z_iadd d_X6_append_6 ?_
  refine z_sipush d_X6_append_7 ks_400 ?_
  refine z_icmp_le d_X6_append_10 (fun h_10 => ?_) (fun h_10 => ?_)
  · have h8 : n + 8 ≤ 400 := by rw [show nI n + (8 : Int32) = nI (n + 8) from nI_add n 8] at h_10; exact (nI_leI (a := n + 8) (b := 400) (by omega) (by decide)).mp h_10
    refine z_bipush d_X6_append_16 kb_56 ?_
    refine z_istore3 d_X6_append_18 rfl ?_
    have loop : ∀ (Qs : State → Prop), (zZ E m_X6_append X Qs Sh 0 0 53 [some (.ref t), some (.long v), none, some (.int (shv 8))] [] (apI I t v n 8) L R) → ∀ k, k ≤ 8 → zZ E m_X6_append X Qs Sh 0 0 19 [some (.ref t), some (.long v), none, some (.int (shv k))] [] (apI I t v n k) L R := by
      intro Qs hx
      refine up_rec (fun k hk ih => ?_)
      refine z_iload_n d_X6_append_19 rfl ?_
      refine z_if_lt d_X6_append_20 (fun h_20 => ?_) (fun h_20 => ?_)
      · have h9 : k = 8 := by rcases Nat.lt_or_ge k 8 with q | q; exact absurd h_20 (shv_p ⟨k, q⟩); omega
        subst h9
        exact hx
      · have hlt : k < 8 := by rcases Nat.lt_or_ge k 8 with q | q; exact q; exact absurd (by rw [show k = 8 by omega]; exact shv_8) h_20
        refine z_aload_n d_X6_append_23 rfl ?_
        refine z_getR d_X6_append_24 f_X6_9 (by first | rfl | assumption) (by omega) (by first | exact hR _ _ _ rfl | rfl | assumption) ?_
        refine z_aload_n d_X6_append_27 rfl ?_
        refine z_getI d_X6_append_28 f_X6_15 (by first | rfl | assumption) (by omega) ?_
        rw [apI_1]
        refine z_lload_n d_X6_append_31 rfl ?_
        refine z_iload_n d_X6_append_32 rfl ?_
        refine z_lshr d_X6_append_33 ?_
        refine z_l2i d_X6_append_34 ?_
        refine z_i2b d_X6_append_35 ?_
        refine z_bastore d_X6_append_36 (by first | rfl | assumption) (by omega) (zix_nI (j := n + k) (by omega) (by decide)) ?_
        refine z_aload_n d_X6_append_37 rfl ?_
        refine z_dup d_X6_append_38 rfl ?_
        refine z_getI d_X6_append_39 f_X6_15 (by first | rfl | assumption) (by omega) ?_
        refine z_iconst d_X6_append_42 ki_1 ?_
        refine z_iadd d_X6_append_43 ?_
        refine z_putI d_X6_append_44 f_X6_15 p_X6_1 (by first | rfl | assumption) (by omega) ?_
        refine z_iinc3 d_X6_append_47 ki_m8 rfl ?_
        refine z_goto d_X6_append_50 ?_
        have h := ih hlt
        have e : zi (apI I t v n k) (t + 1) (n + k) (bt v k) t 1 + 1 = nI (n + (k + 1)) := by
          rw [zi_ne (by omega), apI_1, nI_1, Nat.add_assoc]
        refine z_ls (ls' := [some (.ref t), some (.long v), none, some (.int (shv (k + 1)))]) (by rw [← shv_s ⟨k, hlt⟩]) (z_mem (I' := apI I t v n (k + 1)) ?_ rfl rfl h)
        show zi (zi (apI I t v n k) (t + 1) (n + k) (bt v k)) t 1 (zi (apI I t v n k) (t + 1) (n + k) (bt v k) t 1 + 1) = _
        rw [e, apI_s]
    refine z_mem (I' := apI I t v n 0) (by unfold apI; rw [apB_0, Nat.add_zero, ← hn, zi_back, up_self]) rfl rfl (loop _ ?_ 0 (Nat.zero_le 8))
    refine z_aload_n d_X6_append_53 rfl ?_
    refine z_getI d_X6_append_54 f_X6_15 (by first | rfl | assumption) (by omega) ?_
    exact z_ireturn d_X6_append_57 rfl ⟨by rw [if_pos h8, apI_1], rfl, by rw [if_pos h8], rfl, rfl⟩
  · have h8 : ¬ n + 8 ≤ 400 := fun q => h_10 (by rw [show nI n + (8 : Int32) = nI (n + 8) from nI_add n 8]; exact nI_le (a := n + 8) (b := 400) q (by decide))
    refine z_bipush d_X6_append_13 kb_m3 ?_
    exact z_ireturn d_X6_append_15 rfl ⟨by rw [if_neg h8], rfl, by rw [if_neg h8], rfl, rfl⟩
