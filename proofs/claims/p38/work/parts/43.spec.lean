/-- of a picture of rw rows, cl columns: its k-th value -/
def pcV (f : Nat → Int32) (cl k : Nat) : Int32 := f (k / cl * 8 + k % cl)
def grV (f : Nat → Int32) : Nat → Int32
  | 0 => 0
  | n + 1 => mx (grV f n) (f n)
def leV (f : Nat → Int32) : Nat → Int32
  | 0 => 255
  | n + 1 => mn (leV f n) (f n)
theorem pcI {k cl : Nat} (h : k < 6 * cl) (h8 : cl ≤ 8) : k / cl * 8 + k % cl < 48 := by
  rcases Nat.eq_zero_or_pos cl with q | q
  · omega
  · have h1 : k / cl < 6 := Nat.div_lt_of_lt_mul (by omega)
    have h2 := Nat.mod_lt k q
    omega
set_option maxRecDepth 100000 in
set_option maxHeartbeats 4000000 in
theorem ct_X2_valueIn {E : zE} {Sh : zSh} {I : zI} {L : zL} {R : zR} {q k cl : Nat} (hq : zPi Sh R q) (hcl : I q 3 = nI cl) (h1 : 1 ≤ cl) (h8 : cl ≤ 8) (hk : k < 6 * cl) : zCf E m_X2_valueIn Sh [.ref q, .int (nI k)] I L R (some (.int (pcV (I (q + 6)) cl k))) (I) (L) (R) := by
  obtain ⟨hq0, hqc, hq6, hr0, hr1, hql⟩ := hq
  refine z_met (by decide) [some (.ref q), some (.int (nI k))] rfl rfl (Nat.le_of_ble_eq_true rfl) (fun X => ?_)
  refine z_aload_n d_X2_valueIn_0 rfl ?_
  refine z_getI d_X2_valueIn_1 f_X2_48 (by first | rfl | assumption) (by omega) ?_
  rw [hcl]
  refine z_iconst d_X2_valueIn_4 ki_1 ?_
  refine z_icmp_ge d_X2_valueIn_5 (fun h_5 => ?_) (fun h_5 => absurd (nI_le (a := 1) (b := cl) h1 (by omega)) h_5)
  refine z_aload_n d_X2_valueIn_12 rfl ?_
  refine z_getR d_X2_valueIn_13 f_X2_18 (by first | rfl | assumption) (by omega) (by first | exact hR _ _ _ rfl | rfl | assumption) ?_
  refine z_iload_n d_X2_valueIn_16 rfl ?_
  refine z_aload_n d_X2_valueIn_17 rfl ?_
  refine z_getI d_X2_valueIn_18 f_X2_48 (by first | rfl | assumption) (by omega) ?_
  rw [hcl]
  refine z_idiv d_X2_valueIn_21 (nI_ne0 (by omega) (by omega)) ?_
  rw [pk_div (by omega) (by omega) (by omega)]
  refine z_bipush d_X2_valueIn_22 kb_8 ?_
  refine z_imul d_X2_valueIn_24 ?_
  refine z_iload_n d_X2_valueIn_25 rfl ?_
  refine z_aload_n d_X2_valueIn_26 rfl ?_
  refine z_getI d_X2_valueIn_27 f_X2_48 (by first | rfl | assumption) (by omega) ?_
  rw [hcl]
  refine z_irem d_X2_valueIn_30 (nI_ne0 (by omega) (by omega)) ?_
  rw [pk_rem (by omega) (by omega) (by omega)]
  refine z_iadd d_X2_valueIn_31 ?_
  refine z_iaload d_X2_valueIn_32 (by first | rfl | assumption) (by omega) (zix_e (show nI (k / cl) * (8 : Int32) + nI (k % cl) = nI (k / cl * 8 + k % cl) from by rw [show nI (k / cl) * (8 : Int32) = nI (k / cl * 8) from pk_mul _ 8]; exact nI_add _ _) (pcI hk h8) (by decide)) ?_
  exact z_ireturn d_X2_valueIn_33 rfl ⟨rfl, rfl, rfl, rfl, rfl⟩
set_option maxRecDepth 100000 in
set_option maxHeartbeats 4000000 in
theorem ct_X2_greatest {E : zE} {Sh : zSh} {I : zI} {L : zL} {R : zR} {q rw' cl : Nat} (hq : zPi Sh R q) (hrw : I q 2 = nI rw') (h6 : rw' ≤ 6) (hcl : I q 3 = nI cl) (h1 : 1 ≤ cl) (h8 : cl ≤ 8) : zCf E m_X2_greatest Sh [.ref q] I L R (some (.int (grV (pcV (I (q + 6)) cl) (rw' * cl)))) (I) (L) (R) := by
  have hqq := hq; obtain ⟨hq0, hqc, hq6, hr0, hr1, hql⟩ := hq
  have hb : rw' * cl ≤ 6 * cl := Nat.mul_le_mul_right cl h6
  refine z_met (by decide) [some (.ref q), none, none] rfl rfl (Nat.le_of_ble_eq_true rfl) (fun X => ?_)
  refine z_iconst d_X2_greatest_0 ki_0 ?_
  refine z_istore1 d_X2_greatest_1 rfl ?_
  refine z_iconst d_X2_greatest_2 ki_0 ?_
  refine z_istore2 d_X2_greatest_3 rfl ?_
  have loop : ∀ (Qs : State → Prop), (zZ E m_X2_greatest X Qs Sh 0 0 33 [some (.ref q), some (.int (grV (pcV (I (q + 6)) cl) (rw' * cl))), some (.int (nI (rw' * cl)))] [] I L R) → ∀ i, i ≤ rw' * cl → zZ E m_X2_greatest X Qs Sh 0 0 4 [some (.ref q), some (.int (grV (pcV (I (q + 6)) cl) i)), some (.int (nI i))] [] I L R := by
    intro Qs hx
    refine up_rec (fun i hi ih => ?_)
    refine z_iload_n d_X2_greatest_4 rfl ?_
    refine z_aload_n d_X2_greatest_5 rfl ?_
    refine z_getI d_X2_greatest_6 f_X2_44 (by first | rfl | assumption) (by omega) ?_
    refine z_aload_n d_X2_greatest_9 rfl ?_
    refine z_getI d_X2_greatest_10 f_X2_48 (by first | rfl | assumption) (by omega) ?_
    refine z_imul d_X2_greatest_13 ?_
    rw [hrw, hcl, pk_mul]
    refine z_icmp_ge d_X2_greatest_14 (fun h_14 => ?_) (fun h_14 => ?_)
    · obtain rfl := eq_of_ge (by omega) hi h_14
      exact hx
    · have hlt := lt_of_nge (by omega) h_14 (by omega)
      refine z_iload_n d_X2_greatest_17 rfl ?_
      refine z_aload_n d_X2_greatest_18 rfl ?_
      refine z_iload_n d_X2_greatest_19 rfl ?_
      refine z_cVi d_X2_greatest_20 q_X2_greatest_67 (by first | rfl | assumption) (by omega) ⟨rfl, rfl⟩ (ct_X2_valueIn (by assumption) (by assumption) (by assumption) (by assumption) (by omega)) rfl rfl rfl ⟨Nat.zero_le _, Nat.zero_le _⟩ ?_
      refine z_mmax d_X2_greatest_23 q_X2_greatest_71 (by decide) (Nat.le_of_ble_eq_true rfl) ⟨Nat.zero_le _, Nat.zero_le _⟩ ?_
      refine z_istore1 d_X2_greatest_26 rfl ?_
      refine z_iinc2 d_X2_greatest_27 ki_1 rfl ?_
      refine z_goto d_X2_greatest_30 ?_
      rw [nI_1]
      exact ih hlt
  refine loop _ ?_ 0 (Nat.zero_le _)
  refine z_iload_n d_X2_greatest_33 rfl ?_
  exact z_ireturn d_X2_greatest_34 rfl ⟨rfl, rfl, rfl, rfl, rfl⟩
set_option maxRecDepth 100000 in
set_option maxHeartbeats 4000000 in
theorem ct_X2_least {E : zE} {Sh : zSh} {I : zI} {L : zL} {R : zR} {q rw' cl : Nat} (hq : zPi Sh R q) (hrw : I q 2 = nI rw') (h6 : rw' ≤ 6) (hcl : I q 3 = nI cl) (h1 : 1 ≤ cl) (h8 : cl ≤ 8) : zCf E m_X2_least Sh [.ref q] I L R (some (.int (leV (pcV (I (q + 6)) cl) (rw' * cl)))) (I) (L) (R) := by
  have hqq := hq; obtain ⟨hq0, hqc, hq6, hr0, hr1, hql⟩ := hq
  have hb : rw' * cl ≤ 6 * cl := Nat.mul_le_mul_right cl h6
  refine z_met (by decide) [some (.ref q), none, none] rfl rfl (Nat.le_of_ble_eq_true rfl) (fun X => ?_)
  refine z_sipush d_X2_least_0 ks_255 ?_
  refine z_istore1 d_X2_least_3 rfl ?_
  refine z_iconst d_X2_least_4 ki_0 ?_
  refine z_istore2 d_X2_least_5 rfl ?_
  have loop : ∀ (Qs : State → Prop), (zZ E m_X2_least X Qs Sh 0 0 35 [some (.ref q), some (.int (leV (pcV (I (q + 6)) cl) (rw' * cl))), some (.int (nI (rw' * cl)))] [] I L R) → ∀ i, i ≤ rw' * cl → zZ E m_X2_least X Qs Sh 0 0 6 [some (.ref q), some (.int (leV (pcV (I (q + 6)) cl) i)), some (.int (nI i))] [] I L R := by
    intro Qs hx
    refine up_rec (fun i hi ih => ?_)
    refine z_iload_n d_X2_least_6 rfl ?_
    refine z_aload_n d_X2_least_7 rfl ?_
    refine z_getI d_X2_least_8 f_X2_44 (by first | rfl | assumption) (by omega) ?_
    refine z_aload_n d_X2_least_11 rfl ?_
    refine z_getI d_X2_least_12 f_X2_48 (by first | rfl | assumption) (by omega) ?_
    refine z_imul d_X2_least_15 ?_
    rw [hrw, hcl, pk_mul]
    refine z_icmp_ge d_X2_least_16 (fun h_16 => ?_) (fun h_16 => ?_)
    · obtain rfl := eq_of_ge (by omega) hi h_16
      exact hx
    · have hlt := lt_of_nge (by omega) h_16 (by omega)
      refine z_iload_n d_X2_least_19 rfl ?_
      refine z_aload_n d_X2_least_20 rfl ?_
      refine z_iload_n d_X2_least_21 rfl ?_
      refine z_cVi d_X2_least_22 q_X2_least_67 (by first | rfl | assumption) (by omega) ⟨rfl, rfl⟩ (ct_X2_valueIn (by assumption) (by assumption) (by assumption) (by assumption) (by omega)) rfl rfl rfl ⟨Nat.zero_le _, Nat.zero_le _⟩ ?_
      refine z_mmin d_X2_least_25 q_X2_least_39 (by decide) (Nat.le_of_ble_eq_true rfl) ⟨Nat.zero_le _, Nat.zero_le _⟩ ?_
      refine z_istore1 d_X2_least_28 rfl ?_
      refine z_iinc2 d_X2_least_29 ki_1 rfl ?_
      refine z_goto d_X2_least_32 ?_
      rw [nI_1]
      exact ih hlt
  refine loop _ ?_ 0 (Nat.zero_le _)
  refine z_iload_n d_X2_least_35 rfl ?_
  exact z_ireturn d_X2_least_36 rfl ⟨rfl, rfl, rfl, rfl, rfl⟩
set_option maxRecDepth 100000 in
set_option maxHeartbeats 4000000 in
theorem ct_X2_summed {E : zE} {Sh : zSh} {I : zI} {L : zL} {R : zR} {q rw' cl : Nat} (hq : zPi Sh R q) (hrw : I q 2 = nI rw') (h6 : rw' ≤ 6) (hcl : I q 3 = nI cl) (h1 : 1 ≤ cl) (h8 : cl ≤ 8) : zCf E m_X2_summed Sh [.ref q] I L R (some (.int (sumV (pcV (I (q + 6)) cl) (rw' * cl)))) (I) (L) (R) := by
  have hqq := hq; obtain ⟨hq0, hqc, hq6, hr0, hr1, hql⟩ := hq
  have hb : rw' * cl ≤ 6 * cl := Nat.mul_le_mul_right cl h6
  refine z_met (by decide) [some (.ref q), none, none] rfl rfl (Nat.le_of_ble_eq_true rfl) (fun X => ?_)
  refine z_iconst d_X2_summed_0 ki_0 ?_
  refine z_istore1 d_X2_summed_1 rfl ?_
  refine z_iconst d_X2_summed_2 ki_0 ?_
  refine z_istore2 d_X2_summed_3 rfl ?_
  have loop : ∀ (Qs : State → Prop), (zZ E m_X2_summed X Qs Sh 0 0 31 [some (.ref q), some (.int (sumV (pcV (I (q + 6)) cl) (rw' * cl))), some (.int (nI (rw' * cl)))] [] I L R) → ∀ i, i ≤ rw' * cl → zZ E m_X2_summed X Qs Sh 0 0 4 [some (.ref q), some (.int (sumV (pcV (I (q + 6)) cl) i)), some (.int (nI i))] [] I L R := by
    intro Qs hx
    refine up_rec (fun i hi ih => ?_)
    refine z_iload_n d_X2_summed_4 rfl ?_
    refine z_aload_n d_X2_summed_5 rfl ?_
    refine z_getI d_X2_summed_6 f_X2_44 (by first | rfl | assumption) (by omega) ?_
    refine z_aload_n d_X2_summed_9 rfl ?_
    refine z_getI d_X2_summed_10 f_X2_48 (by first | rfl | assumption) (by omega) ?_
    refine z_imul d_X2_summed_13 ?_
    rw [hrw, hcl, pk_mul]
    refine z_icmp_ge d_X2_summed_14 (fun h_14 => ?_) (fun h_14 => ?_)
    · obtain rfl := eq_of_ge (by omega) hi h_14
      exact hx
    · have hlt := lt_of_nge (by omega) h_14 (by omega)
      refine z_iload_n d_X2_summed_17 rfl ?_
      refine z_aload_n d_X2_summed_18 rfl ?_
      refine z_iload_n d_X2_summed_19 rfl ?_
      refine z_cVi d_X2_summed_20 q_X2_summed_67 (by first | rfl | assumption) (by omega) ⟨rfl, rfl⟩ (ct_X2_valueIn (by assumption) (by assumption) (by assumption) (by assumption) (by omega)) rfl rfl rfl ⟨Nat.zero_le _, Nat.zero_le _⟩ ?_
      refine z_iadd d_X2_summed_23 ?_
      refine z_istore1 d_X2_summed_24 rfl ?_
      refine z_iinc2 d_X2_summed_25 ki_1 rfl ?_
      refine z_goto d_X2_summed_28 ?_
      rw [nI_1]
      exact ih hlt
  refine loop _ ?_ 0 (Nat.zero_le _)
  refine z_iload_n d_X2_summed_31 rfl ?_
  exact z_ireturn d_X2_summed_32 rfl ⟨rfl, rfl, rfl, rfl, rfl⟩
set_option maxRecDepth 100000 in
set_option maxHeartbeats 4000000 in
theorem ct_X2_brightest {E : zE} {Sh : zSh} {I : zI} {L : zL} {R : zR} {q rw' cl : Nat} (hq : zPi Sh R q) (hrw : I q 2 = nI rw') (h6 : rw' ≤ 6) (hcl : I q 3 = nI cl) (h1 : 1 ≤ cl) (h8 : cl ≤ 8) : zCf E m_X2_brightest Sh [.ref q] I L R (some (.int (cntV (fun k => decide ((pcV (I (q + 6)) cl) k = 255)) (rw' * cl)))) (I) (L) (R) := by
  have hqq := hq; obtain ⟨hq0, hqc, hq6, hr0, hr1, hql⟩ := hq
  have hb : rw' * cl ≤ 6 * cl := Nat.mul_le_mul_right cl h6
  refine z_met (by decide) [some (.ref q), none, none] rfl rfl (Nat.le_of_ble_eq_true rfl) (fun X => ?_)
  refine z_iconst d_X2_brightest_0 ki_0 ?_
  refine z_istore1 d_X2_brightest_1 rfl ?_
  refine z_iconst d_X2_brightest_2 ki_0 ?_
  refine z_istore2 d_X2_brightest_3 rfl ?_
  have loop : ∀ (Qs : State → Prop), (zZ E m_X2_brightest X Qs Sh 0 0 42 [some (.ref q), some (.int (cntV (fun k => decide ((pcV (I (q + 6)) cl) k = 255)) (rw' * cl))), some (.int (nI (rw' * cl)))] [] I L R) → ∀ i, i ≤ rw' * cl → zZ E m_X2_brightest X Qs Sh 0 0 4 [some (.ref q), some (.int (cntV (fun k => decide ((pcV (I (q + 6)) cl) k = 255)) i)), some (.int (nI i))] [] I L R := by
    intro Qs hx
    refine up_rec (fun i hi ih => ?_)
    refine z_iload_n d_X2_brightest_4 rfl ?_
    refine z_aload_n d_X2_brightest_5 rfl ?_
    refine z_getI d_X2_brightest_6 f_X2_44 (by first | rfl | assumption) (by omega) ?_
    refine z_aload_n d_X2_brightest_9 rfl ?_
    refine z_getI d_X2_brightest_10 f_X2_48 (by first | rfl | assumption) (by omega) ?_
    refine z_imul d_X2_brightest_13 ?_
    rw [hrw, hcl, pk_mul]
    refine z_icmp_ge d_X2_brightest_14 (fun h_14 => ?_) (fun h_14 => ?_)
    · obtain rfl := eq_of_ge (by omega) hi h_14
      exact hx
    · have hlt := lt_of_nge (by omega) h_14 (by omega)
      refine z_iload_n d_X2_brightest_17 rfl ?_
      refine z_aload_n d_X2_brightest_18 rfl ?_
      refine z_iload_n d_X2_brightest_19 rfl ?_
      refine z_cVi d_X2_brightest_20 q_X2_brightest_67 (by first | rfl | assumption) (by omega) ⟨rfl, rfl⟩ (ct_X2_valueIn (by assumption) (by assumption) (by assumption) (by assumption) (by omega)) rfl rfl rfl ⟨Nat.zero_le _, Nat.zero_le _⟩ ?_
      refine z_sipush d_X2_brightest_23 ks_255 ?_
      refine z_icmp_ne d_X2_brightest_26 (fun h_26 => ?_) (fun h_26 => ?_)
      · refine z_iconst d_X2_brightest_33 ki_0 ?_
        refine z_iadd d_X2_brightest_34 ?_
        refine z_istore1 d_X2_brightest_35 rfl ?_
        refine z_iinc2 d_X2_brightest_36 ki_1 rfl ?_
        refine z_goto d_X2_brightest_39 ?_
        rw [nI_1]
        have h := ih hlt
        rw [cntV] at h
        first
          | (rw [show b2i (decide (pcV (I (q + 6)) cl i = 255)) = 0 from by simp [b2i, h_26]] at h; exact h)
          | (rw [show b2i (decide (pcV (I (q + 6)) cl i = 255)) = 1 from by simp [b2i, h_26]] at h; exact h)
      · refine z_iconst d_X2_brightest_29 ki_1 ?_
        refine z_goto d_X2_brightest_30 ?_
        refine z_iadd d_X2_brightest_34 ?_
        refine z_istore1 d_X2_brightest_35 rfl ?_
        refine z_iinc2 d_X2_brightest_36 ki_1 rfl ?_
        refine z_goto d_X2_brightest_39 ?_
        rw [nI_1]
        have h := ih hlt
        rw [cntV] at h
        first
          | (rw [show b2i (decide (pcV (I (q + 6)) cl i = 255)) = 0 from by simp [b2i, h_26]] at h; exact h)
          | (rw [show b2i (decide (pcV (I (q + 6)) cl i = 255)) = 1 from by simp [b2i, h_26]] at h; exact h)
  refine loop _ ?_ 0 (Nat.zero_le _)
  refine z_iload_n d_X2_brightest_42 rfl ?_
  exact z_ireturn d_X2_brightest_43 rfl ⟨rfl, rfl, rfl, rfl, rfl⟩
