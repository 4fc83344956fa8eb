def addW (m wl : Nat → Int32) (n : Nat) : Nat → Int32 := fun j => if j < n then wl j + m j else wl j
def addC (m : Nat → Int32) : Nat → Int64 → Int64
  | 0, x => x
  | n + 1, x => addC m n x + (m n).toInt64
theorem addW_0 (m wl : Nat → Int32) : addW m wl 0 = wl := by funext j; simp [addW]
theorem addW_at (m wl : Nat → Int32) (i : Nat) : addW m wl i i = wl i := by simp [addW]
theorem addW_s (m wl : Nat → Int32) (i : Nat) : va_up (addW m wl i) i (addW m wl i i + m i) = addW m wl (i + 1) := by
  funext j
  by_cases h : j = i
  · subst h; simp [va_up, addW]
  · by_cases h2 : j < i
    · simp [va_up, addW, h, h2, show j < i + 1 by omega]
    · simp [va_up, addW, h, h2, show ¬ j < i + 1 by omega]
/-- memory of a Charge at c: wells, and its sums -/
def mW (I : zI) (c : Nat) (wl : Nat → Int32) : zI := va_up I (c + 2) wl
theorem mW_self (I : zI) (c : Nat) : mW I c (I (c + 2)) = I := up_self I (c + 2)
theorem mW_at (I : zI) (c : Nat) (f : Nat → Int32) : mW I c f (c + 2) = f := up_eq I (c + 2) f
theorem mW_ne {I : zI} {c q : Nat} {f : Nat → Int32} (h : q ≠ c + 2) : mW I c f q = I q := up_ne h
theorem mW_mW (I : zI) (c : Nat) (f g : Nat → Int32) : mW (mW I c f) c g = mW I c g := up_up I (c + 2) f g
theorem mW_zi (I : zI) (c : Nat) (f : Nat → Int32) (j : Nat) (x : Int32) : zi (mW I c f) (c + 2) j x = mW I c (va_up f j x) := zi_up I (c + 2) f j x
theorem mW_va (I : zI) (c : Nat) (f g : Nat → Int32) : va_up (mW I c f) (c + 2) g = mW I c g := up_up I (c + 2) f g
def ro (cap drain : Int32) (s : (Nat → Int32) × Int64) : (Nat → Int32) × Int64 := roL cap drain 48 s
theorem zj_self (L : zL) (k j : Nat) : zj L k j (L k j) = L := by
  unfold zj
  rw [up_self (L k) j, up_self]
theorem zj_zj (L : zL) (k j : Nat) (x y : Int64) : zj (zj L k j x) k j y = zj L k j y := by
  unfold zj
  rw [up_eq, up_up, up_up]
theorem zj_at (L : zL) (k j : Nat) (x : Int64) : zj L k j x k j = x := by simp [zj, up_eq]
theorem zj_at2 {L : zL} {k j j' : Nat} {x : Int64} (h : j' ≠ j) : zj L k j x k j' = L k j' := by simp [zj, up_eq, up_ne h]
set_option maxRecDepth 100000 in
set_option maxHeartbeats 4000000 in
theorem ct_X0_runOver {E : zE} {Sh : zSh} {I : zI} {L : zL} {R : zR} {c p : Nat} (hc : zCh Sh R c) (hp : zPl Sh R p) (hpc : p + 4 < c) : zCf E m_X0_runOver Sh [.ref c, .ref p] I L R (none) (mW I c (ro (I (p + 1) 0) (I (p + 1) 2) (I (c + 2), L c 4)).1) (zj L c 4 (ro (I (p + 1) 0) (I (p + 1) 2) (I (c + 2), L c 4)).2) (R) := by
  have hcc := hc; obtain ⟨hc0, hc1, hc2, hc3, hc4, hr0, hr1, hr2, hr3, hcl⟩ := hc
  obtain ⟨hp0, hp1, hp2, hp3, hp4, hs0, hs1, hs2, hs3, hpl⟩ := hp
  refine z_met (by decide) [some (.ref c), some (.ref p), none, none, none] rfl rfl (Nat.le_of_ble_eq_true rfl) (fun X => ?_)
  refine z_aload_n d_X0_runOver_0 rfl ?_
  refine z_getR d_X0_runOver_1 f_X0_51 (by first | rfl | assumption) (by omega) (by first | exact hR _ _ _ rfl | rfl | assumption) ?_
  refine z_iconst d_X0_runOver_4 ki_0 ?_
  refine z_iaload d_X0_runOver_5 (by first | rfl | assumption) (by omega) (zix_lit 0 (by decide)) ?_
  refine z_istore2 d_X0_runOver_6 rfl ?_
  refine z_iconst d_X0_runOver_7 ki_0 ?_
  refine z_istore3 d_X0_runOver_8 rfl ?_
  have loop : ∀ (Qs : State → Prop), (∀ (o : Option Value), zZ E m_X0_runOver X Qs Sh 0 0 77 [some (.ref c), some (.ref p), some (.int (I (p + 1) 0)), some (.int (nI 48)), o] [] (mW I c (ro (I (p + 1) 0) (I (p + 1) 2) (I (c + 2), L c 4)).1) (zj L c 4 (ro (I (p + 1) 0) (I (p + 1) 2) (I (c + 2), L c 4)).2) R) → ∀ i, i ≤ 48 → ∀ o : Option Value, zZ E m_X0_runOver X Qs Sh 0 0 9 [some (.ref c), some (.ref p), some (.int (I (p + 1) 0)), some (.int (nI i)), o] [] (mW I c (roL (I (p + 1) 0) (I (p + 1) 2) i (I (c + 2), L c 4)).1) (zj L c 4 (roL (I (p + 1) 0) (I (p + 1) 2) i (I (c + 2), L c 4)).2) R := by
    intro Qs hx
    refine up_rec (fun i hi ih o => ?_)
    generalize hs : roL (I (p + 1) 0) (I (p + 1) 2) i (I (c + 2), L c 4) = s at ih ⊢
    refine z_iload_n d_X0_runOver_9 rfl ?_
    refine z_bipush d_X0_runOver_10 kb_48 ?_
    refine z_icmp_ge d_X0_runOver_12 (fun h_12 => ?_) (fun h_12 => ?_)
    · obtain rfl := eq_of_ge (n := 48) (by decide) hi h_12
      have h := hx o
      rw [ro, hs] at h
      exact h
    · have hlt := lt_of_nge (n := 48) (by decide) h_12 (by omega)
      refine z_aload_n d_X0_runOver_15 rfl ?_
      refine z_getR d_X0_runOver_16 f_X0_15 (by first | rfl | assumption) (by omega) (by first | exact hR _ _ _ rfl | rfl | assumption) ?_
      refine z_iload_n d_X0_runOver_19 rfl ?_
      refine z_iaload d_X0_runOver_20 (by first | rfl | assumption) (by omega) (by first | exact zix_nI (by assumption) (by first | decide | assumption) | exact zix_nI (by omega) (by first | decide | assumption) | assumption) ?_
      refine z_iload_n d_X0_runOver_21 rfl ?_
      refine z_isub d_X0_runOver_22 ?_
      refine z_istore4 d_X0_runOver_23 rfl ?_
      rw [mW_at]
      refine z_iload d_X0_runOver_25 rfl ?_
      refine z_if_le d_X0_runOver_27 (fun h_27 => ?_) (fun h_27 => ?_)
      · refine z_iinc3 d_X0_runOver_71 ki_1 rfl ?_
        refine z_goto d_X0_runOver_74 ?_
        rw [nI_1]
        have h := ih hlt (some (.int (s.1 i - I (p + 1) 0)))
        rw [roL, hs, roS, if_neg (Int32.not_lt.mpr h_27)] at h
        exact h
      · refine z_aload_n d_X0_runOver_30 rfl ?_
        refine z_getR d_X0_runOver_31 f_X0_15 (by first | rfl | assumption) (by omega) (by first | exact hR _ _ _ rfl | rfl | assumption) ?_
        refine z_iload_n d_X0_runOver_34 rfl ?_
        refine z_iload_n d_X0_runOver_35 rfl ?_
        refine z_iastore d_X0_runOver_36 (by first | rfl | assumption) (by omega) (by first | exact zix_nI (by assumption) (by first | decide | assumption) | exact zix_nI (by omega) (by first | decide | assumption) | assumption) ?_
        rw [mW_zi]
        refine z_aload_n d_X0_runOver_37 rfl ?_
        refine z_dup d_X0_runOver_38 rfl ?_
        refine z_getL d_X0_runOver_39 f_X0_30 (by first | rfl | assumption) (by omega) ?_
        refine z_aload_n d_X0_runOver_42 rfl ?_
        refine z_getR d_X0_runOver_43 f_X0_51 (by first | rfl | assumption) (by omega) (by first | exact hR _ _ _ rfl | rfl | assumption) ?_
        refine z_iconst d_X0_runOver_46 ki_2 ?_
        refine z_iaload d_X0_runOver_47 (by first | rfl | assumption) (by omega) (zix_lit 2 (by decide)) ?_
        rw [mW_ne (by omega)]
        refine z_iconst d_X0_runOver_48 ki_1 ?_
        refine z_icmp_ne d_X0_runOver_49 (fun h_49 => ?_) (fun h_49 => ?_)
        · refine z_aload_n d_X0_runOver_58 rfl ?_
          refine z_iload_n d_X0_runOver_59 rfl ?_
          refine z_iload d_X0_runOver_60 rfl ?_
          refine z_iload_n d_X0_runOver_62 rfl ?_
          refine z_cVi d_X0_runOver_63 q_X0_runOver_62 (by first | rfl | assumption) (by omega) ⟨rfl, rfl⟩ (ct_X0_spread (by assumption)) rfl rfl rfl ⟨Nat.zero_le _, Nat.zero_le _⟩ ?_
          refine z_i2l d_X0_runOver_66 ?_
          refine z_ladd d_X0_runOver_67 ?_
          refine z_putL d_X0_runOver_68 f_X0_30 p_X0_4 (by first | rfl | assumption) (by omega) ?_
          refine z_iinc3 d_X0_runOver_71 ki_1 rfl ?_
          refine z_goto d_X0_runOver_74 ?_
          have h := ih hlt (some (.int (s.1 i - I (p + 1) 0)))
          rw [roL, hs, roS, if_pos (Int32.not_le.mp h_27)] at h
          rw [nI_1]
          first
            | (rw [if_pos h_49] at h; simp only [zj_zj, zj_at, mW_at, mW_va]; exact h)
            | (rw [if_neg h_49] at h; simp only [zj_zj, zj_at, mW_at, mW_va]; exact h)
        · refine z_iload d_X0_runOver_52 rfl ?_
          refine z_i2l d_X0_runOver_54 ?_
          refine z_goto d_X0_runOver_55 ?_
          refine z_ladd d_X0_runOver_67 ?_
          refine z_putL d_X0_runOver_68 f_X0_30 p_X0_4 (by first | rfl | assumption) (by omega) ?_
          refine z_iinc3 d_X0_runOver_71 ki_1 rfl ?_
          refine z_goto d_X0_runOver_74 ?_
          have h := ih hlt (some (.int (s.1 i - I (p + 1) 0)))
          rw [roL, hs, roS, if_pos (Int32.not_le.mp h_27)] at h
          rw [nI_1]
          first
            | (rw [if_pos h_49] at h; simp only [zj_zj, zj_at, mW_at, mW_va]; exact h)
            | (rw [if_neg h_49] at h; simp only [zj_zj, zj_at, mW_at, mW_va]; exact h)
  refine z_mem (I' := mW I c (roL (I (p + 1) 0) (I (p + 1) 2) 0 (I (c + 2), L c 4)).1) (L' := zj L c 4 (roL (I (p + 1) 0) (I (p + 1) 2) 0 (I (c + 2), L c 4)).2) (by simp only [roL, mW_self]) (by simp only [roL, zj_self]) rfl (loop _ (fun o => ?_) 0 (Nat.zero_le 48) none)
  exact z_return d_X0_runOver_77 rfl ⟨rfl, rfl, rfl, rfl, rfl⟩
set_option maxRecDepth 100000 in
set_option maxHeartbeats 4000000 in
theorem ct_X0_fillFor {E : zE} {Sh : zSh} {I : zI} {L : zL} {R : zR} {c p : Nat} {t : Int32} (hc : zCh Sh R c) (hp : zPl Sh R p) (hpc : p + 4 < c) : zCf E m_X0_fillFor Sh [.ref c, .int t, .ref p] I L R (none) (mW I c (ro (I (p + 1) 0) (I (p + 1) 2) (addW (fun j => (I (c + 1) j + I (p + 2) j + I (p + 1) 1) * t) (I (c + 2)) 48, L c 4)).1) (zj (zj L c 6 (addC (fun j => (I (c + 1) j + I (p + 2) j + I (p + 1) 1) * t) 48 (L c 6))) c 4 (ro (I (p + 1) 0) (I (p + 1) 2) (addW (fun j => (I (c + 1) j + I (p + 2) j + I (p + 1) 1) * t) (I (c + 2)) 48, L c 4)).2) (R) := by
  have hcc := hc; obtain ⟨hc0, hc1, hc2, hc3, hc4, hr0, hr1, hr2, hr3, hcl⟩ := hc
  have hpp := hp; obtain ⟨hp0, hp1, hp2, hp3, hp4, hs0, hs1, hs2, hs3, hpl⟩ := hp
  generalize hm : (fun j => (I (c + 1) j + I (p + 2) j + I (p + 1) 1) * t) = m
  refine z_met (by decide) [some (.ref c), some (.int t), some (.ref p), none] rfl rfl (Nat.le_of_ble_eq_true rfl) (fun X => ?_)
  refine z_iconst d_X0_fillFor_0 ki_0 ?_
  refine z_istore3 d_X0_fillFor_1 rfl ?_
  have loop : ∀ (Qs : State → Prop), (zZ E m_X0_fillFor X Qs Sh 0 0 41 [some (.ref c), some (.int t), some (.ref p), some (.int (nI 48))] [] (mW I c (addW m (I (c + 2)) 48)) (zj L c 6 (addC m 48 (L c 6))) R) → ∀ i, i ≤ 48 → zZ E m_X0_fillFor X Qs Sh 0 0 2 [some (.ref c), some (.int t), some (.ref p), some (.int (nI i))] [] (mW I c (addW m (I (c + 2)) i)) (zj L c 6 (addC m i (L c 6))) R := by
    intro Qs hx
    refine up_rec (fun i hi ih => ?_)
    refine z_iload_n d_X0_fillFor_2 rfl ?_
    refine z_bipush d_X0_fillFor_3 kb_48 ?_
    refine z_icmp_ge d_X0_fillFor_5 (fun h_5 => ?_) (fun h_5 => ?_)
    · obtain rfl := eq_of_ge (n := 48) (by decide) hi h_5
      exact hx
    · have hlt := lt_of_nge (n := 48) (by decide) h_5 (by omega)
      refine z_aload_n d_X0_fillFor_8 rfl ?_
      refine z_iload_n d_X0_fillFor_9 rfl ?_
      refine z_aload_n d_X0_fillFor_10 rfl ?_
      refine z_getR d_X0_fillFor_11 f_X0_9 (by first | rfl | assumption) (by omega) (by first | exact hR _ _ _ rfl | rfl | assumption) ?_
      refine z_iload_n d_X0_fillFor_14 rfl ?_
      refine z_iaload d_X0_fillFor_15 (by first | rfl | assumption) (by omega) (by first | exact zix_nI (by assumption) (by first | decide | assumption) | exact zix_nI (by omega) (by first | decide | assumption) | assumption) ?_
      refine z_aload_n d_X0_fillFor_16 rfl ?_
      refine z_getR d_X0_fillFor_17 f_X0_46 (by first | rfl | assumption) (by omega) (by first | exact hR _ _ _ rfl | rfl | assumption) ?_
      refine z_iload_n d_X0_fillFor_20 rfl ?_
      refine z_iaload d_X0_fillFor_21 (by first | rfl | assumption) (by omega) (by first | exact zix_nI (by assumption) (by first | decide | assumption) | exact zix_nI (by omega) (by first | decide | assumption) | assumption) ?_
      refine z_iadd d_X0_fillFor_22 ?_
      refine z_aload_n d_X0_fillFor_23 rfl ?_
      refine z_getR d_X0_fillFor_24 f_X0_51 (by first | rfl | assumption) (by omega) (by first | exact hR _ _ _ rfl | rfl | assumption) ?_
      refine z_iconst d_X0_fillFor_27 ki_1 ?_
      refine z_iaload d_X0_fillFor_28 (by first | rfl | assumption) (by omega) (zix_lit 1 (by decide)) ?_
      refine z_iadd d_X0_fillFor_29 ?_
      refine z_iload_n d_X0_fillFor_30 rfl ?_
      refine z_imul d_X0_fillFor_31 ?_
      refine z_cVv d_X0_fillFor_32 q_X0_fillFor_54 (by first | rfl | assumption) (by omega) ⟨rfl, rfl⟩ (ct_X0_bring (by assumption) (by first | exact zix_nI (by assumption) (by decide) | assumption)) rfl rfl rfl ⟨Nat.zero_le _, Nat.zero_le _⟩ ?_
      refine z_iinc3 d_X0_fillFor_35 ki_1 rfl ?_
      refine z_goto d_X0_fillFor_38 ?_
      have h := ih hlt
      rw [nI_1]
      refine z_mem (I' := mW I c (addW m (I (c + 2)) (i + 1))) (L' := zj L c 6 (addC m (i + 1) (L c 6))) ?_ ?_ rfl h
      · rw [mW_zi, mW_at, mW_ne (by omega), mW_ne (by omega), mW_ne (by omega), ← addW_s, ← hm]
      · rw [zj_zj, zj_at, mW_ne (by omega), mW_ne (by omega), mW_ne (by omega), addC, ← hm]
  refine z_mem (I' := mW I c (addW m (I (c + 2)) 0)) (L' := zj L c 6 (addC m 0 (L c 6))) (by simp only [addW_0, mW_self]) (by simp only [addC, zj_self]) rfl (loop _ ?_ 0 (Nat.zero_le 48))
  refine z_aload_n d_X0_fillFor_41 rfl ?_
  refine z_aload_n d_X0_fillFor_42 rfl ?_
  refine z_cVv d_X0_fillFor_43 q_X0_fillFor_58 (by first | rfl | assumption) (by omega) ⟨rfl, rfl⟩ (ct_X0_runOver (by assumption) (by assumption) (by omega)) rfl rfl rfl ⟨Nat.zero_le _, Nat.zero_le _⟩ ?_
  exact z_return d_X0_fillFor_46 rfl ⟨rfl, rfl, by rw [mW_ne (by omega), mW_at, zj_at2 (by decide), mW_mW], by rw [mW_ne (by omega), mW_at, zj_at2 (by decide)], rfl⟩
