/-! the class Charge: what its methods do to wells, held, line and the sums -/
def pourT (wl : Nat → Int32) (w off cap : Int32) : Int32 := if isW w = true ∧ wl w.toNatClampNeg < cap then (if cap - wl w.toNatClampNeg < off then cap - wl w.toNatClampNeg else off) else 0
def pourW (wl : Nat → Int32) (w off cap : Int32) : Nat → Int32 := if isW w = true ∧ wl w.toNatClampNeg < cap then va_up wl w.toNatClampNeg (wl w.toNatClampNeg + pourT wl w off cap) else wl
def sprS (w cap : Int32) (far : Nat) (s : Int32 × (Nat → Int32)) : Int32 × (Nat → Int32) :=
  (s.1 - pourT s.2 (w - nI far * 8) s.1 cap - pourT (pourW s.2 (w - nI far * 8) s.1 cap) (w + nI far * 8) (s.1 - pourT s.2 (w - nI far * 8) s.1 cap) cap,
   pourW (pourW s.2 (w - nI far * 8) s.1 cap) (w + nI far * 8) (s.1 - pourT s.2 (w - nI far * 8) s.1 cap) cap)
def sprL (w cap : Int32) : Nat → Nat → Int32 × (Nat → Int32) → Int32 × (Nat → Int32)
  | 0, _, s => s
  | n + 1, far, s => if 0 < s.1 then sprL w cap n (far + 1) (sprS w cap far s) else s
def roS (cap drain : Int32) (w : Nat) (s : (Nat → Int32) × Int64) : (Nat → Int32) × Int64 :=
  if 0 < s.1 w - cap then
    (if drain = 1 then (va_up s.1 w cap, s.2 + (s.1 w - cap).toInt64)
     else ((sprL (nI w) cap 5 1 (s.1 w - cap, va_up s.1 w cap)).2, s.2 + (sprL (nI w) cap 5 1 (s.1 w - cap, va_up s.1 w cap)).1.toInt64))
  else s
def roL (cap drain : Int32) : Nat → (Nat → Int32) × Int64 → (Nat → Int32) × Int64
  | 0, s => s
  | n + 1, s => roS cap drain n (roL cap drain n s)
theorem isW_b {w : Int32} (h : ¬ b2i (isW w) = 0) : isW w = true := by
  cases hw : isW w
  · rw [hw] at h; exact absurd rfl h
  · rfl
theorem isW_n {w : Int32} (h : b2i (isW w) = 0) : isW w = false := by
  cases hw : isW w
  · rfl
  · rw [hw] at h; exact absurd h (by decide)
set_option maxRecDepth 100000 in
set_option maxHeartbeats 4000000 in
theorem ct_X0_bring {E : zE} {Sh : zSh} {I : zI} {L : zL} {R : zR} {c j : Nat} {w more : Int32} (hc : zCh Sh R c) (hw : zix w 48 j) : zCf E m_X0_bring Sh [.ref c, .int w, .int more] I L R (none) (zi I (c + 2) j (I (c + 2) j + more)) (zj L c 6 (L c 6 + more.toInt64)) (R) := by
  obtain ⟨hc0, hc1, hc2, hc3, hc4, hr0, hr1, hr2, hr3, hcl⟩ := hc
  refine z_met (by decide) [some (.ref c), some (.int w), some (.int more)] rfl rfl (Nat.le_of_ble_eq_true rfl) (fun X => ?_)
  refine z_aload_n d_X0_bring_0 rfl ?_
  refine z_getR d_X0_bring_1 f_X0_15 (by first | rfl | assumption) (by omega) (by first | exact hR _ _ _ rfl | rfl | assumption) ?_
  refine z_iload_n d_X0_bring_4 rfl ?_
  refine z_dup2 d_X0_bring_5 rfl rfl ?_
  refine z_iaload d_X0_bring_6 (by first | rfl | assumption) (by omega) (by first | exact zix_nI (by assumption) (by first | decide | assumption) | exact zix_nI (by omega) (by first | decide | assumption) | assumption) ?_
  refine z_iload_n d_X0_bring_7 rfl ?_
  refine z_iadd d_X0_bring_8 ?_
  refine z_iastore d_X0_bring_9 (by first | rfl | assumption) (by omega) (by first | exact zix_nI (by assumption) (by first | decide | assumption) | exact zix_nI (by omega) (by first | decide | assumption) | assumption) ?_
  refine z_aload_n d_X0_bring_10 rfl ?_
  refine z_dup d_X0_bring_11 rfl ?_
  refine z_getL d_X0_bring_12 f_X0_37 (by first | rfl | assumption) (by omega) ?_
  refine z_iload_n d_X0_bring_15 rfl ?_
  refine z_i2l d_X0_bring_16 ?_
  refine z_ladd d_X0_bring_17 ?_
  refine z_putL d_X0_bring_18 f_X0_37 p_X0_6 (by first | rfl | assumption) (by omega) ?_
  exact z_return d_X0_bring_21 rfl ⟨rfl, rfl, rfl, rfl, rfl⟩
set_option maxRecDepth 100000 in
set_option maxHeartbeats 4000000 in
theorem ct_X0_pourInto {E : zE} {Sh : zSh} {I : zI} {L : zL} {R : zR} {c : Nat} {w off cap : Int32} (hc : zCh Sh R c) : zCf E m_X0_pourInto Sh [.ref c, .int w, .int off, .int cap] I L R (some (.int (pourT (I (c + 2)) w off cap))) (va_up I (c + 2) (pourW (I (c + 2)) w off cap)) (L) (R) := by
  obtain ⟨hc0, hc1, hc2, hc3, hc4, hr0, hr1, hr2, hr3, hcl⟩ := hc
  refine z_met (by decide) [some (.ref c), some (.int w), some (.int off), some (.int cap), none] rfl rfl (Nat.le_of_ble_eq_true rfl) (fun X => ?_)
  refine z_iload_n d_X0_pourInto_0 rfl ?_
  refine z_cSNi d_X0_pourInto_1 q_X0_pourInto_69 ⟨rfl, rfl⟩ (ct_X7_isWell) rfl rfl rfl ⟨Nat.zero_le _, Nat.zero_le _⟩ ?_
  refine z_if_eq d_X0_pourInto_4 (fun h_4 => ?_) (fun h_4 => ?_)
  · refine z_iconst d_X0_pourInto_17 ki_0 ?_
    have hw := isW_n h_4
    exact z_ireturn d_X0_pourInto_18 rfl ⟨by simp [pourT, hw], rfl, by simp [pourW, hw, up_self], rfl, rfl⟩
  · have hw := isW_ix (isW_b h_4)
    refine z_aload_n d_X0_pourInto_7 rfl ?_
    refine z_getR d_X0_pourInto_8 f_X0_15 (by first | rfl | assumption) (by omega) (by first | exact hR _ _ _ rfl | rfl | assumption) ?_
    refine z_iload_n d_X0_pourInto_11 rfl ?_
    refine z_iaload d_X0_pourInto_12 (by first | rfl | assumption) (by omega) (by first | exact zix_nI (by assumption) (by first | decide | assumption) | exact zix_nI (by omega) (by first | decide | assumption) | assumption) ?_
    refine z_iload_n d_X0_pourInto_13 rfl ?_
    refine z_icmp_lt d_X0_pourInto_14 (fun h_14 => ?_) (fun h_14 => ?_)
    · refine z_iload_n d_X0_pourInto_19 rfl ?_
      refine z_iload_n d_X0_pourInto_20 rfl ?_
      refine z_aload_n d_X0_pourInto_21 rfl ?_
      refine z_getR d_X0_pourInto_22 f_X0_15 (by first | rfl | assumption) (by omega) (by first | exact hR _ _ _ rfl | rfl | assumption) ?_
      refine z_iload_n d_X0_pourInto_25 rfl ?_
      refine z_iaload d_X0_pourInto_26 (by first | rfl | assumption) (by omega) (by first | exact zix_nI (by assumption) (by first | decide | assumption) | exact zix_nI (by omega) (by first | decide | assumption) | assumption) ?_
      refine z_isub d_X0_pourInto_27 ?_
      refine z_mmin d_X0_pourInto_28 q_X0_pourInto_73 (by decide) (Nat.le_of_ble_eq_true rfl) ⟨Nat.zero_le _, Nat.zero_le _⟩ ?_
      refine z_istore4 d_X0_pourInto_31 rfl ?_
      refine z_aload_n d_X0_pourInto_33 rfl ?_
      refine z_getR d_X0_pourInto_34 f_X0_15 (by first | rfl | assumption) (by omega) (by first | exact hR _ _ _ rfl | rfl | assumption) ?_
      refine z_iload_n d_X0_pourInto_37 rfl ?_
      refine z_dup2 d_X0_pourInto_38 rfl rfl ?_
      refine z_iaload d_X0_pourInto_39 (by first | rfl | assumption) (by omega) (by first | exact zix_nI (by assumption) (by first | decide | assumption) | exact zix_nI (by omega) (by first | decide | assumption) | assumption) ?_
      refine z_iload d_X0_pourInto_40 rfl ?_
      refine z_iadd d_X0_pourInto_42 ?_
      refine z_iastore d_X0_pourInto_43 (by first | rfl | assumption) (by omega) (by first | exact zix_nI (by assumption) (by first | decide | assumption) | exact zix_nI (by omega) (by first | decide | assumption) | assumption) ?_
      refine z_iload d_X0_pourInto_44 rfl ?_
      exact z_ireturn d_X0_pourInto_46 rfl ⟨by simp [pourT, h_14, isW_b h_4], rfl, by simp [zi, pourW, pourT, h_14, isW_b h_4], rfl, rfl⟩
    · refine z_iconst d_X0_pourInto_17 ki_0 ?_
      exact z_ireturn d_X0_pourInto_18 rfl ⟨by simp [pourT, h_14], rfl, by simp [pourW, h_14, up_self], rfl, rfl⟩
set_option maxRecDepth 100000 in
set_option maxHeartbeats 4000000 in
theorem ct_X0_spread {E : zE} {Sh : zSh} {I : zI} {L : zL} {R : zR} {c : Nat} {w over cap : Int32} (hc : zCh Sh R c) : zCf E m_X0_spread Sh [.ref c, .int w, .int over, .int cap] I L R (some (.int (sprL w cap 5 1 (over, I (c + 2))).1)) (va_up I (c + 2) (sprL w cap 5 1 (over, I (c + 2))).2) (L) (R) := by
  have hcc := hc; obtain ⟨hc0, hc1, hc2, hc3, hc4, hr0, hr1, hr2, hr3, hcl⟩ := hc
  refine z_met (by decide) [some (.ref c), some (.int w), some (.int over), some (.int cap), none, none] rfl rfl (Nat.le_of_ble_eq_true rfl) (fun X => ?_)
  refine z_iload_n d_X0_spread_0 rfl ?_
  refine z_istore4 d_X0_spread_1 rfl ?_
  refine z_iconst d_X0_spread_3 ki_1 ?_
  refine z_istore5 d_X0_spread_4 rfl ?_
  have loop : ∀ (Qs : State → Prop) (r : Int32 × (Nat → Int32)), (∀ far : Nat, zZ E m_X0_spread X Qs Sh 0 0 62 [some (.ref c), some (.int w), some (.int over), some (.int cap), some (.int r.1), some (.int (nI far))] [] (va_up I (c + 2) r.2) L R) → ∀ (n far : Nat) (s : Int32 × (Nat → Int32)), n + far = 6 → sprL w cap n far s = r → zZ E m_X0_spread X Qs Sh 0 0 6 [some (.ref c), some (.int w), some (.int over), some (.int cap), some (.int s.1), some (.int (nI far))] [] (va_up I (c + 2) s.2) L R := by
    intro Qs r hx n
    induction n with
    | zero =>
      intro far s hn hr
      refine z_iload d_X0_spread_6 rfl ?_
      refine z_bipush d_X0_spread_8 kb_6 ?_
      refine z_icmp_ge d_X0_spread_10 (fun h_10 => ?_) (fun h_10 => absurd (show nI 6 ≤ nI far from nI_le (by omega) (by omega)) h_10)
      subst hr
      exact hx far
    | succ n ih =>
      intro far s hn hr
      refine z_iload d_X0_spread_6 rfl ?_
      refine z_bipush d_X0_spread_8 kb_6 ?_
      refine z_icmp_ge d_X0_spread_10 (fun h_10 => absurd ((nI_leI (a := 6) (b := far) (by decide) (by omega)).mp h_10) (by omega)) (fun h_10 => ?_)
      refine z_iload d_X0_spread_13 rfl ?_
      refine z_if_le d_X0_spread_15 (fun h_15 => ?_) (fun h_15 => ?_)
      · rw [sprL, if_neg (Int32.not_lt.mpr h_15)] at hr
        subst hr
        exact hx far
      · refine z_iload d_X0_spread_18 rfl ?_
        refine z_aload_n d_X0_spread_20 rfl ?_
        refine z_iload_n d_X0_spread_21 rfl ?_
        refine z_iload d_X0_spread_22 rfl ?_
        refine z_bipush d_X0_spread_24 kb_8 ?_
        refine z_imul d_X0_spread_26 ?_
        refine z_isub d_X0_spread_27 ?_
        refine z_iload d_X0_spread_28 rfl ?_
        refine z_iload_n d_X0_spread_30 rfl ?_
        refine z_cVi d_X0_spread_31 q_X0_spread_66 (by first | rfl | assumption) (by omega) ⟨rfl, rfl⟩ (ct_X0_pourInto (by assumption)) rfl rfl rfl ⟨Nat.zero_le _, Nat.zero_le _⟩ ?_
        refine z_isub d_X0_spread_34 ?_
        refine z_istore4 d_X0_spread_35 rfl ?_
        refine z_iload d_X0_spread_37 rfl ?_
        refine z_aload_n d_X0_spread_39 rfl ?_
        refine z_iload_n d_X0_spread_40 rfl ?_
        refine z_iload d_X0_spread_41 rfl ?_
        refine z_bipush d_X0_spread_43 kb_8 ?_
        refine z_imul d_X0_spread_45 ?_
        refine z_iadd d_X0_spread_46 ?_
        refine z_iload d_X0_spread_47 rfl ?_
        refine z_iload_n d_X0_spread_49 rfl ?_
        refine z_cVi d_X0_spread_50 q_X0_spread_66 (by first | rfl | assumption) (by omega) ⟨rfl, rfl⟩ (ct_X0_pourInto (by assumption)) rfl rfl rfl ⟨Nat.zero_le _, Nat.zero_le _⟩ ?_
        refine z_isub d_X0_spread_53 ?_
        refine z_istore4 d_X0_spread_54 rfl ?_
        refine z_iinc5 d_X0_spread_56 ki_1 rfl ?_
        refine z_goto d_X0_spread_59 ?_
        rw [sprL, if_pos (Int32.not_le.mp h_15)] at hr
        rw [nI_1]
        refine z_mem (I' := va_up I (c + 2) (sprS w cap far s).2) ?_ rfl rfl ?_
        · simp only [up_eq, up_up, sprS]
        · have h := ih (far + 1) (sprS w cap far s) (by omega) hr
          simp only [sprS] at h
          simp only [up_eq]
          exact h
  refine z_mem (I' := va_up I (c + 2) (over, I (c + 2)).2) (by rw [up_self]) rfl rfl (loop _ _ (fun far => ?_) 5 1 (over, I (c + 2)) rfl rfl)
  refine z_iload d_X0_spread_62 rfl ?_
  exact z_ireturn d_X0_spread_64 rfl ⟨rfl, rfl, rfl, rfl, rfl⟩
