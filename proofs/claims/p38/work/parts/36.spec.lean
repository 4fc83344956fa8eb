/-! what a Charge is: light, wells, held, line; lost, read, came -/
abbrev zQ : Type := (Nat → Int32) × (Nat → Int32) × (Nat → Int32) × (Nat → Int32) × Int64 × Int64 × Int64
abbrev qLi (q : zQ) : Nat → Int32 := q.1
abbrev qWe (q : zQ) : Nat → Int32 := q.2.1
abbrev qHe (q : zQ) : Nat → Int32 := q.2.2.1
abbrev qLn (q : zQ) : Nat → Int32 := q.2.2.2.1
abbrev qLo (q : zQ) : Int64 := q.2.2.2.2.1
abbrev qRd (q : zQ) : Int64 := q.2.2.2.2.2.1
abbrev qCm (q : zQ) : Int64 := q.2.2.2.2.2.2
def qOf (I : zI) (L : zL) (c : Nat) : zQ := (I (c + 1), I (c + 2), I (c + 3), I (c + 4), L c 4, L c 5, L c 6)
def qI (I : zI) (c : Nat) (q : zQ) : zI := va_up (va_up (va_up (va_up I (c + 1) (qLi q)) (c + 2) (qWe q)) (c + 3) (qHe q)) (c + 4) (qLn q)
def qL (L : zL) (c : Nat) (q : zQ) : zL := zj (zj (zj L c 4 (qLo q)) c 5 (qRd q)) c 6 (qCm q)
theorem qI_ext {I J : zI} {c : Nat} {q : zQ} (h1 : J (c + 1) = qLi q) (h2 : J (c + 2) = qWe q) (h3 : J (c + 3) = qHe q) (h4 : J (c + 4) = qLn q) (h0 : ∀ k, k ≠ c + 1 → k ≠ c + 2 → k ≠ c + 3 → k ≠ c + 4 → J k = I k) : J = qI I c q := by
  funext k
  unfold qI
  by_cases e4 : k = c + 4
  · subst e4; rw [up_eq, h4]
  rw [up_ne e4]
  by_cases e3 : k = c + 3
  · subst e3; rw [up_eq, h3]
  rw [up_ne e3]
  by_cases e2 : k = c + 2
  · subst e2; rw [up_eq, h2]
  rw [up_ne e2]
  by_cases e1 : k = c + 1
  · subst e1; rw [up_eq, h1]
  rw [up_ne e1]
  exact h0 k e1 e2 e3 e4
theorem qL_ext {L J : zL} {c : Nat} {q : zQ} (h1 : J c 4 = qLo q) (h2 : J c 5 = qRd q) (h3 : J c 6 = qCm q) (h0 : ∀ k, k ≠ c → J k = L k) (h9 : ∀ j, j ≠ 4 → j ≠ 5 → j ≠ 6 → J c j = L c j) : J = qL L c q := by
  funext k j
  unfold qL
  by_cases e : k = c
  · subst e
    by_cases e6 : j = 6
    · subst e6; rw [zj_at, h3]
    rw [zj_at2 e6]
    by_cases e5 : j = 5
    · subst e5; rw [zj_at, h2]
    rw [zj_at2 e5]
    by_cases e4 : j = 4
    · subst e4; rw [zj_at, h1]
    rw [zj_at2 e4]
    exact h9 j e4 e5 e6
  · rw [zj_ne e, zj_ne e, zj_ne e, h0 k e]
theorem qI_1 (I : zI) (c : Nat) (q : zQ) : qI I c q (c + 1) = qLi q := by unfold qI; rw [up_ne (by omega), up_ne (by omega), up_ne (by omega), up_eq]
theorem qI_2 (I : zI) (c : Nat) (q : zQ) : qI I c q (c + 2) = qWe q := by unfold qI; rw [up_ne (by omega), up_ne (by omega), up_eq]
theorem qI_3 (I : zI) (c : Nat) (q : zQ) : qI I c q (c + 3) = qHe q := by unfold qI; rw [up_ne (by omega), up_eq]
theorem qI_4 (I : zI) (c : Nat) (q : zQ) : qI I c q (c + 4) = qLn q := by unfold qI; rw [up_eq]
theorem qI_ne {I : zI} {c k : Nat} {q : zQ} (h : k < c + 1 ∨ c + 4 < k) : qI I c q k = I k := by unfold qI; rw [up_ne (by omega), up_ne (by omega), up_ne (by omega), up_ne (by omega)]
theorem qL_4 (L : zL) (c : Nat) (q : zQ) : qL L c q c 4 = qLo q := by unfold qL; rw [zj_at2 (by decide), zj_at2 (by decide), zj_at]
theorem qL_5 (L : zL) (c : Nat) (q : zQ) : qL L c q c 5 = qRd q := by unfold qL; rw [zj_at2 (by decide), zj_at]
theorem qL_6 (L : zL) (c : Nat) (q : zQ) : qL L c q c 6 = qCm q := by unfold qL; rw [zj_at]
theorem qL_ne {L : zL} {c k : Nat} {q : zQ} (h : k ≠ c) : qL L c q k = L k := by unfold qL; rw [zj_ne h, zj_ne h, zj_ne h]
theorem qL_j {L : zL} {c j : Nat} {q : zQ} (h4 : j ≠ 4) (h5 : j ≠ 5) (h6 : j ≠ 6) : qL L c q c j = L c j := by unfold qL; rw [zj_at2 h6, zj_at2 h5, zj_at2 h4]
theorem qOf_q (I : zI) (L : zL) (c : Nat) (q : zQ) : qOf (qI I c q) (qL L c q) c = q := by
  obtain ⟨a, b, d, e, f, g, h⟩ := q
  unfold qOf
  rw [qI_1, qI_2, qI_3, qI_4, qL_4, qL_5, qL_6]
theorem qI_self (I : zI) (L : zL) (c : Nat) : qI I c (qOf I L c) = I := (qI_ext rfl rfl rfl rfl (fun _ _ _ _ _ => rfl)).symm
theorem qL_self (I : zI) (L : zL) (c : Nat) : qL L c (qOf I L c) = L := (qL_ext rfl rfl rfl (fun _ _ => rfl) (fun _ _ _ _ => rfl)).symm
theorem qI_qI (I : zI) (c : Nat) (q r : zQ) : qI (qI I c q) c r = qI I c r := qI_ext (qI_1 _ _ _) (qI_2 _ _ _) (qI_3 _ _ _) (qI_4 _ _ _) (fun k h1 h2 h3 h4 => by rw [qI_ne (by omega), qI_ne (by omega)])
theorem qL_qL (L : zL) (c : Nat) (q r : zQ) : qL (qL L c q) c r = qL L c r := qL_ext (qL_4 _ _ _) (qL_5 _ _ _) (qL_6 _ _ _) (fun k h => by rw [qL_ne h, qL_ne h]) (fun j h4 h5 h6 => by rw [qL_j h4 h5 h6, qL_j h4 h5 h6])
/-- handed down -/
def hdQ (cap drain smear : Int32) (tr : Nat → Int32) (sp : Bool) (q : zQ) : zQ :=
  let wl1 := dnW (qWe q)
  let lo1 := lsD (2 * cap) (qWe q) (qLn q) 8 (qLo q)
  let hd2 := if sp then trH wl1 (qHe q) tr 48 else qHe q
  let wl3 := if sp then addW (fun j => qLi q j * smear) (trW wl1 (qHe q) tr 48) 48 else wl1
  let cm3 := if sp then addC (fun j => qLi q j * smear) 48 (qCm q) else qCm q
  (qLi q, (ro cap drain (wl3, lo1)).1, hd2, lnD (2 * cap) (qWe q) (qLn q) 8, (ro cap drain (wl3, lo1)).2, qRd q, cm3)
set_option maxRecDepth 100000 in
set_option maxHeartbeats 4000000 in
theorem ct_X0_handDown {E : zE} {Sh : zSh} {I : zI} {L : zL} {R : zR} {c p : Nat} {sp : Bool} (hc : zCh Sh R c) (hp : zPl Sh R p) (hpc : p + 4 < c) : zCf E m_X0_handDown Sh [.ref c, .ref p, .int (b2i sp)] I L R (none) (qI I c (hdQ (I (p + 1) 0) (I (p + 1) 2) (I (p + 1) 3) (I (p + 3)) sp (qOf I L c))) (qL L c (hdQ (I (p + 1) 0) (I (p + 1) 2) (I (p + 1) 3) (I (p + 3)) sp (qOf I L c))) (R) := by
  have hcc := hc; obtain ⟨hc0, hc1, hc2, hc3, hc4, hr0, hr1, hr2, hr3, hcl⟩ := hc
  have hpp := hp; obtain ⟨hp0, hp1, hp2, hp3, hp4, hs0, hs1, hs2, hs3, hpl⟩ := hp
  have hb : ∀ b : Bool, b2i b = 0 → b = false := by decide
  have hb2 : ∀ b : Bool, ¬ b2i b = 0 → b = true := by decide
  refine z_met (by decide) [some (.ref c), some (.ref p), some (.int (b2i sp)), none] rfl rfl (Nat.le_of_ble_eq_true rfl) (fun X => ?_)
  refine z_aload_n d_X0_handDown_0 rfl ?_
  refine z_iconst d_X0_handDown_1 ki_2 ?_
  refine z_aload_n d_X0_handDown_2 rfl ?_
  refine z_getR d_X0_handDown_3 f_X0_51 (by first | rfl | assumption) (by omega) (by first | exact hR _ _ _ rfl | rfl | assumption) ?_
  refine z_iconst d_X0_handDown_6 ki_0 ?_
  refine z_iaload d_X0_handDown_7 (by first | rfl | assumption) (by omega) (zix_lit 0 (by decide)) ?_
  refine z_imul d_X0_handDown_8 ?_
  refine z_cVv d_X0_handDown_9 q_X0_handDown_79 (by first | rfl | assumption) (by omega) ⟨rfl, rfl⟩ (ct_X0_rowsDown (by assumption)) rfl rfl rfl ⟨Nat.zero_le _, Nat.zero_le _⟩ ?_
  refine z_iload_n d_X0_handDown_12 rfl ?_
  refine z_if_eq d_X0_handDown_13 (fun h_13 => ?_) (fun h_13 => ?_)
  · obtain rfl := hb sp h_13
    refine z_aload_n d_X0_handDown_53 rfl ?_
    refine z_aload_n d_X0_handDown_54 rfl ?_
    refine z_cVv d_X0_handDown_55 q_X0_handDown_58 (by first | rfl | assumption) (by omega) ⟨rfl, rfl⟩ (ct_X0_runOver (by assumption) (by assumption) (by omega)) rfl rfl rfl ⟨Nat.zero_le _, Nat.zero_le _⟩ ?_
    exact z_return d_X0_handDown_58 rfl ⟨rfl, rfl, by
      rw [mW_ne (by omega), mN_ne (by omega), mW_at, zj_at, mW_mW]
      refine qI_ext ?_ ?_ ?_ ?_ ?_
      · rw [mW_ne (by omega), mN_ne (by omega)]; simp [hdQ, qOf]
      · rw [mW_at]; simp [hdQ, qOf]
      · rw [mW_ne (by omega), mN_ne (by omega)]; simp [hdQ, qOf]
      · rw [mW_ne (by omega), mN_at]; simp [hdQ, qOf]
      · intro k h1 h2 h3 h4; rw [mW_ne h2, mN_ne h4], by
      rw [mW_ne (by omega), mN_ne (by omega), mW_at, zj_at, zj_zj]
      refine qL_ext ?_ ?_ ?_ ?_ ?_
      · rw [zj_at]; simp [hdQ, qOf]
      · rw [zj_at2 (by decide)]; simp [hdQ, qOf]
      · rw [zj_at2 (by decide)]; simp [hdQ, qOf]
      · intro k h; rw [zj_ne h]
      · intro j h4 h5 h6; rw [zj_at2 h4], rfl⟩
  · obtain rfl := hb2 sp h_13
    refine z_aload_n d_X0_handDown_16 rfl ?_
    refine z_aload_n d_X0_handDown_17 rfl ?_
    refine z_cVv d_X0_handDown_18 q_X0_handDown_83 (by first | rfl | assumption) (by omega) ⟨rfl, rfl⟩ (ct_X0_trapAll (by assumption) (by assumption) (by omega)) rfl rfl rfl ⟨Nat.zero_le _, Nat.zero_le _⟩ ?_
    refine z_iconst d_X0_handDown_21 ki_0 ?_
    refine z_istore3 d_X0_handDown_22 rfl ?_
    generalize hJ : mW (mH (mW (mN I c (lnD (2 * I (p + 1) 0) (I (c + 2)) (I (c + 4)) 8)) c (dnW (I (c + 2)))) c _) c _ = J
    have eJ2 : J (c + 2) = trW (dnW (I (c + 2))) (I (c + 3)) (I (p + 3)) 48 := by rw [← hJ, mW_at, mW_at, mW_ne (by omega), mN_ne (by omega), mW_ne (by omega), mN_ne (by omega)]
    have eJ3 : J (c + 3) = trH (dnW (I (c + 2))) (I (c + 3)) (I (p + 3)) 48 := by rw [← hJ, mW_ne (by omega), mH_at, mW_at, mW_ne (by omega), mN_ne (by omega), mW_ne (by omega), mN_ne (by omega)]
    have eJ4 : J (c + 4) = lnD (2 * I (p + 1) 0) (I (c + 2)) (I (c + 4)) 8 := by rw [← hJ, mW_ne (by omega), mH_ne (by omega), mW_ne (by omega), mN_at]
    have eJn : ∀ k, k ≠ c + 2 → k ≠ c + 3 → k ≠ c + 4 → J k = I k := fun k h2 h3 h4 => by rw [← hJ, mW_ne h2, mH_ne h3, mW_ne h2, mN_ne h4]
    generalize hK : zj L c 4 (lsD (2 * I (p + 1) 0) (I (c + 2)) (I (c + 4)) 8 (L c 4)) = K
    generalize hm : (fun j => I (c + 1) j * I (p + 1) 3) = m
    have loop : ∀ (Qs : State → Prop), (zZ E m_X0_handDown X Qs Sh 0 0 53 [some (.ref c), some (.ref p), some (.int (b2i true)), some (.int (nI 48))] [] (mW J c (addW m (J (c + 2)) 48)) (zj K c 6 (addC m 48 (K c 6))) R) → ∀ i, i ≤ 48 → zZ E m_X0_handDown X Qs Sh 0 0 23 [some (.ref c), some (.ref p), some (.int (b2i true)), some (.int (nI i))] [] (mW J c (addW m (J (c + 2)) i)) (zj K c 6 (addC m i (K c 6))) R := by
      intro Qs hx
      refine up_rec (fun i hi ih => ?_)
      refine z_iload_n d_X0_handDown_23 rfl ?_
      refine z_bipush d_X0_handDown_24 kb_48 ?_
      refine z_icmp_ge d_X0_handDown_26 (fun h_26 => ?_) (fun h_26 => ?_)
      · obtain rfl := eq_of_ge (n := 48) (by decide) hi h_26
        exact hx
      · have hlt := lt_of_nge (n := 48) (by decide) h_26 (by omega)
        refine z_aload_n d_X0_handDown_29 rfl ?_
        refine z_iload_n d_X0_handDown_30 rfl ?_
        refine z_aload_n d_X0_handDown_31 rfl ?_
        refine z_getR d_X0_handDown_32 f_X0_9 (by first | rfl | assumption) (by omega) (by first | exact hR _ _ _ rfl | rfl | assumption) ?_
        refine z_iload_n d_X0_handDown_35 rfl ?_
        refine z_iaload d_X0_handDown_36 (by first | rfl | assumption) (by omega) (by first | exact zix_nI (by assumption) (by first | decide | assumption) | exact zix_nI (by omega) (by first | decide | assumption) | assumption) ?_
        refine z_aload_n d_X0_handDown_37 rfl ?_
        refine z_getR d_X0_handDown_38 f_X0_51 (by first | rfl | assumption) (by omega) (by first | exact hR _ _ _ rfl | rfl | assumption) ?_
        refine z_iconst d_X0_handDown_41 ki_3 ?_
        refine z_iaload d_X0_handDown_42 (by first | rfl | assumption) (by omega) (zix_lit 3 (by decide)) ?_
        refine z_imul d_X0_handDown_43 ?_
        refine z_cVv d_X0_handDown_44 q_X0_handDown_54 (by first | rfl | assumption) (by omega) ⟨rfl, rfl⟩ (ct_X0_bring (by assumption) (by first | exact zix_nI (by assumption) (by decide) | assumption)) rfl rfl rfl ⟨Nat.zero_le _, Nat.zero_le _⟩ ?_
        refine z_iinc3 d_X0_handDown_47 ki_1 rfl ?_
        refine z_goto d_X0_handDown_50 ?_
        have h := ih hlt
        rw [nI_1]
        refine z_mem (I' := mW J c (addW m (J (c + 2)) (i + 1))) (L' := zj K c 6 (addC m (i + 1) (K c 6))) ?_ ?_ rfl h
        · rw [mW_zi, mW_at, mW_ne (by omega), mW_ne (by omega), eJn (c + 1) (by omega) (by omega) (by omega), eJn (p + 1) (by omega) (by omega) (by omega), ← addW_s, ← hm]
        · rw [zj_zj, zj_at, mW_ne (by omega), mW_ne (by omega), eJn (c + 1) (by omega) (by omega) (by omega), eJn (p + 1) (by omega) (by omega) (by omega), addC, ← hm]
    refine z_mem (I' := mW J c (addW m (J (c + 2)) 0)) (L' := zj K c 6 (addC m 0 (K c 6))) (by rw [addW_0, mW_self]) (by simp only [addC, zj_self]) rfl (loop _ ?_ 0 (Nat.zero_le 48))
    refine z_aload_n d_X0_handDown_53 rfl ?_
    refine z_aload_n d_X0_handDown_54 rfl ?_
    refine z_cVv d_X0_handDown_55 q_X0_handDown_58 (by assumption) (by omega) ⟨rfl, rfl⟩ (ct_X0_runOver hcc hpp hpc) rfl rfl rfl ⟨Nat.zero_le _, Nat.zero_le _⟩ ?_
    refine z_return d_X0_handDown_58 rfl ⟨rfl, rfl, ?_, ?_, rfl⟩
    · rw [mW_ne (by omega), eJn (p + 1) (by omega) (by omega) (by omega), mW_at, zj_at2 (by decide), mW_mW, eJ2, ← hK, zj_at, ← hm]
      refine qI_ext ?_ ?_ ?_ ?_ ?_
      · rw [mW_ne (by omega), eJn _ (by omega) (by omega) (by omega)]; simp [hdQ, qOf]
      · rw [mW_at]; simp [hdQ, qOf]
      · rw [mW_ne (by omega), eJ3]; simp [hdQ, qOf]
      · rw [mW_ne (by omega), eJ4]; simp [hdQ, qOf]
      · intro k h1 h2 h3 h4
        rw [mW_ne h2, eJn k h2 h3 h4]
    · rw [mW_ne (by omega), eJn (p + 1) (by omega) (by omega) (by omega), mW_at, zj_at2 (by decide), eJ2, ← hK, zj_at, zj_at2 (by decide), ← hm]
      refine qL_ext ?_ ?_ ?_ ?_ ?_
      · rw [zj_at]; simp [hdQ, qOf]
      · rw [zj_at2 (by decide), zj_at2 (by decide), zj_at2 (by decide)]; simp [hdQ, qOf]
      · rw [zj_at2 (by decide), zj_at]; simp [hdQ, qOf]
      · intro k h; rw [zj_ne h, zj_ne h, zj_ne h]
      · intro j h4 h5 h6; rw [zj_at2 h4, zj_at2 h6, zj_at2 h4]
