def tlL (cap : Int32) : Nat → zQ → zQ
  | 0, q => q
  | n + 1, q => tlQ cap n (qWe (tlL cap n q) (40 + n)) (tlL cap n q)
def shR (wl : Nat → Int32) (n : Nat) : Nat → Int32 := fun j => if n ≤ j ∧ j < 48 then (if j < 8 then 0 else wl (j - 8)) else wl j
theorem shR_48 (wl : Nat → Int32) : shR wl 48 = wl := by
  funext j
  unfold shR
  rw [if_neg (by omega)]
theorem shR_s (wl : Nat → Int32) {i : Nat} (h : i < 48) : va_up (shR wl (i + 1)) i (if i < 8 then 0 else shR wl (i + 1) (i - 8)) = shR wl i := by
  funext j
  by_cases e : j = i
  · subst e
    rw [up_eq]
    unfold shR
    rw [if_pos (show j ≤ j ∧ j < 48 by omega), if_neg (show ¬ (j + 1 ≤ j - 8 ∧ j - 8 < 48) by omega)]
  · rw [up_ne e]
    unfold shR
    by_cases h2 : i ≤ j ∧ j < 48
    · rw [if_pos h2, if_pos (by omega)]
    · rw [if_neg h2, if_neg (by omega)]
def tpL (tr : Nat → Int32) (tp : Bool) : Nat → zQ → zQ
  | 0, q => q
  | n + 1, q => if tp = true then tpQ tr n (tpL tr tp n q) else q
def r2Q (q : zQ) : zQ := wQ q (shR (qWe q) 0)
abbrev r4S (sm : Int32) (n : Nat) (q : zQ) : zQ := (qLi q, addW (fun j => qLi q j * sm) (qWe q) n, qHe q, qLn q, qLo q, qRd q, addC (fun j => qLi q j * sm) n (qCm q))
def r4Q (sm : Int32) (q : zQ) : zQ := r4S sm 48 q
def r5Q (cap dr : Int32) (q : zQ) : zQ := soQ q (rrL cap dr 48 (qWe q, qLo q))
def rhQ (cap dr : Int32) (tr : Nat → Int32) (tp : Bool) (sm : Int32) (q : zQ) : zQ := r5Q cap dr (r4Q sm (tpL tr tp 48 (r2Q (tlL cap 8 q))))
theorem rhQ_eq (cap dr : Int32) (tr : Nat → Int32) (tp : Bool) (sm : Int32) (q : zQ) : rhQ cap dr tr tp sm q = soQ (r4Q sm (tpL tr tp 48 (r2Q (tlL cap 8 q)))) (rrL cap dr 48 (qWe (r4Q sm (tpL tr tp 48 (r2Q (tlL cap 8 q)))), qLo (r4Q sm (tpL tr tp 48 (r2Q (tlL cap 8 q)))))) := by rw [rhQ, r5Q]
theorem r4_s (sm : Int32) (i : Nat) (q : zQ) : r4S sm (i + 1) q = cQ (wQ (r4S sm i q) (va_up (qWe (r4S sm i q)) i (qWe (r4S sm i q) i + qLi (r4S sm i q) i * sm))) (qCm (r4S sm i q) + (qLi (r4S sm i q) i * sm).toInt64) := by
  rw [r4S, ← addW_s, addC]
theorem tpL_f {tr : Nat → Int32} {q : zQ} : ∀ n, tpL tr false n q = q
  | 0 => rfl
  | n + 1 => rfl
theorem m1_lt {n : Nat} (h : n ≤ 48) (h2 : nI n + -1 < 0) : n = 0 := by
  rcases n with _ | i
  · rfl
  · rw [show nI (i + 1) + -1 = nI i from pk_m1 i] at h2
    have := (nI_ltI (a := i) (b := 0) (by omega) (by decide)).mp h2
    omega
theorem e47 : (47 : Int32) = nI 48 + -1 := by decide
theorem shQ_48 (q : zQ) : wQ q (shR (qWe q) 48) = q := by rw [shR_48]
theorem le_of8 {i : Nat} (h : i < 48) (h2 : 8 ≤ nI i) : 8 ≤ i := (nI_leI (a := 8) (b := i) (by decide) (by omega)).mp h2
theorem lt_of8 {i : Nat} (h : i < 48) (h2 : ¬ 8 ≤ nI i) : i < 8 := by
  rcases Nat.lt_or_ge i 8 with g | g
  · exact g
  · exact absurd ((nI_leI (a := 8) (b := i) (by decide) (by omega)).mpr g) h2
theorem ix_8 {b i : Nat} (h : 8 ≤ i) : nI b + nI i - (8 : Int32) = nI (b + (i - 8)) := by
  rw [ix2, show b + (i - 8) = b + i - 8 by omega]
  exact pk_sub (show 8 ≤ b + i by omega)
theorem nI_nlt0 {i : Nat} (h : i < 2 ^ 31) : ¬ nI i < 0 := by
  intro h2
  have := (nI_ltI (a := i) (b := 0) h (by decide)).mp h2
  omega
theorem sI_uw2 {I : zI} {k j : Nat} {q : zQ} {a : Nat → Int32} {x : Int32} (h : j < 48) : zi (sI I k (wQ q a)) 65 (160 * k + j) x = sI I k (wQ q (va_up a j x)) := sI_uw h
theorem sI_w2 {I : zI} {k j : Nat} {q : zQ} {a : Nat → Int32} (h : j < 48) : sI I k (wQ q a) 65 (160 * k + j) = a j := sI_w h
theorem sI_cq (I : zI) (k : Nat) (q : zQ) (x : Int64) : sI I k (cQ q x) = sI I k q := rfl
theorem sL_wq (L : zL) (k : Nat) (q : zQ) (a : Nat → Int32) : sL L k (wQ q a) = sL L k q := rfl
theorem sL_cw (L : zL) (k : Nat) (q : zQ) (a : Nat → Int32) (x : Int64) : sL L k (cQ (wQ q a) x) = sL L k (cQ q x) := rfl
theorem sL_r2 (L : zL) (k : Nat) (q : zQ) : sL L k (r2Q q) = sL L k q := by
  unfold r2Q
  exact sL_wq L k q _
theorem m1_n : nI 0 + -1 < 0 := by decide
set_option maxRecDepth 100000 in
set_option maxHeartbeats 4000000 in
theorem ct_X8_handsDown {E : zE} {I : zI} {L : zL} {R : zR} {k : Nat} {q : zQ} {tp : Bool} {sm : Int32} (hR : zLx R) (hk : k < 4) (hq : sR I L k q) : zCf E m_X8_handsDown zShF [.ref 64, .int (nI (160 * k)), .int (b2i tp), .int sm] I L R (none) (sI I k (rhQ (I 68 0) (I 68 2) (I 70) tp sm q)) (sL L k (rhQ (I 68 0) (I 68 2) (I 70) tp sm q)) (R) := by
  refine z_met (by decide) [some (.ref 64), some (.int (nI (160 * k))), some (.int (b2i tp)), some (.int sm), none] rfl rfl (Nat.le_of_ble_eq_true rfl) (fun X => ?_)
  refine z_mem (I' := sI I k (tlL (I 68 0) 0 q)) (L' := sL L k (tlL (I 68 0) 0 q)) (sI_self hq).symm (sL_self hq).symm rfl ?_
  refine z_iconst d_X8_handsDown_0 ki_0 ?_
  refine z_istore4 d_X8_handsDown_1 rfl ?_
  have loop : ∀ (Qs : State → Prop), (zZ E m_X8_handsDown X Qs zShF 0 0 38 [some (.ref 64), some (.int (nI (160 * k))), some (.int (b2i tp)), some (.int sm), some (.int (nI 8))] [] (sI I k (tlL (I 68 0) 8 q)) (sL L k (tlL (I 68 0) 8 q)) R) → ∀ i, i ≤ 8 → zZ E m_X8_handsDown X Qs zShF 0 0 3 [some (.ref 64), some (.int (nI (160 * k))), some (.int (b2i tp)), some (.int sm), some (.int (nI i))] [] (sI I k (tlL (I 68 0) i q)) (sL L k (tlL (I 68 0) i q)) R := by
    intro Qs hx
    refine up_rec (fun i hi ih => ?_)
    rw [tlL] at ih
    generalize hp : tlL (I 68 0) i q = p at ih ⊢
    refine z_iload d_X8_handsDown_3 rfl ?_
    refine z_bipush d_X8_handsDown_5 kb_8 ?_
    refine z_icmp_ge d_X8_handsDown_7 (fun h_7 => ?_) (fun h_7 => ?_)
    · obtain rfl := eq_of_ge (n := 8) (by decide) hi h_7
      rw [hp] at hx
      exact hx
    · have hlt := lt_of_nge (n := 8) (by decide) h_7 (by omega)
      refine z_aload_n d_X8_handsDown_10 rfl ?_
      refine z_iload_n d_X8_handsDown_11 rfl ?_
      refine z_iload d_X8_handsDown_12 rfl ?_
      refine z_aload_n d_X8_handsDown_14 rfl ?_
      refine z_getR d_X8_handsDown_15 f_X8_7 (by first | rfl | assumption) (by omega) (by first | exact hR _ _ _ rfl | rfl | assumption) ?_
      refine z_iload_n d_X8_handsDown_18 rfl ?_
      refine z_bipush d_X8_handsDown_19 kb_48 ?_
      refine z_iadd d_X8_handsDown_21 ?_
      refine z_bipush d_X8_handsDown_22 kb_8 ?_
      refine z_isub d_X8_handsDown_24 ?_
      refine z_iload d_X8_handsDown_25 rfl ?_
      refine z_iadd d_X8_handsDown_27 ?_
      refine z_iaload d_X8_handsDown_28 (by first | rfl | assumption) (by omega) (zix_e (show nI (160 * k) + (48 : Int32) - (8 : Int32) + nI i = nI (160 * k + (40 + i)) from by rw [show nI (160 * k) + (48 : Int32) = nI (160 * k + 48) from ix2 _ 48, show nI (160 * k + 48) - (8 : Int32) = nI (160 * k + 40) from by (rw [show 160 * k + 40 = 160 * k + 48 - 8 by omega]; exact pk_sub (show 8 ≤ 160 * k + 48 by omega)), ix2, show 160 * k + 40 + i = 160 * k + (40 + i) by omega]) (by omega) (by decide)) ?_
      rw [sI_w (by omega)]
      refine z_cVv d_X8_handsDown_29 q_X8_handsDown_216 (by first | rfl | assumption) (by omega) ⟨rfl, rfl⟩ (ct_X8_toLine (q := p) hR hk (sR_s _ _ _ _) hlt) rfl rfl rfl ⟨Nat.zero_le _, Nat.zero_le _⟩ ?_
      refine z_iinc4 d_X8_handsDown_32 ki_1 rfl ?_
      refine z_goto d_X8_handsDown_35 ?_
      rw [nI_1, sI_sI, sL_sL, sI_ne (p := 68) (by decide)]
      exact ih hlt
  refine loop _ ?_ 0 (Nat.zero_le 8)
  generalize hq1 : tlL (I 68 0) 8 q = q1
  refine z_bipush d_X8_handsDown_38 kb_47 ?_
  refine z_istore4 d_X8_handsDown_40 rfl ?_
  have loop : ∀ (Qs : State → Prop), (∀ o : Option Value, zZ E m_X8_handsDown X Qs zShF 0 0 85 [some (.ref 64), some (.int (nI (160 * k))), some (.int (b2i tp)), some (.int sm), o] [] (sI I k (r2Q q1)) (sL L k q1) R) → ∀ i, i < 48 → zZ E m_X8_handsDown X Qs zShF 0 0 42 [some (.ref 64), some (.int (nI (160 * k))), some (.int (b2i tp)), some (.int sm), some (.int (nI i))] [] (sI I k (wQ q1 (shR (qWe q1) (i + 1)))) (sL L k q1) R := by
    intro Qs hx
    refine dn_rec (fun i ih hn => ?_)
    refine z_iload d_X8_handsDown_42 rfl ?_
    refine z_if_lt d_X8_handsDown_44 (fun h_44 => ?_) (fun h_44 => ?_)
    · exact absurd h_44 (nI_nlt0 (by omega))
    · refine z_aload_n d_X8_handsDown_47 rfl ?_
      refine z_getR d_X8_handsDown_48 f_X8_7 (by first | rfl | assumption) (by omega) (by first | exact hR _ _ _ rfl | rfl | assumption) ?_
      refine z_iload_n d_X8_handsDown_51 rfl ?_
      refine z_iload d_X8_handsDown_52 rfl ?_
      refine z_iadd d_X8_handsDown_54 ?_
      refine z_iload d_X8_handsDown_55 rfl ?_
      refine z_bipush d_X8_handsDown_57 kb_8 ?_
      refine z_icmp_ge d_X8_handsDown_59 (fun h_59 => ?_) (fun h_59 => ?_)
      · refine z_aload_n d_X8_handsDown_66 rfl ?_
        refine z_getR d_X8_handsDown_67 f_X8_7 (by first | rfl | assumption) (by omega) (by first | exact hR _ _ _ rfl | rfl | assumption) ?_
        refine z_iload_n d_X8_handsDown_70 rfl ?_
        refine z_iload d_X8_handsDown_71 rfl ?_
        refine z_iadd d_X8_handsDown_73 ?_
        refine z_bipush d_X8_handsDown_74 kb_8 ?_
        refine z_isub d_X8_handsDown_76 ?_
        refine z_iaload d_X8_handsDown_77 (by first | rfl | assumption) (by omega) (zix_e (ix_8 (le_of8 hn h_59)) (by omega) (by decide)) ?_
        try rw [sI_w2 (by omega)]
        refine z_iastore d_X8_handsDown_78 (by first | rfl | assumption) (by omega) (zix_e (ix2 _ _) (by omega) (by decide)) ?_
        refine z_iinc4 d_X8_handsDown_79 ki_m1 rfl ?_
        refine z_goto d_X8_handsDown_82 ?_
        rw [sI_uw2 hn]
        have e : sI I k (wQ q1 (va_up (shR (qWe q1) (i + 1)) i (if i < 8 then 0 else shR (qWe q1) (i + 1) (i - 8)))) = sI I k (wQ q1 (shR (qWe q1) i)) := by rw [shR_s _ hn]
        first
          | rw [if_neg (Nat.not_lt.mpr (le_of8 hn h_59))] at e
          | rw [if_pos (lt_of8 hn h_59)] at e
        refine z_mem e rfl rfl ?_
        rcases i with _ | i
        · refine z_iload d_X8_handsDown_42 rfl ?_
          refine z_if_lt d_X8_handsDown_44 (fun _ => ?_) (fun h => absurd m1_n h)
          exact hx _
        · rw [show nI (i + 1) + -1 = nI i from pk_m1 i]
          exact ih (Nat.succ_pos i) (by omega)
      · refine z_iconst d_X8_handsDown_62 ki_0 ?_
        refine z_goto d_X8_handsDown_63 ?_
        try rw [sI_w2 (by omega)]
        refine z_iastore d_X8_handsDown_78 (by first | rfl | assumption) (by omega) (zix_e (ix2 _ _) (by omega) (by decide)) ?_
        refine z_iinc4 d_X8_handsDown_79 ki_m1 rfl ?_
        refine z_goto d_X8_handsDown_82 ?_
        rw [sI_uw2 hn]
        have e : sI I k (wQ q1 (va_up (shR (qWe q1) (i + 1)) i (if i < 8 then 0 else shR (qWe q1) (i + 1) (i - 8)))) = sI I k (wQ q1 (shR (qWe q1) i)) := by rw [shR_s _ hn]
        first
          | rw [if_neg (Nat.not_lt.mpr (le_of8 hn h_59))] at e
          | rw [if_pos (lt_of8 hn h_59)] at e
        refine z_mem e rfl rfl ?_
        rcases i with _ | i
        · refine z_iload d_X8_handsDown_42 rfl ?_
          refine z_if_lt d_X8_handsDown_44 (fun _ => ?_) (fun h => absurd m1_n h)
          exact hx _
        · rw [show nI (i + 1) + -1 = nI i from pk_m1 i]
          exact ih (Nat.succ_pos i) (by omega)
  refine z_mem (I' := sI I k (wQ q1 (shR (qWe q1) (47 + 1)))) (by rw [show 47 + 1 = 48 from rfl, shQ_48]) rfl rfl (loop _ (fun o => ?_) 47 (by decide))
  refine z_iconst d_X8_handsDown_85 ki_0 ?_
  refine z_istore4 d_X8_handsDown_86 rfl ?_
  have loop : ∀ (Qs : State → Prop), (zZ E m_X8_handsDown X Qs zShF 0 0 112 [some (.ref 64), some (.int (nI (160 * k))), some (.int (b2i tp)), some (.int sm), some (.int (nI 48))] [] (sI I k (tpL (I 70) tp 48 (r2Q q1))) (sL L k (tpL (I 70) tp 48 (r2Q q1))) R) → ∀ i, i ≤ 48 → zZ E m_X8_handsDown X Qs zShF 0 0 88 [some (.ref 64), some (.int (nI (160 * k))), some (.int (b2i tp)), some (.int sm), some (.int (nI i))] [] (sI I k (tpL (I 70) tp i (r2Q q1))) (sL L k (tpL (I 70) tp i (r2Q q1))) R := by
    intro Qs hx
    refine up_rec (fun i hi ih => ?_)
    refine z_iload d_X8_handsDown_88 rfl ?_
    refine z_bipush d_X8_handsDown_90 kb_48 ?_
    refine z_icmp_ge d_X8_handsDown_92 (fun h_92 => ?_) (fun h_92 => ?_)
    · obtain rfl := eq_of_ge (n := 48) (by decide) hi h_92
      exact hx
    · have hlt := lt_of_nge (n := 48) (by decide) h_92 (by omega)
      refine z_iload_n d_X8_handsDown_95 rfl ?_
      refine z_if_eq d_X8_handsDown_96 (fun h_96 => ?_) (fun h_96 => ?_)
      · try rw [sI_sI, sL_sL, sI_ne (p := 70) (by decide)]
        refine z_iinc4 d_X8_handsDown_106 ki_1 rfl ?_
        refine z_goto d_X8_handsDown_109 ?_
        rw [nI_1]
        have h := ih hlt
        first
          | (have e := b0 h_96; subst e; rw [tpL_f] at h ⊢; exact h)
          | (have e := b1 h_96; rw [tpL, if_pos e] at h; exact h)
      · refine z_aload_n d_X8_handsDown_99 rfl ?_
        refine z_iload_n d_X8_handsDown_100 rfl ?_
        refine z_iload d_X8_handsDown_101 rfl ?_
        refine z_cVv d_X8_handsDown_103 q_X8_handsDown_219 (by first | rfl | assumption) (by omega) ⟨rfl, rfl⟩ (ct_X8_traps (q := tpL (I 70) tp i (r2Q q1)) hR hk (sR_s _ _ _ _) hlt) rfl rfl rfl ⟨Nat.zero_le _, Nat.zero_le _⟩ ?_
        try rw [sI_sI, sL_sL, sI_ne (p := 70) (by decide)]
        refine z_iinc4 d_X8_handsDown_106 ki_1 rfl ?_
        refine z_goto d_X8_handsDown_109 ?_
        rw [nI_1]
        have h := ih hlt
        first
          | (have e := b0 h_96; subst e; rw [tpL_f] at h ⊢; exact h)
          | (have e := b1 h_96; rw [tpL, if_pos e] at h; exact h)
  refine z_mem (L' := sL L k (tpL (I 70) tp 0 (r2Q q1))) rfl (by rw [tpL, sL_r2]) rfl (loop _ ?_ 0 (Nat.zero_le 48))
  generalize hq3 : tpL (I 70) tp 48 (r2Q q1) = q3
  refine z_iconst d_X8_handsDown_112 ki_0 ?_
  refine z_istore4 d_X8_handsDown_113 rfl ?_
  have loop : ∀ (Qs : State → Prop), (zZ E m_X8_handsDown X Qs zShF 0 0 149 [some (.ref 64), some (.int (nI (160 * k))), some (.int (b2i tp)), some (.int sm), some (.int (nI 48))] [] (sI I k (r4Q sm q3)) (sL L k (r4Q sm q3)) R) → ∀ i, i ≤ 48 → zZ E m_X8_handsDown X Qs zShF 0 0 115 [some (.ref 64), some (.int (nI (160 * k))), some (.int (b2i tp)), some (.int sm), some (.int (nI i))] [] (sI I k (r4S sm i q3)) (sL L k (r4S sm i q3)) R := by
    intro Qs hx
    refine up_rec (fun i hi ih => ?_)
    refine z_iload d_X8_handsDown_115 rfl ?_
    refine z_bipush d_X8_handsDown_117 kb_48 ?_
    refine z_icmp_ge d_X8_handsDown_119 (fun h_119 => ?_) (fun h_119 => ?_)
    · obtain rfl := eq_of_ge (n := 48) (by decide) hi h_119
      exact hx
    · have hlt := lt_of_nge (n := 48) (by decide) h_119 (by omega)
      refine z_aload_n d_X8_handsDown_122 rfl ?_
      refine z_iload_n d_X8_handsDown_123 rfl ?_
      refine z_iload d_X8_handsDown_124 rfl ?_
      refine z_aload_n d_X8_handsDown_126 rfl ?_
      refine z_getR d_X8_handsDown_127 f_X8_7 (by first | rfl | assumption) (by omega) (by first | exact hR _ _ _ rfl | rfl | assumption) ?_
      refine z_iload_n d_X8_handsDown_130 rfl ?_
      refine z_bipush d_X8_handsDown_131 kb_104 ?_
      refine z_iadd d_X8_handsDown_133 ?_
      refine z_iload d_X8_handsDown_134 rfl ?_
      refine z_iadd d_X8_handsDown_136 ?_
      refine z_iaload d_X8_handsDown_137 (by first | rfl | assumption) (by omega) (zix_e (ix3 _ 104 _) (by omega) (by decide)) ?_
      rw [sI_l (by omega)]
      refine z_iload_n d_X8_handsDown_138 rfl ?_
      refine z_imul d_X8_handsDown_139 ?_
      refine z_cVv d_X8_handsDown_140 q_X8_handsDown_207 (by first | rfl | assumption) (by omega) ⟨rfl, rfl⟩ (ct_X8_comes hR hk hlt) rfl rfl rfl ⟨Nat.zero_le _, Nat.zero_le _⟩ ?_
      refine z_iinc4 d_X8_handsDown_143 ki_1 rfl ?_
      refine z_goto d_X8_handsDown_146 ?_
      rw [nI_1]
      refine z_mem ?_ ?_ rfl (ih hlt)
      · rw [sI_w hlt, sI_uw hlt, r4_s]
        exact (sI_cq I k _ _).symm
      · rw [sL_u2, sL_2, r4_s]
        exact (sL_cw L k (r4S sm i q3) _ _).symm
  refine z_mem (I' := sI I k (r4S sm 0 q3)) (L' := sL L k (r4S sm 0 q3)) (by rw [r4S, addW_0]; rfl) rfl rfl (loop _ ?_ 0 (Nat.zero_le 48))
  refine z_aload_n d_X8_handsDown_149 rfl ?_
  refine z_iload_n d_X8_handsDown_150 rfl ?_
  refine z_cVv d_X8_handsDown_151 q_X8_handsDown_210 (by first | rfl | assumption) (by omega) ⟨rfl, rfl⟩ (ct_X8_runsOver (q := r4Q sm q3) hR hk (sR_s _ _ _ _)) rfl rfl rfl ⟨Nat.zero_le _, Nat.zero_le _⟩ ?_
  exact z_return d_X8_handsDown_154 rfl ⟨rfl, rfl, by rw [sI_sI, sI_ne (p := 68) (by decide), ← hq3, ← hq1, rhQ_eq], by rw [sL_sL, sI_ne (p := 68) (by decide), ← hq3, ← hq1, rhQ_eq], rfl⟩
