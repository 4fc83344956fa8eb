def rsS (w cap : Int32) (far : Nat) (s : Int32 × (Nat → Int32)) : Int32 × (Nat → Int32) :=
  (s.1 - flT s.2 (w - 8 * nI far) s.1 cap - flT (flW s.2 (w - 8 * nI far) s.1 cap) (w + 8 * nI far) (s.1 - flT s.2 (w - 8 * nI far) s.1 cap) cap,
   flW (flW s.2 (w - 8 * nI far) s.1 cap) (w + 8 * nI far) (s.1 - flT s.2 (w - 8 * nI far) s.1 cap) cap)
def rsU (w cap dr : Int32) : Nat → Int32 × (Nat → Int32) → Int32 × (Nat → Int32)
  | 0, s => s
  | n + 1, s => if dr = 0 then rsS w cap (n + 1) (rsU w cap dr n s) else s
def rrS (cap drain : Int32) (w : Nat) (s : (Nat → Int32) × Int64) : (Nat → Int32) × Int64 :=
  if 0 < s.1 w - cap then ((rsU (nI w) cap drain 5 (s.1 w - cap, va_up s.1 w cap)).2, s.2 + (rsU (nI w) cap drain 5 (s.1 w - cap, va_up s.1 w cap)).1.toInt64) else s
def rrL (cap drain : Int32) : Nat → (Nat → Int32) × Int64 → (Nat → Int32) × Int64
  | 0, s => s
  | n + 1, s => rrS cap drain n (rrL cap drain n s)
abbrev soQ (q : zQ) (s : (Nat → Int32) × Int64) : zQ := (qLi q, s.1, qHe q, qLn q, s.2, qRd q, qCm q)
theorem soQ_self (q : zQ) : soQ q (qWe q, qLo q) = q := rfl
theorem rsU_n {w cap dr : Int32} (h : ¬ dr = 0) (s : Int32 × (Nat → Int32)) : ∀ n, rsU w cap dr n s = s
  | 0 => rfl
  | n + 1 => by rw [rsU, if_neg h]
theorem rsU_s {w cap dr : Int32} (h : dr = 0) (s : Int32 × (Nat → Int32)) (n : Nat) : rsU w cap dr (n + 1) s = rsS w cap (n + 1) (rsU w cap dr n s) := by rw [rsU, if_pos h]
theorem ix2 (b j : Nat) : nI b + nI j = nI (b + j) := nI_add b j
theorem ix3 (b m j : Nat) : nI b + nI m + nI j = nI (b + m + j) := by rw [nI_add, nI_add]
set_option maxRecDepth 100000 in
set_option maxHeartbeats 4000000 in
theorem ct_X8_runsOver {E : zE} {I : zI} {L : zL} {R : zR} {k : Nat} {q : zQ} (hR : zLx R) (hk : k < 4) (hq : sR I L k q) : zCf E m_X8_runsOver zShF [.ref 64, .int (nI (160 * k))] I L R (none) (sI I k (soQ q (rrL (I 68 0) (I 68 2) 48 (qWe q, qLo q)))) (sL L k (soQ q (rrL (I 68 0) (I 68 2) 48 (qWe q, qLo q)))) (R) := by
  refine z_met (by decide) [some (.ref 64), some (.int (nI (160 * k))), none, none, none] rfl rfl (Nat.le_of_ble_eq_true rfl) (fun X => ?_)
  refine z_iconst d_X8_runsOver_0 ki_0 ?_
  refine z_istore2 d_X8_runsOver_1 rfl ?_
  have loop : ∀ (Qs : State → Prop), (∀ o1 o2 : Option Value, zZ E m_X8_runsOver X Qs zShF 0 0 108 [some (.ref 64), some (.int (nI (160 * k))), some (.int (nI 48)), o1, o2] [] (sI I k (soQ q (rrL (I 68 0) (I 68 2) 48 (qWe q, qLo q)))) (sL L k (soQ q (rrL (I 68 0) (I 68 2) 48 (qWe q, qLo q)))) R) → ∀ i, i ≤ 48 → ∀ o1 o2 : Option Value, zZ E m_X8_runsOver X Qs zShF 0 0 2 [some (.ref 64), some (.int (nI (160 * k))), some (.int (nI i)), o1, o2] [] (sI I k (soQ q (rrL (I 68 0) (I 68 2) i (qWe q, qLo q)))) (sL L k (soQ q (rrL (I 68 0) (I 68 2) i (qWe q, qLo q)))) R := by
    intro Qs hx
    refine up_rec (fun i hi ih o1 o2 => ?_)
    generalize hs : rrL (I 68 0) (I 68 2) i (qWe q, qLo q) = s at ih ⊢
    refine z_iload_n d_X8_runsOver_2 rfl ?_
    refine z_bipush d_X8_runsOver_3 kb_48 ?_
    refine z_icmp_ge d_X8_runsOver_5 (fun h_5 => ?_) (fun h_5 => ?_)
    · obtain rfl := eq_of_ge (n := 48) (by decide) hi h_5
      have h := hx o1 o2
      rw [hs] at h
      exact h
    · have hlt := lt_of_nge (n := 48) (by decide) h_5 (by omega)
      refine z_aload_n d_X8_runsOver_8 rfl ?_
      refine z_getR d_X8_runsOver_9 f_X8_7 (by first | rfl | assumption) (by omega) (by first | exact hR _ _ _ rfl | rfl | assumption) ?_
      refine z_iload_n d_X8_runsOver_12 rfl ?_
      refine z_iload_n d_X8_runsOver_13 rfl ?_
      refine z_iadd d_X8_runsOver_14 ?_
      refine z_iaload d_X8_runsOver_15 (by first | rfl | assumption) (by omega) (zix_e (ix2 _ _) (by omega) (by decide)) ?_
      refine z_aload_n d_X8_runsOver_16 rfl ?_
      refine z_getR d_X8_runsOver_17 f_X8_21 (by first | rfl | assumption) (by omega) (by first | exact hR _ _ _ rfl | rfl | assumption) ?_
      refine z_iconst d_X8_runsOver_20 ki_0 ?_
      refine z_iaload d_X8_runsOver_21 (by first | rfl | assumption) (by omega) (zix_lit 0 (by decide)) ?_
      rw [sI_w hlt, sI_ne (p := 68) (by decide)]
      refine z_isub d_X8_runsOver_22 ?_
      refine z_istore3 d_X8_runsOver_23 rfl ?_
      refine z_iload_n d_X8_runsOver_24 rfl ?_
      refine z_if_le d_X8_runsOver_25 (fun h_25 => ?_) (fun h_25 => ?_)
      · refine z_iinc2 d_X8_runsOver_102 ki_1 rfl ?_
        refine z_goto d_X8_runsOver_105 ?_
        rw [nI_1]
        have h := ih hlt (some (.int (s.1 i - I 68 0))) o2
        rw [rrL, hs, rrS, if_neg (Int32.not_lt.mpr h_25)] at h
        exact h
      · refine z_aload_n d_X8_runsOver_28 rfl ?_
        refine z_getR d_X8_runsOver_29 f_X8_7 (by first | rfl | assumption) (by omega) (by first | exact hR _ _ _ rfl | rfl | assumption) ?_
        refine z_iload_n d_X8_runsOver_32 rfl ?_
        refine z_iload_n d_X8_runsOver_33 rfl ?_
        refine z_iadd d_X8_runsOver_34 ?_
        refine z_aload_n d_X8_runsOver_35 rfl ?_
        refine z_getR d_X8_runsOver_36 f_X8_21 (by first | rfl | assumption) (by omega) (by first | exact hR _ _ _ rfl | rfl | assumption) ?_
        refine z_iconst d_X8_runsOver_39 ki_0 ?_
        refine z_iaload d_X8_runsOver_40 (by first | rfl | assumption) (by omega) (zix_lit 0 (by decide)) ?_
        refine z_iastore d_X8_runsOver_41 (by first | rfl | assumption) (by omega) (zix_e (ix2 _ _) (by omega) (by decide)) ?_
        rw [sI_ne (p := 68) (by decide), sI_uw hlt]
        refine z_iconst d_X8_runsOver_42 ki_1 ?_
        refine z_istore4 d_X8_runsOver_43 rfl ?_
        have inner : ∀ (Qs : State → Prop), (∀ (o2 : Option Value), zZ E m_X8_runsOver X Qs zShF 0 0 95 [some (.ref 64), some (.int (nI (160 * k))), some (.int (nI i)), some (.int (rsU (nI i) (I 68 0) (I 68 2) 5 (s.1 i - I 68 0, va_up s.1 i (I 68 0))).1), o2] [] (sI I k (soQ q ((rsU (nI i) (I 68 0) (I 68 2) 5 (s.1 i - I 68 0, va_up s.1 i (I 68 0))).2, s.2))) (sL L k (soQ q s)) R) → ∀ m, m ≤ 5 → zZ E m_X8_runsOver X Qs zShF 0 0 45 [some (.ref 64), some (.int (nI (160 * k))), some (.int (nI i)), some (.int (rsU (nI i) (I 68 0) (I 68 2) m (s.1 i - I 68 0, va_up s.1 i (I 68 0))).1), some (.int (nI (m + 1)))] [] (sI I k (soQ q ((rsU (nI i) (I 68 0) (I 68 2) m (s.1 i - I 68 0, va_up s.1 i (I 68 0))).2, s.2))) (sL L k (soQ q s)) R := by
          intro Qs hx
          refine up_rec (fun m hm ihm => ?_)
          generalize hp : rsU (nI i) (I 68 0) (I 68 2) m (s.1 i - I 68 0, va_up s.1 i (I 68 0)) = p at ihm ⊢
          refine z_iload d_X8_runsOver_45 rfl ?_
          refine z_bipush d_X8_runsOver_47 kb_6 ?_
          refine z_icmp_ge d_X8_runsOver_49 (fun h_49 => ?_) (fun h_49 => ?_)
          · have e : rsU (nI i) (I 68 0) (I 68 2) 5 (s.1 i - I 68 0, va_up s.1 i (I 68 0)) = p := by
              first
                | (rw [← hp, rsU_n h_58, rsU_n h_58])
                | (have e5 : m + 1 = 6 := eq_of_ge (n := 6) (by decide) (by omega) h_49
                   obtain rfl : m = 5 := by omega
                   exact hp)
            have h := hx (some (.int (nI (m + 1))))
            rw [e] at h
            exact h
          · refine z_aload_n d_X8_runsOver_52 rfl ?_
            refine z_getR d_X8_runsOver_53 f_X8_21 (by first | rfl | assumption) (by omega) (by first | exact hR _ _ _ rfl | rfl | assumption) ?_
            refine z_iconst d_X8_runsOver_56 ki_2 ?_
            refine z_iaload d_X8_runsOver_57 (by first | rfl | assumption) (by omega) (zix_lit 2 (by decide)) ?_
            rw [sI_ne (p := 68) (by decide)]
            refine z_if_ne d_X8_runsOver_58 (fun h_58 => ?_) (fun h_58 => ?_)
            · have e : rsU (nI i) (I 68 0) (I 68 2) 5 (s.1 i - I 68 0, va_up s.1 i (I 68 0)) = p := by
                first
                  | (rw [← hp, rsU_n h_58, rsU_n h_58])
                  | (have e5 : m + 1 = 6 := eq_of_ge (n := 6) (by decide) (by omega) h_49
                     obtain rfl : m = 5 := by omega
                     exact hp)
              have h := hx (some (.int (nI (m + 1))))
              rw [e] at h
              exact h
            · refine z_aload_n d_X8_runsOver_61 rfl ?_
              refine z_iload_n d_X8_runsOver_62 rfl ?_
              refine z_iload_n d_X8_runsOver_63 rfl ?_
              refine z_bipush d_X8_runsOver_64 kb_8 ?_
              refine z_iload d_X8_runsOver_66 rfl ?_
              refine z_imul d_X8_runsOver_68 ?_
              refine z_isub d_X8_runsOver_69 ?_
              refine z_iload_n d_X8_runsOver_70 rfl ?_
              refine z_cVi d_X8_runsOver_71 q_X8_runsOver_194 (by first | rfl | assumption) (by omega) ⟨rfl, rfl⟩ (ct_X8_flows (q := soQ q (p.2, s.2)) hR hk (sR_s I L k (soQ q (p.2, s.2)))) rfl rfl rfl ⟨Nat.zero_le _, Nat.zero_le _⟩ ?_
              rw [sI_ne (p := 68) (by decide), sI_sI]
              refine z_istore3 d_X8_runsOver_74 rfl ?_
              refine z_aload_n d_X8_runsOver_75 rfl ?_
              refine z_iload_n d_X8_runsOver_76 rfl ?_
              refine z_iload_n d_X8_runsOver_77 rfl ?_
              refine z_bipush d_X8_runsOver_78 kb_8 ?_
              refine z_iload d_X8_runsOver_80 rfl ?_
              refine z_imul d_X8_runsOver_82 ?_
              refine z_iadd d_X8_runsOver_83 ?_
              refine z_iload_n d_X8_runsOver_84 rfl ?_
              refine z_cVi d_X8_runsOver_85 q_X8_runsOver_194 (by first | rfl | assumption) (by omega) ⟨rfl, rfl⟩ (ct_X8_flows (q := soQ q (flW p.2 (nI i - 8 * nI (m + 1)) p.1 (I 68 0), s.2)) hR hk (sR_s I L k (soQ q (flW p.2 (nI i - 8 * nI (m + 1)) p.1 (I 68 0), s.2)))) rfl rfl rfl ⟨Nat.zero_le _, Nat.zero_le _⟩ ?_
              rw [sI_ne (p := 68) (by decide), sI_sI]
              refine z_istore3 d_X8_runsOver_88 rfl ?_
              refine z_iinc4 d_X8_runsOver_89 ki_1 rfl ?_
              refine z_goto d_X8_runsOver_92 ?_
              have hm5 := lt_of_nge (n := 6) (by decide) h_49 (by omega)
              rw [nI_1]
              have h := ihm (by omega)
              rw [rsU_s h_58, hp] at h
              exact h
        refine inner _ (fun o2 => ?_) 0 (Nat.zero_le 5)
        refine z_aload_n d_X8_runsOver_95 rfl ?_
        refine z_iload_n d_X8_runsOver_96 rfl ?_
        refine z_iconst d_X8_runsOver_97 ki_0 ?_
        refine z_iload_n d_X8_runsOver_98 rfl ?_
        refine z_cVv d_X8_runsOver_99 q_X8_runsOver_198 (by first | rfl | assumption) (by omega) ⟨rfl, rfl⟩ (ct_X8_adds (w := 0) hR hk (by decide)) rfl rfl rfl ⟨Nat.zero_le _, Nat.zero_le _⟩ ?_
        refine z_iinc2 d_X8_runsOver_102 ki_1 rfl ?_
        refine z_goto d_X8_runsOver_105 ?_
        rw [nI_1]
        have h := ih hlt (some (.int (rsU (nI i) (I 68 0) (I 68 2) 5 (s.1 i - I 68 0, va_up s.1 i (I 68 0))).1)) o2
        rw [rrL, hs, rrS, if_pos (Int32.not_le.mp h_25)] at h
        refine z_mem (L' := sL L k (soQ q ((rsU (nI i) (I 68 0) (I 68 2) 5 (s.1 i - I 68 0, va_up s.1 i (I 68 0))).2, s.2 + (rsU (nI i) (I 68 0) (I 68 2) 5 (s.1 i - I 68 0, va_up s.1 i (I 68 0))).1.toInt64))) rfl ?_ rfl h
        rw [show 3 * k + 0 = 3 * k from rfl, sL_u0, sL_0]
        rfl
  refine z_mem (I' := sI I k (soQ q (rrL (I 68 0) (I 68 2) 0 (qWe q, qLo q)))) (L' := sL L k (soQ q (rrL (I 68 0) (I 68 2) 0 (qWe q, qLo q)))) (sI_self hq).symm (sL_self hq).symm rfl (loop _ (fun o1 o2 => ?_) 0 (Nat.zero_le 48) none none)
  exact z_return d_X8_runsOver_108 rfl ⟨rfl, rfl, rfl, rfl, rfl⟩
