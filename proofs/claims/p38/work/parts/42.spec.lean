/-! the picture: its shadow is a Charge at q + 1, its values a row at q + 6 -/
def zPi (Sh : zSh) (R : zR) (q : Nat) : Prop := Sh[q]? = some (0, 2) ∧ zCh Sh R (q + 1) ∧ Sh[q + 6]? = some (2, 48) ∧ R q 0 = some (q + 1) ∧ R q 1 = some (q + 6) ∧ q < 800000
def rdQ (q : zQ) : zQ := (qLi q, qWe q, qHe q, rdL (qLn q), qLo q, qRd q + (qLn q 7).toInt64, qCm q)
/-- n READ: the sum, the Charge behind -/
def rdN2 : Nat → Int32 × zQ → Int32 × zQ
  | 0, s => s
  | n + 1, s => ((rdN2 n s).1 + qLn (rdN2 n s).2 7, rdQ (rdN2 n s).2)
/-- n VALUES of a row from place b on, of h READ each -/
def rowV (g by' : Int32) (h b : Nat) : Nat → (Nat → Int32) × zQ → (Nat → Int32) × zQ
  | 0, s => s
  | n + 1, s => (va_up (rowV g by' h b n s).1 (b + n) (valV g by' (rdN2 h (0, (rowV g by' h b n s).2)).1), (rdN2 h (0, (rowV g by' h b n s).2)).2)
def hdN (f : zQ → zQ) : Nat → zQ → zQ
  | 0, q => q
  | n + 1, q => f (hdN f n q)
/-- n rows -/
def picV (g by' : Int32) (f : zQ → zQ) (v h w : Nat) : Nat → (Nat → Int32) × zQ → (Nat → Int32) × zQ
  | 0, s => s
  | n + 1, s => rowV g by' h (n * 8) w ((picV g by' f v h w n s).1, hdN f v (picV g by' f v h w n s).2)
theorem rdQ_c {I : zI} {L : zL} {c : Nat} {q : zQ} : mN (qI I c q) c (rdL (qI I c q (c + 4))) = qI I c (rdQ q) := by
  refine qI_ext ?_ ?_ ?_ ?_ ?_
  · rw [mN_ne (by omega), qI_1]; rfl
  · rw [mN_ne (by omega), qI_2]; rfl
  · rw [mN_ne (by omega), qI_3]; rfl
  · rw [mN_at, qI_4]; rfl
  · intro k h1 h2 h3 h4; rw [mN_ne h4, qI_ne (by omega)]
theorem rdQ_l {I : zI} {L : zL} {c : Nat} {q : zQ} : zj (qL L c q) c 5 (qL L c q c 5 + (qI I c q (c + 4) 7).toInt64) = qL L c (rdQ q) := by
  refine qL_ext ?_ ?_ ?_ ?_ ?_
  · rw [zj_at2 (by decide), qL_4]; rfl
  · rw [zj_at, qL_5, qI_4]; rfl
  · rw [zj_at2 (by decide), qL_6]; rfl
  · intro k h; rw [zj_ne h, qL_ne h]
  · intro j h4 h5 h6; rw [zj_at2 h5, qL_j h4 h5 h6]
/-- memory of a picture: its values, its shadow -/
def pI (I : zI) (q : Nat) (s : (Nat → Int32) × zQ) : zI := va_up (qI I (q + 1) s.2) (q + 6) s.1
theorem pI_v (I : zI) (q : Nat) (s : (Nat → Int32) × zQ) : pI I q s (q + 6) = s.1 := up_eq _ _ _
theorem pI_ne {I : zI} {q k : Nat} {s : (Nat → Int32) × zQ} (h : k < q + 2 ∨ q + 6 < k) : pI I q s k = I k := by unfold pI; rw [up_ne (by omega), qI_ne (by omega)]
theorem pI_q (I : zI) (q : Nat) (s : (Nat → Int32) × zQ) : ∀ k, k ≠ q + 6 → pI I q s k = qI I (q + 1) s.2 k := fun k h => up_ne h
theorem pI_qI (I : zI) (q : Nat) (s : (Nat → Int32) × zQ) (r : zQ) : qI (pI I q s) (q + 1) r = pI I q (s.1, r) := by
  symm
  refine qI_ext ?_ ?_ ?_ ?_ ?_
  · rw [pI_q _ _ _ _ (by omega), qI_1]
  · rw [pI_q _ _ _ _ (by omega), qI_2]
  · rw [pI_q _ _ _ _ (by omega), qI_3]
  · rw [pI_q _ _ _ _ (by omega), qI_4]
  · intro k h1 h2 h3 h4
    by_cases e : k = q + 6
    · subst e; rw [pI_v, pI_v]
    · rw [pI_q _ _ _ _ e, pI_q _ _ _ _ e, qI_ne (by omega), qI_ne (by omega)]
theorem pI_of (I : zI) (L : zL) (q : Nat) (s : (Nat → Int32) × zQ) : qOf (pI I q s) (qL L (q + 1) s.2) (q + 1) = s.2 := by
  obtain ⟨v, a, b, d, e, f, g, h⟩ := s
  unfold qOf
  rw [pI_q _ _ _ _ (by omega), pI_q _ _ _ _ (by omega), pI_q _ _ _ _ (by omega), pI_q _ _ _ _ (by omega), qI_1, qI_2, qI_3, qI_4, qL_4, qL_5, qL_6]
theorem pI_zi (I : zI) (q : Nat) (s : (Nat → Int32) × zQ) (j : Nat) (x : Int32) : zi (pI I q s) (q + 6) j x = pI I q (va_up s.1 j x, s.2) := zi_up _ _ _ _ _
theorem rd_p (I : zI) (q : Nat) (s : (Nat → Int32) × zQ) : mN (pI I q s) (q + 1) (rdL (pI I q s (q + 1 + 4))) = pI I q (s.1, rdQ s.2) := by
  rw [show pI I q (s.1, rdQ s.2) = qI (pI I q s) (q + 1) (rdQ s.2) from (pI_qI I q s (rdQ s.2)).symm]
  refine qI_ext ?_ ?_ ?_ ?_ ?_
  · rw [mN_ne (by omega), pI_q _ _ _ _ (by omega), qI_1]; rfl
  · rw [mN_ne (by omega), pI_q _ _ _ _ (by omega), qI_2]; rfl
  · rw [mN_ne (by omega), pI_q _ _ _ _ (by omega), qI_3]; rfl
  · rw [mN_at, pI_q _ _ _ _ (by omega), qI_4]; rfl
  · intro k h1 h2 h3 h4; rw [mN_ne h4]
theorem rd_l (I : zI) (L : zL) (q : Nat) (s : (Nat → Int32) × zQ) : zj (qL L (q + 1) s.2) (q + 1) 5 (qL L (q + 1) s.2 (q + 1) 5 + (pI I q s (q + 1 + 4) 7).toInt64) = qL L (q + 1) (rdQ s.2) := by
  rw [pI_q _ _ _ _ (by omega)]
  exact rdQ_l
theorem pI_pI (I : zI) (q : Nat) (s r : (Nat → Int32) × zQ) : pI (pI I q s) q r = pI I q r := by
  show va_up (qI (pI I q s) (q + 1) r.2) (q + 6) r.1 = _
  rw [pI_qI]
  show va_up (va_up _ _ _) _ _ = _
  rw [up_up]
  rfl
set_option maxRecDepth 100000 in
set_option maxHeartbeats 4000000 in
theorem ct_X2_readRowOf {E : zE} {Sh : zSh} {I : zI} {L : zL} {R : zR} {q p row h w : Nat} {s : (Nat → Int32) × zQ} (hq : zPi Sh R q) (hp : zPl Sh R p) (hpq : p + 4 < q) (hw : I q 3 = nI w) (hw8 : w ≤ 8) (hr : row < 6) (hh : h ≤ 3) : zCf E m_X2_readRowOf Sh [.ref q, .ref p, .int (nI row), .int (nI h)] (pI I q s) (qL L (q + 1) s.2) R (none) (pI I q (rowV (I (p + 1) 4) (I (p + 1) 5) h (row * 8) w s)) (qL L (q + 1) (rowV (I (p + 1) 4) (I (p + 1) 5) h (row * 8) w s).2) (R) := by
  obtain ⟨hq0, hqc, hq6, hr0, hr1, hql⟩ := hq
  have hqc0 := hqc.1
  have hpp := hp; obtain ⟨hp0, hp1, hp2, hp3, hp4, hs0, hs1, hs2, hs3, hpl⟩ := hp
  refine z_met (by decide) [some (.ref q), some (.ref p), some (.int (nI row)), some (.int (nI h)), none, none, none] rfl rfl (Nat.le_of_ble_eq_true rfl) (fun X => ?_)
  refine z_iconst d_X2_readRowOf_0 ki_0 ?_
  refine z_istore4 d_X2_readRowOf_1 rfl ?_
  have loop : ∀ (Qs : State → Prop), (∀ o1 o2 : Option Value, zZ E m_X2_readRowOf X Qs Sh 0 0 66 [some (.ref q), some (.ref p), some (.int (nI row)), some (.int (nI h)), some (.int (nI w)), o1, o2] [] (pI I q (rowV (I (p + 1) 4) (I (p + 1) 5) h (row * 8) w s)) (qL L (q + 1) (rowV (I (p + 1) 4) (I (p + 1) 5) h (row * 8) w s).2) R) → ∀ i, i ≤ w → ∀ o1 o2 : Option Value, zc1 o1 = true → zZ E m_X2_readRowOf X Qs Sh 0 0 3 [some (.ref q), some (.ref p), some (.int (nI row)), some (.int (nI h)), some (.int (nI i)), o1, o2] [] (pI I q (rowV (I (p + 1) 4) (I (p + 1) 5) h (row * 8) i s)) (qL L (q + 1) (rowV (I (p + 1) 4) (I (p + 1) 5) h (row * 8) i s).2) R := by
    intro Qs hx
    refine up_rec (fun i hi ih o1 o2 ho1 => ?_)
    generalize hs : rowV (I (p + 1) 4) (I (p + 1) 5) h (row * 8) i s = r at ih ⊢
    refine z_iload d_X2_readRowOf_3 rfl ?_
    refine z_aload_n d_X2_readRowOf_5 rfl ?_
    refine z_getI d_X2_readRowOf_6 f_X2_48 (by first | rfl | assumption) (by omega) ?_
    rw [pI_ne (by omega), hw]
    refine z_icmp_ge d_X2_readRowOf_9 (fun h_9 => ?_) (fun h_9 => ?_)
    · obtain rfl := eq_of_ge (by omega) hi h_9
      rw [← hs]
      exact hx o1 o2
    · have hlt := lt_of_nge (by omega) h_9 (by omega)
      refine z_iconst d_X2_readRowOf_12 ki_0 ?_
      refine z_istore5 d_X2_readRowOf_13 rfl ?_
      refine z_iconst d_X2_readRowOf_15 ki_0 ?_
      refine z_istore6 d_X2_readRowOf_16 rfl ?_
      have loop2 : ∀ (Qs : State → Prop), (zZ E m_X2_readRowOf X Qs Sh 0 0 42 [some (.ref q), some (.ref p), some (.int (nI row)), some (.int (nI h)), some (.int (nI i)), some (.int (rdN2 h (0, r.2)).1), some (.int (nI h))] [] (pI I q (r.1, (rdN2 h (0, r.2)).2)) (qL L (q + 1) (rdN2 h (0, r.2)).2) R) → ∀ n, n ≤ h → zZ E m_X2_readRowOf X Qs Sh 0 0 18 [some (.ref q), some (.ref p), some (.int (nI row)), some (.int (nI h)), some (.int (nI i)), some (.int (rdN2 n (0, r.2)).1), some (.int (nI n))] [] (pI I q (r.1, (rdN2 n (0, r.2)).2)) (qL L (q + 1) (rdN2 n (0, r.2)).2) R := by
        intro Qs hx2
        refine up_rec (fun n hn ih2 => ?_)
        refine z_iload d_X2_readRowOf_18 rfl ?_
        refine z_iload_n d_X2_readRowOf_20 rfl ?_
        refine z_icmp_ge d_X2_readRowOf_21 (fun h_21 => ?_) (fun h_21 => ?_)
        · obtain rfl := eq_of_ge (by omega) hn h_21
          exact hx2
        · have hlt2 := lt_of_nge (by omega) h_21 (by omega)
          refine z_iload d_X2_readRowOf_24 rfl ?_
          refine z_aload_n d_X2_readRowOf_26 rfl ?_
          refine z_getR d_X2_readRowOf_27 f_X2_12 (by first | rfl | assumption) (by omega) (by first | exact hR _ _ _ rfl | rfl | assumption) ?_
          refine z_cVi d_X2_readRowOf_30 q_X2_readRowOf_59 (by first | rfl | assumption) (by omega) ⟨rfl, rfl⟩ (ct_X0_readOne (by assumption)) rfl rfl rfl ⟨Nat.zero_le _, Nat.zero_le _⟩ ?_
          refine z_iadd d_X2_readRowOf_33 ?_
          refine z_istore5 d_X2_readRowOf_34 rfl ?_
          refine z_iinc6 d_X2_readRowOf_36 ki_1 rfl ?_
          refine z_goto d_X2_readRowOf_39 ?_
          have h2 := ih2 hlt2
          rw [nI_1]
          refine z_ls (ls' := [some (.ref q), some (.ref p), some (.int (nI row)), some (.int (nI h)), some (.int (nI i)), some (.int (rdN2 (n + 1) (0, r.2)).1), some (.int (nI (n + 1)))]) ?_ (z_mem (I' := pI I q (r.1, (rdN2 (n + 1) (0, r.2)).2)) (L' := qL L (q + 1) (rdN2 (n + 1) (0, r.2)).2) ?_ ?_ rfl h2)
          · rw [pI_q _ _ _ _ (by omega), qI_4]; rfl
          · exact rd_p I q (r.1, (rdN2 n (0, r.2)).2)
          · exact rd_l I L q (r.1, (rdN2 n (0, r.2)).2)
      refine loop2 _ ?_ 0 (Nat.zero_le h)
      refine z_aload_n d_X2_readRowOf_42 rfl ?_
      refine z_getR d_X2_readRowOf_43 f_X2_18 (by first | rfl | assumption) (by omega) (by first | exact hR _ _ _ rfl | rfl | assumption) ?_
      refine z_iload_n d_X2_readRowOf_46 rfl ?_
      refine z_bipush d_X2_readRowOf_47 kb_8 ?_
      refine z_imul d_X2_readRowOf_49 ?_
      refine z_iload d_X2_readRowOf_50 rfl ?_
      refine z_iadd d_X2_readRowOf_52 ?_
      refine z_iload d_X2_readRowOf_53 rfl ?_
      refine z_aload_n d_X2_readRowOf_55 rfl ?_
      refine z_cSNi d_X2_readRowOf_56 q_X2_readRowOf_63 ⟨rfl, rfl⟩ (ct_X7_valueOf (by assumption)) rfl rfl rfl ⟨Nat.zero_le _, Nat.zero_le _⟩ ?_
      refine z_iastore d_X2_readRowOf_59 (by first | rfl | assumption) (by omega) (zix_e (show nI row * (8 : Int32) + nI i = nI (row * 8 + i) from by rw [show nI row * (8 : Int32) = nI (row * 8) from pk_mul row 8]; exact nI_add _ _) (by omega) (by decide)) ?_
      refine z_iinc4 d_X2_readRowOf_60 ki_1 rfl ?_
      refine z_goto d_X2_readRowOf_63 ?_
      have h1 := ih hlt (some (.int (rdN2 h (0, r.2)).1)) (some (.int (nI h))) rfl
      rw [rowV, hs] at h1
      rw [nI_1, pI_zi, pI_ne (by omega)]
      exact h1
  exact loop _ (fun o1 o2 => z_return d_X2_readRowOf_66 rfl ⟨rfl, rfl, rfl, rfl, rfl⟩) 0 (Nat.zero_le w) none none rfl
theorem bin_6 {v : Nat} (h1 : 1 ≤ v) (h3 : v ≤ 3) : mn 6 (binV 6 (nI v)) = nI (6 / v) := by
  rcases (show v = 1 ∨ v = 2 ∨ v = 3 by omega) with rfl | rfl | rfl <;> decide
theorem bin_8 {v : Nat} (h1 : 1 ≤ v) (h3 : v ≤ 3) : mn 8 (binV 8 (nI v)) = nI ((8 + v - 1) / v) := by
  rcases (show v = 1 ∨ v = 2 ∨ v = 3 by omega) with rfl | rfl | rfl <;> decide
theorem bin_6b {v : Nat} (h1 : 1 ≤ v) (h3 : v ≤ 3) : 6 / v ≤ 6 := by
  rcases (show v = 1 ∨ v = 2 ∨ v = 3 by omega) with rfl | rfl | rfl <;> decide
theorem bin_8b {v : Nat} (h1 : 1 ≤ v) (h3 : v ≤ 3) : (8 + v - 1) / v ≤ 8 := by
  rcases (show v = 1 ∨ v = 2 ∨ v = 3 by omega) with rfl | rfl | rfl <;> decide
/-- the shadow as the picture begins: a copy of the Charge c, its line empty -/
def shQ (a b : zQ) : zQ := (zcp (qLi a) (qLi b) 48, zcp (qWe a) (qWe b) 48, zcp (qHe a) (qHe b) 48, zfill (zcp (qLn a) (qLn b) 8) 8 0, qLo a, qRd a, qCm a)
/-- the picture's numbers of rows and columns -/
def pN (I : zI) (q v h : Nat) : zI := zi (zi I q 2 (nI (6 / v))) q 3 (nI ((8 + h - 1) / h))
/-- what make leaves: values and shadow -/
def mkS (I : zI) (L : zL) (q c p v h : Nat) (sp : Bool) : (Nat → Int32) × zQ := picV (I (p + 1) 4) (I (p + 1) 5) (hdQ (I (p + 1) 0) (I (p + 1) 2) (I (p + 1) 3) (I (p + 3)) sp) v h ((8 + h - 1) / h) (6 / v) (I (q + 6), shQ (qOf I L c) (qOf I L (q + 1)))
theorem sh_I (I : zI) (L : zL) (q c : Nat) : va_up (va_up (va_up (va_up (va_up I (q + 1 + 1) (zcp (I (c + 1)) (I (q + 1 + 1)) 48)) (q + 1 + 2) (zcp (I (c + 2)) (I (q + 1 + 2)) 48)) (q + 1 + 3) (zcp (I (c + 3)) (I (q + 1 + 3)) 48)) (q + 1 + 4) (zcp (I (c + 4)) (I (q + 1 + 4)) 8)) (q + 1 + 4) (zfill (zcp (I (c + 4)) (I (q + 1 + 4)) 8) 8 0) = pI I q (I (q + 6), shQ (qOf I L c) (qOf I L (q + 1))) := by
  have e : pI I q (I (q + 6), shQ (qOf I L c) (qOf I L (q + 1))) = qI I (q + 1) (shQ (qOf I L c) (qOf I L (q + 1))) := by
    show va_up _ _ _ = _
    rw [← show qI I (q + 1) (shQ (qOf I L c) (qOf I L (q + 1))) (q + 6) = I (q + 6) from qI_ne (by omega), up_self]
  rw [e]
  refine qI_ext ?_ ?_ ?_ ?_ ?_
  · rw [up_ne (by omega), up_ne (by omega), up_ne (by omega), up_ne (by omega), up_eq]; rfl
  · rw [up_ne (by omega), up_ne (by omega), up_ne (by omega), up_eq]; rfl
  · rw [up_ne (by omega), up_ne (by omega), up_eq]; rfl
  · rw [up_eq]; rfl
  · intro k h1 h2 h3 h4; rw [up_ne h4, up_ne h4, up_ne h3, up_ne h2, up_ne h1]
theorem sh_L (I : zI) (L : zL) (q c : Nat) : zj (zj (zj L (q + 1) 4 (L c 4)) (q + 1) 5 (L c 5)) (q + 1) 6 (L c 6) = qL L (q + 1) (shQ (qOf I L c) (qOf I L (q + 1))) := rfl
theorem pN_ne {I : zI} {q v h k : Nat} (e : k ≠ q) : pN I q v h k = I k := by unfold pN; rw [zi_ne e, zi_ne e]
theorem pN_2 (I : zI) (q v h : Nat) : pN I q v h q 2 = nI (6 / v) := by unfold pN; rw [zi_at2 (by decide), zi_at]
theorem pN_3 (I : zI) (q v h : Nat) : pN I q v h q 3 = nI ((8 + h - 1) / h) := by unfold pN; rw [zi_at]
theorem pI_pN (I : zI) (q v h : Nat) (s : (Nat → Int32) × zQ) : zi (zi (pI I q s) q 2 (nI (6 / v))) q 3 (nI ((8 + h - 1) / h)) = pI (pN I q v h) q s := by
  unfold pI pN qI
  simp only [zi_up2 (show q ≠ q + 6 by omega), zi_up2 (show q ≠ q + 1 + 1 by omega), zi_up2 (show q ≠ q + 1 + 2 by omega), zi_up2 (show q ≠ q + 1 + 3 by omega), zi_up2 (show q ≠ q + 1 + 4 by omega)]
set_option maxRecDepth 100000 in
set_option maxHeartbeats 4000000 in
theorem ct_X2_make {E : zE} {Sh : zSh} {I : zI} {L : zL} {R : zR} {q c p v h : Nat} {sp : Bool} (hq : zPi Sh R q) (hc : zCh Sh R c) (hp : zPl Sh R p) (hpc : p + 4 < c) (hpq : p + 4 < q) (hcq : c + 4 < q + 1 ∨ q + 6 < c) (hv1 : 1 ≤ v) (hv3 : v ≤ 3) (hh1 : 1 ≤ h) (hh3 : h ≤ 3) : zCf E m_X2_make Sh [.ref q, .ref c, .ref p, .int (nI v), .int (nI h), .int (b2i sp)] I L R (none) (pI (pN I q v h) q (mkS I L q c p v h sp)) (qL L (q + 1) (mkS I L q c p v h sp).2) (R) := by
  have hqq := hq; obtain ⟨hq0, hqc, hq6, hr0, hr1, hql⟩ := hq
  have hqc0 := hqc.1
  have hpp := hp
  have hr3 : R (q + 1) 3 = some (q + 1 + 4) := hqc.2.2.2.2.2.2.2.2.1
  have hs4 : Sh[q + 1 + 4]? = some (2, 8) := hqc.2.2.2.2.1
  refine z_met (by decide) [some (.ref q), some (.ref c), some (.ref p), some (.int (nI v)), some (.int (nI h)), some (.int (b2i sp)), none, none] rfl rfl (Nat.le_of_ble_eq_true rfl) (fun X => ?_)
  refine z_aload_n d_X2_make_0 rfl ?_
  refine z_getR d_X2_make_1 f_X2_12 (by first | rfl | assumption) (by omega) (by first | exact hR _ _ _ rfl | rfl | assumption) ?_
  refine z_aload_n d_X2_make_4 rfl ?_
  refine z_cVv d_X2_make_5 q_X2_make_22 (by first | rfl | assumption) (by omega) ⟨rfl, rfl⟩ (ct_X0_takeFrom (by assumption) (by assumption) (by omega)) rfl rfl rfl ⟨Nat.zero_le _, Nat.zero_le _⟩ ?_
  refine z_aload_n d_X2_make_8 rfl ?_
  refine z_getR d_X2_make_9 f_X2_12 (by first | rfl | assumption) (by omega) (by first | exact hR _ _ _ rfl | rfl | assumption) ?_
  refine z_getR d_X2_make_12 f_X2_26 (by first | rfl | assumption) (by omega) (by first | exact hR _ _ _ rfl | rfl | assumption) ?_
  refine z_iconst d_X2_make_15 ki_0 ?_
  refine z_cSv d_X2_make_16 q_X2_make_29 ⟨rfl, rfl⟩ (ct_fillI (by first | assumption | rfl) (by omega) (by decide)) rfl rfl rfl ⟨Nat.zero_le _, Nat.zero_le _⟩ ?_
  rw [up_eq]
  refine z_mem (I' := pI I q (I (q + 6), shQ (qOf I L c) (qOf I L (q + 1)))) (L' := qL L (q + 1) (shQ (qOf I L c) (qOf I L (q + 1)))) (sh_I I L q c) (sh_L I L q c) rfl ?_
  refine z_aload_n d_X2_make_19 rfl ?_
  refine z_bipush d_X2_make_20 kb_6 ?_
  refine z_bipush d_X2_make_22 kb_6 ?_
  refine z_iload_n d_X2_make_24 rfl ?_
  refine z_cSNi d_X2_make_25 q_X2_make_35 ⟨rfl, rfl⟩ (ct_X7_binsOf) rfl rfl rfl ⟨Nat.zero_le _, Nat.zero_le _⟩ ?_
  refine z_mmin d_X2_make_28 q_X2_make_39 (by decide) (Nat.le_of_ble_eq_true rfl) ⟨Nat.zero_le _, Nat.zero_le _⟩ ?_
  rw [show (if binV 6 (nI v) < 6 then binV 6 (nI v) else 6) = nI (6 / v) from bin_6 hv1 hv3]
  refine z_putI d_X2_make_31 f_X2_44 p_X2_2 (by first | rfl | assumption) (by omega) ?_
  refine z_aload_n d_X2_make_34 rfl ?_
  refine z_bipush d_X2_make_35 kb_8 ?_
  refine z_bipush d_X2_make_37 kb_8 ?_
  refine z_iload d_X2_make_39 rfl ?_
  refine z_cSNi d_X2_make_41 q_X2_make_35 ⟨rfl, rfl⟩ (ct_X7_binsOf) rfl rfl rfl ⟨Nat.zero_le _, Nat.zero_le _⟩ ?_
  refine z_mmin d_X2_make_44 q_X2_make_39 (by decide) (Nat.le_of_ble_eq_true rfl) ⟨Nat.zero_le _, Nat.zero_le _⟩ ?_
  rw [show (if binV 8 (nI h) < 8 then binV 8 (nI h) else 8) = nI ((8 + h - 1) / h) from bin_8 hh1 hh3]
  refine z_putI d_X2_make_47 f_X2_48 p_X2_3 (by first | rfl | assumption) (by omega) ?_
  rw [pI_pN]
  refine z_iconst d_X2_make_50 ki_0 ?_
  refine z_istore6 d_X2_make_51 rfl ?_
  generalize hf : hdQ (I (p + 1) 0) (I (p + 1) 2) (I (p + 1) 3) (I (p + 3)) sp = f
  generalize hs0 : ((I (q + 6), shQ (qOf I L c) (qOf I L (q + 1))) : (Nat → Int32) × zQ) = s0
  have e1 : pN I q v h (p + 1) = I (p + 1) := pN_ne (by omega)
  have e3 : pN I q v h (p + 3) = I (p + 3) := pN_ne (by omega)
  have h6 := bin_6b hv1 hv3
  have h8 := bin_8b hh1 hh3
  have hmk : mkS I L q c p v h sp = picV (I (p + 1) 4) (I (p + 1) 5) f v h ((8 + h - 1) / h) (6 / v) s0 := by rw [← hf, ← hs0]; rfl
  rw [hmk, show qL L (q + 1) (shQ (qOf I L c) (qOf I L (q + 1))) = qL L (q + 1) s0.2 from by rw [← hs0]]
  have loop : ∀ (Qs : State → Prop), (∀ o1 : Option Value, zZ E m_X2_make X Qs Sh 0 0 102 [some (.ref q), some (.ref c), some (.ref p), some (.int (nI v)), some (.int (nI h)), some (.int (b2i sp)), some (.int (nI (6 / v))), o1] [] (pI (pN I q v h) q (picV (I (p + 1) 4) (I (p + 1) 5) f v h ((8 + h - 1) / h) (6 / v) s0)) (qL L (q + 1) (picV (I (p + 1) 4) (I (p + 1) 5) f v h ((8 + h - 1) / h) (6 / v) s0).2) R) → ∀ i, i ≤ 6 / v → ∀ o1 : Option Value, zZ E m_X2_make X Qs Sh 0 0 53 [some (.ref q), some (.ref c), some (.ref p), some (.int (nI v)), some (.int (nI h)), some (.int (b2i sp)), some (.int (nI i)), o1] [] (pI (pN I q v h) q (picV (I (p + 1) 4) (I (p + 1) 5) f v h ((8 + h - 1) / h) i s0)) (qL L (q + 1) (picV (I (p + 1) 4) (I (p + 1) 5) f v h ((8 + h - 1) / h) i s0).2) R := by
    intro Qs hx
    refine up_rec (fun i hi ih o1 => ?_)
    generalize hs : picV (I (p + 1) 4) (I (p + 1) 5) f v h ((8 + h - 1) / h) i s0 = r at ih ⊢
    refine z_iload d_X2_make_53 rfl ?_
    refine z_aload_n d_X2_make_55 rfl ?_
    refine z_getI d_X2_make_56 f_X2_44 (by first | rfl | assumption) (by omega) ?_
    rw [pI_ne (by omega), pN_2]
    refine z_icmp_ge d_X2_make_59 (fun h_59 => ?_) (fun h_59 => ?_)
    · obtain rfl := eq_of_ge (by omega) hi h_59
      rw [← hs]
      exact hx o1
    · have hlt := lt_of_nge (by omega) h_59 (by omega)
      refine z_iconst d_X2_make_62 ki_0 ?_
      refine z_istore7 d_X2_make_63 rfl ?_
      have loop2 : ∀ (Qs : State → Prop), (zZ E m_X2_make X Qs Sh 0 0 87 [some (.ref q), some (.ref c), some (.ref p), some (.int (nI v)), some (.int (nI h)), some (.int (b2i sp)), some (.int (nI i)), some (.int (nI v))] [] (pI (pN I q v h) q (r.1, hdN f v r.2)) (qL L (q + 1) (hdN f v r.2)) R) → ∀ n, n ≤ v → zZ E m_X2_make X Qs Sh 0 0 65 [some (.ref q), some (.ref c), some (.ref p), some (.int (nI v)), some (.int (nI h)), some (.int (b2i sp)), some (.int (nI i)), some (.int (nI n))] [] (pI (pN I q v h) q (r.1, hdN f n r.2)) (qL L (q + 1) (hdN f n r.2)) R := by
        intro Qs hx2
        refine up_rec (fun n hn ih2 => ?_)
        refine z_iload d_X2_make_65 rfl ?_
        refine z_iload_n d_X2_make_67 rfl ?_
        refine z_icmp_ge d_X2_make_68 (fun h_68 => ?_) (fun h_68 => ?_)
        · obtain rfl := eq_of_ge (by omega) hn h_68
          exact hx2
        · have hlt2 := lt_of_nge (by omega) h_68 (by omega)
          refine z_aload_n d_X2_make_71 rfl ?_
          refine z_getR d_X2_make_72 f_X2_12 (by first | rfl | assumption) (by omega) (by first | exact hR _ _ _ rfl | rfl | assumption) ?_
          refine z_aload_n d_X2_make_75 rfl ?_
          refine z_iload d_X2_make_76 rfl ?_
          refine z_cVv d_X2_make_78 q_X2_make_51 (by first | rfl | assumption) (by omega) ⟨rfl, rfl⟩ (ct_X0_handDown (by assumption) (by assumption) (by omega)) rfl rfl rfl ⟨Nat.zero_le _, Nat.zero_le _⟩ ?_
          refine z_iinc7 d_X2_make_81 ki_1 rfl ?_
          refine z_goto d_X2_make_84 ?_
          have h2 := ih2 hlt2
          rw [nI_1, pI_of (pN I q v h) L q (r.1, hdN f n r.2), pI_ne (by omega), pI_ne (by omega), e1, e3, pI_qI, qL_qL, hf]
          exact h2
      refine loop2 _ ?_ 0 (Nat.zero_le v)
      refine z_aload_n d_X2_make_87 rfl ?_
      refine z_aload_n d_X2_make_88 rfl ?_
      refine z_iload d_X2_make_89 rfl ?_
      refine z_iload d_X2_make_91 rfl ?_
      refine z_cVv d_X2_make_93 q_X2_make_55 (by first | rfl | assumption) (by omega) ⟨rfl, rfl⟩ (ct_X2_readRowOf (s := (r.1, hdN f v r.2)) hqq hpp hpq (pN_3 I q v h) h8 (by omega) hh3) rfl rfl rfl ⟨Nat.zero_le _, Nat.zero_le _⟩ ?_
      refine z_iinc6 d_X2_make_96 ki_1 rfl ?_
      refine z_goto d_X2_make_99 ?_
      have h1 := ih hlt (some (.int (nI v)))
      rw [picV, hs] at h1
      rw [nI_1, e1]
      exact h1
  exact loop _ (fun o1 => z_return d_X2_make_102 rfl ⟨rfl, rfl, rfl, rfl, rfl⟩) 0 (Nat.zero_le _) none
