/-! the reference: its small functions -/
theorem nar_b (b : Bool) : narrow .boolean (.int (b2i b)) = .int (b2i b) := by cases b <;> rfl
def inL (v lo hi : Int64) : Bool := !decide (v < lo) && !decide (hi < v)
theorem lg_lt (x y : Int64) : lg_cmp x y < 0 ↔ x < y := by
  unfold lg_cmp
  split
  · next h => exact ⟨fun q => absurd q (by decide), fun q => absurd q (by rw [Int64.lt_iff_toInt_lt] at q ⊢; have := (Int64.lt_iff_toInt_lt).mp h; omega)⟩
  · next h =>
    split
    · next h2 => subst h2; exact ⟨fun q => absurd q (by decide), fun q => absurd q h⟩
    · next h2 =>
      refine ⟨fun _ => ?_, fun _ => by decide⟩
      rw [Int64.lt_iff_toInt_lt]
      have h3 : ¬ y.toInt < x.toInt := fun q => h (Int64.lt_iff_toInt_lt.mpr q)
      have h4 : x.toInt ≠ y.toInt := fun q => h2 (Int64.toInt_inj.mp q)
      omega
theorem lg_gt (x y : Int64) : 0 < lg_cmp x y ↔ y < x := by
  unfold lg_cmp
  split
  · next h => exact ⟨fun _ => h, fun _ => by decide⟩
  · next h =>
    split
    · next h2 => exact ⟨fun q => absurd q (by decide), fun q => absurd q h⟩
    · next h2 => exact ⟨fun q => absurd q (by decide), fun q => absurd q h⟩
theorem lt64 {x y : Int32} : x.toInt64 < y.toInt64 ↔ x < y := by rw [Int64.lt_iff_toInt_lt, Int32.lt_iff_toInt_lt, Int32.toInt_toInt64, Int32.toInt_toInt64]
theorem inLc {x lo hi : Int32} {l h : Int64} (hl : lo.toInt64 = l) (hh : hi.toInt64 = h) : inL x.toInt64 l h = inV lo hi x := by
  subst hl; subst hh
  unfold inL inV
  rw [decide_eq_decide.mpr lt64, decide_eq_decide.mpr lt64]
theorem isW_in (w : Int32) : inV 0 47 w = isW w := by
  unfold inV isW
  rw [show (!decide (w < 0)) = decide (0 ≤ w) from by rw [← decide_not]; exact decide_eq_decide.mpr Int32.not_lt, show (!decide (47 < w)) = decide (w < 48) from by
    rw [← decide_not]
    refine decide_eq_decide.mpr ?_
    rw [Int32.lt_iff_toInt_lt, Int32.lt_iff_toInt_lt, show (47 : Int32).toInt = 47 from rfl, show (48 : Int32).toInt = 48 from rfl]
    omega]
def lsV (a b : Int32) : Int32 := if b ≤ a then b else a
theorem i_sub {a b : Int32} (h1 : -(2 ^ 31) ≤ a.toInt - b.toInt) (h2 : a.toInt - b.toInt < 2 ^ 31) : (a - b).toInt = a.toInt - b.toInt := by rw [Int32.toInt_sub]; exact Int.bmod_eq_of_le (by omega) (by omega)
theorem i_add {a b : Int32} (h1 : -(2 ^ 31) ≤ a.toInt + b.toInt) (h2 : a.toInt + b.toInt < 2 ^ 31) : (a + b).toInt = a.toInt + b.toInt := by rw [Int32.toInt_add]; exact Int.bmod_eq_of_le (by omega) (by omega)
/-- the wells of the state at b -/
def wOf (f : Nat → Int32) (b : Nat) : Nat → Int32 := fun j => f (b + j)
def stW (f : Nat → Int32) (b : Nat) (w : Nat → Int32) : Nat → Int32 := fun k => if b ≤ k ∧ k < b + 48 then w (k - b) else f k
theorem stW_self (f : Nat → Int32) (b : Nat) : stW f b (wOf f b) = f := by
  funext k
  unfold stW wOf
  split
  · next h => rw [show b + (k - b) = k by omega]
  · rfl
theorem stW_up (f : Nat → Int32) (b j : Nat) (w : Nat → Int32) (x : Int32) (hj : j < 48) : va_up (stW f b w) (b + j) x = stW f b (va_up w j x) := by
  funext k
  by_cases e : k = b + j
  · subst e
    rw [up_eq]
    unfold stW
    rw [if_pos (by omega), show b + j - b = j by omega, up_eq]
  · rw [up_ne e]
    unfold stW
    split
    · next h => rw [up_ne (by omega)]
    · rfl
theorem stW_at {f : Nat → Int32} {b j : Nat} {w : Nat → Int32} (hj : j < 48) : stW f b w (b + j) = w j := by unfold stW; rw [if_pos (by omega), show b + j - b = j by omega]
theorem stW_stW (f : Nat → Int32) (b : Nat) (w v : Nat → Int32) : stW (stW f b w) b v = stW f b v := by
  funext k
  unfold stW
  split <;> rfl
theorem up_wOf (f : Nat → Int32) (b j : Nat) (x : Int32) (hj : j < 48) : va_up f (b + j) x = stW f b (va_up (wOf f b) j x) := by
  rw [← stW_up _ _ _ _ _ hj, stW_self]
set_option maxRecDepth 100000 in
set_option maxHeartbeats 4000000 in
theorem ct_X8_in {E : zE} {Sh : zSh} {I : zI} {L : zL} {R : zR} {v lo hi : Int64} : zCf E m_X8_in Sh [.long v, .long lo, .long hi] I L R (some (.int (b2i (inL v lo hi)))) (I) (L) (R) := by
  refine z_met (by decide) [some (.long v), none, some (.long lo), none, some (.long hi), none] rfl rfl (Nat.le_of_ble_eq_true rfl) (fun X => ?_)
  refine z_lload_n d_X8_in_0 rfl ?_
  refine z_lload_n d_X8_in_1 rfl ?_
  refine z_lcmp d_X8_in_2 ?_
  refine z_if_lt d_X8_in_3 (fun h_3 => ?_) (fun h_3 => ?_)
  · refine z_iconst d_X8_in_17 ki_0 ?_
    exact z_zreturn d_X8_in_18 rfl rfl ⟨by simp [inL, (lg_lt _ _).mp h_3, b2i], rfl, rfl, rfl, rfl⟩
  · refine z_lload_n d_X8_in_6 rfl ?_
    refine z_lload d_X8_in_7 rfl ?_
    refine z_lcmp d_X8_in_9 ?_
    refine z_if_gt d_X8_in_10 (fun h_10 => ?_) (fun h_10 => ?_)
    · refine z_iconst d_X8_in_17 ki_0 ?_
      exact z_zreturn d_X8_in_18 rfl rfl ⟨by simp [inL, (lg_gt _ _).mp h_10, b2i], rfl, rfl, rfl, rfl⟩
    · refine z_iconst d_X8_in_13 ki_1 ?_
      refine z_goto d_X8_in_14 ?_
      exact z_zreturn d_X8_in_18 rfl rfl ⟨by simp [inL, mt (lg_lt _ _).mpr h_3, mt (lg_gt _ _).mpr h_10, b2i], rfl, rfl, rfl, rfl⟩
set_option maxRecDepth 100000 in
set_option maxHeartbeats 4000000 in
theorem ct_X8_flag {E : zE} {Sh : zSh} {I : zI} {L : zL} {R : zR} {b : Bool} : zCf E m_X8_flag Sh [.int (b2i b)] I L R (some (.int (b2i b))) (I) (L) (R) := by
  refine z_met (by decide) [some (.int (b2i b))] rfl rfl (Nat.le_of_ble_eq_true rfl) (fun X => ?_)
  refine z_iload_n d_X8_flag_0 rfl ?_
  refine z_if_eq d_X8_flag_1 (fun h_1 => ?_) (fun h_1 => ?_)
  · refine z_iconst d_X8_flag_8 ki_0 ?_
    exact z_ireturn d_X8_flag_9 rfl ⟨by first | (rw [b0 h_1]; rfl) | (rw [b1 h_1]; rfl), rfl, rfl, rfl, rfl⟩
  · refine z_iconst d_X8_flag_4 ki_1 ?_
    refine z_goto d_X8_flag_5 ?_
    exact z_ireturn d_X8_flag_9 rfl ⟨by first | (rw [b0 h_1]; rfl) | (rw [b1 h_1]; rfl), rfl, rfl, rfl, rfl⟩
set_option maxRecDepth 100000 in
set_option maxHeartbeats 4000000 in
theorem ct_X8_less {E : zE} {Sh : zSh} {I : zI} {L : zL} {R : zR} {a b : Int32} : zCf E m_X8_less Sh [.int a, .int b] I L R (some (.int (lsV a b))) (I) (L) (R) := by
  refine z_met (by decide) [some (.int a), some (.int b)] rfl rfl (Nat.le_of_ble_eq_true rfl) (fun X => ?_)
  refine z_iload_n d_X8_less_0 rfl ?_
  refine z_iload_n d_X8_less_1 rfl ?_
  refine z_icmp_ge d_X8_less_2 (fun h_2 => ?_) (fun h_2 => ?_)
  · refine z_iload_n d_X8_less_9 rfl ?_
    exact z_ireturn d_X8_less_10 rfl ⟨by simp [lsV, *], rfl, rfl, rfl, rfl⟩
  · refine z_iload_n d_X8_less_5 rfl ?_
    refine z_goto d_X8_less_6 ?_
    exact z_ireturn d_X8_less_10 rfl ⟨by simp [lsV, *], rfl, rfl, rfl, rfl⟩
set_option maxRecDepth 100000 in
set_option maxHeartbeats 4000000 in
theorem ct_X8_isWell {E : zE} {Sh : zSh} {I : zI} {L : zL} {R : zR} {w : Int32} : zCf E m_X8_isWell Sh [.int w] I L R (some (.int (b2i (isW w)))) (I) (L) (R) := by
  refine z_met (by decide) [some (.int w)] rfl rfl (Nat.le_of_ble_eq_true rfl) (fun X => ?_)
  refine z_iload_n d_X8_isWell_0 rfl ?_
  refine z_i2l d_X8_isWell_1 ?_
  refine z_lconst (v := 0) d_X8_isWell_2 (by decide) ?_
  refine z_ldc2 d_X8_isWell_3 l_X8_181 ?_
  refine z_cSi d_X8_isWell_6 q_X8_isWell_92 ⟨rfl, rfl⟩ (ct_X8_in) rfl rfl rfl ⟨Nat.zero_le _, Nat.zero_le _⟩ ?_
  exact z_zreturn d_X8_isWell_9 rfl (nar_b _) ⟨by rw [inLc (lo := 0) (hi := 47) (by decide) (by decide), isW_in], rfl, rfl, rfl, rfl⟩
set_option maxRecDepth 100000 in
set_option maxHeartbeats 4000000 in
theorem ct_X8_adds {E : zE} {I : zI} {L : zL} {R : zR} {k w : Nat} {n : Int32} (hR : zLx R) (hk : k < 4) (hw : w < 3) : zCf E m_X8_adds zShF [.ref 64, .int (nI (160 * k)), .int (nI w), .int n] I L R (none) (I) (zj L 66 (3 * k + w) (L 66 (3 * k + w) + n.toInt64)) (R) := by
  refine z_met (by decide) [some (.ref 64), some (.int (nI (160 * k))), some (.int (nI w)), some (.int n)] rfl rfl (Nat.le_of_ble_eq_true rfl) (fun X => ?_)
  refine z_aload_n d_X8_adds_0 rfl ?_
  refine z_getR d_X8_adds_1 f_X8_13 (by first | rfl | assumption) (by omega) (by first | exact hR _ _ _ rfl | rfl | assumption) ?_
  refine z_iconst d_X8_adds_4 ki_3 ?_
  refine z_iload_n d_X8_adds_5 rfl ?_
  refine z_sipush d_X8_adds_6 ks_160 ?_
  refine z_idiv d_X8_adds_9 (by first | assumption | decide) ?_
  rw [show nI (160 * k) / (160 : Int32) = nI k from by rw [show (160 : Int32) = nI 160 from rfl, pk_div (by omega) (by decide) (by decide), show 160 * k / 160 = k by omega]]
  refine z_imul d_X8_adds_10 ?_
  refine z_iload_n d_X8_adds_11 rfl ?_
  refine z_iadd d_X8_adds_12 ?_
  refine z_dup2 d_X8_adds_13 rfl rfl ?_
  refine z_laload d_X8_adds_14 (by first | rfl | assumption) (by omega) (zix_e (show (3 : Int32) * nI k + nI w = nI (3 * k + w) from by rw [show (3 : Int32) * nI k = nI (3 * k) from pk_mul 3 k]; exact nI_add _ _) (by omega) (by decide)) ?_
  refine z_iload_n d_X8_adds_15 rfl ?_
  refine z_i2l d_X8_adds_16 ?_
  refine z_ladd d_X8_adds_17 ?_
  refine z_lastore d_X8_adds_18 (by first | rfl | assumption) (by omega) (zix_e (show (3 : Int32) * nI k + nI w = nI (3 * k + w) from by rw [show (3 : Int32) * nI k = nI (3 * k) from pk_mul 3 k]; exact nI_add _ _) (by omega) (by decide)) ?_
  exact z_return d_X8_adds_19 rfl ⟨rfl, rfl, rfl, rfl, rfl⟩
set_option maxRecDepth 100000 in
set_option maxHeartbeats 4000000 in
theorem ct_X8_clearSums {E : zE} {I : zI} {L : zL} {R : zR} (hR : zLx R) : zCf E m_X8_clearSums zShF [.ref 64] I L R (none) (I) (va_up L 66 (zfill (L 66) 3 0)) (R) := by
  refine z_met (by decide) [some (.ref 64), none] rfl rfl (Nat.le_of_ble_eq_true rfl) (fun X => ?_)
  refine z_iconst d_X8_clearSums_0 ki_0 ?_
  refine z_istore1 d_X8_clearSums_1 rfl ?_
  have loop : ∀ (Qs : State → Prop), (zZ E m_X8_clearSums X Qs zShF 0 0 20 [some (.ref 64), some (.int (nI 3))] [] I (va_up L 66 (zfill (L 66) 3 0)) R) → ∀ i, i ≤ 3 → zZ E m_X8_clearSums X Qs zShF 0 0 2 [some (.ref 64), some (.int (nI i))] [] I (va_up L 66 (zfill (L 66) i 0)) R := by
    intro Qs hx
    refine up_rec (fun i hi ih => ?_)
    refine z_iload_n d_X8_clearSums_2 rfl ?_
    refine z_iconst d_X8_clearSums_3 ki_3 ?_
    refine z_icmp_ge d_X8_clearSums_4 (fun h_4 => ?_) (fun h_4 => ?_)
    · obtain rfl := eq_of_ge (n := 3) (by decide) hi h_4
      exact hx
    · have hlt := lt_of_nge (n := 3) (by decide) h_4 (by omega)
      refine z_aload_n d_X8_clearSums_7 rfl ?_
      refine z_getR d_X8_clearSums_8 f_X8_13 (by first | rfl | assumption) (by omega) (by first | exact hR _ _ _ rfl | rfl | assumption) ?_
      refine z_iload_n d_X8_clearSums_11 rfl ?_
      refine z_lconst (v := 0) d_X8_clearSums_12 (by decide) ?_
      refine z_lastore d_X8_clearSums_13 (by first | rfl | assumption) (by omega) (by first | exact zix_nI (by assumption) (by first | decide | assumption) | exact zix_nI (by omega) (by first | decide | assumption) | assumption) ?_
      refine z_iinc1 d_X8_clearSums_14 ki_1 rfl ?_
      refine z_goto d_X8_clearSums_17 ?_
      rw [nI_1, zj_up, zfill_s]
      exact ih hlt
  refine z_mem (L' := va_up L 66 (zfill (L 66) 0 0)) rfl (by rw [zfill_0, up_self]) rfl (loop _ ?_ 0 (Nat.zero_le 3))
  exact z_return d_X8_clearSums_20 rfl ⟨rfl, rfl, rfl, rfl, rfl⟩
set_option maxRecDepth 100000 in
set_option maxHeartbeats 4000000 in
theorem ct_X8_sumOf {E : zE} {I : zI} {L : zL} {R : zR} {b m : Nat} (hR : zLx R) (hb : b + m ≤ 640) : zCf E m_X8_sumOf zShF [.ref 64, .int (nI b), .int (nI m)] I L R (some (.int (sumV (fun k => I 65 (b + k)) m))) (I) (L) (R) := by
  refine z_met (by decide) [some (.ref 64), some (.int (nI b)), some (.int (nI m)), none, none] rfl rfl (Nat.le_of_ble_eq_true rfl) (fun X => ?_)
  refine z_iconst d_X8_sumOf_0 ki_0 ?_
  refine z_istore3 d_X8_sumOf_1 rfl ?_
  refine z_iconst d_X8_sumOf_2 ki_0 ?_
  refine z_istore4 d_X8_sumOf_3 rfl ?_
  have loop : ∀ (Qs : State → Prop), (zZ E m_X8_sumOf X Qs zShF 0 0 29 [some (.ref 64), some (.int (nI b)), some (.int (nI m)), some (.int (sumV (fun k => I 65 (b + k)) m)), some (.int (nI m))] [] I L R) → ∀ i, i ≤ m → zZ E m_X8_sumOf X Qs zShF 0 0 5 [some (.ref 64), some (.int (nI b)), some (.int (nI m)), some (.int (sumV (fun k => I 65 (b + k)) i)), some (.int (nI i))] [] I L R := by
    intro Qs hx
    refine up_rec (fun i hi ih => ?_)
    refine z_iload d_X8_sumOf_5 rfl ?_
    refine z_iload_n d_X8_sumOf_7 rfl ?_
    refine z_icmp_ge d_X8_sumOf_8 (fun h_8 => ?_) (fun h_8 => ?_)
    · obtain rfl := eq_of_ge (by omega) hi h_8
      exact hx
    · have hlt := lt_of_nge (by omega) h_8 (by omega)
      refine z_iload_n d_X8_sumOf_11 rfl ?_
      refine z_aload_n d_X8_sumOf_12 rfl ?_
      refine z_getR d_X8_sumOf_13 f_X8_7 (by first | rfl | assumption) (by omega) (by first | exact hR _ _ _ rfl | rfl | assumption) ?_
      refine z_iload_n d_X8_sumOf_16 rfl ?_
      refine z_iload d_X8_sumOf_17 rfl ?_
      refine z_iadd d_X8_sumOf_19 ?_
      refine z_iaload d_X8_sumOf_20 (by first | rfl | assumption) (by omega) (zix_e (nI_add b i) (by omega) (by decide)) ?_
      refine z_iadd d_X8_sumOf_21 ?_
      refine z_istore3 d_X8_sumOf_22 rfl ?_
      refine z_iinc4 d_X8_sumOf_23 ki_1 rfl ?_
      refine z_goto d_X8_sumOf_26 ?_
      rw [nI_1]
      exact ih hlt
  refine loop _ ?_ 0 (Nat.zero_le m)
  refine z_iload_n d_X8_sumOf_29 rfl ?_
  exact z_ireturn d_X8_sumOf_30 rfl ⟨rfl, rfl, rfl, rfl, rfl⟩
set_option maxRecDepth 100000 in
set_option maxHeartbeats 4000000 in
theorem ct_X8_rateOf {E : zE} {I : zI} {L : zL} {R : zR} {w : Nat} (hR : zLx R) (hw : w < 48) : zCf E m_X8_rateOf zShF [.ref 64, .int (nI w)] I L R (some (.int (I 65 (104 + w) + I 69 w + I 68 1))) (I) (L) (R) := by
  refine z_met (by decide) [some (.ref 64), some (.int (nI w))] rfl rfl (Nat.le_of_ble_eq_true rfl) (fun X => ?_)
  refine z_aload_n d_X8_rateOf_0 rfl ?_
  refine z_getR d_X8_rateOf_1 f_X8_7 (by first | rfl | assumption) (by omega) (by first | exact hR _ _ _ rfl | rfl | assumption) ?_
  refine z_bipush d_X8_rateOf_4 kb_104 ?_
  refine z_iload_n d_X8_rateOf_6 rfl ?_
  refine z_iadd d_X8_rateOf_7 ?_
  refine z_iaload d_X8_rateOf_8 (by first | rfl | assumption) (by omega) (zix_e (show (104 : Int32) + nI w = nI (104 + w) from nI_add 104 w) (by omega) (by decide)) ?_
  refine z_aload_n d_X8_rateOf_9 rfl ?_
  refine z_getR d_X8_rateOf_10 f_X8_24 (by first | rfl | assumption) (by omega) (by first | exact hR _ _ _ rfl | rfl | assumption) ?_
  refine z_iload_n d_X8_rateOf_13 rfl ?_
  refine z_iaload d_X8_rateOf_14 (by first | rfl | assumption) (by omega) (by first | exact zix_nI (by assumption) (by first | decide | assumption) | exact zix_nI (by omega) (by first | decide | assumption) | assumption) ?_
  refine z_iadd d_X8_rateOf_15 ?_
  refine z_aload_n d_X8_rateOf_16 rfl ?_
  refine z_getR d_X8_rateOf_17 f_X8_21 (by first | rfl | assumption) (by omega) (by first | exact hR _ _ _ rfl | rfl | assumption) ?_
  refine z_iconst d_X8_rateOf_20 ki_1 ?_
  refine z_iaload d_X8_rateOf_21 (by first | rfl | assumption) (by omega) (zix_lit 1 (by decide)) ?_
  refine z_iadd d_X8_rateOf_22 ?_
  exact z_ireturn d_X8_rateOf_23 rfl ⟨rfl, rfl, rfl, rfl, rfl⟩
set_option maxRecDepth 100000 in
set_option maxHeartbeats 4000000 in
theorem ct_X8_comes {E : zE} {I : zI} {L : zL} {R : zR} {k w : Nat} {v : Int32} (hR : zLx R) (hk : k < 4) (hw : w < 48) : zCf E m_X8_comes zShF [.ref 64, .int (nI (160 * k)), .int (nI w), .int v] I L R (none) (zi I 65 (160 * k + w) (I 65 (160 * k + w) + v)) (zj L 66 (3 * k + 2) (L 66 (3 * k + 2) + v.toInt64)) (R) := by
  refine z_met (by decide) [some (.ref 64), some (.int (nI (160 * k))), some (.int (nI w)), some (.int v)] rfl rfl (Nat.le_of_ble_eq_true rfl) (fun X => ?_)
  refine z_aload_n d_X8_comes_0 rfl ?_
  refine z_getR d_X8_comes_1 f_X8_7 (by first | rfl | assumption) (by omega) (by first | exact hR _ _ _ rfl | rfl | assumption) ?_
  refine z_iload_n d_X8_comes_4 rfl ?_
  refine z_iload_n d_X8_comes_5 rfl ?_
  refine z_iadd d_X8_comes_6 ?_
  refine z_dup2 d_X8_comes_7 rfl rfl ?_
  refine z_iaload d_X8_comes_8 (by first | rfl | assumption) (by omega) (zix_e (nI_add (160 * k) w) (by omega) (by decide)) ?_
  refine z_iload_n d_X8_comes_9 rfl ?_
  refine z_iadd d_X8_comes_10 ?_
  refine z_iastore d_X8_comes_11 (by first | rfl | assumption) (by omega) (zix_e (nI_add (160 * k) w) (by omega) (by decide)) ?_
  refine z_aload_n d_X8_comes_12 rfl ?_
  refine z_iload_n d_X8_comes_13 rfl ?_
  refine z_iconst d_X8_comes_14 ki_2 ?_
  refine z_iload_n d_X8_comes_15 rfl ?_
  refine z_cVv d_X8_comes_16 q_X8_comes_198 (by first | rfl | assumption) (by omega) ⟨rfl, rfl⟩ (ct_X8_adds (w := 2) hR hk (by decide)) rfl rfl rfl ⟨Nat.zero_le _, Nat.zero_le _⟩ ?_
  exact z_return d_X8_comes_19 rfl ⟨rfl, rfl, rfl, rfl, rfl⟩
set_option maxRecDepth 100000 in
set_option maxHeartbeats 4000000 in
theorem ct_X8_fault {E : zE} {I : zI} {L : zL} {R : zR} (hR : zLx R) : zCf E m_X8_fault zShF [.ref 64] I L R (some (.int (I 64 22))) (I) (L) (R) := by
  refine z_met (by decide) [some (.ref 64)] rfl rfl (Nat.le_of_ble_eq_true rfl) (fun X => ?_)
  refine z_aload_n d_X8_fault_0 rfl ?_
  refine z_getI d_X8_fault_1 f_X8_107 (by first | rfl | assumption) (by omega) ?_
  exact z_ireturn d_X8_fault_4 rfl ⟨rfl, rfl, rfl, rfl, rfl⟩
set_option maxRecDepth 100000 in
set_option maxHeartbeats 4000000 in
theorem ct_X8_rule {E : zE} {I : zI} {L : zL} {R : zR} {w : Int32} (hR : zLx R) : zCf E m_X8_rule zShF [.ref 64, .int w] I L R (some (.int (if inV 0 6 w = true then I 68 w.toNatClampNeg else -1))) (I) (L) (R) := by
  refine z_met (by decide) [some (.ref 64), some (.int w)] rfl rfl (Nat.le_of_ble_eq_true rfl) (fun X => ?_)
  refine z_iload_n d_X8_rule_0 rfl ?_
  refine z_i2l d_X8_rule_1 ?_
  refine z_lconst (v := 0) d_X8_rule_2 (by decide) ?_
  refine z_ldc2 d_X8_rule_3 l_X8_179 ?_
  refine z_cSi d_X8_rule_6 q_X8_rule_92 ⟨rfl, rfl⟩ (ct_X8_in) rfl rfl rfl ⟨Nat.zero_le _, Nat.zero_le _⟩ ?_
  rw [inLc (lo := 0) (hi := 6) (by decide) (by decide)]
  refine z_if_eq d_X8_rule_9 (fun h_9 => ?_) (fun h_9 => ?_)
  · refine z_iconst d_X8_rule_21 ki_m1 ?_
    exact z_ireturn d_X8_rule_22 rfl ⟨by first | rw [if_pos (b1 h_9)] | (rw [b0 h_9]; rfl), rfl, rfl, rfl, rfl⟩
  · have hw := b1 h_9
    have hix : zix w 7 w.toNatClampNeg := by
      simp only [inV, Bool.and_eq_true, Bool.not_eq_true', decide_eq_false_iff_not] at hw
      obtain ⟨e, h2⟩ := nat_of (n := 6) (by decide) hw.1 hw.2
      exact ⟨by omega, rfl, hw.1⟩
    refine z_aload_n d_X8_rule_12 rfl ?_
    refine z_getR d_X8_rule_13 f_X8_21 (by first | rfl | assumption) (by omega) (by first | exact hR _ _ _ rfl | rfl | assumption) ?_
    refine z_iload_n d_X8_rule_16 rfl ?_
    refine z_iaload d_X8_rule_17 (by first | rfl | assumption) (by omega) (by first | exact zix_nI (by assumption) (by first | decide | assumption) | exact zix_nI (by omega) (by first | decide | assumption) | assumption) ?_
    refine z_goto d_X8_rule_18 ?_
    exact z_ireturn d_X8_rule_22 rfl ⟨by first | rw [if_pos (b1 h_9)] | (rw [b0 h_9]; rfl), rfl, rfl, rfl, rfl⟩
set_option maxRecDepth 100000 in
set_option maxHeartbeats 4000000 in
theorem ct_X8_end {E : zE} {I : zI} {L : zL} {R : zR} {n : Int32} (hR : zLx R) : zCf E m_X8_end zShF [.ref 64, .int n] I L R (some (.int (if inV 0 (I 64 17) n = true then I 64 17 else -1))) (if inV 0 (I 64 17) n = true then zi I 64 17 n else I) (L) (R) := by
  refine z_met (by decide) [some (.ref 64), some (.int n), none] rfl rfl (Nat.le_of_ble_eq_true rfl) (fun X => ?_)
  refine z_iload_n d_X8_end_0 rfl ?_
  refine z_i2l d_X8_end_1 ?_
  refine z_lconst (v := 0) d_X8_end_2 (by decide) ?_
  refine z_aload_n d_X8_end_3 rfl ?_
  refine z_getI d_X8_end_4 f_X8_102 (by first | rfl | assumption) (by omega) ?_
  refine z_i2l d_X8_end_7 ?_
  refine z_cSi d_X8_end_8 q_X8_end_92 ⟨rfl, rfl⟩ (ct_X8_in) rfl rfl rfl ⟨Nat.zero_le _, Nat.zero_le _⟩ ?_
  rw [inLc (lo := 0) (by decide) rfl]
  refine z_if_ne d_X8_end_11 (fun h_11 => ?_) (fun h_11 => ?_)
  · refine z_aload_n d_X8_end_16 rfl ?_
    refine z_getI d_X8_end_17 f_X8_102 (by first | rfl | assumption) (by omega) ?_
    refine z_istore2 d_X8_end_20 rfl ?_
    refine z_aload_n d_X8_end_21 rfl ?_
    refine z_iload_n d_X8_end_22 rfl ?_
    refine z_putI d_X8_end_23 f_X8_102 p_X8_17 (by first | rfl | assumption) (by omega) ?_
    refine z_iload_n d_X8_end_26 rfl ?_
    exact z_ireturn d_X8_end_27 rfl ⟨by rw [if_pos (b1 h_11)], rfl, by rw [if_pos (b1 h_11)], rfl, rfl⟩
  · have hw := b0 h_11
    refine z_iconst d_X8_end_14 ki_m1 ?_
    exact z_ireturn d_X8_end_15 rfl ⟨by rw [hw]; rfl, rfl, by rw [hw]; rfl, rfl, rfl⟩
set_option maxRecDepth 100000 in
set_option maxHeartbeats 4000000 in
theorem ct_X8_needs {E : zE} {I : zI} {L : zL} {R : zR} {g : Bool} {c : Int32} (hR : zLx R) : zCf E m_X8_needs zShF [.ref 64, .int (b2i g), .int c] I L R (none) (if g = false ∧ I 64 22 = 0 then zi (zi I 64 22 c) 64 23 (I 64 19) else I) (L) (R) := by
  refine z_met (by decide) [some (.ref 64), some (.int (b2i g)), some (.int c)] rfl rfl (Nat.le_of_ble_eq_true rfl) (fun X => ?_)
  refine z_iload_n d_X8_needs_0 rfl ?_
  refine z_if_ne d_X8_needs_1 (fun h_1 => ?_) (fun h_1 => ?_)
  · exact z_return d_X8_needs_24 rfl ⟨rfl, rfl, by rw [b1 h_1]; simp, rfl, rfl⟩
  · refine z_aload_n d_X8_needs_4 rfl ?_
    refine z_getI d_X8_needs_5 f_X8_107 (by first | rfl | assumption) (by omega) ?_
    refine z_if_ne d_X8_needs_8 (fun h_8 => ?_) (fun h_8 => ?_)
    · exact z_return d_X8_needs_24 rfl ⟨rfl, rfl, by simp [h_8], rfl, rfl⟩
    · refine z_aload_n d_X8_needs_11 rfl ?_
      refine z_iload_n d_X8_needs_12 rfl ?_
      refine z_putI d_X8_needs_13 f_X8_107 p_X8_22 (by first | rfl | assumption) (by omega) ?_
      refine z_aload_n d_X8_needs_16 rfl ?_
      refine z_aload_n d_X8_needs_17 rfl ?_
      refine z_getI d_X8_needs_18 f_X8_110 (by first | rfl | assumption) (by omega) ?_
      refine z_putI d_X8_needs_21 f_X8_113 p_X8_23 (by first | rfl | assumption) (by omega) ?_
      exact z_return d_X8_needs_24 rfl ⟨rfl, rfl, by rw [if_pos ⟨b0 h_1, h_8⟩, zi_at2 (by decide)], rfl, rfl⟩
