/-! the reference's gates -/
def rmV (x p : Int32) : Int32 := if 0 ≤ x - x / p * p then x - x / p * p else x - x / p * p + p
def wlV (x p : Int32) : Int32 := if x < 0 then -((p - 1 - x) / p) else x / p
set_option maxRecDepth 100000 in
theorem rm_tab : ∀ k : Fin 461, rmV (iI ((k.val : Int) - 230)) 3 = nI (((k.val : Int) - 230).emod 3).toNat ∧ rmV (iI ((k.val : Int) - 230)) 4 = nI (((k.val : Int) - 230).emod 4).toNat ∧ wlV (iI ((k.val : Int) - 230)) 3 = iI (((k.val : Int) - 230).ediv 3) ∧ wlV (iI ((k.val : Int) - 230)) 4 = iI (((k.val : Int) - 230).ediv 4) := by decide +kernel
theorem rm_of {P : Nat} (hP : P = 3 ∨ P = 4) {z : Int} (h1 : -230 ≤ z) (h2 : z ≤ 230) : rmV (iI z) (nI P) = nI (z.emod P).toNat ∧ wlV (iI z) (nI P) = iI (z.ediv P) := by
  have h := rm_tab ⟨(z + 230).toNat, by omega⟩
  have e : (((z + 230).toNat : Nat) : Int) - 230 = z := by omega
  simp only [e] at h
  rcases hP with rfl | rfl
  · exact ⟨h.1, h.2.2.1⟩
  · exact ⟨h.2.1, h.2.2.2⟩
theorem gap3 : ∀ a : Fin 7, ∀ m : Fin 3, ∃ k : Fin 3, a.val.testBit (((m.val : Int) - 1 - k.val) % 3).toNat = false := by decide
theorem gap4 : ∀ a : Fin 15, ∀ m : Fin 4, ∃ k : Fin 4, a.val.testBit (((m.val : Int) - 1 - k.val) % 4).toNat = false := by decide
/-- a WORD that is not all HIGH has a GATE that is not, among as many side by side as there are phases -/
theorem gap {P a : Nat} (hP : P = 3 ∨ P = 4) (ha : a < 2 ^ P - 1) (z : Int) : ∃ k : Nat, k < P ∧ hi P a (z - 1 - k) = false := by
  rcases hP with rfl | rfl
  · obtain ⟨k, hk⟩ := gap3 ⟨a, ha⟩ ⟨(z % 3).toNat, by omega⟩
    refine ⟨k.val, k.isLt, ?_⟩
    have e : (z - 1 - (k.val : Int)) % 3 = (((z % 3).toNat : Int) - 1 - k.val) % 3 := by omega
    show a.testBit ((z - 1 - (k.val : Int)) % 3).toNat = false
    rw [e]; exact hk
  · obtain ⟨k, hk⟩ := gap4 ⟨a, ha⟩ ⟨(z % 4).toNat, by omega⟩
    refine ⟨k.val, k.isLt, ?_⟩
    have e : (z - 1 - (k.val : Int)) % 4 = (((z % 4).toNat : Int) - 1 - k.val) % 4 := by omega
    show a.testBit ((z - 1 - (k.val : Int)) % 4).toNat = false
    rw [e]; exact hk
def mtN (P a : Nat) : Nat → Int → Nat
  | 0, _ => 0
  | k + 1, s => if hi P a s = true then mtN P a k (s + 1) + 1 else 0
theorem mtN_le (P a : Nat) : ∀ (n : Nat) (s : Int), mtN P a n s ≤ n
  | 0, _ => Nat.le_refl 0
  | n + 1, s => by
    unfold mtN
    split
    · have := mtN_le P a n (s + 1); omega
    · omega
theorem mtN_hi (P a : Nat) : ∀ (n : Nat) (s : Int) (k : Nat), k < mtN P a n s → hi P a (s + k) = true
  | 0, _, k, h => by simp [mtN] at h
  | n + 1, s, k, h => by
    unfold mtN at h
    split at h
    · next h0 =>
      rcases k with _ | k
      · simpa using h0
      · have := mtN_hi P a n (s + 1) k (by omega)
        rw [show s + ((k + 1 : Nat) : Int) = s + 1 + k by omega]; exact this
    · omega
theorem mtN_lo (P a : Nat) : ∀ (n : Nat) (s : Int), mtN P a n s < n → hi P a (s + mtN P a n s) = false
  | 0, _, h => absurd h (by omega)
  | n + 1, s, h => by
    unfold mtN at h ⊢
    split
    · next h0 =>
      rw [if_pos h0] at h
      have := mtN_lo P a n (s + 1) (by omega)
      rw [show s + ((mtN P a n (s + 1) + 1 : Nat) : Int) = s + 1 + mtN P a n (s + 1) by omega]; exact this
    · next h0 => simpa using h0
theorem mtN_lt {P a : Nat} (hP : P = 3 ∨ P = 4) (ha : a < 2 ^ P - 1) (s : Int) : mtN P a P s < P := by
  rcases Nat.lt_or_ge (mtN P a P s) P with q | q
  · exact q
  · exfalso
    obtain ⟨k, hk, h⟩ := gap hP ha (s + P)
    have := mtN_hi P a P s (P - 1 - k) (by omega)
    rw [show s + ((P - 1 - k : Nat) : Int) = s + P - 1 - k by omega, h] at this
    exact absurd this (by decide)
def mtS (P b : Nat) (s : Int) : Nat → Nat × Int
  | 0 => (0, 0)
  | k + 1 => if hi P b (s + k) = true ∧ ((mtS P b s k).1 = 0 ∨ fstL P b P (s + k) ≠ (mtS P b s k).2) then ((mtS P b s k).1 + 1, fstL P b P (s + k)) else mtS P b s k
theorem mtS_b (P b : Nat) (s : Int) : ∀ k, (mtS P b s k).1 ≤ k ∧ ((mtS P b s k).2 = 0 ∨ (s - P ≤ (mtS P b s k).2 ∧ (mtS P b s k).2 ≤ s + k))
  | 0 => by simp [mtS]
  | k + 1 => by
    have := mtS_b P b s k
    have := fstL_b P b P (s + k)
    unfold mtS
    split
    · simp; omega
    · omega
/-- the junk of a search -/
def mtI (I : zI) (x y : Int32) : zI := va_up I 64 (va_up (va_up (I 64) 28 x) 29 y)
theorem mtI_ne {I : zI} {x y : Int32} {p : Nat} (h : p ≠ 64) : mtI I x y p = I p := up_ne h
theorem mtI_j {I : zI} {x y : Int32} {j : Nat} (h1 : j ≠ 28) (h2 : j ≠ 29) : mtI I x y 64 j = I 64 j := by unfold mtI; rw [up_eq, up_ne h2, up_ne h1]
theorem mtI_28 (I : zI) (x y : Int32) : mtI I x y 64 28 = x := by unfold mtI; rw [up_eq, up_ne (by decide), up_eq]
theorem mtI_29 (I : zI) (x y : Int32) : mtI I x y 64 29 = y := by unfold mtI; rw [up_eq, up_eq]
theorem mtI_z28 (I : zI) (x y w : Int32) : zi (mtI I x y) 64 28 w = mtI I w y := by
  unfold mtI; rw [zi_up]; congr 1
  rw [up_comm _ _ _ (show 29 ≠ 28 by decide), up_up]
theorem mtI_z29 (I : zI) (x y w : Int32) : zi (mtI I x y) 64 29 w = mtI I x w := by
  unfold mtI; rw [zi_up]; congr 1
  rw [up_up]
theorem mtI_mk (I : zI) (x y : Int32) : zi (zi I 64 28 x) 64 29 y = mtI I x y := by
  unfold mtI zi; rw [up_eq, up_up]
theorem mtI_mt (I : zI) (x y x' y' : Int32) : mtI (mtI I x y) x' y' = mtI I x' y' := by
  unfold mtI; rw [up_up, up_eq, up_comm _ _ _ (show 29 ≠ 28 by decide), up_up, up_up]
theorem mtI_self (I : zI) : mtI I (I 64 28) (I 64 29) = I := by
  unfold mtI; rw [up_self (I 64) 28, up_self (I 64) 29, up_self]
/-- a PACKET from s on under a, b comes: how many REGIONS it meets, the last one's begin -/
def mtV (P a : Nat) (s : Int) (b : Nat) : Nat × Int := mtS P b s (mtN P a P s)
def wgV (P a : Nat) (s : Int) (b : Nat) : Nat := if b = 2 ^ P - 1 then 3 else if (mtV P a s b).1 = 0 then 1 else if 1 < (mtV P a s b).1 then 2 else 0
theorem mtV_b {P a : Nat} (hP : P = 3 ∨ P = 4) (s : Int) (b : Nat) : (mtV P a s b).1 ≤ 4 ∧ ((mtV P a s b).2 = 0 ∨ (s - 4 ≤ (mtV P a s b).2 ∧ (mtV P a s b).2 ≤ s + 4)) := by
  have h := mtS_b P b s (mtN P a P s)
  have h2 := mtN_le P a P s
  unfold mtV
  omega
theorem P2 {P : Nat} (hP : P = 3 ∨ P = 4) : 7 ≤ 2 ^ P - 1 ∧ 2 ^ P - 1 ≤ 15 := by rcases hP with rfl | rfl <;> decide
set_option maxRecDepth 100000 in
set_option maxHeartbeats 4000000 in
theorem ct_X8_isHigh {E : zE} {I : zI} {L : zL} {R : zR} {P a : Nat} {z : Int} (hR : zLx R) (hP : P = 3 ∨ P = 4) (hI : I 68 6 = nI P) (ha : a < 16) (h1 : -220 ≤ z) (h2 : z ≤ 220) : zCf E m_X8_isHigh zShF [.ref 64, .int (nI a), .int (iI z)] I L R (some (.int (b2i (hi P a z)))) (I) (L) (R) := by
  have hm := (rm_of hP (z := z) (by omega) (by omega)).1
  have hb := hi_bit hP ha z
  refine z_met (by decide) [some (.ref 64), some (.int (nI a)), some (.int (iI z)), none] rfl rfl (Nat.le_of_ble_eq_true rfl) (fun X => ?_)
  refine z_iload_n d_X8_isHigh_0 rfl ?_
  refine z_aload_n d_X8_isHigh_1 rfl ?_
  refine z_getR d_X8_isHigh_2 f_X8_21 (by first | rfl | assumption) (by omega) (by first | exact hR _ _ _ rfl | rfl | assumption) ?_
  refine z_bipush d_X8_isHigh_5 kb_6 ?_
  refine z_iaload d_X8_isHigh_7 (by first | rfl | assumption) (by omega) (zix_lit 6 (by decide)) ?_
  rw [hI]
  refine z_irem d_X8_isHigh_8 (nI_ne0 (by omega) (by omega)) ?_
  refine z_istore3 d_X8_isHigh_9 rfl ?_
  refine z_iload_n d_X8_isHigh_10 rfl ?_
  refine z_iload_n d_X8_isHigh_11 rfl ?_
  refine z_if_ge d_X8_isHigh_12 (fun h_12 => ?_) (fun h_12 => ?_)
  · refine z_iload_n d_X8_isHigh_27 rfl ?_
    refine z_topi (y := nI (z.emod P).toNat) (by rw [← hm]; unfold rmV; first | rw [if_pos h_12] | rw [if_neg h_12]) ?_
    refine z_ishr d_X8_isHigh_28 ?_
    refine z_iconst d_X8_isHigh_29 ki_1 ?_
    refine z_iand d_X8_isHigh_30 ?_
    refine z_iconst d_X8_isHigh_31 ki_1 ?_
    refine z_icmp_ne d_X8_isHigh_32 (fun h_32 => ?_) (fun h_32 => ?_)
    · refine z_iconst d_X8_isHigh_39 ki_0 ?_
      exact z_zreturn d_X8_isHigh_40 rfl rfl ⟨by first | (rw [show hi P a z = true from hb.mp h_32]; rfl) | (rw [show hi P a z = false from by cases hh : hi P a z; rfl; exact absurd (hb.mpr hh) h_32]; rfl), rfl, rfl, rfl, rfl⟩
    · refine z_iconst d_X8_isHigh_35 ki_1 ?_
      refine z_goto d_X8_isHigh_36 ?_
      exact z_zreturn d_X8_isHigh_40 rfl rfl ⟨by first | (rw [show hi P a z = true from hb.mp h_32]; rfl) | (rw [show hi P a z = false from by cases hh : hi P a z; rfl; exact absurd (hb.mpr hh) h_32]; rfl), rfl, rfl, rfl, rfl⟩
  · refine z_iload_n d_X8_isHigh_15 rfl ?_
    refine z_aload_n d_X8_isHigh_16 rfl ?_
    refine z_getR d_X8_isHigh_17 f_X8_21 (by first | rfl | assumption) (by omega) (by first | exact hR _ _ _ rfl | rfl | assumption) ?_
    refine z_bipush d_X8_isHigh_20 kb_6 ?_
    refine z_iaload d_X8_isHigh_22 (by first | rfl | assumption) (by omega) (zix_lit 6 (by decide)) ?_
    rw [hI]
    refine z_iadd d_X8_isHigh_23 ?_
    refine z_goto d_X8_isHigh_24 ?_
    refine z_topi (y := nI (z.emod P).toNat) (by rw [← hm]; unfold rmV; first | rw [if_pos h_12] | rw [if_neg h_12]) ?_
    refine z_ishr d_X8_isHigh_28 ?_
    refine z_iconst d_X8_isHigh_29 ki_1 ?_
    refine z_iand d_X8_isHigh_30 ?_
    refine z_iconst d_X8_isHigh_31 ki_1 ?_
    refine z_icmp_ne d_X8_isHigh_32 (fun h_32 => ?_) (fun h_32 => ?_)
    · refine z_iconst d_X8_isHigh_39 ki_0 ?_
      exact z_zreturn d_X8_isHigh_40 rfl rfl ⟨by first | (rw [show hi P a z = true from hb.mp h_32]; rfl) | (rw [show hi P a z = false from by cases hh : hi P a z; rfl; exact absurd (hb.mpr hh) h_32]; rfl), rfl, rfl, rfl, rfl⟩
    · refine z_iconst d_X8_isHigh_35 ki_1 ?_
      refine z_goto d_X8_isHigh_36 ?_
      exact z_zreturn d_X8_isHigh_40 rfl rfl ⟨by first | (rw [show hi P a z = true from hb.mp h_32]; rfl) | (rw [show hi P a z = false from by cases hh : hi P a z; rfl; exact absurd (hb.mpr hh) h_32]; rfl), rfl, rfl, rfl, rfl⟩
set_option maxRecDepth 100000 in
set_option maxHeartbeats 4000000 in
theorem ct_X8_isGood {E : zE} {I : zI} {L : zL} {R : zR} {P a : Nat} (hR : zLx R) (hP : P = 3 ∨ P = 4) (hI : I 68 6 = nI P) (ha : a < 16) : zCf E m_X8_isGood zShF [.ref 64, .int (nI a)] I L R (some (.int (b2i (decide (cntV (fun g => bg P a g) P = 1))))) (I) (L) (R) := by
  refine z_met (by decide) [some (.ref 64), some (.int (nI a)), none, none] rfl rfl (Nat.le_of_ble_eq_true rfl) (fun X => ?_)
  refine z_iconst d_X8_isGood_0 ki_0 ?_
  refine z_istore2 d_X8_isGood_1 rfl ?_
  refine z_iconst d_X8_isGood_2 ki_0 ?_
  refine z_istore3 d_X8_isGood_3 rfl ?_
  have loop : ∀ (Qs : State → Prop), (zZ E m_X8_isGood X Qs zShF 0 0 52 [some (.ref 64), some (.int (nI a)), some (.int (cntV (fun g => bg P a g) P)), some (.int (nI P))] [] I L R) → ∀ i, i ≤ P → zZ E m_X8_isGood X Qs zShF 0 0 4 [some (.ref 64), some (.int (nI a)), some (.int (cntV (fun g => bg P a g) i)), some (.int (nI i))] [] I L R := by
    intro Qs hx
    refine up_rec (fun i hi' ih => ?_)
    refine z_iload_n d_X8_isGood_4 rfl ?_
    refine z_aload_n d_X8_isGood_5 rfl ?_
    refine z_getR d_X8_isGood_6 f_X8_21 (by first | rfl | assumption) (by omega) (by first | exact hR _ _ _ rfl | rfl | assumption) ?_
    refine z_bipush d_X8_isGood_9 kb_6 ?_
    refine z_iaload d_X8_isGood_11 (by first | rfl | assumption) (by omega) (zix_lit 6 (by decide)) ?_
    rw [hI]
    refine z_icmp_ge d_X8_isGood_12 (fun h_12 => ?_) (fun h_12 => ?_)
    · obtain rfl := eq_of_ge (by omega) hi' h_12
      exact hx
    · have hlt := lt_of_nge (by omega) h_12 (by omega)
      refine z_iload_n d_X8_isGood_15 rfl ?_
      refine z_aload_n d_X8_isGood_16 rfl ?_
      refine z_iload_n d_X8_isGood_17 rfl ?_
      refine z_iload_n d_X8_isGood_18 rfl ?_
      refine z_cVi d_X8_isGood_19 q_X8_isGood_270 (by first | rfl | assumption) (by omega) ⟨rfl, rfl⟩ (ct_X8_isHigh (z := (i : Int)) hR hP hI ha (by omega) (by omega)) rfl rfl rfl ⟨Nat.zero_le _, Nat.zero_le _⟩ ?_
      refine z_if_eq d_X8_isGood_22 (fun h_22 => ?_) (fun h_22 => ?_)
      · refine z_iconst d_X8_isGood_40 ki_0 ?_
        refine z_topi (y := b2i (bg P a i)) (by unfold bg; first | (rw [b0 h_22]; rfl) | (rw [b1 h_22, b1 h_33]; rfl) | (rw [b1 h_22, b0 h_33]; rfl)) ?_
        refine z_cSi d_X8_isGood_41 q_X8_isGood_237 ⟨rfl, rfl⟩ (ct_X8_flag (b := bg P a i)) rfl rfl rfl ⟨Nat.zero_le _, Nat.zero_le _⟩ ?_
        refine z_iadd d_X8_isGood_44 ?_
        refine z_istore2 d_X8_isGood_45 rfl ?_
        refine z_iinc3 d_X8_isGood_46 ki_1 rfl ?_
        refine z_goto d_X8_isGood_49 ?_
        rw [nI_1]
        exact ih hlt
      · refine z_aload_n d_X8_isGood_25 rfl ?_
        refine z_iload_n d_X8_isGood_26 rfl ?_
        refine z_iload_n d_X8_isGood_27 rfl ?_
        refine z_iconst d_X8_isGood_28 ki_1 ?_
        refine z_isub d_X8_isGood_29 ?_
        refine z_topi (y := iI ((i : Int) - 1)) (iI_sub (i : Int) 1) ?_
        refine z_cVi d_X8_isGood_30 q_X8_isGood_270 (by first | rfl | assumption) (by omega) ⟨rfl, rfl⟩ (ct_X8_isHigh (z := (i : Int) - 1) hR hP hI ha (by omega) (by omega)) rfl rfl rfl ⟨Nat.zero_le _, Nat.zero_le _⟩ ?_
        refine z_if_ne d_X8_isGood_33 (fun h_33 => ?_) (fun h_33 => ?_)
        · refine z_iconst d_X8_isGood_40 ki_0 ?_
          refine z_topi (y := b2i (bg P a i)) (by unfold bg; first | (rw [b0 h_22]; rfl) | (rw [b1 h_22, b1 h_33]; rfl) | (rw [b1 h_22, b0 h_33]; rfl)) ?_
          refine z_cSi d_X8_isGood_41 q_X8_isGood_237 ⟨rfl, rfl⟩ (ct_X8_flag (b := bg P a i)) rfl rfl rfl ⟨Nat.zero_le _, Nat.zero_le _⟩ ?_
          refine z_iadd d_X8_isGood_44 ?_
          refine z_istore2 d_X8_isGood_45 rfl ?_
          refine z_iinc3 d_X8_isGood_46 ki_1 rfl ?_
          refine z_goto d_X8_isGood_49 ?_
          rw [nI_1]
          exact ih hlt
        · refine z_iconst d_X8_isGood_36 ki_1 ?_
          refine z_goto d_X8_isGood_37 ?_
          refine z_topi (y := b2i (bg P a i)) (by unfold bg; first | (rw [b0 h_22]; rfl) | (rw [b1 h_22, b1 h_33]; rfl) | (rw [b1 h_22, b0 h_33]; rfl)) ?_
          refine z_cSi d_X8_isGood_41 q_X8_isGood_237 ⟨rfl, rfl⟩ (ct_X8_flag (b := bg P a i)) rfl rfl rfl ⟨Nat.zero_le _, Nat.zero_le _⟩ ?_
          refine z_iadd d_X8_isGood_44 ?_
          refine z_istore2 d_X8_isGood_45 rfl ?_
          refine z_iinc3 d_X8_isGood_46 ki_1 rfl ?_
          refine z_goto d_X8_isGood_49 ?_
          rw [nI_1]
          exact ih hlt
  refine loop _ ?_ 0 (Nat.zero_le P)
  generalize cntV (fun g => bg P a g) P = c
  refine z_iload_n d_X8_isGood_52 rfl ?_
  refine z_iconst d_X8_isGood_53 ki_1 ?_
  refine z_icmp_ne d_X8_isGood_54 (fun h_54 => ?_) (fun h_54 => ?_)
  · refine z_iconst d_X8_isGood_61 ki_0 ?_
    exact z_zreturn d_X8_isGood_62 rfl rfl ⟨by simp [b2i, h_54], rfl, rfl, rfl, rfl⟩
  · refine z_iconst d_X8_isGood_57 ki_1 ?_
    refine z_goto d_X8_isGood_58 ?_
    exact z_zreturn d_X8_isGood_62 rfl rfl ⟨by simp [b2i, h_54], rfl, rfl, rfl, rfl⟩
set_option maxRecDepth 100000 in
set_option maxHeartbeats 4000000 in
theorem ct_X8_beginOf {E : zE} {I : zI} {L : zL} {R : zR} {P a : Nat} {z : Int} (hR : zLx R) (hP : P = 3 ∨ P = 4) (hI : I 68 6 = nI P) (ha : a < 2 ^ P - 1) (h1 : -200 ≤ z) (h2 : z ≤ 200) : zCf E m_X8_beginOf zShF [.ref 64, .int (nI a), .int (iI z)] I L R (some (.int (iI (fstL P a P z)))) (I) (L) (R) := by
  have hp2 := P2 hP
  refine z_met (by decide) [some (.ref 64), some (.int (nI a)), some (.int (iI z)), none] rfl rfl (Nat.le_of_ble_eq_true rfl) (fun X => ?_)
  refine z_iload_n d_X8_beginOf_0 rfl ?_
  refine z_istore3 d_X8_beginOf_1 rfl ?_
  have loop : ∀ (Qs : State → Prop) (r : Int), (zZ E m_X8_beginOf X Qs zShF 0 0 19 [some (.ref 64), some (.int (nI a)), some (.int (iI z)), some (.int (iI r))] [] I L R) → ∀ (n : Nat) (y : Int), n ≤ P → y = z - P + n → (∀ k : Nat, k + n < P → hi P a (z - 1 - k) = true) → fstL P a n y = r → zZ E m_X8_beginOf X Qs zShF 0 0 2 [some (.ref 64), some (.int (nI a)), some (.int (iI z)), some (.int (iI y))] [] I L R := by
    intro Qs r hx n
    induction n with
    | zero =>
      intro y hnP hy hall hr
      exfalso
      obtain ⟨k, hk, hh⟩ := gap hP ha z
      rw [hall k (by omega)] at hh
      exact absurd hh (by decide)
    | succ n ih =>
      intro y hnP hy hall hr
      rw [fstL] at hr
      refine z_aload_n d_X8_beginOf_2 rfl ?_
      refine z_iload_n d_X8_beginOf_3 rfl ?_
      refine z_iload_n d_X8_beginOf_4 rfl ?_
      refine z_iconst d_X8_beginOf_5 ki_1 ?_
      refine z_isub d_X8_beginOf_6 ?_
      refine z_topi (y := iI (y - 1)) (iI_sub y 1) ?_
      refine z_cVi d_X8_beginOf_7 q_X8_beginOf_270 (by first | rfl | assumption) (by omega) ⟨rfl, rfl⟩ (ct_X8_isHigh hR hP hI (by omega) (by omega) (by omega)) rfl rfl rfl ⟨Nat.zero_le _, Nat.zero_le _⟩ ?_
      refine z_if_eq d_X8_beginOf_10 (fun h_10 => ?_) (fun h_10 => ?_)
      · rw [if_neg (by rw [b0 h_10]; decide)] at hr
        subst hr
        exact hx
      · refine z_iinc3 d_X8_beginOf_13 ki_m1 rfl ?_
        refine z_goto d_X8_beginOf_16 ?_
        rw [if_pos (b1 h_10)] at hr
        rw [iI_pred]
        refine ih (y - 1) (by omega) (by omega) (fun k hk => ?_) hr
        rcases Nat.lt_or_ge (k + (n + 1)) P with q | q
        · exact hall k q
        · have e : z - 1 - (k : Int) = y - 1 := by omega
          rw [e]; exact b1 h_10
  refine loop _ _ ?_ P z (Nat.le_refl P) (by omega) (fun k hk => absurd hk (by omega)) rfl
  refine z_iload_n d_X8_beginOf_19 rfl ?_
  exact z_ireturn d_X8_beginOf_20 rfl ⟨rfl, rfl, rfl, rfl, rfl⟩
set_option maxRecDepth 100000 in
set_option maxHeartbeats 4000000 in
theorem ct_X8_findMeets {E : zE} {I : zI} {L : zL} {R : zR} {P a b : Nat} {s : Int} (hR : zLx R) (hP : P = 3 ∨ P = 4) (hI : I 68 6 = nI P) (ha : a < 2 ^ P - 1) (hb : b < 2 ^ P - 1) (h1 : -180 ≤ s) (h2 : s ≤ 180) : zCf E m_X8_findMeets zShF [.ref 64, .int (nI a), .int (iI s), .int (nI b)] I L R (none) (mtI I (nI (mtV P a s b).1) (iI (mtV P a s b).2)) (L) (R) := by
  have hp2 := P2 hP
  have hN := mtN_lt hP ha s
  have hlo := mtN_lo P a P s hN
  have hhi := mtN_hi P a P s
  have hmv : mtV P a s b = mtS P b s (mtN P a P s) := rfl
  rw [hmv]
  generalize mtN P a P s = N at hN hlo hhi
  refine z_met (by decide) [some (.ref 64), some (.int (nI a)), some (.int (iI s)), some (.int (nI b)), none] rfl rfl (Nat.le_of_ble_eq_true rfl) (fun X => ?_)
  refine z_aload_n d_X8_findMeets_0 rfl ?_
  refine z_iconst d_X8_findMeets_1 ki_0 ?_
  refine z_putI d_X8_findMeets_2 f_X8_273 p_X8_28 (by first | rfl | assumption) (by omega) ?_
  refine z_aload_n d_X8_findMeets_5 rfl ?_
  refine z_iconst d_X8_findMeets_6 ki_0 ?_
  refine z_putI d_X8_findMeets_7 f_X8_276 p_X8_29 (by first | rfl | assumption) (by omega) ?_
  rw [mtI_mk]
  refine z_iload_n d_X8_findMeets_10 rfl ?_
  refine z_istore4 d_X8_findMeets_11 rfl ?_
  have hIm : ∀ x y, mtI I x y 68 6 = nI P := fun x y => by rw [mtI_ne (by decide)]; exact hI
  have loop : ∀ (Qs : State → Prop), (∀ o4 : Option Value, zZ E m_X8_findMeets X Qs zShF 0 0 81 [some (.ref 64), some (.int (nI a)), some (.int (iI s)), some (.int (nI b)), o4] [] (mtI I (nI (mtS P b s N).1) (iI (mtS P b s N).2)) L R) → ∀ k, k ≤ N → zZ E m_X8_findMeets X Qs zShF 0 0 13 [some (.ref 64), some (.int (nI a)), some (.int (iI s)), some (.int (nI b)), some (.int (iI (s + k)))] [] (mtI I (nI (mtS P b s k).1) (iI (mtS P b s k).2)) L R := by
    intro Qs hx
    refine up_rec (fun k hk ih => ?_)
    have hmb := mtS_b P b s k
    refine z_aload_n d_X8_findMeets_13 rfl ?_
    refine z_iload_n d_X8_findMeets_14 rfl ?_
    refine z_iload d_X8_findMeets_15 rfl ?_
    refine z_cVi d_X8_findMeets_17 q_X8_findMeets_270 (by first | rfl | assumption) (by omega) ⟨rfl, rfl⟩ (ct_X8_isHigh hR hP (hIm _ _) (by omega) (by omega) (by omega)) rfl rfl rfl ⟨Nat.zero_le _, Nat.zero_le _⟩ ?_
    refine z_if_eq d_X8_findMeets_20 (fun h_20 => ?_) (fun h_20 => ?_)
    · have e : k = N := by
        rcases Nat.lt_or_ge k N with q | q
        · exact absurd (hhi k q) (by rw [b0 h_20]; decide)
        · omega
      subst e
      exact hx _
    · have hkN : k < N := by
        rcases Nat.lt_or_ge k N with q | q
        · exact q
        · have e : k = N := by omega
          subst e
          exact absurd hlo (by rw [b1 h_20]; decide)
      refine z_aload_n d_X8_findMeets_23 rfl ?_
      refine z_iload_n d_X8_findMeets_24 rfl ?_
      refine z_iload d_X8_findMeets_25 rfl ?_
      refine z_cVi d_X8_findMeets_27 q_X8_findMeets_270 (by first | rfl | assumption) (by omega) ⟨rfl, rfl⟩ (ct_X8_isHigh hR hP (hIm _ _) (by omega) (by omega) (by omega)) rfl rfl rfl ⟨Nat.zero_le _, Nat.zero_le _⟩ ?_
      refine z_if_eq d_X8_findMeets_30 (fun h_30 => ?_) (fun h_30 => ?_)
      · refine z_iinc4 d_X8_findMeets_75 ki_1 rfl ?_
        refine z_goto d_X8_findMeets_78 ?_
        have h := ih hkN
        rw [mtS, if_neg (fun q => by rw [b0 h_30] at q; exact absurd q.1 (by decide))] at h
        rw [show iI (s + k) + 1 = iI (s + ((k + 1 : Nat) : Int)) from by rw [show ((1 : Int32)) = iI 1 from rfl, iI_add]; congr 1; omega]
        exact h
      · refine z_aload_n d_X8_findMeets_33 rfl ?_
        refine z_getI d_X8_findMeets_34 f_X8_273 (by first | rfl | assumption) (by omega) ?_
        rw [mtI_28]
        refine z_if_eq d_X8_findMeets_37 (fun h_37 => ?_) (fun h_37 => ?_)
        · refine z_aload_n d_X8_findMeets_54 rfl ?_
          refine z_aload_n d_X8_findMeets_55 rfl ?_
          refine z_iload_n d_X8_findMeets_56 rfl ?_
          refine z_iload d_X8_findMeets_57 rfl ?_
          refine z_cVi d_X8_findMeets_59 q_X8_findMeets_279 (by first | rfl | assumption) (by omega) ⟨rfl, rfl⟩ (ct_X8_beginOf hR hP (hIm _ _) hb (by omega) (by omega)) rfl rfl rfl ⟨Nat.zero_le _, Nat.zero_le _⟩ ?_
          refine z_putI d_X8_findMeets_62 f_X8_276 p_X8_29 (by first | rfl | assumption) (by omega) ?_
          rw [mtI_z29]
          refine z_aload_n d_X8_findMeets_65 rfl ?_
          refine z_dup d_X8_findMeets_66 rfl ?_
          refine z_getI d_X8_findMeets_67 f_X8_273 (by first | rfl | assumption) (by omega) ?_
          rw [mtI_28]
          refine z_iconst d_X8_findMeets_70 ki_1 ?_
          refine z_iadd d_X8_findMeets_71 ?_
          refine z_putI d_X8_findMeets_72 f_X8_273 p_X8_28 (by first | rfl | assumption) (by omega) ?_
          skip
          refine z_iinc4 d_X8_findMeets_75 ki_1 rfl ?_
          refine z_goto d_X8_findMeets_78 ?_
          have h := ih hkN
          rw [mtI_z28]
          rw [show iI (s + k) + 1 = iI (s + ((k + 1 : Nat) : Int)) from by rw [show ((1 : Int32)) = iI 1 from rfl, iI_add]; congr 1; omega]
          rw [nI_1]
          have hc : hi P b (s + k) = true ∧ ((mtS P b s k).1 = 0 ∨ fstL P b P (s + k) ≠ (mtS P b s k).2) := by
            first
              | exact ⟨b1 h_30, Or.inr (fun q => h_51 (by rw [q]))⟩
              | exact ⟨b1 h_30, Or.inl ((nI_eq (a := (mtS P b s k).1) (b := 0) (by omega) (by decide)).mp h_37)⟩
          rw [mtS, if_pos hc] at h
          exact h
        · refine z_aload_n d_X8_findMeets_40 rfl ?_
          refine z_iload_n d_X8_findMeets_41 rfl ?_
          refine z_iload d_X8_findMeets_42 rfl ?_
          refine z_cVi d_X8_findMeets_44 q_X8_findMeets_279 (by first | rfl | assumption) (by omega) ⟨rfl, rfl⟩ (ct_X8_beginOf hR hP (hIm _ _) hb (by omega) (by omega)) rfl rfl rfl ⟨Nat.zero_le _, Nat.zero_le _⟩ ?_
          refine z_aload_n d_X8_findMeets_47 rfl ?_
          refine z_getI d_X8_findMeets_48 f_X8_276 (by first | rfl | assumption) (by omega) ?_
          rw [mtI_29]
          have hfb := fstL_b P b P (s + k)
          refine z_icmp_eq d_X8_findMeets_51 (fun h_51 => ?_) (fun h_51 => ?_)
          · refine z_iinc4 d_X8_findMeets_75 ki_1 rfl ?_
            refine z_goto d_X8_findMeets_78 ?_
            have h := ih hkN
            have e1 : ¬ (mtS P b s k).1 = 0 := fun q => h_37 (by rw [q]; rfl)
            have e2 : fstL P b P (s + k) = (mtS P b s k).2 := (iI_eq (by omega) (by omega) (by omega) (by omega)).mp h_51
            rw [mtS, if_neg (fun q => by rcases q.2 with q2 | q2; exact e1 q2; exact q2 e2)] at h
            rw [show iI (s + k) + 1 = iI (s + ((k + 1 : Nat) : Int)) from by rw [show ((1 : Int32)) = iI 1 from rfl, iI_add]; congr 1; omega]
            exact h
          · refine z_aload_n d_X8_findMeets_54 rfl ?_
            refine z_aload_n d_X8_findMeets_55 rfl ?_
            refine z_iload_n d_X8_findMeets_56 rfl ?_
            refine z_iload d_X8_findMeets_57 rfl ?_
            refine z_cVi d_X8_findMeets_59 q_X8_findMeets_279 (by first | rfl | assumption) (by omega) ⟨rfl, rfl⟩ (ct_X8_beginOf hR hP (hIm _ _) hb (by omega) (by omega)) rfl rfl rfl ⟨Nat.zero_le _, Nat.zero_le _⟩ ?_
            refine z_putI d_X8_findMeets_62 f_X8_276 p_X8_29 (by first | rfl | assumption) (by omega) ?_
            rw [mtI_z29]
            refine z_aload_n d_X8_findMeets_65 rfl ?_
            refine z_dup d_X8_findMeets_66 rfl ?_
            refine z_getI d_X8_findMeets_67 f_X8_273 (by first | rfl | assumption) (by omega) ?_
            rw [mtI_28]
            refine z_iconst d_X8_findMeets_70 ki_1 ?_
            refine z_iadd d_X8_findMeets_71 ?_
            refine z_putI d_X8_findMeets_72 f_X8_273 p_X8_28 (by first | rfl | assumption) (by omega) ?_
            skip
            refine z_iinc4 d_X8_findMeets_75 ki_1 rfl ?_
            refine z_goto d_X8_findMeets_78 ?_
            have h := ih hkN
            rw [mtI_z28]
            rw [show iI (s + k) + 1 = iI (s + ((k + 1 : Nat) : Int)) from by rw [show ((1 : Int32)) = iI 1 from rfl, iI_add]; congr 1; omega]
            rw [nI_1]
            have hc : hi P b (s + k) = true ∧ ((mtS P b s k).1 = 0 ∨ fstL P b P (s + k) ≠ (mtS P b s k).2) := by
              first
                | exact ⟨b1 h_30, Or.inr (fun q => h_51 (by rw [q]))⟩
                | exact ⟨b1 h_30, Or.inl ((nI_eq (a := (mtS P b s k).1) (b := 0) (by omega) (by decide)).mp h_37)⟩
            rw [mtS, if_pos hc] at h
            exact h
  refine z_ls (by rw [show s + ((0 : Nat) : Int) = s by omega]) (loop _ (fun o4 => ?_) 0 (Nat.zero_le N))
  exact z_return d_X8_findMeets_81 rfl ⟨rfl, rfl, rfl, rfl, rfl⟩
set_option maxRecDepth 100000 in
set_option maxHeartbeats 4000000 in
theorem ct_X8_wrong {E : zE} {I : zI} {L : zL} {R : zR} {P a b : Nat} {s : Int} (hR : zLx R) (hP : P = 3 ∨ P = 4) (hI : I 68 6 = nI P) (ha : a < 2 ^ P - 1) (hb : b < 2 ^ P) (h1 : -180 ≤ s) (h2 : s ≤ 180) : zCf E m_X8_wrong zShF [.ref 64, .int (nI a), .int (iI s), .int (nI b)] I L R (some (.int (nI (wgV P a s b)))) (if b = 2 ^ P - 1 then I else mtI I (nI (mtV P a s b).1) (iI (mtV P a s b).2)) (L) (R) := by
  have hp2 := P2 hP
  have hmb := mtV_b (a := a) hP s b
  unfold wgV
  refine z_met (by decide) [some (.ref 64), some (.int (nI a)), some (.int (iI s)), some (.int (nI b))] rfl rfl (Nat.le_of_ble_eq_true rfl) (fun X => ?_)
  refine z_iload_n d_X8_wrong_0 rfl ?_
  refine z_aload_n d_X8_wrong_1 rfl ?_
  refine z_cVi d_X8_wrong_2 q_X8_wrong_267 (by first | rfl | assumption) (by omega) ⟨rfl, rfl⟩ (ct_X8_full_ hR hP (by first | assumption | simp [*])) rfl rfl rfl ⟨Nat.zero_le _, Nat.zero_le _⟩ ?_
  refine z_icmp_ne d_X8_wrong_5 (fun h_5 => ?_) (fun h_5 => ?_)
  · have hb1 : ¬ b = 2 ^ P - 1 := fun q => h_5 (by rw [q])
    rw [if_neg hb1, if_neg hb1]
    refine z_aload_n d_X8_wrong_10 rfl ?_
    refine z_iload_n d_X8_wrong_11 rfl ?_
    refine z_iload_n d_X8_wrong_12 rfl ?_
    refine z_iload_n d_X8_wrong_13 rfl ?_
    refine z_cVv d_X8_wrong_14 q_X8_wrong_282 (by first | rfl | assumption) (by omega) ⟨rfl, rfl⟩ (ct_X8_findMeets hR hP hI ha (by omega) h1 h2) rfl rfl rfl ⟨Nat.zero_le _, Nat.zero_le _⟩ ?_
    refine z_aload_n d_X8_wrong_17 rfl ?_
    refine z_getI d_X8_wrong_18 f_X8_273 (by first | rfl | assumption) (by omega) ?_
    rw [mtI_28]
    refine z_if_ne d_X8_wrong_21 (fun h_21 => ?_) (fun h_21 => ?_)
    · have e : ¬ (mtV P a s b).1 = 0 := fun q => h_21 (by rw [q]; rfl)
      refine z_aload_n d_X8_wrong_28 rfl ?_
      refine z_getI d_X8_wrong_29 f_X8_273 (by first | rfl | assumption) (by omega) ?_
      rw [mtI_28]
      refine z_iconst d_X8_wrong_32 ki_1 ?_
      refine z_icmp_le d_X8_wrong_33 (fun h_33 => ?_) (fun h_33 => ?_)
      · refine z_iconst d_X8_wrong_40 ki_0 ?_
        exact z_ireturn d_X8_wrong_41 rfl ⟨by rw [if_neg e]; first | (rw [if_neg (show ¬ 1 < (mtV P a s b).1 from fun q => absurd h_33 (Int32.not_le.mpr (nI_lt (a := 1) q (by omega))))]; rfl) | (rw [if_pos (show 1 < (mtV P a s b).1 from (nI_ltI (a := 1) (by decide) (by omega)).mp (Int32.not_le.mp h_33))]; rfl), rfl, rfl, rfl, rfl⟩
      · refine z_iconst d_X8_wrong_36 ki_2 ?_
        refine z_goto d_X8_wrong_37 ?_
        exact z_ireturn d_X8_wrong_41 rfl ⟨by rw [if_neg e]; first | (rw [if_neg (show ¬ 1 < (mtV P a s b).1 from fun q => absurd h_33 (Int32.not_le.mpr (nI_lt (a := 1) q (by omega))))]; rfl) | (rw [if_pos (show 1 < (mtV P a s b).1 from (nI_ltI (a := 1) (by decide) (by omega)).mp (Int32.not_le.mp h_33))]; rfl), rfl, rfl, rfl, rfl⟩
    · have e : (mtV P a s b).1 = 0 := (nI_eq (a := (mtV P a s b).1) (b := 0) (by omega) (by decide)).mp h_21
      refine z_iconst d_X8_wrong_24 ki_1 ?_
      refine z_goto d_X8_wrong_25 ?_
      exact z_ireturn d_X8_wrong_41 rfl ⟨by rw [if_pos e]; rfl, rfl, rfl, rfl, rfl⟩
  · have hb1 : b = 2 ^ P - 1 := (nI_eq (by omega) (by omega)).mp h_5
    refine z_iconst d_X8_wrong_8 ki_3 ?_
    exact z_ireturn d_X8_wrong_9 rfl ⟨by rw [if_pos hb1]; rfl, rfl, by rw [if_pos hb1], rfl, rfl⟩
set_option maxRecDepth 100000 in
set_option maxHeartbeats 4000000 in
theorem ct_X8_goesTo {E : zE} {I : zI} {L : zL} {R : zR} {P a b : Nat} {s : Int} (hR : zLx R) (hP : P = 3 ∨ P = 4) (hI : I 68 6 = nI P) (ha : a < 2 ^ P - 1) (hb : b < 2 ^ P - 1) (h1 : -180 ≤ s) (h2 : s ≤ 180) : zCf E m_X8_goesTo zShF [.ref 64, .int (nI a), .int (iI s), .int (nI b)] I L R (some (.int (iI (mtV P a s b).2))) (mtI I (nI (mtV P a s b).1) (iI (mtV P a s b).2)) (L) (R) := by
  refine z_met (by decide) [some (.ref 64), some (.int (nI a)), some (.int (iI s)), some (.int (nI b))] rfl rfl (Nat.le_of_ble_eq_true rfl) (fun X => ?_)
  refine z_aload_n d_X8_goesTo_0 rfl ?_
  refine z_iload_n d_X8_goesTo_1 rfl ?_
  refine z_iload_n d_X8_goesTo_2 rfl ?_
  refine z_iload_n d_X8_goesTo_3 rfl ?_
  refine z_cVv d_X8_goesTo_4 q_X8_goesTo_282 (by first | rfl | assumption) (by omega) ⟨rfl, rfl⟩ (ct_X8_findMeets hR hP hI ha hb h1 h2) rfl rfl rfl ⟨Nat.zero_le _, Nat.zero_le _⟩ ?_
  refine z_aload_n d_X8_goesTo_7 rfl ?_
  refine z_getI d_X8_goesTo_8 f_X8_276 (by first | rfl | assumption) (by omega) ?_
  exact z_ireturn d_X8_goesTo_11 rfl ⟨by rw [mtI_29], rfl, rfl, rfl, rfl⟩
set_option maxRecDepth 100000 in
set_option maxHeartbeats 4000000 in
theorem ct_X8_firstBegin {E : zE} {I : zI} {L : zL} {R : zR} {P a : Nat} (hR : zLx R) (hP : P = 3 ∨ P = 4) (hI : I 68 6 = nI P) (ha : a < 16) (hg : ∃ g : Nat, g < P ∧ bg P a g = true) : zCf E m_X8_firstBegin zShF [.ref 64, .int (nI a)] I L R (some (.int (nI (stV P a P 0)))) (I) (L) (R) := by
  refine z_met (by decide) [some (.ref 64), some (.int (nI a)), none] rfl rfl (Nat.le_of_ble_eq_true rfl) (fun X => ?_)
  refine z_iconst d_X8_firstBegin_0 ki_0 ?_
  refine z_istore2 d_X8_firstBegin_1 rfl ?_
  have loop : ∀ (Qs : State → Prop) (r : Nat), (zZ E m_X8_firstBegin X Qs zShF 0 0 28 [some (.ref 64), some (.int (nI a)), some (.int (nI r))] [] I L R) → ∀ n i, n + i = P → (∀ k : Nat, k < i → bg P a k = false) → stV P a n i = r → zZ E m_X8_firstBegin X Qs zShF 0 0 2 [some (.ref 64), some (.int (nI a)), some (.int (nI i))] [] I L R := by
    intro Qs r hx n
    induction n with
    | zero =>
      intro i hn hall hr
      exfalso
      obtain ⟨g, h1, h2⟩ := hg
      rw [hall g (by omega)] at h2
      exact absurd h2 (by decide)
    | succ n ih =>
      intro i hn hall hr
      rw [stV] at hr
      have hstep : bg P a i = false → zZ E m_X8_firstBegin X Qs zShF 0 0 22 [some (.ref 64), some (.int (nI a)), some (.int (nI i))] [] I L R := by
        intro hb
        refine z_iinc2 d_X8_firstBegin_22 ki_1 rfl ?_
        refine z_goto d_X8_firstBegin_25 ?_
        rw [nI_1]
        rw [if_neg (by rw [hb]; decide)] at hr
        refine ih (i + 1) (by omega) (fun k hk => ?_) hr
        rcases Nat.lt_or_ge k i with q | q
        · exact hall k q
        · rw [show k = i by omega]; exact hb
      refine z_aload_n d_X8_firstBegin_2 rfl ?_
      refine z_iload_n d_X8_firstBegin_3 rfl ?_
      refine z_iload_n d_X8_firstBegin_4 rfl ?_
      refine z_cVi d_X8_firstBegin_5 q_X8_firstBegin_270 (by first | rfl | assumption) (by omega) ⟨rfl, rfl⟩ (ct_X8_isHigh (z := (i : Int)) hR hP hI ha (by omega) (by omega)) rfl rfl rfl ⟨Nat.zero_le _, Nat.zero_le _⟩ ?_
      refine z_if_eq d_X8_firstBegin_8 (fun h_8 => ?_) (fun h_8 => ?_)
      · exact hstep (by unfold bg; rw [b0 h_8]; rfl)
      · refine z_aload_n d_X8_firstBegin_11 rfl ?_
        refine z_iload_n d_X8_firstBegin_12 rfl ?_
        refine z_iload_n d_X8_firstBegin_13 rfl ?_
        refine z_iconst d_X8_firstBegin_14 ki_1 ?_
        refine z_isub d_X8_firstBegin_15 ?_
        refine z_topi (y := iI ((i : Int) - 1)) (iI_sub (i : Int) 1) ?_
        refine z_cVi d_X8_firstBegin_16 q_X8_firstBegin_270 (by first | rfl | assumption) (by omega) ⟨rfl, rfl⟩ (ct_X8_isHigh (z := (i : Int) - 1) hR hP hI ha (by omega) (by omega)) rfl rfl rfl ⟨Nat.zero_le _, Nat.zero_le _⟩ ?_
        refine z_if_eq d_X8_firstBegin_19 (fun h_19 => ?_) (fun h_19 => ?_)
        · rw [if_pos (by unfold bg; rw [b1 h_8, b0 h_19]; rfl)] at hr
          subst hr
          exact hx
        · exact hstep (by unfold bg; rw [b1 h_8, b1 h_19]; rfl)
  refine loop _ _ ?_ P 0 (by omega) (fun k hk => absurd hk (by omega)) rfl
  refine z_iload_n d_X8_firstBegin_28 rfl ?_
  exact z_ireturn d_X8_firstBegin_29 rfl ⟨rfl, rfl, rfl, rfl, rfl⟩
set_option maxRecDepth 100000 in
set_option maxHeartbeats 4000000 in
theorem ct_X8_wells {E : zE} {I : zI} {L : zL} {R : zR} {P : Nat} {z : Int} (hR : zLx R) (hP : P = 3 ∨ P = 4) (hI : I 68 6 = nI P) (h1 : -220 ≤ z) (h2 : z ≤ 220) : zCf E m_X8_wells zShF [.ref 64, .int (iI z)] I L R (some (.int (iI (z.ediv P)))) (I) (L) (R) := by
  have hm := (rm_of hP (z := z) (by omega) (by omega)).2
  refine z_met (by decide) [some (.ref 64), some (.int (iI z)), none] rfl rfl (Nat.le_of_ble_eq_true rfl) (fun X => ?_)
  refine z_aload_n d_X8_wells_0 rfl ?_
  refine z_getR d_X8_wells_1 f_X8_21 (by first | rfl | assumption) (by omega) (by first | exact hR _ _ _ rfl | rfl | assumption) ?_
  refine z_bipush d_X8_wells_4 kb_6 ?_
  refine z_iaload d_X8_wells_6 (by first | rfl | assumption) (by omega) (zix_lit 6 (by decide)) ?_
  rw [hI]
  refine z_istore2 d_X8_wells_7 rfl ?_
  refine z_iload_n d_X8_wells_8 rfl ?_
  refine z_if_lt d_X8_wells_9 (fun h_9 => ?_) (fun h_9 => ?_)
  · refine z_iload_n d_X8_wells_18 rfl ?_
    refine z_iconst d_X8_wells_19 ki_1 ?_
    refine z_isub d_X8_wells_20 ?_
    refine z_iload_n d_X8_wells_21 rfl ?_
    refine z_isub d_X8_wells_22 ?_
    refine z_iload_n d_X8_wells_23 rfl ?_
    refine z_idiv d_X8_wells_24 (nI_ne0 (by omega) (by omega)) ?_
    refine z_ineg d_X8_wells_25 ?_
    exact z_ireturn d_X8_wells_26 rfl ⟨by rw [← hm]; unfold wlV; first | rw [if_pos h_9] | rw [if_neg h_9], rfl, rfl, rfl, rfl⟩
  · refine z_iload_n d_X8_wells_12 rfl ?_
    refine z_iload_n d_X8_wells_13 rfl ?_
    refine z_idiv d_X8_wells_14 (nI_ne0 (by omega) (by omega)) ?_
    refine z_goto d_X8_wells_15 ?_
    exact z_ireturn d_X8_wells_26 rfl ⟨by rw [← hm]; unfold wlV; first | rw [if_pos h_9] | rw [if_neg h_9], rfl, rfl, rfl, rfl⟩
