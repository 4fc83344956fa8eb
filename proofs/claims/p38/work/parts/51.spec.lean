def fstL (P a : Nat) : Nat → Int → Int
  | 0, z => z
  | n + 1, z => if hi P a (z - 1) = true then fstL P a n (z - 1) else z
def lstL (P a : Nat) : Nat → Int → Int
  | 0, z => z
  | n + 1, z => if hi P a (z + 1) = true then lstL P a n (z + 1) else z
theorem fstL_b (P a : Nat) : ∀ (n : Nat) (z : Int), z - n ≤ fstL P a n z ∧ fstL P a n z ≤ z
  | 0, z => by simp [fstL]
  | n + 1, z => by
    unfold fstL
    split
    · have := fstL_b P a n (z - 1); omega
    · omega
theorem lstL_b (P a : Nat) : ∀ (n : Nat) (z : Int), z ≤ lstL P a n z ∧ lstL P a n z ≤ z + n
  | 0, z => by simp [lstL]
  | n + 1, z => by
    unfold lstL
    split
    · have := lstL_b P a n (z + 1); omega
    · omega
/-- the GATES of a REGION that are HIGH in another WORD, from s on: how many times they begin, the last such one -/
def frS (P b : Nat) (s : Int) : Nat → Nat × Int
  | 0 => (0, s)
  | k + 1 => if hi P b (s + k) = true ∧ (k = 0 ∨ hi P b (s + k - 1) = false) then ((frS P b s k).1 + 1, s + k) else frS P b s k
theorem frS_b (P b : Nat) (s : Int) : ∀ k, (frS P b s k).1 ≤ k ∧ s ≤ (frS P b s k).2 ∧ (frS P b s k).2 ≤ s + k
  | 0 => by simp [frS]
  | k + 1 => by
    have := frS_b P b s k
    unfold frS
    split
    · simp; omega
    · omega
/-- what a PACKET under the REGION from s on meets as b comes; where it lands -/
def farV (P a : Nat) (s : Int) (b : Nat) : Nat × Option Int :=
  if (frS P b s (lstL P a P s - s + 1).toNat).1 = 1 then
    (if b = 2 ^ P - 1 then (3, none) else (0, some (fstL P b P (frS P b s (lstL P a P s - s + 1).toNat).2)))
  else if (frS P b s (lstL P a P s - s + 1).toNat).1 = 0 then (1, none) else (2, none)
theorem iI_m1 : (-1 : Int32) = iI (-1) := by decide
theorem iI_pred (y : Int) : iI y + -1 = iI (y - 1) := by rw [iI_m1, iI_add]; congr 1
def ldI (I : zI) (o : Option Int) : zI := match o with
  | none => I
  | some f => zi I 37 1 (iI f)
def stV (P a : Nat) : Nat → Nat → Nat
  | 0, _ => 0
  | n + 1, g => if bg P a g = true then g else stV P a n (g + 1)
theorem ldI_0 {I : zI} {o : Option Int} {j : Nat} (h : j ≠ 1) : ldI I o 37 j = I 37 j := by
  cases o with
  | none => rfl
  | some f => exact zi_at2 h
theorem ldI_ne {I : zI} {o : Option Int} {k : Nat} (h : k ≠ 37) : ldI I o k = I k := by
  cases o with
  | none => rfl
  | some f => exact zi_ne h
set_option maxRecDepth 100000 in
set_option maxHeartbeats 4000000 in
theorem ct_X1_beginsAt {E : zE} {I : zI} {L : zL} {R : zR} {P a : Nat} {z : Int} (hR : zLx R) (hP : P = 3 ∨ P = 4) (hI : I 37 0 = nI P) (ha : a < 16) (h1 : -199 ≤ z) (h2 : z ≤ 199) : zCf E m_X1_beginsAt zShF [.ref 37, .int (nI a), .int (iI z)] I L R (some (.int (b2i (bg P a z)))) (I) (L) (R) := by
  refine z_met (by decide) [some (.ref 37), some (.int (nI a)), some (.int (iI z))] rfl rfl (Nat.le_of_ble_eq_true rfl) (fun X => ?_)
  refine z_aload_n d_X1_beginsAt_0 rfl ?_
  refine z_iload_n d_X1_beginsAt_1 rfl ?_
  refine z_iload_n d_X1_beginsAt_2 rfl ?_
  refine z_cVi d_X1_beginsAt_3 q_X1_beginsAt_50 (by first | rfl | assumption) (by omega) ⟨rfl, rfl⟩ (ct_X1_isHigh hR hP hI (by omega) (by omega) (by omega)) rfl rfl rfl ⟨Nat.zero_le _, Nat.zero_le _⟩ ?_
  refine z_if_eq d_X1_beginsAt_6 (fun h_6 => ?_) (fun h_6 => ?_)
  · refine z_iconst d_X1_beginsAt_24 ki_0 ?_
    exact z_zreturn d_X1_beginsAt_25 rfl rfl ⟨by rw [bg, b0 h_6]; rfl, rfl, rfl, rfl, rfl⟩
  · refine z_aload_n d_X1_beginsAt_9 rfl ?_
    refine z_iload_n d_X1_beginsAt_10 rfl ?_
    refine z_iload_n d_X1_beginsAt_11 rfl ?_
    refine z_iconst d_X1_beginsAt_12 ki_1 ?_
    refine z_isub d_X1_beginsAt_13 ?_
    refine z_topi (y := iI (z - 1)) (iI_sub z 1) ?_
    refine z_cVi d_X1_beginsAt_14 q_X1_beginsAt_50 (by first | rfl | assumption) (by omega) ⟨rfl, rfl⟩ (ct_X1_isHigh hR hP hI (by omega) (by omega) (by omega)) rfl rfl rfl ⟨Nat.zero_le _, Nat.zero_le _⟩ ?_
    refine z_if_ne d_X1_beginsAt_17 (fun h_17 => ?_) (fun h_17 => ?_)
    · refine z_iconst d_X1_beginsAt_24 ki_0 ?_
      exact z_zreturn d_X1_beginsAt_25 rfl rfl ⟨by rw [bg, b1 h_6, b1 h_17]; rfl, rfl, rfl, rfl, rfl⟩
    · refine z_iconst d_X1_beginsAt_20 ki_1 ?_
      refine z_goto d_X1_beginsAt_21 ?_
      exact z_zreturn d_X1_beginsAt_25 rfl rfl ⟨by rw [bg, b1 h_6, b0 h_17]; rfl, rfl, rfl, rfl, rfl⟩
set_option maxRecDepth 100000 in
set_option maxHeartbeats 4000000 in
theorem ct_X1_isGood {E : zE} {I : zI} {L : zL} {R : zR} {P a : Nat} (hR : zLx R) (hP : P = 3 ∨ P = 4) (hI : I 37 0 = nI P) (ha : a < 16) : zCf E m_X1_isGood zShF [.ref 37, .int (nI a)] I L R (some (.int (b2i (decide (cntV (fun g => bg P a g) P = 1))))) (I) (L) (R) := by
  refine z_met (by decide) [some (.ref 37), some (.int (nI a)), none, none] rfl rfl (Nat.le_of_ble_eq_true rfl) (fun X => ?_)
  refine z_iconst d_X1_isGood_0 ki_0 ?_
  refine z_istore2 d_X1_isGood_1 rfl ?_
  refine z_iconst d_X1_isGood_2 ki_0 ?_
  refine z_istore3 d_X1_isGood_3 rfl ?_
  have loop : ∀ (Qs : State → Prop), (zZ E m_X1_isGood X Qs zShF 0 0 35 [some (.ref 37), some (.int (nI a)), some (.int (cntV (fun g => bg P a g) P)), some (.int (nI P))] [] I L R) → ∀ i, i ≤ P → zZ E m_X1_isGood X Qs zShF 0 0 4 [some (.ref 37), some (.int (nI a)), some (.int (cntV (fun g => bg P a g) i)), some (.int (nI i))] [] I L R := by
    intro Qs hx
    refine up_rec (fun i hi ih => ?_)
    refine z_iload_n d_X1_isGood_4 rfl ?_
    refine z_aload_n d_X1_isGood_5 rfl ?_
    refine z_getI d_X1_isGood_6 f_X1_34 (by first | rfl | assumption) (by omega) ?_
    rw [hI]
    refine z_icmp_ge d_X1_isGood_9 (fun h_9 => ?_) (fun h_9 => ?_)
    · obtain rfl := eq_of_ge (by omega) hi h_9
      exact hx
    · have hlt := lt_of_nge (by omega) h_9 (by omega)
      refine z_iload_n d_X1_isGood_12 rfl ?_
      refine z_aload_n d_X1_isGood_13 rfl ?_
      refine z_iload_n d_X1_isGood_14 rfl ?_
      refine z_iload_n d_X1_isGood_15 rfl ?_
      refine z_cVi d_X1_isGood_16 q_X1_isGood_54 (by first | rfl | assumption) (by omega) ⟨rfl, rfl⟩ (ct_X1_beginsAt (z := (i : Int)) hR hP hI ha (by omega) (by omega)) rfl rfl rfl ⟨Nat.zero_le _, Nat.zero_le _⟩ ?_
      refine z_if_eq d_X1_isGood_19 (fun h_19 => ?_) (fun h_19 => ?_)
      · refine z_iconst d_X1_isGood_26 ki_0 ?_
        refine z_iadd d_X1_isGood_27 ?_
        refine z_istore2 d_X1_isGood_28 rfl ?_
        refine z_iinc3 d_X1_isGood_29 ki_1 rfl ?_
        refine z_goto d_X1_isGood_32 ?_
        rw [nI_1]
        have h := ih hlt
        rw [cntV] at h
        first
          | (rw [show b2i (bg P a i) = 0 from by rw [b0 h_19]; rfl] at h; exact h)
          | (rw [show b2i (bg P a i) = 1 from by rw [b1 h_19]; rfl] at h; exact h)
      · refine z_iconst d_X1_isGood_22 ki_1 ?_
        refine z_goto d_X1_isGood_23 ?_
        refine z_iadd d_X1_isGood_27 ?_
        refine z_istore2 d_X1_isGood_28 rfl ?_
        refine z_iinc3 d_X1_isGood_29 ki_1 rfl ?_
        refine z_goto d_X1_isGood_32 ?_
        rw [nI_1]
        have h := ih hlt
        rw [cntV] at h
        first
          | (rw [show b2i (bg P a i) = 0 from by rw [b0 h_19]; rfl] at h; exact h)
          | (rw [show b2i (bg P a i) = 1 from by rw [b1 h_19]; rfl] at h; exact h)
  refine loop _ ?_ 0 (Nat.zero_le P)
  refine z_iload_n d_X1_isGood_35 rfl ?_
  refine z_iconst d_X1_isGood_36 ki_1 ?_
  refine z_icmp_ne d_X1_isGood_37 (fun h_37 => ?_) (fun h_37 => ?_)
  · refine z_iconst d_X1_isGood_44 ki_0 ?_
    exact z_zreturn d_X1_isGood_45 rfl rfl ⟨by simp [b2i, h_37], rfl, rfl, rfl, rfl⟩
  · refine z_iconst d_X1_isGood_40 ki_1 ?_
    refine z_goto d_X1_isGood_41 ?_
    exact z_zreturn d_X1_isGood_45 rfl rfl ⟨by simp [b2i, h_37], rfl, rfl, rfl, rfl⟩
set_option maxRecDepth 100000 in
set_option maxHeartbeats 4000000 in
theorem ct_X1_startOf {E : zE} {I : zI} {L : zL} {R : zR} {P a : Nat} (hR : zLx R) (hP : P = 3 ∨ P = 4) (hI : I 37 0 = nI P) (ha : a < 16) : zCf E m_X1_startOf zShF [.ref 37, .int (nI a)] I L R (some (.int (nI (stV P a P 0)))) (I) (L) (R) := by
  refine z_met (by decide) [some (.ref 37), some (.int (nI a)), none] rfl rfl (Nat.le_of_ble_eq_true rfl) (fun X => ?_)
  refine z_iconst d_X1_startOf_0 ki_0 ?_
  refine z_istore2 d_X1_startOf_1 rfl ?_
  have loop : ∀ (Qs : State → Prop) (r : Nat), (r = 0 → zZ E m_X1_startOf X Qs zShF 0 0 27 [some (.ref 37), some (.int (nI a)), some (.int (nI P))] [] I L R) → (zZ E m_X1_startOf X Qs zShF 0 0 19 [some (.ref 37), some (.int (nI a)), some (.int (nI r))] [] I L R) → ∀ n i, n + i = P → stV P a n i = r → zZ E m_X1_startOf X Qs zShF 0 0 2 [some (.ref 37), some (.int (nI a)), some (.int (nI i))] [] I L R := by
    intro Qs r hx hx2 n
    induction n with
    | zero =>
      intro i hn hr
      obtain rfl : i = P := by omega
      refine z_iload_n d_X1_startOf_2 rfl ?_
      refine z_aload_n d_X1_startOf_3 rfl ?_
      refine z_getI d_X1_startOf_4 f_X1_34 (by first | rfl | assumption) (by omega) ?_
      rw [hI]
      refine z_icmp_ge d_X1_startOf_7 (fun h_7 => ?_) (fun h_7 => absurd (Int32.le_refl _) h_7)
      exact hx hr.symm
    | succ n ih =>
      intro i hn hr
      rw [stV] at hr
      refine z_iload_n d_X1_startOf_2 rfl ?_
      refine z_aload_n d_X1_startOf_3 rfl ?_
      refine z_getI d_X1_startOf_4 f_X1_34 (by first | rfl | assumption) (by omega) ?_
      rw [hI]
      refine z_icmp_ge d_X1_startOf_7 (fun h_7 => absurd ((nI_leI (a := P) (b := i) (by omega) (by omega)).mp h_7) (by omega)) (fun h_7 => ?_)
      refine z_aload_n d_X1_startOf_10 rfl ?_
      refine z_iload_n d_X1_startOf_11 rfl ?_
      refine z_iload_n d_X1_startOf_12 rfl ?_
      refine z_cVi d_X1_startOf_13 q_X1_startOf_54 (by first | rfl | assumption) (by omega) ⟨rfl, rfl⟩ (ct_X1_beginsAt (z := (i : Int)) hR hP hI ha (by omega) (by omega)) rfl rfl rfl ⟨Nat.zero_le _, Nat.zero_le _⟩ ?_
      refine z_if_eq d_X1_startOf_16 (fun h_16 => ?_) (fun h_16 => ?_)
      · refine z_iinc2 d_X1_startOf_21 ki_1 rfl ?_
        refine z_goto d_X1_startOf_24 ?_
        rw [if_neg (by rw [b0 h_16]; decide)] at hr
        rw [nI_1]
        exact ih (i + 1) (by omega) hr
      · rw [if_pos (b1 h_16)] at hr
        subst hr
        exact hx2
  refine loop _ _ (fun h0 => ?_) ?_ P 0 (by omega) rfl
  · rw [h0]
    refine z_iconst d_X1_startOf_27 ki_0 ?_
    exact z_ireturn d_X1_startOf_28 rfl ⟨rfl, rfl, rfl, rfl, rfl⟩
  · refine z_iload_n d_X1_startOf_19 rfl ?_
    exact z_ireturn d_X1_startOf_20 rfl ⟨rfl, rfl, rfl, rfl, rfl⟩
set_option maxRecDepth 100000 in
set_option maxHeartbeats 4000000 in
theorem ct_X1_firstOfRegion {E : zE} {I : zI} {L : zL} {R : zR} {P a : Nat} {z : Int} (hR : zLx R) (hP : P = 3 ∨ P = 4) (hI : I 37 0 = nI P) (ha : a < 16) (h1 : -190 ≤ z) (h2 : z ≤ 190) : zCf E m_X1_firstOfRegion zShF [.ref 37, .int (nI a), .int (iI z)] I L R (some (.int (iI (fstL P a P z)))) (I) (L) (R) := by
  refine z_met (by decide) [some (.ref 37), some (.int (nI a)), some (.int (iI z)), none, none] rfl rfl (Nat.le_of_ble_eq_true rfl) (fun X => ?_)
  refine z_iload_n d_X1_firstOfRegion_0 rfl ?_
  refine z_istore3 d_X1_firstOfRegion_1 rfl ?_
  refine z_iconst d_X1_firstOfRegion_2 ki_0 ?_
  refine z_istore4 d_X1_firstOfRegion_3 rfl ?_
  have loop : ∀ (Qs : State → Prop) (r : Int), (∀ o : Option Value, zZ E m_X1_firstOfRegion X Qs zShF 0 0 34 [some (.ref 37), some (.int (nI a)), some (.int (iI z)), some (.int (iI r)), o] [] I L R) → ∀ n i y, n + i = P → z - 4 ≤ y - n → y ≤ z → fstL P a n y = r → zZ E m_X1_firstOfRegion X Qs zShF 0 0 5 [some (.ref 37), some (.int (nI a)), some (.int (iI z)), some (.int (iI y)), some (.int (nI i))] [] I L R := by
    intro Qs r hx n
    induction n with
    | zero =>
      intro i y hn hy1 hy2 hr
      obtain rfl : i = P := by omega
      refine z_iload d_X1_firstOfRegion_5 rfl ?_
      refine z_aload_n d_X1_firstOfRegion_7 rfl ?_
      refine z_getI d_X1_firstOfRegion_8 f_X1_34 (by first | rfl | assumption) (by omega) ?_
      rw [hI]
      refine z_icmp_ge d_X1_firstOfRegion_11 (fun h_11 => ?_) (fun h_11 => absurd (Int32.le_refl _) h_11)
      subst hr
      exact hx _
    | succ n ih =>
      intro i y hn hy1 hy2 hr
      rw [fstL] at hr
      refine z_iload d_X1_firstOfRegion_5 rfl ?_
      refine z_aload_n d_X1_firstOfRegion_7 rfl ?_
      refine z_getI d_X1_firstOfRegion_8 f_X1_34 (by first | rfl | assumption) (by omega) ?_
      rw [hI]
      refine z_icmp_ge d_X1_firstOfRegion_11 (fun h_11 => absurd ((nI_leI (a := P) (b := i) (by omega) (by omega)).mp h_11) (by omega)) (fun h_11 => ?_)
      refine z_aload_n d_X1_firstOfRegion_14 rfl ?_
      refine z_iload_n d_X1_firstOfRegion_15 rfl ?_
      refine z_iload_n d_X1_firstOfRegion_16 rfl ?_
      refine z_iconst d_X1_firstOfRegion_17 ki_1 ?_
      refine z_isub d_X1_firstOfRegion_18 ?_
      refine z_topi (y := iI (y - 1)) (iI_sub y 1) ?_
      refine z_cVi d_X1_firstOfRegion_19 q_X1_firstOfRegion_50 (by first | rfl | assumption) (by omega) ⟨rfl, rfl⟩ (ct_X1_isHigh hR hP hI ha (by omega) (by omega)) rfl rfl rfl ⟨Nat.zero_le _, Nat.zero_le _⟩ ?_
      refine z_if_eq d_X1_firstOfRegion_22 (fun h_22 => ?_) (fun h_22 => ?_)
      · rw [if_neg (by rw [b0 h_22]; decide)] at hr
        subst hr
        exact hx _
      · refine z_iinc3 d_X1_firstOfRegion_25 ki_m1 rfl ?_
        refine z_iinc4 d_X1_firstOfRegion_28 ki_1 rfl ?_
        refine z_goto d_X1_firstOfRegion_31 ?_
        rw [if_pos (b1 h_22)] at hr
        rw [nI_1, iI_pred]
        exact ih (i + 1) (y - 1) (by omega) (by omega) (by omega) hr
  refine loop _ _ (fun o => ?_) P 0 z (by omega) (by omega) (Int.le_refl _) rfl
  refine z_iload_n d_X1_firstOfRegion_34 rfl ?_
  exact z_ireturn d_X1_firstOfRegion_35 rfl ⟨rfl, rfl, rfl, rfl, rfl⟩
set_option maxRecDepth 100000 in
set_option maxHeartbeats 4000000 in
theorem ct_X1_lastOfRegion {E : zE} {I : zI} {L : zL} {R : zR} {P a : Nat} {z : Int} (hR : zLx R) (hP : P = 3 ∨ P = 4) (hI : I 37 0 = nI P) (ha : a < 16) (h1 : -190 ≤ z) (h2 : z ≤ 190) : zCf E m_X1_lastOfRegion zShF [.ref 37, .int (nI a), .int (iI z)] I L R (some (.int (iI (lstL P a P z)))) (I) (L) (R) := by
  refine z_met (by decide) [some (.ref 37), some (.int (nI a)), some (.int (iI z)), none, none] rfl rfl (Nat.le_of_ble_eq_true rfl) (fun X => ?_)
  refine z_iload_n d_X1_lastOfRegion_0 rfl ?_
  refine z_istore3 d_X1_lastOfRegion_1 rfl ?_
  refine z_iconst d_X1_lastOfRegion_2 ki_0 ?_
  refine z_istore4 d_X1_lastOfRegion_3 rfl ?_
  have loop : ∀ (Qs : State → Prop) (r : Int), (∀ o : Option Value, zZ E m_X1_lastOfRegion X Qs zShF 0 0 34 [some (.ref 37), some (.int (nI a)), some (.int (iI z)), some (.int (iI r)), o] [] I L R) → ∀ n i y, n + i = P → y + n ≤ z + 4 → z ≤ y → lstL P a n y = r → zZ E m_X1_lastOfRegion X Qs zShF 0 0 5 [some (.ref 37), some (.int (nI a)), some (.int (iI z)), some (.int (iI y)), some (.int (nI i))] [] I L R := by
    intro Qs r hx n
    induction n with
    | zero =>
      intro i y hn hy1 hy2 hr
      obtain rfl : i = P := by omega
      refine z_iload d_X1_lastOfRegion_5 rfl ?_
      refine z_aload_n d_X1_lastOfRegion_7 rfl ?_
      refine z_getI d_X1_lastOfRegion_8 f_X1_34 (by first | rfl | assumption) (by omega) ?_
      rw [hI]
      refine z_icmp_ge d_X1_lastOfRegion_11 (fun h_11 => ?_) (fun h_11 => absurd (Int32.le_refl _) h_11)
      subst hr
      exact hx _
    | succ n ih =>
      intro i y hn hy1 hy2 hr
      rw [lstL] at hr
      refine z_iload d_X1_lastOfRegion_5 rfl ?_
      refine z_aload_n d_X1_lastOfRegion_7 rfl ?_
      refine z_getI d_X1_lastOfRegion_8 f_X1_34 (by first | rfl | assumption) (by omega) ?_
      rw [hI]
      refine z_icmp_ge d_X1_lastOfRegion_11 (fun h_11 => absurd ((nI_leI (a := P) (b := i) (by omega) (by omega)).mp h_11) (by omega)) (fun h_11 => ?_)
      refine z_aload_n d_X1_lastOfRegion_14 rfl ?_
      refine z_iload_n d_X1_lastOfRegion_15 rfl ?_
      refine z_iload_n d_X1_lastOfRegion_16 rfl ?_
      refine z_iconst d_X1_lastOfRegion_17 ki_1 ?_
      refine z_iadd d_X1_lastOfRegion_18 ?_
      refine z_topi (y := iI (y + 1)) (iI_add y 1) ?_
      refine z_cVi d_X1_lastOfRegion_19 q_X1_lastOfRegion_50 (by first | rfl | assumption) (by omega) ⟨rfl, rfl⟩ (ct_X1_isHigh hR hP hI ha (by omega) (by omega)) rfl rfl rfl ⟨Nat.zero_le _, Nat.zero_le _⟩ ?_
      refine z_if_eq d_X1_lastOfRegion_22 (fun h_22 => ?_) (fun h_22 => ?_)
      · rw [if_neg (by rw [b0 h_22]; decide)] at hr
        subst hr
        exact hx _
      · refine z_iinc3 d_X1_lastOfRegion_25 ki_1 rfl ?_
        refine z_iinc4 d_X1_lastOfRegion_28 ki_1 rfl ?_
        refine z_goto d_X1_lastOfRegion_31 ?_
        rw [if_pos (b1 h_22)] at hr
        rw [nI_1, show iI y + 1 = iI (y + 1) from iI_add y 1]
        exact ih (i + 1) (y + 1) (by omega) (by omega) (by omega) hr
  refine loop _ _ (fun o => ?_) P 0 z (by omega) (by omega) (Int.le_refl _) rfl
  refine z_iload_n d_X1_lastOfRegion_34 rfl ?_
  exact z_ireturn d_X1_lastOfRegion_35 rfl ⟨rfl, rfl, rfl, rfl, rfl⟩
set_option maxRecDepth 100000 in
set_option maxHeartbeats 4000000 in
theorem ct_X1_wellsIn {E : zE} {I : zI} {L : zL} {R : zR} {P : Nat} {x : Int32} (hR : zLx R) (hP : P = 3 ∨ P = 4) (hI : I 37 0 = nI P) : zCf E m_X1_wellsIn zShF [.ref 37, .int x] I L R (some (.int (fdV x (nI P)))) (I) (L) (R) := by
  refine z_met (by decide) [some (.ref 37), some (.int x)] rfl rfl (Nat.le_of_ble_eq_true rfl) (fun X => ?_)
  refine z_iload_n d_X1_wellsIn_0 rfl ?_
  refine z_aload_n d_X1_wellsIn_1 rfl ?_
  refine z_getI d_X1_wellsIn_2 f_X1_34 (by first | rfl | assumption) (by omega) ?_
  rw [hI]
  refine z_iconst d_X1_wellsIn_5 ki_4 ?_
  refine z_icmp_ne d_X1_wellsIn_6 (fun h_6 => ?_) (fun h_6 => ?_)
  · refine z_iconst d_X1_wellsIn_13 ki_3 ?_
    refine z_topi (y := nI P) (by first | (have := (nI_eq (a := P) (b := 4) (by omega) (by decide)).mp h_6; subst this; rfl) | (rcases hP with rfl | rfl; rfl; exact absurd rfl h_6)) ?_
    refine z_cSi d_X1_wellsIn_14 q_X1_wellsIn_101 ⟨rfl, rfl⟩ (ct_J9_floorDiv_7cf53 (nI_ne0 (by omega) (by omega))) rfl rfl rfl ⟨Nat.zero_le _, Nat.zero_le _⟩ ?_
    exact z_ireturn d_X1_wellsIn_17 rfl ⟨rfl, rfl, rfl, rfl, rfl⟩
  · refine z_iconst d_X1_wellsIn_9 ki_4 ?_
    refine z_goto d_X1_wellsIn_10 ?_
    refine z_topi (y := nI P) (by first | (have := (nI_eq (a := P) (b := 4) (by omega) (by decide)).mp h_6; subst this; rfl) | (rcases hP with rfl | rfl; rfl; exact absurd rfl h_6)) ?_
    refine z_cSi d_X1_wellsIn_14 q_X1_wellsIn_101 ⟨rfl, rfl⟩ (ct_J9_floorDiv_7cf53 (nI_ne0 (by omega) (by omega))) rfl rfl rfl ⟨Nat.zero_le _, Nat.zero_le _⟩ ?_
    exact z_ireturn d_X1_wellsIn_17 rfl ⟨rfl, rfl, rfl, rfl, rfl⟩
