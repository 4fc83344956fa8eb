/-! the small classes: Plan, Tape, Sheet; the small functions of BucketSheet -/
def rules0 (f : Nat → Int32) : Nat → Int32 := va_up (va_up (va_up (va_up (va_up (va_up (va_up f 0 200) 1 0) 2 0) 3 0) 4 1) 5 1) 6 3
theorem zi_zi (I : zI) (k j i : Nat) (x y : Int32) : zi (zi I k j x) k i y = va_up I k (va_up (va_up (I k) j x) i y) := by unfold zi; rw [up_eq, up_up]
/-- one of them is n, by size, rounded up -/
def binV (a s : Int32) : Int32 := if 1 ≤ s then (a + s - 1) / s else 0
def mx (x y : Int32) : Int32 := if x < y then y else x
def valV (g b r : Int32) : Int32 := mn 255 (r * g / mx 1 b)
theorem mx1_ne (b : Int32) : ¬ mx 1 b = 0 := by
  unfold mx
  intro h
  split at h
  · next h1 => subst h; exact absurd h1 (by decide)
  · exact absurd h (by decide)
def besV (w col side : Int32) : Int32 := if side = 0 then w - 8 else if side = 1 then w + 8 else if side = 2 then (if col ≤ 0 then -1 else w - 1) else (if 7 ≤ col then -1 else w + 1)
def isLi (w v : Int32) : Bool := isW w && (!decide (v < 0) && !decide (99 < v))
def inV (lo hi x : Int32) : Bool := !decide (x < lo) && !decide (hi < x)
def in0 (n x : Int32) : Bool := !decide (x < 0) && !decide (n ≤ x)
/-- sums over a row -/
def sumV (f : Nat → Int32) : Nat → Int32
  | 0 => 0
  | n + 1 => sumV f n + f n
def cntV (p : Nat → Bool) : Nat → Int32
  | 0 => 0
  | n + 1 => cntV p n + b2i (p n)
def zTa (Sh : zSh) (R : zR) (t : Nat) : Prop := Sh[t]? = some (0, 6) ∧ Sh[t + 1]? = some (1, 400) ∧ R t 0 = some (t + 1) ∧ t < 900000
def zSe (Sh : zSh) (R : zR) (t : Nat) : Prop := Sh[t]? = some (0, 5) ∧ Sh[t + 1]? = some (2, 40) ∧ R t 0 = some (t + 1) ∧ t < 900000
/-- a Sheet's fault -/
def fltV (len lane as i : Int32) : Int32 := if 0 ≤ len then (if as = lane then (if i < 0 then 2 else if i < len then 0 else 2) else 3) else 1
def putV (lane v : Int32) : Int32 := if lane = 0 then v.toInt8.toInt32 else if lane = 1 then v.toInt16.toInt32 else v
set_option maxRecDepth 100000 in
set_option maxHeartbeats 4000000 in
theorem ct_X3_beAsAtFirst {E : zE} {Sh : zSh} {I : zI} {L : zL} {R : zR} {p : Nat} (hp : zPl Sh R p) : zCf E m_X3_beAsAtFirst Sh [.ref p] I L R (none) (zi (va_up (va_up (va_up I (p + 1) (rules0 (I (p + 1)))) (p + 2) (zfill (I (p + 2)) 48 0)) (p + 3) (zfill (I (p + 3)) 48 0)) p 4 0) (L) (R) := by
  obtain ⟨hp0, hp1, hp2, hp3, hp4, hs0, hs1, hs2, hs3, hpl⟩ := hp
  refine z_met (by decide) [some (.ref p)] rfl rfl (Nat.le_of_ble_eq_true rfl) (fun X => ?_)
  refine z_aload_n d_X3_beAsAtFirst_0 rfl ?_
  refine z_getR d_X3_beAsAtFirst_1 f_X3_9 (by first | rfl | assumption) (by omega) (by first | exact hR _ _ _ rfl | rfl | assumption) ?_
  refine z_iconst d_X3_beAsAtFirst_4 ki_0 ?_
  refine z_sipush d_X3_beAsAtFirst_5 ks_200 ?_
  refine z_iastore d_X3_beAsAtFirst_8 (by first | rfl | assumption) (by omega) (zix_lit 0 (by decide)) ?_
  refine z_aload_n d_X3_beAsAtFirst_9 rfl ?_
  refine z_getR d_X3_beAsAtFirst_10 f_X3_9 (by first | rfl | assumption) (by omega) (by first | exact hR _ _ _ rfl | rfl | assumption) ?_
  refine z_iconst d_X3_beAsAtFirst_13 ki_1 ?_
  refine z_iconst d_X3_beAsAtFirst_14 ki_0 ?_
  refine z_iastore d_X3_beAsAtFirst_15 (by first | rfl | assumption) (by omega) (zix_lit 1 (by decide)) ?_
  refine z_aload_n d_X3_beAsAtFirst_16 rfl ?_
  refine z_getR d_X3_beAsAtFirst_17 f_X3_9 (by first | rfl | assumption) (by omega) (by first | exact hR _ _ _ rfl | rfl | assumption) ?_
  refine z_iconst d_X3_beAsAtFirst_20 ki_2 ?_
  refine z_iconst d_X3_beAsAtFirst_21 ki_0 ?_
  refine z_iastore d_X3_beAsAtFirst_22 (by first | rfl | assumption) (by omega) (zix_lit 2 (by decide)) ?_
  refine z_aload_n d_X3_beAsAtFirst_23 rfl ?_
  refine z_getR d_X3_beAsAtFirst_24 f_X3_9 (by first | rfl | assumption) (by omega) (by first | exact hR _ _ _ rfl | rfl | assumption) ?_
  refine z_iconst d_X3_beAsAtFirst_27 ki_3 ?_
  refine z_iconst d_X3_beAsAtFirst_28 ki_0 ?_
  refine z_iastore d_X3_beAsAtFirst_29 (by first | rfl | assumption) (by omega) (zix_lit 3 (by decide)) ?_
  refine z_aload_n d_X3_beAsAtFirst_30 rfl ?_
  refine z_getR d_X3_beAsAtFirst_31 f_X3_9 (by first | rfl | assumption) (by omega) (by first | exact hR _ _ _ rfl | rfl | assumption) ?_
  refine z_iconst d_X3_beAsAtFirst_34 ki_4 ?_
  refine z_iconst d_X3_beAsAtFirst_35 ki_1 ?_
  refine z_iastore d_X3_beAsAtFirst_36 (by first | rfl | assumption) (by omega) (zix_lit 4 (by decide)) ?_
  refine z_aload_n d_X3_beAsAtFirst_37 rfl ?_
  refine z_getR d_X3_beAsAtFirst_38 f_X3_9 (by first | rfl | assumption) (by omega) (by first | exact hR _ _ _ rfl | rfl | assumption) ?_
  refine z_iconst d_X3_beAsAtFirst_41 ki_5 ?_
  refine z_iconst d_X3_beAsAtFirst_42 ki_1 ?_
  refine z_iastore d_X3_beAsAtFirst_43 (by first | rfl | assumption) (by omega) (zix_lit 5 (by decide)) ?_
  refine z_aload_n d_X3_beAsAtFirst_44 rfl ?_
  refine z_getR d_X3_beAsAtFirst_45 f_X3_9 (by first | rfl | assumption) (by omega) (by first | exact hR _ _ _ rfl | rfl | assumption) ?_
  refine z_bipush d_X3_beAsAtFirst_48 kb_6 ?_
  refine z_iconst d_X3_beAsAtFirst_50 ki_3 ?_
  refine z_iastore d_X3_beAsAtFirst_51 (by first | rfl | assumption) (by omega) (zix_lit 6 (by decide)) ?_
  refine z_mem (I' := va_up I (p + 1) (rules0 (I (p + 1)))) (by unfold zi rules0; simp only [up_eq, up_up]) rfl rfl ?_
  refine z_aload_n d_X3_beAsAtFirst_52 rfl ?_
  refine z_getR d_X3_beAsAtFirst_53 f_X3_15 (by first | rfl | assumption) (by omega) (by first | exact hR _ _ _ rfl | rfl | assumption) ?_
  refine z_iconst d_X3_beAsAtFirst_56 ki_0 ?_
  refine z_cSv d_X3_beAsAtFirst_57 q_X3_beAsAtFirst_27 ⟨rfl, rfl⟩ (ct_fillI (by first | assumption | rfl) (by omega) (by decide)) rfl rfl rfl ⟨Nat.zero_le _, Nat.zero_le _⟩ ?_
  refine z_aload_n d_X3_beAsAtFirst_60 rfl ?_
  refine z_getR d_X3_beAsAtFirst_61 f_X3_18 (by first | rfl | assumption) (by omega) (by first | exact hR _ _ _ rfl | rfl | assumption) ?_
  refine z_iconst d_X3_beAsAtFirst_64 ki_0 ?_
  refine z_cSv d_X3_beAsAtFirst_65 q_X3_beAsAtFirst_27 ⟨rfl, rfl⟩ (ct_fillI (by first | assumption | rfl) (by omega) (by decide)) rfl rfl rfl ⟨Nat.zero_le _, Nat.zero_le _⟩ ?_
  refine z_aload_n d_X3_beAsAtFirst_68 rfl ?_
  refine z_iconst d_X3_beAsAtFirst_69 ki_0 ?_
  refine z_putI d_X3_beAsAtFirst_70 f_X3_33 p_X3_4 (by first | rfl | assumption) (by omega) ?_
  exact z_return d_X3_beAsAtFirst_73 rfl ⟨rfl, rfl, by rw [up_ne (show p + 2 ≠ p + 1 by omega), up_ne (show p + 3 ≠ p + 2 by omega), up_ne (show p + 3 ≠ p + 1 by omega)], rfl, rfl⟩
set_option maxRecDepth 100000 in
set_option maxHeartbeats 4000000 in
theorem ct_X3_takeFrom {E : zE} {Sh : zSh} {I : zI} {L : zL} {R : zR} {c o : Nat} (hc : zPl Sh R c) (ho : zPl Sh R o) (hco : c + 4 < o ∨ o + 4 < c) : zCf E m_X3_takeFrom Sh [.ref c, .ref o] I L R (none) (zi (va_up (va_up (va_up (va_up I (c + 1) (zcp (I (o + 1)) (I (c + 1)) 7)) (c + 2) (zcp (I (o + 2)) (I (c + 2)) 48)) (c + 3) (zcp (I (o + 3)) (I (c + 3)) 48)) (c + 4) (zcp (I (o + 4)) (I (c + 4)) 12)) c 4 (I o 4)) (L) (R) := by
  obtain ⟨hc0, hc1, hc2, hc3, hc4, hr0, hr1, hr2, hr3, hcl⟩ := hc
  obtain ⟨ho0, ho1, ho2, ho3, ho4, hs0, hs1, hs2, hs3, hol⟩ := ho
  refine z_met (by decide) [some (.ref c), some (.ref o)] rfl rfl (Nat.le_of_ble_eq_true rfl) (fun X => ?_)
  refine z_aload_n d_X3_takeFrom_0 rfl ?_
  refine z_getR d_X3_takeFrom_1 f_X3_9 (by first | rfl | assumption) (by omega) (by first | exact hR _ _ _ rfl | rfl | assumption) ?_
  refine z_iconst d_X3_takeFrom_4 ki_0 ?_
  refine z_aload_n d_X3_takeFrom_5 rfl ?_
  refine z_getR d_X3_takeFrom_6 f_X3_9 (by first | rfl | assumption) (by omega) (by first | exact hR _ _ _ rfl | rfl | assumption) ?_
  refine z_iconst d_X3_takeFrom_9 ki_0 ?_
  refine z_bipush d_X3_takeFrom_10 kb_7 ?_
  refine z_copy (N := 7) d_X3_takeFrom_12 q_X3_takeFrom_37 (by first | rfl | assumption) (by omega) (by first | rfl | assumption) (by omega) (by decide) (by decide) (by decide) (by decide) (by decide) (Nat.le_of_ble_eq_true rfl) ?_
  refine z_aload_n d_X3_takeFrom_15 rfl ?_
  refine z_getR d_X3_takeFrom_16 f_X3_15 (by first | rfl | assumption) (by omega) (by first | exact hR _ _ _ rfl | rfl | assumption) ?_
  refine z_iconst d_X3_takeFrom_19 ki_0 ?_
  refine z_aload_n d_X3_takeFrom_20 rfl ?_
  refine z_getR d_X3_takeFrom_21 f_X3_15 (by first | rfl | assumption) (by omega) (by first | exact hR _ _ _ rfl | rfl | assumption) ?_
  refine z_iconst d_X3_takeFrom_24 ki_0 ?_
  refine z_bipush d_X3_takeFrom_25 kb_48 ?_
  refine z_copy (N := 48) d_X3_takeFrom_27 q_X3_takeFrom_37 (by first | rfl | assumption) (by omega) (by first | rfl | assumption) (by omega) (by decide) (by decide) (by decide) (by decide) (by decide) (Nat.le_of_ble_eq_true rfl) ?_
  refine z_aload_n d_X3_takeFrom_30 rfl ?_
  refine z_getR d_X3_takeFrom_31 f_X3_18 (by first | rfl | assumption) (by omega) (by first | exact hR _ _ _ rfl | rfl | assumption) ?_
  refine z_iconst d_X3_takeFrom_34 ki_0 ?_
  refine z_aload_n d_X3_takeFrom_35 rfl ?_
  refine z_getR d_X3_takeFrom_36 f_X3_18 (by first | rfl | assumption) (by omega) (by first | exact hR _ _ _ rfl | rfl | assumption) ?_
  refine z_iconst d_X3_takeFrom_39 ki_0 ?_
  refine z_bipush d_X3_takeFrom_40 kb_48 ?_
  refine z_copy (N := 48) d_X3_takeFrom_42 q_X3_takeFrom_37 (by first | rfl | assumption) (by omega) (by first | rfl | assumption) (by omega) (by decide) (by decide) (by decide) (by decide) (by decide) (Nat.le_of_ble_eq_true rfl) ?_
  refine z_aload_n d_X3_takeFrom_45 rfl ?_
  refine z_getR d_X3_takeFrom_46 f_X3_21 (by first | rfl | assumption) (by omega) (by first | exact hR _ _ _ rfl | rfl | assumption) ?_
  refine z_iconst d_X3_takeFrom_49 ki_0 ?_
  refine z_aload_n d_X3_takeFrom_50 rfl ?_
  refine z_getR d_X3_takeFrom_51 f_X3_21 (by first | rfl | assumption) (by omega) (by first | exact hR _ _ _ rfl | rfl | assumption) ?_
  refine z_iconst d_X3_takeFrom_54 ki_0 ?_
  refine z_bipush d_X3_takeFrom_55 kb_12 ?_
  refine z_copy (N := 12) d_X3_takeFrom_57 q_X3_takeFrom_37 (by first | rfl | assumption) (by omega) (by first | rfl | assumption) (by omega) (by decide) (by decide) (by decide) (by decide) (by decide) (Nat.le_of_ble_eq_true rfl) ?_
  refine z_aload_n d_X3_takeFrom_60 rfl ?_
  refine z_aload_n d_X3_takeFrom_61 rfl ?_
  refine z_getI d_X3_takeFrom_62 f_X3_33 (by first | rfl | assumption) (by omega) ?_
  refine z_putI d_X3_takeFrom_65 f_X3_33 p_X3_4 (by first | rfl | assumption) (by omega) ?_
  exact z_return d_X3_takeFrom_68 rfl ⟨rfl, rfl, by simp only [up_ne (show o + 2 ≠ c + 1 by omega), up_ne (show c + 2 ≠ c + 1 by omega), up_ne (show o + 3 ≠ c + 1 by omega), up_ne (show c + 3 ≠ c + 1 by omega), up_ne (show o + 3 ≠ c + 2 by omega), up_ne (show c + 3 ≠ c + 2 by omega), up_ne (show o + 4 ≠ c + 1 by omega), up_ne (show c + 4 ≠ c + 1 by omega), up_ne (show o + 4 ≠ c + 2 by omega), up_ne (show c + 4 ≠ c + 2 by omega), up_ne (show o + 4 ≠ c + 3 by omega), up_ne (show c + 4 ≠ c + 3 by omega), up_ne (show o ≠ c + 1 by omega), up_ne (show o ≠ c + 2 by omega), up_ne (show o ≠ c + 3 by omega), up_ne (show o ≠ c + 4 by omega)], rfl, rfl⟩
set_option maxRecDepth 100000 in
set_option maxHeartbeats 4000000 in
theorem ct_X6_byteAt {E : zE} {Sh : zSh} {I : zI} {L : zL} {R : zR} {t : Nat} {i : Int32} (ht : zTa Sh R t) (hi : 0 ≤ i → i < I t 1 → i < 400) : zCf E m_X6_byteAt Sh [.ref t, .int i] I L R (some (.int (if i < 0 then -1 else if i < I t 1 then I (t + 1) i.toNatClampNeg &&& 255 else -1))) (I) (L) (R) := by
  obtain ⟨ht0, ht1, hr0, htl⟩ := ht
  refine z_met (by decide) [some (.ref t), some (.int i)] rfl rfl (Nat.le_of_ble_eq_true rfl) (fun X => ?_)
  refine z_iload_n d_X6_byteAt_0 rfl ?_
  refine z_if_lt d_X6_byteAt_1 (fun h_1 => ?_) (fun h_1 => ?_)
  · refine z_iconst d_X6_byteAt_12 ki_m1 ?_
    refine z_goto d_X6_byteAt_13 ?_
    exact z_ireturn d_X6_byteAt_26 rfl ⟨by simp [*], rfl, rfl, rfl, rfl⟩
  · refine z_iload_n d_X6_byteAt_4 rfl ?_
    refine z_aload_n d_X6_byteAt_5 rfl ?_
    refine z_getI d_X6_byteAt_6 f_X6_15 (by first | rfl | assumption) (by omega) ?_
    refine z_icmp_lt d_X6_byteAt_9 (fun h_9 => ?_) (fun h_9 => ?_)
    · refine z_aload_n d_X6_byteAt_16 rfl ?_
      refine z_getR d_X6_byteAt_17 f_X6_9 (by first | rfl | assumption) (by omega) (by first | exact hR _ _ _ rfl | rfl | assumption) ?_
      refine z_iload_n d_X6_byteAt_20 rfl ?_
      refine z_baload d_X6_byteAt_21 (by first | rfl | assumption) (by omega) (zix_of2 (N := 400) h_1 (Int32.not_le.mpr (hi (Int32.not_lt.mp h_1) h_9)) (by decide)) ?_
      refine z_sipush d_X6_byteAt_22 ks_255 ?_
      refine z_iand d_X6_byteAt_25 ?_
      exact z_ireturn d_X6_byteAt_26 rfl ⟨by simp [*], rfl, rfl, rfl, rfl⟩
    · refine z_iconst d_X6_byteAt_12 ki_m1 ?_
      refine z_goto d_X6_byteAt_13 ?_
      exact z_ireturn d_X6_byteAt_26 rfl ⟨by simp [*], rfl, rfl, rfl, rfl⟩
set_option maxRecDepth 100000 in
set_option maxHeartbeats 4000000 in
theorem ct_X5_renew {E : zE} {Sh : zSh} {I : zI} {L : zL} {R : zR} {s : Nat} {lane n : Int32} (hs : zSe Sh R s) : zCf E m_X5_renew Sh [.ref s, .int lane, .int n] I L R (none) (zi (zi (va_up I (s + 1) (zfill (I (s + 1)) 40 0)) s 1 lane) s 2 n) (L) (R) := by
  obtain ⟨hs0, hs1, hr0, hsl⟩ := hs
  refine z_met (by decide) [some (.ref s), some (.int lane), some (.int n)] rfl rfl (Nat.le_of_ble_eq_true rfl) (fun X => ?_)
  refine z_aload_n d_X5_renew_0 rfl ?_
  refine z_getR d_X5_renew_1 f_X5_9 (by first | rfl | assumption) (by omega) (by first | exact hR _ _ _ rfl | rfl | assumption) ?_
  refine z_iconst d_X5_renew_4 ki_0 ?_
  refine z_cSv d_X5_renew_5 q_X5_renew_19 ⟨rfl, rfl⟩ (ct_fillI (by first | assumption | rfl) (by omega) (by decide)) rfl rfl rfl ⟨Nat.zero_le _, Nat.zero_le _⟩ ?_
  refine z_aload_n d_X5_renew_8 rfl ?_
  refine z_iload_n d_X5_renew_9 rfl ?_
  refine z_putI d_X5_renew_10 f_X5_25 p_X5_1 (by first | rfl | assumption) (by omega) ?_
  refine z_aload_n d_X5_renew_13 rfl ?_
  refine z_iload_n d_X5_renew_14 rfl ?_
  refine z_putI d_X5_renew_15 f_X5_15 p_X5_2 (by first | rfl | assumption) (by omega) ?_
  exact z_return d_X5_renew_18 rfl ⟨rfl, rfl, rfl, rfl, rfl⟩
set_option maxRecDepth 100000 in
set_option maxHeartbeats 4000000 in
theorem ct_X5_faultAt {E : zE} {Sh : zSh} {I : zI} {L : zL} {R : zR} {s : Nat} {as i : Int32} (hs : zSe Sh R s) : zCf E m_X5_faultAt Sh [.ref s, .int as, .int i] I L R (some (.int (fltV (I s 2) (I s 1) as i))) (I) (L) (R) := by
  obtain ⟨hs0, hs1, hr0, hsl⟩ := hs
  refine z_met (by decide) [some (.ref s), some (.int as), some (.int i)] rfl rfl (Nat.le_of_ble_eq_true rfl) (fun X => ?_)
  refine z_aload_n d_X5_faultAt_0 rfl ?_
  refine z_getI d_X5_faultAt_1 f_X5_15 (by first | rfl | assumption) (by omega) ?_
  refine z_if_ge d_X5_faultAt_4 (fun h_4 => ?_) (fun h_4 => ?_)
  · refine z_iload_n d_X5_faultAt_9 rfl ?_
    refine z_aload_n d_X5_faultAt_10 rfl ?_
    refine z_getI d_X5_faultAt_11 f_X5_25 (by first | rfl | assumption) (by omega) ?_
    refine z_icmp_eq d_X5_faultAt_14 (fun h_14 => ?_) (fun h_14 => ?_)
    · refine z_iload_n d_X5_faultAt_19 rfl ?_
      refine z_if_lt d_X5_faultAt_20 (fun h_20 => ?_) (fun h_20 => ?_)
      · refine z_iconst d_X5_faultAt_31 ki_2 ?_
        refine z_goto d_X5_faultAt_32 ?_
        exact z_ireturn d_X5_faultAt_36 rfl ⟨by simp [fltV, *], rfl, rfl, rfl, rfl⟩
      · refine z_iload_n d_X5_faultAt_23 rfl ?_
        refine z_aload_n d_X5_faultAt_24 rfl ?_
        refine z_getI d_X5_faultAt_25 f_X5_15 (by first | rfl | assumption) (by omega) ?_
        refine z_icmp_lt d_X5_faultAt_28 (fun h_28 => ?_) (fun h_28 => ?_)
        · refine z_iconst d_X5_faultAt_35 ki_0 ?_
          exact z_ireturn d_X5_faultAt_36 rfl ⟨by simp [fltV, *], rfl, rfl, rfl, rfl⟩
        · refine z_iconst d_X5_faultAt_31 ki_2 ?_
          refine z_goto d_X5_faultAt_32 ?_
          exact z_ireturn d_X5_faultAt_36 rfl ⟨by simp [fltV, *], rfl, rfl, rfl, rfl⟩
    · refine z_iconst d_X5_faultAt_17 ki_3 ?_
      exact z_ireturn d_X5_faultAt_18 rfl ⟨by simp [fltV, *], rfl, rfl, rfl, rfl⟩
  · refine z_iconst d_X5_faultAt_7 ki_1 ?_
    exact z_ireturn d_X5_faultAt_8 rfl ⟨by simp [fltV, *], rfl, rfl, rfl, rfl⟩
set_option maxRecDepth 100000 in
set_option maxHeartbeats 4000000 in
theorem ct_X5_pairFaultAt {E : zE} {Sh : zSh} {I : zI} {L : zL} {R : zR} {s : Nat} {as i : Int32} (hs : zSe Sh R s) : zCf E m_X5_pairFaultAt Sh [.ref s, .int as, .int i] I L R (some (.int (if fltV (I s 2) (I s 1) as i = 0 then fltV (I s 2) (I s 1) as (i + 1) else fltV (I s 2) (I s 1) as i))) (I) (L) (R) := by
  have hss := hs; obtain ⟨hs0, hs1, hr0, hsl⟩ := hs
  refine z_met (by decide) [some (.ref s), some (.int as), some (.int i), none] rfl rfl (Nat.le_of_ble_eq_true rfl) (fun X => ?_)
  refine z_aload_n d_X5_pairFaultAt_0 rfl ?_
  refine z_iload_n d_X5_pairFaultAt_1 rfl ?_
  refine z_iload_n d_X5_pairFaultAt_2 rfl ?_
  refine z_cVi d_X5_pairFaultAt_3 q_X5_pairFaultAt_28 (by first | rfl | assumption) (by omega) ⟨rfl, rfl⟩ (ct_X5_faultAt (by assumption)) rfl rfl rfl ⟨Nat.zero_le _, Nat.zero_le _⟩ ?_
  refine z_istore3 d_X5_pairFaultAt_6 rfl ?_
  refine z_iload_n d_X5_pairFaultAt_7 rfl ?_
  refine z_if_eq d_X5_pairFaultAt_8 (fun h_8 => ?_) (fun h_8 => ?_)
  · refine z_aload_n d_X5_pairFaultAt_15 rfl ?_
    refine z_iload_n d_X5_pairFaultAt_16 rfl ?_
    refine z_iload_n d_X5_pairFaultAt_17 rfl ?_
    refine z_iconst d_X5_pairFaultAt_18 ki_1 ?_
    refine z_iadd d_X5_pairFaultAt_19 ?_
    refine z_cVi d_X5_pairFaultAt_20 q_X5_pairFaultAt_28 (by first | rfl | assumption) (by omega) ⟨rfl, rfl⟩ (ct_X5_faultAt (by assumption)) rfl rfl rfl ⟨Nat.zero_le _, Nat.zero_le _⟩ ?_
    exact z_ireturn d_X5_pairFaultAt_23 rfl ⟨by simp [*], rfl, rfl, rfl, rfl⟩
  · refine z_iload_n d_X5_pairFaultAt_11 rfl ?_
    refine z_goto d_X5_pairFaultAt_12 ?_
    exact z_ireturn d_X5_pairFaultAt_23 rfl ⟨by simp [*], rfl, rfl, rfl, rfl⟩
set_option maxRecDepth 100000 in
set_option maxHeartbeats 4000000 in
theorem ct_X5_put {E : zE} {Sh : zSh} {I : zI} {L : zL} {R : zR} {s j : Nat} {i v : Int32} (hs : zSe Sh R s) (hi : zix i 40 j) : zCf E m_X5_put Sh [.ref s, .int i, .int v] I L R (none) (zi I (s + 1) j (putV (I s 1) v)) (L) (R) := by
  obtain ⟨hs0, hs1, hr0, hsl⟩ := hs
  refine z_met (by decide) [some (.ref s), some (.int i), some (.int v)] rfl rfl (Nat.le_of_ble_eq_true rfl) (fun X => ?_)
  refine z_aload_n d_X5_put_0 rfl ?_
  refine z_getR d_X5_put_1 f_X5_9 (by first | rfl | assumption) (by omega) (by first | exact hR _ _ _ rfl | rfl | assumption) ?_
  refine z_iload_n d_X5_put_4 rfl ?_
  refine z_aload_n d_X5_put_5 rfl ?_
  refine z_getI d_X5_put_6 f_X5_25 (by first | rfl | assumption) (by omega) ?_
  refine z_if_ne d_X5_put_9 (fun h_9 => ?_) (fun h_9 => ?_)
  · refine z_aload_n d_X5_put_17 rfl ?_
    refine z_getI d_X5_put_18 f_X5_25 (by first | rfl | assumption) (by omega) ?_
    refine z_iconst d_X5_put_21 ki_1 ?_
    refine z_icmp_ne d_X5_put_22 (fun h_22 => ?_) (fun h_22 => ?_)
    · refine z_iload_n d_X5_put_30 rfl ?_
      refine z_iastore d_X5_put_31 (by first | rfl | assumption) (by omega) (by first | exact zix_nI (by assumption) (by first | decide | assumption) | exact zix_nI (by omega) (by first | decide | assumption) | assumption) ?_
      exact z_return d_X5_put_32 rfl ⟨rfl, rfl, by simp [putV, *], rfl, rfl⟩
    · refine z_iload_n d_X5_put_25 rfl ?_
      refine z_i2s d_X5_put_26 ?_
      refine z_goto d_X5_put_27 ?_
      refine z_iastore d_X5_put_31 (by first | rfl | assumption) (by omega) (by first | exact zix_nI (by assumption) (by first | decide | assumption) | exact zix_nI (by omega) (by first | decide | assumption) | assumption) ?_
      exact z_return d_X5_put_32 rfl ⟨rfl, rfl, by simp [putV, *], rfl, rfl⟩
  · refine z_iload_n d_X5_put_12 rfl ?_
    refine z_i2b d_X5_put_13 ?_
    refine z_goto d_X5_put_14 ?_
    refine z_iastore d_X5_put_31 (by first | rfl | assumption) (by omega) (by first | exact zix_nI (by assumption) (by first | decide | assumption) | exact zix_nI (by omega) (by first | decide | assumption) | assumption) ?_
    exact z_return d_X5_put_32 rfl ⟨rfl, rfl, by simp [putV, *], rfl, rfl⟩
set_option maxRecDepth 100000 in
set_option maxHeartbeats 4000000 in
theorem ct_X7_binsOf {E : zE} {Sh : zSh} {I : zI} {L : zL} {R : zR} {a s : Int32} : zCf E m_X7_binsOf Sh [.int a, .int s] I L R (some (.int (binV a s))) (I) (L) (R) := by
  refine z_met (by decide) [some (.int a), some (.int s)] rfl rfl (Nat.le_of_ble_eq_true rfl) (fun X => ?_)
  refine z_iload_n d_X7_binsOf_0 rfl ?_
  refine z_iconst d_X7_binsOf_1 ki_1 ?_
  refine z_icmp_ge d_X7_binsOf_2 (fun h_2 => ?_) (fun h_2 => ?_)
  · refine z_iload_n d_X7_binsOf_9 rfl ?_
    refine z_iload_n d_X7_binsOf_10 rfl ?_
    refine z_iadd d_X7_binsOf_11 ?_
    refine z_iconst d_X7_binsOf_12 ki_1 ?_
    refine z_isub d_X7_binsOf_13 ?_
    refine z_iload_n d_X7_binsOf_14 rfl ?_
    refine z_idiv d_X7_binsOf_15 (by intro h; subst h; exact absurd h_2 (by decide)) ?_
    exact z_ireturn d_X7_binsOf_16 rfl ⟨by simp [binV, *], rfl, rfl, rfl, rfl⟩
  · refine z_iconst d_X7_binsOf_5 ki_0 ?_
    refine z_goto d_X7_binsOf_6 ?_
    exact z_ireturn d_X7_binsOf_16 rfl ⟨by simp [binV, *], rfl, rfl, rfl, rfl⟩
set_option maxRecDepth 100000 in
set_option maxHeartbeats 4000000 in
theorem ct_X7_valueOf {E : zE} {Sh : zSh} {I : zI} {L : zL} {R : zR} {p : Nat} {r : Int32} (hp : zPl Sh R p) : zCf E m_X7_valueOf Sh [.int r, .ref p] I L R (some (.int (valV (I (p + 1) 4) (I (p + 1) 5) r))) (I) (L) (R) := by
  obtain ⟨hp0, hp1, hp2, hp3, hp4, hs0, hs1, hs2, hs3, hpl⟩ := hp
  refine z_met (by decide) [some (.int r), some (.ref p), none] rfl rfl (Nat.le_of_ble_eq_true rfl) (fun X => ?_)
  refine z_iconst d_X7_valueOf_0 ki_1 ?_
  refine z_aload_n d_X7_valueOf_1 rfl ?_
  refine z_getR d_X7_valueOf_2 f_X7_89 (by first | rfl | assumption) (by omega) (by first | exact hR _ _ _ rfl | rfl | assumption) ?_
  refine z_iconst d_X7_valueOf_5 ki_5 ?_
  refine z_iaload d_X7_valueOf_6 (by first | rfl | assumption) (by omega) (zix_lit 5 (by decide)) ?_
  refine z_mmax d_X7_valueOf_7 q_X7_valueOf_197 (by decide) (Nat.le_of_ble_eq_true rfl) ⟨Nat.zero_le _, Nat.zero_le _⟩ ?_
  refine z_istore2 d_X7_valueOf_10 rfl ?_
  refine z_sipush d_X7_valueOf_11 ks_255 ?_
  refine z_iload_n d_X7_valueOf_14 rfl ?_
  refine z_aload_n d_X7_valueOf_15 rfl ?_
  refine z_getR d_X7_valueOf_16 f_X7_89 (by first | rfl | assumption) (by omega) (by first | exact hR _ _ _ rfl | rfl | assumption) ?_
  refine z_iconst d_X7_valueOf_19 ki_4 ?_
  refine z_iaload d_X7_valueOf_20 (by first | rfl | assumption) (by omega) (zix_lit 4 (by decide)) ?_
  refine z_imul d_X7_valueOf_21 ?_
  refine z_iload_n d_X7_valueOf_22 rfl ?_
  refine z_idiv d_X7_valueOf_23 (mx1_ne (I (p + 1) 5)) ?_
  refine z_mmin d_X7_valueOf_24 q_X7_valueOf_203 (by decide) (Nat.le_of_ble_eq_true rfl) ⟨Nat.zero_le _, Nat.zero_le _⟩ ?_
  exact z_ireturn d_X7_valueOf_27 rfl ⟨rfl, rfl, rfl, rfl, rfl⟩
set_option maxRecDepth 100000 in
set_option maxHeartbeats 4000000 in
theorem ct_X7_isLighting {E : zE} {Sh : zSh} {I : zI} {L : zL} {R : zR} {w v : Int32} : zCf E m_X7_isLighting Sh [.int w, .int v] I L R (some (.int (b2i (isLi w v)))) (I) (L) (R) := by
  refine z_met (by decide) [some (.int w), some (.int v)] rfl rfl (Nat.le_of_ble_eq_true rfl) (fun X => ?_)
  refine z_iload_n d_X7_isLighting_0 rfl ?_
  refine z_cSi d_X7_isLighting_1 q_X7_isLighting_93 ⟨rfl, rfl⟩ (ct_X7_isWell) rfl rfl rfl ⟨Nat.zero_le _, Nat.zero_le _⟩ ?_
  refine z_if_eq d_X7_isLighting_4 (fun h_4 => ?_) (fun h_4 => ?_)
  · have hw := isW_n h_4
    refine z_iconst d_X7_isLighting_21 ki_0 ?_
    exact z_zreturn d_X7_isLighting_22 rfl rfl ⟨by simp [isLi, hw, b2i], rfl, rfl, rfl, rfl⟩
  · have hw := isW_b h_4
    refine z_iload_n d_X7_isLighting_7 rfl ?_
    refine z_if_lt d_X7_isLighting_8 (fun h_8 => ?_) (fun h_8 => ?_)
    · refine z_iconst d_X7_isLighting_21 ki_0 ?_
      exact z_zreturn d_X7_isLighting_22 rfl rfl ⟨by simp [isLi, hw, b2i, *], rfl, rfl, rfl, rfl⟩
    · refine z_iload_n d_X7_isLighting_11 rfl ?_
      refine z_bipush d_X7_isLighting_12 kb_99 ?_
      refine z_icmp_gt d_X7_isLighting_14 (fun h_14 => ?_) (fun h_14 => ?_)
      · refine z_iconst d_X7_isLighting_21 ki_0 ?_
        exact z_zreturn d_X7_isLighting_22 rfl rfl ⟨by simp [isLi, hw, b2i, *], rfl, rfl, rfl, rfl⟩
      · refine z_iconst d_X7_isLighting_17 ki_1 ?_
        refine z_goto d_X7_isLighting_18 ?_
        exact z_zreturn d_X7_isLighting_22 rfl rfl ⟨by simp [isLi, hw, b2i, *], rfl, rfl, rfl, rfl⟩
set_option maxRecDepth 100000 in
set_option maxHeartbeats 4000000 in
theorem ct_X7_isTicks {E : zE} {Sh : zSh} {I : zI} {L : zL} {R : zR} {x : Int32} : zCf E m_X7_isTicks Sh [.int x] I L R (some (.int (b2i (inV 1 999 x)))) (I) (L) (R) := by
  refine z_met (by decide) [some (.int x)] rfl rfl (Nat.le_of_ble_eq_true rfl) (fun X => ?_)
  refine z_iload_n d_X7_isTicks_0 rfl ?_
  refine z_iconst d_X7_isTicks_1 ki_1 ?_
  refine z_icmp_lt d_X7_isTicks_2 (fun h_2 => ?_) (fun h_2 => ?_)
  · refine z_iconst d_X7_isTicks_16 ki_0 ?_
    exact z_zreturn d_X7_isTicks_17 rfl rfl ⟨by simp [inV, b2i, *], rfl, rfl, rfl, rfl⟩
  · refine z_iload_n d_X7_isTicks_5 rfl ?_
    refine z_sipush d_X7_isTicks_6 ks_999 ?_
    refine z_icmp_gt d_X7_isTicks_9 (fun h_9 => ?_) (fun h_9 => ?_)
    · refine z_iconst d_X7_isTicks_16 ki_0 ?_
      exact z_zreturn d_X7_isTicks_17 rfl rfl ⟨by simp [inV, b2i, *], rfl, rfl, rfl, rfl⟩
    · refine z_iconst d_X7_isTicks_12 ki_1 ?_
      refine z_goto d_X7_isTicks_13 ?_
      exact z_zreturn d_X7_isTicks_17 rfl rfl ⟨by simp [inV, b2i, *], rfl, rfl, rfl, rfl⟩
set_option maxRecDepth 100000 in
set_option maxHeartbeats 4000000 in
theorem ct_X7_isBin {E : zE} {Sh : zSh} {I : zI} {L : zL} {R : zR} {x : Int32} : zCf E m_X7_isBin Sh [.int x] I L R (some (.int (b2i (inV 1 3 x)))) (I) (L) (R) := by
  refine z_met (by decide) [some (.int x)] rfl rfl (Nat.le_of_ble_eq_true rfl) (fun X => ?_)
  refine z_iload_n d_X7_isBin_0 rfl ?_
  refine z_iconst d_X7_isBin_1 ki_1 ?_
  refine z_icmp_lt d_X7_isBin_2 (fun h_2 => ?_) (fun h_2 => ?_)
  · refine z_iconst d_X7_isBin_14 ki_0 ?_
    exact z_zreturn d_X7_isBin_15 rfl rfl ⟨by simp [inV, b2i, *], rfl, rfl, rfl, rfl⟩
  · refine z_iload_n d_X7_isBin_5 rfl ?_
    refine z_iconst d_X7_isBin_6 ki_3 ?_
    refine z_icmp_gt d_X7_isBin_7 (fun h_7 => ?_) (fun h_7 => ?_)
    · refine z_iconst d_X7_isBin_14 ki_0 ?_
      exact z_zreturn d_X7_isBin_15 rfl rfl ⟨by simp [inV, b2i, *], rfl, rfl, rfl, rfl⟩
    · refine z_iconst d_X7_isBin_10 ki_1 ?_
      refine z_goto d_X7_isBin_11 ?_
      exact z_zreturn d_X7_isBin_15 rfl rfl ⟨by simp [inV, b2i, *], rfl, rfl, rfl, rfl⟩
set_option maxRecDepth 100000 in
set_option maxHeartbeats 4000000 in
theorem ct_X7_isColumn {E : zE} {Sh : zSh} {I : zI} {L : zL} {R : zR} {x : Int32} : zCf E m_X7_isColumn Sh [.int x] I L R (some (.int (b2i (in0 8 x)))) (I) (L) (R) := by
  refine z_met (by decide) [some (.int x)] rfl rfl (Nat.le_of_ble_eq_true rfl) (fun X => ?_)
  refine z_iload_n d_X7_isColumn_0 rfl ?_
  refine z_if_lt d_X7_isColumn_1 (fun h_1 => ?_) (fun h_1 => ?_)
  · refine z_iconst d_X7_isColumn_14 ki_0 ?_
    exact z_zreturn d_X7_isColumn_15 rfl rfl ⟨by simp [in0, b2i, *], rfl, rfl, rfl, rfl⟩
  · refine z_iload_n d_X7_isColumn_4 rfl ?_
    refine z_bipush d_X7_isColumn_5 kb_8 ?_
    refine z_icmp_ge d_X7_isColumn_7 (fun h_7 => ?_) (fun h_7 => ?_)
    · refine z_iconst d_X7_isColumn_14 ki_0 ?_
      exact z_zreturn d_X7_isColumn_15 rfl rfl ⟨by simp [in0, b2i, *], rfl, rfl, rfl, rfl⟩
    · refine z_iconst d_X7_isColumn_10 ki_1 ?_
      refine z_goto d_X7_isColumn_11 ?_
      exact z_zreturn d_X7_isColumn_15 rfl rfl ⟨by simp [in0, b2i, *], rfl, rfl, rfl, rfl⟩
set_option maxRecDepth 100000 in
set_option maxHeartbeats 4000000 in
theorem ct_X7_isSheet {E : zE} {Sh : zSh} {I : zI} {L : zL} {R : zR} {x : Int32} : zCf E m_X7_isSheet Sh [.int x] I L R (some (.int (b2i (in0 4 x)))) (I) (L) (R) := by
  refine z_met (by decide) [some (.int x)] rfl rfl (Nat.le_of_ble_eq_true rfl) (fun X => ?_)
  refine z_iload_n d_X7_isSheet_0 rfl ?_
  refine z_if_lt d_X7_isSheet_1 (fun h_1 => ?_) (fun h_1 => ?_)
  · refine z_iconst d_X7_isSheet_13 ki_0 ?_
    exact z_zreturn d_X7_isSheet_14 rfl rfl ⟨by simp [in0, b2i, *], rfl, rfl, rfl, rfl⟩
  · refine z_iload_n d_X7_isSheet_4 rfl ?_
    refine z_iconst d_X7_isSheet_5 ki_4 ?_
    refine z_icmp_ge d_X7_isSheet_6 (fun h_6 => ?_) (fun h_6 => ?_)
    · refine z_iconst d_X7_isSheet_13 ki_0 ?_
      exact z_zreturn d_X7_isSheet_14 rfl rfl ⟨by simp [in0, b2i, *], rfl, rfl, rfl, rfl⟩
    · refine z_iconst d_X7_isSheet_9 ki_1 ?_
      refine z_goto d_X7_isSheet_10 ?_
      exact z_zreturn d_X7_isSheet_14 rfl rfl ⟨by simp [in0, b2i, *], rfl, rfl, rfl, rfl⟩
set_option maxRecDepth 100000 in
set_option maxHeartbeats 4000000 in
theorem ct_X7_isLane {E : zE} {Sh : zSh} {I : zI} {L : zL} {R : zR} {x : Int32} : zCf E m_X7_isLane Sh [.int x] I L R (some (.int (b2i (in0 3 x)))) (I) (L) (R) := by
  refine z_met (by decide) [some (.int x)] rfl rfl (Nat.le_of_ble_eq_true rfl) (fun X => ?_)
  refine z_iload_n d_X7_isLane_0 rfl ?_
  refine z_if_lt d_X7_isLane_1 (fun h_1 => ?_) (fun h_1 => ?_)
  · refine z_iconst d_X7_isLane_13 ki_0 ?_
    exact z_zreturn d_X7_isLane_14 rfl rfl ⟨by simp [in0, b2i, *], rfl, rfl, rfl, rfl⟩
  · refine z_iload_n d_X7_isLane_4 rfl ?_
    refine z_iconst d_X7_isLane_5 ki_3 ?_
    refine z_icmp_ge d_X7_isLane_6 (fun h_6 => ?_) (fun h_6 => ?_)
    · refine z_iconst d_X7_isLane_13 ki_0 ?_
      exact z_zreturn d_X7_isLane_14 rfl rfl ⟨by simp [in0, b2i, *], rfl, rfl, rfl, rfl⟩
    · refine z_iconst d_X7_isLane_9 ki_1 ?_
      refine z_goto d_X7_isLane_10 ?_
      exact z_zreturn d_X7_isLane_14 rfl rfl ⟨by simp [in0, b2i, *], rfl, rfl, rfl, rfl⟩
set_option maxRecDepth 100000 in
set_option maxHeartbeats 4000000 in
theorem ct_X7_besideOf {E : zE} {Sh : zSh} {I : zI} {L : zL} {R : zR} {w col side : Int32} : zCf E m_X7_besideOf Sh [.int w, .int col, .int side] I L R (some (.int (besV w col side))) (I) (L) (R) := by
  refine z_met (by decide) [some (.int w), some (.int col), some (.int side)] rfl rfl (Nat.le_of_ble_eq_true rfl) (fun X => ?_)
  refine z_iload_n d_X7_besideOf_0 rfl ?_
  refine z_by (0) (fun e_1_0 => ?_) (fun e_1_0 => ?_)
  · refine z_tabIn (off := 27) (tgt := 28) d_X7_besideOf_1 (by rw [e_1_0]; decide) (by rw [e_1_0]; decide) (by rw [e_1_0]; rfl) (by decide) ?_
    refine z_iload_n d_X7_besideOf_28 rfl ?_
    refine z_bipush d_X7_besideOf_29 kb_8 ?_
    refine z_isub d_X7_besideOf_31 ?_
    exact z_ireturn d_X7_besideOf_32 rfl ⟨by simp [besV, *], rfl, rfl, rfl, rfl⟩
  refine z_by (1) (fun e_1_1 => ?_) (fun e_1_1 => ?_)
  · refine z_tabIn (off := 32) (tgt := 33) d_X7_besideOf_1 (by rw [e_1_1]; decide) (by rw [e_1_1]; decide) (by rw [e_1_1]; rfl) (by decide) ?_
    refine z_iload_n d_X7_besideOf_33 rfl ?_
    refine z_bipush d_X7_besideOf_34 kb_8 ?_
    refine z_iadd d_X7_besideOf_36 ?_
    exact z_ireturn d_X7_besideOf_37 rfl ⟨by simp [besV, *], rfl, rfl, rfl, rfl⟩
  refine z_by (2) (fun e_1_2 => ?_) (fun e_1_2 => ?_)
  · refine z_tabIn (off := 37) (tgt := 38) d_X7_besideOf_1 (by rw [e_1_2]; decide) (by rw [e_1_2]; decide) (by rw [e_1_2]; rfl) (by decide) ?_
    refine z_iload_n d_X7_besideOf_38 rfl ?_
    refine z_if_le d_X7_besideOf_39 (fun h_39 => ?_) (fun h_39 => ?_)
    · refine z_iconst d_X7_besideOf_48 ki_m1 ?_
      exact z_ireturn d_X7_besideOf_49 rfl ⟨by simp [besV, *], rfl, rfl, rfl, rfl⟩
    · refine z_iload_n d_X7_besideOf_42 rfl ?_
      refine z_iconst d_X7_besideOf_43 ki_1 ?_
      refine z_isub d_X7_besideOf_44 ?_
      refine z_goto d_X7_besideOf_45 ?_
      exact z_ireturn d_X7_besideOf_49 rfl ⟨by simp [besV, *], rfl, rfl, rfl, rfl⟩
  refine z_tabOut (tgt := 50) d_X7_besideOf_1 (by have n_0 := sw_ne e_1_0; have n_1 := sw_ne e_1_1; have n_2 := sw_ne e_1_2; replace n_0 : _ ≠ (0 : Int) := n_0; replace n_1 : _ ≠ (1 : Int) := n_1; replace n_2 : _ ≠ (2 : Int) := n_2; omega) (by decide) ?_
  refine z_iload_n d_X7_besideOf_50 rfl ?_
  refine z_bipush d_X7_besideOf_51 kb_7 ?_
  refine z_icmp_ge d_X7_besideOf_53 (fun h_53 => ?_) (fun h_53 => ?_)
  · refine z_iconst d_X7_besideOf_62 ki_m1 ?_
    exact z_ireturn d_X7_besideOf_63 rfl ⟨by simp [besV, *], rfl, rfl, rfl, rfl⟩
  · refine z_iload_n d_X7_besideOf_56 rfl ?_
    refine z_iconst d_X7_besideOf_57 ki_1 ?_
    refine z_iadd d_X7_besideOf_58 ?_
    refine z_goto d_X7_besideOf_59 ?_
    exact z_ireturn d_X7_besideOf_63 rfl ⟨by simp [besV, *], rfl, rfl, rfl, rfl⟩
set_option maxRecDepth 100000 in
set_option maxHeartbeats 4000000 in
theorem ct_X7_sumOf {E : zE} {Sh : zSh} {I : zI} {L : zL} {R : zR} {q n : Nat} (hs : Sh[q]? = some (2, n)) (hq : q < 1000000) (hn : n < 2 ^ 31) : zCf E m_X7_sumOf Sh [.ref q] I L R (some (.int (sumV (I q) n))) (I) (L) (R) := by
  refine z_met (by decide) [some (.ref q), none, none, none, none, none] rfl rfl (Nat.le_of_ble_eq_true rfl) (fun X => ?_)
  refine z_iconst d_X7_sumOf_0 ki_0 ?_
  refine z_istore1 d_X7_sumOf_1 rfl ?_
  refine z_aload_n d_X7_sumOf_2 rfl ?_
  refine z_astore2 d_X7_sumOf_3 rfl ?_
  refine z_aload_n d_X7_sumOf_4 rfl ?_
  refine z_alenI d_X7_sumOf_5 (by first | rfl | assumption) (by omega) ?_
  refine z_istore3 d_X7_sumOf_6 rfl ?_
  refine z_iconst d_X7_sumOf_7 ki_0 ?_
  refine z_istore4 d_X7_sumOf_8 rfl ?_
  have loop : ∀ (Qs : State → Prop), (∀ o : Option Value, zZ E m_X7_sumOf X Qs Sh 0 0 33 [some (.ref q), some (.int (sumV (I q) n)), some (.ref q), some (.int (nI n)), some (.int (nI n)), o] [] I L R) → ∀ i, i ≤ n → ∀ o : Option Value, zZ E m_X7_sumOf X Qs Sh 0 0 10 [some (.ref q), some (.int (sumV (I q) i)), some (.ref q), some (.int (nI n)), some (.int (nI i)), o] [] I L R := by
    intro Qs hx
    refine up_rec (fun i hi ih o => ?_)
    refine z_iload d_X7_sumOf_10 rfl ?_
    refine z_iload_n d_X7_sumOf_12 rfl ?_
    refine z_icmp_ge d_X7_sumOf_13 (fun h_13 => ?_) (fun h_13 => ?_)
    · obtain rfl := eq_of_ge hn hi h_13
      exact hx o
    · have hlt := lt_of_nge hn h_13 (by omega)
      refine z_aload_n d_X7_sumOf_16 rfl ?_
      refine z_iload d_X7_sumOf_17 rfl ?_
      refine z_iaload d_X7_sumOf_19 (by first | rfl | assumption) (by omega) (by first | exact zix_nI (by assumption) (by first | decide | assumption) | exact zix_nI (by omega) (by first | decide | assumption) | assumption) ?_
      refine z_istore5 d_X7_sumOf_20 rfl ?_
      refine z_iload_n d_X7_sumOf_22 rfl ?_
      refine z_iload d_X7_sumOf_23 rfl ?_
      refine z_iadd d_X7_sumOf_25 ?_
      refine z_istore1 d_X7_sumOf_26 rfl ?_
      refine z_iinc4 d_X7_sumOf_27 ki_1 rfl ?_
      refine z_goto d_X7_sumOf_30 ?_
      rw [nI_1]
      exact ih hlt _
  refine loop _ (fun o => ?_) 0 (Nat.zero_le n) none
  refine z_iload_n d_X7_sumOf_33 rfl ?_
  exact z_ireturn d_X7_sumOf_34 rfl ⟨rfl, rfl, rfl, rfl, rfl⟩
set_option maxRecDepth 100000 in
set_option maxHeartbeats 4000000 in
theorem ct_X7_howManyAbove0 {E : zE} {Sh : zSh} {I : zI} {L : zL} {R : zR} {q n : Nat} (hs : Sh[q]? = some (2, n)) (hq : q < 1000000) (hn : n < 2 ^ 31) : zCf E m_X7_howManyAbove0 Sh [.ref q] I L R (some (.int (cntV (fun j => decide (0 < I q j)) n))) (I) (L) (R) := by
  refine z_met (by decide) [some (.ref q), none, none, none, none, none] rfl rfl (Nat.le_of_ble_eq_true rfl) (fun X => ?_)
  refine z_iconst d_X7_howManyAbove0_0 ki_0 ?_
  refine z_istore1 d_X7_howManyAbove0_1 rfl ?_
  refine z_aload_n d_X7_howManyAbove0_2 rfl ?_
  refine z_astore2 d_X7_howManyAbove0_3 rfl ?_
  refine z_aload_n d_X7_howManyAbove0_4 rfl ?_
  refine z_alenI d_X7_howManyAbove0_5 (by first | rfl | assumption) (by omega) ?_
  refine z_istore3 d_X7_howManyAbove0_6 rfl ?_
  refine z_iconst d_X7_howManyAbove0_7 ki_0 ?_
  refine z_istore4 d_X7_howManyAbove0_8 rfl ?_
  have loop : ∀ (Qs : State → Prop), (∀ o : Option Value, zZ E m_X7_howManyAbove0 X Qs Sh 0 0 41 [some (.ref q), some (.int (cntV (fun j => decide (0 < I q j)) n)), some (.ref q), some (.int (nI n)), some (.int (nI n)), o] [] I L R) → ∀ i, i ≤ n → ∀ o : Option Value, zZ E m_X7_howManyAbove0 X Qs Sh 0 0 10 [some (.ref q), some (.int (cntV (fun j => decide (0 < I q j)) i)), some (.ref q), some (.int (nI n)), some (.int (nI i)), o] [] I L R := by
    intro Qs hx
    refine up_rec (fun i hi ih o => ?_)
    refine z_iload d_X7_howManyAbove0_10 rfl ?_
    refine z_iload_n d_X7_howManyAbove0_12 rfl ?_
    refine z_icmp_ge d_X7_howManyAbove0_13 (fun h_13 => ?_) (fun h_13 => ?_)
    · obtain rfl := eq_of_ge hn hi h_13
      exact hx o
    · have hlt := lt_of_nge hn h_13 (by omega)
      refine z_aload_n d_X7_howManyAbove0_16 rfl ?_
      refine z_iload d_X7_howManyAbove0_17 rfl ?_
      refine z_iaload d_X7_howManyAbove0_19 (by first | rfl | assumption) (by omega) (by first | exact zix_nI (by assumption) (by first | decide | assumption) | exact zix_nI (by omega) (by first | decide | assumption) | assumption) ?_
      refine z_istore5 d_X7_howManyAbove0_20 rfl ?_
      refine z_iload_n d_X7_howManyAbove0_22 rfl ?_
      refine z_iload d_X7_howManyAbove0_23 rfl ?_
      refine z_if_le d_X7_howManyAbove0_25 (fun h_25 => ?_) (fun h_25 => ?_)
      · refine z_iconst d_X7_howManyAbove0_32 ki_0 ?_
        refine z_iadd d_X7_howManyAbove0_33 ?_
        refine z_istore1 d_X7_howManyAbove0_34 rfl ?_
        refine z_iinc4 d_X7_howManyAbove0_35 ki_1 rfl ?_
        refine z_goto d_X7_howManyAbove0_38 ?_
        rw [nI_1]
        have h := ih hlt (some (.int (I q i)))
        rw [cntV] at h
        first
          | (rw [show b2i (decide (0 < I q i)) = 0 from by simp [b2i, *]] at h; exact h)
          | (rw [show b2i (decide (0 < I q i)) = 1 from by simp [b2i, Int32.not_le.mp h_25]] at h; exact h)
      · refine z_iconst d_X7_howManyAbove0_28 ki_1 ?_
        refine z_goto d_X7_howManyAbove0_29 ?_
        refine z_iadd d_X7_howManyAbove0_33 ?_
        refine z_istore1 d_X7_howManyAbove0_34 rfl ?_
        refine z_iinc4 d_X7_howManyAbove0_35 ki_1 rfl ?_
        refine z_goto d_X7_howManyAbove0_38 ?_
        rw [nI_1]
        have h := ih hlt (some (.int (I q i)))
        rw [cntV] at h
        first
          | (rw [show b2i (decide (0 < I q i)) = 0 from by simp [b2i, *]] at h; exact h)
          | (rw [show b2i (decide (0 < I q i)) = 1 from by simp [b2i, Int32.not_le.mp h_25]] at h; exact h)
  refine loop _ (fun o => ?_) 0 (Nat.zero_le n) none
  refine z_iload_n d_X7_howManyAbove0_41 rfl ?_
  exact z_ireturn d_X7_howManyAbove0_42 rfl ⟨rfl, rfl, rfl, rfl, rfl⟩
