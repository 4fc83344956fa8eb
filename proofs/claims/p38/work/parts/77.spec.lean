theorem good3 : ∀ a : Fin 8, cntV (fun g => bg 3 a.val g) 3 = 1 → a.val < 7 ∧ ∃ g : Fin 3, bg 3 a.val g.val = true := by decide
theorem good4 : ∀ a : Fin 16, cntV (fun g => bg 4 a.val g) 4 = 1 → a.val < 15 ∧ ∃ g : Fin 4, bg 4 a.val g.val = true := by decide
theorem good_of {P a : Nat} (hP : P = 3 ∨ P = 4) (ha : a < 2 ^ P) (h : cntV (fun g => bg P a g) P = 1) : a < 2 ^ P - 1 ∧ ∃ g : Nat, g < P ∧ bg P a g = true := by
  rcases hP with rfl | rfl
  · obtain ⟨h1, g, h2⟩ := good3 ⟨a, ha⟩ h
    exact ⟨h1, g.val, g.isLt, h2⟩
  · obtain ⟨h1, g, h2⟩ := good4 ⟨a, ha⟩ h
    exact ⟨h1, g.val, g.isLt, h2⟩
theorem stV_le (P a : Nat) : ∀ m g, stV P a m g ≤ m + g
  | 0, g => by simp [stV]
  | m + 1, g => by
    have := stV_le P a m (g + 1)
    unfold stV
    split <;> omega
theorem stV_4 {P : Nat} (hP : P = 3 ∨ P = 4) (a : Nat) : stV P a P 0 ≤ 4 := by
  have := stV_le P a P 0
  omega
theorem wg0 {P a b : Nat} {s : Int} (h : wgV P a s b = 0) : b ≠ 2 ^ P - 1 ∧ (mtV P a s b).1 = 1 := by
  unfold wgV at h
  split at h
  · exact absurd h (by decide)
  · split at h
    · exact absurd h (by decide)
    · split at h
      · exact absurd h (by decide)
      · exact ⟨by assumption, by omega⟩
theorem wg1 {P a b : Nat} {s : Int} (hb : b ≠ 2 ^ P - 1) : wgV P a s b = 0 ↔ (mtV P a s b).1 = 1 := by
  refine ⟨fun h => (wg0 h).2, fun h => ?_⟩
  unfold wgV
  rw [if_neg hb, if_neg (by omega), if_neg (by omega)]
theorem wg_le (P a b : Nat) (s : Int) : wgV P a s b ≤ 3 := by
  unfold wgV
  split
  · exact Nat.le_refl 3
  · split
    · decide
    · split <;> decide
/-- THE ROUND, k steps on: what is wrong, where it is, the WORD's place, the search's junk -/
def gcS (P : Nat) (w : Nat → Nat) (n : Nat) (z0 : Int) (x0 y0 : Int32) : Nat → Nat × Int × Nat × Int32 × Int32
  | 0 => (0, z0, 0, x0, y0)
  | k + 1 => if (gcS P w n z0 x0 y0 k).1 = 0 then
      (wgV P (w k) (gcS P w n z0 x0 y0 k).2.1 (w ((k + 1) % n)),
       if wgV P (w k) (gcS P w n z0 x0 y0 k).2.1 (w ((k + 1) % n)) = 0 then (mtV P (w k) (gcS P w n z0 x0 y0 k).2.1 (w ((k + 1) % n))).2 else (gcS P w n z0 x0 y0 k).2.1,
       (k + 1) % n,
       if w ((k + 1) % n) = 2 ^ P - 1 then (gcS P w n z0 x0 y0 k).2.2.2.1 else nI (mtV P (w k) (gcS P w n z0 x0 y0 k).2.1 (w ((k + 1) % n))).1,
       if w ((k + 1) % n) = 2 ^ P - 1 then (gcS P w n z0 x0 y0 k).2.2.2.2 else iI (mtV P (w k) (gcS P w n z0 x0 y0 k).2.1 (w ((k + 1) % n))).2)
    else gcS P w n z0 x0 y0 k
theorem gcS_b {P : Nat} (hP : P = 3 ∨ P = 4) (w : Nat → Nat) (n : Nat) (z0 : Int) (h0 : 0 ≤ z0) (x0 y0 : Int32) : ∀ k : Nat, -(4 * (k : Int)) ≤ (gcS P w n z0 x0 y0 k).2.1 ∧ (gcS P w n z0 x0 y0 k).2.1 ≤ z0 + 4 * k
  | 0 => by simp [gcS]; omega
  | k + 1 => by
    have h := gcS_b hP w n z0 h0 x0 y0 k
    have h2 := mtV_b (a := w k) hP (gcS P w n z0 x0 y0 k).2.1 (w ((k + 1) % n))
    unfold gcS
    split
    · show -(4 * ((k + 1 : Nat) : Int)) ≤ (if _ then _ else _) ∧ (if _ then _ else _) ≤ _
      split <;> omega
    · omega
theorem gcS_1 (P : Nat) (w : Nat → Nat) (n : Nat) (z0 : Int) (x0 y0 : Int32) (k : Nat) (h : (gcS P w n z0 x0 y0 (k + 1)).1 = 0) : (gcS P w n z0 x0 y0 k).1 = 0 ∧ w ((k + 1) % n) ≠ 2 ^ P - 1 := by
  rw [gcS] at h
  split at h
  · next h0 => exact ⟨h0, (wg0 h).1⟩
  · next h0 => exact absurd h h0
theorem gcS_stay (P : Nat) (w : Nat → Nat) (n : Nat) (z0 : Int) (x0 y0 : Int32) (k : Nat) (h : ¬ (gcS P w n z0 x0 y0 k).1 = 0) : ∀ m, gcS P w n z0 x0 y0 (k + m) = gcS P w n z0 x0 y0 k
  | 0 => rfl
  | m + 1 => by
    have ih := gcS_stay P w n z0 x0 y0 k h m
    rw [← Nat.add_assoc, gcS, if_neg (by rw [ih]; exact h), ih]
def ckR (P : Nat) (w : Nat → Nat) (n : Nat) (x0 y0 x : Int32) : Int32 :=
  if (gcS P w n (stV P (w 0) P 0) x0 y0 n).1 = 0 then (if x = 0 then -4 else if x = 1 then 0 else 100 + iI (((gcS P w n (stV P (w 0) P 0) x0 y0 n).2.1 - (stV P (w 0) P 0)).ediv P))
  else (if x = 0 then nI (gcS P w n (stV P (w 0) P 0) x0 y0 n).2.2.1 else if x = 1 then nI (gcS P w n (stV P (w 0) P 0) x0 y0 n).1 else -4)
set_option maxRecDepth 100000 in
set_option maxHeartbeats 4000000 in
theorem ct_X8_goes {E : zE} {I : zI} {L : zL} {R : zR} {P : Nat} {a b : Int32} (hR : zLx R) (hP : P = 3 ∨ P = 4) (hI : I 68 6 = nI P) : zCf E m_X8_goes zShF [.ref 64, .int a, .int b] I L R (some (.int (if (inV 0 (nI (2 ^ P - 1)) a && inV 0 (nI (2 ^ P - 1)) b) = true then (if cntV (fun g => bg P a.toNatClampNeg g) P = 1 then nI (wgV P a.toNatClampNeg (stV P a.toNatClampNeg P 0) b.toNatClampNeg) else -2) else -1))) (if (inV 0 (nI (2 ^ P - 1)) a && inV 0 (nI (2 ^ P - 1)) b) = true then (if cntV (fun g => bg P a.toNatClampNeg g) P = 1 then (if b.toNatClampNeg = 2 ^ P - 1 then I else mtI I (nI (mtV P a.toNatClampNeg (stV P a.toNatClampNeg P 0) b.toNatClampNeg).1) (iI (mtV P a.toNatClampNeg (stV P a.toNatClampNeg P 0) b.toNatClampNeg).2)) else I) else I) (L) (R) := by
  have hp2 := P2 hP
  refine z_met (by decide) [some (.ref 64), some (.int a), some (.int b)] rfl rfl (Nat.le_of_ble_eq_true rfl) (fun X => ?_)
  refine z_aload_n d_X8_goes_0 rfl ?_
  refine z_iload_n d_X8_goes_1 rfl ?_
  refine z_cVi d_X8_goes_2 q_X8_goes_285 (by first | rfl | assumption) (by omega) ⟨rfl, rfl⟩ (ct_X8_isWord hR hP (by first | assumption | simp [*])) rfl rfl rfl ⟨Nat.zero_le _, Nat.zero_le _⟩ ?_
  refine z_if_eq d_X8_goes_5 (fun h_5 => ?_) (fun h_5 => ?_)
  · have hw := b0 h_5
    refine z_iconst d_X8_goes_16 ki_m1 ?_
    refine z_goto d_X8_goes_17 ?_
    exact z_ireturn d_X8_goes_44 rfl ⟨by rw [hw, Bool.false_and]; rfl, rfl, by rw [hw, Bool.false_and]; rfl, rfl, rfl⟩
  · refine z_aload_n d_X8_goes_8 rfl ?_
    refine z_iload_n d_X8_goes_9 rfl ?_
    refine z_cVi d_X8_goes_10 q_X8_goes_285 (by first | rfl | assumption) (by omega) ⟨rfl, rfl⟩ (ct_X8_isWord hR hP (by first | assumption | simp [*])) rfl rfl rfl ⟨Nat.zero_le _, Nat.zero_le _⟩ ?_
    refine z_if_ne d_X8_goes_13 (fun h_13 => ?_) (fun h_13 => ?_)
    · rw [b1 h_5, b1 h_13, Bool.and_self, if_pos rfl, if_pos rfl]
      obtain ⟨ea, ha⟩ := inV_natn (by omega) (b1 h_5)
      obtain ⟨eb, hb⟩ := inV_natn (by omega) (b1 h_13)
      generalize a.toNatClampNeg = a' at ea ha ⊢
      generalize b.toNatClampNeg = b' at eb hb ⊢
      subst ea
      subst eb
      refine z_aload_n d_X8_goes_20 rfl ?_
      refine z_iload_n d_X8_goes_21 rfl ?_
      refine z_cVi d_X8_goes_22 q_X8_goes_290 (by first | rfl | assumption) (by omega) ⟨rfl, rfl⟩ (ct_X8_isGood hR hP hI (by omega)) rfl rfl rfl ⟨Nat.zero_le _, Nat.zero_le _⟩ ?_
      refine z_if_eq d_X8_goes_25 (fun h_25 => ?_) (fun h_25 => ?_)
      · have hg := b0 h_25
        rw [decide_eq_false_iff_not] at hg
        refine z_bipush d_X8_goes_42 kb_m2 ?_
        exact z_ireturn d_X8_goes_44 rfl ⟨by rw [if_neg hg], rfl, by rw [if_neg hg], rfl, rfl⟩
      · have hg := of_decide_eq_true (b1 h_25)
        have hgo := good_of hP (by omega) hg
        rw [if_pos hg, if_pos hg]
        have hs4 := stV_4 hP a'
        refine z_aload_n d_X8_goes_28 rfl ?_
        refine z_iload_n d_X8_goes_29 rfl ?_
        refine z_aload_n d_X8_goes_30 rfl ?_
        refine z_iload_n d_X8_goes_31 rfl ?_
        refine z_cVi d_X8_goes_32 q_X8_goes_293 (by first | rfl | assumption) (by omega) ⟨rfl, rfl⟩ (ct_X8_firstBegin hR hP hI (by omega) hgo.2) rfl rfl rfl ⟨Nat.zero_le _, Nat.zero_le _⟩ ?_
        refine z_iload_n d_X8_goes_35 rfl ?_
        refine z_cVi d_X8_goes_36 q_X8_goes_296 (by first | rfl | assumption) (by omega) ⟨rfl, rfl⟩ (ct_X8_wrong (s := ((stV P a' P 0 : Nat) : Int)) hR hP hI hgo.1 (by omega) (by omega) (by omega)) rfl rfl rfl ⟨Nat.zero_le _, Nat.zero_le _⟩ ?_
        refine z_goto d_X8_goes_39 ?_
        exact z_ireturn d_X8_goes_44 rfl ⟨rfl, rfl, rfl, rfl, rfl⟩
    · have hw := b0 h_13
      refine z_iconst d_X8_goes_16 ki_m1 ?_
      refine z_goto d_X8_goes_17 ?_
      exact z_ireturn d_X8_goes_44 rfl ⟨by rw [hw, Bool.and_false]; rfl, rfl, by rw [hw, Bool.and_false]; rfl, rfl, rfl⟩
set_option maxRecDepth 100000 in
set_option maxHeartbeats 4000000 in
theorem ct_X8_clock {E : zE} {I : zI} {L : zL} {R : zR} {P n : Nat} {w : Nat → Nat} {x : Int32} (hR : zLx R) (hP : P = 3 ∨ P = 4) (hI : I 68 6 = nI P) (hn : I 64 6 = nI n) (hn12 : n ≤ 12) (hw : ∀ j, j < n → I 71 j = nI (w j) ∧ w j < 2 ^ P) : zCf E m_X8_clock zShF [.ref 64, .int x] I L R (some (.int (if inV 0 2 x = true then (if n = 0 then -2 else if cntV (fun g => bg P (w 0) g) P = 1 then ckR P w n (I 64 28) (I 64 29) x else -2) else -1))) (if inV 0 2 x = true then (if n = 0 then I else if cntV (fun g => bg P (w 0) g) P = 1 then mtI I (gcS P w n (stV P (w 0) P 0) (I 64 28) (I 64 29) n).2.2.2.1 (gcS P w n (stV P (w 0) P 0) (I 64 28) (I 64 29) n).2.2.2.2 else I) else I) (L) (R) := by
  have hp2 := P2 hP
  refine z_met (by decide) [some (.ref 64), some (.int x), none, none, none, none, none, none] rfl rfl (Nat.le_of_ble_eq_true rfl) (fun X => ?_)
  refine z_iload_n d_X8_clock_0 rfl ?_
  refine z_i2l d_X8_clock_1 ?_
  refine z_lconst (v := 0) d_X8_clock_2 (by decide) ?_
  refine z_ldc2 d_X8_clock_3 l_X8_288 ?_
  refine z_cSi d_X8_clock_6 q_X8_clock_92 ⟨rfl, rfl⟩ (ct_X8_in) rfl rfl rfl ⟨Nat.zero_le _, Nat.zero_le _⟩ ?_
  rw [inLc (lo := 0) (hi := 2) (by decide) (by decide)]
  refine z_if_ne d_X8_clock_9 (fun h_9 => ?_) (fun h_9 => ?_)
  · rw [if_pos (b1 h_9), if_pos (b1 h_9)]
    refine z_aload_n d_X8_clock_14 rfl ?_
    refine z_getI d_X8_clock_15 f_X8_99 (by first | rfl | assumption) (by omega) ?_
    rw [hn]
    refine z_if_eq d_X8_clock_18 (fun h_18 => ?_) (fun h_18 => ?_)
    · have e : n = 0 := (nI_eq (a := n) (b := 0) (by omega) (by decide)).mp h_18
      refine z_bipush d_X8_clock_34 kb_m2 ?_
      exact z_ireturn d_X8_clock_36 rfl ⟨by rw [if_pos e], rfl, by rw [if_pos e], rfl, rfl⟩
    · have hn0 : ¬ n = 0 := fun q => h_18 (by rw [q]; rfl)
      rw [if_neg hn0, if_neg hn0]
      have hw0 := hw 0 (by omega)
      refine z_aload_n d_X8_clock_21 rfl ?_
      refine z_aload_n d_X8_clock_22 rfl ?_
      refine z_getR d_X8_clock_23 f_X8_30 (by first | rfl | assumption) (by omega) (by first | exact hR _ _ _ rfl | rfl | assumption) ?_
      refine z_iconst d_X8_clock_26 ki_0 ?_
      refine z_iaload d_X8_clock_27 (by first | rfl | assumption) (by omega) (zix_lit 0 (by decide)) ?_
      rw [hw0.1]
      refine z_cVi d_X8_clock_28 q_X8_clock_290 (by first | rfl | assumption) (by omega) ⟨rfl, rfl⟩ (ct_X8_isGood hR hP hI (by omega)) rfl rfl rfl ⟨Nat.zero_le _, Nat.zero_le _⟩ ?_
      refine z_if_ne d_X8_clock_31 (fun h_31 => ?_) (fun h_31 => ?_)
      · have hg := of_decide_eq_true (b1 h_31)
        have hgo := good_of hP hw0.2 hg
        rw [if_pos hg, if_pos hg]
        have hs4 := stV_4 hP (w 0)
        refine z_aload_n d_X8_clock_37 rfl ?_
        refine z_aload_n d_X8_clock_38 rfl ?_
        refine z_getR d_X8_clock_39 f_X8_30 (by first | rfl | assumption) (by omega) (by first | exact hR _ _ _ rfl | rfl | assumption) ?_
        refine z_iconst d_X8_clock_42 ki_0 ?_
        refine z_iaload d_X8_clock_43 (by first | rfl | assumption) (by omega) (zix_lit 0 (by decide)) ?_
        rw [hw0.1]
        refine z_cVi d_X8_clock_44 q_X8_clock_293 (by first | rfl | assumption) (by omega) ⟨rfl, rfl⟩ (ct_X8_firstBegin hR hP hI (by omega) hgo.2) rfl rfl rfl ⟨Nat.zero_le _, Nat.zero_le _⟩ ?_
        unfold ckR
        generalize hz0 : stV P (w 0) P 0 = z0 at hs4 ⊢
        refine z_istore2 d_X8_clock_47 rfl ?_
        refine z_iload_n d_X8_clock_48 rfl ?_
        refine z_istore3 d_X8_clock_49 rfl ?_
        refine z_iconst d_X8_clock_50 ki_1 ?_
        refine z_istore4 d_X8_clock_51 rfl ?_
        generalize hgs : gcS P w n z0 (I 64 28) (I 64 29) = gs
        have hg0 : gs 0 = (0, (z0 : Int), 0, I 64 28, I 64 29) := by rw [← hgs]; rfl
        have hgb : ∀ k : Nat, -(4 * (k : Int)) ≤ (gs k).2.1 ∧ (gs k).2.1 ≤ z0 + 4 * k := by intro k; rw [← hgs]; exact gcS_b hP w n z0 (by omega) _ _ k
        have hg1 : ∀ k, (gs (k + 1)).1 = 0 → (gs k).1 = 0 ∧ w ((k + 1) % n) ≠ 2 ^ P - 1 := by intro k; rw [← hgs]; exact gcS_1 P w n z0 _ _ k
        have hgk : ∀ k, (gs k).1 = 0 → gs (k + 1) = (wgV P (w k) (gs k).2.1 (w ((k + 1) % n)), if wgV P (w k) (gs k).2.1 (w ((k + 1) % n)) = 0 then (mtV P (w k) (gs k).2.1 (w ((k + 1) % n))).2 else (gs k).2.1, (k + 1) % n, if w ((k + 1) % n) = 2 ^ P - 1 then (gs k).2.2.2.1 else nI (mtV P (w k) (gs k).2.1 (w ((k + 1) % n))).1, if w ((k + 1) % n) = 2 ^ P - 1 then (gs k).2.2.2.2 else iI (mtV P (w k) (gs k).2.1 (w ((k + 1) % n))).2) := by intro k h; rw [← hgs] at h ⊢; rw [gcS, if_pos h]
        have hst : ∀ k m, ¬ (gs k).1 = 0 → gs (k + m) = gs k := by intro k m h; rw [← hgs] at h ⊢; exact gcS_stay P w n z0 _ _ k h m
        have hIm : ∀ x y, mtI I x y 68 6 = nI P := fun x y => by rw [mtI_ne (by decide)]; exact hI
        have hnm : ∀ x y, mtI I x y 64 6 = nI n := fun x y => by rw [mtI_j (by decide) (by decide)]; exact hn
        have h71 : ∀ x y, mtI I x y 71 = I 71 := fun x y => mtI_ne (by decide)
        have loop : ∀ (Qs : State → Prop), ((gs n).1 = 0 → ∀ (o4 o5 o6 o7 : Option Value), zZ E m_X8_clock X Qs zShF 0 0 146 [some (.ref 64), some (.int x), some (.int (nI z0)), some (.int (iI (gs n).2.1)), o4, o5, o6, o7] [] (mtI I (gs n).2.2.2.1 (gs n).2.2.2.2) L R) → (¬ (gs n).1 = 0 → zZ E m_X8_clock X Qs zShF 0 0 129 [] [.int (if x = 0 then nI (gs n).2.2.1 else if x = 1 then nI (gs n).1 else -4)] (mtI I (gs n).2.2.2.1 (gs n).2.2.2.2) L R → True) → (¬ (gs n).1 = 0 → ∀ ls : List (Option Value), zZ E m_X8_clock X Qs zShF 0 0 129 ls [.int (if x = 0 then nI (gs n).2.2.1 else if x = 1 then nI (gs n).1 else -4)] (mtI I (gs n).2.2.2.1 (gs n).2.2.2.2) L R) → ∀ k, k ≤ n → (gs k).1 = 0 → ∀ (o5 o6 o7 : Option Value), zZ E m_X8_clock X Qs zShF 0 0 53 [some (.ref 64), some (.int x), some (.int (nI z0)), some (.int (iI (gs k).2.1)), some (.int (nI (k + 1))), o5, o6, o7] [] (mtI I (gs k).2.2.2.1 (gs k).2.2.2.2) L R := by
          intro Qs hx _ hx2
          refine up_rec (fun k hk ih hc o5 o6 o7 => ?_)
          have hbk := hgb k
          refine z_iload d_X8_clock_53 rfl ?_
          refine z_aload_n d_X8_clock_55 rfl ?_
          refine z_getI d_X8_clock_56 f_X8_99 (by first | rfl | assumption) (by omega) ?_
          rw [hnm]
          refine z_icmp_gt d_X8_clock_59 (fun h_59 => ?_) (fun h_59 => ?_)
          · have e : k = n := by have := (nI_ltI (a := n) (b := k + 1) (by omega) (by omega)).mp h_59; omega
            subst e
            exact hx hc _ _ _ _
          · have hkn : k < n := by have : ¬ n < k + 1 := fun q => h_59 (nI_lt q (by omega)); omega
            have hwk := hw k hkn
            have hnx : (k + 1) % n < n := Nat.mod_lt _ (by omega)
            have hwn := hw _ hnx
            have hak : w k < 2 ^ P - 1 := by
              rcases Nat.eq_zero_or_pos k with q | q
              · rw [q]; exact hgo.1
              · obtain ⟨k', rfl⟩ : ∃ k', k = k' + 1 := ⟨k - 1, by omega⟩
                have := (hg1 k' hc).2
                rw [Nat.mod_eq_of_lt hkn] at this
                omega
            refine z_aload_n d_X8_clock_62 rfl ?_
            refine z_getR d_X8_clock_63 f_X8_30 (by first | rfl | assumption) (by omega) (by first | exact hR _ _ _ rfl | rfl | assumption) ?_
            refine z_iload d_X8_clock_66 rfl ?_
            refine z_iconst d_X8_clock_68 ki_1 ?_
            refine z_isub d_X8_clock_69 ?_
            refine z_iaload d_X8_clock_70 (by first | rfl | assumption) (by omega) (zix_e (show nI (k + 1) - (1 : Int32) = nI k from pk_sub (a := k + 1) (b := 1) (by omega)) (by omega) (by decide)) ?_
            rw [h71, hwk.1]
            refine z_istore5 d_X8_clock_71 rfl ?_
            refine z_aload_n d_X8_clock_73 rfl ?_
            refine z_getR d_X8_clock_74 f_X8_30 (by first | rfl | assumption) (by omega) (by first | exact hR _ _ _ rfl | rfl | assumption) ?_
            refine z_iload d_X8_clock_77 rfl ?_
            refine z_aload_n d_X8_clock_79 rfl ?_
            refine z_getI d_X8_clock_80 f_X8_99 (by first | rfl | assumption) (by omega) ?_
            rw [hnm]
            refine z_irem d_X8_clock_83 (nI_ne0 (by omega) (by omega)) ?_
            rw [pk_rem (by omega) (by omega) (by omega)]
            refine z_iaload d_X8_clock_84 (by first | rfl | assumption) (by omega) (zix_nI hnx (by omega) |> fun h => ⟨Nat.lt_of_lt_of_le h.1 hn12, h.2⟩) ?_
            rw [h71, hwn.1]
            refine z_istore6 d_X8_clock_85 rfl ?_
            refine z_aload_n d_X8_clock_87 rfl ?_
            refine z_iload d_X8_clock_88 rfl ?_
            refine z_iload_n d_X8_clock_90 rfl ?_
            refine z_iload d_X8_clock_91 rfl ?_
            refine z_cVi d_X8_clock_93 q_X8_clock_296 (by first | rfl | assumption) (by omega) ⟨rfl, rfl⟩ (ct_X8_wrong hR hP (hIm _ _) hak hwn.2 (by omega) (by omega)) rfl rfl rfl ⟨Nat.zero_le _, Nat.zero_le _⟩ ?_
            have hmem : (if w ((k + 1) % n) = 2 ^ P - 1 then mtI I (gs k).2.2.2.1 (gs k).2.2.2.2 else mtI (mtI I (gs k).2.2.2.1 (gs k).2.2.2.2) (nI (mtV P (w k) (gs k).2.1 (w ((k + 1) % n))).1) (iI (mtV P (w k) (gs k).2.1 (w ((k + 1) % n))).2)) = mtI I (gs (k + 1)).2.2.2.1 (gs (k + 1)).2.2.2.2 := by
              rw [hgk k hc]
              split
              · next q => simp only [if_pos q]
              · next q => simp only [if_neg q, mtI_mt]
            rw [hmem]
            have hc1 : (gs (k + 1)).1 = wgV P (w k) (gs k).2.1 (w ((k + 1) % n)) := by rw [hgk k hc]
            have hc2 : (gs (k + 1)).2.2.1 = (k + 1) % n := by rw [hgk k hc]
            have hwl := wg_le P (w k) (w ((k + 1) % n)) (gs k).2.1
            refine z_istore7 d_X8_clock_96 rfl ?_
            refine z_iload d_X8_clock_98 rfl ?_
            refine z_if_le d_X8_clock_100 (fun h_100 => ?_) (fun h_100 => ?_)
            · have hz : wgV P (w k) (gs k).2.1 (w ((k + 1) % n)) = 0 := by
                rcases Nat.eq_zero_or_pos (wgV P (w k) (gs k).2.1 (w ((k + 1) % n))) with q | q
                · exact q
                · exact absurd h_100 (Int32.not_le.mpr (nI_lt (a := 0) q (by omega)))
              have hbne := (wg0 hz).1
              refine z_aload_n d_X8_clock_130 rfl ?_
              refine z_iload d_X8_clock_131 rfl ?_
              refine z_iload_n d_X8_clock_133 rfl ?_
              refine z_iload d_X8_clock_134 rfl ?_
              refine z_cVi d_X8_clock_136 q_X8_clock_299 (by first | rfl | assumption) (by omega) ⟨rfl, rfl⟩ (ct_X8_goesTo hR hP (hIm _ _) hak (by omega) (by omega) (by omega)) rfl rfl rfl ⟨Nat.zero_le _, Nat.zero_le _⟩ ?_
              have hm2 : mtI (mtI I (gs (k + 1)).2.2.2.1 (gs (k + 1)).2.2.2.2) (nI (mtV P (w k) (gs k).2.1 (w ((k + 1) % n))).1) (iI (mtV P (w k) (gs k).2.1 (w ((k + 1) % n))).2) = mtI I (gs (k + 1)).2.2.2.1 (gs (k + 1)).2.2.2.2 := by
                rw [mtI_mt, hgk k hc]
                simp only [if_neg hbne]
              rw [hm2]
              have hat : (mtV P (w k) (gs k).2.1 (w ((k + 1) % n))).2 = (gs (k + 1)).2.1 := by rw [hgk k hc]; simp only [if_pos hz]
              rw [hat]
              refine z_istore3 d_X8_clock_139 rfl ?_
              refine z_iinc4 d_X8_clock_140 ki_1 rfl ?_
              refine z_goto d_X8_clock_143 ?_
              rw [nI_1]
              exact ih hkn (by rw [hc1]; exact hz) _ _ _
            · have hne : ¬ (gs (k + 1)).1 = 0 := fun q => h_100 (by rw [hc1] at q; rw [q]; decide)
              have hen : gs n = gs (k + 1) := by
                have := hst (k + 1) (n - (k + 1)) hne
                rw [show k + 1 + (n - (k + 1)) = n by omega] at this
                exact this
              have hx3 := hx2 (by rw [hen]; exact hne)
              rw [hen, hc2, hc1] at hx3
              refine z_iload_n d_X8_clock_103 rfl ?_
              refine z_if_ne d_X8_clock_104 (fun h_104 => ?_) (fun h_104 => ?_)
              · refine z_iload_n d_X8_clock_117 rfl ?_
                refine z_iconst d_X8_clock_118 ki_1 ?_
                refine z_icmp_ne d_X8_clock_119 (fun h_119 => ?_) (fun h_119 => ?_)
                · refine z_bipush d_X8_clock_127 kb_m4 ?_
                  refine z_topi (y := if x = 0 then nI ((k + 1) % n) else if x = 1 then nI (wgV P (w k) (gs k).2.1 (w ((k + 1) % n))) else -4) (by first | rw [if_pos h_104] | rw [if_neg h_104, if_pos h_119] | rw [if_neg h_104, if_neg h_119]) ?_
                  exact hx3 _
                · refine z_iload d_X8_clock_122 rfl ?_
                  refine z_goto d_X8_clock_124 ?_
                  refine z_topi (y := if x = 0 then nI ((k + 1) % n) else if x = 1 then nI (wgV P (w k) (gs k).2.1 (w ((k + 1) % n))) else -4) (by first | rw [if_pos h_104] | rw [if_neg h_104, if_pos h_119] | rw [if_neg h_104, if_neg h_119]) ?_
                  exact hx3 _
              · refine z_iload d_X8_clock_107 rfl ?_
                refine z_aload_n d_X8_clock_109 rfl ?_
                refine z_getI d_X8_clock_110 f_X8_99 (by first | rfl | assumption) (by omega) ?_
                rw [hnm]
                refine z_irem d_X8_clock_113 (nI_ne0 (by omega) (by omega)) ?_
                rw [pk_rem (by omega) (by omega) (by omega)]
                refine z_goto d_X8_clock_114 ?_
                refine z_topi (y := if x = 0 then nI ((k + 1) % n) else if x = 1 then nI (wgV P (w k) (gs k).2.1 (w ((k + 1) % n))) else -4) (by first | rw [if_pos h_104] | rw [if_neg h_104, if_pos h_119] | rw [if_neg h_104, if_neg h_119]) ?_
                exact hx3 _
        refine z_mem (I' := mtI I (gs 0).2.2.2.1 (gs 0).2.2.2.2) (by rw [hg0]; exact (mtI_self I).symm) rfl rfl (z_ls (ls' := [some (.ref 64), some (.int x), some (.int (nI z0)), some (.int (iI (gs 0).2.1)), some (.int (nI (0 + 1))), none, none, none]) (by rw [hg0]; rfl) (loop _ (fun hc o4 o5 o6 o7 => ?_) (fun _ _ => trivial) (fun hc ls => ?_) 0 (Nat.zero_le n) (by rw [hg0]) none none none))
        · rw [if_pos hc]
          have hbn := hgb n
          refine z_iload_n d_X8_clock_146 rfl ?_
          refine z_if_ne d_X8_clock_147 (fun h_147 => ?_) (fun h_147 => ?_)
          · refine z_iload_n d_X8_clock_155 rfl ?_
            refine z_iconst d_X8_clock_156 ki_1 ?_
            refine z_icmp_ne d_X8_clock_157 (fun h_157 => ?_) (fun h_157 => ?_)
            · refine z_bipush d_X8_clock_164 kb_100 ?_
              refine z_aload_n d_X8_clock_166 rfl ?_
              refine z_iload_n d_X8_clock_167 rfl ?_
              refine z_iload_n d_X8_clock_168 rfl ?_
              refine z_isub d_X8_clock_169 ?_
              refine z_topi (y := iI ((gs n).2.1 - z0)) (iI_sub (gs n).2.1 (z0 : Int)) ?_
              refine z_cVi d_X8_clock_170 q_X8_clock_302 (by first | rfl | assumption) (by omega) ⟨rfl, rfl⟩ (ct_X8_wells hR hP (hIm _ _) (by omega) (by omega)) rfl rfl rfl ⟨Nat.zero_le _, Nat.zero_le _⟩ ?_
              refine z_iadd d_X8_clock_173 ?_
              exact z_ireturn d_X8_clock_174 rfl ⟨by first | rw [if_pos h_147] | rw [if_neg h_147, if_pos h_157] | rw [if_neg h_147, if_neg h_157], rfl, rfl, rfl, rfl⟩
            · refine z_iconst d_X8_clock_160 ki_0 ?_
              refine z_goto d_X8_clock_161 ?_
              exact z_ireturn d_X8_clock_174 rfl ⟨by first | rw [if_pos h_147] | rw [if_neg h_147, if_pos h_157] | rw [if_neg h_147, if_neg h_157], rfl, rfl, rfl, rfl⟩
          · refine z_bipush d_X8_clock_150 kb_m4 ?_
            refine z_goto d_X8_clock_152 ?_
            exact z_ireturn d_X8_clock_174 rfl ⟨by first | rw [if_pos h_147] | rw [if_neg h_147, if_pos h_157] | rw [if_neg h_147, if_neg h_157], rfl, rfl, rfl, rfl⟩
        · rw [if_neg hc]
          exact z_ireturn d_X8_clock_129 rfl ⟨rfl, rfl, rfl, rfl, rfl⟩
      · have hg := b0 h_31
        rw [decide_eq_false_iff_not] at hg
        refine z_bipush d_X8_clock_34 kb_m2 ?_
        exact z_ireturn d_X8_clock_36 rfl ⟨by rw [if_neg hg], rfl, by rw [if_neg hg], rfl, rfl⟩
  · have hx := b0 h_9
    refine z_iconst d_X8_clock_12 ki_m1 ?_
    exact z_ireturn d_X8_clock_13 rfl ⟨by rw [hx]; rfl, rfl, by rw [hx]; rfl, rfl, rfl⟩
