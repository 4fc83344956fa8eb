/-- memory of the gates: landed, wrong, wrongAt, carried -/
def gI (I : zI) (l wr at' ca : Int32) : zI := va_up I 37 (va_up (va_up (va_up (va_up (I 37) 1 l) 2 wr) 3 at') 4 ca)
theorem gI_self (I : zI) : gI I (I 37 1) (I 37 2) (I 37 3) (I 37 4) = I := by
  unfold gI
  rw [up_self (I 37) 1, up_self (I 37) 2, up_self (I 37) 3, up_self (I 37) 4, up_self]
theorem gI_ne {I : zI} {l wr at' ca : Int32} {k : Nat} (h : k ≠ 37) : gI I l wr at' ca k = I k := up_ne h
theorem gI_j {I : zI} {l wr at' ca : Int32} {j : Nat} (h1 : j ≠ 1) (h2 : j ≠ 2) (h3 : j ≠ 3) (h4 : j ≠ 4) : gI I l wr at' ca 37 j = I 37 j := by unfold gI; rw [up_eq, up_ne h4, up_ne h3, up_ne h2, up_ne h1]
theorem gI_1 (I : zI) (l wr at' ca : Int32) : gI I l wr at' ca 37 1 = l := by unfold gI; rw [up_eq, up_ne (by decide), up_ne (by decide), up_ne (by decide), up_eq]
theorem gI_2 (I : zI) (l wr at' ca : Int32) : gI I l wr at' ca 37 2 = wr := by unfold gI; rw [up_eq, up_ne (by decide), up_ne (by decide), up_eq]
theorem gI_3 (I : zI) (l wr at' ca : Int32) : gI I l wr at' ca 37 3 = at' := by unfold gI; rw [up_eq, up_ne (by decide), up_eq]
theorem gI_4 (I : zI) (l wr at' ca : Int32) : gI I l wr at' ca 37 4 = ca := by unfold gI; rw [up_eq, up_eq]
theorem gI_z1 (I : zI) (l wr at' ca x : Int32) : zi (gI I l wr at' ca) 37 1 x = gI I x wr at' ca := by
  unfold gI; rw [zi_up]; congr 1
  rw [up_comm _ _ _ (show 4 ≠ 1 by decide), up_comm _ _ _ (show 3 ≠ 1 by decide), up_comm _ _ _ (show 2 ≠ 1 by decide), up_up]
theorem gI_z2 (I : zI) (l wr at' ca x : Int32) : zi (gI I l wr at' ca) 37 2 x = gI I l x at' ca := by
  unfold gI; rw [zi_up]; congr 1
  rw [up_comm _ _ _ (show 4 ≠ 2 by decide), up_comm _ _ _ (show 3 ≠ 2 by decide), up_up]
theorem gI_z3 (I : zI) (l wr at' ca x : Int32) : zi (gI I l wr at' ca) 37 3 x = gI I l wr x ca := by
  unfold gI; rw [zi_up]; congr 1
  rw [up_comm _ _ _ (show 4 ≠ 3 by decide), up_up]
theorem gI_z4 (I : zI) (l wr at' ca x : Int32) : zi (gI I l wr at' ca) 37 4 x = gI I l wr at' x := by
  unfold gI; rw [zi_up]; congr 1
  rw [up_up]
def ldv (l : Int32) (o : Option Int) : Int32 := match o with
  | none => l
  | some f => iI f
theorem gI_ld (I : zI) (l wr at' ca : Int32) (o : Option Int) : ldI (gI I l wr at' ca) o = gI I (ldv l o) wr at' ca := by
  cases o with
  | none => rfl
  | some f => exact gI_z1 I l wr at' ca (iI f)
/-- THE ROUND of n WORDS w, k steps on: what is wrong, where, where the PACKET is; what the field has -/
def grS (P : Nat) (w : Nat → Nat) (n : Nat) (z0 : Int) (l0 at0 : Int32) : Nat → Nat × Int32 × Int × Int32
  | 0 => (0, at0, z0, l0)
  | k + 1 => if (grS P w n z0 l0 at0 k).1 = 0 then ((farV P (w k) (grS P w n z0 l0 at0 k).2.2.1 (w (if k + 1 < n then k + 1 else 0))).1, nI (if k + 1 < n then k + 1 else 0), ((farV P (w k) (grS P w n z0 l0 at0 k).2.2.1 (w (if k + 1 < n then k + 1 else 0))).2).getD (grS P w n z0 l0 at0 k).2.2.1, ldv (grS P w n z0 l0 at0 k).2.2.2 (farV P (w k) (grS P w n z0 l0 at0 k).2.2.1 (w (if k + 1 < n then k + 1 else 0))).2) else grS P w n z0 l0 at0 k
/-- a landing is near -/
theorem far_b (P a : Nat) (hP : P = 3 ∨ P = 4) (s : Int) (b : Nat) (f : Int) (h : (farV P a s b).2 = some f) : s - 4 ≤ f ∧ f ≤ s + 9 := by
  have hl := lstL_b P a P s
  have hfr := frS_b P b s (lstL P a P s - s + 1).toNat
  have hff := fstL_b P b P (frS P b s (lstL P a P s - s + 1).toNat).2
  unfold farV at h
  split at h
  · split at h
    · cases h
    · cases h; omega
  · split at h <;> cases h
theorem far_c (P a : Nat) (s : Int) (b : Nat) : (farV P a s b).1 ≤ 3 := by
  unfold farV
  repeat' split
  all_goals exact Nat.le_of_ble_eq_true rfl
theorem far_s (P a : Nat) (s : Int) (b : Nat) (h : (farV P a s b).1 = 0) : ∃ f, (farV P a s b).2 = some f := by
  unfold farV at h ⊢
  split
  · next h1 =>
    rw [if_pos h1] at h
    split
    · next h2 => rw [if_pos h2] at h; cases h
    · exact ⟨_, rfl⟩
  · next h1 =>
    rw [if_neg h1] at h
    split
    · next h2 => rw [if_pos h2] at h; cases h
    · next h2 => rw [if_neg h2] at h; cases h
theorem grS_b (P : Nat) (hP : P = 3 ∨ P = 4) (w : Nat → Nat) (n : Nat) (z0 : Int) (l0 at0 : Int32) : ∀ k, z0 - 4 * k ≤ (grS P w n z0 l0 at0 k).2.2.1 ∧ (grS P w n z0 l0 at0 k).2.2.1 ≤ z0 + 9 * k
  | 0 => by simp [grS]
  | k + 1 => by
    have := grS_b P hP w n z0 l0 at0 k
    unfold grS
    split
    · cases hf : (farV P (w k) (grS P w n z0 l0 at0 k).2.2.1 (w (if k + 1 < n then k + 1 else 0))).2 with
      | none => simp; omega
      | some f =>
        have hb := far_b P (w k) hP _ _ f hf
        simp; omega
    · omega
theorem grS_l (P : Nat) (w : Nat → Nat) (n : Nat) (z0 : Int) (l0 at0 : Int32) (k : Nat) (h : (grS P w n z0 l0 at0 (k + 1)).1 = 0) : (grS P w n z0 l0 at0 (k + 1)).2.2.2 = iI (grS P w n z0 l0 at0 (k + 1)).2.2.1 ∧ (grS P w n z0 l0 at0 k).1 = 0 := by
  rw [grS] at h
  split at h
  · next h0 =>
    obtain ⟨f, hf⟩ := far_s _ _ _ _ h
    refine ⟨?_, h0⟩
    rw [grS, if_pos h0]
    simp [hf, ldv]
  · next h0 => exact absurd h h0
set_option maxRecDepth 100000 in
set_option maxHeartbeats 4000000 in
theorem ct_X1_goRound {E : zE} {I : zI} {L : zL} {R : zR} {P n : Nat} {w : Nat → Nat} (hR : zLx R) (hP : P = 3 ∨ P = 4) (hI : I 37 0 = nI P) (hn : I 3 4 = nI n) (hn1 : 1 ≤ n) (hn12 : n ≤ 12) (hw : ∀ j, j < n → I 7 j = nI (w j) ∧ w j < 16) : zCf E m_X1_goRound zShF [.ref 37, .ref 3] I L R (none) (gI I (grS P w n (stV P (w 0) P 0) (I 37 1) (I 37 3) n).2.2.2 (nI (grS P w n (stV P (w 0) P 0) (I 37 1) (I 37 3) n).1) (grS P w n (stV P (w 0) P 0) (I 37 1) (I 37 3) n).2.1 (fdV ((grS P w n (stV P (w 0) P 0) (I 37 1) (I 37 3) n).2.2.2 - nI (stV P (w 0) P 0)) (nI P))) (L) (R) := by
  have hst : stV P (w 0) P 0 ≤ 4 := by
    have key : ∀ m g, m + g ≤ 4 → stV P (w 0) m g ≤ 4 := by
      intro m
      induction m with
      | zero => intro g _; simp [stV]
      | succ m ih => intro g hg; unfold stV; split; omega; exact ih (g + 1) (by omega)
    exact key P 0 (by omega)
  generalize hz0 : stV P (w 0) P 0 = z0 at hst
  have h00 := hw 0 (by omega)
  refine z_met (by decide) [some (.ref 37), some (.ref 3), none, none, none, none, none] rfl rfl (Nat.le_of_ble_eq_true rfl) (fun X => ?_)
  refine z_aload_n d_X1_goRound_0 rfl ?_
  refine z_getI d_X1_goRound_1 f_X1_70 (by first | rfl | assumption) (by omega) ?_
  refine z_bipush d_X1_goRound_4 kb_12 ?_
  rw [hn]
  refine z_mmin d_X1_goRound_6 q_X1_goRound_75 (by decide) (Nat.le_of_ble_eq_true rfl) ⟨Nat.zero_le _, Nat.zero_le _⟩ ?_
  rw [show (if (12 : Int32) < nI n then 12 else nI n) = nI n from if_neg (fun q => by have := (nI_ltI (a := 12) (b := n) (by decide) (by omega)).mp q; omega)]
  refine z_istore2 d_X1_goRound_9 rfl ?_
  refine z_aload_n d_X1_goRound_10 rfl ?_
  refine z_aload_n d_X1_goRound_11 rfl ?_
  refine z_getR d_X1_goRound_12 f_X1_78 (by first | rfl | assumption) (by omega) (by first | exact hR _ _ _ rfl | rfl | assumption) ?_
  refine z_iconst d_X1_goRound_15 ki_0 ?_
  refine z_iaload d_X1_goRound_16 (by first | rfl | assumption) (by omega) (zix_lit 0 (by decide)) ?_
  rw [h00.1]
  refine z_cVi d_X1_goRound_17 q_X1_goRound_81 (by first | rfl | assumption) (by omega) ⟨rfl, rfl⟩ (ct_X1_startOf hR hP hI h00.2) rfl rfl rfl ⟨Nat.zero_le _, Nat.zero_le _⟩ ?_
  rw [hz0]
  refine z_istore3 d_X1_goRound_20 rfl ?_
  refine z_iload_n d_X1_goRound_21 rfl ?_
  refine z_istore4 d_X1_goRound_22 rfl ?_
  refine z_mem (I' := gI I (I 37 1) (I 37 2) (I 37 3) (I 37 4)) (gI_self I).symm rfl rfl ?_
  refine z_aload_n d_X1_goRound_24 rfl ?_
  refine z_iconst d_X1_goRound_25 ki_0 ?_
  refine z_putI d_X1_goRound_26 f_X1_85 p_X1_2 (by first | rfl | assumption) (by omega) ?_
  rw [gI_z2]
  refine z_iconst d_X1_goRound_29 ki_1 ?_
  refine z_istore5 d_X1_goRound_30 rfl ?_
  generalize hgs : grS P w n z0 (I 37 1) (I 37 3) = gs
  have hg0 : gs 0 = (0, I 37 3, (z0 : Int), I 37 1) := by rw [← hgs]; rfl
  have hgk : ∀ k, gs (k + 1) = if (gs k).1 = 0 then ((farV P (w k) (gs k).2.2.1 (w (if k + 1 < n then k + 1 else 0))).1, nI (if k + 1 < n then k + 1 else 0), ((farV P (w k) (gs k).2.2.1 (w (if k + 1 < n then k + 1 else 0))).2).getD (gs k).2.2.1, ldv (gs k).2.2.2 (farV P (w k) (gs k).2.2.1 (w (if k + 1 < n then k + 1 else 0))).2) else gs k := by intro k; rw [← hgs]; rfl
  have hgb : ∀ k, (z0 : Int) - 4 * k ≤ (gs k).2.2.1 ∧ (gs k).2.2.1 ≤ z0 + 9 * k := by intro k; rw [← hgs]; exact grS_b P hP w n z0 _ _ k
  have hgl : ∀ k, (gs (k + 1)).1 = 0 → (gs (k + 1)).2.2.2 = iI (gs (k + 1)).2.2.1 ∧ (gs k).1 = 0 := by intro k; rw [← hgs]; exact grS_l P w n z0 _ _ k
  have hcode : ∀ k, (gs k).1 ≤ 3 := by
    intro k
    induction k with
    | zero => rw [hg0]; exact Nat.zero_le 3
    | succ k ih =>
      rw [hgk]
      split
      · exact far_c _ _ _ _
      · exact ih
  have hstay : ∀ k m, ¬ (gs k).1 = 0 → gs (k + m) = gs k := by
    intro k m h
    induction m with
    | zero => rfl
    | succ m ih => rw [← Nat.add_assoc, hgk, if_neg (by rw [ih]; exact h), ih]
  have loop : ∀ (Qs : State → Prop), (∀ (o1 o2 : Option Value), zZ E m_X1_goRound X Qs zShF 0 0 103 [some (.ref 37), some (.ref 3), some (.int (nI n)), some (.int (nI z0)), some (.int (gs n).2.2.2), o1, o2] [] (gI I (gs n).2.2.2 (nI (gs n).1) (gs n).2.1 (I 37 4)) L R) → ∀ k, k ≤ n → ∀ (st : Int32) (o2 : Option Value), (k = 0 → st = nI z0) → (0 < k → st = (gs k).2.2.2) → zZ E m_X1_goRound X Qs zShF 0 0 32 [some (.ref 37), some (.ref 3), some (.int (nI n)), some (.int (nI z0)), some (.int st), some (.int (nI (k + 1))), o2] [] (gI I (gs k).2.2.2 (nI (gs k).1) (gs k).2.1 (I 37 4)) L R := by
    intro Qs hx
    refine up_rec (fun k hk ih st o2 hs0 hs1 => ?_)
    have hbk := hgb k
    refine z_iload d_X1_goRound_32 rfl ?_
    refine z_iload_n d_X1_goRound_34 rfl ?_
    refine z_icmp_gt d_X1_goRound_35 (fun h_35 => ?_) (fun h_35 => ?_)
    · have h8 : k = n := by have := (nI_ltI (a := n) (b := k + 1) (by omega) (by omega)).mp h_35; omega
      subst h8
      rw [hs1 (by omega)]
      exact hx _ _
    · have hkn : k < n := by have : ¬ n < k + 1 := fun q => h_35 (nI_lt q (by omega)); omega
      refine z_aload_n d_X1_goRound_38 rfl ?_
      refine z_getI d_X1_goRound_39 f_X1_85 (by first | rfl | assumption) (by omega) ?_
      rw [gI_2]
      refine z_if_ne d_X1_goRound_42 (fun h_42 => ?_) (fun h_42 => ?_)
      · have hc : ¬ (gs k).1 = 0 := fun q => h_42 (by rw [q]; rfl)
        have hk0 : 0 < k := by rcases Nat.eq_zero_or_pos k with q | q; exact absurd (by rw [q, hg0]) hc; exact q
        rw [hs1 hk0]
        have e := hstay k (n - k) hc
        rw [show k + (n - k) = n by omega] at e
        have h := hx (some (.int (nI (k + 1)))) o2
        rw [e] at h
        exact h
      · have hc : (gs k).1 = 0 := (nI_eq (a := (gs k).1) (b := 0) (by have := hcode k; omega) (by decide)).mp h_42
        have hst : st = iI (gs k).2.2.1 := by
          rcases Nat.eq_zero_or_pos k with q | q
          · rw [hs0 q, q, hg0]; rfl
          · obtain ⟨k', rfl⟩ : ∃ k', k = k' + 1 := ⟨k - 1, by omega⟩
            rw [hs1 q, (hgl k' hc).1]
        subst hst
        have hnx : (if k + 1 < n then k + 1 else 0) < n := by split <;> omega
        have hwk := hw k hkn
        have hwn := hw _ hnx
        refine z_iload d_X1_goRound_45 rfl ?_
        refine z_iload_n d_X1_goRound_47 rfl ?_
        refine z_icmp_ge d_X1_goRound_48 (fun h_48 => ?_) (fun h_48 => ?_)
        · refine z_iconst d_X1_goRound_56 ki_0 ?_
          refine z_topi (y := nI (if k + 1 < n then k + 1 else 0)) (by
            first
              | (rw [if_neg (show ¬ k + 1 < n from fun q => by (have := (nI_leI (a := n) (b := k + 1) (by omega) (by omega)).mp h_48; omega))]; rfl)
              | (rw [if_pos (show k + 1 < n from by (rcases Nat.lt_or_ge (k + 1) n with q | q; exact q; exact absurd (nI_le q (by omega)) h_48))])) ?_
          refine z_istore6 d_X1_goRound_57 rfl ?_
          refine z_aload_n d_X1_goRound_59 rfl ?_
          refine z_aload_n d_X1_goRound_60 rfl ?_
          refine z_aload_n d_X1_goRound_61 rfl ?_
          refine z_getR d_X1_goRound_62 f_X1_78 (by first | rfl | assumption) (by omega) (by first | exact hR _ _ _ rfl | rfl | assumption) ?_
          refine z_iload d_X1_goRound_65 rfl ?_
          refine z_iconst d_X1_goRound_67 ki_1 ?_
          refine z_isub d_X1_goRound_68 ?_
          refine z_iaload d_X1_goRound_69 (by first | rfl | assumption) (by omega) (zix_e (show nI (k + 1) - (1 : Int32) = nI k from pk_sub (a := k + 1) (b := 1) (by omega)) (by omega) (by decide)) ?_
          rw [gI_ne (by decide), hwk.1]
          refine z_iload d_X1_goRound_70 rfl ?_
          refine z_aload_n d_X1_goRound_72 rfl ?_
          refine z_getR d_X1_goRound_73 f_X1_78 (by first | rfl | assumption) (by omega) (by first | exact hR _ _ _ rfl | rfl | assumption) ?_
          refine z_iload d_X1_goRound_76 rfl ?_
          refine z_iaload d_X1_goRound_78 (by first | rfl | assumption) (by omega) (zix_nI hnx (by omega) |> fun h => ⟨Nat.lt_of_lt_of_le h.1 hn12, h.2⟩) ?_
          rw [gI_ne (by decide), hwn.1]
          refine z_cVi d_X1_goRound_79 q_X1_goRound_88 (by first | rfl | assumption) (by omega) ⟨rfl, rfl⟩ (ct_X1_fare hR hP (by rw [gI_j (by decide) (by decide) (by decide) (by decide)]; exact hI) hwk.2 hwn.2 (by omega) (by omega)) rfl rfl rfl ⟨Nat.zero_le _, Nat.zero_le _⟩ ?_
          rw [gI_ld]
          refine z_putI d_X1_goRound_82 f_X1_85 p_X1_2 (by first | rfl | assumption) (by omega) ?_
          rw [gI_z2]
          refine z_aload_n d_X1_goRound_85 rfl ?_
          refine z_iload d_X1_goRound_86 rfl ?_
          refine z_putI d_X1_goRound_88 f_X1_92 p_X1_3 (by first | rfl | assumption) (by omega) ?_
          rw [gI_z3]
          refine z_aload_n d_X1_goRound_91 rfl ?_
          refine z_getI d_X1_goRound_92 f_X1_67 (by first | rfl | assumption) (by omega) ?_
          rw [gI_1]
          refine z_istore4 d_X1_goRound_95 rfl ?_
          refine z_iinc5 d_X1_goRound_97 ki_1 rfl ?_
          refine z_goto d_X1_goRound_100 ?_
          have h := ih hkn (ldv (gs k).2.2.2 (farV P (w k) (gs k).2.2.1 (w (if k + 1 < n then k + 1 else 0))).2) (some (.int (nI (if k + 1 < n then k + 1 else 0)))) (fun q => absurd q (by omega)) (fun _ => by rw [hgk, if_pos hc])
          rw [hgk, if_pos hc] at h
          rw [nI_1]
          exact h
        · refine z_iload d_X1_goRound_51 rfl ?_
          refine z_goto d_X1_goRound_53 ?_
          refine z_topi (y := nI (if k + 1 < n then k + 1 else 0)) (by
            first
              | (rw [if_neg (show ¬ k + 1 < n from fun q => by (have := (nI_leI (a := n) (b := k + 1) (by omega) (by omega)).mp h_48; omega))]; rfl)
              | (rw [if_pos (show k + 1 < n from by (rcases Nat.lt_or_ge (k + 1) n with q | q; exact q; exact absurd (nI_le q (by omega)) h_48))])) ?_
          refine z_istore6 d_X1_goRound_57 rfl ?_
          refine z_aload_n d_X1_goRound_59 rfl ?_
          refine z_aload_n d_X1_goRound_60 rfl ?_
          refine z_aload_n d_X1_goRound_61 rfl ?_
          refine z_getR d_X1_goRound_62 f_X1_78 (by first | rfl | assumption) (by omega) (by first | exact hR _ _ _ rfl | rfl | assumption) ?_
          refine z_iload d_X1_goRound_65 rfl ?_
          refine z_iconst d_X1_goRound_67 ki_1 ?_
          refine z_isub d_X1_goRound_68 ?_
          refine z_iaload d_X1_goRound_69 (by first | rfl | assumption) (by omega) (zix_e (show nI (k + 1) - (1 : Int32) = nI k from pk_sub (a := k + 1) (b := 1) (by omega)) (by omega) (by decide)) ?_
          rw [gI_ne (by decide), hwk.1]
          refine z_iload d_X1_goRound_70 rfl ?_
          refine z_aload_n d_X1_goRound_72 rfl ?_
          refine z_getR d_X1_goRound_73 f_X1_78 (by first | rfl | assumption) (by omega) (by first | exact hR _ _ _ rfl | rfl | assumption) ?_
          refine z_iload d_X1_goRound_76 rfl ?_
          refine z_iaload d_X1_goRound_78 (by first | rfl | assumption) (by omega) (zix_nI hnx (by omega) |> fun h => ⟨Nat.lt_of_lt_of_le h.1 hn12, h.2⟩) ?_
          rw [gI_ne (by decide), hwn.1]
          refine z_cVi d_X1_goRound_79 q_X1_goRound_88 (by first | rfl | assumption) (by omega) ⟨rfl, rfl⟩ (ct_X1_fare hR hP (by rw [gI_j (by decide) (by decide) (by decide) (by decide)]; exact hI) hwk.2 hwn.2 (by omega) (by omega)) rfl rfl rfl ⟨Nat.zero_le _, Nat.zero_le _⟩ ?_
          rw [gI_ld]
          refine z_putI d_X1_goRound_82 f_X1_85 p_X1_2 (by first | rfl | assumption) (by omega) ?_
          rw [gI_z2]
          refine z_aload_n d_X1_goRound_85 rfl ?_
          refine z_iload d_X1_goRound_86 rfl ?_
          refine z_putI d_X1_goRound_88 f_X1_92 p_X1_3 (by first | rfl | assumption) (by omega) ?_
          rw [gI_z3]
          refine z_aload_n d_X1_goRound_91 rfl ?_
          refine z_getI d_X1_goRound_92 f_X1_67 (by first | rfl | assumption) (by omega) ?_
          rw [gI_1]
          refine z_istore4 d_X1_goRound_95 rfl ?_
          refine z_iinc5 d_X1_goRound_97 ki_1 rfl ?_
          refine z_goto d_X1_goRound_100 ?_
          have h := ih hkn (ldv (gs k).2.2.2 (farV P (w k) (gs k).2.2.1 (w (if k + 1 < n then k + 1 else 0))).2) (some (.int (nI (if k + 1 < n then k + 1 else 0)))) (fun q => absurd q (by omega)) (fun _ => by rw [hgk, if_pos hc])
          rw [hgk, if_pos hc] at h
          rw [nI_1]
          exact h
  refine z_mem (I' := gI I (gs 0).2.2.2 (nI (gs 0).1) (gs 0).2.1 (I 37 4)) (by rw [hg0]; rfl) rfl rfl (loop _ (fun o1 o2 => ?_) 0 (Nat.zero_le n) (nI z0) none (fun _ => rfl) (fun q => absurd q (by decide)))
  refine z_aload_n d_X1_goRound_103 rfl ?_
  refine z_aload_n d_X1_goRound_104 rfl ?_
  refine z_iload d_X1_goRound_105 rfl ?_
  refine z_iload_n d_X1_goRound_107 rfl ?_
  refine z_isub d_X1_goRound_108 ?_
  refine z_cVi d_X1_goRound_109 q_X1_goRound_95 (by first | rfl | assumption) (by omega) ⟨rfl, rfl⟩ (ct_X1_wellsIn hR hP (by rw [gI_j (by decide) (by decide) (by decide) (by decide)]; exact hI)) rfl rfl rfl ⟨Nat.zero_le _, Nat.zero_le _⟩ ?_
  refine z_putI d_X1_goRound_112 f_X1_98 p_X1_4 (by first | rfl | assumption) (by omega) ?_
  exact z_return d_X1_goRound_115 rfl ⟨rfl, rfl, by rw [gI_z4], rfl, rfl⟩
