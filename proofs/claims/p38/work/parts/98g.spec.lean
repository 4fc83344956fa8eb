/-! THE WORDS OF A CLOCK OF THREE PHASES -/
def anyW (f : Nat → Int32) : Nat → Bool
  | 0 => false
  | i + 1 => anyW f i || decide (7 < f i)
def lkT (I : zI) : zI := if I 8 10 = 0 then zi (zi I 8 10 6) 8 9 (I 1 1) else I
def lkJ (I : zI) (i : Nat) : zI := if anyW (I 13) i = true then lkT I else I
theorem lkT_k {I : zI} {k : Nat} (h : k ≠ 8) : lkT I k = I k := by
  unfold lkT
  by_cases q : I 8 10 = 0
  · rw [if_pos q, zi_ne h, zi_ne h]
  · rw [if_neg q]
theorem lkJ_k {I : zI} {i k : Nat} (h : k ≠ 8) : lkJ I i k = I k := by
  unfold lkJ
  by_cases q : anyW (I 13) i = true
  · rw [if_pos q, lkT_k h]
  · rw [if_neg q]
theorem lkT_0 {I : zI} : ¬ lkT I 8 10 = 0 := by
  unfold lkT
  by_cases q : I 8 10 = 0
  · rw [if_pos q]; show ¬ (6 : Int32) = 0; decide
  · rw [if_neg q]; exact q
theorem lkJ_f {I : zI} {i : Nat} (h : 7 < I 13 i) : (if lkJ I i 8 10 = 0 then zi (zi (lkJ I i) 8 10 6) 8 9 (lkJ I i 1 1) else lkJ I i) = lkJ I (i + 1) := by
  rw [lkJ_k (show (1 : Nat) ≠ 8 by decide)]
  have e : lkJ I (i + 1) = lkT I := by unfold lkJ; rw [if_pos (by unfold anyW; simp [h])]
  rw [e]
  by_cases q : anyW (I 13) i = true
  · have e1 : lkJ I i = lkT I := by unfold lkJ; rw [if_pos q]
    rw [e1, if_neg lkT_0]
  · have e1 : lkJ I i = I := by unfold lkJ; rw [if_neg q]
    rw [e1]; rfl
theorem lkJ_n {I : zI} {i : Nat} (h : ¬ 7 < I 13 i) : lkJ I (i + 1) = lkJ I i := by
  have e : anyW (I 13) (i + 1) = anyW (I 13) i := by show (anyW (I 13) i || decide (7 < I 13 i)) = _; simp [h]
  unfold lkJ
  rw [e]
set_option maxRecDepth 100000 in
set_option maxHeartbeats 4000000 in
theorem ct_X4_lookAtWords {E : zE} {I : zI} {L : zL} {R : zR} {n : Nat} (hR : zLx R) (h94 : I 9 4 = nI n) (hn : n ≤ 12) : zCf E m_X4_lookAtWords zShF [.ref 8] I L R (none) (if I 10 6 = 3 then lkJ I n else I) (L) (R) := by
  have h9 := lP_9 hR
  refine z_met (by decide) [some (.ref 8), none] rfl rfl (Nat.le_of_ble_eq_true rfl) (fun X => ?_)
  refine z_aload_n d_X4_lookAtWords_0 rfl ?_
  refine z_getR d_X4_lookAtWords_1 f_X4_12 (by first | rfl | assumption) (by omega) (by first | exact hR _ _ _ rfl | rfl | assumption) ?_
  refine z_getR d_X4_lookAtWords_4 f_X4_109 (by first | rfl | assumption) (by omega) (by first | exact hR _ _ _ rfl | rfl | assumption) ?_
  refine z_bipush d_X4_lookAtWords_7 kb_6 ?_
  refine z_iaload d_X4_lookAtWords_9 (by first | rfl | assumption) (by omega) (zix_lit 6 (by decide)) ?_
  refine z_iconst d_X4_lookAtWords_10 ki_3 ?_
  refine z_icmp_eq d_X4_lookAtWords_11 (fun h_11 => ?_) (fun h_11 => ?_)
  · refine z_iconst d_X4_lookAtWords_15 ki_0 ?_
    refine z_istore1 d_X4_lookAtWords_16 rfl ?_
    have loop : ∀ (Qs : State → Prop), (zZ E m_X4_lookAtWords X Qs zShF 0 0 61 [some (.ref 8), some (.int (nI n))] [] (lkJ I n) L R) → ∀ i, i ≤ n → zZ E m_X4_lookAtWords X Qs zShF 0 0 17 [some (.ref 8), some (.int (nI i))] [] (lkJ I i) L R := by
      intro Qs hx
      refine up_rec (fun i hi' ih => ?_)
      refine z_iload_n d_X4_lookAtWords_17 rfl ?_
      refine z_aload_n d_X4_lookAtWords_18 rfl ?_
      refine z_getR d_X4_lookAtWords_19 f_X4_12 (by first | rfl | assumption) (by omega) (by first | exact hR _ _ _ rfl | rfl | assumption) ?_
      refine z_getI d_X4_lookAtWords_22 f_X4_157 (by first | rfl | assumption) (by omega) ?_
      rw [lkJ_k (by decide), h94]
      refine z_icmp_ge d_X4_lookAtWords_25 (fun h_25 => ?_) (fun h_25 => ?_)
      · obtain rfl := eq_of_ge (n := n) (by omega) hi' h_25
        exact hx
      · have hlt := lt_of_nge (n := n) (by omega) h_25 (by omega)
        refine z_aload_n d_X4_lookAtWords_28 rfl ?_
        refine z_getR d_X4_lookAtWords_29 f_X4_12 (by first | rfl | assumption) (by omega) (by first | exact hR _ _ _ rfl | rfl | assumption) ?_
        refine z_getR d_X4_lookAtWords_32 f_X4_160 (by first | rfl | assumption) (by omega) (by first | exact hR _ _ _ rfl | rfl | assumption) ?_
        refine z_iload_n d_X4_lookAtWords_35 rfl ?_
        refine z_iaload d_X4_lookAtWords_36 (by first | rfl | assumption) (by omega) (zix_nI (by omega) (by decide)) ?_
        refine z_bipush d_X4_lookAtWords_37 kb_7 ?_
        rw [lkJ_k (by decide)]
        refine z_icmp_le d_X4_lookAtWords_39 (fun h_39 => ?_) (fun h_39 => ?_)
        · first
            | refine z_mem (lkJ_f (Int32.not_le.mp h_39)) rfl rfl ?_
            | refine z_mem (lkJ_n (fun z => absurd h_39 (Int32.not_le.mpr z))).symm rfl rfl ?_
          refine z_iinc1 d_X4_lookAtWords_55 ki_1 rfl ?_
          refine z_goto d_X4_lookAtWords_58 ?_
          rw [nI_1]
          exact ih hlt
        · refine z_aload_n d_X4_lookAtWords_42 rfl ?_
          refine z_bipush d_X4_lookAtWords_43 kb_6 ?_
          refine z_aload_n d_X4_lookAtWords_45 rfl ?_
          refine z_getR d_X4_lookAtWords_46 f_X4_26 (by first | rfl | assumption) (by omega) (by first | exact hR _ _ _ rfl | rfl | assumption) ?_
          refine z_getI d_X4_lookAtWords_49 f_X4_163 (by first | rfl | assumption) (by omega) ?_
          refine z_cVv d_X4_lookAtWords_52 q_X4_lookAtWords_85 (by first | rfl | assumption) (by omega) ⟨rfl, rfl⟩ (ct_X4_fail hR) rfl rfl rfl ⟨Nat.zero_le _, Nat.zero_le _⟩ ?_
          first
            | refine z_mem (lkJ_f (Int32.not_le.mp h_39)) rfl rfl ?_
            | refine z_mem (lkJ_n (fun z => absurd h_39 (Int32.not_le.mpr z))).symm rfl rfl ?_
          refine z_iinc1 d_X4_lookAtWords_55 ki_1 rfl ?_
          refine z_goto d_X4_lookAtWords_58 ?_
          rw [nI_1]
          exact ih hlt
    refine loop _ ?_ 0 (Nat.zero_le n)
    exact z_return d_X4_lookAtWords_61 rfl ⟨rfl, rfl, (if_pos h_11).symm, rfl, rfl⟩
  · exact z_return d_X4_lookAtWords_14 rfl ⟨rfl, rfl, (if_neg h_11).symm, rfl, rfl⟩
