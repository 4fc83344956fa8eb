set_option maxRecDepth 100000 in
set_option maxHeartbeats 4000000 in
theorem ct_X8_look {E : zE} {I : zI} {L : zL} {R : zR} {t j : Nat} {g : Nat → Int32} (hR : zLx R) (h17 : I 64 17 = nI t) (ht : t ≤ 400) (h77 : ∀ j, j < t → I 77 j = g j) (hj : j < 2 ^ 31) : zCf E m_X8_look zShF [.ref 64, .int (nI j)] I L R (some (.int (btA g t j))) (I) (L) (R) := by
  refine z_met (by decide) [some (.ref 64), some (.int (nI j))] rfl rfl (Nat.le_of_ble_eq_true rfl) (fun X => ?_)
  refine z_iload_n d_X8_look_0 rfl ?_
  refine z_aload_n d_X8_look_1 rfl ?_
  refine z_getI d_X8_look_2 f_X8_102 (by first | rfl | assumption) (by omega) ?_
  rw [h17]
  refine z_icmp_ge d_X8_look_5 (fun h_5 => ?_) (fun h_5 => ?_)
  · have hge : ¬ j < t := Nat.not_lt.mpr ((nI_leI (by omega) hj).mp h_5)
    refine z_iconst d_X8_look_17 ki_m1 ?_
    exact z_ireturn d_X8_look_18 rfl ⟨by unfold btA; first | rw [if_pos hlt, h77 j hlt] | rw [if_neg hge], rfl, rfl, rfl, rfl⟩
  · have hlt : j < t := Nat.lt_of_not_le (fun z => h_5 ((nI_leI (by omega) hj).mpr z))
    refine z_aload_n d_X8_look_8 rfl ?_
    refine z_getR d_X8_look_9 f_X8_48 (by first | rfl | assumption) (by omega) (by first | exact hR _ _ _ rfl | rfl | assumption) ?_
    refine z_iload_n d_X8_look_12 rfl ?_
    refine z_iaload d_X8_look_13 (by first | rfl | assumption) (by omega) (zix_nI (n := 400) (j := j) (by omega) (by decide)) ?_
    refine z_goto d_X8_look_14 ?_
    exact z_ireturn d_X8_look_18 rfl ⟨by unfold btA; first | rw [if_pos hlt, h77 j hlt] | rw [if_neg hge], rfl, rfl, rfl, rfl⟩
