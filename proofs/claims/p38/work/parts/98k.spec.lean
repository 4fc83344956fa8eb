set_option maxRecDepth 100000 in
set_option maxHeartbeats 4000000 in
theorem ct_X8_next_1 {E : zE} {I : zI} {L : zL} {R : zR} {t a : Nat} {g : Nat → Int32} (hR : zLx R) (h17 : I 64 17 = nI t) (ht : t ≤ 400) (h77 : ∀ j, j < t → I 77 j = g j) (ha : a ≤ t) (h18 : I 64 18 = nI a) (h22 : I 64 22 = 0) (hK : tokV (btA g t (rn pBl g t a)) = 1) : zCf E m_X8_next zShF [.ref 64] I L R (none) (zi (zi (zi I 64 18 (nI (rn pBl g t a))) 64 19 (nI (rn pBl g t a))) 64 20 0) (L) (R) := by
  have hb : rn pBl g t a ≤ t := rn_le (g := g) pBl_1 ht ha
  refine z_met (by decide) [some (.ref 64), none] rfl rfl (Nat.le_of_ble_eq_true rfl) (fun X => ?_)
  refine z_aload_n d_X8_next_0 rfl ?_
  refine z_getI d_X8_next_1 f_X8_107 (by first | rfl | assumption) (by omega) ?_
  refine z_if_le d_X8_next_4 (fun h_4 => ?_) (fun h_4 => absurd (show I 64 22 ≤ 0 from by rw [h22]; decide) h_4)
  have loop : ∀ (Qs : State → Prop), (zZ E m_X8_next X Qs zShF 0 0 34 [some (.ref 64), none] [] (zi I 64 18 (nI (rn pBl g t a))) L R) → ∀ i, i ≤ 400 → (∀ m, m < i → btA g t (a + m) = 32) → zZ E m_X8_next X Qs zShF 0 0 8 [some (.ref 64), none] [] (zi I 64 18 (nI (a + i))) L R := by
    intro Qs hx
    refine up_rec (fun i hi' ih hbl => ?_)
    have fin : ¬ btA g t (a + i) = 32 → rn pBl g t a = a + i := fun hne => rn_eq pBl_1 ht ⟨by omega, fun m h1 h2 => by
      have := hbl (m - a) (by omega)
      rw [show a + (m - a) = m by omega] at this
      unfold pBl; simpa using this, by unfold pBl; simpa using hne⟩
    refine z_aload_n d_X8_next_8 rfl ?_
    refine z_aload_n d_X8_next_9 rfl ?_
    refine z_getI d_X8_next_10 f_X8_116 (by first | rfl | assumption) (by omega) ?_
    refine z_cVi d_X8_next_13 q_X8_next_119 (by first | rfl | assumption) (by omega) ⟨rfl, rfl⟩ ((ct_X8_look (t := t) (j := a + i) (g := g) hR h17 ht h77 (by omega))) rfl rfl rfl ⟨Nat.zero_le _, Nat.zero_le _⟩ ?_
    refine z_bipush d_X8_next_16 kb_32 ?_
    refine z_icmp_ne d_X8_next_18 (fun h_18 => ?_) (fun h_18 => ?_)
    · refine z_mem (I' := zi I 64 18 (nI (rn pBl g t a))) ?_ rfl rfl hx
      rw [fin h_18]
    · have hlt : i < 400 := by
        rcases Nat.lt_or_ge i 400 with q | q
        · exact q
        · rw [btA_end (by omega)] at h_18; exact absurd h_18 (by decide)
      refine z_aload_n d_X8_next_21 rfl ?_
      refine z_dup d_X8_next_22 rfl ?_
      refine z_getI d_X8_next_23 f_X8_116 (by first | rfl | assumption) (by omega) ?_
      refine z_iconst d_X8_next_26 ki_1 ?_
      refine z_iadd d_X8_next_27 ?_
      refine z_putI d_X8_next_28 f_X8_116 p_X8_18 (by first | rfl | assumption) (by omega) ?_
      refine z_goto d_X8_next_31 ?_
      refine z_mem (I' := zi I 64 18 (nI (a + (i + 1)))) ?_ rfl rfl ?_
      · rw [zi_zz, show a + (i + 1) = a + i + 1 by omega, nI_succ]
        rfl
      · exact ih hlt (fun m hm => by
          by_cases e : m = i
          · rw [e]; exact h_18
          · exact hbl m (by omega))
  refine z_mem (I' := zi I 64 18 (nI (a + 0))) (by show I = zi I 64 18 (nI a); rw [zi_id h18]) rfl rfl (loop _ ?_ 0 (Nat.zero_le 400) (fun m h => absurd h (by omega)))
  refine z_aload_n d_X8_next_34 rfl ?_
  refine z_aload_n d_X8_next_35 rfl ?_
  refine z_getI d_X8_next_36 f_X8_116 (by first | rfl | assumption) (by omega) ?_
  refine z_putI d_X8_next_39 f_X8_110 p_X8_19 (by first | rfl | assumption) (by omega) ?_
  refine z_aload_n d_X8_next_42 rfl ?_
  refine z_aload_n d_X8_next_43 rfl ?_
  refine z_getI d_X8_next_44 f_X8_116 (by first | rfl | assumption) (by omega) ?_
  refine z_cVi d_X8_next_47 q_X8_next_119 (by first | rfl | assumption) (by omega) ⟨rfl, rfl⟩ ((ct_X8_look (t := t) (j := rn pBl g t a) (g := g) hR h17 ht h77 (by omega))) rfl rfl rfl ⟨Nat.zero_le _, Nat.zero_le _⟩ ?_
  refine z_istore1 d_X8_next_50 rfl ?_
  refine z_iload_n d_X8_next_51 rfl ?_
  refine z_if_ge d_X8_next_52 (fun h_52 => absurd (tok1_lt hK) (Int32.not_lt.mpr h_52)) (fun h_52 => ?_)
  refine z_aload_n d_X8_next_55 rfl ?_
  refine z_iconst d_X8_next_56 ki_0 ?_
  refine z_putI d_X8_next_57 f_X8_127 p_X8_20 (by first | rfl | assumption) (by omega) ?_
  refine z_goto d_X8_next_60 ?_
  exact z_return d_X8_next_274 rfl ⟨rfl, rfl, rfl, rfl, rfl⟩
