theorem inL2 (x : Int32) : inL x.toInt64 97 122 = decide (tokV x = 2) := by
  by_cases h : x < 0
  · rw [tok_1 h]
    have : x.toInt64 < 97 := by
      rw [Int64.lt_iff_toInt_lt, Int32.toInt_toInt64]
      have := Int32.lt_iff_toInt_lt.mp h
      rw [show (0 : Int32).toInt = 0 by decide] at this
      rw [show (97 : Int64).toInt = 97 by decide]
      omega
    unfold inL
    simp [this]
  · exact inL_tok2 h
set_option maxRecDepth 100000 in
set_option maxHeartbeats 4000000 in
theorem ct_X8_next_2 {E : zE} {I : zI} {L : zL} {R : zR} {t a : Nat} {g : Nat → Int32} (hR : zLx R) (h17 : I 64 17 = nI t) (ht : t ≤ 400) (h77 : ∀ j, j < t → I 77 j = g j) (ha : a ≤ t) (h18 : I 64 18 = nI a) (h22 : I 64 22 = 0) (hK : tokV (btA g t (rn pBl g t a)) = 2) : zCf E m_X8_next zShF [.ref 64] I L R (none) (zi (zi (zi (zi I 64 18 (nI (rn pBl g t a))) 64 19 (nI (rn pBl g t a))) 64 20 1) 64 18 (nI (rn (pTk 2) g t (rn pBl g t a)))) (L) (R) := by
  have hb : rn pBl g t a ≤ t := rn_le (g := g) pBl_1 ht ha; have h0 : ¬ btA g t (rn pBl g t a) < 0 := tok_n1 (by rw [hK]; decide)
  refine z_met (by decide) [some (.ref 64), none] rfl rfl (Nat.le_of_ble_eq_true rfl) (fun X => ?_)
  refine z_aload_n d_X8_next_0 rfl ?_
  refine z_getI d_X8_next_1 f_X8_107 (by first | rfl | assumption) (by omega) ?_
  refine z_if_le d_X8_next_4 (fun h_4 => ?_) (fun h_4 => absurd (show I 64 22 ≤ 0 from by rw [h22]; decide) h_4)
  have loop : ∀ (Qs : State → Prop), (zZ E m_X8_next X Qs zShF 0 0 34 [some (.ref 64), none] [] (zi I 64 18 (nI (rn pBl g t a))) L R) → ∀ i, i ≤ 400 → (∀ m, m < i → btA g t (a + m) = 32) → zZ E m_X8_next X Qs zShF 0 0 8 [some (.ref 64), none] [] (zi I 64 18 (nI (a + i))) L R := by
    intro Qs hx
    refine up_rec (fun i hi' ih hbl => ?_)
    have fin : ¬ btA g t (a + i) = 32 → rn pBl g t a = a + i := fun hne => rn_eq pBl_1 ht ⟨by omega, fun m h1 h2 => by
      have := hbl (m - a) (by omega)
      rw [show a + (m - a) = m by omega] at this
      unfold pBl; simpa using this, by unfold pBl; simpa using hne⟩
    refine z_aload_n d_X8_next_8 rfl ?_
    refine z_aload_n d_X8_next_9 rfl ?_
    refine z_getI d_X8_next_10 f_X8_116 (by first | rfl | assumption) (by omega) ?_
    refine z_cVi d_X8_next_13 q_X8_next_119 (by first | rfl | assumption) (by omega) ⟨rfl, rfl⟩ ((ct_X8_look (t := t) (j := a + i) (g := g) hR h17 ht h77 (by omega))) rfl rfl rfl ⟨Nat.zero_le _, Nat.zero_le _⟩ ?_
    refine z_bipush d_X8_next_16 kb_32 ?_
    refine z_icmp_ne d_X8_next_18 (fun h_18 => ?_) (fun h_18 => ?_)
    · refine z_mem (I' := zi I 64 18 (nI (rn pBl g t a))) ?_ rfl rfl hx
      rw [fin h_18]
    · have hlt : i < 400 := by
        rcases Nat.lt_or_ge i 400 with q | q
        · exact q
        · rw [btA_end (by omega)] at h_18; exact absurd h_18 (by decide)
      refine z_aload_n d_X8_next_21 rfl ?_
      refine z_dup d_X8_next_22 rfl ?_
      refine z_getI d_X8_next_23 f_X8_116 (by first | rfl | assumption) (by omega) ?_
      refine z_iconst d_X8_next_26 ki_1 ?_
      refine z_iadd d_X8_next_27 ?_
      refine z_putI d_X8_next_28 f_X8_116 p_X8_18 (by first | rfl | assumption) (by omega) ?_
      refine z_goto d_X8_next_31 ?_
      refine z_mem (I' := zi I 64 18 (nI (a + (i + 1)))) ?_ rfl rfl ?_
      · rw [zi_zz, show a + (i + 1) = a + i + 1 by omega, nI_succ]
        rfl
      · exact ih hlt (fun m hm => by
          by_cases e : m = i
          · rw [e]; exact h_18
          · exact hbl m (by omega))
  refine z_mem (I' := zi I 64 18 (nI (a + 0))) (by show I = zi I 64 18 (nI a); rw [zi_id h18]) rfl rfl (loop _ ?_ 0 (Nat.zero_le 400) (fun m h => absurd h (by omega)))
  refine z_aload_n d_X8_next_34 rfl ?_
  refine z_aload_n d_X8_next_35 rfl ?_
  refine z_getI d_X8_next_36 f_X8_116 (by first | rfl | assumption) (by omega) ?_
  refine z_putI d_X8_next_39 f_X8_110 p_X8_19 (by first | rfl | assumption) (by omega) ?_
  refine z_aload_n d_X8_next_42 rfl ?_
  refine z_aload_n d_X8_next_43 rfl ?_
  refine z_getI d_X8_next_44 f_X8_116 (by first | rfl | assumption) (by omega) ?_
  refine z_cVi d_X8_next_47 q_X8_next_119 (by first | rfl | assumption) (by omega) ⟨rfl, rfl⟩ ((ct_X8_look (t := t) (j := rn pBl g t a) (g := g) hR h17 ht h77 (by omega))) rfl rfl rfl ⟨Nat.zero_le _, Nat.zero_le _⟩ ?_
  refine z_istore1 d_X8_next_50 rfl ?_
  refine z_iload_n d_X8_next_51 rfl ?_
  refine z_if_ge d_X8_next_52 (fun h_52 => ?_) (fun h_52 => absurd (Int32.not_lt.mp h0) h_52)
  refine z_iload_n d_X8_next_63 rfl ?_
  refine z_i2l d_X8_next_64 ?_
  refine z_ldc2 d_X8_next_65 l_X8_130 ?_
  refine z_ldc2 d_X8_next_68 l_X8_132 ?_
  refine z_cSi d_X8_next_71 q_X8_next_92 ⟨rfl, rfl⟩ (ct_X8_in) rfl rfl rfl ⟨Nat.zero_le _, Nat.zero_le _⟩ ?_
  refine z_if_eq d_X8_next_74 (fun h_74 => absurd h_74 (by rw [inL2, hK]; decide)) (fun h_74 => ?_)
  refine z_aload_n d_X8_next_77 rfl ?_
  refine z_iconst d_X8_next_78 ki_1 ?_
  refine z_putI d_X8_next_79 f_X8_127 p_X8_20 (by first | rfl | assumption) (by omega) ?_
  have loop2 : ∀ (Qs : State → Prop), (zZ E m_X8_next X Qs zShF 0 0 274 [some (.ref 64), some (.int (btA g t (rn pBl g t a)))] [] (zi (zi (zi (zi I 64 18 (nI (rn pBl g t a))) 64 19 (nI (rn pBl g t a))) 64 20 1) 64 18 (nI (rn (pTk 2) g t (rn pBl g t a)))) L R) → ∀ i, i ≤ 400 → (∀ m, m < i → tokV (btA g t (rn pBl g t a + m)) = 2) → zZ E m_X8_next X Qs zShF 0 0 82 [some (.ref 64), some (.int (btA g t (rn pBl g t a)))] [] (zi (zi (zi (zi I 64 18 (nI (rn pBl g t a))) 64 19 (nI (rn pBl g t a))) 64 20 1) 64 18 (nI (rn pBl g t a + i))) L R := by
    intro Qs hx
    refine up_rec (fun i hi' ih hbl => ?_)
    have fin : ¬ tokV (btA g t (rn pBl g t a + i)) = 2 → rn (pTk 2) g t (rn pBl g t a) = rn pBl g t a + i := fun hne => rn_eq (pTk_1 (Or.inl rfl)) ht ⟨by omega, fun m h1 h2 => by
      have := hbl (m - rn pBl g t a) (by omega)
      rw [show rn pBl g t a + (m - rn pBl g t a) = m by omega] at this
      unfold pTk; simpa using this, by unfold pTk; simpa using hne⟩
    refine z_aload_n d_X8_next_82 rfl ?_
    refine z_aload_n d_X8_next_83 rfl ?_
    refine z_getI d_X8_next_84 f_X8_116 (by first | rfl | assumption) (by omega) ?_
    refine z_cVi d_X8_next_87 q_X8_next_119 (by first | rfl | assumption) (by omega) ⟨rfl, rfl⟩ ((ct_X8_look (t := t) (j := rn pBl g t a + i) (g := g) hR h17 ht h77 (by omega))) rfl rfl rfl ⟨Nat.zero_le _, Nat.zero_le _⟩ ?_
    refine z_i2l d_X8_next_90 ?_
    refine z_ldc2 d_X8_next_91 l_X8_130 ?_
    refine z_ldc2 d_X8_next_94 l_X8_132 ?_
    refine z_cSi d_X8_next_97 q_X8_next_92 ⟨rfl, rfl⟩ (ct_X8_in) rfl rfl rfl ⟨Nat.zero_le _, Nat.zero_le _⟩ ?_
    refine z_if_eq d_X8_next_100 (fun h_100 => ?_) (fun h_100 => ?_)
    · refine z_mem (I' := zi (zi (zi (zi I 64 18 (nI (rn pBl g t a))) 64 19 (nI (rn pBl g t a))) 64 20 1) 64 18 (nI (rn (pTk 2) g t (rn pBl g t a)))) ?_ rfl rfl hx
      rw [fin (fun z => by rw [inL2, z] at h_100; exact absurd h_100 (by decide))]
    · have h2 : tokV (btA g t (rn pBl g t a + i)) = 2 := by
        by_cases q : tokV (btA g t (rn pBl g t a + i)) = 2
        · exact q
        · exact absurd (show b2i (inL (btA g t (rn pBl g t a + i)).toInt64 97 122) = 0 from by rw [inL2]; simp [q, b2i]) h_100
      have hlt : i < 400 := by
        rcases Nat.lt_or_ge i 400 with q | q
        · exact q
        · rw [btA_end (by omega)] at h2; exact absurd h2 (by decide)
      refine z_aload_n d_X8_next_103 rfl ?_
      refine z_dup d_X8_next_104 rfl ?_
      refine z_getI d_X8_next_105 f_X8_116 (by first | rfl | assumption) (by omega) ?_
      refine z_iconst d_X8_next_108 ki_1 ?_
      refine z_iadd d_X8_next_109 ?_
      refine z_putI d_X8_next_110 f_X8_116 p_X8_18 (by first | rfl | assumption) (by omega) ?_
      refine z_goto d_X8_next_113 ?_
      refine z_mem (I' := zi (zi (zi (zi I 64 18 (nI (rn pBl g t a))) 64 19 (nI (rn pBl g t a))) 64 20 1) 64 18 (nI (rn pBl g t a + (i + 1)))) ?_ rfl rfl ?_
      · rw [zi_zz, show rn pBl g t a + (i + 1) = rn pBl g t a + i + 1 by omega, nI_succ]
        rfl
      · exact ih hlt (fun m hm => by
          by_cases e : m = i
          · rw [e]; exact h2
          · exact hbl m (by omega))
  refine z_mem (I' := zi (zi (zi (zi I 64 18 (nI (rn pBl g t a))) 64 19 (nI (rn pBl g t a))) 64 20 1) 64 18 (nI (rn pBl g t a + 0))) (zi_id (I := zi (zi (zi I 64 18 (nI (rn pBl g t a))) 64 19 (nI (rn pBl g t a))) 64 20 1) (k := 64) (j := 18) (x := nI (rn pBl g t a)) rfl).symm rfl rfl (loop2 _ ?_ 0 (Nat.zero_le 400) (fun m h => absurd h (by omega)))
  exact z_return d_X8_next_274 rfl ⟨rfl, rfl, rfl, rfl, rfl⟩
