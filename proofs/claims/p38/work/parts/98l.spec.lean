theorem tok_59 {x : Int32} (h : tokV x = 4) : x = 59 := by
  by_cases q : x = 59
  · exact q
  · exfalso
    unfold tokV at h
    revert h
    rw [if_neg q]
    repeat (first | decide | split)
theorem tok_n59 {x : Int32} (h : ¬ tokV x = 4) : ¬ x = 59 := fun z => h (by rw [z]; decide)
set_option maxRecDepth 100000 in
set_option maxHeartbeats 4000000 in
theorem ct_X8_next_4 {E : zE} {I : zI} {L : zL} {R : zR} {t a : Nat} {g : Nat → Int32} (hR : zLx R) (h17 : I 64 17 = nI t) (ht : t ≤ 400) (h77 : ∀ j, j < t → I 77 j = g j) (ha : a ≤ t) (h18 : I 64 18 = nI a) (h22 : I 64 22 = 0) (hK : tokV (btA g t (rn pBl g t a)) = 4) : zCf E m_X8_next zShF [.ref 64] I L R (none) (zi (zi (zi (zi I 64 18 (nI (rn pBl g t a))) 64 19 (nI (rn pBl g t a))) 64 20 3) 64 18 (nI (rn pBl g t a) + 1)) (L) (R) := by
  have hb : rn pBl g t a ≤ t := rn_le (g := g) pBl_1 ht ha; have h0 : ¬ btA g t (rn pBl g t a) < 0 := tok_n1 (by rw [hK]; decide)
  refine z_met (by decide) [some (.ref 64), none] rfl rfl (Nat.le_of_ble_eq_true rfl) (fun X => ?_)
  refine z_aload_n d_X8_next_0 rfl ?_
  refine z_getI d_X8_next_1 f_X8_107 (by first | rfl | assumption) (by omega) ?_
  refine z_if_le d_X8_next_4 (fun h_4 => ?_) (fun h_4 => absurd (show I 64 22 ≤ 0 from by rw [h22]; decide) h_4)
  have loop : ∀ (Qs : State → Prop), (zZ E m_X8_next X Qs zShF 0 0 34 [some (.ref 64), none] [] (zi I 64 18 (nI (rn pBl g t a))) L R) → ∀ i, i ≤ 400 → (∀ m, m < i → btA g t (a + m) = 32) → zZ E m_X8_next X Qs zShF 0 0 8 [some (.ref 64), none] [] (zi I 64 18 (nI (a + i))) L R := by
    intro Qs hx
    refine up_rec (fun i hi' ih hbl => ?_)
    have fin : ¬ btA g t (a + i) = 32 → rn pBl g t a = a + i := fun hne => rn_eq pBl_1 ht ⟨by omega, fun m h1 h2 => by
      have := hbl (m - a) (by omega)
      rw [show a + (m - a) = m by omega] at this
      unfold pBl; simpa using this, by unfold pBl; simpa using hne⟩
    refine z_aload_n d_X8_next_8 rfl ?_
    refine z_aload_n d_X8_next_9 rfl ?_
    refine z_getI d_X8_next_10 f_X8_116 (by first | rfl | assumption) (by omega) ?_
    refine z_cVi d_X8_next_13 q_X8_next_119 (by first | rfl | assumption) (by omega) ⟨rfl, rfl⟩ ((ct_X8_look (t := t) (j := a + i) (g := g) hR h17 ht h77 (by omega))) rfl rfl rfl ⟨Nat.zero_le _, Nat.zero_le _⟩ ?_
    refine z_bipush d_X8_next_16 kb_32 ?_
    refine z_icmp_ne d_X8_next_18 (fun h_18 => ?_) (fun h_18 => ?_)
    · refine z_mem (I' := zi I 64 18 (nI (rn pBl g t a))) ?_ rfl rfl hx
      rw [fin h_18]
    · have hlt : i < 400 := by
        rcases Nat.lt_or_ge i 400 with q | q
        · exact q
        · rw [btA_end (by omega)] at h_18; exact absurd h_18 (by decide)
      refine z_aload_n d_X8_next_21 rfl ?_
      refine z_dup d_X8_next_22 rfl ?_
      refine z_getI d_X8_next_23 f_X8_116 (by first | rfl | assumption) (by omega) ?_
      refine z_iconst d_X8_next_26 ki_1 ?_
      refine z_iadd d_X8_next_27 ?_
      refine z_putI d_X8_next_28 f_X8_116 p_X8_18 (by first | rfl | assumption) (by omega) ?_
      refine z_goto d_X8_next_31 ?_
      refine z_mem (I' := zi I 64 18 (nI (a + (i + 1)))) ?_ rfl rfl ?_
      · rw [zi_zz, show a + (i + 1) = a + i + 1 by omega, nI_succ]
        rfl
      · exact ih hlt (fun m hm => by
          by_cases e : m = i
          · rw [e]; exact h_18
          · exact hbl m (by omega))
  refine z_mem (I' := zi I 64 18 (nI (a + 0))) (by show I = zi I 64 18 (nI a); rw [zi_id h18]) rfl rfl (loop _ ?_ 0 (Nat.zero_le 400) (fun m h => absurd h (by omega)))
  refine z_aload_n d_X8_next_34 rfl ?_
  refine z_aload_n d_X8_next_35 rfl ?_
  refine z_getI d_X8_next_36 f_X8_116 (by first | rfl | assumption) (by omega) ?_
  refine z_putI d_X8_next_39 f_X8_110 p_X8_19 (by first | rfl | assumption) (by omega) ?_
  refine z_aload_n d_X8_next_42 rfl ?_
  refine z_aload_n d_X8_next_43 rfl ?_
  refine z_getI d_X8_next_44 f_X8_116 (by first | rfl | assumption) (by omega) ?_
  refine z_cVi d_X8_next_47 q_X8_next_119 (by first | rfl | assumption) (by omega) ⟨rfl, rfl⟩ ((ct_X8_look (t := t) (j := rn pBl g t a) (g := g) hR h17 ht h77 (by omega))) rfl rfl rfl ⟨Nat.zero_le _, Nat.zero_le _⟩ ?_
  refine z_istore1 d_X8_next_50 rfl ?_
  refine z_iload_n d_X8_next_51 rfl ?_
  refine z_if_ge d_X8_next_52 (fun h_52 => ?_) (fun h_52 => absurd (Int32.not_lt.mp h0) h_52)
  refine z_iload_n d_X8_next_63 rfl ?_
  refine z_i2l d_X8_next_64 ?_
  refine z_ldc2 d_X8_next_65 l_X8_130 ?_
  refine z_ldc2 d_X8_next_68 l_X8_132 ?_
  refine z_cSi d_X8_next_71 q_X8_next_92 ⟨rfl, rfl⟩ (ct_X8_in) rfl rfl rfl ⟨Nat.zero_le _, Nat.zero_le _⟩ ?_
  refine z_if_eq d_X8_next_74 (fun h_74 => ?_) (fun h_74 => absurd (show inL (btA g t (rn pBl g t a)).toInt64 97 122 = false from by rw [inL_tok2 h0, hK]; decide) (fun z => h_74 (by rw [z]; rfl)))
  refine z_iload_n d_X8_next_116 rfl ?_
  refine z_i2l d_X8_next_117 ?_
  refine z_ldc2 d_X8_next_118 l_X8_134 ?_
  refine z_ldc2 d_X8_next_121 l_X8_136 ?_
  refine z_cSi d_X8_next_124 q_X8_next_92 ⟨rfl, rfl⟩ (ct_X8_in) rfl rfl rfl ⟨Nat.zero_le _, Nat.zero_le _⟩ ?_
  refine z_if_eq d_X8_next_127 (fun h_127 => ?_) (fun h_127 => absurd (show inL (btA g t (rn pBl g t a)).toInt64 48 57 = false from by rw [inL_tok3 h0, hK]; decide) (fun z => h_127 (by rw [z]; rfl)))
  refine z_aload_n d_X8_next_243 rfl ?_
  refine z_iconst d_X8_next_244 ki_3 ?_
  refine z_putI d_X8_next_245 f_X8_127 p_X8_20 (by first | rfl | assumption) (by omega) ?_
  refine z_aload_n d_X8_next_248 rfl ?_
  refine z_iload_n d_X8_next_249 rfl ?_
  refine z_bipush d_X8_next_250 kb_59 ?_
  refine z_icmp_ne d_X8_next_252 (fun h_252 => absurd (tok_59 hK) h_252) (fun h_252 => ?_)
  refine z_iconst d_X8_next_255 ki_1 ?_
  refine z_goto d_X8_next_256 ?_
  refine z_iconst d_X8_next_260 ki_1 ?_
  refine z_cVv d_X8_next_261 q_X8_next_141 (by first | rfl | assumption) (by omega) ⟨rfl, rfl⟩ ((nd_t (g := true) hR rfl)) rfl rfl rfl ⟨Nat.zero_le _, Nat.zero_le _⟩ ?_
  refine z_aload_n d_X8_next_264 rfl ?_
  refine z_dup d_X8_next_265 rfl ?_
  refine z_getI d_X8_next_266 f_X8_116 (by first | rfl | assumption) (by omega) ?_
  refine z_iconst d_X8_next_269 ki_1 ?_
  refine z_iadd d_X8_next_270 ?_
  refine z_putI d_X8_next_271 f_X8_116 p_X8_18 (by first | rfl | assumption) (by omega) ?_
  exact z_return d_X8_next_274 rfl ⟨rfl, rfl, rfl, rfl, rfl⟩
set_option maxRecDepth 100000 in
set_option maxHeartbeats 4000000 in
theorem ct_X8_next_0 {E : zE} {I : zI} {L : zL} {R : zR} {t a : Nat} {g : Nat → Int32} (hR : zLx R) (h17 : I 64 17 = nI t) (ht : t ≤ 400) (h77 : ∀ j, j < t → I 77 j = g j) (ha : a ≤ t) (h18 : I 64 18 = nI a) (h22 : I 64 22 = 0) (hK : tokV (btA g t (rn pBl g t a)) = 0) : zCf E m_X8_next zShF [.ref 64] I L R (none) (zi (zi (zi (zi (zi (zi I 64 18 (nI (rn pBl g t a))) 64 19 (nI (rn pBl g t a))) 64 20 3) 64 22 1) 64 23 (nI (rn pBl g t a))) 64 18 (nI (rn pBl g t a) + 1)) (L) (R) := by
  have hb : rn pBl g t a ≤ t := rn_le (g := g) pBl_1 ht ha; have h0 : ¬ btA g t (rn pBl g t a) < 0 := tok_n1 (by rw [hK]; decide)
  refine z_met (by decide) [some (.ref 64), none] rfl rfl (Nat.le_of_ble_eq_true rfl) (fun X => ?_)
  refine z_aload_n d_X8_next_0 rfl ?_
  refine z_getI d_X8_next_1 f_X8_107 (by first | rfl | assumption) (by omega) ?_
  refine z_if_le d_X8_next_4 (fun h_4 => ?_) (fun h_4 => absurd (show I 64 22 ≤ 0 from by rw [h22]; decide) h_4)
  have loop : ∀ (Qs : State → Prop), (zZ E m_X8_next X Qs zShF 0 0 34 [some (.ref 64), none] [] (zi I 64 18 (nI (rn pBl g t a))) L R) → ∀ i, i ≤ 400 → (∀ m, m < i → btA g t (a + m) = 32) → zZ E m_X8_next X Qs zShF 0 0 8 [some (.ref 64), none] [] (zi I 64 18 (nI (a + i))) L R := by
    intro Qs hx
    refine up_rec (fun i hi' ih hbl => ?_)
    have fin : ¬ btA g t (a + i) = 32 → rn pBl g t a = a + i := fun hne => rn_eq pBl_1 ht ⟨by omega, fun m h1 h2 => by
      have := hbl (m - a) (by omega)
      rw [show a + (m - a) = m by omega] at this
      unfold pBl; simpa using this, by unfold pBl; simpa using hne⟩
    refine z_aload_n d_X8_next_8 rfl ?_
    refine z_aload_n d_X8_next_9 rfl ?_
    refine z_getI d_X8_next_10 f_X8_116 (by first | rfl | assumption) (by omega) ?_
    refine z_cVi d_X8_next_13 q_X8_next_119 (by first | rfl | assumption) (by omega) ⟨rfl, rfl⟩ ((ct_X8_look (t := t) (j := a + i) (g := g) hR h17 ht h77 (by omega))) rfl rfl rfl ⟨Nat.zero_le _, Nat.zero_le _⟩ ?_
    refine z_bipush d_X8_next_16 kb_32 ?_
    refine z_icmp_ne d_X8_next_18 (fun h_18 => ?_) (fun h_18 => ?_)
    · refine z_mem (I' := zi I 64 18 (nI (rn pBl g t a))) ?_ rfl rfl hx
      rw [fin h_18]
    · have hlt : i < 400 := by
        rcases Nat.lt_or_ge i 400 with q | q
        · exact q
        · rw [btA_end (by omega)] at h_18; exact absurd h_18 (by decide)
      refine z_aload_n d_X8_next_21 rfl ?_
      refine z_dup d_X8_next_22 rfl ?_
      refine z_getI d_X8_next_23 f_X8_116 (by first | rfl | assumption) (by omega) ?_
      refine z_iconst d_X8_next_26 ki_1 ?_
      refine z_iadd d_X8_next_27 ?_
      refine z_putI d_X8_next_28 f_X8_116 p_X8_18 (by first | rfl | assumption) (by omega) ?_
      refine z_goto d_X8_next_31 ?_
      refine z_mem (I' := zi I 64 18 (nI (a + (i + 1)))) ?_ rfl rfl ?_
      · rw [zi_zz, show a + (i + 1) = a + i + 1 by omega, nI_succ]
        rfl
      · exact ih hlt (fun m hm => by
          by_cases e : m = i
          · rw [e]; exact h_18
          · exact hbl m (by omega))
  refine z_mem (I' := zi I 64 18 (nI (a + 0))) (by show I = zi I 64 18 (nI a); rw [zi_id h18]) rfl rfl (loop _ ?_ 0 (Nat.zero_le 400) (fun m h => absurd h (by omega)))
  refine z_aload_n d_X8_next_34 rfl ?_
  refine z_aload_n d_X8_next_35 rfl ?_
  refine z_getI d_X8_next_36 f_X8_116 (by first | rfl | assumption) (by omega) ?_
  refine z_putI d_X8_next_39 f_X8_110 p_X8_19 (by first | rfl | assumption) (by omega) ?_
  refine z_aload_n d_X8_next_42 rfl ?_
  refine z_aload_n d_X8_next_43 rfl ?_
  refine z_getI d_X8_next_44 f_X8_116 (by first | rfl | assumption) (by omega) ?_
  refine z_cVi d_X8_next_47 q_X8_next_119 (by first | rfl | assumption) (by omega) ⟨rfl, rfl⟩ ((ct_X8_look (t := t) (j := rn pBl g t a) (g := g) hR h17 ht h77 (by omega))) rfl rfl rfl ⟨Nat.zero_le _, Nat.zero_le _⟩ ?_
  refine z_istore1 d_X8_next_50 rfl ?_
  refine z_iload_n d_X8_next_51 rfl ?_
  refine z_if_ge d_X8_next_52 (fun h_52 => ?_) (fun h_52 => absurd (Int32.not_lt.mp h0) h_52)
  refine z_iload_n d_X8_next_63 rfl ?_
  refine z_i2l d_X8_next_64 ?_
  refine z_ldc2 d_X8_next_65 l_X8_130 ?_
  refine z_ldc2 d_X8_next_68 l_X8_132 ?_
  refine z_cSi d_X8_next_71 q_X8_next_92 ⟨rfl, rfl⟩ (ct_X8_in) rfl rfl rfl ⟨Nat.zero_le _, Nat.zero_le _⟩ ?_
  refine z_if_eq d_X8_next_74 (fun h_74 => ?_) (fun h_74 => absurd (show inL (btA g t (rn pBl g t a)).toInt64 97 122 = false from by rw [inL_tok2 h0, hK]; decide) (fun z => h_74 (by rw [z]; rfl)))
  refine z_iload_n d_X8_next_116 rfl ?_
  refine z_i2l d_X8_next_117 ?_
  refine z_ldc2 d_X8_next_118 l_X8_134 ?_
  refine z_ldc2 d_X8_next_121 l_X8_136 ?_
  refine z_cSi d_X8_next_124 q_X8_next_92 ⟨rfl, rfl⟩ (ct_X8_in) rfl rfl rfl ⟨Nat.zero_le _, Nat.zero_le _⟩ ?_
  refine z_if_eq d_X8_next_127 (fun h_127 => ?_) (fun h_127 => absurd (show inL (btA g t (rn pBl g t a)).toInt64 48 57 = false from by rw [inL_tok3 h0, hK]; decide) (fun z => h_127 (by rw [z]; rfl)))
  refine z_aload_n d_X8_next_243 rfl ?_
  refine z_iconst d_X8_next_244 ki_3 ?_
  refine z_putI d_X8_next_245 f_X8_127 p_X8_20 (by first | rfl | assumption) (by omega) ?_
  refine z_aload_n d_X8_next_248 rfl ?_
  refine z_iload_n d_X8_next_249 rfl ?_
  refine z_bipush d_X8_next_250 kb_59 ?_
  refine z_icmp_ne d_X8_next_252 (fun h_252 => ?_) (fun h_252 => absurd h_252 (tok_n59 (by rw [hK]; decide)))
  refine z_iconst d_X8_next_259 ki_0 ?_
  refine z_iconst d_X8_next_260 ki_1 ?_
  refine z_cVv d_X8_next_261 q_X8_next_141 (by first | rfl | assumption) (by omega) ⟨rfl, rfl⟩ ((nd_f (g := false) hR rfl h22)) rfl rfl rfl ⟨Nat.zero_le _, Nat.zero_le _⟩ ?_
  refine z_aload_n d_X8_next_264 rfl ?_
  refine z_dup d_X8_next_265 rfl ?_
  refine z_getI d_X8_next_266 f_X8_116 (by first | rfl | assumption) (by omega) ?_
  refine z_iconst d_X8_next_269 ki_1 ?_
  refine z_iadd d_X8_next_270 ?_
  refine z_putI d_X8_next_271 f_X8_116 p_X8_18 (by first | rfl | assumption) (by omega) ?_
  exact z_return d_X8_next_274 rfl ⟨rfl, rfl, rfl, rfl, rfl⟩
