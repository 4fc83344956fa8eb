theorem inL3 (x : Int32) : inL x.toInt64 48 57 = decide (tokV x = 3) := by
  by_cases h : x < 0
  · rw [tok_1 h]
    have : x.toInt64 < 48 := by
      rw [Int64.lt_iff_toInt_lt, Int32.toInt_toInt64]
      have := Int32.lt_iff_toInt_lt.mp h
      rw [show (0 : Int32).toInt = 0 by decide] at this
      rw [show (48 : Int64).toInt = 48 by decide]
      omega
    unfold inL
    simp [this]
  · exact inL_tok3 h
def vr (g : Nat → Int32) (t b i : Nat) : Int32 := vf g t 0 b (min i 3)
theorem vr_lt {g : Nat → Int32} {t b i : Nat} (h : i < 3) : vr g t b (i + 1) = 10 * vr g t b i + btA g t (b + i) - 48 := by
  unfold vr
  rw [Nat.min_eq_left (by omega), Nat.min_eq_left (by omega)]
  show vf g t 0 b i * 10 + _ - 48 = _
  rw [Int32.mul_comm]
theorem vr_ge {g : Nat → Int32} {t b i : Nat} (h : 3 ≤ i) : vr g t b (i + 1) = vr g t b i := by
  unfold vr
  rw [Nat.min_eq_right (by omega), Nat.min_eq_right h]
set_option maxRecDepth 100000 in
set_option maxHeartbeats 4000000 in
theorem ct_X8_next_3 {E : zE} {I : zI} {L : zL} {R : zR} {t a : Nat} {g : Nat → Int32} (hR : zLx R) (h17 : I 64 17 = nI t) (ht : t ≤ 400) (h77 : ∀ j, j < t → I 77 j = g j) (ha : a ≤ t) (h18 : I 64 18 = nI a) (h22 : I 64 22 = 0) (hK : tokV (btA g t (rn pBl g t a)) = 3) (h3 : (rn (pTk 3) g t (rn pBl g t a)) - (rn pBl g t a) ≤ 3) : zCf E m_X8_next zShF [.ref 64] I L R (none) ((zi (zi (zi (zi (zi I 64 18 (nI (rn pBl g t a))) 64 19 (nI (rn pBl g t a))) 64 20 2) 64 21 (vr g t (rn pBl g t a) ((rn (pTk 3) g t (rn pBl g t a)) - (rn pBl g t a)))) 64 18 (nI (rn (pTk 3) g t (rn pBl g t a))))) (L) (R) := by
  have hb : (rn pBl g t a) ≤ t := rn_le (g := g) pBl_1 ht ha; have h0 : ¬ btA g t (rn pBl g t a) < 0 := tok_n1 (by rw [hK]; decide); have he1 : (rn pBl g t a) ≤ (rn (pTk 3) g t (rn pBl g t a)) := (rn_is (p := pTk 3) (g := g) (j := (rn pBl g t a)) (pTk_1 (Or.inr rfl)) ht).1; have he2 : (rn (pTk 3) g t (rn pBl g t a)) ≤ t := rn_le (p := pTk 3) (g := g) (j := (rn pBl g t a)) (pTk_1 (Or.inr rfl)) ht hb
  refine z_met (by decide) [some (.ref 64), none] rfl rfl (Nat.le_of_ble_eq_true rfl) (fun X => ?_)
  refine z_aload_n d_X8_next_0 rfl ?_
  refine z_getI d_X8_next_1 f_X8_107 (by first | rfl | assumption) (by omega) ?_
  refine z_if_le d_X8_next_4 (fun h_4 => ?_) (fun h_4 => absurd (show I 64 22 ≤ 0 from by rw [h22]; decide) h_4)
  have loop : ∀ (Qs : State → Prop), (zZ E m_X8_next X Qs zShF 0 0 34 [some (.ref 64), none] [] (zi I 64 18 (nI (rn pBl g t a))) L R) → ∀ i, i ≤ 400 → (∀ m, m < i → btA g t (a + m) = 32) → zZ E m_X8_next X Qs zShF 0 0 8 [some (.ref 64), none] [] (zi I 64 18 (nI (a + i))) L R := by
    intro Qs hx
    refine up_rec (fun i hi' ih hbl => ?_)
    have fin : ¬ btA g t (a + i) = 32 → (rn pBl g t a) = a + i := fun hne => rn_eq pBl_1 ht ⟨by omega, fun m h1 h2 => by
      have := hbl (m - a) (by omega)
      rw [show a + (m - a) = m by omega] at this
      unfold pBl; simpa using this, by unfold pBl; simpa using hne⟩
    refine z_aload_n d_X8_next_8 rfl ?_
    refine z_aload_n d_X8_next_9 rfl ?_
    refine z_getI d_X8_next_10 f_X8_116 (by first | rfl | assumption) (by omega) ?_
    refine z_cVi d_X8_next_13 q_X8_next_119 (by first | rfl | assumption) (by omega) ⟨rfl, rfl⟩ ((ct_X8_look (t := t) (j := a + i) (g := g) hR h17 ht h77 (by omega))) rfl rfl rfl ⟨Nat.zero_le _, Nat.zero_le _⟩ ?_
    refine z_bipush d_X8_next_16 kb_32 ?_
    refine z_icmp_ne d_X8_next_18 (fun h_18 => ?_) (fun h_18 => ?_)
    · refine z_mem (I' := zi I 64 18 (nI (rn pBl g t a))) ?_ rfl rfl hx
      rw [fin h_18]
    · have hlt : i < 400 := by
        rcases Nat.lt_or_ge i 400 with q | q
        · exact q
        · rw [btA_end (by omega)] at h_18; exact absurd h_18 (by decide)
      refine z_aload_n d_X8_next_21 rfl ?_
      refine z_dup d_X8_next_22 rfl ?_
      refine z_getI d_X8_next_23 f_X8_116 (by first | rfl | assumption) (by omega) ?_
      refine z_iconst d_X8_next_26 ki_1 ?_
      refine z_iadd d_X8_next_27 ?_
      refine z_putI d_X8_next_28 f_X8_116 p_X8_18 (by first | rfl | assumption) (by omega) ?_
      refine z_goto d_X8_next_31 ?_
      refine z_mem (I' := zi I 64 18 (nI (a + (i + 1)))) ?_ rfl rfl ?_
      · rw [zi_zz, show a + (i + 1) = a + i + 1 by omega, nI_succ]
        rfl
      · exact ih hlt (fun m hm => by
          by_cases e : m = i
          · rw [e]; exact h_18
          · exact hbl m (by omega))
  refine z_mem (I' := zi I 64 18 (nI (a + 0))) (by show I = zi I 64 18 (nI a); rw [zi_id h18]) rfl rfl (loop _ ?_ 0 (Nat.zero_le 400) (fun m h => absurd h (by omega)))
  refine z_aload_n d_X8_next_34 rfl ?_
  refine z_aload_n d_X8_next_35 rfl ?_
  refine z_getI d_X8_next_36 f_X8_116 (by first | rfl | assumption) (by omega) ?_
  refine z_putI d_X8_next_39 f_X8_110 p_X8_19 (by first | rfl | assumption) (by omega) ?_
  refine z_aload_n d_X8_next_42 rfl ?_
  refine z_aload_n d_X8_next_43 rfl ?_
  refine z_getI d_X8_next_44 f_X8_116 (by first | rfl | assumption) (by omega) ?_
  refine z_cVi d_X8_next_47 q_X8_next_119 (by first | rfl | assumption) (by omega) ⟨rfl, rfl⟩ ((ct_X8_look (t := t) (j := (rn pBl g t a)) (g := g) hR h17 ht h77 (by omega))) rfl rfl rfl ⟨Nat.zero_le _, Nat.zero_le _⟩ ?_
  refine z_istore1 d_X8_next_50 rfl ?_
  refine z_iload_n d_X8_next_51 rfl ?_
  refine z_if_ge d_X8_next_52 (fun h_52 => ?_) (fun h_52 => absurd (Int32.not_lt.mp h0) h_52)
  refine z_iload_n d_X8_next_63 rfl ?_
  refine z_i2l d_X8_next_64 ?_
  refine z_ldc2 d_X8_next_65 l_X8_130 ?_
  refine z_ldc2 d_X8_next_68 l_X8_132 ?_
  refine z_cSi d_X8_next_71 q_X8_next_92 ⟨rfl, rfl⟩ (ct_X8_in) rfl rfl rfl ⟨Nat.zero_le _, Nat.zero_le _⟩ ?_
  refine z_if_eq d_X8_next_74 (fun h_74 => ?_) (fun h_74 => absurd (show inL (btA g t (rn pBl g t a)).toInt64 97 122 = false from by rw [inL2, hK]; decide) (fun z => h_74 (by rw [z]; rfl)))
  refine z_iload_n d_X8_next_116 rfl ?_
  refine z_i2l d_X8_next_117 ?_
  refine z_ldc2 d_X8_next_118 l_X8_134 ?_
  refine z_ldc2 d_X8_next_121 l_X8_136 ?_
  refine z_cSi d_X8_next_124 q_X8_next_92 ⟨rfl, rfl⟩ (ct_X8_in) rfl rfl rfl ⟨Nat.zero_le _, Nat.zero_le _⟩ ?_
  refine z_if_eq d_X8_next_127 (fun h_127 => absurd h_127 (by rw [inL3, hK]; decide)) (fun h_127 => ?_)
  refine z_aload_n d_X8_next_130 rfl ?_
  refine z_iconst d_X8_next_131 ki_2 ?_
  refine z_putI d_X8_next_132 f_X8_127 p_X8_20 (by first | rfl | assumption) (by omega) ?_
  refine z_aload_n d_X8_next_135 rfl ?_
  refine z_iconst d_X8_next_136 ki_0 ?_
  refine z_putI d_X8_next_137 f_X8_138 p_X8_21 (by first | rfl | assumption) (by omega) ?_
  have loop2 : ∀ (Qs : State → Prop), (zZ E m_X8_next X Qs zShF 0 0 217 [some (.ref 64), some (.int (btA g t (rn pBl g t a)))] [] (zi (zi (zi (zi (zi I 64 18 (nI (rn pBl g t a))) 64 19 (nI (rn pBl g t a))) 64 20 2) 64 21 (vr g t (rn pBl g t a) ((rn (pTk 3) g t (rn pBl g t a)) - (rn pBl g t a)))) 64 18 (nI (rn (pTk 3) g t (rn pBl g t a)))) L R) → ∀ i, i ≤ 400 → (∀ m, m < i → tokV (btA g t ((rn pBl g t a) + m)) = 3) → zZ E m_X8_next X Qs zShF 0 0 140 [some (.ref 64), some (.int (btA g t (rn pBl g t a)))] [] (zi (zi (zi (zi (zi I 64 18 (nI (rn pBl g t a))) 64 19 (nI (rn pBl g t a))) 64 20 2) 64 21 (vr g t (rn pBl g t a) i)) 64 18 (nI ((rn pBl g t a) + i))) L R := by
    intro Qs hx
    refine up_rec (fun i hi' ih hbl => ?_)
    have fin : ¬ tokV (btA g t ((rn pBl g t a) + i)) = 3 → (rn (pTk 3) g t (rn pBl g t a)) = (rn pBl g t a) + i := fun hne => rn_eq (pTk_1 (Or.inr rfl)) ht ⟨by omega, fun m h1 h2 => by
      have := hbl (m - (rn pBl g t a)) (by omega)
      rw [show (rn pBl g t a) + (m - (rn pBl g t a)) = m by omega] at this
      unfold pTk; simpa using this, by unfold pTk; simpa using hne⟩
    refine z_aload_n d_X8_next_140 rfl ?_
    refine z_aload_n d_X8_next_141 rfl ?_
    refine z_getI d_X8_next_142 f_X8_116 (by first | rfl | assumption) (by omega) ?_
    refine z_cVi d_X8_next_145 q_X8_next_119 (by first | rfl | assumption) (by omega) ⟨rfl, rfl⟩ ((ct_X8_look (t := t) (j := (rn pBl g t a) + i) (g := g) hR h17 ht h77 (by omega))) rfl rfl rfl ⟨Nat.zero_le _, Nat.zero_le _⟩ ?_
    refine z_i2l d_X8_next_148 ?_
    refine z_ldc2 d_X8_next_149 l_X8_134 ?_
    refine z_ldc2 d_X8_next_152 l_X8_136 ?_
    refine z_cSi d_X8_next_155 q_X8_next_92 ⟨rfl, rfl⟩ (ct_X8_in) rfl rfl rfl ⟨Nat.zero_le _, Nat.zero_le _⟩ ?_
    refine z_if_eq d_X8_next_158 (fun h_158 => ?_) (fun h_158 => ?_)
    · have e := fin (fun z => by rw [inL3, z] at h_158; exact absurd h_158 (by decide))
      refine z_mem (I' := zi (zi (zi (zi (zi I 64 18 (nI (rn pBl g t a))) 64 19 (nI (rn pBl g t a))) 64 20 2) 64 21 (vr g t (rn pBl g t a) ((rn (pTk 3) g t (rn pBl g t a)) - (rn pBl g t a)))) 64 18 (nI (rn (pTk 3) g t (rn pBl g t a)))) ?_ rfl rfl hx
      rw [e, Nat.add_sub_cancel_left]
    · have h2 : tokV (btA g t ((rn pBl g t a) + i)) = 3 := by
        by_cases q : tokV (btA g t ((rn pBl g t a) + i)) = 3
        · exact q
        · exact absurd (show b2i (inL (btA g t ((rn pBl g t a) + i)).toInt64 48 57) = 0 from by rw [inL3]; simp [q, b2i]) h_158
      have hlt : i < 400 := by
        rcases Nat.lt_or_ge i 400 with q | q
        · exact q
        · rw [btA_end (by omega)] at h2; exact absurd h2 (by decide)
      refine z_aload_n d_X8_next_161 rfl ?_
      refine z_aload_n d_X8_next_162 rfl ?_
      refine z_getI d_X8_next_163 f_X8_116 (by first | rfl | assumption) (by omega) ?_
      refine z_aload_n d_X8_next_166 rfl ?_
      refine z_getI d_X8_next_167 f_X8_110 (by first | rfl | assumption) (by omega) ?_
      refine z_isub d_X8_next_170 ?_
      refine z_iconst d_X8_next_171 ki_3 ?_
      refine z_icmp_ge d_X8_next_172 (fun h_172 => ?_) (fun h_172 => ?_)
      · have ev := vr_ge (g := g) (t := t) (b := (rn pBl g t a)) (i := i) (by
          have z : (3 : Int32) ≤ nI ((rn pBl g t a) + i) - nI (rn pBl g t a) := h_172
          rw [nI_subN (by omega), Nat.add_sub_cancel_left] at z
          exact (nI_leI (a := 3) (b := i) (by decide) (by omega)).mp z)
        refine z_aload_n d_X8_next_197 rfl ?_
        refine z_getI d_X8_next_198 f_X8_138 (by first | rfl | assumption) (by omega) ?_
        refine z_putI d_X8_next_201 f_X8_138 p_X8_21 (by first | rfl | assumption) (by omega) ?_
        refine z_aload_n d_X8_next_204 rfl ?_
        refine z_dup d_X8_next_205 rfl ?_
        refine z_getI d_X8_next_206 f_X8_116 (by first | rfl | assumption) (by omega) ?_
        refine z_iconst d_X8_next_209 ki_1 ?_
        refine z_iadd d_X8_next_210 ?_
        refine z_putI d_X8_next_211 f_X8_116 p_X8_18 (by first | rfl | assumption) (by omega) ?_
        refine z_goto d_X8_next_214 ?_
        refine z_mem (I' := zi (zi (zi (zi (zi I 64 18 (nI (rn pBl g t a))) 64 19 (nI (rn pBl g t a))) 64 20 2) 64 21 (vr g t (rn pBl g t a) (i + 1))) 64 18 (nI ((rn pBl g t a) + (i + 1)))) ?_ rfl rfl ?_
        · rw [ev, zi_sw (j := 18) (i := 21) (by decide), zi_zz, zi_zz]
          rw [show (rn pBl g t a) + (i + 1) = (rn pBl g t a) + i + 1 by omega, nI_succ]
          rfl
        · exact ih hlt (fun m hm => by
            by_cases e : m = i
            · rw [e]; exact h2
            · exact hbl m (by omega))
      · have ev := vr_lt (g := g) (t := t) (b := (rn pBl g t a)) (i := i) (by
          have z : ¬ (3 : Int32) ≤ nI ((rn pBl g t a) + i) - nI (rn pBl g t a) := h_172
          rw [nI_subN (by omega), Nat.add_sub_cancel_left] at z
          exact Nat.lt_of_not_le (fun w => z ((nI_leI (a := 3) (b := i) (by decide) (by omega)).mpr w)))
        refine z_bipush d_X8_next_175 kb_10 ?_
        refine z_aload_n d_X8_next_177 rfl ?_
        refine z_getI d_X8_next_178 f_X8_138 (by first | rfl | assumption) (by omega) ?_
        refine z_imul d_X8_next_181 ?_
        refine z_aload_n d_X8_next_182 rfl ?_
        refine z_aload_n d_X8_next_183 rfl ?_
        refine z_getI d_X8_next_184 f_X8_116 (by first | rfl | assumption) (by omega) ?_
        refine z_cVi d_X8_next_187 q_X8_next_119 (by first | rfl | assumption) (by omega) ⟨rfl, rfl⟩ ((ct_X8_look (t := t) (j := (rn pBl g t a) + i) (g := g) hR h17 ht h77 (by omega))) rfl rfl rfl ⟨Nat.zero_le _, Nat.zero_le _⟩ ?_
        refine z_iadd d_X8_next_190 ?_
        refine z_bipush d_X8_next_191 kb_48 ?_
        refine z_isub d_X8_next_193 ?_
        refine z_goto d_X8_next_194 ?_
        refine z_putI d_X8_next_201 f_X8_138 p_X8_21 (by first | rfl | assumption) (by omega) ?_
        refine z_aload_n d_X8_next_204 rfl ?_
        refine z_dup d_X8_next_205 rfl ?_
        refine z_getI d_X8_next_206 f_X8_116 (by first | rfl | assumption) (by omega) ?_
        refine z_iconst d_X8_next_209 ki_1 ?_
        refine z_iadd d_X8_next_210 ?_
        refine z_putI d_X8_next_211 f_X8_116 p_X8_18 (by first | rfl | assumption) (by omega) ?_
        refine z_goto d_X8_next_214 ?_
        refine z_mem (I' := zi (zi (zi (zi (zi I 64 18 (nI (rn pBl g t a))) 64 19 (nI (rn pBl g t a))) 64 20 2) 64 21 (vr g t (rn pBl g t a) (i + 1))) 64 18 (nI ((rn pBl g t a) + (i + 1)))) ?_ rfl rfl ?_
        · rw [ev, zi_sw (j := 18) (i := 21) (by decide), zi_zz, zi_zz]
          rw [show (rn pBl g t a) + (i + 1) = (rn pBl g t a) + i + 1 by omega, nI_succ]
          rfl
        · exact ih hlt (fun m hm => by
            by_cases e : m = i
            · rw [e]; exact h2
            · exact hbl m (by omega))
  refine z_mem (I' := zi (zi (zi (zi (zi I 64 18 (nI (rn pBl g t a))) 64 19 (nI (rn pBl g t a))) 64 20 2) 64 21 (vr g t (rn pBl g t a) 0)) 64 18 (nI ((rn pBl g t a) + 0))) (zi_id (I := zi (zi (zi (zi I 64 18 (nI (rn pBl g t a))) 64 19 (nI (rn pBl g t a))) 64 20 2) 64 21 0) (k := 64) (j := 18) (x := nI (rn pBl g t a)) rfl).symm rfl rfl (loop2 _ ?_ 0 (Nat.zero_le 400) (fun m h => absurd h (by omega)))
  refine z_aload_n d_X8_next_217 rfl ?_
  refine z_aload_n d_X8_next_218 rfl ?_
  refine z_getI d_X8_next_219 f_X8_116 (by first | rfl | assumption) (by omega) ?_
  refine z_aload_n d_X8_next_222 rfl ?_
  refine z_getI d_X8_next_223 f_X8_110 (by first | rfl | assumption) (by omega) ?_
  refine z_isub d_X8_next_226 ?_
  refine z_iconst d_X8_next_227 ki_3 ?_
  refine z_icmp_gt d_X8_next_228 (fun h_228 => absurd (show (3 : Int32) < nI (rn (pTk 3) g t (rn pBl g t a)) - nI (rn pBl g t a) from h_228) (by rw [nI_subN he1]; exact fun z => absurd ((nI_ltI (a := 3) (b := (rn (pTk 3) g t (rn pBl g t a)) - (rn pBl g t a)) (by decide) (by omega)).mp z) (by omega))) (fun h_228 => ?_)
  refine z_iconst d_X8_next_231 ki_1 ?_
  refine z_goto d_X8_next_232 ?_
  refine z_iconst d_X8_next_236 ki_1 ?_
  refine z_cVv d_X8_next_237 q_X8_next_141 (by first | rfl | assumption) (by omega) ⟨rfl, rfl⟩ ((nd_t (g := true) hR rfl)) rfl rfl rfl ⟨Nat.zero_le _, Nat.zero_le _⟩ ?_
  refine z_goto d_X8_next_240 ?_
  exact z_return d_X8_next_274 rfl ⟨rfl, rfl, rfl, rfl, rfl⟩
set_option maxRecDepth 100000 in
set_option maxHeartbeats 4000000 in
theorem ct_X8_next_5 {E : zE} {I : zI} {L : zL} {R : zR} {t a : Nat} {g : Nat → Int32} (hR : zLx R) (h17 : I 64 17 = nI t) (ht : t ≤ 400) (h77 : ∀ j, j < t → I 77 j = g j) (ha : a ≤ t) (h18 : I 64 18 = nI a) (h22 : I 64 22 = 0) (hK : tokV (btA g t (rn pBl g t a)) = 3) (h3 : ¬ (rn (pTk 3) g t (rn pBl g t a)) - (rn pBl g t a) ≤ 3) : zCf E m_X8_next zShF [.ref 64] I L R (none) (zi (zi (zi (zi (zi (zi (zi I 64 18 (nI (rn pBl g t a))) 64 19 (nI (rn pBl g t a))) 64 20 2) 64 21 (vr g t (rn pBl g t a) ((rn (pTk 3) g t (rn pBl g t a)) - (rn pBl g t a)))) 64 18 (nI (rn (pTk 3) g t (rn pBl g t a)))) 64 22 1) 64 23 (nI (rn pBl g t a))) (L) (R) := by
  have hb : (rn pBl g t a) ≤ t := rn_le (g := g) pBl_1 ht ha; have h0 : ¬ btA g t (rn pBl g t a) < 0 := tok_n1 (by rw [hK]; decide); have he1 : (rn pBl g t a) ≤ (rn (pTk 3) g t (rn pBl g t a)) := (rn_is (p := pTk 3) (g := g) (j := (rn pBl g t a)) (pTk_1 (Or.inr rfl)) ht).1; have he2 : (rn (pTk 3) g t (rn pBl g t a)) ≤ t := rn_le (p := pTk 3) (g := g) (j := (rn pBl g t a)) (pTk_1 (Or.inr rfl)) ht hb
  refine z_met (by decide) [some (.ref 64), none] rfl rfl (Nat.le_of_ble_eq_true rfl) (fun X => ?_)
  refine z_aload_n d_X8_next_0 rfl ?_
  refine z_getI d_X8_next_1 f_X8_107 (by first | rfl | assumption) (by omega) ?_
  refine z_if_le d_X8_next_4 (fun h_4 => ?_) (fun h_4 => absurd (show I 64 22 ≤ 0 from by rw [h22]; decide) h_4)
  have loop : ∀ (Qs : State → Prop), (zZ E m_X8_next X Qs zShF 0 0 34 [some (.ref 64), none] [] (zi I 64 18 (nI (rn pBl g t a))) L R) → ∀ i, i ≤ 400 → (∀ m, m < i → btA g t (a + m) = 32) → zZ E m_X8_next X Qs zShF 0 0 8 [some (.ref 64), none] [] (zi I 64 18 (nI (a + i))) L R := by
    intro Qs hx
    refine up_rec (fun i hi' ih hbl => ?_)
    have fin : ¬ btA g t (a + i) = 32 → (rn pBl g t a) = a + i := fun hne => rn_eq pBl_1 ht ⟨by omega, fun m h1 h2 => by
      have := hbl (m - a) (by omega)
      rw [show a + (m - a) = m by omega] at this
      unfold pBl; simpa using this, by unfold pBl; simpa using hne⟩
    refine z_aload_n d_X8_next_8 rfl ?_
    refine z_aload_n d_X8_next_9 rfl ?_
    refine z_getI d_X8_next_10 f_X8_116 (by first | rfl | assumption) (by omega) ?_
    refine z_cVi d_X8_next_13 q_X8_next_119 (by first | rfl | assumption) (by omega) ⟨rfl, rfl⟩ ((ct_X8_look (t := t) (j := a + i) (g := g) hR h17 ht h77 (by omega))) rfl rfl rfl ⟨Nat.zero_le _, Nat.zero_le _⟩ ?_
    refine z_bipush d_X8_next_16 kb_32 ?_
    refine z_icmp_ne d_X8_next_18 (fun h_18 => ?_) (fun h_18 => ?_)
    · refine z_mem (I' := zi I 64 18 (nI (rn pBl g t a))) ?_ rfl rfl hx
      rw [fin h_18]
    · have hlt : i < 400 := by
        rcases Nat.lt_or_ge i 400 with q | q
        · exact q
        · rw [btA_end (by omega)] at h_18; exact absurd h_18 (by decide)
      refine z_aload_n d_X8_next_21 rfl ?_
      refine z_dup d_X8_next_22 rfl ?_
      refine z_getI d_X8_next_23 f_X8_116 (by first | rfl | assumption) (by omega) ?_
      refine z_iconst d_X8_next_26 ki_1 ?_
      refine z_iadd d_X8_next_27 ?_
      refine z_putI d_X8_next_28 f_X8_116 p_X8_18 (by first | rfl | assumption) (by omega) ?_
      refine z_goto d_X8_next_31 ?_
      refine z_mem (I' := zi I 64 18 (nI (a + (i + 1)))) ?_ rfl rfl ?_
      · rw [zi_zz, show a + (i + 1) = a + i + 1 by omega, nI_succ]
        rfl
      · exact ih hlt (fun m hm => by
          by_cases e : m = i
          · rw [e]; exact h_18
          · exact hbl m (by omega))
  refine z_mem (I' := zi I 64 18 (nI (a + 0))) (by show I = zi I 64 18 (nI a); rw [zi_id h18]) rfl rfl (loop _ ?_ 0 (Nat.zero_le 400) (fun m h => absurd h (by omega)))
  refine z_aload_n d_X8_next_34 rfl ?_
  refine z_aload_n d_X8_next_35 rfl ?_
  refine z_getI d_X8_next_36 f_X8_116 (by first | rfl | assumption) (by omega) ?_
  refine z_putI d_X8_next_39 f_X8_110 p_X8_19 (by first | rfl | assumption) (by omega) ?_
  refine z_aload_n d_X8_next_42 rfl ?_
  refine z_aload_n d_X8_next_43 rfl ?_
  refine z_getI d_X8_next_44 f_X8_116 (by first | rfl | assumption) (by omega) ?_
  refine z_cVi d_X8_next_47 q_X8_next_119 (by first | rfl | assumption) (by omega) ⟨rfl, rfl⟩ ((ct_X8_look (t := t) (j := (rn pBl g t a)) (g := g) hR h17 ht h77 (by omega))) rfl rfl rfl ⟨Nat.zero_le _, Nat.zero_le _⟩ ?_
  refine z_istore1 d_X8_next_50 rfl ?_
  refine z_iload_n d_X8_next_51 rfl ?_
  refine z_if_ge d_X8_next_52 (fun h_52 => ?_) (fun h_52 => absurd (Int32.not_lt.mp h0) h_52)
  refine z_iload_n d_X8_next_63 rfl ?_
  refine z_i2l d_X8_next_64 ?_
  refine z_ldc2 d_X8_next_65 l_X8_130 ?_
  refine z_ldc2 d_X8_next_68 l_X8_132 ?_
  refine z_cSi d_X8_next_71 q_X8_next_92 ⟨rfl, rfl⟩ (ct_X8_in) rfl rfl rfl ⟨Nat.zero_le _, Nat.zero_le _⟩ ?_
  refine z_if_eq d_X8_next_74 (fun h_74 => ?_) (fun h_74 => absurd (show inL (btA g t (rn pBl g t a)).toInt64 97 122 = false from by rw [inL2, hK]; decide) (fun z => h_74 (by rw [z]; rfl)))
  refine z_iload_n d_X8_next_116 rfl ?_
  refine z_i2l d_X8_next_117 ?_
  refine z_ldc2 d_X8_next_118 l_X8_134 ?_
  refine z_ldc2 d_X8_next_121 l_X8_136 ?_
  refine z_cSi d_X8_next_124 q_X8_next_92 ⟨rfl, rfl⟩ (ct_X8_in) rfl rfl rfl ⟨Nat.zero_le _, Nat.zero_le _⟩ ?_
  refine z_if_eq d_X8_next_127 (fun h_127 => absurd h_127 (by rw [inL3, hK]; decide)) (fun h_127 => ?_)
  refine z_aload_n d_X8_next_130 rfl ?_
  refine z_iconst d_X8_next_131 ki_2 ?_
  refine z_putI d_X8_next_132 f_X8_127 p_X8_20 (by first | rfl | assumption) (by omega) ?_
  refine z_aload_n d_X8_next_135 rfl ?_
  refine z_iconst d_X8_next_136 ki_0 ?_
  refine z_putI d_X8_next_137 f_X8_138 p_X8_21 (by first | rfl | assumption) (by omega) ?_
  have loop2 : ∀ (Qs : State → Prop), (zZ E m_X8_next X Qs zShF 0 0 217 [some (.ref 64), some (.int (btA g t (rn pBl g t a)))] [] (zi (zi (zi (zi (zi I 64 18 (nI (rn pBl g t a))) 64 19 (nI (rn pBl g t a))) 64 20 2) 64 21 (vr g t (rn pBl g t a) ((rn (pTk 3) g t (rn pBl g t a)) - (rn pBl g t a)))) 64 18 (nI (rn (pTk 3) g t (rn pBl g t a)))) L R) → ∀ i, i ≤ 400 → (∀ m, m < i → tokV (btA g t ((rn pBl g t a) + m)) = 3) → zZ E m_X8_next X Qs zShF 0 0 140 [some (.ref 64), some (.int (btA g t (rn pBl g t a)))] [] (zi (zi (zi (zi (zi I 64 18 (nI (rn pBl g t a))) 64 19 (nI (rn pBl g t a))) 64 20 2) 64 21 (vr g t (rn pBl g t a) i)) 64 18 (nI ((rn pBl g t a) + i))) L R := by
    intro Qs hx
    refine up_rec (fun i hi' ih hbl => ?_)
    have fin : ¬ tokV (btA g t ((rn pBl g t a) + i)) = 3 → (rn (pTk 3) g t (rn pBl g t a)) = (rn pBl g t a) + i := fun hne => rn_eq (pTk_1 (Or.inr rfl)) ht ⟨by omega, fun m h1 h2 => by
      have := hbl (m - (rn pBl g t a)) (by omega)
      rw [show (rn pBl g t a) + (m - (rn pBl g t a)) = m by omega] at this
      unfold pTk; simpa using this, by unfold pTk; simpa using hne⟩
    refine z_aload_n d_X8_next_140 rfl ?_
    refine z_aload_n d_X8_next_141 rfl ?_
    refine z_getI d_X8_next_142 f_X8_116 (by first | rfl | assumption) (by omega) ?_
    refine z_cVi d_X8_next_145 q_X8_next_119 (by first | rfl | assumption) (by omega) ⟨rfl, rfl⟩ ((ct_X8_look (t := t) (j := (rn pBl g t a) + i) (g := g) hR h17 ht h77 (by omega))) rfl rfl rfl ⟨Nat.zero_le _, Nat.zero_le _⟩ ?_
    refine z_i2l d_X8_next_148 ?_
    refine z_ldc2 d_X8_next_149 l_X8_134 ?_
    refine z_ldc2 d_X8_next_152 l_X8_136 ?_
    refine z_cSi d_X8_next_155 q_X8_next_92 ⟨rfl, rfl⟩ (ct_X8_in) rfl rfl rfl ⟨Nat.zero_le _, Nat.zero_le _⟩ ?_
    refine z_if_eq d_X8_next_158 (fun h_158 => ?_) (fun h_158 => ?_)
    · have e := fin (fun z => by rw [inL3, z] at h_158; exact absurd h_158 (by decide))
      refine z_mem (I' := zi (zi (zi (zi (zi I 64 18 (nI (rn pBl g t a))) 64 19 (nI (rn pBl g t a))) 64 20 2) 64 21 (vr g t (rn pBl g t a) ((rn (pTk 3) g t (rn pBl g t a)) - (rn pBl g t a)))) 64 18 (nI (rn (pTk 3) g t (rn pBl g t a)))) ?_ rfl rfl hx
      rw [e, Nat.add_sub_cancel_left]
    · have h2 : tokV (btA g t ((rn pBl g t a) + i)) = 3 := by
        by_cases q : tokV (btA g t ((rn pBl g t a) + i)) = 3
        · exact q
        · exact absurd (show b2i (inL (btA g t ((rn pBl g t a) + i)).toInt64 48 57) = 0 from by rw [inL3]; simp [q, b2i]) h_158
      have hlt : i < 400 := by
        rcases Nat.lt_or_ge i 400 with q | q
        · exact q
        · rw [btA_end (by omega)] at h2; exact absurd h2 (by decide)
      refine z_aload_n d_X8_next_161 rfl ?_
      refine z_aload_n d_X8_next_162 rfl ?_
      refine z_getI d_X8_next_163 f_X8_116 (by first | rfl | assumption) (by omega) ?_
      refine z_aload_n d_X8_next_166 rfl ?_
      refine z_getI d_X8_next_167 f_X8_110 (by first | rfl | assumption) (by omega) ?_
      refine z_isub d_X8_next_170 ?_
      refine z_iconst d_X8_next_171 ki_3 ?_
      refine z_icmp_ge d_X8_next_172 (fun h_172 => ?_) (fun h_172 => ?_)
      · have ev := vr_ge (g := g) (t := t) (b := (rn pBl g t a)) (i := i) (by
          have z : (3 : Int32) ≤ nI ((rn pBl g t a) + i) - nI (rn pBl g t a) := h_172
          rw [nI_subN (by omega), Nat.add_sub_cancel_left] at z
          exact (nI_leI (a := 3) (b := i) (by decide) (by omega)).mp z)
        refine z_aload_n d_X8_next_197 rfl ?_
        refine z_getI d_X8_next_198 f_X8_138 (by first | rfl | assumption) (by omega) ?_
        refine z_putI d_X8_next_201 f_X8_138 p_X8_21 (by first | rfl | assumption) (by omega) ?_
        refine z_aload_n d_X8_next_204 rfl ?_
        refine z_dup d_X8_next_205 rfl ?_
        refine z_getI d_X8_next_206 f_X8_116 (by first | rfl | assumption) (by omega) ?_
        refine z_iconst d_X8_next_209 ki_1 ?_
        refine z_iadd d_X8_next_210 ?_
        refine z_putI d_X8_next_211 f_X8_116 p_X8_18 (by first | rfl | assumption) (by omega) ?_
        refine z_goto d_X8_next_214 ?_
        refine z_mem (I' := zi (zi (zi (zi (zi I 64 18 (nI (rn pBl g t a))) 64 19 (nI (rn pBl g t a))) 64 20 2) 64 21 (vr g t (rn pBl g t a) (i + 1))) 64 18 (nI ((rn pBl g t a) + (i + 1)))) ?_ rfl rfl ?_
        · rw [ev, zi_sw (j := 18) (i := 21) (by decide), zi_zz, zi_zz]
          rw [show (rn pBl g t a) + (i + 1) = (rn pBl g t a) + i + 1 by omega, nI_succ]
          rfl
        · exact ih hlt (fun m hm => by
            by_cases e : m = i
            · rw [e]; exact h2
            · exact hbl m (by omega))
      · have ev := vr_lt (g := g) (t := t) (b := (rn pBl g t a)) (i := i) (by
          have z : ¬ (3 : Int32) ≤ nI ((rn pBl g t a) + i) - nI (rn pBl g t a) := h_172
          rw [nI_subN (by omega), Nat.add_sub_cancel_left] at z
          exact Nat.lt_of_not_le (fun w => z ((nI_leI (a := 3) (b := i) (by decide) (by omega)).mpr w)))
        refine z_bipush d_X8_next_175 kb_10 ?_
        refine z_aload_n d_X8_next_177 rfl ?_
        refine z_getI d_X8_next_178 f_X8_138 (by first | rfl | assumption) (by omega) ?_
        refine z_imul d_X8_next_181 ?_
        refine z_aload_n d_X8_next_182 rfl ?_
        refine z_aload_n d_X8_next_183 rfl ?_
        refine z_getI d_X8_next_184 f_X8_116 (by first | rfl | assumption) (by omega) ?_
        refine z_cVi d_X8_next_187 q_X8_next_119 (by first | rfl | assumption) (by omega) ⟨rfl, rfl⟩ ((ct_X8_look (t := t) (j := (rn pBl g t a) + i) (g := g) hR h17 ht h77 (by omega))) rfl rfl rfl ⟨Nat.zero_le _, Nat.zero_le _⟩ ?_
        refine z_iadd d_X8_next_190 ?_
        refine z_bipush d_X8_next_191 kb_48 ?_
        refine z_isub d_X8_next_193 ?_
        refine z_goto d_X8_next_194 ?_
        refine z_putI d_X8_next_201 f_X8_138 p_X8_21 (by first | rfl | assumption) (by omega) ?_
        refine z_aload_n d_X8_next_204 rfl ?_
        refine z_dup d_X8_next_205 rfl ?_
        refine z_getI d_X8_next_206 f_X8_116 (by first | rfl | assumption) (by omega) ?_
        refine z_iconst d_X8_next_209 ki_1 ?_
        refine z_iadd d_X8_next_210 ?_
        refine z_putI d_X8_next_211 f_X8_116 p_X8_18 (by first | rfl | assumption) (by omega) ?_
        refine z_goto d_X8_next_214 ?_
        refine z_mem (I' := zi (zi (zi (zi (zi I 64 18 (nI (rn pBl g t a))) 64 19 (nI (rn pBl g t a))) 64 20 2) 64 21 (vr g t (rn pBl g t a) (i + 1))) 64 18 (nI ((rn pBl g t a) + (i + 1)))) ?_ rfl rfl ?_
        · rw [ev, zi_sw (j := 18) (i := 21) (by decide), zi_zz, zi_zz]
          rw [show (rn pBl g t a) + (i + 1) = (rn pBl g t a) + i + 1 by omega, nI_succ]
          rfl
        · exact ih hlt (fun m hm => by
            by_cases e : m = i
            · rw [e]; exact h2
            · exact hbl m (by omega))
  refine z_mem (I' := zi (zi (zi (zi (zi I 64 18 (nI (rn pBl g t a))) 64 19 (nI (rn pBl g t a))) 64 20 2) 64 21 (vr g t (rn pBl g t a) 0)) 64 18 (nI ((rn pBl g t a) + 0))) (zi_id (I := zi (zi (zi (zi I 64 18 (nI (rn pBl g t a))) 64 19 (nI (rn pBl g t a))) 64 20 2) 64 21 0) (k := 64) (j := 18) (x := nI (rn pBl g t a)) rfl).symm rfl rfl (loop2 _ ?_ 0 (Nat.zero_le 400) (fun m h => absurd h (by omega)))
  refine z_aload_n d_X8_next_217 rfl ?_
  refine z_aload_n d_X8_next_218 rfl ?_
  refine z_getI d_X8_next_219 f_X8_116 (by first | rfl | assumption) (by omega) ?_
  refine z_aload_n d_X8_next_222 rfl ?_
  refine z_getI d_X8_next_223 f_X8_110 (by first | rfl | assumption) (by omega) ?_
  refine z_isub d_X8_next_226 ?_
  refine z_iconst d_X8_next_227 ki_3 ?_
  refine z_icmp_gt d_X8_next_228 (fun h_228 => ?_) (fun h_228 => absurd (show (3 : Int32) < nI (rn (pTk 3) g t (rn pBl g t a)) - nI (rn pBl g t a) from by rw [nI_subN he1]; exact nI_lt (a := 3) (b := (rn (pTk 3) g t (rn pBl g t a)) - (rn pBl g t a)) (by omega) (by omega)) h_228)
  refine z_iconst d_X8_next_235 ki_0 ?_
  refine z_iconst d_X8_next_236 ki_1 ?_
  refine z_cVv d_X8_next_237 q_X8_next_141 (by first | rfl | assumption) (by omega) ⟨rfl, rfl⟩ ((nd_f (g := false) hR rfl h22)) rfl rfl rfl ⟨Nat.zero_le _, Nat.zero_le _⟩ ?_
  refine z_goto d_X8_next_240 ?_
  exact z_return d_X8_next_274 rfl ⟨rfl, rfl, rfl, rfl, rfl⟩
/-! THE CURSOR ON THE REFERENCE'S SIDE -/
def gdC (t : Nat) (c : zCu) : Prop := match c with
  | .inl _ => True
  | .inr (a, k, s, _) => s ≤ a ∧ a ≤ t ∧ 1 ≤ k ∧ k < 5 ∧ (k = 1 → s = t)
def aR (t : Nat) (I : zI) (c : zCu) : Prop := match c with
  | .inl p => 0 < I 64 22 ∧ I 64 23 = nI p
  | .inr (a, _, _, _) => I 64 22 = 0 ∧ I 64 18 = nI a ∧ a ≤ t
def cM (t : Nat) (I : zI) (c : zCu) : Prop := match c with
  | .inl p => 0 < I 64 22 ∧ I 64 23 = nI p
  | .inr (a, k, s, v) => I 64 22 = 0 ∧ I 64 18 = nI a ∧ I 64 20 + 1 = nI k ∧ I 64 19 = nI s ∧ (k = 3 → I 64 21 = v) ∧ a ≤ t
theorem aR_of {t : Nat} {I : zI} {c : zCu} (h : cM t I c) : aR t I c := by
  rcases c with p | ⟨a, k, s, v⟩
  · exact h
  · exact ⟨h.1, h.2.1, h.2.2.2.2.2⟩
def fr64 (I J : zI) : Prop := (∀ k, k ≠ 64 → J k = I k) ∧ ∀ s, (s < 18 ∨ 23 < s) → J 64 s = I 64 s
theorem fr64_rf (I : zI) : fr64 I I := ⟨fun _ _ => rfl, fun _ _ => rfl⟩
theorem fr64_tr {I J K : zI} (h : fr64 I J) (g : fr64 J K) : fr64 I K := ⟨fun k z => (g.1 k z).trans (h.1 k z), fun s z => (g.2 s z).trans (h.2 s z)⟩
theorem fr64_zi {I J : zI} {j : Nat} {x : Int32} (h : fr64 I J) (hj : 18 ≤ j ∧ j ≤ 23) : fr64 I (zi J 64 j x) := ⟨fun k z => by rw [zi_ne z]; exact h.1 k z, fun s z => by rw [zi_eq, va_up_ne _ _ (by omega)]; exact h.2 s z⟩
theorem nx_gd {g : Nat → Int32} {t : Nat} {c : zCu} (ht : t ≤ 400) (hg : ∀ j, j < t → ¬ g j < 0) (h : ∀ a k s v, c = .inr (a, k, s, v) → a ≤ t) : gdC t (nxC g t c) := by
  rcases c with p | ⟨a, k, s, v⟩
  · trivial
  · have ha := h a k s v rfl
    show gdC t (nxA g t (rn pBl g t a))
    have hb : rn pBl g t a ≤ t := rn_le (g := g) pBl_1 ht ha
    generalize rn pBl g t a = b at hb ⊢
    unfold nxA
    rcases tok_cs (btA g t b) with e | e | e | e | e
    · rw [if_neg (by rw [e]; decide), if_neg (by rw [e]; decide), if_neg (by rw [e]; decide), if_neg (fun z => absurd (e.symm.trans z.1) (by decide))]
      trivial
    · rw [if_pos e]
      refine ⟨Nat.le_refl _, hb, by decide, by decide, fun _ => ?_⟩
      rcases Nat.lt_or_ge b t with q | q
      · have z := tok1_lt e
        unfold btA at z
        rw [if_pos q] at z
        exact absurd z (hg b q)
      · omega
    · rw [if_neg (by rw [e]; decide), if_neg (by rw [e]; decide), if_pos e]
      exact ⟨(rn_is (p := pTk 2) (g := g) (j := b) (pTk_1 (Or.inl rfl)) ht).1, rn_le (pTk_1 (Or.inl rfl)) ht hb, by decide, by decide, fun z => absurd z (by decide)⟩
    · rw [if_neg (by rw [e]; decide), if_neg (by rw [e]; decide), if_neg (by rw [e]; decide)]
      by_cases h3 : rn (pTk 3) g t b - b ≤ 3
      · rw [if_pos ⟨e, h3⟩]
        exact ⟨(rn_is (p := pTk 3) (g := g) (j := b) (pTk_1 (Or.inr rfl)) ht).1, rn_le (pTk_1 (Or.inr rfl)) ht hb, by decide, by decide, fun z => absurd z (by decide)⟩
      · rw [if_neg (fun z => h3 z.2)]
        trivial
    · rw [if_neg (by rw [e]; decide), if_pos e]
      refine ⟨by omega, ?_, by decide, by decide, fun z => absurd z (by decide)⟩
      rcases Nat.lt_or_ge b t with q | q
      · exact q
      · rw [btA_end q] at e; exact absurd e (by decide)
theorem gB_n {I : zI} {j : Nat} : ¬ gB I j < 0 := by
  obtain ⟨n, hn, e⟩ := pk_andE (I 2 j) (m := 255) 8 (by decide)
  show ¬ (I 2 j &&& 255) < 0
  rw [e]
  exact nI_pos (by omega)
def qNx (t : Nat) (I : zI) (L : zL) (R : zR) (c : zCu) : Option Value → zSh → zI → zL → zR → Prop := fun r Sh1 I1 L1 R1 => r = none ∧ Sh1 = zShF ∧ L1 = L ∧ R1 = R ∧ fr64 I I1 ∧ cM t I1 c
theorem ct_nx {E : zE} {I : zI} {L : zL} {R : zR} {t : Nat} {g : Nat → Int32} {c : zCu} (hR : zLx R) (h17 : I 64 17 = nI t) (ht : t ≤ 400) (h77 : ∀ j, j < t → I 77 j = g j) (hc : aR t I c) : zCt E m_X8_next zShF [.ref 64] I L R (qNx t I L R (nxC g t c)) := by
  rcases c with p | ⟨a, k, s, v⟩
  · refine zCt_mono (ct_X8_next_f hR hc.1) (fun r Sh1 I1 L1 R1 h => ?_)
    obtain ⟨rfl, rfl, rfl, rfl, rfl⟩ := h
    exact ⟨rfl, rfl, rfl, rfl, fr64_rf _, hc⟩
  · obtain ⟨c1, c2, c3⟩ := hc
    show zCt E m_X8_next zShF [.ref 64] I L R (qNx t I L R (nxA g t (rn pBl g t a)))
    have hb : rn pBl g t a ≤ t := rn_le (g := g) pBl_1 ht c3
    unfold nxA
    rcases tok_cs (btA g t (rn pBl g t a)) with e | e | e | e | e
    · rw [if_neg (by rw [e]; decide), if_neg (by rw [e]; decide), if_neg (by rw [e]; decide), if_neg (fun z => absurd (e.symm.trans z.1) (by decide))]
      refine zCt_mono (ct_X8_next_0 hR h17 ht h77 c3 c2 c1 e) (fun r Sh1 I1 L1 R1 h => ?_)
      obtain ⟨rfl, rfl, rfl, rfl, rfl⟩ := h
      exact ⟨rfl, rfl, rfl, rfl, fr64_zi (fr64_zi (fr64_zi (fr64_zi (fr64_zi (fr64_zi (fr64_rf I) (by decide)) (by decide)) (by decide)) (by decide)) (by decide)) (by decide), ⟨show (0 : Int32) < 1 by decide, rfl⟩⟩
    · rw [if_pos e]
      refine zCt_mono (ct_X8_next_1 hR h17 ht h77 c3 c2 c1 e) (fun r Sh1 I1 L1 R1 h => ?_)
      obtain ⟨rfl, rfl, rfl, rfl, rfl⟩ := h
      exact ⟨rfl, rfl, rfl, rfl, fr64_zi (fr64_zi (fr64_zi (fr64_rf I) (by decide)) (by decide)) (by decide), ⟨c1, rfl, show (0 : Int32) + 1 = nI 1 by decide, rfl, fun z => absurd z (by decide), hb⟩⟩
    · rw [if_neg (by rw [e]; decide), if_neg (by rw [e]; decide), if_pos e]
      refine zCt_mono (ct_X8_next_2 hR h17 ht h77 c3 c2 c1 e) (fun r Sh1 I1 L1 R1 h => ?_)
      obtain ⟨rfl, rfl, rfl, rfl, rfl⟩ := h
      exact ⟨rfl, rfl, rfl, rfl, fr64_zi (fr64_zi (fr64_zi (fr64_zi (fr64_rf I) (by decide)) (by decide)) (by decide)) (by decide), ⟨c1, rfl, show (1 : Int32) + 1 = nI 2 by decide, rfl, fun z => absurd z (by decide), rn_le (pTk_1 (Or.inl rfl)) ht hb⟩⟩
    · rw [if_neg (by rw [e]; decide), if_neg (by rw [e]; decide), if_neg (by rw [e]; decide)]
      by_cases h3 : rn (pTk 3) g t (rn pBl g t a) - rn pBl g t a ≤ 3
      · rw [if_pos ⟨e, h3⟩]
        refine zCt_mono (ct_X8_next_3 hR h17 ht h77 c3 c2 c1 e h3) (fun r Sh1 I1 L1 R1 h => ?_)
        obtain ⟨rfl, rfl, rfl, rfl, rfl⟩ := h
        exact ⟨rfl, rfl, rfl, rfl, fr64_zi (fr64_zi (fr64_zi (fr64_zi (fr64_zi (fr64_rf I) (by decide)) (by decide)) (by decide)) (by decide)) (by decide), ⟨c1, rfl, show (2 : Int32) + 1 = nI 3 by decide, rfl, fun _ => (by show vr _ _ _ _ = _; unfold vr; rw [Nat.min_eq_left h3]), rn_le (pTk_1 (Or.inr rfl)) ht hb⟩⟩
      · rw [if_neg (fun z => h3 z.2)]
        refine zCt_mono (ct_X8_next_5 hR h17 ht h77 c3 c2 c1 e h3) (fun r Sh1 I1 L1 R1 h => ?_)
        obtain ⟨rfl, rfl, rfl, rfl, rfl⟩ := h
        exact ⟨rfl, rfl, rfl, rfl, fr64_zi (fr64_zi (fr64_zi (fr64_zi (fr64_zi (fr64_zi (fr64_zi (fr64_rf I) (by decide)) (by decide)) (by decide)) (by decide)) (by decide)) (by decide)) (by decide), ⟨show (0 : Int32) < 1 by decide, rfl⟩⟩
    · rw [if_neg (by rw [e]; decide), if_pos e]
      have hlt : rn pBl g t a < t := by
        rcases Nat.lt_or_ge (rn pBl g t a) t with q | q
        · exact q
        · rw [btA_end q] at e; exact absurd e (by decide)
      refine zCt_mono (ct_X8_next_4 hR h17 ht h77 c3 c2 c1 e) (fun r Sh1 I1 L1 R1 h => ?_)
      obtain ⟨rfl, rfl, rfl, rfl, rfl⟩ := h
      exact ⟨rfl, rfl, rfl, rfl, fr64_zi (fr64_zi (fr64_zi (fr64_zi (fr64_rf I) (by decide)) (by decide)) (by decide)) (by decide), ⟨c1, (nI_succ _).symm, show (3 : Int32) + 1 = nI 4 by decide, rfl, fun z => absurd z (by decide), hlt⟩⟩
/-- a NUMBER is asked for -/
def qIN (t : Nat) (I : zI) (L : zL) (R : zR) (c : zCu) : Option Value → zSh → zI → zL → zR → Prop := fun r Sh1 I1 L1 R1 => r = none ∧ Sh1 = zShF ∧ L1 = L ∧ R1 = R ∧ fr64 I I1 ∧ cM t I1 c ∧ I1 64 21 = I 64 21
theorem inL_b {v lo hi : Int32} : inL v.toInt64 lo.toInt64 hi.toInt64 = true ↔ (¬ v < lo ∧ v ≤ hi) := by
  have e1 : (v.toInt64 < lo.toInt64) ↔ v < lo := by rw [Int64.lt_iff_toInt_lt, Int32.lt_iff_toInt_lt, Int32.toInt_toInt64, Int32.toInt_toInt64]
  have e2 : (hi.toInt64 < v.toInt64) ↔ hi < v := by rw [Int64.lt_iff_toInt_lt, Int32.lt_iff_toInt_lt, Int32.toInt_toInt64, Int32.toInt_toInt64]
  unfold inL
  rw [Bool.and_eq_true, Bool.not_eq_true', Bool.not_eq_true', decide_eq_false_iff_not, decide_eq_false_iff_not, e1, e2]
  exact ⟨fun h => ⟨h.1, Int32.not_lt.mp h.2⟩, fun h => ⟨h.1, Int32.not_lt.mpr h.2⟩⟩
theorem ct_isN {E : zE} {I : zI} {L : zL} {R : zR} {t : Nat} {c : zCu} {lo hi : Int32} (hR : zLx R) (hc : cM t I c) (hg : gdC t c) : zCt E m_X8_isNumber zShF [.ref 64, .int lo, .int hi] I L R (qIN t I L R (chC lo hi c)) := by
  rcases c with p | ⟨a, k, s, v⟩
  · refine zCt_mono (ct_isN0 hR (fun z => by have := hc.1; rw [z] at this; exact absurd this (by decide))) (fun r Sh1 I1 L1 R1 h => ?_)
    obtain ⟨rfl, rfl, rfl, rfl, rfl⟩ := h
    exact ⟨rfl, rfl, rfl, rfl, fr64_rf _, hc, rfl⟩
  · obtain ⟨c1, c2, c3, c4, c5, c6⟩ := hc
    show zCt E m_X8_isNumber zShF [.ref 64, .int lo, .int hi] I L R (qIN t I L R (if k = 3 ∧ ¬ v < lo ∧ v ≤ hi then .inr (a, k, s, v) else .inl s))
    by_cases hk : k = 3
    · have hs : I 64 20 = 2 := by
        have : I 64 20 + 1 = 2 + 1 := by rw [c3, hk]; decide
        rw [← Int32.add_sub_cancel (I 64 20) 1, this]; decide
      have hv := c5 hk
      by_cases hb : ¬ v < lo ∧ v ≤ hi
      · rw [if_pos ⟨hk, hb⟩]
        refine zCt_mono (ct_isN3 hR c1 hs (by rw [hv]; exact inL_b.mpr hb)) (fun r Sh1 I1 L1 R1 h => ?_)
        obtain ⟨rfl, rfl, rfl, rfl, rfl⟩ := h
        exact ⟨rfl, rfl, rfl, rfl, fr64_rf _, ⟨c1, c2, c3, c4, c5, c6⟩, rfl⟩
      · rw [if_neg (fun z => hb z.2)]
        refine zCt_mono (ct_isN2 hR c1 hs (by rw [hv]; exact Bool.eq_false_iff.mpr (fun z => hb (inL_b.mp z)))) (fun r Sh1 I1 L1 R1 h => ?_)
        obtain ⟨rfl, rfl, rfl, rfl, rfl⟩ := h
        exact ⟨rfl, rfl, rfl, rfl, fr64_zi (fr64_zi (fr64_rf I) (by decide)) (by decide), ⟨show (0 : Int32) < 3 by decide, c4⟩, rfl⟩
    · rw [if_neg (fun z => hk z.1)]
      have hs : ¬ I 64 20 = 2 := fun z => by
        rw [z] at c3
        exact hk ((nI_eq (a := 3) (b := k) (by decide) (by have := hg.2.2.2.1; omega)).mp c3).symm
      refine zCt_mono (ct_isN1 hR c1 hs) (fun r Sh1 I1 L1 R1 h => ?_)
      obtain ⟨rfl, rfl, rfl, rfl, rfl⟩ := h
      exact ⟨rfl, rfl, rfl, rfl, fr64_zi (fr64_zi (fr64_rf I) (by decide)) (by decide), ⟨show (0 : Int32) < 2 by decide, c4⟩, rfl⟩
theorem h17_c {I J : zI} {t : Nat} {g : Nat → Int32} (hf : fr64 I J) (h17 : I 64 17 = nI t) (h77 : ∀ j, j < t → I 77 j = g j) : J 64 17 = nI t ∧ ∀ j, j < t → J 77 j = g j := ⟨by rw [hf.2 17 (by decide)]; exact h17, fun j hj => by rw [hf.1 77 (by decide)]; exact h77 j hj⟩
theorem cv_M {t : Nat} {I : zI} {lo hi : Int32} {c : zCu} (hc : cM t I c) (h : isR (chC lo hi c)) : I 64 21 = cv (chC lo hi c) := by
  rcases c with p | ⟨a, k, s, v⟩
  · obtain ⟨u, e⟩ := h; cases e
  · obtain ⟨u, e⟩ := h
    have : chC lo hi (.inr (a, k, s, v)) = if k = 3 ∧ ¬ v < lo ∧ v ≤ hi then .inr (a, k, s, v) else .inl s := rfl
    rw [this] at e ⊢
    by_cases q : k = 3 ∧ ¬ v < lo ∧ v ≤ hi
    · rw [if_pos q]; exact hc.2.2.2.2.1 q.1
    · rw [if_neg q] at e; cases e
/-- the answer is the NUMBER if there is no FAULT -/
def qRN (t : Nat) (I : zI) (L : zL) (R : zR) (g : Nat → Int32) (c : zCu) : Option Value → zSh → zI → zL → zR → Prop := fun r Sh1 I1 L1 R1 => ∃ x : Int32, r = some (.int x) ∧ Sh1 = zShF ∧ L1 = L ∧ R1 = R ∧ fr64 I I1 ∧ cM t I1 (nxC g t c) ∧ (isR c → x = cv c)
set_option maxRecDepth 100000 in
set_option maxHeartbeats 4000000 in
theorem ct_X8_readNumber {E : zE} {I : zI} {L : zL} {R : zR} {t : Nat} {g : Nat → Int32} {c : zCu} {lo hi : Int32} (hR : zLx R) (h17 : I 64 17 = nI t) (ht : t ≤ 400) (h77 : ∀ j, j < t → I 77 j = g j) (hc : cM t I c) (hg : gdC t c) : zCt E m_X8_readNumber zShF [.ref 64, .int lo, .int hi] I L R (qRN t I L R g (chC lo hi c)) := by
  refine z_met (by decide) [some (.ref 64), some (.int lo), some (.int hi), none] rfl rfl (Nat.le_of_ble_eq_true rfl) (fun X => ?_)
  refine z_aload_n d_X8_readNumber_0 rfl ?_
  refine z_iload_n d_X8_readNumber_1 rfl ?_
  refine z_iload_n d_X8_readNumber_2 rfl ?_
  refine z_rV d_X8_readNumber_3 q_X8_readNumber_145 (by first | rfl | assumption) (by omega) ⟨rfl, rfl⟩ (ct_isN hR hc hg) rfl rfl rfl ⟨Nat.zero_le _, Nat.zero_le _⟩ (fun r_3 Sh_3 I_3 L_3 R_3 hq_3 => ?_)
  obtain ⟨rfl, rfl, rfl, rfl, hf, hc1, hv⟩ := hq_3
  obtain ⟨hJ17, hJ77⟩ := h17_c hf h17 h77
  refine z_aload_n d_X8_readNumber_6 rfl ?_
  refine z_getI d_X8_readNumber_7 f_X8_138 (by first | rfl | assumption) (by omega) ?_
  refine z_istore3 d_X8_readNumber_10 rfl ?_
  refine z_aload_n d_X8_readNumber_11 rfl ?_
  refine z_rV d_X8_readNumber_12 q_X8_readNumber_149 (by first | rfl | assumption) (by omega) ⟨rfl, rfl⟩ (ct_nx hR hJ17 ht hJ77 (aR_of hc1)) rfl rfl rfl ⟨Nat.zero_le _, Nat.zero_le _⟩ (fun r_12 Sh_12 I_12 L_12 R_12 hq_12 => ?_)
  obtain ⟨rfl, rfl, rfl, rfl, hf2, hc2⟩ := hq_12
  refine z_iload_n d_X8_readNumber_15 rfl ?_
  exact z_ireturn d_X8_readNumber_16 rfl ⟨_, rfl, rfl, rfl, rfl, fr64_tr hf hf2, hc2, fun z => hv.trans (cv_M hc z)⟩
