/-! A LINE, AS THE REFERENCE READS IT -/
set_option maxRecDepth 100000 in
theorem tb_tab : ∀ m : Fin 1024, ∀ k : Fin 10, ((nI m.val >>> (nI k.val &&& 31) &&& 1 = 0) ↔ m.val.testBit k.val = false) ∧ nI m.val ||| ((1 : Int32) <<< (nI k.val &&& 31)) = nI (m.val ||| 2 ^ k.val) ∧ m.val ||| 2 ^ k.val < 1024 := by decide +kernel
theorem inL_K : ∀ K : Fin 10, inL (nI K.val).toInt64 0 9 = true := by decide
theorem rl_bad {t a k s : Nat} {v : Int32} {g : Nat → Int32} {I I1 : zI} {D : zDr} (hb : bdC (kC g t k s a) D) (hD : dM I D) (hok : okD D) (hf : frE I I1) (h0 : 0 < I1 64 22) (h1 : I1 64 23 = nI s) (h2 : I1 64 12 = I 64 12) : qMd t I I1 (nxC g t (ln g t (.inr (a, k, s, v)) D).1) (ln g t (.inr (a, k, s, v)) D).2 := by
  have e : ln g t (.inr (a, k, s, v)) D = (flC (.inr (a, k, s, v)), D) := by
    show lnB g t (kC g t k s a) (.inr (a, k, s, v)) D = _
    unfold lnB
    rw [if_pos (bdB_t.mpr hb)]
  rw [e]
  exact ⟨hf, ⟨h0, h1⟩, ⟨drN D, hok.2.2.1.1, by rw [h2]; exact hD.2.2.2.2.1.1⟩, fun z => (isR_inl z).elim⟩
theorem frE_rf (I : zI) : frE I I := ⟨fun _ _ => rfl, fun _ _ => rfl⟩
theorem frE_fl {I : zI} {w x : Int32} : frE I (zi (zi I 64 22 w) 64 23 x) := frE_64 (frE_rf I) fr64_fl
theorem frE_15 {I J : zI} {x : Int32} (h : frE I J) : frE I (zi J 64 15 x) := ⟨fun k hk => by rw [zi_ne (by omega)]; exact h.1 k hk, fun s hs => by rw [zi_eq, va_up_ne _ _ (by omega)]; exact h.2 s hs⟩
theorem srt {t a k s : Nat} {v : Int32} {I : zI} (hc : cM t I (.inr (a, k, s, v))) (hg : gdC t (.inr (a, k, s, v))) (m : Nat) (x : Int32) (hm : m < 5) (hx : x + 1 = nI m) : I 64 20 = x ↔ k = m := by
  obtain ⟨c1, c2, c3, c4, c5, c6⟩ := hc
  constructor
  · intro z
    rw [z, hx] at c3
    exact ((nI_eq (a := m) (b := k) (by omega) (by have := hg.2.2.2.1; omega)).mp c3).symm
  · intro z
    have : I 64 20 + 1 = x + 1 := by rw [c3, z, hx]
    rw [← Int32.add_sub_cancel (I 64 20) 1, this, Int32.add_sub_cancel]
set_option maxRecDepth 100000 in
set_option maxHeartbeats 4000000 in
theorem ct_rlN {E : zE} {I : zI} {L : zL} {R : zR} {t a k s : Nat} {v : Int32} {g : Nat → Int32} {D : zDr} (hR : zLx R) (hc : cM t I (.inr (a, k, s, v))) (hg : gdC t (.inr (a, k, s, v))) (hD : dM I D) (hok : okD D) (hk : ¬ k = 2) : zCt E m_X8_readLine zShF [.ref 64] I L R (fun r1 Sh1 I1 L1 R1 => r1 = none ∧ Sh1 = zShF ∧ L1 = L ∧ R1 = R ∧ qMd t I I1 (nxC g t (ln g t (.inr (a, k, s, v)) D).1) (ln g t (.inr (a, k, s, v)) D).2) := by
  have hs : ¬ I 64 20 = 1 := fun z => hk ((srt hc hg 2 1 (by decide) (by decide)).mp z)
  refine z_met (by decide) [some (.ref 64), none] rfl rfl (Nat.le_of_ble_eq_true rfl) (fun X => ?_)
  refine z_aload_n d_X8_readLine_0 rfl ?_
  refine z_getI d_X8_readLine_1 f_X8_127 (by first | rfl | assumption) (by omega) ?_
  refine z_iconst d_X8_readLine_4 ki_1 ?_
  refine z_icmp_ne d_X8_readLine_5 (fun h_5 => ?_) (fun h_5 => absurd h_5 hs)
  refine z_bipush d_X8_readLine_15 kb_m4 ?_
  refine z_istore1 d_X8_readLine_17 rfl ?_
  refine z_aload_n d_X8_readLine_18 rfl ?_
  refine z_iload_n d_X8_readLine_19 rfl ?_
  refine z_i2l d_X8_readLine_20 ?_
  refine z_lconst (v := 0) d_X8_readLine_21 (by decide) ?_
  refine z_ldc2 d_X8_readLine_22 l_X8_163 ?_
  refine z_cSi d_X8_readLine_25 q_X8_readLine_92 ⟨rfl, rfl⟩ (ct_X8_in) rfl rfl rfl ⟨Nat.zero_le _, Nat.zero_le _⟩ ?_
  refine z_iconst d_X8_readLine_28 ki_2 ?_
  refine z_cVv d_X8_readLine_29 q_X8_readLine_141 (by first | rfl | assumption) (by omega) ⟨rfl, rfl⟩ ((nd_f hR (show inL (-4 : Int32).toInt64 0 9 = false by decide) hc.1)) rfl rfl rfl ⟨Nat.zero_le _, Nat.zero_le _⟩ ?_
  refine z_aload_n d_X8_readLine_32 rfl ?_
  refine z_iload_n d_X8_readLine_33 rfl ?_
  refine z_if_ne d_X8_readLine_34 (fun h_34 => ?_) (fun h_34 => absurd h_34 (by decide))
  refine z_iconst d_X8_readLine_46 ki_1 ?_
  refine z_goto d_X8_readLine_47 ?_
  refine z_iconst d_X8_readLine_51 ki_5 ?_
  refine z_cVv d_X8_readLine_52 q_X8_readLine_141 (by first | rfl | assumption) (by omega) ⟨rfl, rfl⟩ ((nd_t (g := true) hR rfl)) rfl rfl rfl ⟨Nat.zero_le _, Nat.zero_le _⟩ ?_
  refine z_aload_n d_X8_readLine_55 rfl ?_
  refine z_getI d_X8_readLine_56 f_X8_107 (by first | rfl | assumption) (by omega) ?_
  refine z_if_ne d_X8_readLine_59 (fun h_59 => ?_) (fun h_59 => absurd (show (2 : Int32) = 0 from h_59) (by decide))
  refine z_aload_n d_X8_readLine_100 rfl ?_
  refine z_cVv d_X8_readLine_101 q_X8_readLine_149 (by first | rfl | assumption) (by omega) ⟨rfl, rfl⟩ ((ct_X8_next_f hR (show (0 : Int32) < 2 by decide))) rfl rfl rfl ⟨Nat.zero_le _, Nat.zero_le _⟩ ?_
  refine z_aload_n d_X8_readLine_104 rfl ?_
  refine z_getI d_X8_readLine_105 f_X8_107 (by first | rfl | assumption) (by omega) ?_
  refine z_if_le d_X8_readLine_108 (fun h_108 => absurd (show (2 : Int32) ≤ 0 from h_108) (by decide)) (fun h_108 => ?_)
  exact z_return d_X8_readLine_111 rfl ⟨rfl, rfl, rfl, rfl, rl_bad (Or.inl (if_neg hk)) hD hok frE_fl (show (0 : Int32) < 2 by decide) hc.2.2.2.1 rfl⟩
set_option maxRecDepth 100000 in
set_option maxHeartbeats 4000000 in
theorem ct_rlA {E : zE} {I : zI} {L : zL} {R : zR} {t a s : Nat} {v : Int32} {g : Nat → Int32} {D : zDr} (hR : zLx R) (h17 : I 64 17 = nI t) (ht : t ≤ 400) (h77 : ∀ j, j < t → I 77 j = g j) (hc : cM t I (.inr (a, 2, s, v))) (hg : gdC t (.inr (a, 2, s, v))) (hD : dM I D) (hok : okD D) (hkd : kd g t s a = 10) : zCt E m_X8_readLine zShF [.ref 64] I L R (fun r1 Sh1 I1 L1 R1 => r1 = none ∧ Sh1 = zShF ∧ L1 = L ∧ R1 = R ∧ qMd t I I1 (nxC g t (ln g t (.inr (a, 2, s, v)) D).1) (ln g t (.inr (a, 2, s, v)) D).2) := by
  have hs : I 64 20 = 1 := (srt hc hg 2 1 (by decide) (by decide)).mpr rfl
  refine z_met (by decide) [some (.ref 64), none] rfl rfl (Nat.le_of_ble_eq_true rfl) (fun X => ?_)
  refine z_aload_n d_X8_readLine_0 rfl ?_
  refine z_getI d_X8_readLine_1 f_X8_127 (by first | rfl | assumption) (by omega) ?_
  refine z_iconst d_X8_readLine_4 ki_1 ?_
  refine z_icmp_ne d_X8_readLine_5 (fun h_5 => absurd hs h_5) (fun h_5 => ?_)
  refine z_aload_n d_X8_readLine_8 rfl ?_
  refine z_cVi d_X8_readLine_9 q_X8_readLine_159 (by first | rfl | assumption) (by omega) ⟨rfl, rfl⟩ ((ct_X8_nameNow hR h17 ht h77 hc.2.1 hc.2.2.2.1 hg.1 hg.2.1)) rfl rfl rfl ⟨Nat.zero_le _, Nat.zero_le _⟩ ?_
  refine z_goto d_X8_readLine_12 ?_
  rw [show knR (kd g t s a) = -4 from by rw [hkd]; rfl]
  refine z_istore1 d_X8_readLine_17 rfl ?_
  refine z_aload_n d_X8_readLine_18 rfl ?_
  refine z_iload_n d_X8_readLine_19 rfl ?_
  refine z_i2l d_X8_readLine_20 ?_
  refine z_lconst (v := 0) d_X8_readLine_21 (by decide) ?_
  refine z_ldc2 d_X8_readLine_22 l_X8_163 ?_
  refine z_cSi d_X8_readLine_25 q_X8_readLine_92 ⟨rfl, rfl⟩ (ct_X8_in) rfl rfl rfl ⟨Nat.zero_le _, Nat.zero_le _⟩ ?_
  refine z_iconst d_X8_readLine_28 ki_2 ?_
  refine z_cVv d_X8_readLine_29 q_X8_readLine_141 (by first | rfl | assumption) (by omega) ⟨rfl, rfl⟩ ((nd_f hR (show inL (-4 : Int32).toInt64 0 9 = false by decide) hc.1)) rfl rfl rfl ⟨Nat.zero_le _, Nat.zero_le _⟩ ?_
  refine z_aload_n d_X8_readLine_32 rfl ?_
  refine z_iload_n d_X8_readLine_33 rfl ?_
  refine z_if_ne d_X8_readLine_34 (fun h_34 => ?_) (fun h_34 => absurd h_34 (by decide))
  refine z_iconst d_X8_readLine_46 ki_1 ?_
  refine z_goto d_X8_readLine_47 ?_
  refine z_iconst d_X8_readLine_51 ki_5 ?_
  refine z_cVv d_X8_readLine_52 q_X8_readLine_141 (by first | rfl | assumption) (by omega) ⟨rfl, rfl⟩ ((nd_t (g := true) hR rfl)) rfl rfl rfl ⟨Nat.zero_le _, Nat.zero_le _⟩ ?_
  refine z_aload_n d_X8_readLine_55 rfl ?_
  refine z_getI d_X8_readLine_56 f_X8_107 (by first | rfl | assumption) (by omega) ?_
  refine z_if_ne d_X8_readLine_59 (fun h_59 => ?_) (fun h_59 => absurd (show (2 : Int32) = 0 from h_59) (by decide))
  refine z_aload_n d_X8_readLine_100 rfl ?_
  refine z_cVv d_X8_readLine_101 q_X8_readLine_149 (by first | rfl | assumption) (by omega) ⟨rfl, rfl⟩ ((ct_X8_next_f hR (show (0 : Int32) < 2 by decide))) rfl rfl rfl ⟨Nat.zero_le _, Nat.zero_le _⟩ ?_
  refine z_aload_n d_X8_readLine_104 rfl ?_
  refine z_getI d_X8_readLine_105 f_X8_107 (by first | rfl | assumption) (by omega) ?_
  refine z_if_le d_X8_readLine_108 (fun h_108 => absurd (show (2 : Int32) ≤ 0 from h_108) (by decide)) (fun h_108 => ?_)
  exact z_return d_X8_readLine_111 rfl ⟨rfl, rfl, rfl, rfl, rl_bad (Or.inl hkd) hD hok frE_fl (show (0 : Int32) < 2 by decide) hc.2.2.2.1 rfl⟩
set_option maxRecDepth 100000 in
set_option maxHeartbeats 4000000 in
theorem ct_rlB {E : zE} {I : zI} {L : zL} {R : zR} {t a s : Nat} {v : Int32} {g : Nat → Int32} {D : zDr} (hR : zLx R) (h17 : I 64 17 = nI t) (ht : t ≤ 400) (h77 : ∀ j, j < t → I 77 j = g j) (hc : cM t I (.inr (a, 2, s, v))) (hg : gdC t (.inr (a, 2, s, v))) (hD : dM I D) (hok : okD D) (hkd : kd g t s a = 0) (hr6 : ¬ drR D < 6) : zCt E m_X8_readLine zShF [.ref 64] I L R (fun r1 Sh1 I1 L1 R1 => r1 = none ∧ Sh1 = zShF ∧ L1 = L ∧ R1 = R ∧ qMd t I I1 (nxC g t (ln g t (.inr (a, 2, s, v)) D).1) (ln g t (.inr (a, 2, s, v)) D).2) := by
  have hs : I 64 20 = 1 := (srt hc hg 2 1 (by decide) (by decide)).mpr rfl
  have h14 : I 64 14 = nI 6 := by rw [hD.2.2.2.2.2.1]; have := hok.2.2.2.1; congr 1; omega
  refine z_met (by decide) [some (.ref 64), none] rfl rfl (Nat.le_of_ble_eq_true rfl) (fun X => ?_)
  refine z_aload_n d_X8_readLine_0 rfl ?_
  refine z_getI d_X8_readLine_1 f_X8_127 (by first | rfl | assumption) (by omega) ?_
  refine z_iconst d_X8_readLine_4 ki_1 ?_
  refine z_icmp_ne d_X8_readLine_5 (fun h_5 => absurd hs h_5) (fun h_5 => ?_)
  refine z_aload_n d_X8_readLine_8 rfl ?_
  refine z_cVi d_X8_readLine_9 q_X8_readLine_159 (by first | rfl | assumption) (by omega) ⟨rfl, rfl⟩ ((ct_X8_nameNow hR h17 ht h77 hc.2.1 hc.2.2.2.1 hg.1 hg.2.1)) rfl rfl rfl ⟨Nat.zero_le _, Nat.zero_le _⟩ ?_
  refine z_goto d_X8_readLine_12 ?_
  rw [show knR (kd g t s a) = 0 from by rw [hkd]; rfl]
  refine z_istore1 d_X8_readLine_17 rfl ?_
  refine z_aload_n d_X8_readLine_18 rfl ?_
  refine z_iload_n d_X8_readLine_19 rfl ?_
  refine z_i2l d_X8_readLine_20 ?_
  refine z_lconst (v := 0) d_X8_readLine_21 (by decide) ?_
  refine z_ldc2 d_X8_readLine_22 l_X8_163 ?_
  refine z_cSi d_X8_readLine_25 q_X8_readLine_92 ⟨rfl, rfl⟩ (ct_X8_in) rfl rfl rfl ⟨Nat.zero_le _, Nat.zero_le _⟩ ?_
  refine z_iconst d_X8_readLine_28 ki_2 ?_
  refine z_cVv d_X8_readLine_29 q_X8_readLine_141 (by first | rfl | assumption) (by omega) ⟨rfl, rfl⟩ ((nd_t hR (show inL (0 : Int32).toInt64 0 9 = true by decide))) rfl rfl rfl ⟨Nat.zero_le _, Nat.zero_le _⟩ ?_
  refine z_aload_n d_X8_readLine_32 rfl ?_
  refine z_iload_n d_X8_readLine_33 rfl ?_
  refine z_if_ne d_X8_readLine_34 (fun h_34 => absurd rfl h_34) (fun h_34 => ?_)
  refine z_aload_n d_X8_readLine_37 rfl ?_
  refine z_getI d_X8_readLine_38 f_X8_82 (by first | rfl | assumption) (by omega) ?_
  refine z_bipush d_X8_readLine_41 kb_6 ?_
  refine z_icmp_ge d_X8_readLine_43 (fun h_43 => ?_) (fun h_43 => absurd (show (6 : Int32) ≤ I 64 14 from by rw [h14]; decide) h_43)
  refine z_iconst d_X8_readLine_50 ki_0 ?_
  refine z_iconst d_X8_readLine_51 ki_5 ?_
  refine z_cVv d_X8_readLine_52 q_X8_readLine_141 (by first | rfl | assumption) (by omega) ⟨rfl, rfl⟩ ((nd_f (g := false) hR rfl hc.1)) rfl rfl rfl ⟨Nat.zero_le _, Nat.zero_le _⟩ ?_
  refine z_aload_n d_X8_readLine_55 rfl ?_
  refine z_getI d_X8_readLine_56 f_X8_107 (by first | rfl | assumption) (by omega) ?_
  refine z_if_ne d_X8_readLine_59 (fun h_59 => ?_) (fun h_59 => absurd (show (5 : Int32) = 0 from h_59) (by decide))
  refine z_aload_n d_X8_readLine_100 rfl ?_
  refine z_cVv d_X8_readLine_101 q_X8_readLine_149 (by first | rfl | assumption) (by omega) ⟨rfl, rfl⟩ ((ct_X8_next_f hR (show (0 : Int32) < 5 by decide))) rfl rfl rfl ⟨Nat.zero_le _, Nat.zero_le _⟩ ?_
  refine z_aload_n d_X8_readLine_104 rfl ?_
  refine z_getI d_X8_readLine_105 f_X8_107 (by first | rfl | assumption) (by omega) ?_
  refine z_if_le d_X8_readLine_108 (fun h_108 => absurd (show (5 : Int32) ≤ 0 from h_108) (by decide)) (fun h_108 => ?_)
  exact z_return d_X8_readLine_111 rfl ⟨rfl, rfl, rfl, rfl, rl_bad (Or.inr (Or.inl ⟨hkd, hr6⟩)) hD hok frE_fl (show (0 : Int32) < 5 by decide) hc.2.2.2.1 rfl⟩
set_option maxRecDepth 100000 in
set_option maxHeartbeats 4000000 in
theorem ct_rlC {E : zE} {I : zI} {L : zL} {R : zR} {t a s K : Nat} {v : Int32} {g : Nat → Int32} {D : zDr} (hR : zLx R) (h17 : I 64 17 = nI t) (ht : t ≤ 400) (h77 : ∀ j, j < t → I 77 j = g j) (hc : cM t I (.inr (a, 2, s, v))) (hg : gdC t (.inr (a, 2, s, v))) (hD : dM I D) (hok : okD D) (hkd : kd g t s a = K) (hK3 : 3 ≤ K) (hK : K < 10) (hsn : drS D K = true) : zCt E m_X8_readLine zShF [.ref 64] I L R (fun r1 Sh1 I1 L1 R1 => r1 = none ∧ Sh1 = zShF ∧ L1 = L ∧ R1 = R ∧ qMd t I I1 (nxC g t (ln g t (.inr (a, 2, s, v)) D).1) (ln g t (.inr (a, 2, s, v)) D).2) := by
  have hs : I 64 20 = 1 := (srt hc hg 2 1 (by decide) (by decide)).mpr rfl
  obtain ⟨m, hm, h15, hbit⟩ := hD.2.2.2.2.2.2
  have htab := (tb_tab ⟨m, hm⟩ ⟨K, hK⟩).1
  refine z_met (by decide) [some (.ref 64), none] rfl rfl (Nat.le_of_ble_eq_true rfl) (fun X => ?_)
  refine z_aload_n d_X8_readLine_0 rfl ?_
  refine z_getI d_X8_readLine_1 f_X8_127 (by first | rfl | assumption) (by omega) ?_
  refine z_iconst d_X8_readLine_4 ki_1 ?_
  refine z_icmp_ne d_X8_readLine_5 (fun h_5 => absurd hs h_5) (fun h_5 => ?_)
  refine z_aload_n d_X8_readLine_8 rfl ?_
  refine z_cVi d_X8_readLine_9 q_X8_readLine_159 (by first | rfl | assumption) (by omega) ⟨rfl, rfl⟩ ((ct_X8_nameNow hR h17 ht h77 hc.2.1 hc.2.2.2.1 hg.1 hg.2.1)) rfl rfl rfl ⟨Nat.zero_le _, Nat.zero_le _⟩ ?_
  refine z_goto d_X8_readLine_12 ?_
  rw [show knR (kd g t s a) = nI K from by rw [hkd]; exact if_pos hK]
  refine z_istore1 d_X8_readLine_17 rfl ?_
  refine z_aload_n d_X8_readLine_18 rfl ?_
  refine z_iload_n d_X8_readLine_19 rfl ?_
  refine z_i2l d_X8_readLine_20 ?_
  refine z_lconst (v := 0) d_X8_readLine_21 (by decide) ?_
  refine z_ldc2 d_X8_readLine_22 l_X8_163 ?_
  refine z_cSi d_X8_readLine_25 q_X8_readLine_92 ⟨rfl, rfl⟩ (ct_X8_in) rfl rfl rfl ⟨Nat.zero_le _, Nat.zero_le _⟩ ?_
  refine z_iconst d_X8_readLine_28 ki_2 ?_
  refine z_cVv d_X8_readLine_29 q_X8_readLine_141 (by first | rfl | assumption) (by omega) ⟨rfl, rfl⟩ ((nd_t hR (inL_K ⟨K, hK⟩))) rfl rfl rfl ⟨Nat.zero_le _, Nat.zero_le _⟩ ?_
  refine z_aload_n d_X8_readLine_32 rfl ?_
  refine z_iload_n d_X8_readLine_33 rfl ?_
  refine z_if_ne d_X8_readLine_34 (fun h_34 => ?_) (fun h_34 => absurd ((nI_eq (a := K) (b := 0) (by omega) (by decide)).mp h_34) (by omega))
  refine z_iconst d_X8_readLine_46 ki_1 ?_
  refine z_goto d_X8_readLine_47 ?_
  refine z_iconst d_X8_readLine_51 ki_5 ?_
  refine z_cVv d_X8_readLine_52 q_X8_readLine_141 (by first | rfl | assumption) (by omega) ⟨rfl, rfl⟩ ((nd_t (g := true) hR rfl)) rfl rfl rfl ⟨Nat.zero_le _, Nat.zero_le _⟩ ?_
  refine z_aload_n d_X8_readLine_55 rfl ?_
  refine z_getI d_X8_readLine_56 f_X8_107 (by first | rfl | assumption) (by omega) ?_
  refine z_if_ne d_X8_readLine_59 (fun h_59 => absurd hc.1 h_59) (fun h_59 => ?_)
  refine z_iload_n d_X8_readLine_62 rfl ?_
  refine z_iconst d_X8_readLine_63 ki_2 ?_
  refine z_icmp_le d_X8_readLine_64 (fun h_64 => absurd ((nI_leI (a := K) (b := 2) (by omega) (by decide)).mp h_64) (by omega)) (fun h_64 => ?_)
  refine z_aload_n d_X8_readLine_67 rfl ?_
  refine z_aload_n d_X8_readLine_68 rfl ?_
  refine z_getI d_X8_readLine_69 f_X8_85 (by first | rfl | assumption) (by omega) ?_
  refine z_iload_n d_X8_readLine_72 rfl ?_
  refine z_ishr d_X8_readLine_73 ?_
  refine z_iconst d_X8_readLine_74 ki_1 ?_
  refine z_iand d_X8_readLine_75 ?_
  refine z_if_ne d_X8_readLine_76 (fun h_76 => ?_) (fun h_76 => absurd (htab.mp (by rw [← h15]; exact h_76)) (by rw [hbit K hK3 hK, hsn]; decide))
  refine z_iconst d_X8_readLine_83 ki_0 ?_
  refine z_iconst d_X8_readLine_84 ki_4 ?_
  refine z_cVv d_X8_readLine_85 q_X8_readLine_141 (by first | rfl | assumption) (by omega) ⟨rfl, rfl⟩ ((nd_f (g := false) hR rfl hc.1)) rfl rfl rfl ⟨Nat.zero_le _, Nat.zero_le _⟩ ?_
  refine z_aload_n d_X8_readLine_88 rfl ?_
  refine z_dup d_X8_readLine_89 rfl ?_
  refine z_getI d_X8_readLine_90 f_X8_85 (by first | rfl | assumption) (by omega) ?_
  refine z_iconst d_X8_readLine_93 ki_1 ?_
  refine z_iload_n d_X8_readLine_94 rfl ?_
  refine z_ishl d_X8_readLine_95 ?_
  refine z_ior d_X8_readLine_96 ?_
  refine z_putI d_X8_readLine_97 f_X8_85 p_X8_15 (by first | rfl | assumption) (by omega) ?_
  refine z_aload_n d_X8_readLine_100 rfl ?_
  refine z_cVv d_X8_readLine_101 q_X8_readLine_149 (by first | rfl | assumption) (by omega) ⟨rfl, rfl⟩ ((ct_X8_next_f hR (show (0 : Int32) < 4 by decide))) rfl rfl rfl ⟨Nat.zero_le _, Nat.zero_le _⟩ ?_
  refine z_aload_n d_X8_readLine_104 rfl ?_
  refine z_getI d_X8_readLine_105 f_X8_107 (by first | rfl | assumption) (by omega) ?_
  refine z_if_le d_X8_readLine_108 (fun h_108 => absurd (show (4 : Int32) ≤ 0 from h_108) (by decide)) (fun h_108 => ?_)
  exact z_return d_X8_readLine_111 rfl ⟨rfl, rfl, rfl, rfl, rl_bad (Or.inr (Or.inr ⟨by show 3 ≤ kd g t s a; omega, by show drS D (kd g t s a) = true; rw [hkd]; exact hsn⟩)) hD hok (frE_15 frE_fl) (show (0 : Int32) < 4 by decide) hc.2.2.2.1 rfl⟩
theorem bd_inl {g : Nat → Int32} {t K p : Nat} {c : zCu} {D : zDr} (h : nxC g t c = .inl p) (hK : K < 10) : (bd g t K c D).1 = .inl p := by
  have hn : ∀ lo hi, nmC g t lo hi c = .inl p := fun lo hi => by unfold nmC; rw [h]; rfl
  have hp : ∀ f most, ptC g t f most c = .inl p := fun f most => by
    have e : p1C g t c = .inl p := by unfold p1C; rw [h]; rfl
    unfold ptC
    rw [p2_i e]; rfl
  rcases (show K = 0 ∨ K = 1 ∨ K = 2 ∨ K = 3 ∨ K = 4 ∨ K = 5 ∨ K = 6 ∨ K = 7 ∨ K = 8 ∨ K = 9 by omega) with rfl | rfl | rfl | rfl | rfl | rfl | rfl | rfl | rfl | rfl
  · exact (it_inl (lo := 0) (hi := 99) (i := 0) h 8).1
  · show nxC g t (ptC g t (drHo D) 99 c) = _; rw [hp]; rfl
  · show nxC g t (ptC g t (drTr D) 50 c) = _; rw [hp]; rfl
  · show nxC g t (nmC g t 1 999 c) = _; rw [hn]; rfl
  · show nxC g t (nmC g t 0 9 c) = _; rw [hn]; rfl
  · exact h
  · show nxC g t (nmC g t 0 9 c) = _; rw [hn]; rfl
  · show nxC g t (nmC g t 1 99 (nmC g t 1 9 c)) = _; rw [hn]; rfl
  · show nxC g t (nmC g t 3 4 c) = _; rw [hn]; rfl
  · show (ckWC g t 13 (nxC g t c) 0 (fun _ => 0)).1 = _; rw [h, rd_inl]
theorem cM_15 {t : Nat} {K : zI} {x : Int32} {d : zCu} (hc : cM t K d) : cM t (zi K 64 15 x) d := by
  have e : ∀ s, s ≠ 15 → zi K 64 15 x 64 s = K 64 s := fun s hs => by rw [zi_eq, va_up_ne _ _ hs]
  rcases d with p | ⟨a, k, s, v⟩
  · exact ⟨by rw [e 22 (by decide)]; exact hc.1, by rw [e 23 (by decide)]; exact hc.2⟩
  · obtain ⟨c1, c2, c3, c4, c5, c6⟩ := hc
    exact ⟨by rw [e 22 (by decide)]; exact c1, by rw [e 18 (by decide)]; exact c2, by rw [e 20 (by decide)]; exact c3, by rw [e 19 (by decide)]; exact c4, fun z => by rw [e 21 (by decide)]; exact c5 z, c6⟩
theorem dM_se {I : zI} {K : Nat} {D : zDr} (hD : dM I D) (hK : K < 3) : dM I (seD K D) := by
  obtain ⟨d1, d2, d3, d4, ⟨d5, d6⟩, d7, m, hm, d8, d9⟩ := hD
  refine ⟨d1, d2, d3, d4, ⟨d5, d6⟩, d7, m, hm, d8, fun k a b => ?_⟩
  show m.testBit k = va_up (drS D) K true k
  rw [va_up_ne _ _ (by omega)]; exact d9 k a b
theorem dM_se3 {I : zI} {K : Nat} {D : zDr} (hD : dM I D) (hK : K < 10) : dM (zi I 64 15 (I 64 15 ||| ((1 : Int32) <<< (nI K &&& 31)))) (seD K D) := by
  obtain ⟨d1, d2, d3, d4, ⟨d5, d6⟩, d7, m, hm, d8, d9⟩ := hD
  have e : ∀ s, s ≠ 15 → zi I 64 15 (I 64 15 ||| ((1 : Int32) <<< (nI K &&& 31))) 64 s = I 64 s := fun s hs => by rw [zi_eq, va_up_ne _ _ hs]
  obtain ⟨-, t1, t2⟩ := tb_tab ⟨m, hm⟩ ⟨K, hK⟩
  refine ⟨fun j hj => ?_, fun j hj => ?_, fun j hj => ?_, fun j hj => ?_, ⟨?_, fun j hj => ?_⟩, ?_, m ||| 2 ^ K, t2, ?_, fun k a b => ?_⟩
  · rw [zi_ne (by decide)]; exact d1 j hj
  · rw [zi_ne (by decide)]; exact d2 j hj
  · rw [zi_ne (by decide)]; exact d3 j hj
  · rw [zi_ne (by decide)]; exact d4 j hj
  · rw [e 12 (by decide)]; exact d5
  · rw [zi_ne (by decide)]; exact d6 j hj
  · rw [e 14 (by decide)]; exact d7
  · rw [zi_eq, up_eq, d8]; exact t1
  · show (m ||| 2 ^ K).testBit k = va_up (drS D) K true k
    rw [Nat.testBit_or, Nat.testBit_two_pow, d9 k a b]
    by_cases q : k = K
    · subst q; rw [up_eq]; simp
    · rw [va_up_ne _ _ q]
      have : ¬ K = k := fun z => q z.symm
      simp [this]
theorem stp_M {t : Nat} {J : zI} {d : zCu} (hc : cM t J d) (hg : gdC t d) (h0 : J 64 22 = 0) : (J 64 20 = 3 → stp d = d) ∧ (¬ J 64 20 = 3 → stp d = flC d) := by
  rcases d with p | ⟨a, k, s, v⟩
  · exact ⟨fun _ => rfl, fun _ => rfl⟩
  · have e := srt hc hg 4 3 (by decide) (by decide)
    refine ⟨fun z => ?_, fun z => ?_⟩
    · show (if k = 4 then _ else _) = _
      rw [if_pos (e.mp z)]
    · show (if k = 4 then _ else _) = _
      rw [if_neg (fun y => z (e.mpr y))]; rfl
theorem gd_ck {g : Nat → Int32} {t : Nat} (ht : t ≤ 400) (hgn : ∀ j, j < t → ¬ g j < 0) : ∀ m (c : zCu) n (w : Nat → Int32), gdC t c → gdC t (ckWC g t m c n w).1
  | 0, c, n, w, h => h
  | m + 1, c, n, w, h => by
    unfold ckWC
    by_cases q : n < 12
    · rw [if_pos q]
      by_cases z : tk3 (nxC g t (chC 0 15 c)) = true
      · rw [if_pos z]; exact gd_ck ht hgn m _ _ _ (gd_nx ht hgn (gd_ch h))
      · rw [if_neg z]; exact gd_nx ht hgn (gd_ch h)
    · rw [if_neg q]; exact gd_fl
theorem gd_b {g : Nat → Int32} {t K : Nat} {c : zCu} {D : zDr} (ht : t ≤ 400) (hgn : ∀ j, j < t → ¬ g j < 0) (h : gdC t c) (hK : K < 10) : gdC t (bd g t K c D).1 := by
  have hn : ∀ lo hi (d : zCu), gdC t d → gdC t (nmC g t lo hi d) := fun lo hi d hd => gd_ch (gd_nx ht hgn hd)
  have hp : ∀ f most, gdC t (ptC g t f most c) := fun f most => gd_ch (gd_nx ht hgn (gd_p2 ht hgn h))
  rcases (show K = 0 ∨ K = 1 ∨ K = 2 ∨ K = 3 ∨ K = 4 ∨ K = 5 ∨ K = 6 ∨ K = 7 ∨ K = 8 ∨ K = 9 by omega) with rfl | rfl | rfl | rfl | rfl | rfl | rfl | rfl | rfl | rfl
  · exact gd_nx ht hgn (gd_it ht hgn h 8)
  · exact gd_nx ht hgn (hp _ _)
  · exact gd_nx ht hgn (hp _ _)
  · exact gd_nx ht hgn (hn _ _ _ h)
  · exact gd_nx ht hgn (hn _ _ _ h)
  · exact gd_nx ht hgn h
  · exact gd_nx ht hgn (hn _ _ _ h)
  · exact gd_nx ht hgn (hn _ _ _ (hn _ _ _ h))
  · exact gd_nx ht hgn (hn _ _ _ h)
  · exact gd_ck ht hgn 13 _ _ _ (gd_nx ht hgn h)
set_option maxRecDepth 100000 in
set_option maxHeartbeats 4000000 in
theorem ct_rlD {E : zE} {I : zI} {L : zL} {R : zR} {t a s K : Nat} {v : Int32} {g : Nat → Int32} {D : zDr} (hR : zLx R) (h17 : I 64 17 = nI t) (ht : t ≤ 400) (h77 : ∀ j, j < t → I 77 j = g j) (hgn : ∀ j, j < t → ¬ g j < 0) (hc : cM t I (.inr (a, 2, s, v))) (hg : gdC t (.inr (a, 2, s, v))) (hD : dM I D) (hok : okD D) (hkd : kd g t s a = K) (hK : K < 10) (hnb : ¬ bdC K D) : zCt E m_X8_readLine zShF [.ref 64] I L R (fun r1 Sh1 I1 L1 R1 => r1 = none ∧ Sh1 = zShF ∧ L1 = L ∧ R1 = R ∧ qMd t I I1 (nxC g t (ln g t (.inr (a, 2, s, v)) D).1) (ln g t (.inr (a, 2, s, v)) D).2) := by
  have hs : I 64 20 = 1 := (srt hc hg 2 1 (by decide) (by decide)).mpr rfl
  obtain ⟨m, hm, h15, hbit⟩ := hD.2.2.2.2.2.2
  have htab := (tb_tab ⟨m, hm⟩ ⟨K, hK⟩).1
  have hout : ∀ M, qMd t I M (nxC g t (stp (bd g t K (.inr (a, 2, s, v)) (seD K D)).1)) (bd g t K (.inr (a, 2, s, v)) (seD K D)).2 → qMd t I M (nxC g t (ln g t (.inr (a, 2, s, v)) D).1) (ln g t (.inr (a, 2, s, v)) D).2 := fun M hM => by
    have e : ln g t (.inr (a, 2, s, v)) D = (stp (bd g t K (.inr (a, 2, s, v)) (seD K D)).1, (bd g t K (.inr (a, 2, s, v)) (seD K D)).2) := by
      show lnB g t (kd g t s a) (.inr (a, 2, s, v)) D = _
      rw [hkd]
      unfold lnB
      rw [if_neg (fun z => hnb (bdB_t.mp z))]
    rw [e]; exact hM
  refine z_met (by decide) [some (.ref 64), none] rfl rfl (Nat.le_of_ble_eq_true rfl) (fun X => ?_)
  refine z_aload_n d_X8_readLine_0 rfl ?_
  refine z_getI d_X8_readLine_1 f_X8_127 (by first | rfl | assumption) (by omega) ?_
  refine z_iconst d_X8_readLine_4 ki_1 ?_
  refine z_icmp_ne d_X8_readLine_5 (fun h_5 => absurd hs h_5) (fun h_5 => ?_)
  refine z_aload_n d_X8_readLine_8 rfl ?_
  refine z_cVi d_X8_readLine_9 q_X8_readLine_159 (by first | rfl | assumption) (by omega) ⟨rfl, rfl⟩ ((ct_X8_nameNow hR h17 ht h77 hc.2.1 hc.2.2.2.1 hg.1 hg.2.1)) rfl rfl rfl ⟨Nat.zero_le _, Nat.zero_le _⟩ ?_
  refine z_goto d_X8_readLine_12 ?_
  rw [show knR (kd g t s a) = nI K from by rw [hkd]; exact if_pos hK]
  have jn : ∀ (Qs : State → Prop), (∀ M, qMd t I M (nxC g t (stp (bd g t K (.inr (a, 2, s, v)) (seD K D)).1)) (bd g t K (.inr (a, 2, s, v)) (seD K D)).2 → zZ E m_X8_readLine X Qs zShF 0 0 179 [some (.ref 64), some (.int (nI K))] [] M L R) → ∀ J, qMd t I J (bd g t K (.inr (a, 2, s, v)) (seD K D)).1 (bd g t K (.inr (a, 2, s, v)) (seD K D)).2 → zZ E m_X8_readLine X Qs zShF 0 0 150 [some (.ref 64), some (.int (nI K))] [] J L R := by
    intro Qs hx J hJ
    have hJ17 : J 64 17 = nI t := by rw [hJ.1.2 17 (by decide)]; exact h17
    have hJ77 : ∀ j, j < t → J 77 j = g j := fun j hj => by rw [hJ.1.1 77 (by decide)]; exact h77 j hj
    have hgJ := gd_b (D := seD K D) ht hgn hg hK
    have tl : ∀ M d, qMd t I M d (bd g t K (.inr (a, 2, s, v)) (seD K D)).2 → d = stp (bd g t K (.inr (a, 2, s, v)) (seD K D)).1 → fr64 J M → zZ E m_X8_readLine X Qs zShF 0 0 175 [some (.ref 64), some (.int (nI K))] [] M L R := by
      intro M d hM hd hfM
      subst hd
      obtain ⟨hM17, hM77⟩ := h17_c hfM hJ17 hJ77
      refine z_aload_n d_X8_readLine_175 rfl ?_
      refine z_rV d_X8_readLine_176 q_X8_readLine_149 (by first | rfl | assumption) (by omega) ⟨rfl, rfl⟩ (ct_nx hR hM17 ht hM77 (aR_of hM.2.1)) rfl rfl rfl ⟨Nat.zero_le _, Nat.zero_le _⟩ (fun r_176 Sh_176 I_176 L_176 R_176 hq_176 => ?_)
      obtain ⟨rfl, rfl, rfl, rfl, hf3, hc3⟩ := hq_176
      exact hx _ (qMd_64 hM hf3 hc3 (fun z => isR_nx z))
    refine z_aload_n d_X8_readLine_150 rfl ?_
    refine z_getI d_X8_readLine_151 f_X8_107 (by first | rfl | assumption) (by omega) ?_
    refine z_if_ne d_X8_readLine_154 (fun h_154 => ?_) (fun h_154 => ?_)
    · obtain ⟨p, e⟩ := cM_n hJ.2.1 h_154
      exact tl J _ hJ (by rw [e]; rfl) (fr64_rf J)
    · refine z_aload_n d_X8_readLine_157 rfl ?_
      refine z_aload_n d_X8_readLine_158 rfl ?_
      refine z_getI d_X8_readLine_159 f_X8_127 (by first | rfl | assumption) (by omega) ?_
      refine z_iconst d_X8_readLine_162 ki_3 ?_
      refine z_icmp_ne d_X8_readLine_163 (fun h_163 => ?_) (fun h_163 => ?_)
      · have e := (stp_M hJ.2.1 hgJ h_154).2 h_163
        have hnd : zCf E m_X8_needs zShF [.ref 64, .int 0, .int 2] J L R none (zi (zi J 64 22 2) 64 23 (J 64 19)) L R := nd_f (g := false) hR rfl h_154
        have hM2 : qMd t I (zi (zi J 64 22 2) 64 23 (J 64 19)) (stp (bd g t K (.inr (a, 2, s, v)) (seD K D)).1) (bd g t K (.inr (a, 2, s, v)) (seD K D)).2 := by rw [e]; exact qMd_64 hJ fr64_fl (cM_fl (by decide) hJ.2.1 h_154) (fun z => (isR_fl z).elim)
        have hfM2 : fr64 J (zi (zi J 64 22 2) 64 23 (J 64 19)) := fr64_fl
        refine z_iconst d_X8_readLine_170 ki_0 ?_
        refine z_iconst d_X8_readLine_171 ki_2 ?_
        refine z_cVv d_X8_readLine_172 q_X8_readLine_141 (by first | rfl | assumption) (by omega) ⟨rfl, rfl⟩ (hnd) rfl rfl rfl ⟨Nat.zero_le _, Nat.zero_le _⟩ ?_
        exact tl _ _ hM2 rfl hfM2
      · have e := (stp_M hJ.2.1 hgJ h_154).1 h_163
        have hnd : zCf E m_X8_needs zShF [.ref 64, .int 1, .int 2] J L R none J L R := nd_t (g := true) hR rfl
        have hM2 : qMd t I J (stp (bd g t K (.inr (a, 2, s, v)) (seD K D)).1) (bd g t K (.inr (a, 2, s, v)) (seD K D)).2 := by rw [e]; exact hJ
        have hfM2 : fr64 J J := fr64_rf J
        refine z_iconst d_X8_readLine_166 ki_1 ?_
        refine z_goto d_X8_readLine_167 ?_
        refine z_iconst d_X8_readLine_171 ki_2 ?_
        refine z_cVv d_X8_readLine_172 q_X8_readLine_141 (by first | rfl | assumption) (by omega) ⟨rfl, rfl⟩ (hnd) rfl rfl rfl ⟨Nat.zero_le _, Nat.zero_le _⟩ ?_
        exact tl _ _ hM2 rfl hfM2
  have nx : ∀ (Qs : State → Prop), (∀ M, qMd t I M (nxC g t (stp (bd g t K (.inr (a, 2, s, v)) (seD K D)).1)) (bd g t K (.inr (a, 2, s, v)) (seD K D)).2 → zZ E m_X8_readLine X Qs zShF 0 0 111 [some (.ref 64), some (.int (nI K))] [] M L R) → (∀ M, qMd t I M (nxC g t (stp (bd g t K (.inr (a, 2, s, v)) (seD K D)).1)) (bd g t K (.inr (a, 2, s, v)) (seD K D)).2 → zZ E m_X8_readLine X Qs zShF 0 0 179 [some (.ref 64), some (.int (nI K))] [] M L R) → ∀ J, qMd t I J (.inr (a, 2, s, v)) (seD K D) → zZ E m_X8_readLine X Qs zShF 0 0 100 [some (.ref 64), some (.int (nI K))] [] J L R := by
    intro Qs hx1 hx2 J hJ
    have hJ17 : J 64 17 = nI t := by rw [hJ.1.2 17 (by decide)]; exact h17
    have hJ77 : ∀ j, j < t → J 77 j = g j := fun j hj => by rw [hJ.1.1 77 (by decide)]; exact h77 j hj
    refine z_aload_n d_X8_readLine_100 rfl ?_
    refine z_rV d_X8_readLine_101 q_X8_readLine_149 (by first | rfl | assumption) (by omega) ⟨rfl, rfl⟩ (ct_nx hR hJ17 ht hJ77 (aR_of hJ.2.1)) rfl rfl rfl ⟨Nat.zero_le _, Nat.zero_le _⟩ (fun r_101 Sh_101 I_101 L_101 R_101 hq_101 => ?_)
    obtain ⟨rfl, rfl, rfl, rfl, hf, hc1⟩ := hq_101
    obtain ⟨hK17, hK77⟩ := h17_c hf hJ17 hJ77
    have hq1 : qMd t I I_101 (nxC g t (.inr (a, 2, s, v))) (seD K D) := qMd_64 hJ hf hc1 (fun _ => ⟨_, rfl⟩)
    refine z_aload_n d_X8_readLine_104 rfl ?_
    refine z_getI d_X8_readLine_105 f_X8_107 (by first | rfl | assumption) (by omega) ?_
    refine z_if_le d_X8_readLine_108 (fun h_108 => ?_) (fun h_108 => ?_)
    · have hrr : isR (nxC g t (.inr (a, 2, s, v))) := by
        generalize nxC g t (.inr (a, 2, s, v)) = d at hc1
        rcases d with p | u
        · exact absurd hc1.1 (Int32.not_lt.mpr h_108)
        · exact ⟨u, rfl⟩
      have hD1 := hq1.2.2.2 hrr
      refine z_iload_n d_X8_readLine_112 rfl ?_
      refine z_if_ne d_X8_readLine_113 (fun h_113 => ?_) (fun h_113 => ?_)
      · refine z_iload_n d_X8_readLine_123 rfl ?_
        refine z_iconst d_X8_readLine_124 ki_2 ?_
        refine z_icmp_gt d_X8_readLine_125 (fun h_125 => ?_) (fun h_125 => ?_)
        · refine z_aload_n d_X8_readLine_145 rfl ?_
          refine z_iload_n d_X8_readLine_146 rfl ?_
          refine z_rV d_X8_readLine_147 q_X8_readLine_172 (by first | rfl | assumption) (by omega) ⟨rfl, rfl⟩ (ct_X8_readRule (K := K) hR hK17 ht hK77 hgn hq1 hD1 hg (Nat.succ_le_of_lt ((nI_ltI (a := 2) (b := K) (by decide) (by omega)).mp h_125)) hK) rfl rfl rfl ⟨Nat.zero_le _, Nat.zero_le _⟩ (fun r_147 Sh_147 I_147 L_147 R_147 hq_147 => ?_)
          obtain ⟨rfl, rfl, rfl, rfl, hqb⟩ := hq_147
          exact jn Qs hx2 _ hqb
        · refine z_aload_n d_X8_readLine_128 rfl ?_
          refine z_iload_n d_X8_readLine_129 rfl ?_
          refine z_iconst d_X8_readLine_130 ki_2 ?_
          refine z_icmp_ne d_X8_readLine_131 (fun h_131 => ?_) (fun h_131 => ?_)
          · obtain rfl : K = 1 := by
              have n2 : K ≠ 2 := fun z => h_131 (by rw [z]; rfl)
              have n0 : K ≠ 0 := fun z => h_113 (by rw [z]; rfl)
              have : K ≤ 2 := Nat.le_of_not_lt (fun z => h_125 (nI_lt (a := 2) (b := K) z (by omega)))
              omega
            have hwl : zCt E m_X8_readWell zShF [.ref 64, .int 0] I_101 L_101 R_101 (fun r1 Sh1 I1 L1 R1 => r1 = none ∧ Sh1 = zShF ∧ L1 = L_101 ∧ R1 = R_101 ∧ qMd t I I1 (bd g t 1 (.inr (a, 2, s, v)) (seD 1 D)).1 (bd g t 1 (.inr (a, 2, s, v)) (seD 1 D)).2) := zCt_mono (ct_rw_h hR hK17 ht hK77 hgn hc1 hg) (fun r Sh1 I1 L1 R1 h => ⟨h.1, h.2.1, h.2.2.1, h.2.2.2.1, mq1 hq1 hD1 h.2.2.2.2⟩)
            refine z_iconst d_X8_readLine_138 ki_0 ?_
            refine z_rV d_X8_readLine_139 q_X8_readLine_168 (by first | rfl | assumption) (by omega) ⟨rfl, rfl⟩ (hwl) rfl rfl rfl ⟨Nat.zero_le _, Nat.zero_le _⟩ (fun r_139 Sh_139 I_139 L_139 R_139 hq_139 => ?_)
            obtain ⟨rfl, rfl, rfl, rfl, hqb⟩ := hq_139
            refine z_goto d_X8_readLine_142 ?_
            exact jn Qs hx2 _ hqb
          · obtain rfl : K = 2 := (nI_eq (a := K) (b := 2) (by omega) (by decide)).mp h_131
            have hwl : zCt E m_X8_readWell zShF [.ref 64, .int 1] I_101 L_101 R_101 (fun r1 Sh1 I1 L1 R1 => r1 = none ∧ Sh1 = zShF ∧ L1 = L_101 ∧ R1 = R_101 ∧ qMd t I I1 (bd g t 2 (.inr (a, 2, s, v)) (seD 2 D)).1 (bd g t 2 (.inr (a, 2, s, v)) (seD 2 D)).2) := zCt_mono (ct_rw_t hR hK17 ht hK77 hgn hc1 hg) (fun r Sh1 I1 L1 R1 h => ⟨h.1, h.2.1, h.2.2.1, h.2.2.2.1, mq2 hq1 hD1 h.2.2.2.2⟩)
            refine z_iconst d_X8_readLine_134 ki_1 ?_
            refine z_goto d_X8_readLine_135 ?_
            refine z_rV d_X8_readLine_139 q_X8_readLine_168 (by first | rfl | assumption) (by omega) ⟨rfl, rfl⟩ (hwl) rfl rfl rfl ⟨Nat.zero_le _, Nat.zero_le _⟩ (fun r_139 Sh_139 I_139 L_139 R_139 hq_139 => ?_)
            obtain ⟨rfl, rfl, rfl, rfl, hqb⟩ := hq_139
            refine z_goto d_X8_readLine_142 ?_
            exact jn Qs hx2 _ hqb
      · obtain rfl : K = 0 := (nI_eq (a := K) (b := 0) (by omega) (by decide)).mp h_113
        refine z_aload_n d_X8_readLine_116 rfl ?_
        refine z_rV d_X8_readLine_117 q_X8_readLine_165 (by first | rfl | assumption) (by omega) ⟨rfl, rfl⟩ (ct_X8_readRow (r := drR (seD 0 D)) hR hK17 ht hK77 hgn hc1 hg hD1.2.2.2.2.2.1 (Classical.not_not.mp (fun z => hnb (Or.inr (Or.inl ⟨rfl, z⟩))))) rfl rfl rfl ⟨Nat.zero_le _, Nat.zero_le _⟩ (fun r_117 Sh_117 I_117 L_117 R_117 hq_117 => ?_)
        obtain ⟨rfl, rfl, rfl, rfl, J2, hw, rfl⟩ := hq_117
        have hqb := mq0 hq1 hD1 hw
        refine z_goto d_X8_readLine_120 ?_
        exact jn Qs hx2 _ hqb
    · obtain ⟨p, e⟩ : ∃ p, nxC g t (.inr (a, 2, s, v)) = .inl p := cM_n hc1 (fun z => h_108 (by rw [z]; decide))
      refine hx1 _ ?_
      rw [bd_inl e hK]
      rw [e] at hq1
      exact ⟨hq1.1, hq1.2.1, hq1.2.2.1, fun z => (isR_inl z).elim⟩
  refine z_istore1 d_X8_readLine_17 rfl ?_
  refine z_aload_n d_X8_readLine_18 rfl ?_
  refine z_iload_n d_X8_readLine_19 rfl ?_
  refine z_i2l d_X8_readLine_20 ?_
  refine z_lconst (v := 0) d_X8_readLine_21 (by decide) ?_
  refine z_ldc2 d_X8_readLine_22 l_X8_163 ?_
  refine z_cSi d_X8_readLine_25 q_X8_readLine_92 ⟨rfl, rfl⟩ (ct_X8_in) rfl rfl rfl ⟨Nat.zero_le _, Nat.zero_le _⟩ ?_
  refine z_iconst d_X8_readLine_28 ki_2 ?_
  refine z_cVv d_X8_readLine_29 q_X8_readLine_141 (by first | rfl | assumption) (by omega) ⟨rfl, rfl⟩ ((nd_t hR (inL_K ⟨K, hK⟩))) rfl rfl rfl ⟨Nat.zero_le _, Nat.zero_le _⟩ ?_
  refine z_aload_n d_X8_readLine_32 rfl ?_
  refine z_iload_n d_X8_readLine_33 rfl ?_
  refine z_if_ne d_X8_readLine_34 (fun h_34 => ?_) (fun h_34 => ?_)
  · refine z_iconst d_X8_readLine_46 ki_1 ?_
    refine z_goto d_X8_readLine_47 ?_
    refine z_iconst d_X8_readLine_51 ki_5 ?_
    refine z_cVv d_X8_readLine_52 q_X8_readLine_141 (by first | rfl | assumption) (by omega) ⟨rfl, rfl⟩ ((nd_t (g := true) hR rfl)) rfl rfl rfl ⟨Nat.zero_le _, Nat.zero_le _⟩ ?_
    refine z_aload_n d_X8_readLine_55 rfl ?_
    refine z_getI d_X8_readLine_56 f_X8_107 (by first | rfl | assumption) (by omega) ?_
    refine z_if_ne d_X8_readLine_59 (fun h_59 => absurd hc.1 h_59) (fun h_59 => ?_)
    refine z_iload_n d_X8_readLine_62 rfl ?_
    refine z_iconst d_X8_readLine_63 ki_2 ?_
    refine z_icmp_le d_X8_readLine_64 (fun h_64 => ?_) (fun h_64 => ?_)
    · exact nx _ (fun M hM => z_return d_X8_readLine_111 rfl ⟨rfl, rfl, rfl, rfl, hout M hM⟩) (fun M hM => z_return d_X8_readLine_179 rfl ⟨rfl, rfl, rfl, rfl, hout M hM⟩) I ⟨frE_rf I, hc, ⟨drN D, hok.2.2.1.1, hD.2.2.2.2.1.1⟩, fun _ => dM_se hD (Nat.lt_succ_of_le ((nI_leI (a := K) (b := 2) (by omega) (by decide)).mp h_64))⟩
    · refine z_aload_n d_X8_readLine_67 rfl ?_
      refine z_aload_n d_X8_readLine_68 rfl ?_
      refine z_getI d_X8_readLine_69 f_X8_85 (by first | rfl | assumption) (by omega) ?_
      refine z_iload_n d_X8_readLine_72 rfl ?_
      refine z_ishr d_X8_readLine_73 ?_
      refine z_iconst d_X8_readLine_74 ki_1 ?_
      refine z_iand d_X8_readLine_75 ?_
      refine z_if_ne d_X8_readLine_76 (fun h_76 => absurd (htab.mpr (show m.testBit K = false from by
        have h3 : 3 ≤ K := Nat.lt_of_not_le (fun z => h_64 ((nI_leI (a := K) (b := 2) (by omega) (by decide)).mpr z))
        rw [hbit K h3 hK]
        cases q : drS D K with
        | false => rfl
        | true => exact absurd (Or.inr (Or.inr ⟨h3, q⟩)) hnb)) (by rw [← h15]; exact h_76)) (fun h_76 => ?_)
      refine z_iconst d_X8_readLine_79 ki_1 ?_
      refine z_goto d_X8_readLine_80 ?_
      refine z_iconst d_X8_readLine_84 ki_4 ?_
      refine z_cVv d_X8_readLine_85 q_X8_readLine_141 (by first | rfl | assumption) (by omega) ⟨rfl, rfl⟩ ((nd_t (g := true) hR rfl)) rfl rfl rfl ⟨Nat.zero_le _, Nat.zero_le _⟩ ?_
      refine z_aload_n d_X8_readLine_88 rfl ?_
      refine z_dup d_X8_readLine_89 rfl ?_
      refine z_getI d_X8_readLine_90 f_X8_85 (by first | rfl | assumption) (by omega) ?_
      refine z_iconst d_X8_readLine_93 ki_1 ?_
      refine z_iload_n d_X8_readLine_94 rfl ?_
      refine z_ishl d_X8_readLine_95 ?_
      refine z_ior d_X8_readLine_96 ?_
      refine z_putI d_X8_readLine_97 f_X8_85 p_X8_15 (by first | rfl | assumption) (by omega) ?_
      exact nx _ (fun M hM => z_return d_X8_readLine_111 rfl ⟨rfl, rfl, rfl, rfl, hout M hM⟩) (fun M hM => z_return d_X8_readLine_179 rfl ⟨rfl, rfl, rfl, rfl, hout M hM⟩) (zi I 64 15 (I 64 15 ||| ((1 : Int32) <<< (nI K &&& 31)))) ⟨frE_15 (frE_rf I), cM_15 hc, ⟨drN D, hok.2.2.1.1, hD.2.2.2.2.1.1⟩, fun _ => dM_se3 hD hK⟩
  · refine z_aload_n d_X8_readLine_37 rfl ?_
    refine z_getI d_X8_readLine_38 f_X8_82 (by first | rfl | assumption) (by omega) ?_
    refine z_bipush d_X8_readLine_41 kb_6 ?_
    refine z_icmp_ge d_X8_readLine_43 (fun h_43 => absurd ((nI_leI (a := 6) (b := drR D) (by decide) (by have := hok.2.2.2.1; omega)).mp (show (6 : Int32) ≤ nI (drR D) from by rw [← hD.2.2.2.2.2.1]; exact h_43)) (fun z => hnb (Or.inr (Or.inl ⟨(nI_eq (a := K) (b := 0) (by omega) (by decide)).mp h_34, by omega⟩)))) (fun h_43 => ?_)
    refine z_iconst d_X8_readLine_46 ki_1 ?_
    refine z_goto d_X8_readLine_47 ?_
    refine z_iconst d_X8_readLine_51 ki_5 ?_
    refine z_cVv d_X8_readLine_52 q_X8_readLine_141 (by first | rfl | assumption) (by omega) ⟨rfl, rfl⟩ ((nd_t (g := true) hR rfl)) rfl rfl rfl ⟨Nat.zero_le _, Nat.zero_le _⟩ ?_
    refine z_aload_n d_X8_readLine_55 rfl ?_
    refine z_getI d_X8_readLine_56 f_X8_107 (by first | rfl | assumption) (by omega) ?_
    refine z_if_ne d_X8_readLine_59 (fun h_59 => absurd hc.1 h_59) (fun h_59 => ?_)
    refine z_iload_n d_X8_readLine_62 rfl ?_
    refine z_iconst d_X8_readLine_63 ki_2 ?_
    refine z_icmp_le d_X8_readLine_64 (fun h_64 => ?_) (fun h_64 => ?_)
    · exact nx _ (fun M hM => z_return d_X8_readLine_111 rfl ⟨rfl, rfl, rfl, rfl, hout M hM⟩) (fun M hM => z_return d_X8_readLine_179 rfl ⟨rfl, rfl, rfl, rfl, hout M hM⟩) I ⟨frE_rf I, hc, ⟨drN D, hok.2.2.1.1, hD.2.2.2.2.1.1⟩, fun _ => dM_se hD (Nat.lt_succ_of_le ((nI_leI (a := K) (b := 2) (by omega) (by decide)).mp h_64))⟩
    · refine z_aload_n d_X8_readLine_67 rfl ?_
      refine z_aload_n d_X8_readLine_68 rfl ?_
      refine z_getI d_X8_readLine_69 f_X8_85 (by first | rfl | assumption) (by omega) ?_
      refine z_iload_n d_X8_readLine_72 rfl ?_
      refine z_ishr d_X8_readLine_73 ?_
      refine z_iconst d_X8_readLine_74 ki_1 ?_
      refine z_iand d_X8_readLine_75 ?_
      refine z_if_ne d_X8_readLine_76 (fun h_76 => absurd (htab.mpr (show m.testBit K = false from by
        have h3 : 3 ≤ K := Nat.lt_of_not_le (fun z => h_64 ((nI_leI (a := K) (b := 2) (by omega) (by decide)).mpr z))
        rw [hbit K h3 hK]
        cases q : drS D K with
        | false => rfl
        | true => exact absurd (Or.inr (Or.inr ⟨h3, q⟩)) hnb)) (by rw [← h15]; exact h_76)) (fun h_76 => ?_)
      refine z_iconst d_X8_readLine_79 ki_1 ?_
      refine z_goto d_X8_readLine_80 ?_
      refine z_iconst d_X8_readLine_84 ki_4 ?_
      refine z_cVv d_X8_readLine_85 q_X8_readLine_141 (by first | rfl | assumption) (by omega) ⟨rfl, rfl⟩ ((nd_t (g := true) hR rfl)) rfl rfl rfl ⟨Nat.zero_le _, Nat.zero_le _⟩ ?_
      refine z_aload_n d_X8_readLine_88 rfl ?_
      refine z_dup d_X8_readLine_89 rfl ?_
      refine z_getI d_X8_readLine_90 f_X8_85 (by first | rfl | assumption) (by omega) ?_
      refine z_iconst d_X8_readLine_93 ki_1 ?_
      refine z_iload_n d_X8_readLine_94 rfl ?_
      refine z_ishl d_X8_readLine_95 ?_
      refine z_ior d_X8_readLine_96 ?_
      refine z_putI d_X8_readLine_97 f_X8_85 p_X8_15 (by first | rfl | assumption) (by omega) ?_
      exact nx _ (fun M hM => z_return d_X8_readLine_111 rfl ⟨rfl, rfl, rfl, rfl, hout M hM⟩) (fun M hM => z_return d_X8_readLine_179 rfl ⟨rfl, rfl, rfl, rfl, hout M hM⟩) (zi I 64 15 (I 64 15 ||| ((1 : Int32) <<< (nI K &&& 31)))) ⟨frE_15 (frE_rf I), cM_15 hc, ⟨drN D, hok.2.2.1.1, hD.2.2.2.2.1.1⟩, fun _ => dM_se3 hD hK⟩
