/-! THE CLOCK'S WORDS -/
def tk3 (c : zCu) : Bool := match c with
  | .inr (_, k, _, _) => k == 3
  | .inl _ => false
def ckWC (g : Nat → Int32) (t : Nat) : Nat → zCu → Nat → (Nat → Int32) → zCu × Nat × (Nat → Int32)
  | 0, c, n, w => (c, n, w)
  | m + 1, c, n, w => if n < 12 then (if tk3 (nxC g t (chC 0 15 c)) = true then ckWC g t m (nxC g t (chC 0 15 c)) (n + 1) (va_up w n (cv (chC 0 15 c))) else (nxC g t (chC 0 15 c), n + 1, va_up w n (cv (chC 0 15 c)))) else (flC (chC 0 15 c), n, w)
theorem rd_inl {g : Nat → Int32} {t m n p : Nat} {w : Nat → Int32} : (ckWC g t (m + 1) (.inl p) n w).1 = .inl p := by
  unfold ckWC
  by_cases h : n < 12
  · rw [if_pos h, if_neg (show ¬ tk3 (nxC g t (chC 0 15 (.inl p))) = true from (by show ¬ false = true; decide))]; rfl
  · rw [if_neg h]; rfl
theorem nx_fl {g : Nat → Int32} {t : Nat} {c : zCu} : nxC g t (flC c) = flC c := by rcases c with p | ⟨a, k, s, v⟩ <;> rfl
theorem tk_fl {c : zCu} : tk3 (flC c) = false := by rcases c with p | ⟨a, k, s, v⟩ <;> rfl
theorem tk3_of {t : Nat} {I : zI} {c : zCu} (hc : cC t I c) (h0 : ¬ I 8 10 = 0 → I 8 5 = 0) : (I 8 5 = 3 → tk3 c = true) ∧ (¬ I 8 5 = 3 → tk3 c = false) := by
  rcases c with p | ⟨a, k, s, v⟩
  · obtain ⟨c1, c2⟩ := hc
    refine ⟨fun z => ?_, fun _ => rfl⟩
    rw [h0 c1] at z
    exact absurd z (by decide)
  · obtain ⟨c1, c2, c3, c4, c5, c6, c7⟩ := hc
    refine ⟨fun z => ?_, fun z => ?_⟩
    · have := (nI_eq (a := k) (b := 3) (by omega) (by decide)).mp (c3.symm.trans z)
      subst this; rfl
    · have : k ≠ 3 := fun e => z (by rw [c3, e]; rfl)
      simp [tk3, this]
def ckWR (t : Nat) (I : zI) (c : zCu) : zCu × Nat × (Nat → Int32) := ckWC (gB I) t 13 (nxC (gB I) t c) 0 (fun _ => 0)
def ckWG (I J : zI) : Prop := (∀ k, k ≠ 8 → k ≠ 9 → k ≠ 13 → J k = I k) ∧ (∀ s, s ≠ 4 → J 9 s = I 9 s) ∧ J 8 8 = I 8 8
def ckWF (t : Nat) (I : zI) (c : zCu) (J : zI) : Prop := ckWG I J ∧ cC t J (ckWR t I c).1 ∧ (isR (ckWR t I c).1 → J 9 4 = nI (ckWR t I c).2.1 ∧ (ckWR t I c).2.1 ≤ 12 ∧ ∀ j, j < (ckWR t I c).2.1 → J 13 j = (ckWR t I c).2.2 j) ∧ ∃ n, n ≤ 12 ∧ J 9 4 = nI n
def ckWI (t : Nat) (I : zI) (c : zCu) (i : Nat) (J : zI) (ci : zCu) (wi : Nat → Int32) : Prop := ckWG I J ∧ cC t J ci ∧ J 9 4 = nI i ∧ (isR ci → ∀ j, j < i → J 13 j = wi j) ∧ ckWC (gB I) t (13 - i) ci i wi = ckWR t I c
theorem ckWG_8 {I J K : zI} (h : ckWG I J) (hf : fr8 J K) : ckWG I K := ⟨fun k a b d => (hf.1 k a).trans (h.1 k a b d), fun s hs => by rw [hf.1 9 (by decide)]; exact h.2.1 s hs, hf.2.trans h.2.2⟩
theorem ckWG_w {I J : zI} {i : Nat} {x y : Int32} (h : ckWG I J) : ckWG I (zi (zi J 13 i x) 9 4 y) := ⟨fun k a b d => by rw [zi_ne b, zi_ne d]; exact h.1 k a b d, fun s hs => by rw [zi_eq, va_up_ne _ _ hs, zi_ne (by decide)]; exact h.2.1 s hs, by rw [zi_ne (by decide), zi_ne (by decide)]; exact h.2.2⟩
theorem rd_f {t i : Nat} {I J K : zI} {c ci : zCu} {wi : Nat → Int32} (h : ckWI t I c i J ci wi) (hi : i = 12) (hG : ckWG I K) (hc : cC t K (flC (chC 0 15 ci))) (h94 : K 9 4 = nI 12) : ckWF t I c K := by
  obtain ⟨h1, h2, h3, h4, h5⟩ := h
  subst hi
  have e : ckWR t I c = (flC (chC 0 15 ci), 12, wi) := by
    rw [← h5]
    show ckWC (gB I) t 1 ci 12 wi = _
    unfold ckWC
    rw [if_neg (by decide)]
  refine ⟨hG, by rw [e]; exact hc, fun z => ?_, 12, Nat.le_refl _, h94⟩
  rw [e] at z
  exact (isR_fl z).elim
theorem rd_n {t i : Nat} {I J K : zI} {c ci : zCu} {wi : Nat → Int32} {x : Int32} (h : ckWI t I c i J ci wi) (hi : i < 12) (hG : ckWG I K) (hv : isR (chC 0 15 ci) → x = cv (chC 0 15 ci)) (h13 : K 13 = va_up (J 13) i x) (h94 : K 9 4 = nI (i + 1)) (hc : cC t K (nxC (gB I) t (chC 0 15 ci))) :
    (tk3 (nxC (gB I) t (chC 0 15 ci)) = true → ckWI t I c (i + 1) K (nxC (gB I) t (chC 0 15 ci)) (va_up wi i (cv (chC 0 15 ci)))) ∧ (tk3 (nxC (gB I) t (chC 0 15 ci)) = false → ckWF t I c K) := by
  obtain ⟨h1, h2, h3, h4, h5⟩ := h
  have hw : isR (nxC (gB I) t (chC 0 15 ci)) → ∀ j, j < i + 1 → K 13 j = va_up wi i (cv (chC 0 15 ci)) j := fun z j hj => by
    have r1 := isR_nx z
    rw [h13]
    by_cases q : j = i
    · subst q; rw [up_eq, up_eq]; exact hv r1
    · rw [va_up_ne _ _ q, va_up_ne _ _ q]; exact h4 (isR_ch r1) j (by omega)
  have e : ckWR t I c = ckWC (gB I) t (13 - (i + 1) + 1) ci i wi := by rw [← h5]; congr 1; omega
  refine ⟨fun z => ⟨hG, hc, h94, hw, ?_⟩, fun z => ?_⟩
  · rw [e]
    conv => rhs; unfold ckWC
    rw [if_pos hi, if_pos z]
  · have e2 : ckWR t I c = (nxC (gB I) t (chC 0 15 ci), i + 1, va_up wi i (cv (chC 0 15 ci))) := by
      rw [e]
      unfold ckWC
      rw [if_pos hi, if_neg (by rw [z]; decide)]
    refine ⟨hG, by rw [e2]; exact hc, fun y => ?_, i + 1, hi, h94⟩
    rw [e2] at y ⊢
    exact ⟨h94, hi, hw y⟩
set_option maxRecDepth 100000 in
set_option maxHeartbeats 4000000 in
theorem ct_X4_readRound {E : zE} {I : zI} {L : zL} {R : zR} {t : Nat} {c : zCu} (hR : zLx R) (h1 : I 1 1 = nI t) (ht : t ≤ 400) (hc : cC t I c) (hn : I 9 4 = 0) : zCt E m_X4_readRound zShF [.ref 8] I L R (fun r1 Sh1 I1 L1 R1 => r1 = none ∧ Sh1 = zShF ∧ L1 = L ∧ R1 = R ∧ ckWF t I c I1) := by
  refine z_met (by decide) [some (.ref 8), none, none] rfl rfl (Nat.le_of_ble_eq_true rfl) (fun X => ?_)
  refine z_aload_n d_X4_readRound_0 rfl ?_
  refine z_rV d_X4_readRound_1 q_X4_readRound_33 (by first | rfl | assumption) (by omega) ⟨rfl, rfl⟩ (ct_fetch hR h1 ht hc) rfl rfl rfl ⟨Nat.zero_le _, Nat.zero_le _⟩ (fun r_1 Sh_1 I_1 L_1 R_1 hq_1 => ?_)
  obtain ⟨rfl, rfl, rfl, rfl, hf0, hc0, -⟩ := hq_1
  refine z_iconst d_X4_readRound_4 ki_0 ?_
  refine z_istore1 d_X4_readRound_5 rfl ?_
  have loop : ∀ (Qs : State → Prop), (∀ J o1 o2, ckWF t I c J → zZ E m_X4_readRound X Qs zShF 0 0 101 [some (.ref 8), o1, o2] [] J L_1 R_1) → ∀ i, i ≤ 12 → ∀ J ci wi o2, ckWI t I c i J ci wi → zZ E m_X4_readRound X Qs zShF 0 0 6 [some (.ref 8), some (.int (nI i)), o2] [] J L_1 R_1 := by
    intro Qs hx
    refine up_rec (fun i hi' ih J ci wi o2 hJ => ?_)
    have hJ1 : J 1 1 = nI t := by rw [hJ.1.1 1 (by decide) (by decide) (by decide)]; exact h1
    have hJg : gB J = gB I := gB_c (hJ.1.1 2 (by decide) (by decide) (by decide))
    refine z_iload_n d_X4_readRound_6 rfl ?_
    refine z_bipush d_X4_readRound_7 kb_12 ?_
    refine z_icmp_gt d_X4_readRound_9 (fun h_9 => absurd ((nI_ltI (a := 12) (b := i) (by decide) (by omega)).mp h_9) (by omega)) (fun h_9 => ?_)
    refine z_aload_n d_X4_readRound_12 rfl ?_
    refine z_getI d_X4_readRound_13 f_X4_36 (by first | rfl | assumption) (by omega) ?_
    refine z_if_ne d_X4_readRound_16 (fun h_16 => ?_) (fun h_16 => ?_)
    · refine hx J _ _ ⟨hJ.1, ?_, ?_, i, hi', hJ.2.2.1⟩
      · rcases ci with p | u
        · rw [← hJ.2.2.2.2, show 13 - i = 12 - i + 1 by omega, rd_inl]; exact hJ.2.1
        · exact absurd (show J 8 10 = 0 from by obtain ⟨a, k, s, v⟩ := u; obtain ⟨z, -⟩ := hJ.2.1; exact z) h_16
      · rcases ci with p | u
        · intro z
          rw [← hJ.2.2.2.2, show 13 - i = 12 - i + 1 by omega, rd_inl] at z
          obtain ⟨u, e⟩ := z; cases e
        · exact absurd (show J 8 10 = 0 from by obtain ⟨a, k, s, v⟩ := u; obtain ⟨z, -⟩ := hJ.2.1; exact z) h_16
    · refine z_aload_n d_X4_readRound_19 rfl ?_
      refine z_iconst d_X4_readRound_20 ki_0 ?_
      refine z_bipush d_X4_readRound_21 kb_15 ?_
      refine z_rV d_X4_readRound_23 q_X4_readRound_154 (by first | rfl | assumption) (by omega) ⟨rfl, rfl⟩ (ct_nh hR hJ.2.1 (by decide)) rfl rfl rfl ⟨Nat.zero_le _, Nat.zero_le _⟩ (fun r_23 Sh_23 I_23 L_23 R_23 hq_23 => ?_)
      obtain ⟨x, rfl, rfl, rfl, rfl, hf, hc1, hb, hv⟩ := hq_23
      have hv1 : isR (chC 0 15 ci) → x = cv (chC 0 15 ci) := fun z => cv_of z hv
      have h94 : I_23 9 4 = nI i := by rw [hf.1 9 (by decide)]; exact hJ.2.2.1
      have h231 : I_23 1 1 = nI t := by rw [hf.1 1 (by decide)]; exact hJ1
      have h232 : I_23 2 = I 2 := by rw [hf.1 2 (by decide)]; exact hJ.1.1 2 (by decide) (by decide) (by decide)
      have hG := ckWG_8 hJ.1 hf
      have tail : ∀ M c', M 1 1 = nI t → M 2 = I 2 → cC t M c' → (∀ K, fr8 M K → cC t K (nxC (gB I) t c') → tk3 (nxC (gB I) t c') = true → zZ E m_X4_readRound X Qs zShF 0 0 95 [some (.ref 8), some (.int (nI i)), some (.int x)] [] K L_23 R_23) → (∀ K, fr8 M K → cC t K (nxC (gB I) t c') → tk3 (nxC (gB I) t c') = false → zZ E m_X4_readRound X Qs zShF 0 0 101 [some (.ref 8), some (.int (nI i)), some (.int x)] [] K L_23 R_23) → zZ E m_X4_readRound X Qs zShF 0 0 80 [some (.ref 8), some (.int (nI i)), some (.int x)] [] M L_23 R_23 := by
        intro M c' hM1 hM2 hcM k1 k2
        refine z_aload_n d_X4_readRound_80 rfl ?_
        refine z_rV d_X4_readRound_81 q_X4_readRound_33 (by first | rfl | assumption) (by omega) ⟨rfl, rfl⟩ (ct_fetch hR hM1 ht hcM) rfl rfl rfl ⟨Nat.zero_le _, Nat.zero_le _⟩ (fun r_81 Sh_81 I_81 L_81 R_81 hq_81 => ?_)
        obtain ⟨rfl, rfl, rfl, rfl, hf3, hc3, hz3⟩ := hq_81
        rw [gB_c hM2] at hc3
        refine z_aload_n d_X4_readRound_84 rfl ?_
        refine z_getI d_X4_readRound_85 f_X4_40 (by first | rfl | assumption) (by omega) ?_
        refine z_iconst d_X4_readRound_88 ki_3 ?_
        refine z_icmp_eq d_X4_readRound_89 (fun h_89 => ?_) (fun h_89 => ?_)
        · exact k1 _ hf3 hc3 ((tk3_of hc3 hz3).1 h_89)
        · refine z_goto d_X4_readRound_92 ?_
          exact k2 _ hf3 hc3 ((tk3_of hc3 hz3).2 h_89)
      refine z_istore2 d_X4_readRound_26 rfl ?_
      refine z_aload_n d_X4_readRound_27 rfl ?_
      refine z_getR d_X4_readRound_28 f_X4_12 (by first | rfl | assumption) (by omega) (by first | exact hR _ _ _ rfl | rfl | assumption) ?_
      refine z_getI d_X4_readRound_31 f_X4_157 (by first | rfl | assumption) (by omega) ?_
      rw [h94]
      refine z_bipush d_X4_readRound_34 kb_12 ?_
      refine z_icmp_lt d_X4_readRound_36 (fun h_36 => ?_) (fun h_36 => ?_)
      · have hi12 : i < 12 := (nI_ltI (a := i) (b := 12) (by omega) (by decide)).mp h_36
        refine z_aload_n d_X4_readRound_51 rfl ?_
        refine z_getR d_X4_readRound_52 f_X4_12 (by first | rfl | assumption) (by omega) (by first | exact hR _ _ _ rfl | rfl | assumption) ?_
        refine z_getR d_X4_readRound_55 f_X4_160 (by first | rfl | assumption) (by omega) (by first | exact hR _ _ _ rfl | rfl | assumption) ?_
        refine z_aload_n d_X4_readRound_58 rfl ?_
        refine z_getR d_X4_readRound_59 f_X4_12 (by first | rfl | assumption) (by omega) (by first | exact hR _ _ _ rfl | rfl | assumption) ?_
        refine z_getI d_X4_readRound_62 f_X4_157 (by first | rfl | assumption) (by omega) ?_
        refine z_iload_n d_X4_readRound_65 rfl ?_
        refine z_iastore d_X4_readRound_66 (by first | rfl | assumption) (by omega) (show zix (I_23 9 4) 12 i from by rw [h94]; exact zix_nI (by omega) (by decide)) ?_
        refine z_aload_n d_X4_readRound_67 rfl ?_
        refine z_getR d_X4_readRound_68 f_X4_12 (by first | rfl | assumption) (by omega) (by first | exact hR _ _ _ rfl | rfl | assumption) ?_
        refine z_dup d_X4_readRound_71 rfl ?_
        refine z_getI d_X4_readRound_72 f_X4_157 (by first | rfl | assumption) (by omega) ?_
        refine z_iconst d_X4_readRound_75 ki_1 ?_
        refine z_iadd d_X4_readRound_76 ?_
        refine z_putI d_X4_readRound_77 f_X4_157 p_X3_4 (by first | rfl | assumption) (by omega) ?_
        first
          | (have hlt12 := Nat.ne_of_lt hi12
             refine z_mem (I' := zi (zi I_23 13 i x) 9 4 (nI (i + 1))) (by rw [show zi I_23 13 i x 9 4 = nI i from h94, ← nI_succ]) rfl rfl ?_
             have g13 : ∀ K, fr8 (zi (zi I_23 13 i x) 9 4 (nI (i + 1))) K → K 13 = va_up (J 13) i x := fun K hK => by rw [hK.1 13 (by decide), zi_ne (by decide), zi_eq, hf.1 13 (by decide)]
             have g94 : ∀ K, fr8 (zi (zi I_23 13 i x) 9 4 (nI (i + 1))) K → K 9 4 = nI (i + 1) := fun K hK => by rw [hK.1 9 (by decide), zi_eq, up_eq]
             exact tail _ (chC 0 15 ci) (by rw [zi_ne (by decide), zi_ne (by decide)]; exact h231) (by rw [zi_ne (by decide), zi_ne (by decide)]; exact h232) (cC_s (fun s _ => by rw [zi_ne (by decide), zi_ne (by decide)]) hc1) (fun K hK hcK z => z_iinc1 d_X4_readRound_95 ki_1 rfl (z_goto d_X4_readRound_98 (by rw [nI_1]; exact ih hi12 K _ _ _ ((rd_n hJ hi12 (ckWG_8 (ckWG_w hG) hK) hv1 (g13 K hK) (g94 K hK) hcK).1 z)))) (fun K hK hcK z => hx K _ _ ((rd_n hJ hi12 (ckWG_8 (ckWG_w hG) hK) hv1 (g13 K hK) (g94 K hK) hcK).2 z)))
          | exact tail (flI I_23 5) (flC (chC 0 15 ci)) (by rw [(fr8_fl I_23 5).1 1 (by decide)]; exact h231) (by rw [(fr8_fl I_23 5).1 2 (by decide)]; exact h232) (cC_fl (by decide) hc1) (fun K _ _ z => absurd z (by rw [nx_fl, tk_fl]; decide)) (fun K hK hcK _ => hx K _ _ (rd_f hJ hi12 (ckWG_8 (ckWG_8 hG (fr8_fl I_23 5)) hK) (by rw [nx_fl] at hcK; exact hcK) (by rw [hK.1 9 (by decide), (fr8_fl I_23 5).1 9 (by decide), h94, hi12])))
      · have hi12 : i = 12 := by
          rcases Nat.lt_or_ge i 12 with q | q
          · exact absurd (nI_lt (a := i) (b := 12) q (by decide)) h_36
          · omega
        refine z_aload_n d_X4_readRound_39 rfl ?_
        refine z_iconst d_X4_readRound_40 ki_5 ?_
        refine z_aload_n d_X4_readRound_41 rfl ?_
        refine z_getI d_X4_readRound_42 f_X4_73 (by first | rfl | assumption) (by omega) ?_
        refine z_cVv d_X4_readRound_45 q_X4_readRound_85 (by first | rfl | assumption) (by omega) ⟨rfl, rfl⟩ (ct_X4_fail hR) rfl rfl rfl ⟨Nat.zero_le _, Nat.zero_le _⟩ ?_
        refine z_goto d_X4_readRound_48 ?_
        first
          | (have hlt12 := Nat.ne_of_lt hi12
             refine z_mem (I' := zi (zi I_23 13 i x) 9 4 (nI (i + 1))) (by rw [show zi I_23 13 i x 9 4 = nI i from h94, ← nI_succ]) rfl rfl ?_
             have g13 : ∀ K, fr8 (zi (zi I_23 13 i x) 9 4 (nI (i + 1))) K → K 13 = va_up (J 13) i x := fun K hK => by rw [hK.1 13 (by decide), zi_ne (by decide), zi_eq, hf.1 13 (by decide)]
             have g94 : ∀ K, fr8 (zi (zi I_23 13 i x) 9 4 (nI (i + 1))) K → K 9 4 = nI (i + 1) := fun K hK => by rw [hK.1 9 (by decide), zi_eq, up_eq]
             exact tail _ (chC 0 15 ci) (by rw [zi_ne (by decide), zi_ne (by decide)]; exact h231) (by rw [zi_ne (by decide), zi_ne (by decide)]; exact h232) (cC_s (fun s _ => by rw [zi_ne (by decide), zi_ne (by decide)]) hc1) (fun K hK hcK z => z_iinc1 d_X4_readRound_95 ki_1 rfl (z_goto d_X4_readRound_98 (by rw [nI_1]; exact ih hi12 K _ _ _ ((rd_n hJ hi12 (ckWG_8 (ckWG_w hG) hK) hv1 (g13 K hK) (g94 K hK) hcK).1 z)))) (fun K hK hcK z => hx K _ _ ((rd_n hJ hi12 (ckWG_8 (ckWG_w hG) hK) hv1 (g13 K hK) (g94 K hK) hcK).2 z)))
          | exact tail (flI I_23 5) (flC (chC 0 15 ci)) (by rw [(fr8_fl I_23 5).1 1 (by decide)]; exact h231) (by rw [(fr8_fl I_23 5).1 2 (by decide)]; exact h232) (cC_fl (by decide) hc1) (fun K _ _ z => absurd z (by rw [nx_fl, tk_fl]; decide)) (fun K hK hcK _ => hx K _ _ (rd_f hJ hi12 (ckWG_8 (ckWG_8 hG (fr8_fl I_23 5)) hK) (by rw [nx_fl] at hcK; exact hcK) (by rw [hK.1 9 (by decide), (fr8_fl I_23 5).1 9 (by decide), h94, hi12])))
  refine loop _ (fun J o1 o2 hJ => ?_) 0 (Nat.zero_le 12) I_1 (nxC (gB I) t c) (fun _ => 0) none ⟨⟨fun k a _ _ => hf0.1 k a, fun s _ => by rw [hf0.1 9 (by decide)], hf0.2⟩, hc0, by rw [hf0.1 9 (by decide)]; exact hn, fun _ j hj => absurd hj (by omega), rfl⟩
  exact z_return d_X4_readRound_101 rfl ⟨rfl, rfl, rfl, rfl, hJ⟩
