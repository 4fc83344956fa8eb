/-! THE CLOCK'S WORDS, AS THE REFERENCE READS THEM -/
abbrev ckRs (g : Nat → Int32) (t : Nat) (c : zCu) : zCu × Nat × (Nat → Int32) := ckWC g t 13 (nxC g t c) 0 (fun _ => 0)
def CkM (t : Nat) (g : Nat → Int32) (I : zI) (c : zCu) (i : Nat) (J : zI) (d : zCu) (w : Nat → Int32) : Prop := ((∀ k, k ≠ 64 → k ≠ 76 → J k = I k) ∧ (∀ s, (s < 12 ∨ (12 < s ∧ s < 18) ∨ 23 < s) → J 64 s = I 64 s)) ∧ cM t J d ∧ gdC t d ∧ (∃ n, n ≤ 12 ∧ J 64 12 = nI n) ∧ (isR d → i ≤ 12 ∧ J 64 12 = nI i ∧ ∀ j, j < i → J 76 j = w j) ∧ (tk3 d = true → ckWC g t (13 - i) d i w = ckRs g t c) ∧ (tk3 d = false → (ckRs g t c).1 = d ∧ (isR d → (ckRs g t c).2.1 = i ∧ (ckRs g t c).2.2 = w))
def qCk (t : Nat) (g : Nat → Int32) (I : zI) (c : zCu) (J : zI) : Prop := ((∀ k, k ≠ 64 → k ≠ 76 → J k = I k) ∧ (∀ s, (s < 12 ∨ (12 < s ∧ s < 18) ∨ 23 < s) → J 64 s = I 64 s)) ∧ cM t J (ckRs g t c).1 ∧ (∃ n, n ≤ 12 ∧ J 64 12 = nI n) ∧ (isR (ckRs g t c).1 → J 64 12 = nI (ckRs g t c).2.1 ∧ ∀ j, j < (ckRs g t c).2.1 → J 76 j = (ckRs g t c).2.2 j)
theorem tk3_R {c : zCu} (h : tk3 c = true) : isR c := by
  rcases c with p | u
  · cases h
  · exact ⟨u, rfl⟩
theorem ck_x {t i : Nat} {g : Nat → Int32} {I J : zI} {c d : zCu} {w : Nat → Int32} (h : CkM t g I c i J d w) (hk : tk3 d = false) : qCk t g I c J := by
  obtain ⟨h1, h2, h3, h4, h5, h6, h7⟩ := h
  obtain ⟨e1, e2⟩ := h7 hk
  refine ⟨h1, by rw [e1]; exact h2, h4, fun z => ?_⟩
  rw [e1] at z
  obtain ⟨a1, a2, a3⟩ := h5 z
  obtain ⟨b1, b2⟩ := e2 z
  rw [b1, b2]
  exact ⟨a2, a3⟩
theorem tkM {t : Nat} {J : zI} {d : zCu} (hc : cM t J d) (hg : gdC t d) : (J 64 22 = 0 → J 64 20 = 2 → tk3 d = true) ∧ ((¬ J 64 22 = 0 ∨ ¬ J 64 20 = 2) → tk3 d = false) := by
  rcases d with p | ⟨a, k, s, v⟩
  · refine ⟨fun z => ?_, fun _ => rfl⟩
    have := hc.1; rw [z] at this; exact absurd this (by decide)
  · obtain ⟨c1, c2, c3, c4, c5, c6⟩ := hc
    have hk : J 64 20 = 2 ↔ k = 3 := by
      constructor
      · intro z
        rw [z] at c3
        exact ((nI_eq (a := 3) (b := k) (by decide) (by have := hg.2.2.2.1; omega)).mp c3).symm
      · intro z
        have : J 64 20 + 1 = 2 + 1 := by rw [c3, z]; decide
        rw [← Int32.add_sub_cancel (J 64 20) 1, this]; decide
    refine ⟨fun _ z => ?_, fun z => ?_⟩
    · have := hk.mp z; subst this; rfl
    · have : k ≠ 3 := fun e => z.elim (fun w => w c1) (fun w => w (hk.mpr e))
      simp [tk3, this]
theorem ck_sF {t i p : Nat} {g : Nat → Int32} {I J K : zI} {c d d' : zCu} {w : Nat → Int32} (h : CkM t g I c i J d w) (hf : fr64 J K) (hc : cM t K d') (e : d' = .inl p) (hr : (ckRs g t c).1 = .inl p) : CkM t g I c (i + 1) K d' w := by
  obtain ⟨⟨h1, h1'⟩, h2, h3, ⟨n, hn, hn2⟩, h5, h6, h7⟩ := h
  subst e
  exact ⟨⟨fun k a b => (hf.1 k a).trans (h1 k a b), fun s hs => (hf.2 s (by omega)).trans (h1' s hs)⟩, hc, trivial, ⟨n, hn, by rw [hf.2 12 (by decide)]; exact hn2⟩, fun z => (isR_inl z).elim, (fun z => by cases z), fun _ => ⟨hr, fun z => (isR_inl z).elim⟩⟩
theorem cM_76 {t j : Nat} {K : zI} {x y : Int32} {d : zCu} (hc : cM t K d) : cM t (zi (zi K 76 j x) 64 12 y) d := by
  have e : ∀ s, s ≠ 12 → zi (zi K 76 j x) 64 12 y 64 s = K 64 s := fun s hs => by rw [zi_eq, va_up_ne _ _ hs, zi_ne (by decide)]
  rcases d with p | ⟨a, k, s, v⟩
  · exact ⟨by rw [e 22 (by decide)]; exact hc.1, by rw [e 23 (by decide)]; exact hc.2⟩
  · obtain ⟨c1, c2, c3, c4, c5, c6⟩ := hc
    exact ⟨by rw [e 22 (by decide)]; exact c1, by rw [e 18 (by decide)]; exact c2, by rw [e 20 (by decide)]; exact c3, by rw [e 19 (by decide)]; exact c4, fun z => by rw [e 21 (by decide)]; exact c5 z, c6⟩
theorem ck_sT {t i : Nat} {g : Nat → Int32} {I J K : zI} {c d : zCu} {w : Nat → Int32} {x : Int32} (ht : t ≤ 400) (hgn : ∀ j, j < t → ¬ g j < 0) (h : CkM t g I c i J d w) (hi : i < 12) (hk : tk3 d = true) (hf : fr64 J K) (hc : cM t K (nxC g t (chC 0 15 d))) (hr : isR (nxC g t (chC 0 15 d))) (hx : x = cv (chC 0 15 d)) : CkM t g I c (i + 1) (zi (zi K 76 i x) 64 12 (nI (i + 1))) (nxC g t (chC 0 15 d)) (va_up w i (cv (chC 0 15 d))) := by
  obtain ⟨⟨h1, h1'⟩, h2, h3, h4, h5, h6, h7⟩ := h
  have e : ckWC g t (13 - (i + 1) + 1) d i w = ckRs g t c := by rw [← h6 hk]; congr 1; omega
  have e0 : ckWC g t (13 - (i + 1) + 1) d i w = if tk3 (nxC g t (chC 0 15 d)) = true then ckWC g t (13 - (i + 1)) (nxC g t (chC 0 15 d)) (i + 1) (va_up w i (cv (chC 0 15 d))) else (nxC g t (chC 0 15 d), i + 1, va_up w i (cv (chC 0 15 d))) := by
    conv => lhs; unfold ckWC
    rw [if_pos hi]
  refine ⟨⟨fun k a b => ?_, fun s hs => ?_⟩, cM_76 hc, gd_nx ht hgn (gd_ch h3), ⟨i + 1, hi, by rw [zi_eq, up_eq]⟩, fun z => ⟨hi, by rw [zi_eq, up_eq], fun j hj => ?_⟩, fun z => ?_, fun z => ?_⟩
  · rw [zi_ne a, zi_ne b, hf.1 k a]; exact h1 k a b
  · rw [zi_eq, va_up_ne _ _ (by omega), zi_ne (by decide), hf.2 s (by omega)]; exact h1' s hs
  · rw [zi_ne (by decide), zi_eq]
    by_cases q : j = i
    · subst q; rw [up_eq, up_eq, hx]
    · rw [va_up_ne _ _ q, va_up_ne _ _ q, hf.1 76 (by decide)]
      exact (h5 (tk3_R hk)).2.2 j (by omega)
  · rw [← e, e0, if_pos z]
  · rw [if_neg (by rw [z]; decide)] at e0
    rw [← e, e0]
    exact ⟨rfl, fun _ => ⟨rfl, rfl⟩⟩
theorem ck_s0 {t : Nat} {g : Nat → Int32} {I K : zI} {c : zCu} {x : Int32} (ht : t ≤ 400) (hgn : ∀ j, j < t → ¬ g j < 0) (hg : gdC t c) (hf : fr64 (zi I 64 12 1) K) (hc : cM t K (nxC g t (chC 0 15 (nxC g t c)))) (hx : isR (chC 0 15 (nxC g t c)) → x = cv (chC 0 15 (nxC g t c))) : CkM t g I c 1 (zi K 76 0 x) (nxC g t (chC 0 15 (nxC g t c))) (va_up (fun _ => 0) 0 (cv (chC 0 15 (nxC g t c)))) := by
  have e0 : ckRs g t c = if tk3 (nxC g t (chC 0 15 (nxC g t c))) = true then ckWC g t 12 (nxC g t (chC 0 15 (nxC g t c))) 1 (va_up (fun _ => 0) 0 (cv (chC 0 15 (nxC g t c)))) else (nxC g t (chC 0 15 (nxC g t c)), 1, va_up (fun _ => 0) 0 (cv (chC 0 15 (nxC g t c)))) := by
    unfold ckRs
    conv => lhs; unfold ckWC
    rw [if_pos (by decide)]
  have e12 : K 64 12 = nI 1 := by rw [hf.2 12 (by decide), zi_eq, up_eq]; rfl
  have e64 : zi K 76 0 x 64 = K 64 := zi_ne (by decide)
  refine ⟨⟨fun k a b => ?_, fun s hs => ?_⟩, ?_, gd_nx ht hgn (gd_ch (gd_nx ht hgn hg)), ⟨1, by decide, by rw [e64]; exact e12⟩, fun z => ⟨by decide, by rw [e64]; exact e12, fun j hj => ?_⟩, fun z => ?_, fun z => ?_⟩
  · rw [zi_ne b, hf.1 k a, zi_ne a]
  · rw [e64, hf.2 s (by omega), zi_eq, va_up_ne _ _ (by omega)]
  · generalize nxC g t (chC 0 15 (nxC g t c)) = d at hc
    rcases d with p | ⟨a, k, s, v⟩
    · exact ⟨by rw [e64]; exact hc.1, by rw [e64]; exact hc.2⟩
    · obtain ⟨c1, c2, c3, c4, c5, c6⟩ := hc
      exact ⟨by rw [e64]; exact c1, by rw [e64]; exact c2, by rw [e64]; exact c3, by rw [e64]; exact c4, fun z => by rw [e64]; exact c5 z, c6⟩
  · have : j = 0 := by omega
    subst this
    rw [zi_eq, up_eq, up_eq]
    exact hx (isR_nx z)
  · rw [e0, if_pos z]
  · rw [e0, if_neg (by rw [z]; decide)]
    exact ⟨rfl, fun _ => ⟨rfl, rfl⟩⟩
theorem fl_ch {lo hi : Int32} {d : zCu} : flC (chC lo hi d) = flC d := by
  rcases d with p | ⟨a, k, s, v⟩
  · rfl
  · by_cases q : k = 3 ∧ ¬ v < lo ∧ v ≤ hi
    · have e : chC lo hi (.inr (a, k, s, v)) = .inr (a, k, s, v) := if_pos q
      rw [e]
    · have e : chC lo hi (.inr (a, k, s, v)) = .inl s := if_neg q
      rw [e]; rfl
theorem ch_fl {lo hi : Int32} {d : zCu} : chC lo hi (flC d) = flC d := by rcases d with p | ⟨a, k, s, v⟩ <;> rfl
theorem ck_r {t i p : Nat} {g : Nat → Int32} {I J : zI} {c d : zCu} {w : Nat → Int32} (h : CkM t g I c i J d w) (hi : i < 12) (hk : tk3 d = true) (e : nxC g t (chC 0 15 d) = .inl p) : (ckRs g t c).1 = .inl p := by
  rw [← h.2.2.2.2.2.1 hk, show 13 - i = 12 - i + 1 by omega]
  unfold ckWC
  rw [if_pos hi, e, if_neg (by show ¬ false = true; decide)]
theorem ck_r12 {t : Nat} {g : Nat → Int32} {I J : zI} {c d : zCu} {w : Nat → Int32} (h : CkM t g I c 12 J d w) (hk : tk3 d = true) : (ckRs g t c).1 = flC d := by
  rw [← h.2.2.2.2.2.1 hk]
  show (ckWC g t 1 d 12 w).1 = _
  unfold ckWC
  rw [if_neg (by decide)]
  exact fl_ch
set_option maxRecDepth 100000 in
set_option maxHeartbeats 4000000 in
theorem ct_X8_readClock {E : zE} {I : zI} {L : zL} {R : zR} {t : Nat} {g : Nat → Int32} {c : zCu} (hR : zLx R) (h17 : I 64 17 = nI t) (ht : t ≤ 400) (h77 : ∀ j, j < t → I 77 j = g j) (hgn : ∀ j, j < t → ¬ g j < 0) (hc : cM t I (nxC g t c)) (hg : gdC t c) : zCt E m_X8_readClock zShF [.ref 64] I L R (fun r1 Sh1 I1 L1 R1 => r1 = none ∧ Sh1 = zShF ∧ L1 = L ∧ R1 = R ∧ qCk t g I c I1) := by
  have hc0 : cM t (zi I 64 12 1) (nxC g t c) := by
    have := cM_76 (j := 0) (x := I 76 0) (y := 1) hc
    rw [zi_id rfl] at this
    exact this
  refine z_met (by decide) [some (.ref 64), none] rfl rfl (Nat.le_of_ble_eq_true rfl) (fun X => ?_)
  refine z_aload_n d_X8_readClock_0 rfl ?_
  refine z_iconst d_X8_readClock_1 ki_1 ?_
  refine z_putI d_X8_readClock_2 f_X8_78 p_X8_12 (by first | rfl | assumption) (by omega) ?_
  refine z_aload_n d_X8_readClock_5 rfl ?_
  refine z_getR d_X8_readClock_6 f_X8_45 (by first | rfl | assumption) (by omega) (by first | exact hR _ _ _ rfl | rfl | assumption) ?_
  refine z_iconst d_X8_readClock_9 ki_0 ?_
  refine z_aload_n d_X8_readClock_10 rfl ?_
  refine z_iconst d_X8_readClock_11 ki_0 ?_
  refine z_bipush d_X8_readClock_12 kb_15 ?_
  refine z_rV d_X8_readClock_14 q_X8_readClock_152 (by first | rfl | assumption) (by omega) ⟨rfl, rfl⟩ (ct_X8_readNumber (t := t) (g := g) (c := nxC g t c) hR (show zi I 64 12 1 64 17 = nI t from h17) ht (fun j hj => by rw [zi_ne (by decide)]; exact h77 j hj) hc0 (gd_nx ht hgn hg)) rfl rfl rfl ⟨Nat.zero_le _, Nat.zero_le _⟩ (fun r_14 Sh_14 I_14 L_14 R_14 hq_14 => ?_)
  obtain ⟨x, rfl, rfl, rfl, rfl, hf, hc1, hx1⟩ := hq_14
  refine z_iastore d_X8_readClock_17 (by first | rfl | assumption) (by omega) (zix_lit 0 (by decide)) ?_
  have loop : ∀ (Qs : State → Prop), (∀ J o, qCk t g I c J → zZ E m_X8_readClock X Qs zShF 0 0 90 [some (.ref 64), o] [] J L_14 R_14) → ∀ i, i ≤ 13 → ∀ J d w o, CkM t g I c i J d w → zZ E m_X8_readClock X Qs zShF 0 0 18 [some (.ref 64), o] [] J L_14 R_14 := by
    intro Qs hx
    refine up_rec (fun i hi' ih J d w o hJ => ?_)
    have hJ17 : J 64 17 = nI t := by rw [hJ.1.2 17 (by decide)]; exact h17
    have hJ77 : ∀ j, j < t → J 77 j = g j := fun j hj => by rw [hJ.1.1 77 (by decide) (by decide)]; exact h77 j hj
    have htk := tkM hJ.2.1 hJ.2.2.1
    refine z_aload_n d_X8_readClock_18 rfl ?_
    refine z_getI d_X8_readClock_19 f_X8_107 (by first | rfl | assumption) (by omega) ?_
    refine z_if_ne d_X8_readClock_22 (fun h_22 => ?_) (fun h_22 => ?_)
    · exact hx J _ (ck_x hJ (htk.2 (Or.inl h_22)))
    · refine z_aload_n d_X8_readClock_25 rfl ?_
      refine z_getI d_X8_readClock_26 f_X8_127 (by first | rfl | assumption) (by omega) ?_
      refine z_iconst d_X8_readClock_29 ki_2 ?_
      refine z_icmp_ne d_X8_readClock_30 (fun h_30 => ?_) (fun h_30 => ?_)
      · exact hx J _ (ck_x hJ (htk.2 (Or.inr h_30)))
      · have hk := htk.1 h_22 h_30
        obtain ⟨hi12, h12, hJw⟩ := hJ.2.2.2.2.1 (tk3_R hk)
        refine z_aload_n d_X8_readClock_33 rfl ?_
        refine z_aload_n d_X8_readClock_34 rfl ?_
        refine z_getI d_X8_readClock_35 f_X8_78 (by first | rfl | assumption) (by omega) ?_
        refine z_bipush d_X8_readClock_38 kb_12 ?_
        rw [h12]
        refine z_icmp_ge d_X8_readClock_40 (fun h_40 => ?_) (fun h_40 => ?_)
        · have h12e : i = 12 := by
            have := (nI_leI (a := 12) (b := i) (by decide) (by omega)).mp h_40
            omega
          obtain ⟨M, dd, hnd, hfM, hcM, hgM, hdd, hres⟩ : ∃ (M : zI) (dd : zCu), zCf E m_X8_needs zShF [.ref 64, .int 0, .int 5] J L_14 R_14 none M L_14 R_14 ∧ fr64 J M ∧ cM t M dd ∧ gdC t dd ∧ (isR dd → i < 12 ∧ dd = d) ∧ ∀ p, nxC g t (chC 0 15 dd) = .inl p → (ckRs g t c).1 = .inl p := ⟨_, flC d, nd_f (g := false) hR rfl h_22, fr64_fl, cM_fl (by decide) hJ.2.1 h_22, gd_fl, fun z => (isR_fl z).elim, fun p e => by rw [ch_fl, nx_fl] at e; rw [ck_r12 (show CkM t g I c 12 J d w from h12e ▸ hJ) hk, e]⟩
          refine z_iconst d_X8_readClock_47 ki_0 ?_
          refine z_iconst d_X8_readClock_48 ki_5 ?_
          refine z_cVv d_X8_readClock_49 q_X8_readClock_141 (by first | rfl | assumption) (by omega) ⟨rfl, rfl⟩ (hnd) rfl rfl rfl ⟨Nat.zero_le _, Nat.zero_le _⟩ ?_
          obtain ⟨hM17, hM77⟩ := h17_c hfM hJ17 hJ77
          refine z_aload_n d_X8_readClock_52 rfl ?_
          refine z_iconst d_X8_readClock_53 ki_0 ?_
          refine z_bipush d_X8_readClock_54 kb_15 ?_
          refine z_rV d_X8_readClock_56 q_X8_readClock_152 (by first | rfl | assumption) (by omega) ⟨rfl, rfl⟩ (ct_X8_readNumber hR hM17 ht hM77 hcM hgM) rfl rfl rfl ⟨Nat.zero_le _, Nat.zero_le _⟩ (fun r_56 Sh_56 I_56 L_56 R_56 hq_56 => ?_)
          obtain ⟨y, rfl, rfl, rfl, rfl, hf2, hc2, hy⟩ := hq_56
          refine z_istore1 d_X8_readClock_59 rfl ?_
          refine z_aload_n d_X8_readClock_60 rfl ?_
          refine z_getI d_X8_readClock_61 f_X8_107 (by first | rfl | assumption) (by omega) ?_
          refine z_if_ne d_X8_readClock_64 (fun h_64 => ?_) (fun h_64 => ?_)
          · obtain ⟨p, e⟩ := cM_n hc2 h_64
            refine z_goto d_X8_readClock_87 ?_
            exact ih (by omega) _ _ w _ (ck_sF hJ (fr64_tr hfM hf2) hc2 e (hres p e))
          · have hr2 := cM_z hc2 h_64
            obtain ⟨hi11, rfl⟩ := hdd (isR_ch (isR_nx hr2))
            have hK12 : I_56 64 12 = nI i := by rw [(fr64_tr hfM hf2).2 12 (by decide)]; exact h12
            refine z_aload_n d_X8_readClock_67 rfl ?_
            refine z_getR d_X8_readClock_68 f_X8_45 (by first | rfl | assumption) (by omega) (by first | exact hR _ _ _ rfl | rfl | assumption) ?_
            refine z_aload_n d_X8_readClock_71 rfl ?_
            refine z_getI d_X8_readClock_72 f_X8_78 (by first | rfl | assumption) (by omega) ?_
            refine z_iload_n d_X8_readClock_75 rfl ?_
            rw [hK12]
            refine z_iastore d_X8_readClock_76 (by first | rfl | assumption) (by omega) (zix_nI hi11 (by decide)) ?_
            refine z_aload_n d_X8_readClock_77 rfl ?_
            refine z_dup d_X8_readClock_78 rfl ?_
            refine z_getI d_X8_readClock_79 f_X8_78 (by first | rfl | assumption) (by omega) ?_
            refine z_iconst d_X8_readClock_82 ki_1 ?_
            refine z_iadd d_X8_readClock_83 ?_
            refine z_putI d_X8_readClock_84 f_X8_78 p_X8_12 (by first | rfl | assumption) (by omega) ?_
            refine z_goto d_X8_readClock_87 ?_
            refine z_mem (I' := zi (zi I_56 76 i y) 64 12 (nI (i + 1))) (by rw [show zi I_56 76 i y 64 12 = nI i from hK12, ← nI_succ]) rfl rfl ?_
            exact ih (by omega) _ _ _ _ (ck_sT ht hgn hJ hi11 hk (fr64_tr hfM hf2) hc2 hr2 (hy (isR_nx hr2)))
        · have hi11 : i < 12 := Nat.lt_of_not_le (fun z => h_40 ((nI_leI (a := 12) (b := i) (by decide) (by omega)).mpr z))
          obtain ⟨M, dd, hnd, hfM, hcM, hgM, hdd, hres⟩ : ∃ (M : zI) (dd : zCu), zCf E m_X8_needs zShF [.ref 64, .int 1, .int 5] J L_14 R_14 none M L_14 R_14 ∧ fr64 J M ∧ cM t M dd ∧ gdC t dd ∧ (isR dd → i < 12 ∧ dd = d) ∧ ∀ p, nxC g t (chC 0 15 dd) = .inl p → (ckRs g t c).1 = .inl p := ⟨_, d, nd_t (g := true) hR rfl, fr64_rf J, hJ.2.1, hJ.2.2.1, fun _ => ⟨hi11, rfl⟩, fun p e => ck_r hJ hi11 hk e⟩
          refine z_iconst d_X8_readClock_43 ki_1 ?_
          refine z_goto d_X8_readClock_44 ?_
          refine z_iconst d_X8_readClock_48 ki_5 ?_
          refine z_cVv d_X8_readClock_49 q_X8_readClock_141 (by first | rfl | assumption) (by omega) ⟨rfl, rfl⟩ (hnd) rfl rfl rfl ⟨Nat.zero_le _, Nat.zero_le _⟩ ?_
          obtain ⟨hM17, hM77⟩ := h17_c hfM hJ17 hJ77
          refine z_aload_n d_X8_readClock_52 rfl ?_
          refine z_iconst d_X8_readClock_53 ki_0 ?_
          refine z_bipush d_X8_readClock_54 kb_15 ?_
          refine z_rV d_X8_readClock_56 q_X8_readClock_152 (by first | rfl | assumption) (by omega) ⟨rfl, rfl⟩ (ct_X8_readNumber hR hM17 ht hM77 hcM hgM) rfl rfl rfl ⟨Nat.zero_le _, Nat.zero_le _⟩ (fun r_56 Sh_56 I_56 L_56 R_56 hq_56 => ?_)
          obtain ⟨y, rfl, rfl, rfl, rfl, hf2, hc2, hy⟩ := hq_56
          refine z_istore1 d_X8_readClock_59 rfl ?_
          refine z_aload_n d_X8_readClock_60 rfl ?_
          refine z_getI d_X8_readClock_61 f_X8_107 (by first | rfl | assumption) (by omega) ?_
          refine z_if_ne d_X8_readClock_64 (fun h_64 => ?_) (fun h_64 => ?_)
          · obtain ⟨p, e⟩ := cM_n hc2 h_64
            refine z_goto d_X8_readClock_87 ?_
            exact ih (by omega) _ _ w _ (ck_sF hJ (fr64_tr hfM hf2) hc2 e (hres p e))
          · have hr2 := cM_z hc2 h_64
            obtain ⟨hi11, rfl⟩ := hdd (isR_ch (isR_nx hr2))
            have hK12 : I_56 64 12 = nI i := by rw [(fr64_tr hfM hf2).2 12 (by decide)]; exact h12
            refine z_aload_n d_X8_readClock_67 rfl ?_
            refine z_getR d_X8_readClock_68 f_X8_45 (by first | rfl | assumption) (by omega) (by first | exact hR _ _ _ rfl | rfl | assumption) ?_
            refine z_aload_n d_X8_readClock_71 rfl ?_
            refine z_getI d_X8_readClock_72 f_X8_78 (by first | rfl | assumption) (by omega) ?_
            refine z_iload_n d_X8_readClock_75 rfl ?_
            rw [hK12]
            refine z_iastore d_X8_readClock_76 (by first | rfl | assumption) (by omega) (zix_nI hi11 (by decide)) ?_
            refine z_aload_n d_X8_readClock_77 rfl ?_
            refine z_dup d_X8_readClock_78 rfl ?_
            refine z_getI d_X8_readClock_79 f_X8_78 (by first | rfl | assumption) (by omega) ?_
            refine z_iconst d_X8_readClock_82 ki_1 ?_
            refine z_iadd d_X8_readClock_83 ?_
            refine z_putI d_X8_readClock_84 f_X8_78 p_X8_12 (by first | rfl | assumption) (by omega) ?_
            refine z_goto d_X8_readClock_87 ?_
            refine z_mem (I' := zi (zi I_56 76 i y) 64 12 (nI (i + 1))) (by rw [show zi I_56 76 i y 64 12 = nI i from hK12, ← nI_succ]) rfl rfl ?_
            exact ih (by omega) _ _ _ _ (ck_sT ht hgn hJ hi11 hk (fr64_tr hfM hf2) hc2 hr2 (hy (isR_nx hr2)))
  refine loop _ (fun J o hJ => ?_) 1 (by decide) _ _ _ _ (ck_s0 ht hgn hg hf hc1 hx1)
  exact z_return d_X8_readClock_90 rfl ⟨rfl, rfl, rfl, rfl, hJ⟩
