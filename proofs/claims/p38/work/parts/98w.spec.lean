/-! TEXT OF THE REFERENCE -/
theorem ct_rl {E : zE} {I : zI} {L : zL} {R : zR} {t a k s : Nat} {v : Int32} {g : Nat → Int32} {D : zDr} (hR : zLx R) (h17 : I 64 17 = nI t) (ht : t ≤ 400) (h77 : ∀ j, j < t → I 77 j = g j) (hgn : ∀ j, j < t → ¬ g j < 0) (hc : cM t I (.inr (a, k, s, v))) (hg : gdC t (.inr (a, k, s, v))) (hD : dM I D) (hok : okD D) : zCt E m_X8_readLine zShF [.ref 64] I L R (fun r1 Sh1 I1 L1 R1 => r1 = none ∧ Sh1 = zShF ∧ L1 = L ∧ R1 = R ∧ qMd t I I1 (nxC g t (ln g t (.inr (a, k, s, v)) D).1) (ln g t (.inr (a, k, s, v)) D).2) := by
  by_cases hk : k = 2
  · subst hk
    have hle : kd g t s a ≤ 10 := kd_le
    by_cases hb : bdC (kd g t s a) D
    · rcases hb with z | ⟨z1, z2⟩ | ⟨z1, z2⟩
      · exact ct_rlA hR h17 ht h77 hc hg hD hok z
      · exact ct_rlB hR h17 ht h77 hc hg hD hok z1 z2
      · by_cases q : kd g t s a = 10
        · exact ct_rlA hR h17 ht h77 hc hg hD hok q
        · exact ct_rlC hR h17 ht h77 hc hg hD hok rfl z1 (by omega) z2
    · exact ct_rlD hR h17 ht h77 hgn hc hg hD hok rfl (by
        rcases Nat.lt_or_ge (kd g t s a) 10 with q | q
        · exact q
        · exact absurd (Or.inl (show kd g t s a = 10 by omega)) hb) hb
  · exact ct_rlN hR hc hg hD hok hk
def LM (t : Nat) (g : Nat → Int32) (I : zI) (i : Nat) (c : zCu) (D : zDr) (J : zI) : Prop := qMd t I J c D ∧ gdC t c ∧ (isR c → okD D) ∧ (goC c = true → i + 1 ≤ posC c) ∧ lp g t (400 - i) c D i = lpA g t
abbrev fd0 (I : zI) : zI := fdD (zi (zi I 64 22 0) 64 18 0)
theorem dM_0 {I : zI} : dM (fd0 I) dr0 := by
  refine ⟨fun j hj => ?_, fun j hj => ?_, fun j hj => ?_, fun j hj => ?_, ⟨rfl, fun j hj => absurd hj (Nat.not_lt_zero _)⟩, rfl, 0, by decide, rfl, fun k h1 h2 => ?_⟩
  · show zcp r0V (I 72) 7 j = fr0 j
    rcases (show j = 0 ∨ j = 1 ∨ j = 2 ∨ j = 3 ∨ j = 4 ∨ j = 5 ∨ j = 6 by omega) with rfl | rfl | rfl | rfl | rfl | rfl | rfl <;> rfl
  · show zfill (I 74) 48 0 j = 0
    exact if_pos hj
  · show zfill (I 75) 48 0 j = 0
    exact if_pos hj
  · show zfill (I 73) 48 0 j = 0
    exact if_pos hj
  · show (0 : Nat).testBit k = false
    exact Nat.zero_testBit k
theorem frE_fd {I : zI} : frE I (fd0 I) := by
  refine ⟨fun k hk => ?_, fun s hs => ?_⟩
  · unfold fd0 fdD
    rw [zi_ne (by omega), zi_ne (by omega), zi_ne (by omega), va_up_ne _ _ (by omega), va_up_ne _ _ (by omega), va_up_ne _ _ (by omega), va_up_ne _ _ (by omega), zi_ne (by omega), zi_ne (by omega)]
  · have e : fd0 I 64 = va_up (va_up (va_up (va_up (va_up (I 64) 22 0) 18 0) 12 0) 14 0) 15 0 := rfl
    rw [e, va_up_ne _ _ (by omega), va_up_ne _ _ (by omega), va_up_ne _ _ (by omega), va_up_ne _ _ (by omega), va_up_ne _ _ (by omega)]
theorem LM_0 {t : Nat} {g : Nat → Int32} {I J : zI} (ht : t ≤ 400) (hgn : ∀ j, j < t → ¬ g j < 0) (hf : fr64 (fd0 I) J) (hc : cM t J (nxC g t c00)) : LM t g I 0 (nxC g t c00) dr0 J := by
  refine ⟨⟨frE_64 frE_fd hf, hc, ⟨0, by decide, by rw [hf.2 12 (by decide)]; rfl⟩, fun _ => dM_64 hf dM_0⟩, nx_gd ht hgn (fun a k s v e => by
    have e' : (.inr (0, 0, 0, 0) : zCu) = .inr (a, k, s, v) := e
    cases e'; exact Nat.zero_le _), fun _ => ok_0, fun z => ?_, rfl⟩
  have a1 : 0 < posC (nxC g t c00) := (nx_adv ht (goC_ki z).2).2 (goC_ki z).1
  omega
theorem LM_s {t i : Nat} {g : Nat → Int32} {I J J1 : zI} {c : zCu} {D : zDr} (ht : t ≤ 400) (hgn : ∀ j, j < t → ¬ g j < 0) (h : LM t g I i c D J) (hgo : goC c = true) (hi : i < 400) (h1 : qMd t J J1 (nxC g t (ln g t c D).1) (ln g t c D).2) (hgl : gdC t (ln g t c D).1) : LM t g I (i + 1) (nxC g t (ln g t c D).1) (ln g t c D).2 J1 := by
  obtain ⟨⟨q1, q2, q3, q4⟩, hg, hok, hp, hl⟩ := h
  refine ⟨⟨⟨fun k hk => (h1.1.1 k hk).trans (q1.1 k hk), fun s hs => (h1.1.2 s hs).trans (q1.2 s hs)⟩, h1.2.1, h1.2.2.1, h1.2.2.2⟩, gd_nx ht hgn hgl, fun z => ok_ln ht (hok (goC_ki hgo).2) (isR_nx z), fun z => ?_, ?_⟩
  · have a1 := (nx_adv ht (goC_ki z).2).2 (goC_ki z).1
    have a2 := ln_adv ht (isR_nx (goC_ki z).2)
    have a3 := hp hgo
    omega
  · rw [← hl, lp_go hgo hi]
theorem gd_ln {t : Nat} {g : Nat → Int32} {c : zCu} {D : zDr} (ht : t ≤ 400) (hgn : ∀ j, j < t → ¬ g j < 0) (hg : gdC t c) : gdC t (ln g t c D).1 := by
  cases q : (ln g t c D).1 with
  | inl p => trivial
  | inr u =>
    obtain ⟨K, hK, -, e, -, hr⟩ := ln_R (g := g) (t := t) (c := c) (D := D) ⟨u, q⟩
    rw [← q, e]
    exact gd_b ht hgn hg hK
theorem goM_f {t : Nat} {J : zI} {c : zCu} (hc : cM t J c) (hg : gdC t c) (h : ¬ J 64 22 = 0 ∨ J 64 20 = 0) : goC c = false := by
  rcases c with p | ⟨a, k, s, v⟩
  · rfl
  · have h2 : J 64 20 = 0 := h.elim (fun z => absurd hc.1 z) (fun z => z)
    have : k = 1 := (srt hc hg 1 0 (by decide) (by decide)).mp h2
    show (!decide (k = 1)) = false
    rw [decide_eq_true this]; rfl
theorem goM_t {t : Nat} {J : zI} {c : zCu} (hc : cM t J c) (hg : gdC t c) (h1 : J 64 22 = 0) (h2 : ¬ J 64 20 = 0) : ∃ a k s v, c = .inr (a, k, s, v) ∧ goC (.inr (a, k, s, v)) = true := by
  rcases c with p | ⟨a, k, s, v⟩
  · have := hc.1; rw [h1] at this; exact absurd this (by decide)
  · refine ⟨a, k, s, v, rfl, ?_⟩
    show (!decide (k = 1)) = true
    rw [decide_eq_false (fun z => h2 ((srt hc hg 1 0 (by decide) (by decide)).mpr z))]; rfl
def nbB (J : zI) (j : Nat) : Bool := decide (J 72 6 = 4) || decide (J 76 j < 8)
def anN (J : zI) : Nat → Bool
  | 0 => false
  | i + 1 => anN J i || !(nbB J i)
def ndT (J : zI) : zI := if J 64 22 = 0 then zi (zi J 64 22 6) 64 23 (J 64 19) else J
def lkM (J : zI) (i : Nat) : zI := if anN J i = true then ndT J else J
theorem ndT_k {J : zI} {k : Nat} (h : k ≠ 64) : ndT J k = J k := by
  unfold ndT
  by_cases q : J 64 22 = 0
  · rw [if_pos q, zi_ne h, zi_ne h]
  · rw [if_neg q]
theorem ndT_s {J : zI} {s : Nat} (h : s ≠ 22 ∧ s ≠ 23) : ndT J 64 s = J 64 s := by
  unfold ndT
  by_cases q : J 64 22 = 0
  · rw [if_pos q, zi_eq, va_up_ne _ _ h.2, zi_eq, va_up_ne _ _ h.1]
  · rw [if_neg q]
theorem lkM_k {J : zI} {i k : Nat} (h : k ≠ 64) : lkM J i k = J k := by
  unfold lkM
  by_cases q : anN J i = true
  · rw [if_pos q, ndT_k h]
  · rw [if_neg q]
theorem lkM_s {J : zI} {i s : Nat} (h : s ≠ 22 ∧ s ≠ 23) : lkM J i 64 s = J 64 s := by
  unfold lkM
  by_cases q : anN J i = true
  · rw [if_pos q, ndT_s h]
  · rw [if_neg q]
theorem ndT_0 {J : zI} : ¬ ndT J 64 22 = 0 := by
  unfold ndT
  by_cases q : J 64 22 = 0
  · rw [if_pos q]; show ¬ (6 : Int32) = 0; decide
  · rw [if_neg q]; exact q
theorem lkM_t {J : zI} {j : Nat} (h : nbB J j = true) : lkM J (j + 1) = lkM J j := by
  have e : anN J (j + 1) = anN J j := by show (anN J j || !(nbB J j)) = _; rw [h]; simp
  unfold lkM
  rw [e]
theorem lkM_f {J : zI} {j : Nat} (h : nbB J j = false) : (if false = false ∧ lkM J j 64 22 = 0 then zi (zi (lkM J j) 64 22 6) 64 23 (lkM J j 64 19) else lkM J j) = lkM J (j + 1) := by
  have e : lkM J (j + 1) = ndT J := by
    unfold lkM
    rw [if_pos (by show (anN J j || !(nbB J j)) = true; rw [h]; simp)]
  rw [e]
  by_cases q : anN J j = true
  · have e1 : lkM J j = ndT J := by unfold lkM; rw [if_pos q]
    rw [e1, if_neg (fun z => ndT_0 z.2)]
  · have e1 : lkM J j = J := by unfold lkM; rw [if_neg q]
    rw [e1]
    unfold ndT
    by_cases z : J 64 22 = 0
    · rw [if_pos ⟨rfl, z⟩, if_pos z]
    · rw [if_neg (fun y => z y.2), if_neg z]
def cEM (J : zI) (fc : zCu) (D : zDr) : Prop := match fc with
  | .inl p => 0 < J 64 22 ∧ J 64 23 = nI p
  | .inr _ => J 64 22 = 0 ∧ dM J D ∧ okD D ∧ wdO D
theorem lt78 {x : Int32} : (7 < x) ↔ ¬ x < 8 := by
  rw [Int32.lt_iff_toInt_lt, Int32.lt_iff_toInt_lt, show (7 : Int32).toInt = 7 by decide, show (8 : Int32).toInt = 8 by decide]
  omega
theorem anN_w {J : zI} (h : ¬ J 72 6 = 4) : ∀ n, anN J n = anyW (J 76) n
  | 0 => rfl
  | n + 1 => by
    show (anN J n || !(nbB J n)) = (anyW (J 76) n || decide (7 < J 76 n))
    rw [anN_w h n]
    congr 1
    unfold nbB
    rw [decide_eq_false h, Bool.false_or]
    by_cases q : J 76 n < 8
    · rw [decide_eq_true q, decide_eq_false (fun z => lt78.mp z q)]; rfl
    · rw [decide_eq_false q, decide_eq_true (lt78.mpr q)]; rfl
theorem anN_4 {J : zI} (h : J 72 6 = 4) : ∀ n, anN J n = false
  | 0 => rfl
  | n + 1 => by
    show (anN J n || !(nbB J n)) = false
    rw [anN_4 h n]
    unfold nbB
    rw [decide_eq_true h]; rfl
theorem lkM_fin {t n : Nat} {I J : zI} {c : zCu} {D : zDr} (hq : qMd t I J c D) (hg : gdC t c) (hgo : goC c = false) (hok : isR c → okD D) (hn : n ≤ 12) (h12 : J 64 12 = nI n) : frE I (lkM J n) ∧ cEM (lkM J n) (fnC t c D) D := by
  obtain ⟨q1, q2, q3, q4⟩ := hq
  refine ⟨⟨fun k hk => (lkM_k (by omega)).trans (q1.1 k hk), fun s hs => (lkM_s (by omega)).trans (q1.2 s hs)⟩, ?_⟩
  rcases c with p | ⟨a, k, s, v⟩
  · have h0 : ¬ J 64 22 = 0 := fun z => by have := q2.1; rw [z] at this; exact absurd this (by decide)
    have e : ndT J = J := by unfold ndT; rw [if_neg h0]
    have e2 : lkM J n = J := by unfold lkM; rw [e, ite_self]
    rw [e2]
    exact q2
  · have hd := q4 ⟨_, rfl⟩
    have hkD := hok ⟨_, rfl⟩
    have hk1 : k = 1 := by
      have z : (!decide (k = 1)) = false := hgo
      by_cases q : k = 1
      · exact q
      · rw [decide_eq_false q] at z; cases z
    have hst : s = t := hg.2.2.2.2 hk1
    have en : n = drN D := (nI_eq (by omega) (by have := hkD.2.2.1.1; omega)).mp (h12.symm.trans hd.2.2.2.2.1.1)
    have e6 : J 72 6 = drRu D 6 := hd.1 6 (by decide)
    have ew : anyW (J 76) n = anyW (drW D) (drN D) := by rw [en]; exact anyW_c _ hd.2.2.2.2.1.2
    have h34 : drRu D 6 = 3 ∨ drRu D 6 = 4 := by
      have := hkD.1.2.2.2.2.2.2
      rcases (show (drRu D 6).toInt = 3 ∨ (drRu D 6).toInt = 4 by have a1 := this.1; have a2 := this.2; omega) with z | z
      · exact Or.inl (Int32.toInt_inj.mp (by rw [z]; decide))
      · exact Or.inr (Int32.toInt_inj.mp (by rw [z]; decide))
    show cEM (lkM J n) (if drRu D 6 = 3 ∧ anyW (drW D) (drN D) = true then .inl t else .inr (a, k, s, v)) D
    by_cases z : drRu D 6 = 3 ∧ anyW (drW D) (drN D) = true
    · rw [if_pos z]
      have e : lkM J n = zi (zi J 64 22 6) 64 23 (J 64 19) := by
        unfold lkM ndT
        rw [if_pos (by rw [anN_w (by rw [e6, z.1]; decide) n, ew]; exact z.2), if_pos q2.1]
      rw [e]
      refine ⟨show (0 : Int32) < 6 by decide, ?_⟩
      show J 64 19 = nI t
      rw [q2.2.2.2.1, hst]
    · rw [if_neg z]
      have e : lkM J n = J := by
        unfold lkM
        rw [if_neg]
        rcases h34 with y | y
        · rw [anN_w (by rw [e6, y]; decide) n, ew]
          exact fun w => z ⟨y, w⟩
        · rw [anN_4 (by rw [e6, y]) n]; decide
      rw [e]
      exact ⟨q2.1, hd, hkD, z⟩
theorem anM_1 {J : zI} {fc : zCu} {D : zDr} {m : Nat} (h : cEM J fc D) (h0 : J 64 22 ≤ 0) : anC fc m = nI m ∧ J 64 22 = 0 := by
  rcases fc with p | u
  · exact absurd h.1 (Int32.not_lt.mpr h0)
  · exact ⟨rfl, h.1⟩
theorem anM_2 {J : zI} {fc : zCu} {D : zDr} {m : Nat} (h : cEM J fc D) (h0 : ¬ J 64 22 ≤ 0) : anC fc m = -10 - J 64 23 ∧ 0 < J 64 22 := by
  rcases fc with p | u
  · exact ⟨by rw [h.2]; rfl, h.1⟩
  · exact absurd (show J 64 22 ≤ 0 by rw [h.1]; decide) h0
def qMT (t : Nat) (g : Nat → Int32) (I : zI) (L : zL) (R : zR) : Option Value → zSh → zI → zL → zR → Prop := fun r Sh1 I1 L1 R1 => r = some (.int (anC (fcA g t) (lpA g t).2.2)) ∧ Sh1 = zShF ∧ R1 = R ∧ ∃ J, frE I J ∧ cEM J (fcA g t) (lpA g t).2.1 ∧ ((0 < J 64 22 ∧ I1 = zi J 64 17 0 ∧ L1 = L) ∨ (J 64 22 = 0 ∧ I1 = kdI (zi J 64 17 0) ∧ L1 = kdL L))
set_option maxRecDepth 100000 in
set_option maxHeartbeats 4000000 in
theorem ct_X8_text {E : zE} {I : zI} {L : zL} {R : zR} {t : Nat} {g : Nat → Int32} (hR : zLx R) (h17 : I 64 17 = nI t) (ht : t ≤ 400) (h77 : ∀ j, j < t → I 77 j = g j) (hgn : ∀ j, j < t → ¬ g j < 0) : zCt E m_X8_text zShF [.ref 64] I L R (qMT t g I L R) := by
  refine z_met (by decide) [some (.ref 64), none, none] rfl rfl (Nat.le_of_ble_eq_true rfl) (fun X => ?_)
  refine z_iconst d_X8_text_0 ki_0 ?_
  refine z_istore1 d_X8_text_1 rfl ?_
  refine z_aload_n d_X8_text_2 rfl ?_
  refine z_iconst d_X8_text_3 ki_0 ?_
  refine z_putI d_X8_text_4 f_X8_107 p_X8_22 (by first | rfl | assumption) (by omega) ?_
  refine z_aload_n d_X8_text_7 rfl ?_
  refine z_iconst d_X8_text_8 ki_0 ?_
  refine z_putI d_X8_text_9 f_X8_116 p_X8_18 (by first | rfl | assumption) (by omega) ?_
  refine z_aload_n d_X8_text_12 rfl ?_
  refine z_cVv d_X8_text_13 q_X8_text_72 (by first | rfl | assumption) (by omega) ⟨rfl, rfl⟩ (ct_X8_firstDraft ⟨hR _ _ _ rfl, hR _ _ _ rfl, hR _ _ _ rfl, hR _ _ _ rfl⟩) rfl rfl rfl ⟨Nat.zero_le _, Nat.zero_le _⟩ ?_
  refine z_aload_n d_X8_text_16 rfl ?_
  refine z_rV d_X8_text_17 q_X8_text_149 (by first | rfl | assumption) (by omega) ⟨rfl, rfl⟩ (ct_nx (g := g) (c := c00) hR (show fd0 I 64 17 = nI t from h17) ht (fun j hj => h77 j hj) ⟨rfl, rfl, Nat.zero_le _⟩) rfl rfl rfl ⟨Nat.zero_le _, Nat.zero_le _⟩ (fun r_17 Sh_17 I_17 L_17 R_17 hq_17 => ?_)
  obtain ⟨rfl, rfl, rfl, rfl, hf, hc⟩ := hq_17
  have loop : ∀ (Qs : State → Prop), (∀ i J c D, LM t g I i c D J → goC c = false → zZ E m_X8_text X Qs zShF 0 0 44 [some (.ref 64), some (.int (nI i)), none] [] J L_17 R_17) → ∀ i, i ≤ 400 → ∀ J c D, LM t g I i c D J → zZ E m_X8_text X Qs zShF 0 0 20 [some (.ref 64), some (.int (nI i)), none] [] J L_17 R_17 := by
    intro Qs hx
    refine up_rec (fun i hi' ih J c D hJ => ?_)
    have hJ17 : J 64 17 = nI t := by rw [hJ.1.1.2 17 (by decide)]; exact h17
    have hJ77 : ∀ j, j < t → J 77 j = g j := fun j hj => by rw [hJ.1.1.1 77 (by decide)]; exact h77 j hj
    refine z_aload_n d_X8_text_20 rfl ?_
    refine z_getI d_X8_text_21 f_X8_107 (by first | rfl | assumption) (by omega) ?_
    refine z_if_ne d_X8_text_24 (fun h_24 => ?_) (fun h_24 => ?_)
    · exact hx _ _ _ _ hJ (goM_f hJ.1.2.1 hJ.2.1 (Or.inl h_24))
    · refine z_aload_n d_X8_text_27 rfl ?_
      refine z_getI d_X8_text_28 f_X8_127 (by first | rfl | assumption) (by omega) ?_
      refine z_if_eq d_X8_text_31 (fun h_31 => ?_) (fun h_31 => ?_)
      · exact hx _ _ _ _ hJ (goM_f hJ.1.2.1 hJ.2.1 (Or.inr h_31))
      · obtain ⟨a, k, s, v, rfl, hgo⟩ := goM_t hJ.1.2.1 hJ.2.1 h_24 h_31
        have hlt : i < 400 := by
          have a1 := hJ.2.2.2.1 hgo
          have a2 := gd_pos hJ.2.1
          omega
        refine z_aload_n d_X8_text_34 rfl ?_
        refine z_rV d_X8_text_35 q_X8_text_176 (by first | rfl | assumption) (by omega) ⟨rfl, rfl⟩ (ct_rl hR hJ17 ht hJ77 hgn hJ.1.2.1 hJ.2.1 (hJ.1.2.2.2 ⟨_, rfl⟩) (hJ.2.2.1 ⟨_, rfl⟩)) rfl rfl rfl ⟨Nat.zero_le _, Nat.zero_le _⟩ (fun r_35 Sh_35 I_35 L_35 R_35 hq_35 => ?_)
        obtain ⟨rfl, rfl, rfl, rfl, hq⟩ := hq_35
        refine z_iinc1 d_X8_text_38 ki_1 rfl ?_
        refine z_goto d_X8_text_41 ?_
        rw [nI_1]
        exact ih hlt _ _ _ (LM_s ht hgn hJ hgo hlt hq (gd_ln ht hgn hJ.2.1))
  refine loop _ (fun i J c D hJ hgo => ?_) 0 (Nat.zero_le 400) _ _ _ (LM_0 ht hgn hf hc)
  obtain ⟨n, hn, h12⟩ := hJ.1.2.2.1
  have hfin := lkM_fin hJ.1 hJ.2.1 hgo hJ.2.2.1 hn h12
  have hl : (c, D, i) = lpA g t := by rw [← hJ.2.2.2.2, lp_stop hgo]
  refine z_iconst d_X8_text_44 ki_0 ?_
  refine z_istore2 d_X8_text_45 rfl ?_
  have loop2 : ∀ (Qs : State → Prop), (zZ E m_X8_text X Qs zShF 0 0 93 [some (.ref 64), some (.int (nI i)), some (.int (nI n))] [] (lkM J n) L_17 R_17) → ∀ j, j ≤ n → zZ E m_X8_text X Qs zShF 0 0 46 [some (.ref 64), some (.int (nI i)), some (.int (nI j))] [] (lkM J j) L_17 R_17 := by
    intro Qs hx
    refine up_rec (fun j hj' ih => ?_)
    have e12 : lkM J j 64 12 = nI n := by rw [lkM_s (by decide)]; exact h12
    have e72 : lkM J j 72 = J 72 := lkM_k (by decide)
    have e76 : lkM J j 76 = J 76 := lkM_k (by decide)
    refine z_iload_n d_X8_text_46 rfl ?_
    refine z_aload_n d_X8_text_47 rfl ?_
    refine z_getI d_X8_text_48 f_X8_78 (by first | rfl | assumption) (by omega) ?_
    rw [e12]
    refine z_icmp_ge d_X8_text_51 (fun h_51 => ?_) (fun h_51 => ?_)
    · obtain rfl := eq_of_ge (n := n) (by omega) hj' h_51
      exact hx
    · have hlt := lt_of_nge (n := n) (by omega) h_51 (by omega)
      refine z_aload_n d_X8_text_54 rfl ?_
      refine z_aload_n d_X8_text_55 rfl ?_
      refine z_getR d_X8_text_56 f_X8_33 (by first | rfl | assumption) (by omega) (by first | exact hR _ _ _ rfl | rfl | assumption) ?_
      refine z_bipush d_X8_text_59 kb_6 ?_
      refine z_iaload d_X8_text_61 (by first | rfl | assumption) (by omega) (zix_lit 6 (by decide)) ?_
      refine z_iconst d_X8_text_62 ki_4 ?_
      rw [e72]
      refine z_icmp_eq d_X8_text_63 (fun h_63 => ?_) (fun h_63 => ?_)
      · have hnb : nbB J j = true := by unfold nbB; rw [decide_eq_true h_63]; rfl
        have hnd : zCf E m_X8_needs zShF [.ref 64, .int 1, .int 6] (lkM J j) L_17 R_17 none (lkM J (j + 1)) L_17 R_17 := by rw [lkM_t hnb]; exact nd_t (g := true) hR rfl
        refine z_iconst d_X8_text_77 ki_1 ?_
        refine z_goto d_X8_text_78 ?_
        refine z_bipush d_X8_text_82 kb_6 ?_
        refine z_cVv d_X8_text_84 q_X8_text_141 (by first | rfl | assumption) (by omega) ⟨rfl, rfl⟩ (hnd) rfl rfl rfl ⟨Nat.zero_le _, Nat.zero_le _⟩ ?_
        refine z_iinc2 d_X8_text_87 ki_1 rfl ?_
        refine z_goto d_X8_text_90 ?_
        rw [nI_1]
        exact ih hlt
      · refine z_aload_n d_X8_text_66 rfl ?_
        refine z_getR d_X8_text_67 f_X8_45 (by first | rfl | assumption) (by omega) (by first | exact hR _ _ _ rfl | rfl | assumption) ?_
        refine z_iload_n d_X8_text_70 rfl ?_
        refine z_iaload d_X8_text_71 (by first | rfl | assumption) (by omega) (zix_nI (by omega) (by decide)) ?_
        refine z_bipush d_X8_text_72 kb_8 ?_
        rw [e76]
        refine z_icmp_ge d_X8_text_74 (fun h_74 => ?_) (fun h_74 => ?_)
        · have hnb : nbB J j = false := by unfold nbB; rw [decide_eq_false h_63, decide_eq_false (Int32.not_lt.mpr h_74)]; rfl
          have hnd : zCf E m_X8_needs zShF [.ref 64, .int 0, .int 6] (lkM J j) L_17 R_17 none (lkM J (j + 1)) L_17 R_17 := by rw [← lkM_f hnb]; exact ct_X8_needs (g := false) hR
          refine z_iconst d_X8_text_81 ki_0 ?_
          refine z_bipush d_X8_text_82 kb_6 ?_
          refine z_cVv d_X8_text_84 q_X8_text_141 (by first | rfl | assumption) (by omega) ⟨rfl, rfl⟩ (hnd) rfl rfl rfl ⟨Nat.zero_le _, Nat.zero_le _⟩ ?_
          refine z_iinc2 d_X8_text_87 ki_1 rfl ?_
          refine z_goto d_X8_text_90 ?_
          rw [nI_1]
          exact ih hlt
        · have hnb : nbB J j = true := by unfold nbB; rw [decide_eq_true (Int32.not_le.mp h_74), Bool.or_true]
          have hnd : zCf E m_X8_needs zShF [.ref 64, .int 1, .int 6] (lkM J j) L_17 R_17 none (lkM J (j + 1)) L_17 R_17 := by rw [lkM_t hnb]; exact nd_t (g := true) hR rfl
          refine z_iconst d_X8_text_77 ki_1 ?_
          refine z_goto d_X8_text_78 ?_
          refine z_bipush d_X8_text_82 kb_6 ?_
          refine z_cVv d_X8_text_84 q_X8_text_141 (by first | rfl | assumption) (by omega) ⟨rfl, rfl⟩ (hnd) rfl rfl rfl ⟨Nat.zero_le _, Nat.zero_le _⟩ ?_
          refine z_iinc2 d_X8_text_87 ki_1 rfl ?_
          refine z_goto d_X8_text_90 ?_
          rw [nI_1]
          exact ih hlt
  refine loop2 _ ?_ 0 (Nat.zero_le n)
  refine z_aload_n d_X8_text_93 rfl ?_
  refine z_iconst d_X8_text_94 ki_0 ?_
  refine z_putI d_X8_text_95 f_X8_102 p_X8_17 (by first | rfl | assumption) (by omega) ?_
  refine z_aload_n d_X8_text_98 rfl ?_
  refine z_getI d_X8_text_99 f_X8_107 (by first | rfl | assumption) (by omega) ?_
  refine z_if_le d_X8_text_102 (fun h_102 => ?_) (fun h_102 => ?_)
  · refine z_aload_n d_X8_text_113 rfl ?_
    refine z_cVv d_X8_text_114 q_X8_text_75 (by first | rfl | assumption) (by omega) ⟨rfl, rfl⟩ (ct_X8_keepDraft hR) rfl rfl rfl ⟨Nat.zero_le _, Nat.zero_le _⟩ ?_
    refine z_iload_n d_X8_text_117 rfl ?_
    exact z_ireturn d_X8_text_118 rfl (by
      have h : lkM J n 64 22 ≤ 0 := h_102
      obtain ⟨b1, b2⟩ := anM_1 (m := i) hfin.2 h
      have e1 : (lpA g t).1 = c := by rw [← hl]
      have e2 : (lpA g t).2.1 = D := by rw [← hl]
      have e3 : (lpA g t).2.2 = i := by rw [← hl]
      unfold qMT fcA
      rw [e1, e2, e3]
      exact ⟨by rw [b1], rfl, rfl, lkM J n, hfin.1, hfin.2, Or.inr ⟨b2, rfl, rfl⟩⟩)
  · refine z_bipush d_X8_text_105 kb_m10 ?_
    refine z_aload_n d_X8_text_107 rfl ?_
    refine z_getI d_X8_text_108 f_X8_113 (by first | rfl | assumption) (by omega) ?_
    refine z_isub d_X8_text_111 ?_
    exact z_ireturn d_X8_text_112 rfl (by
      have h : ¬ lkM J n 64 22 ≤ 0 := h_102
      obtain ⟨b1, b2⟩ := anM_2 (m := i) hfin.2 h
      have e1 : (lpA g t).1 = c := by rw [← hl]
      have e2 : (lpA g t).2.1 = D := by rw [← hl]
      have e3 : (lpA g t).2.2 = i := by rw [← hl]
      unfold qMT fcA
      rw [e1, e2, e3]
      exact ⟨by rw [b1]; rfl, rfl, rfl, lkM J n, hfin.1, hfin.2, Or.inl ⟨b2, rfl, rfl⟩⟩)
