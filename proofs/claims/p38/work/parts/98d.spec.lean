/-! ROWS AND PARTS OF THE DRAFT -/
def isR (c : zCu) : Prop := ∃ u, c = .inr u
def cv (c : zCu) : Int32 := match c with
  | .inr (_, _, _, v) => v
  | .inl _ => 0
def itC (g : Nat → Int32) (t : Nat) (lo hi : Int32) (c : zCu) : Nat → zCu
  | 0 => c
  | n + 1 => chC lo hi (nxC g t (itC g t lo hi c n))
theorem isR_nx {g : Nat → Int32} {t : Nat} {c : zCu} (h : isR (nxC g t c)) : isR c := by
  rcases c with p | u
  · obtain ⟨u, e⟩ := h; cases e
  · exact ⟨u, rfl⟩
theorem isR_ch {lo hi : Int32} {c : zCu} (h : isR (chC lo hi c)) : isR c := by
  rcases c with p | u
  · obtain ⟨u, e⟩ := h; cases e
  · exact ⟨u, rfl⟩
theorem cv_of {c : zCu} {x : Int32} (h : isR c) (hv : ∀ a k s v, c = .inr (a, k, s, v) → x = v) : x = cv c := by
  obtain ⟨⟨a, k, s, v⟩, rfl⟩ := h
  exact hv a k s v rfl
theorem cC_s {t : Nat} {I J : zI} {c : zCu} (h : ∀ s, s ≠ 8 → J 8 s = I 8 s) (hc : cC t I c) : cC t J c := by
  rcases c with p | ⟨a, k, s, v⟩
  · obtain ⟨c1, c2⟩ := hc
    exact ⟨by rw [h 10 (by decide)]; exact c1, by rw [h 9 (by decide)]; exact c2⟩
  · obtain ⟨c1, c2, c3, c4, c5, c6, c7⟩ := hc
    exact ⟨by rw [h 10 (by decide)]; exact c1, by rw [h 4 (by decide)]; exact c2, by rw [h 5 (by decide)]; exact c3, by rw [h 6 (by decide)]; exact c4, fun z => by rw [h 7 (by decide)]; exact c5 z, c6, c7⟩
theorem gB_c {I J : zI} (h : J 2 = I 2) : gB J = gB I := by unfold gB; rw [h]
def rwI (t : Nat) (I : zI) (r : Nat) (c : zCu) (i : Nat) (J : zI) : Prop := (∀ k, k ≠ 8 → k ≠ 14 → J k = I k) ∧ J 8 8 = nI r ∧ cC t J (itC (gB I) t 0 99 c i) ∧ (isR (itC (gB I) t 0 99 c i) → ∀ j, j < 48 → J 14 j = if 8 * r ≤ j ∧ j < 8 * r + i then cv (itC (gB I) t 0 99 c (j - 8 * r + 1)) else I 14 j)
theorem rwI_s {t : Nat} {I : zI} {r i : Nat} {c : zCu} {J K : zI} {x : Int32} (h : rwI t I r c i J) (hf : fr8 J K) (hc : cC t K (chC 0 99 (nxC (gB J) t (itC (gB I) t 0 99 c i)))) (hv : ∀ a k s v, chC 0 99 (nxC (gB J) t (itC (gB I) t 0 99 c i)) = .inr (a, k, s, v) → x = v) : rwI t I r c (i + 1) (zi K 14 (8 * r + i) x) := by
  obtain ⟨h1, h2, h3, h4⟩ := h
  rw [gB_c (h1 2 (by decide) (by decide))] at hc hv
  refine ⟨fun k a b => ?_, ?_, ?_, fun hr j hj => ?_⟩
  · rw [zi_ne b, hf.1 k a, h1 k a b]
  · rw [zi_ne (by decide), hf.2, h2]
  · exact cC_s (fun s _ => by rw [zi_ne (by decide)]) hc
  · have e := cv_of (x := x) hr hv
    have h5 := h4 (isR_nx (isR_ch hr)) j hj
    rw [zi_eq]
    by_cases q : j = 8 * r + i
    · subst q
      rw [up_eq, if_pos (by omega), e, Nat.add_sub_cancel_left]
    · rw [va_up_ne _ _ q, hf.1 14 (by decide), h5]
      by_cases w : 8 * r ≤ j ∧ j < 8 * r + i
      · rw [if_pos w, if_pos (by omega)]
      · rw [if_neg w, if_neg (by omega)]
set_option maxRecDepth 100000 in
set_option maxHeartbeats 4000000 in
theorem ct_X4_readRow {E : zE} {I : zI} {L : zL} {R : zR} {t r : Nat} {c : zCu} (hR : zLx R) (h1 : I 1 1 = nI t) (ht : t ≤ 400) (hc : cC t I c) (h8 : I 8 8 = nI r) (hr : r < 6) : zCt E m_X4_readRow zShF [.ref 8] I L R (fun r1 Sh1 I1 L1 R1 => r1 = none ∧ Sh1 = zShF ∧ L1 = L ∧ R1 = R ∧ ∃ J, rwI t I r c 8 J ∧ I1 = zi J 8 8 (nI (r + 1))) := by
  refine z_met (by decide) [some (.ref 8), none] rfl rfl (Nat.le_of_ble_eq_true rfl) (fun X => ?_)
  refine z_iconst d_X4_readRow_0 ki_0 ?_
  refine z_istore1 d_X4_readRow_1 rfl ?_
  have loop : ∀ (Qs : State → Prop), (∀ J, rwI t I r c 8 J → zZ E m_X4_readRow X Qs zShF 0 0 35 [some (.ref 8), some (.int (nI 8))] [] J L R) → ∀ i, i ≤ 8 → ∀ J, rwI t I r c i J → zZ E m_X4_readRow X Qs zShF 0 0 2 [some (.ref 8), some (.int (nI i))] [] J L R := by
    intro Qs hx
    refine up_rec (fun i hi' ih J hJ => ?_)
    have hJ8 : J 8 8 = nI r := hJ.2.1
    have hJ1 : J 1 1 = nI t := by rw [hJ.1 1 (by decide) (by decide)]; exact h1
    refine z_iload_n d_X4_readRow_2 rfl ?_
    refine z_bipush d_X4_readRow_3 kb_8 ?_
    refine z_icmp_ge d_X4_readRow_5 (fun h_5 => ?_) (fun h_5 => ?_)
    · obtain rfl := eq_of_ge (n := 8) (by decide) hi' h_5
      exact hx J hJ
    · have hlt := lt_of_nge (n := 8) (by decide) h_5 (by omega)
      refine z_aload_n d_X4_readRow_8 rfl ?_
      refine z_getR d_X4_readRow_9 f_X4_18 (by first | rfl | assumption) (by omega) (by first | exact hR _ _ _ rfl | rfl | assumption) ?_
      refine z_aload_n d_X4_readRow_12 rfl ?_
      refine z_getI d_X4_readRow_13 f_X4_64 (by first | rfl | assumption) (by omega) ?_
      refine z_bipush d_X4_readRow_16 kb_8 ?_
      refine z_imul d_X4_readRow_18 ?_
      refine z_iload_n d_X4_readRow_19 rfl ?_
      refine z_iadd d_X4_readRow_20 ?_
      rw [hJ8, show (nI r * 8 + nI i : Int32) = nI (8 * r + i) from by rw [show (nI r * 8 : Int32) = nI (r * 8) from (Int32.ofNat_mul r 8).symm, nI_add, Nat.mul_comm]]
      refine z_aload_n d_X4_readRow_21 rfl ?_
      refine z_iconst d_X4_readRow_22 ki_0 ?_
      refine z_bipush d_X4_readRow_23 kb_99 ?_
      refine z_rV d_X4_readRow_25 q_X4_readRow_112 (by first | rfl | assumption) (by omega) ⟨rfl, rfl⟩ (ct_X4_number hR hJ1 ht hJ.2.2.1 (by decide)) rfl rfl rfl ⟨Nat.zero_le _, Nat.zero_le _⟩ (fun r_25 Sh_25 I_25 L_25 R_25 hq_25 => ?_)
      obtain ⟨x, rfl, rfl, rfl, rfl, hf, hc1, hb, hv⟩ := hq_25
      refine z_iastore d_X4_readRow_28 (by first | rfl | assumption) (by omega) (zix_nI (by omega) (by decide)) ?_
      refine z_iinc1 d_X4_readRow_29 ki_1 rfl ?_
      refine z_goto d_X4_readRow_32 ?_
      rw [nI_1]
      exact ih hlt _ (rwI_s hJ hf hc1 hv)
  refine loop _ (fun J hJ => ?_) 0 (Nat.zero_le 8) I ⟨fun _ _ _ => rfl, h8, hc, fun _ j hj => by rw [if_neg (by omega)]⟩
  have hJ8 : J 8 8 = nI r := hJ.2.1
  refine z_aload_n d_X4_readRow_35 rfl ?_
  refine z_dup d_X4_readRow_36 rfl ?_
  refine z_getI d_X4_readRow_37 f_X4_64 (by first | rfl | assumption) (by omega) ?_
  refine z_iconst d_X4_readRow_40 ki_1 ?_
  refine z_iadd d_X4_readRow_41 ?_
  refine z_putI d_X4_readRow_42 f_X4_64 p_X4_8 (by first | rfl | assumption) (by omega) ?_
  exact z_return d_X4_readRow_45 rfl ⟨rfl, rfl, rfl, rfl, J, hJ, by rw [hJ8, ← nI_succ]⟩
def flC (c : zCu) : zCu := match c with
  | .inl p => .inl p
  | .inr (_, _, s, _) => .inl s
def flI (I : zI) (w : Int32) : zI := if I 8 10 = 0 then zi (zi I 8 10 w) 8 9 (I 8 6) else I
theorem fr8_fl (I : zI) (w : Int32) : fr8 I (flI I w) := by
  unfold flI
  by_cases h : I 8 10 = 0
  · rw [if_pos h]; exact ⟨fun k h => by rw [zi_ne h, zi_ne h], rfl⟩
  · rw [if_neg h]; exact ⟨fun _ _ => rfl, rfl⟩
theorem cC_fl {t : Nat} {I : zI} {c : zCu} {w : Int32} (hw : ¬ w = 0) (hc : cC t I c) : cC t (flI I w) (flC c) := by
  unfold flI
  rcases c with p | ⟨a, k, s, v⟩
  · obtain ⟨c1, c2⟩ := hc
    rw [if_neg c1]
    exact ⟨c1, c2⟩
  · obtain ⟨c1, c2, c3, c4, c5, c6, c7⟩ := hc
    rw [if_pos c1]
    exact ⟨hw, c4⟩
theorem isR_fl {c : zCu} (h : isR (flC c)) : False := by
  rcases c with p | ⟨a, k, s, v⟩ <;> obtain ⟨u, e⟩ := h <;> cases e
def p1C (g : Nat → Int32) (t : Nat) (c : zCu) : zCu := chC 0 47 (nxC g t c)
def p2C (g : Nat → Int32) (t : Nat) (f : Nat → Int32) (c : zCu) : zCu := if f (cv (p1C g t c)).toNatClampNeg = 0 then p1C g t c else flC (p1C g t c)
def ptC (g : Nat → Int32) (t : Nat) (f : Nat → Int32) (most : Int32) (c : zCu) : zCu := chC 1 most (nxC g t (p2C g t f c))
theorem p2_t {g : Nat → Int32} {t : Nat} {f : Nat → Int32} {c : zCu} {x : Int32} (hv : isR (p1C g t c) → x = cv (p1C g t c)) (h : f x.toNatClampNeg = 0) : p2C g t f c = p1C g t c := by
  unfold p2C
  generalize p1C g t c = d at *
  rcases d with p | u
  · by_cases q : f (cv (.inl p)).toNatClampNeg = 0
    · rw [if_pos q]
    · rw [if_neg q]; rfl
  · rw [if_pos (by rw [← hv ⟨u, rfl⟩]; exact h)]
theorem p2_f {g : Nat → Int32} {t : Nat} {f : Nat → Int32} {c : zCu} {x : Int32} (hv : isR (p1C g t c) → x = cv (p1C g t c)) (h : ¬ f x.toNatClampNeg = 0) : p2C g t f c = flC (p1C g t c) := by
  unfold p2C
  generalize p1C g t c = d at *
  rcases d with p | u
  · by_cases q : f (cv (.inl p)).toNatClampNeg = 0
    · rw [if_pos q]; rfl
    · rw [if_neg q]
  · rw [if_neg (by rw [← hv ⟨u, rfl⟩]; exact h)]
theorem isR_p2 {g : Nat → Int32} {t : Nat} {f : Nat → Int32} {c : zCu} (h : isR (p2C g t f c)) : isR (p1C g t c) := by
  unfold p2C at h
  by_cases q : f (cv (p1C g t c)).toNatClampNeg = 0
  · rw [if_pos q] at h; exact h
  · rw [if_neg q] at h; exact (isR_fl h).elim
theorem zx47 {x : Int32} (h : 0 ≤ x ∧ x ≤ 47) : zix x 48 x.toNatClampNeg := by
  refine zix_of (fun z => z.elim (fun w => absurd (Int32.lt_of_lt_of_le w h.1) (Int32.lt_irrefl)) (fun w => ?_))
  have h2 := (Int32.le_iff_toInt_le).mp h.2
  have h1 := (Int32.le_iff_toInt_le).mp h.1
  rw [show (47 : Int32).toInt = 47 by decide] at h2
  rw [show (0 : Int32).toInt = 0 by decide] at h1
  have e : x.toNatClampNeg = x.toInt.toNat := rfl
  omega
def qPt (t : Nat) (I : zI) (L : zL) (R : zR) (q : Nat) (most : Int32) (c : zCu) : Option Value → zSh → zI → zL → zR → Prop := fun r Sh1 I1 L1 R1 => r = none ∧ Sh1 = zShF ∧ L1 = L ∧ R1 = R ∧ (∀ k, k ≠ 8 → k ≠ q → I1 k = I k) ∧ I1 8 8 = I 8 8 ∧ cC t I1 (ptC (gB I) t (I q) most c) ∧ (isR (ptC (gB I) t (I q) most c) → ∀ j, I1 q j = if j = (cv (p1C (gB I) t c)).toNatClampNeg then cv (ptC (gB I) t (I q) most c) else I q j)
set_option maxRecDepth 100000 in
set_option maxHeartbeats 4000000 in
theorem ct_X4_readPart {E : zE} {I : zI} {L : zL} {R : zR} {t q : Nat} {c : zCu} {most : Int32} (hR : zLx R) (h1 : I 1 1 = nI t) (ht : t ≤ 400) (hc : cC t I c) (hq : zShF[q]? = some (2, 48)) (hq2 : q = 11 ∨ q = 12) (hm : 1 ≤ most) : zCt E m_X4_readPart zShF [.ref 8, .ref q, .int most] I L R (qPt t I L R q most c) := by
  refine z_met (by decide) [some (.ref 8), some (.ref q), some (.int most), none] rfl rfl (Nat.le_of_ble_eq_true rfl) (fun X => ?_)
  refine z_aload_n d_X4_readPart_0 rfl ?_
  refine z_iconst d_X4_readPart_1 ki_0 ?_
  refine z_bipush d_X4_readPart_2 kb_47 ?_
  refine z_rV d_X4_readPart_4 q_X4_readPart_112 (by first | rfl | assumption) (by omega) ⟨rfl, rfl⟩ (ct_X4_number hR h1 ht hc (by decide)) rfl rfl rfl ⟨Nat.zero_le _, Nat.zero_le _⟩ (fun r_4 Sh_4 I_4 L_4 R_4 hq_4 => ?_)
  obtain ⟨x, rfl, rfl, rfl, rfl, hf, hc1, hb, hv⟩ := hq_4
  have hx := zx47 hb
  have hq8 : q ≠ 8 := by omega
  have hqm : q < 1000000 := by omega
  have hv1 : isR (p1C (gB I) t c) → x = cv (p1C (gB I) t c) := fun z => cv_of z hv
  have tail : ∀ (Qs : State → Prop), (∀ K, (∀ k, k ≠ 8 → k ≠ q → K k = I k) ∧ K 8 8 = I 8 8 ∧ cC t K (ptC (gB I) t (I q) most c) ∧ (isR (ptC (gB I) t (I q) most c) → ∀ j, K q j = if j = (cv (p1C (gB I) t c)).toNatClampNeg then cv (ptC (gB I) t (I q) most c) else I q j) → zZ E m_X4_readPart X Qs zShF 0 0 32 [some (.ref 8), some (.ref q), some (.int most), some (.int x)] [] K L_4 R_4) → ∀ J, fr8 I J → cC t J (p2C (gB I) t (I q) c) → zZ E m_X4_readPart X Qs zShF 0 0 23 [some (.ref 8), some (.ref q), some (.int most), some (.int x)] [] J L_4 R_4 := by
    intro Qs hx2 J hJ hcJ
    have hJ1 : J 1 1 = nI t := by rw [hJ.1 1 (by decide)]; exact h1
    refine z_aload_n d_X4_readPart_23 rfl ?_
    refine z_iload_n d_X4_readPart_24 rfl ?_
    refine z_aload_n d_X4_readPart_25 rfl ?_
    refine z_iconst d_X4_readPart_26 ki_1 ?_
    refine z_iload_n d_X4_readPart_27 rfl ?_
    refine z_rV d_X4_readPart_28 q_X4_readPart_112 (by first | rfl | assumption) (by omega) ⟨rfl, rfl⟩ (ct_X4_number hR hJ1 ht hcJ hm) rfl rfl rfl ⟨Nat.zero_le _, Nat.zero_le _⟩ (fun r_28 Sh_28 I_28 L_28 R_28 hq_28 => ?_)
    obtain ⟨y, rfl, rfl, rfl, rfl, hf2, hc2, hb2, hv2⟩ := hq_28
    rw [gB_c (hJ.1 2 (by decide))] at hc2 hv2
    refine z_iastore d_X4_readPart_31 (by first | rfl | assumption) (by omega) hx ?_
    refine hx2 _ ⟨fun k a b => ?_, ?_, ?_, fun hr j => ?_⟩
    · rw [zi_ne b, hf2.1 k a, hJ.1 k a]
    · rw [zi_ne (by omega), hf2.2, hJ.2]
    · exact cC_s (fun s _ => by rw [zi_ne (by omega)]) hc2
    · have e := cv_of (x := y) hr hv2
      have e1 := hv1 (isR_p2 (isR_nx (isR_ch hr)))
      rw [zi_eq, ← e1]
      by_cases w : j = x.toNatClampNeg
      · subst w; rw [up_eq, if_pos rfl, e]
      · rw [va_up_ne _ _ w, if_neg w, hf2.1 q hq8, hJ.1 q hq8]
  refine z_istore3 d_X4_readPart_7 rfl ?_
  refine z_aload_n d_X4_readPart_8 rfl ?_
  refine z_iload_n d_X4_readPart_9 rfl ?_
  refine z_iaload d_X4_readPart_10 (by first | rfl | assumption) (by omega) hx ?_
  refine z_if_eq d_X4_readPart_11 (fun h_11 => ?_) (fun h_11 => ?_)
  · refine tail _ (fun K hK => ?_) _ hf (by rw [p2_t hv1 (by rw [← hf.1 q hq8]; exact h_11)]; exact hc1)
    exact z_return d_X4_readPart_32 rfl ⟨rfl, rfl, rfl, rfl, hK⟩
  · refine z_aload_n d_X4_readPart_14 rfl ?_
    refine z_iconst d_X4_readPart_15 ki_4 ?_
    refine z_aload_n d_X4_readPart_16 rfl ?_
    refine z_getI d_X4_readPart_17 f_X4_73 (by first | rfl | assumption) (by omega) ?_
    refine z_cVv d_X4_readPart_20 q_X4_readPart_85 (by first | rfl | assumption) (by omega) ⟨rfl, rfl⟩ (ct_X4_fail hR) rfl rfl rfl ⟨Nat.zero_le _, Nat.zero_le _⟩ ?_
    refine tail _ (fun K hK => ?_) (flI I_4 4) (fr8_tr hf (fr8_fl I_4 4)) (by rw [p2_f hv1 (by rw [← hf.1 q hq8]; exact h_11)]; exact cC_fl (by decide) hc1)
    exact z_return d_X4_readPart_32 rfl ⟨rfl, rfl, rfl, rfl, hK⟩
