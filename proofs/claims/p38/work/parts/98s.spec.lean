/-! THE DRAFT ON THE REFERENCE'S SIDE -/
def dM (I : zI) (D : zDr) : Prop := (∀ j, j < 7 → I 72 j = drRu D j) ∧ (∀ j, j < 48 → I 74 j = drHo D j) ∧ (∀ j, j < 48 → I 75 j = drTr D j) ∧ (∀ j, j < 48 → I 73 j = drLi D j) ∧ (I 64 12 = nI (drN D) ∧ ∀ j, j < drN D → I 76 j = drW D j) ∧ I 64 14 = nI (drR D) ∧ ∃ m, m < 1024 ∧ I 64 15 = nI m ∧ ∀ k, 3 ≤ k → k < 10 → m.testBit k = drS D k
def frE (I J : zI) : Prop := (∀ k, (k < 64 ∨ 76 < k ∨ (65 ≤ k ∧ k ≤ 71)) → J k = I k) ∧ ∀ s, (s < 12 ∨ s = 13 ∨ s = 16 ∨ s = 17 ∨ 23 < s) → J 64 s = I 64 s
def qMd (t : Nat) (I J : zI) (c : zCu) (D : zDr) : Prop := frE I J ∧ cM t J c ∧ (∃ n, n ≤ 12 ∧ J 64 12 = nI n) ∧ (isR c → dM J D)
theorem frE_64 {I J K : zI} (h : frE I J) (hf : fr64 J K) : frE I K := ⟨fun k hk => (hf.1 k (by omega)).trans (h.1 k hk), fun s hs => (hf.2 s (by omega)).trans (h.2 s hs)⟩
theorem dM_64 {J K : zI} {D : zDr} (hf : fr64 J K) (h : dM J D) : dM K D := by
  obtain ⟨d1, d2, d3, d4, ⟨d5, d6⟩, d7, m, hm, d8, d9⟩ := h
  refine ⟨fun j hj => ?_, fun j hj => ?_, fun j hj => ?_, fun j hj => ?_, ⟨?_, fun j hj => ?_⟩, ?_, m, hm, ?_, d9⟩
  · rw [hf.1 72 (by decide)]; exact d1 j hj
  · rw [hf.1 74 (by decide)]; exact d2 j hj
  · rw [hf.1 75 (by decide)]; exact d3 j hj
  · rw [hf.1 73 (by decide)]; exact d4 j hj
  · rw [hf.2 12 (by decide)]; exact d5
  · rw [hf.1 76 (by decide)]; exact d6 j hj
  · rw [hf.2 14 (by decide)]; exact d7
  · rw [hf.2 15 (by decide)]; exact d8
theorem qMd_64 {t : Nat} {I J K : zI} {c c' : zCu} {D : zDr} (h : qMd t I J c D) (hf : fr64 J K) (hc : cM t K c') (hr : isR c' → isR c) : qMd t I K c' D := by
  obtain ⟨h1, h2, ⟨n, hn, hn2⟩, h4⟩ := h
  exact ⟨frE_64 h1 hf, hc, ⟨n, hn, by rw [hf.2 12 (by decide)]; exact hn2⟩, fun z => dM_64 hf (h4 (hr z))⟩
section ZGD
variable {g : Nat → Int32} {t : Nat} {c : zCu} {lo hi : Int32}
theorem gd_nx (ht : t ≤ 400) (hgn : ∀ j, j < t → ¬ g j < 0) (h : gdC t c) : gdC t (nxC g t c) := nx_gd ht hgn (fun a k s v e => by rw [e] at h; exact h.2.1)
theorem gd_ch (h : gdC t c) : gdC t (chC lo hi c) := by
  rcases c with p | ⟨a, k, s, v⟩
  · trivial
  · by_cases q : k = 3 ∧ ¬ v < lo ∧ v ≤ hi
    · have e : chC lo hi (.inr (a, k, s, v)) = .inr (a, k, s, v) := if_pos q
      rw [e]; exact h
    · have e : chC lo hi (.inr (a, k, s, v)) = .inl s := if_neg q
      rw [e]; trivial
theorem gd_fl : gdC t (flC c) := by rcases c with p | ⟨a, k, s, v⟩ <;> trivial
theorem gd_it (ht : t ≤ 400) (hgn : ∀ j, j < t → ¬ g j < 0) (h : gdC t c) : ∀ n, gdC t (itC g t lo hi c n)
  | 0 => h
  | n + 1 => gd_ch (gd_nx ht hgn (gd_it ht hgn h n))
theorem gd_p2 (ht : t ≤ 400) (hgn : ∀ j, j < t → ¬ g j < 0) {f : Nat → Int32} (h : gdC t c) : gdC t (p2C g t f c) := by
  unfold p2C
  by_cases q : f (cv (p1C g t c)).toNatClampNeg = 0
  · rw [if_pos q]; exact gd_ch (gd_nx ht hgn h)
  · rw [if_neg q]; exact gd_fl
theorem it_inl {p i : Nat} (h : nxC g t (itC g t lo hi c i) = .inl p) : ∀ m, nxC g t (itC g t lo hi c (i + m)) = .inl p ∧ (0 < m → itC g t lo hi c (i + m) = .inl p)
  | 0 => ⟨h, fun z => absurd z (by decide)⟩
  | m + 1 => by
    have a := (it_inl h m).1
    have e : itC g t lo hi c (i + (m + 1)) = .inl p := by
      show chC lo hi (nxC g t (itC g t lo hi c (i + m))) = .inl p
      rw [a]; rfl
    exact ⟨by rw [e]; rfl, fun _ => e⟩
theorem cM_n {J : zI} (hc : cM t J c) (h : ¬ J 64 22 = 0) : ∃ p, c = .inl p := by
  rcases c with p | ⟨a, k, s, v⟩
  · exact ⟨p, rfl⟩
  · exact absurd hc.1 h
theorem cM_z {J : zI} (hc : cM t J c) (h : J 64 22 = 0) : isR c := by
  rcases c with p | u
  · have := hc.1; rw [h] at this; exact absurd this (by decide)
  · exact ⟨u, rfl⟩
theorem isR_inl {p : Nat} (h : isR (.inl p : zCu)) : False := by obtain ⟨u, e⟩ := h; cases e
end ZGD
def rwM (t : Nat) (g : Nat → Int32) (I : zI) (r : Nat) (c : zCu) (i : Nat) (J : zI) : Prop := (∀ k, k ≠ 64 → k ≠ 73 → J k = I k) ∧ (∀ s, (s < 18 ∨ 23 < s) → J 64 s = I 64 s) ∧ cM t J (nxC g t (itC g t 0 99 c i)) ∧ (isR (itC g t 0 99 c i) → ∀ j, j < 48 → J 73 j = if 8 * r ≤ j ∧ j < 8 * r + i then cv (itC g t 0 99 c (j - 8 * r + 1)) else I 73 j)
theorem rwM_s {t : Nat} {g : Nat → Int32} {I J K : zI} {r i : Nat} {c : zCu} {x : Int32} (h : rwM t g I r c i J) (hf : fr64 J K) (hc : cM t K (nxC g t (chC 0 99 (nxC g t (itC g t 0 99 c i))))) (hx : isR (chC 0 99 (nxC g t (itC g t 0 99 c i))) → x = cv (chC 0 99 (nxC g t (itC g t 0 99 c i)))) : rwM t g I r c (i + 1) (zi K 73 (8 * r + i) x) := by
  obtain ⟨h1, h2, h3, h4⟩ := h
  refine ⟨fun k a b => ?_, fun s hs => ?_, ?_, fun hr j hj => ?_⟩
  · rw [zi_ne b, hf.1 k a, h1 k a b]
  · rw [zi_ne (by decide), hf.2 s hs, h2 s hs]
  · show cM t _ (nxC g t (chC 0 99 (nxC g t (itC g t 0 99 c i))))
    generalize nxC g t (chC 0 99 (nxC g t (itC g t 0 99 c i))) = d at hc
    rcases d with p | ⟨a, k, s, v⟩
    · exact hc
    · exact hc
  · have hr' : isR (chC 0 99 (nxC g t (itC g t 0 99 c i))) := hr
    have e := hx hr'
    have h5 := h4 (isR_nx (isR_ch hr')) j hj
    rw [zi_eq]
    by_cases q : j = 8 * r + i
    · subst q
      rw [up_eq, if_pos (by omega), e, Nat.add_sub_cancel_left]
      rfl
    · rw [va_up_ne _ _ q, hf.1 73 (by decide), h5]
      by_cases w : 8 * r ≤ j ∧ j < 8 * r + i
      · rw [if_pos w, if_pos (by omega)]
      · rw [if_neg w, if_neg (by omega)]
theorem rwM_e {t : Nat} {g : Nat → Int32} {I J : zI} {r i : Nat} {c : zCu} (h : rwM t g I r c i J) (h0 : ¬ J 64 22 = 0) (hi : i ≤ 8) : rwM t g I r c 8 J := by
  by_cases q : i = 8
  · subst q; exact h
  · obtain ⟨h1, h2, h3, h4⟩ := h
    obtain ⟨p, e⟩ := cM_n h3 h0
    have a := it_inl e (8 - i)
    rw [show i + (8 - i) = 8 by omega] at a
    refine ⟨h1, h2, by rw [a.1, ← e]; exact h3, fun hr => ?_⟩
    rw [a.2 (by omega)] at hr
    exact (isR_inl hr).elim
set_option maxRecDepth 100000 in
set_option maxHeartbeats 4000000 in
theorem ct_X8_readRow {E : zE} {I : zI} {L : zL} {R : zR} {t r : Nat} {g : Nat → Int32} {c : zCu} (hR : zLx R) (h17 : I 64 17 = nI t) (ht : t ≤ 400) (h77 : ∀ j, j < t → I 77 j = g j) (hgn : ∀ j, j < t → ¬ g j < 0) (hc : cM t I (nxC g t c)) (hg : gdC t c) (h14 : I 64 14 = nI r) (hr : r < 6) : zCt E m_X8_readRow zShF [.ref 64] I L R (fun r1 Sh1 I1 L1 R1 => r1 = none ∧ Sh1 = zShF ∧ L1 = L ∧ R1 = R ∧ ∃ J, rwM t g I r c 8 J ∧ I1 = zi J 64 14 (nI (r + 1))) := by
  refine z_met (by decide) [some (.ref 64), none] rfl rfl (Nat.le_of_ble_eq_true rfl) (fun X => ?_)
  refine z_iconst d_X8_readRow_0 ki_0 ?_
  refine z_istore1 d_X8_readRow_1 rfl ?_
  have loop : ∀ (Qs : State → Prop), (∀ J o, rwM t g I r c 8 J → zZ E m_X8_readRow X Qs zShF 0 0 42 [some (.ref 64), o] [] J L R) → ∀ i, i ≤ 8 → ∀ J, rwM t g I r c i J → zZ E m_X8_readRow X Qs zShF 0 0 2 [some (.ref 64), some (.int (nI i))] [] J L R := by
    intro Qs hx
    refine up_rec (fun i hi' ih J hJ => ?_)
    have hJ14 : J 64 14 = nI r := by rw [hJ.2.1 14 (by decide)]; exact h14
    have hJ17 : J 64 17 = nI t := by rw [hJ.2.1 17 (by decide)]; exact h17
    have hJ77 : ∀ j, j < t → J 77 j = g j := fun j hj => by rw [hJ.1 77 (by decide) (by decide)]; exact h77 j hj
    refine z_iload_n d_X8_readRow_2 rfl ?_
    refine z_bipush d_X8_readRow_3 kb_8 ?_
    refine z_icmp_ge d_X8_readRow_5 (fun h_5 => ?_) (fun h_5 => ?_)
    · obtain rfl := eq_of_ge (n := 8) (by decide) hi' h_5
      exact hx J _ hJ
    · have hlt := lt_of_nge (n := 8) (by decide) h_5 (by omega)
      refine z_aload_n d_X8_readRow_8 rfl ?_
      refine z_getI d_X8_readRow_9 f_X8_107 (by first | rfl | assumption) (by omega) ?_
      refine z_if_ne d_X8_readRow_12 (fun h_12 => ?_) (fun h_12 => ?_)
      · exact hx J _ (rwM_e hJ h_12 hi')
      · refine z_aload_n d_X8_readRow_15 rfl ?_
        refine z_getR d_X8_readRow_16 f_X8_36 (by first | rfl | assumption) (by omega) (by first | exact hR _ _ _ rfl | rfl | assumption) ?_
        refine z_bipush d_X8_readRow_19 kb_8 ?_
        refine z_aload_n d_X8_readRow_21 rfl ?_
        refine z_getI d_X8_readRow_22 f_X8_82 (by first | rfl | assumption) (by omega) ?_
        refine z_imul d_X8_readRow_25 ?_
        refine z_iload_n d_X8_readRow_26 rfl ?_
        refine z_iadd d_X8_readRow_27 ?_
        rw [hJ14, show (8 * nI r + nI i : Int32) = nI (8 * r + i) from by rw [show (8 * nI r : Int32) = nI (8 * r) from (Int32.ofNat_mul 8 r).symm, nI_add]]
        refine z_aload_n d_X8_readRow_28 rfl ?_
        refine z_iconst d_X8_readRow_29 ki_0 ?_
        refine z_bipush d_X8_readRow_30 kb_99 ?_
        refine z_rV d_X8_readRow_32 q_X8_readRow_152 (by first | rfl | assumption) (by omega) ⟨rfl, rfl⟩ (ct_X8_readNumber hR hJ17 ht hJ77 hJ.2.2.1 (gd_nx ht hgn (gd_it ht hgn hg i))) rfl rfl rfl ⟨Nat.zero_le _, Nat.zero_le _⟩ (fun r_32 Sh_32 I_32 L_32 R_32 hq_32 => ?_)
        obtain ⟨x, rfl, rfl, rfl, rfl, hf, hc1, hx1⟩ := hq_32
        refine z_iastore d_X8_readRow_35 (by first | rfl | assumption) (by omega) (zix_nI (by omega) (by decide)) ?_
        refine z_iinc1 d_X8_readRow_36 ki_1 rfl ?_
        refine z_goto d_X8_readRow_39 ?_
        rw [nI_1]
        exact ih hlt _ (rwM_s hJ hf hc1 hx1)
  refine loop _ (fun J o hJ => ?_) 0 (Nat.zero_le 8) I ⟨fun _ _ _ => rfl, fun _ _ => rfl, hc, fun _ j hj => by rw [if_neg (by omega)]⟩
  have hJ14 : J 64 14 = nI r := by rw [hJ.2.1 14 (by decide)]; exact h14
  refine z_aload_n d_X8_readRow_42 rfl ?_
  refine z_dup d_X8_readRow_43 rfl ?_
  refine z_getI d_X8_readRow_44 f_X8_82 (by first | rfl | assumption) (by omega) ?_
  refine z_iconst d_X8_readRow_47 ki_1 ?_
  refine z_iadd d_X8_readRow_48 ?_
  refine z_putI d_X8_readRow_49 f_X8_82 p_X8_14 (by first | rfl | assumption) (by omega) ?_
  exact z_return d_X8_readRow_52 rfl ⟨rfl, rfl, rfl, rfl, J, hJ, by rw [hJ14, ← nI_succ]⟩
theorem p2_i {g : Nat → Int32} {t p : Nat} {f : Nat → Int32} {c : zCu} (h : p1C g t c = .inl p) : p2C g t f c = .inl p := by
  unfold p2C
  rw [h]
  show (if _ then _ else Sum.inl p) = Sum.inl p
  rw [ite_self]
theorem pt_p1 {g : Nat → Int32} {t : Nat} {f : Nat → Int32} {most : Int32} {c : zCu} (h : isR (nxC g t (ptC g t f most c))) : isR (p1C g t c) := isR_p2 (isR_nx (isR_ch (show isR (chC 1 most (nxC g t (p2C g t f c))) from isR_nx h)))
theorem cM_fl {t : Nat} {J : zI} {c : zCu} {w : Int32} (hw : 0 < w) (hc : cM t J c) (h0 : J 64 22 = 0) : cM t (zi (zi J 64 22 w) 64 23 (J 64 19)) (flC c) := by
  rcases c with p | ⟨a, k, s, v⟩
  · have := hc.1; rw [h0] at this; exact absurd this (by decide)
  · exact ⟨hw, hc.2.2.2.1⟩
theorem fr64_fl {J : zI} {w x : Int32} : fr64 J (zi (zi J 64 22 w) 64 23 x) := fr64_zi (fr64_zi (fr64_rf J) (by decide)) (by decide)
/-- what readWell leaves -/
def qWl (t : Nat) (g : Nat → Int32) (I : zI) (q : Nat) (most : Int32) (c : zCu) (I1 : zI) : Prop := (∀ k, k ≠ 64 → k ≠ q → I1 k = I k) ∧ (∀ s, (s < 18 ∨ 23 < s) → I1 64 s = I 64 s) ∧ cM t I1 (nxC g t (ptC g t (I q) most c)) ∧ (isR (nxC g t (ptC g t (I q) most c)) → ∀ j, I1 q j = if j = (cv (p1C g t c)).toNatClampNeg then cv (ptC g t (I q) most c) else I q j)
theorem qWl_f {t q : Nat} {g : Nat → Int32} {I J : zI} {most : Int32} {c : zCu} (hq : q ≠ 64) (hf : fr64 I J) (hc : cM t J (nxC g t (ptC g t (I q) most c))) (h0 : ¬ J 64 22 = 0) : qWl t g I q most c J := by
  refine ⟨fun k a _ => hf.1 k a, hf.2, hc, fun hr => ?_⟩
  obtain ⟨p, e⟩ := cM_n hc h0
  rw [e] at hr
  exact (isR_inl hr).elim
theorem qWl_t {t q : Nat} {g : Nat → Int32} {I J : zI} {most x y : Int32} {c : zCu} (hq : q ≠ 64) (hf : fr64 I J) (hc : cM t J (nxC g t (ptC g t (I q) most c))) (hw : isR (p1C g t c) → x = cv (p1C g t c)) (hv : isR (ptC g t (I q) most c) → y = cv (ptC g t (I q) most c)) : qWl t g I q most c (zi J q x.toNatClampNeg y) := by
  refine ⟨fun k a b => ?_, fun s hs => ?_, ?_, fun hr j => ?_⟩
  · rw [zi_ne b]; exact hf.1 k a
  · rw [zi_ne hq.symm]; exact hf.2 s hs
  · have e : zi J q x.toNatClampNeg y 64 = J 64 := zi_ne hq.symm
    generalize nxC g t (ptC g t (I q) most c) = d at hc
    rcases d with p | ⟨a, k, s, v⟩
    · exact ⟨by rw [e]; exact hc.1, by rw [e]; exact hc.2⟩
    · obtain ⟨c1, c2, c3, c4, c5, c6⟩ := hc
      exact ⟨by rw [e]; exact c1, by rw [e]; exact c2, by rw [e]; exact c3, by rw [e]; exact c4, fun z => by rw [e]; exact c5 z, c6⟩
  · have e1 := hw (pt_p1 hr)
    have e2 := hv (isR_nx hr)
    rw [zi_eq, ← e1, ← e2]
    by_cases w : j = x.toNatClampNeg
    · rw [w, up_eq, if_pos rfl]
    · rw [va_up_ne _ _ w, if_neg w, hf.1 q hq]
