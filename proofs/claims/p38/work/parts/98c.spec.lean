set_option maxRecDepth 100000 in
set_option maxHeartbeats 4000000 in
theorem ct_X4_fetch_f {E : zE} {I : zI} {L : zL} {R : zR} (hR : zLx R) (h10 : ¬ I 8 10 = 0) : zCf E m_X4_fetch zShF [.ref 8] I L R (none) (zi I 8 5 0) (L) (R) := by
  refine z_met (by decide) [some (.ref 8), none] rfl rfl (Nat.le_of_ble_eq_true rfl) (fun X => ?_)
  refine z_aload_n d_X4_fetch_0 rfl ?_
  refine z_iconst d_X4_fetch_1 ki_0 ?_
  refine z_putI d_X4_fetch_2 f_X4_40 p_X4_5 (by first | rfl | assumption) (by omega) ?_
  refine z_aload_n d_X4_fetch_5 rfl ?_
  refine z_getI d_X4_fetch_6 f_X4_36 (by first | rfl | assumption) (by omega) ?_
  refine z_if_eq d_X4_fetch_9 (fun h_9 => absurd h_9 h10) (fun h_9 => ?_)
  exact z_return d_X4_fetch_12 rfl ⟨rfl, rfl, rfl, rfl, rfl⟩
set_option maxRecDepth 100000 in
set_option maxHeartbeats 4000000 in
theorem ct_nh1 {E : zE} {I : zI} {L : zL} {R : zR} {lo hi : Int32} (hR : zLx R) (h5 : ¬ I 8 5 = 3) : zCf E m_X4_numberHere zShF [.ref 8, .int lo, .int hi] I L R (some (.int lo)) (if I 8 10 = 0 then zi (zi I 8 10 2) 8 9 (I 8 6) else I) (L) (R) := by
  refine z_met (by decide) [some (.ref 8), some (.int lo), some (.int hi)] rfl rfl (Nat.le_of_ble_eq_true rfl) (fun X => ?_)
  refine z_aload_n d_X4_numberHere_0 rfl ?_
  refine z_getI d_X4_numberHere_1 f_X4_40 (by first | rfl | assumption) (by omega) ?_
  refine z_iconst d_X4_numberHere_4 ki_3 ?_
  refine z_icmp_eq d_X4_numberHere_5 (fun h_5 => absurd h_5 h5) (fun h_5 => ?_)
  refine z_aload_n d_X4_numberHere_8 rfl ?_
  refine z_iconst d_X4_numberHere_9 ki_2 ?_
  refine z_aload_n d_X4_numberHere_10 rfl ?_
  refine z_getI d_X4_numberHere_11 f_X4_73 (by first | rfl | assumption) (by omega) ?_
  refine z_cVv d_X4_numberHere_14 q_X4_numberHere_85 (by first | rfl | assumption) (by omega) ⟨rfl, rfl⟩ (ct_X4_fail hR) rfl rfl rfl ⟨Nat.zero_le _, Nat.zero_le _⟩ ?_
  refine z_iload_n d_X4_numberHere_17 rfl ?_
  exact z_ireturn d_X4_numberHere_18 rfl ⟨rfl, rfl, rfl, rfl, rfl⟩
set_option maxRecDepth 100000 in
set_option maxHeartbeats 4000000 in
theorem ct_nh2 {E : zE} {I : zI} {L : zL} {R : zR} {lo hi : Int32} (hR : zLx R) (h5 : I 8 5 = 3) (hr : I 8 7 < lo ∨ ¬ I 8 7 ≤ hi) : zCf E m_X4_numberHere zShF [.ref 8, .int lo, .int hi] I L R (some (.int lo)) (if I 8 10 = 0 then zi (zi I 8 10 3) 8 9 (I 8 6) else I) (L) (R) := by
  refine z_met (by decide) [some (.ref 8), some (.int lo), some (.int hi)] rfl rfl (Nat.le_of_ble_eq_true rfl) (fun X => ?_)
  refine z_aload_n d_X4_numberHere_0 rfl ?_
  refine z_getI d_X4_numberHere_1 f_X4_40 (by first | rfl | assumption) (by omega) ?_
  refine z_iconst d_X4_numberHere_4 ki_3 ?_
  refine z_icmp_eq d_X4_numberHere_5 (fun h_5 => ?_) (fun h_5 => absurd h5 h_5)
  refine z_aload_n d_X4_numberHere_19 rfl ?_
  refine z_getI d_X4_numberHere_20 f_X4_76 (by first | rfl | assumption) (by omega) ?_
  refine z_iload_n d_X4_numberHere_23 rfl ?_
  refine z_icmp_lt d_X4_numberHere_24 (fun h_24 => ?_) (fun h_24 => ?_)
  · refine z_aload_n d_X4_numberHere_35 rfl ?_
    refine z_iconst d_X4_numberHere_36 ki_3 ?_
    refine z_aload_n d_X4_numberHere_37 rfl ?_
    refine z_getI d_X4_numberHere_38 f_X4_73 (by first | rfl | assumption) (by omega) ?_
    refine z_cVv d_X4_numberHere_41 q_X4_numberHere_85 (by first | rfl | assumption) (by omega) ⟨rfl, rfl⟩ (ct_X4_fail hR) rfl rfl rfl ⟨Nat.zero_le _, Nat.zero_le _⟩ ?_
    refine z_iload_n d_X4_numberHere_44 rfl ?_
    exact z_ireturn d_X4_numberHere_45 rfl ⟨rfl, rfl, rfl, rfl, rfl⟩
  · refine z_aload_n d_X4_numberHere_27 rfl ?_
    refine z_getI d_X4_numberHere_28 f_X4_76 (by first | rfl | assumption) (by omega) ?_
    refine z_iload_n d_X4_numberHere_31 rfl ?_
    refine z_icmp_le d_X4_numberHere_32 (fun h_32 => hr.elim (fun z => absurd z h_24) (fun z => absurd h_32 z)) (fun h_32 => ?_)
    refine z_aload_n d_X4_numberHere_35 rfl ?_
    refine z_iconst d_X4_numberHere_36 ki_3 ?_
    refine z_aload_n d_X4_numberHere_37 rfl ?_
    refine z_getI d_X4_numberHere_38 f_X4_73 (by first | rfl | assumption) (by omega) ?_
    refine z_cVv d_X4_numberHere_41 q_X4_numberHere_85 (by first | rfl | assumption) (by omega) ⟨rfl, rfl⟩ (ct_X4_fail hR) rfl rfl rfl ⟨Nat.zero_le _, Nat.zero_le _⟩ ?_
    refine z_iload_n d_X4_numberHere_44 rfl ?_
    exact z_ireturn d_X4_numberHere_45 rfl ⟨rfl, rfl, rfl, rfl, rfl⟩
set_option maxRecDepth 100000 in
set_option maxHeartbeats 4000000 in
theorem ct_nh3 {E : zE} {I : zI} {L : zL} {R : zR} {lo hi : Int32} (hR : zLx R) (h5 : I 8 5 = 3) (hr : ¬ I 8 7 < lo ∧ I 8 7 ≤ hi) : zCf E m_X4_numberHere zShF [.ref 8, .int lo, .int hi] I L R (some (.int (I 8 7))) (I) (L) (R) := by
  refine z_met (by decide) [some (.ref 8), some (.int lo), some (.int hi)] rfl rfl (Nat.le_of_ble_eq_true rfl) (fun X => ?_)
  refine z_aload_n d_X4_numberHere_0 rfl ?_
  refine z_getI d_X4_numberHere_1 f_X4_40 (by first | rfl | assumption) (by omega) ?_
  refine z_iconst d_X4_numberHere_4 ki_3 ?_
  refine z_icmp_eq d_X4_numberHere_5 (fun h_5 => ?_) (fun h_5 => absurd h5 h_5)
  refine z_aload_n d_X4_numberHere_19 rfl ?_
  refine z_getI d_X4_numberHere_20 f_X4_76 (by first | rfl | assumption) (by omega) ?_
  refine z_iload_n d_X4_numberHere_23 rfl ?_
  refine z_icmp_lt d_X4_numberHere_24 (fun h_24 => absurd h_24 hr.1) (fun h_24 => ?_)
  refine z_aload_n d_X4_numberHere_27 rfl ?_
  refine z_getI d_X4_numberHere_28 f_X4_76 (by first | rfl | assumption) (by omega) ?_
  refine z_iload_n d_X4_numberHere_31 rfl ?_
  refine z_icmp_le d_X4_numberHere_32 (fun h_32 => ?_) (fun h_32 => absurd hr.2 h_32)
  refine z_aload_n d_X4_numberHere_46 rfl ?_
  refine z_getI d_X4_numberHere_47 f_X4_76 (by first | rfl | assumption) (by omega) ?_
  exact z_ireturn d_X4_numberHere_50 rfl ⟨rfl, rfl, rfl, rfl, rfl⟩
/-! THE CURSOR: a FAULT and its place, or where the tape is read, the TOKEN's kind, its start, a NUMBER's value -/
abbrev zCu : Type := Nat ⊕ (Nat × Nat × Nat × Int32)
def cC (t : Nat) (I : zI) (c : zCu) : Prop := match c with
  | .inl p => ¬ I 8 10 = 0 ∧ I 8 9 = nI p
  | .inr (a, k, s, v) => I 8 10 = 0 ∧ I 8 4 = nI a ∧ I 8 5 = nI k ∧ I 8 6 = nI s ∧ (k = 3 → I 8 7 = v) ∧ a ≤ t ∧ k < 5
def nxA (g : Nat → Int32) (t b : Nat) : zCu :=
  if tokV (btA g t b) = 1 then .inr (b, 1, b, 0)
  else if tokV (btA g t b) = 4 then .inr (b + 1, 4, b, 0)
  else if tokV (btA g t b) = 2 then .inr (rn (pTk 2) g t b, 2, b, 0)
  else if tokV (btA g t b) = 3 ∧ rn (pTk 3) g t b - b ≤ 3 then .inr (rn (pTk 3) g t b, 3, b, vf g t 0 b (rn (pTk 3) g t b - b))
  else .inl b
def nxC (g : Nat → Int32) (t : Nat) (c : zCu) : zCu := match c with
  | .inl p => .inl p
  | .inr (a, _, _, _) => nxA g t (rn pBl g t a)
def chC (lo hi : Int32) (c : zCu) : zCu := match c with
  | .inl p => .inl p
  | .inr (a, k, s, v) => if k = 3 ∧ ¬ v < lo ∧ v ≤ hi then .inr (a, k, s, v) else .inl s
def fr8 (I J : zI) : Prop := (∀ k, k ≠ 8 → J k = I k) ∧ J 8 8 = I 8 8
theorem fr8_tr {I J K : zI} (h1 : fr8 I J) (h2 : fr8 J K) : fr8 I K := ⟨fun k h => (h2.1 k h).trans (h1.1 k h), h2.2.trans h1.2⟩
theorem tok_cs (x : Int32) : tokV x = 0 ∨ tokV x = 1 ∨ tokV x = 2 ∨ tokV x = 3 ∨ tokV x = 4 := by
  unfold tokV
  repeat (first | split | simp)
theorem tokV_1 : tokV (-1) = 1 := by decide
def qFt (t : Nat) (I : zI) (L : zL) (R : zR) (c : zCu) : Option Value → zSh → zI → zL → zR → Prop := fun r Sh1 I1 L1 R1 => r = none ∧ Sh1 = zShF ∧ L1 = L ∧ R1 = R ∧ fr8 I I1 ∧ cC t I1 c ∧ (¬ I1 8 10 = 0 → I1 8 5 = 0)
theorem fr8_m1 (I : zI) (b : Nat) (K : Int32) : fr8 I (m1 I b K) := ⟨fun k h => by unfold m1; rw [zi_ne h, zi_ne h, zi_ne h, zi_ne h, zi_ne h], rfl⟩
theorem fr8_zi {I J : zI} {j : Nat} {x : Int32} (h : fr8 I J) (hj : j ≠ 8) : fr8 I (zi J 8 j x) := ⟨fun k hk => by rw [zi_ne hk]; exact h.1 k hk, by rw [zi_eq, va_up_ne _ _ hj.symm]; exact h.2⟩
theorem fr8_m2 (I : zI) (t a : Nat) (K : Int32) : fr8 I (m2 I t a K) := fr8_zi (fr8_zi (fr8_m1 I _ K) (by decide)) (by decide)
def aC (t : Nat) (I : zI) (c : zCu) : Prop := match c with
  | .inl p => ¬ I 8 10 = 0 ∧ I 8 9 = nI p
  | .inr (a, _, _, _) => I 8 10 = 0 ∧ I 8 4 = nI a ∧ a ≤ t
theorem aC_of {t : Nat} {I : zI} {c : zCu} (h : cC t I c) : aC t I c := by
  rcases c with p | ⟨a, k, s, v⟩
  · exact h
  · exact ⟨h.1, h.2.1, h.2.2.2.2.2.1⟩
theorem ct_fetchA {E : zE} {I : zI} {L : zL} {R : zR} {t : Nat} {c : zCu} (hR : zLx R) (h1 : I 1 1 = nI t) (ht : t ≤ 400) (hc : aC t I c) : zCt E m_X4_fetch zShF [.ref 8] I L R (qFt t I L R (nxC (gB I) t c)) := by
  rcases c with p | ⟨a, k, s, v⟩
  · obtain ⟨c1, c2⟩ := hc
    refine zCt_mono (ct_X4_fetch_f hR c1) (fun r Sh1 I1 L1 R1 h => ?_)
    obtain ⟨rfl, rfl, rfl, rfl, rfl⟩ := h
    exact ⟨rfl, rfl, rfl, rfl, ⟨fun k h => zi_ne h, rfl⟩, ⟨c1, c2⟩, fun _ => rfl⟩
  · obtain ⟨c1, c2, c6⟩ := hc
    have hb : bA I t a ≤ t := rn_le (g := gB I) pBl_1 ht c6
    have hl : ¬ tokV (btA (gB I) t (bA I t a)) = 1 → bA I t a < t := fun z => by
      rcases Nat.lt_or_ge (bA I t a) t with q | q
      · exact q
      · rw [btA_end q] at z; exact absurd tokV_1 z
    show zCt E m_X4_fetch zShF [.ref 8] I L R (qFt t I L R (nxA (gB I) t (bA I t a)))
    unfold nxA
    rcases tok_cs (btA (gB I) t (bA I t a)) with e | e | e | e | e
    · rw [if_neg (by rw [e]; decide), if_neg (by rw [e]; decide), if_neg (by rw [e]; decide), if_neg (fun z => absurd (e.symm.trans z.1) (by decide))]
      refine zCt_mono (ct_X4_fetch_0 hR h1 ht c6 c2 c1 e) (fun r Sh1 I1 L1 R1 h => ?_)
      obtain ⟨rfl, rfl, rfl, rfl, rfl⟩ := h
      exact ⟨rfl, rfl, rfl, rfl, fr8_zi (fr8_zi (fr8_zi (fr8_m1 I _ 0) (by decide)) (by decide)) (by decide), ⟨show ¬ (1 : Int32) = 0 by decide, rfl⟩, fun _ => rfl⟩
    · rw [if_pos e]
      refine zCt_mono (ct_X4_fetch_1 hR h1 ht c6 c2 c1 e) (fun r Sh1 I1 L1 R1 h => ?_)
      obtain ⟨rfl, rfl, rfl, rfl, rfl⟩ := h
      exact ⟨rfl, rfl, rfl, rfl, fr8_m1 I _ 1, ⟨c1, rfl, rfl, rfl, fun z => absurd z (by decide), hb, by decide⟩, fun z => absurd c1 z⟩
    · rw [if_neg (by rw [e]; decide), if_neg (by rw [e]; decide), if_pos e]
      refine zCt_mono (ct_X4_fetch_2 hR h1 ht c6 c2 c1 e) (fun r Sh1 I1 L1 R1 h => ?_)
      obtain ⟨rfl, rfl, rfl, rfl, rfl⟩ := h
      exact ⟨rfl, rfl, rfl, rfl, fr8_m2 I t a 2, ⟨c1, rfl, rfl, rfl, fun z => absurd z (by decide), rn_le (pTk_1 (Or.inl rfl)) ht hb, by decide⟩, fun z => absurd c1 z⟩
    · rw [if_neg (by rw [e]; decide), if_neg (by rw [e]; decide), if_neg (by rw [e]; decide)]
      by_cases h3 : eA 3 I t a - bA I t a ≤ 3
      · rw [if_pos ⟨e, h3⟩]
        refine zCt_mono (ct_X4_fetch_3 hR h1 ht c6 c2 c1 e h3) (fun r Sh1 I1 L1 R1 h => ?_)
        obtain ⟨rfl, rfl, rfl, rfl, rfl⟩ := h
        exact ⟨rfl, rfl, rfl, rfl, fr8_m2 I t a 3, ⟨c1, rfl, rfl, rfl, fun _ => rfl, rn_le (pTk_1 (Or.inr rfl)) ht hb, by decide⟩, fun z => absurd c1 z⟩
      · rw [if_neg (fun z => h3 z.2)]
        refine zCt_mono (ct_X4_fetch_5 hR h1 ht c6 c2 c1 e h3) (fun r Sh1 I1 L1 R1 h => ?_)
        obtain ⟨rfl, rfl, rfl, rfl, rfl⟩ := h
        exact ⟨rfl, rfl, rfl, rfl, fr8_zi (fr8_zi (fr8_zi (fr8_m2 I t a 3) (by decide)) (by decide)) (by decide), ⟨show ¬ (1 : Int32) = 0 by decide, rfl⟩, fun _ => rfl⟩
    · rw [if_neg (by rw [e]; decide), if_pos e]
      have hlt := hl (by rw [e]; decide)
      refine zCt_mono (ct_X4_fetch_4 hR h1 ht c6 c2 c1 e) (fun r Sh1 I1 L1 R1 h => ?_)
      obtain ⟨rfl, rfl, rfl, rfl, rfl⟩ := h
      exact ⟨rfl, rfl, rfl, rfl, fr8_zi (fr8_m1 I _ 4) (by decide), ⟨c1, (nI_succ _).symm, rfl, rfl, fun z => absurd z (by decide), hlt, by decide⟩, fun z => absurd c1 z⟩
theorem ct_fetch {E : zE} {I : zI} {L : zL} {R : zR} {t : Nat} {c : zCu} (hR : zLx R) (h1 : I 1 1 = nI t) (ht : t ≤ 400) (hc : cC t I c) : zCt E m_X4_fetch zShF [.ref 8] I L R (qFt t I L R (nxC (gB I) t c)) := ct_fetchA hR h1 ht (aC_of hc)
def qNb (t : Nat) (I : zI) (L : zL) (R : zR) (c : zCu) (lo hi : Int32) : Option Value → zSh → zI → zL → zR → Prop := fun r Sh1 I1 L1 R1 => ∃ x : Int32, r = some (.int x) ∧ Sh1 = zShF ∧ L1 = L ∧ R1 = R ∧ fr8 I I1 ∧ cC t I1 c ∧ (lo ≤ x ∧ x ≤ hi) ∧ ∀ a k s v, c = .inr (a, k, s, v) → x = v
theorem ct_nh {E : zE} {I : zI} {L : zL} {R : zR} {t : Nat} {c : zCu} {lo hi : Int32} (hR : zLx R) (hc : cC t I c) (hlh : lo ≤ hi) : zCt E m_X4_numberHere zShF [.ref 8, .int lo, .int hi] I L R (qNb t I L R (chC lo hi c) lo hi) := by
  have hll : lo ≤ lo := Int32.le_refl lo
  rcases c with p | ⟨a, k, s, v⟩
  · obtain ⟨c1, c2⟩ := hc
    by_cases h5 : I 8 5 = 3
    · by_cases hr : I 8 7 < lo ∨ ¬ I 8 7 ≤ hi
      · refine zCt_mono (ct_nh2 hR h5 hr) (fun r Sh1 I1 L1 R1 h => ?_)
        rw [if_neg c1] at h
        obtain ⟨rfl, rfl, rfl, rfl, rfl⟩ := h
        exact ⟨lo, rfl, rfl, rfl, rfl, ⟨fun _ _ => rfl, rfl⟩, ⟨c1, c2⟩, ⟨hll, hlh⟩, fun a k s v h => by cases h⟩
      · have hr' : ¬ I 8 7 < lo ∧ I 8 7 ≤ hi := ⟨fun z => hr (Or.inl z), Classical.not_not.mp (fun z => hr (Or.inr z))⟩
        refine zCt_mono (ct_nh3 hR h5 hr') (fun r Sh1 I1 L1 R1 h => ?_)
        obtain ⟨rfl, rfl, rfl, rfl, rfl⟩ := h
        exact ⟨_, rfl, rfl, rfl, rfl, ⟨fun _ _ => rfl, rfl⟩, ⟨c1, c2⟩, ⟨Int32.not_lt.mp hr'.1, hr'.2⟩, fun a k s v h => by cases h⟩
    · refine zCt_mono (ct_nh1 hR h5) (fun r Sh1 I1 L1 R1 h => ?_)
      rw [if_neg c1] at h
      obtain ⟨rfl, rfl, rfl, rfl, rfl⟩ := h
      exact ⟨lo, rfl, rfl, rfl, rfl, ⟨fun _ _ => rfl, rfl⟩, ⟨c1, c2⟩, ⟨hll, hlh⟩, fun a k s v h => by cases h⟩
  · obtain ⟨c1, c2, c3, c4, c5, c6, c7⟩ := hc
    show zCt E m_X4_numberHere zShF [.ref 8, .int lo, .int hi] I L R (qNb t I L R (if k = 3 ∧ ¬ v < lo ∧ v ≤ hi then .inr (a, k, s, v) else .inl s) lo hi)
    by_cases hk : k = 3
    · have h5 : I 8 5 = 3 := by rw [c3, hk]; rfl
      have hv := c5 hk
      by_cases hr : I 8 7 < lo ∨ ¬ I 8 7 ≤ hi
      · rw [if_neg (fun z => hr.elim (fun w => z.2.1 (by rw [← hv]; exact w)) (fun w => w (by rw [hv]; exact z.2.2)))]
        refine zCt_mono (ct_nh2 hR h5 hr) (fun r Sh1 I1 L1 R1 h => ?_)
        rw [if_pos c1] at h
        obtain ⟨rfl, rfl, rfl, rfl, rfl⟩ := h
        exact ⟨lo, rfl, rfl, rfl, rfl, ⟨fun k h => by rw [zi_ne h, zi_ne h], rfl⟩, ⟨show ¬ (3 : Int32) = 0 by decide, c4⟩, ⟨hll, hlh⟩, fun a k s v h => by cases h⟩
      · have hr' : ¬ I 8 7 < lo ∧ I 8 7 ≤ hi := ⟨fun z => hr (Or.inl z), Classical.not_not.mp (fun z => hr (Or.inr z))⟩
        rw [if_pos ⟨hk, by rw [← hv]; exact hr'.1, by rw [← hv]; exact hr'.2⟩]
        refine zCt_mono (ct_nh3 hR h5 hr') (fun r Sh1 I1 L1 R1 h => ?_)
        obtain ⟨rfl, rfl, rfl, rfl, rfl⟩ := h
        exact ⟨_, rfl, rfl, rfl, rfl, ⟨fun _ _ => rfl, rfl⟩, ⟨c1, c2, c3, c4, c5, c6, c7⟩, ⟨Int32.not_lt.mp hr'.1, hr'.2⟩, fun a' k' s' v' h => by cases h; exact hv⟩
    · rw [if_neg (fun z => hk z.1)]
      have h5 : ¬ I 8 5 = 3 := fun z => hk ((nI_eq (a := k) (b := 3) (by omega) (by decide)).mp (c3.symm.trans z))
      refine zCt_mono (ct_nh1 hR h5) (fun r Sh1 I1 L1 R1 h => ?_)
      rw [if_pos c1] at h
      obtain ⟨rfl, rfl, rfl, rfl, rfl⟩ := h
      exact ⟨lo, rfl, rfl, rfl, rfl, ⟨fun k h => by rw [zi_ne h, zi_ne h], rfl⟩, ⟨show ¬ (2 : Int32) = 0 by decide, c4⟩, ⟨hll, hlh⟩, fun a k s v h => by cases h⟩
set_option maxRecDepth 100000 in
set_option maxHeartbeats 4000000 in
theorem ct_X4_number {E : zE} {I : zI} {L : zL} {R : zR} {t : Nat} {c : zCu} {lo hi : Int32} (hR : zLx R) (h1 : I 1 1 = nI t) (ht : t ≤ 400) (hc : cC t I c) (hlh : lo ≤ hi) : zCt E m_X4_number zShF [.ref 8, .int lo, .int hi] I L R (qNb t I L R (chC lo hi (nxC (gB I) t c)) lo hi) := by
  refine z_met (by decide) [some (.ref 8), some (.int lo), some (.int hi)] rfl rfl (Nat.le_of_ble_eq_true rfl) (fun X => ?_)
  refine z_aload_n d_X4_number_0 rfl ?_
  refine z_rV d_X4_number_1 q_X4_number_33 (by first | rfl | assumption) (by omega) ⟨rfl, rfl⟩ (ct_fetch hR h1 ht hc) rfl rfl rfl ⟨Nat.zero_le _, Nat.zero_le _⟩ (fun r_1 Sh_1 I_1 L_1 R_1 hq_1 => ?_)
  obtain ⟨rfl, rfl, hL1, hR1, hf1, hc1, -⟩ := hq_1
  have hR2 : zLx R_1 := by rw [hR1]; exact hR
  refine z_aload_n d_X4_number_4 rfl ?_
  refine z_iload_n d_X4_number_5 rfl ?_
  refine z_iload_n d_X4_number_6 rfl ?_
  refine z_rV d_X4_number_7 q_X4_number_154 (by first | rfl | assumption) (by omega) ⟨rfl, rfl⟩ (ct_nh hR2 hc1 hlh) rfl rfl rfl ⟨Nat.zero_le _, Nat.zero_le _⟩ (fun r_7 Sh_7 I_7 L_7 R_7 hq_7 => ?_)
  obtain ⟨x, rfl, rfl, hL2, hR3, hf2, hc2, hb, hv⟩ := hq_7
  exact z_ireturn d_X4_number_10 rfl ⟨x, rfl, rfl, hL2.trans hL1, hR3.trans hR1, fr8_tr hf1 hf2, hc2, hb, hv⟩
