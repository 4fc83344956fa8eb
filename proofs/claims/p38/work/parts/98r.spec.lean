/-! HOW FAR A LINE GOES, AND WHAT IT LEAVES -/
def posC (c : zCu) : Nat := match c with
  | .inl _ => 0
  | .inr (a, _, _, _) => a
def kiC (c : zCu) : Nat := match c with
  | .inl _ => 0
  | .inr (_, k, _, _) => k
def goC (c : zCu) : Bool := match c with
  | .inl _ => false
  | .inr (_, k, _, _) => !decide (k = 1)
section ZADV
variable {g : Nat → Int32} {t : Nat} {c : zCu} {D : zDr} {lo hi : Int32}
theorem rn_gt {p : Int32 → Bool} {j : Nat} (hp : p (-1) = false) (ht : t ≤ 400) (h : p (btA g t j) = true) : j < rn p g t j := by
  obtain ⟨a1, a2, a3⟩ := rn_is (g := g) (j := j) hp ht
  rcases Nat.lt_or_ge j (rn p g t j) with q | q
  · exact q
  · have : rn p g t j = j := by omega
    rw [this, h] at a3; cases a3
theorem nx_adv (ht : t ≤ 400) (h : isR (nxC g t c)) : posC c ≤ posC (nxC g t c) ∧ (kiC (nxC g t c) ≠ 1 → posC c < posC (nxC g t c)) := by
  rcases c with p | ⟨a, k, s, v⟩
  · obtain ⟨u, e⟩ := h; cases e
  · have hb := (rn_is (p := pBl) (g := g) (j := a) pBl_1 ht).1
    have h' : isR (nxA g t (rn pBl g t a)) := h
    show a ≤ posC (nxA g t (rn pBl g t a)) ∧ (kiC (nxA g t (rn pBl g t a)) ≠ 1 → a < posC (nxA g t (rn pBl g t a)))
    generalize rn pBl g t a = b at hb h' ⊢
    unfold nxA at h' ⊢
    rcases tok_cs (btA g t b) with e | e | e | e | e
    · rw [if_neg (by rw [e]; decide), if_neg (by rw [e]; decide), if_neg (by rw [e]; decide), if_neg (fun z => absurd (e.symm.trans z.1) (by decide))] at h'
      obtain ⟨u, e⟩ := h'; cases e
    · rw [if_pos e]
      exact ⟨hb, fun z => absurd rfl z⟩
    · rw [if_neg (by rw [e]; decide), if_neg (by rw [e]; decide), if_pos e]
      have := rn_gt (g := g) (p := pTk 2) (j := b) (pTk_1 (Or.inl rfl)) ht (by unfold pTk; simp [e])
      exact ⟨show a ≤ rn (pTk 2) g t b by omega, fun _ => show a < rn (pTk 2) g t b by omega⟩
    · rw [if_neg (by rw [e]; decide), if_neg (by rw [e]; decide), if_neg (by rw [e]; decide)] at h' ⊢
      by_cases h3 : rn (pTk 3) g t b - b ≤ 3
      · rw [if_pos ⟨e, h3⟩]
        have := rn_gt (g := g) (p := pTk 3) (j := b) (pTk_1 (Or.inr rfl)) ht (by unfold pTk; simp [e])
        exact ⟨show a ≤ rn (pTk 3) g t b by omega, fun _ => show a < rn (pTk 3) g t b by omega⟩
      · rw [if_neg (fun z => h3 z.2)] at h'
        obtain ⟨u, e⟩ := h'; cases e
    · rw [if_neg (by rw [e]; decide), if_pos e]
      exact ⟨show a ≤ b + 1 by omega, fun _ => show a < b + 1 by omega⟩
theorem ch_eq (h : isR (chC lo hi c)) : chC lo hi c = c ∧ btw lo.toInt (cv (chC lo hi c)) hi.toInt := by
  rcases c with p | ⟨a, k, s, v⟩
  · obtain ⟨u, e⟩ := h; cases e
  · by_cases q : k = 3 ∧ ¬ v < lo ∧ v ≤ hi
    · have e : chC lo hi (.inr (a, k, s, v)) = .inr (a, k, s, v) := if_pos q
      rw [e]
      exact ⟨rfl, Int32.le_iff_toInt_le.mp (Int32.not_lt.mp q.2.1), Int32.le_iff_toInt_le.mp q.2.2⟩
    · have e : chC lo hi (.inr (a, k, s, v)) = .inl s := if_neg q
      rw [e] at h
      obtain ⟨u, e⟩ := h; cases e
theorem nm_adv (ht : t ≤ 400) (h : isR (nmC g t lo hi c)) : isR c ∧ posC c ≤ posC (nmC g t lo hi c) ∧ btw lo.toInt (cv (nmC g t lo hi c)) hi.toInt := by
  unfold nmC at h ⊢
  have h1 := isR_ch h
  obtain ⟨e1, e2⟩ := ch_eq h
  refine ⟨isR_nx h1, ?_, e2⟩
  rw [e1]
  exact (nx_adv ht h1).1
theorem it_adv (ht : t ≤ 400) : ∀ n, isR (itC g t lo hi c n) → posC c ≤ posC (itC g t lo hi c n) ∧ ∀ i, i < n → btw lo.toInt (cv (itC g t lo hi c (i + 1))) hi.toInt
  | 0, h => ⟨Nat.le_refl _, fun i hi => absurd hi (by omega)⟩
  | n + 1, h => by
    have h0 : isR (chC lo hi (nxC g t (itC g t lo hi c n))) := h
    have h1 := isR_ch h0
    have h2 := isR_nx h1
    obtain ⟨e1, e2⟩ := ch_eq h0
    obtain ⟨i1, i2⟩ := it_adv ht n h2
    have h3 := (nx_adv ht h1).1
    refine ⟨?_, fun i hi => ?_⟩
    · show posC c ≤ posC (chC lo hi (nxC g t (itC g t lo hi c n)))
      rw [e1]; omega
    · by_cases q : i = n
      · subst q; exact e2
      · exact i2 i (by omega)
theorem pt_adv (ht : t ≤ 400) {f : Nat → Int32} {most : Int32} (h : isR (ptC g t f most c)) : posC c ≤ posC (ptC g t f most c) ∧ btw 1 (cv (ptC g t f most c)) most.toInt := by
  have h0 : isR (chC 1 most (nxC g t (p2C g t f c))) := h
  have h1 := isR_ch h0
  have h2 := isR_nx h1
  have h3 := isR_p2 h2
  obtain ⟨e1, e2⟩ := ch_eq h0
  have e3 : p2C g t f c = p1C g t c := by
    unfold p2C at h2 ⊢
    by_cases q : f (cv (p1C g t c)).toNatClampNeg = 0
    · rw [if_pos q]
    · rw [if_neg q] at h2; exact (isR_fl h2).elim
  have a1 := (nx_adv ht h1).1
  have h4 : isR (chC 0 47 (nxC g t c)) := h3
  have a2 := (nx_adv ht (isR_ch h4)).1
  have e4 : posC (p1C g t c) = posC (nxC g t c) := by show posC (chC 0 47 (nxC g t c)) = _; rw [(ch_eq h4).1]
  refine ⟨?_, e2⟩
  show posC c ≤ posC (chC 1 most (nxC g t (p2C g t f c)))
  rw [e1]
  rw [e3] at a1 ⊢
  omega
theorem ck_adv (ht : t ≤ 400) : ∀ m (c : zCu) n (w : Nat → Int32), m + n = 13 → n ≤ 12 → (∀ j, j < n → btw 0 (w j) 15) → isR (ckWC g t m c n w).1 → isR c ∧ (posC c ≤ posC (ckWC g t m c n w).1 ∧ (kiC (ckWC g t m c n w).1 ≠ 1 → posC c < posC (ckWC g t m c n w).1)) ∧ (ckWC g t m c n w).2.1 ≤ 12 ∧ ∀ j, j < (ckWC g t m c n w).2.1 → btw 0 ((ckWC g t m c n w).2.2 j) 15
  | 0, c, n, w, hm, hn, hw, h => absurd hm (by omega)
  | m + 1, c, n, w, hm, hn, hw, h => by
    unfold ckWC at h ⊢
    by_cases q : n < 12
    · rw [if_pos q] at h ⊢
      have hw2 : isR (chC 0 15 c) → ∀ j, j < n + 1 → btw 0 (va_up w n (cv (chC 0 15 c)) j) 15 := fun z j hj => by
        by_cases e : j = n
        · rw [e, up_eq]; exact (ch_eq z).2
        · rw [va_up_ne _ _ e]; exact hw j (by omega)
      by_cases z : tk3 (nxC g t (chC 0 15 c)) = true
      · rw [if_pos z] at h ⊢
        have r1 : isR (nxC g t (chC 0 15 c)) := by
          generalize nxC g t (chC 0 15 c) = d at z
          rcases d with p | u
          · cases z
          · exact ⟨u, rfl⟩
        have r2 := isR_nx r1
        obtain ⟨b1, ⟨b2, b3⟩, b4⟩ := ck_adv ht m (nxC g t (chC 0 15 c)) (n + 1) (va_up w n (cv (chC 0 15 c))) (by omega) (by omega) (hw2 r2) h
        have a1 := (nx_adv ht r1).1
        rw [(ch_eq r2).1] at a1
        exact ⟨isR_ch r2, ⟨by rw [(ch_eq r2).1] at b2 ⊢; omega, fun y => by have := b3 y; rw [(ch_eq r2).1] at this ⊢; omega⟩, b4⟩
      · rw [if_neg z] at h ⊢
        have r2 := isR_nx h
        have a1 := nx_adv ht h
        have e := (ch_eq r2).1
        refine ⟨isR_ch r2, ?_, q, hw2 r2⟩
        show posC c ≤ posC (nxC g t (chC 0 15 c)) ∧ (kiC (nxC g t (chC 0 15 c)) ≠ 1 → posC c < posC (nxC g t (chC 0 15 c)))
        have e2 : posC (chC 0 15 c) = posC c := by rw [e]
        rw [e2] at a1
        exact a1
    · rw [if_neg q] at h
      exact (isR_fl h).elim
theorem bd_adv (ht : t ≤ 400) {K : Nat} (hK : K < 10) (h : isR (bd g t K c D).1) : posC c ≤ posC (bd g t K c D).1 ∧ (kiC (bd g t K c D).1 ≠ 1 → posC c < posC (bd g t K c D).1) := by
  have key : ∀ c', posC c ≤ posC c' → isR (nxC g t c') → posC c ≤ posC (nxC g t c') ∧ (kiC (nxC g t c') ≠ 1 → posC c < posC (nxC g t c')) := fun c' h1 h2 => by
    have := nx_adv ht h2
    exact ⟨by omega, fun z => by have := this.2 z; omega⟩
  rcases (show K = 0 ∨ K = 1 ∨ K = 2 ∨ K = 3 ∨ K = 4 ∨ K = 5 ∨ K = 6 ∨ K = 7 ∨ K = 8 ∨ K = 9 by omega) with rfl | rfl | rfl | rfl | rfl | rfl | rfl | rfl | rfl | rfl
  · exact key _ (it_adv ht 8 (isR_nx h)).1 h
  · exact key _ (pt_adv ht (isR_nx h)).1 h
  · exact key _ (pt_adv ht (isR_nx h)).1 h
  · exact key _ (nm_adv ht (isR_nx h)).2.1 h
  · exact key _ (nm_adv ht (isR_nx h)).2.1 h
  · exact key _ (Nat.le_refl _) h
  · exact key _ (nm_adv ht (isR_nx h)).2.1 h
  · have a := nm_adv ht (isR_nx h)
    have b := nm_adv ht a.1
    exact key _ (Nat.le_trans b.2.1 a.2.1) h
  · exact key _ (nm_adv ht (isR_nx h)).2.1 h
  · have a := ck_adv ht 13 (nxC g t c) 0 (fun _ => 0) rfl (by decide) (fun j hj => absurd hj (by omega)) h
    have b := nx_adv ht a.1
    exact ⟨Nat.le_trans b.1 a.2.1.1, fun z => Nat.lt_of_le_of_lt b.1 (a.2.1.2 z)⟩
theorem stp_R (h : isR (stp c)) : stp c = c ∧ kiC c = 4 := by
  rcases c with p | ⟨a, k, s, v⟩
  · obtain ⟨u, e⟩ := h; cases e
  · by_cases q : k = 4
    · exact ⟨if_pos q, q⟩
    · have e : stp (.inr (a, k, s, v)) = .inl s := if_neg q
      rw [e] at h
      obtain ⟨u, e⟩ := h; cases e
theorem ln_R (h : isR (ln g t c D).1) : ∃ K, K < 10 ∧ ¬ bdC K D ∧ ln g t c D = ((bd g t K c (seD K D)).1, (bd g t K c (seD K D)).2) ∧ kiC (bd g t K c (seD K D)).1 = 4 ∧ isR (bd g t K c (seD K D)).1 := by
  rcases c with p | ⟨a, k, s, v⟩
  · obtain ⟨u, e⟩ := h; cases e
  · have h' : isR (lnB g t (kC g t k s a) (.inr (a, k, s, v)) D).1 := h
    show ∃ K, K < 10 ∧ ¬ bdC K D ∧ lnB g t (kC g t k s a) (.inr (a, k, s, v)) D = _ ∧ _
    have hle : kC g t k s a ≤ 10 := kC_le
    generalize kC g t k s a = K at h' hle ⊢
    unfold lnB at h' ⊢
    by_cases q : bdB K D = true
    · rw [if_pos q] at h'; exact (isR_fl (c := .inr (a, k, s, v)) h').elim
    · rw [if_neg q] at h' ⊢
      have hn : ¬ bdC K D := fun z => q (bdB_t.mpr z)
      have hk : K < 10 := by
        rcases Nat.lt_or_ge K 10 with w | w
        · exact w
        · exact absurd (Or.inl (show K = 10 by omega)) hn
      obtain ⟨s1, s2⟩ := stp_R h'
      refine ⟨K, hk, hn, ?_, s2, isR_stp h'⟩
      rw [s1]
theorem ln_adv (ht : t ≤ 400) (h : isR (ln g t c D).1) : posC c < posC (ln g t c D).1 := by
  obtain ⟨K, hK, -, e, h4, hr⟩ := ln_R h
  rw [e]
  exact (bd_adv ht hK hr).2 (by rw [h4]; decide)
theorem ok_bd (ht : t ≤ 400) {K : Nat} (hK : K < 10) (hb : ¬ bdC K D) (hok : okD D) (h : isR (bd g t K c (seD K D)).1) : okD (bd g t K c (seD K D)).2 := by
  obtain ⟨⟨r0, r1, r2, r3, r4, r5, r6⟩, hw, ⟨n1, n2⟩, hr, h9⟩ := hok
  have s9 : K ≠ 9 → (drS (seD K D) 9 = false → drN D = 0) := fun hk z => h9 (by
    have z' : va_up (drS D) K true 9 = false := z
    rw [va_up_ne _ _ (fun e => hk e.symm)] at z'
    exact z')
  rcases (show K = 0 ∨ K = 1 ∨ K = 2 ∨ K = 3 ∨ K = 4 ∨ K = 5 ∨ K = 6 ∨ K = 7 ∨ K = 8 ∨ K = 9 by omega) with rfl | rfl | rfl | rfl | rfl | rfl | rfl | rfl | rfl | rfl
  · have hr6 : drR D < 6 := Classical.not_not.mp (fun z => hb (Or.inr (Or.inl ⟨rfl, z⟩)))
    have hi := (it_adv ht 8 (isR_nx h)).2
    refine ⟨⟨r0, r1, r2, r3, r4, r5, r6⟩, fun j hj => ⟨(hw j hj).1, (hw j hj).2.1, ?_⟩, ⟨n1, n2⟩, hr6, s9 (by decide)⟩
    show btw 0 (if 8 * drR D ≤ j ∧ j < 8 * drR D + 8 then cv (itC g t 0 99 c (j - 8 * drR D + 1)) else drLi D j) 99
    by_cases q : 8 * drR D ≤ j ∧ j < 8 * drR D + 8
    · rw [if_pos q]; exact hi (j - 8 * drR D) (by omega)
    · rw [if_neg q]; exact (hw j hj).2.2
  · have hp := (pt_adv ht (isR_nx h)).2
    refine ⟨⟨r0, r1, r2, r3, r4, r5, r6⟩, fun j hj => ⟨?_, (hw j hj).2.1, (hw j hj).2.2⟩, ⟨n1, n2⟩, hr, s9 (by decide)⟩
    show btw 0 (if j = (cv (p1C g t c)).toNatClampNeg then cv (ptC g t (drHo D) 99 c) else drHo D j) 99
    by_cases q : j = (cv (p1C g t c)).toNatClampNeg
    · rw [if_pos q]; exact ⟨Int.le_trans (by decide) hp.1, hp.2⟩
    · rw [if_neg q]; exact (hw j hj).1
  · have hp := (pt_adv ht (isR_nx h)).2
    refine ⟨⟨r0, r1, r2, r3, r4, r5, r6⟩, fun j hj => ⟨(hw j hj).1, ?_, (hw j hj).2.2⟩, ⟨n1, n2⟩, hr, s9 (by decide)⟩
    show btw 0 (if j = (cv (p1C g t c)).toNatClampNeg then cv (ptC g t (drTr D) 50 c) else drTr D j) 50
    by_cases q : j = (cv (p1C g t c)).toNatClampNeg
    · rw [if_pos q]; exact ⟨Int.le_trans (by decide) hp.1, hp.2⟩
    · rw [if_neg q]; exact (hw j hj).2.1
  · exact ⟨⟨(nm_adv ht (isR_nx h)).2.2, r1, r2, r3, r4, r5, r6⟩, hw, ⟨n1, n2⟩, hr, s9 (by decide)⟩
  · exact ⟨⟨r0, (nm_adv ht (isR_nx h)).2.2, r2, r3, r4, r5, r6⟩, hw, ⟨n1, n2⟩, hr, s9 (by decide)⟩
  · exact ⟨⟨r0, r1, Or.inr rfl, r3, r4, r5, r6⟩, hw, ⟨n1, n2⟩, hr, s9 (by decide)⟩
  · exact ⟨⟨r0, r1, r2, (nm_adv ht (isR_nx h)).2.2, r4, r5, r6⟩, hw, ⟨n1, n2⟩, hr, s9 (by decide)⟩
  · have a := nm_adv ht (isR_nx h)
    have b := nm_adv ht a.1
    exact ⟨⟨r0, r1, r2, r3, b.2.2, a.2.2, r6⟩, hw, ⟨n1, n2⟩, hr, s9 (by decide)⟩
  · exact ⟨⟨r0, r1, r2, r3, r4, r5, (nm_adv ht (isR_nx h)).2.2⟩, hw, ⟨n1, n2⟩, hr, s9 (by decide)⟩
  · have a := ck_adv ht 13 (nxC g t c) 0 (fun _ => 0) rfl (by decide) (fun j hj => absurd hj (by omega)) h
    refine ⟨⟨r0, r1, r2, r3, r4, r5, r6⟩, hw, a.2.2, hr, fun z => ?_⟩
    have z' : va_up (drS D) 9 true 9 = false := z
    rw [up_eq] at z'
    cases z'
theorem ok_ln (ht : t ≤ 400) (hok : okD D) (h : isR (ln g t c D).1) : okD (ln g t c D).2 := by
  obtain ⟨K, hK, hb, e, -, hr⟩ := ln_R h
  rw [e]
  exact ok_bd ht hK hb hok hr
end ZADV
/-! ALL LINES -/
def lp (g : Nat → Int32) (t : Nat) : Nat → zCu → zDr → Nat → zCu × zDr × Nat
  | 0, c, D, m => (c, D, m)
  | n + 1, c, D, m => if goC c = true then lp g t n (nxC g t (ln g t c D).1) (ln g t c D).2 (m + 1) else (c, D, m)
theorem lp_stop {g : Nat → Int32} {t m : Nat} {c : zCu} {D : zDr} (h : goC c = false) : ∀ n, lp g t n c D m = (c, D, m)
  | 0 => rfl
  | n + 1 => by unfold lp; rw [if_neg (by rw [h]; decide)]
theorem lp_go {g : Nat → Int32} {t m n : Nat} {c : zCu} {D : zDr} (h : goC c = true) (hn : n < 400) : lp g t (400 - n) c D m = lp g t (400 - (n + 1)) (nxC g t (ln g t c D).1) (ln g t c D).2 (m + 1) := by
  rw [show 400 - n = 400 - (n + 1) + 1 by omega]
  conv => lhs; unfold lp
  rw [if_pos h]
def fr0 : Nat → Int32 := fun j => if j = 0 then 200 else if j = 4 then 1 else if j = 5 then 1 else if j = 6 then 3 else 0
def dr0 : zDr := (fr0, fun _ => 0, fun _ => 0, fun _ => 0, 0, fun _ => 0, 0, fun _ => false)
def c00 : zCu := .inr (0, 0, 0, 0)
/-- all that is read of THE TAPE: cursor, draft, how many lines -/
def lpA (g : Nat → Int32) (t : Nat) : zCu × zDr × Nat := lp g t 400 (nxC g t c00) dr0 0
def fnC (t : Nat) (c : zCu) (D : zDr) : zCu := match c with
  | .inl p => .inl p
  | .inr u => if drRu D 6 = 3 ∧ anyW (drW D) (drN D) = true then .inl t else .inr u
def anC (c : zCu) (m : Nat) : Int32 := match c with
  | .inl p => -10 - nI p
  | .inr _ => nI m
theorem ok_0 : okD dr0 := by
  refine ⟨⟨by unfold btw; decide, by unfold btw; decide, Or.inl rfl, by unfold btw; decide, by unfold btw; decide, by unfold btw; decide, by unfold btw; decide⟩, fun j _ => ⟨show btw 0 0 99 by unfold btw; decide, show btw 0 0 50 by unfold btw; decide, show btw 0 0 99 by unfold btw; decide⟩, ⟨by decide, fun j hj => absurd hj (Nat.not_lt_zero _)⟩, by decide, fun _ => rfl⟩
def LI (t : Nat) (I : zI) (i : Nat) (c : zCu) (D : zDr) (J : zI) : Prop := qBd t I J c D ∧ gdC t c ∧ (isR c → okD D) ∧ (goC c = true → i + 1 ≤ posC c) ∧ lp (gB I) t (400 - i) c D i = lpA (gB I) t
theorem dV_0 {I : zI} : dV (bgI I) dr0 := by
  refine ⟨fun j hj => ?_, fun j hj => ?_, fun j hj => ?_, fun j hj => ?_, ⟨rfl, fun j hj => absurd hj (Nat.not_lt_zero _)⟩, rfl, fun k h1 h2 => ?_⟩
  · show rules0 (I 10) j = fr0 j
    rcases (show j = 0 ∨ j = 1 ∨ j = 2 ∨ j = 3 ∨ j = 4 ∨ j = 5 ∨ j = 6 by omega) with rfl | rfl | rfl | rfl | rfl | rfl | rfl <;> rfl
  · show zfill (I 11) 48 0 j = 0
    exact if_pos hj
  · show zfill (I 12) 48 0 j = 0
    exact if_pos hj
  · show zfill (I 14) 48 0 j = 0
    exact if_pos hj
  · have e : bgI I 15 k = 0 := by
      show zfill (I 15) 10 0 k = 0
      exact if_pos h2
    exact ⟨fun _ => rfl, fun _ => e⟩
theorem frDr_bg {I : zI} : frDr I (bgI I) := fun k hk => by
  unfold bgI pl0
  rw [zi_ne (by omega), zi_ne (by omega), zi_ne (by omega), va_up_ne _ _ (by omega), va_up_ne _ _ (by omega), zi_ne (by omega), va_up_ne _ _ (by omega), va_up_ne _ _ (by omega), va_up_ne _ _ (by omega)]
theorem goC_ki {c : zCu} (h : goC c = true) : kiC c ≠ 1 ∧ isR c := by
  rcases c with p | ⟨a, k, s, v⟩
  · cases h
  · refine ⟨fun z => ?_, ⟨_, rfl⟩⟩
    have z' : k = 1 := z
    have h' : (!decide (k = 1)) = true := h
    rw [decide_eq_true z'] at h'
    cases h'
theorem LI_0 {t : Nat} {I J : zI} (ht : t ≤ 400) (hf : fr8 (bgI I) J) (hc : cC t J (nxC (gB I) t c00)) : LI t I 0 (nxC (gB I) t c00) dr0 J := by
  refine ⟨⟨fun k hk => (hf.1 k (by omega)).trans (frDr_bg k hk), hc, ⟨0, by decide, by rw [hf.1 9 (by decide)]; rfl⟩, fun _ => dV_8 hf dV_0⟩, nx_gd ht (fun j _ => gB_n) (fun a k s v e => by
    have e' : (.inr (0, 0, 0, 0) : zCu) = .inr (a, k, s, v) := e
    cases e'; exact Nat.zero_le _), fun _ => ok_0, fun z => ?_, rfl⟩
  have a1 : 0 < posC (nxC (gB I) t c00) := (nx_adv ht (goC_ki z).2).2 (goC_ki z).1
  omega
theorem LI_s {t i : Nat} {I J J1 J2 : zI} {c : zCu} {D : zDr} (ht : t ≤ 400) (h : LI t I i c D J) (hgo : goC c = true) (hi : i < 400) (h1 : qBd t J J1 (ln (gB I) t c D).1 (ln (gB I) t c D).2) (hf : fr8 J1 J2) (hc2 : cC t J2 (nxC (gB I) t (ln (gB I) t c D).1)) : LI t I (i + 1) (nxC (gB I) t (ln (gB I) t c D).1) (ln (gB I) t c D).2 J2 := by
  obtain ⟨⟨q1, q2, q3, q4⟩, hg, hok, hp, hl⟩ := h
  have hq := qBd_8 h1 hf hc2 (fun z => isR_nx z)
  refine ⟨⟨fun k hk => (hq.1 k hk).trans (q1 k hk), hq.2.1, hq.2.2.1, hq.2.2.2⟩, ?_, fun z => ok_ln ht (hok (goC_ki hgo).2) (isR_nx z), fun z => ?_, ?_⟩
  · exact nx_gd ht (fun j _ => gB_n) (fun a k s v e => by have := h1.2.1; rw [e] at this; exact this.2.2.2.2.2.1)
  · have a1 := (nx_adv ht (goC_ki z).2).2 (goC_ki z).1
    have a2 := ln_adv ht (isR_nx (goC_ki z).2)
    have a3 := hp hgo
    omega
  · rw [← hl, lp_go hgo hi]
theorem gd_pos {t : Nat} {c : zCu} (h : gdC t c) : posC c ≤ t := by
  rcases c with p | ⟨a, k, s, v⟩
  · exact Nat.zero_le _
  · exact h.2.1
theorem LI_e {t : Nat} {I J : zI} {c : zCu} {D : zDr} (ht : t ≤ 400) (h : LI t I 400 c D J) : goC c = false := by
  cases q : goC c with
  | false => rfl
  | true =>
    have a1 := h.2.2.2.1 q
    have a2 := gd_pos h.2.1
    omega
theorem goC_f1 {t : Nat} {J : zI} {c : zCu} (hc : cC t J c) (h : ¬ J 8 10 = 0) : goC c = false := by
  rcases c with p | ⟨a, k, s, v⟩
  · rfl
  · exact absurd hc.1 h
theorem goC_f2 {t : Nat} {J : zI} {c : zCu} (hc : cC t J c) (h : J 8 5 = 1) : goC c = false := by
  rcases c with p | ⟨a, k, s, v⟩
  · rfl
  · obtain ⟨c1, c2, c3, c4, c5, c6, c7⟩ := hc
    have : k = 1 := (nI_eq (a := k) (b := 1) (by omega) (by decide)).mp (c3.symm.trans h)
    show (!decide (k = 1)) = false
    rw [decide_eq_true this]; rfl
theorem goC_sh {t : Nat} {J : zI} {c : zCu} (hc : cC t J c) (h1 : J 8 10 = 0) (h2 : ¬ J 8 5 = 1) : ∃ a k s v, c = .inr (a, k, s, v) ∧ goC (.inr (a, k, s, v)) = true := by
  rcases c with p | ⟨a, k, s, v⟩
  · exact absurd h1 hc.1
  · refine ⟨a, k, s, v, rfl, ?_⟩
    show (!decide (k = 1)) = true
    rw [decide_eq_false (fun z => h2 (by rw [hc.2.2.1, z]; rfl))]; rfl
def lkF (J : zI) (n : Nat) : zI := if J 10 6 = 3 then lkJ J n else J
def wdO (D : zDr) : Prop := ¬ (drRu D 6 = 3 ∧ anyW (drW D) (drN D) = true)
def cE (J : zI) (fc : zCu) (D : zDr) : Prop := match fc with
  | .inl p => ¬ J 8 10 = 0 ∧ J 8 9 = nI p
  | .inr _ => J 8 10 = 0 ∧ dV J D ∧ okD D ∧ wdO D
theorem anyW_c {f f' : Nat → Int32} : ∀ n, (∀ j, j < n → f j = f' j) → anyW f n = anyW f' n
  | 0, _ => rfl
  | n + 1, h => by
    show (anyW f n || decide (7 < f n)) = (anyW f' n || decide (7 < f' n))
    rw [anyW_c n (fun j hj => h j (by omega)), h n (by omega)]
theorem lkF_k {J : zI} {n k : Nat} (h : k ≠ 8) : lkF J n k = J k := by
  unfold lkF
  by_cases q : J 10 6 = 3
  · rw [if_pos q, lkJ_k h]
  · rw [if_neg q]
theorem lkF_f {J : zI} {n : Nat} (h : ¬ J 8 10 = 0) : lkF J n = J := by
  have e : lkT J = J := by unfold lkT; rw [if_neg h]
  unfold lkF lkJ
  rw [e, ite_self, ite_self]
theorem lk_fin {t n : Nat} {I J : zI} {c : zCu} {D : zDr} (hq : qBd t I J c D) (hok : isR c → okD D) (h11 : J 1 1 = nI t) (hn : n ≤ 12) (h94 : J 9 4 = nI n) : frDr I (lkF J n) ∧ cE (lkF J n) (fnC t c D) D := by
  obtain ⟨q1, q2, q3, q4⟩ := hq
  refine ⟨fun k hk => (lkF_k (by omega)).trans (q1 k hk), ?_⟩
  rcases c with p | u
  · have h0 : ¬ J 8 10 = 0 := q2.1
    rw [lkF_f h0]
    exact q2
  · have hd := q4 ⟨u, rfl⟩
    have hkD := hok ⟨u, rfl⟩
    have h0 : J 8 10 = 0 := by obtain ⟨a, k, s, v⟩ := u; exact q2.1
    have en : n = drN D := (nI_eq (by omega) (by have := hkD.2.2.1.1; omega)).mp (h94.symm.trans hd.2.2.2.2.1.1)
    have e6 : J 10 6 = drRu D 6 := hd.1 6 (by decide)
    have ew : anyW (J 13) n = anyW (drW D) (drN D) := by rw [en]; exact anyW_c _ hd.2.2.2.2.1.2
    show cE (lkF J n) (if drRu D 6 = 3 ∧ anyW (drW D) (drN D) = true then .inl t else .inr u) D
    by_cases z : drRu D 6 = 3 ∧ anyW (drW D) (drN D) = true
    · rw [if_pos z]
      have e : lkF J n = zi (zi J 8 10 6) 8 9 (J 1 1) := by
        unfold lkF lkJ lkT
        rw [if_pos (by rw [e6]; exact z.1), if_pos (by rw [ew]; exact z.2), if_pos h0]
      rw [e]
      exact ⟨show ¬ (6 : Int32) = 0 by decide, h11⟩
    · rw [if_neg z]
      have e : lkF J n = J := by
        unfold lkF lkJ
        by_cases y : J 10 6 = 3
        · rw [if_pos y, if_neg (fun w => z ⟨by rw [← e6]; exact y, by rw [← ew]; exact w⟩)]
        · rw [if_neg y]
      rw [e]
      exact ⟨h0, hd, hkD, z⟩
theorem anC_1 {J : zI} {fc : zCu} {D : zDr} {m : Nat} (h : cE J fc D) (h0 : J 8 10 = 0) : anC fc m = nI m := by
  rcases fc with p | u
  · exact absurd h0 h.1
  · rfl
theorem anC_2 {J : zI} {fc : zCu} {D : zDr} {m : Nat} (h : cE J fc D) (h0 : ¬ J 8 10 = 0) : anC fc m = -10 - J 8 9 := by
  rcases fc with p | u
  · rw [h.2]; rfl
  · exact absurd h.1 h0
abbrev fcA (g : Nat → Int32) (t : Nat) : zCu := fnC t (lpA g t).1 (lpA g t).2.1
def qRA (t : Nat) (I : zI) (L : zL) (R : zR) : Option Value → zSh → zI → zL → zR → Prop := fun r Sh1 I1 L1 R1 => r = some (.int (anC (fcA (gB I) t) (lpA (gB I) t).2.2)) ∧ Sh1 = zShF ∧ L1 = L ∧ R1 = R ∧ frDr I I1 ∧ cE I1 (fcA (gB I) t) (lpA (gB I) t).2.1
set_option maxRecDepth 100000 in
set_option maxHeartbeats 4000000 in
theorem ct_X4_readAll {E : zE} {I : zI} {L : zL} {R : zR} {t : Nat} (hR : zLx R) (h1 : I 1 1 = nI t) (ht : t ≤ 400) : zCt E m_X4_readAll zShF [.ref 8] I L R (qRA t I L R) := by
  refine z_met (by decide) [some (.ref 8), none, none] rfl rfl (Nat.le_of_ble_eq_true rfl) (fun X => ?_)
  refine z_aload_n d_X4_readAll_0 rfl ?_
  refine z_cVv d_X4_readAll_1 q_X4_readAll_30 (by first | rfl | assumption) (by omega) ⟨rfl, rfl⟩ (ct_X4_begin hR) rfl rfl rfl ⟨Nat.zero_le _, Nat.zero_le _⟩ ?_
  refine z_iconst d_X4_readAll_4 ki_0 ?_
  refine z_istore1 d_X4_readAll_5 rfl ?_
  refine z_aload_n d_X4_readAll_6 rfl ?_
  refine z_rV d_X4_readAll_7 q_X4_readAll_33 (by first | rfl | assumption) (by omega) ⟨rfl, rfl⟩ (ct_fetchA (c := c00) hR (show bgI I 1 1 = nI t from h1) ht ⟨rfl, rfl, Nat.zero_le _⟩) rfl rfl rfl ⟨Nat.zero_le _, Nat.zero_le _⟩ (fun r_7 Sh_7 I_7 L_7 R_7 hq_7 => ?_)
  obtain ⟨rfl, rfl, rfl, rfl, hf, hc, -⟩ := hq_7
  have hc' : cC t I_7 (nxC (gB I) t c00) := hc
  refine z_iconst d_X4_readAll_10 ki_0 ?_
  refine z_istore2 d_X4_readAll_11 rfl ?_
  have loop : ∀ (Qs : State → Prop), (∀ i J c D, LI t I i c D J → goC c = false → zZ E m_X4_readAll X Qs zShF 0 0 51 [some (.ref 8), some (.int (nI i)), some (.int (nI i))] [] J L_7 R_7) → ∀ i, i ≤ 400 → ∀ J c D, LI t I i c D J → zZ E m_X4_readAll X Qs zShF 0 0 12 [some (.ref 8), some (.int (nI i)), some (.int (nI i))] [] J L_7 R_7 := by
    intro Qs hx
    refine up_rec (fun i hi' ih J c D hJ => ?_)
    have hJ1 : J 1 1 = nI t := by rw [hJ.1.1 1 (by decide)]; exact h1
    have hJg : gB J = gB I := gB_c (hJ.1.1 2 (by decide))
    refine z_iload_n d_X4_readAll_12 rfl ?_
    refine z_sipush d_X4_readAll_13 ks_400 ?_
    refine z_icmp_ge d_X4_readAll_16 (fun h_16 => ?_) (fun h_16 => ?_)
    · obtain rfl := eq_of_ge (n := 400) (by decide) hi' h_16
      exact hx _ _ _ _ hJ (LI_e ht hJ)
    · have hlt := lt_of_nge (n := 400) (by decide) h_16 (by omega)
      refine z_aload_n d_X4_readAll_19 rfl ?_
      refine z_getI d_X4_readAll_20 f_X4_36 (by first | rfl | assumption) (by omega) ?_
      refine z_if_ne d_X4_readAll_23 (fun h_23 => ?_) (fun h_23 => ?_)
      · exact hx _ _ _ _ hJ (goC_f1 hJ.1.2.1 h_23)
      · refine z_aload_n d_X4_readAll_26 rfl ?_
        refine z_getI d_X4_readAll_27 f_X4_40 (by first | rfl | assumption) (by omega) ?_
        refine z_iconst d_X4_readAll_30 ki_1 ?_
        refine z_icmp_eq d_X4_readAll_31 (fun h_31 => ?_) (fun h_31 => ?_)
        · exact hx _ _ _ _ hJ (goC_f2 hJ.1.2.1 h_31)
        · obtain ⟨a, k, s, v, rfl, hgo⟩ := goC_sh hJ.1.2.1 h_23 h_31
          refine z_aload_n d_X4_readAll_34 rfl ?_
          refine z_rV d_X4_readAll_35 q_X4_readAll_43 (by first | rfl | assumption) (by omega) ⟨rfl, rfl⟩ (ct_X4_readLine hR hJ1 ht hJ.1.2.1 hJ.2.1 (hJ.1.2.2.2 ⟨_, rfl⟩) (hJ.2.2.1 ⟨_, rfl⟩)) rfl rfl rfl ⟨Nat.zero_le _, Nat.zero_le _⟩ (fun r_35 Sh_35 I_35 L_35 R_35 hq_35 => ?_)
          obtain ⟨rfl, rfl, rfl, rfl, hq⟩ := hq_35
          rw [hJg] at hq
          have hK1 : I_35 1 1 = nI t := by rw [hq.1 1 (by decide)]; exact hJ1
          refine z_iinc1 d_X4_readAll_38 ki_1 rfl ?_
          refine z_aload_n d_X4_readAll_41 rfl ?_
          refine z_rV d_X4_readAll_42 q_X4_readAll_33 (by first | rfl | assumption) (by omega) ⟨rfl, rfl⟩ (ct_fetch hR hK1 ht hq.2.1) rfl rfl rfl ⟨Nat.zero_le _, Nat.zero_le _⟩ (fun r_42 Sh_42 I_42 L_42 R_42 hq_42 => ?_)
          obtain ⟨rfl, rfl, rfl, rfl, hf2, hc2, -⟩ := hq_42
          rw [gB_c (hq.1 2 (by decide)), hJg] at hc2
          refine z_iinc2 d_X4_readAll_45 ki_1 rfl ?_
          refine z_goto d_X4_readAll_48 ?_
          rw [nI_1]
          exact ih hlt _ _ _ (LI_s ht hJ hgo hlt hq hf2 hc2)
  refine loop _ (fun i J c D hJ hgo => ?_) 0 (Nat.zero_le 400) _ _ _ (LI_0 ht hf hc')
  have hJ1 : J 1 1 = nI t := by rw [hJ.1.1 1 (by decide)]; exact h1
  obtain ⟨n, hn, h94⟩ := hJ.1.2.2.1
  have hfin := lk_fin hJ.1 hJ.2.2.1 hJ1 hn h94
  have hl : (c, D, i) = lpA (gB I) t := by rw [← hJ.2.2.2.2, lp_stop hgo]
  refine z_aload_n d_X4_readAll_51 rfl ?_
  refine z_cVv d_X4_readAll_52 q_X4_readAll_46 (by first | rfl | assumption) (by omega) ⟨rfl, rfl⟩ (ct_X4_lookAtWords hR h94 hn) rfl rfl rfl ⟨Nat.zero_le _, Nat.zero_le _⟩ ?_
  refine z_aload_n d_X4_readAll_55 rfl ?_
  refine z_getI d_X4_readAll_56 f_X4_36 (by first | rfl | assumption) (by omega) ?_
  refine z_if_ne d_X4_readAll_59 (fun h_59 => ?_) (fun h_59 => ?_)
  · refine z_bipush d_X4_readAll_66 kb_m10 ?_
    refine z_aload_n d_X4_readAll_68 rfl ?_
    refine z_getI d_X4_readAll_69 f_X4_49 (by first | rfl | assumption) (by omega) ?_
    refine z_isub d_X4_readAll_72 ?_
    exact z_ireturn d_X4_readAll_73 rfl (by
      have e1 : (lpA (gB I) t).1 = c := by rw [← hl]
      have e2 : (lpA (gB I) t).2.1 = D := by rw [← hl]
      have e3 : (lpA (gB I) t).2.2 = i := by rw [← hl]
      unfold qRA fcA
      rw [e1, e2, e3]
      refine ⟨?_, rfl, rfl, rfl, hfin.1, hfin.2⟩
      first
        | rw [anC_1 hfin.2 h_59]
        | rw [anC_2 hfin.2 h_59]; rfl)
  · refine z_iload_n d_X4_readAll_62 rfl ?_
    refine z_goto d_X4_readAll_63 ?_
    exact z_ireturn d_X4_readAll_73 rfl (by
      have e1 : (lpA (gB I) t).1 = c := by rw [← hl]
      have e2 : (lpA (gB I) t).2.1 = D := by rw [← hl]
      have e3 : (lpA (gB I) t).2.2 = i := by rw [← hl]
      unfold qRA fcA
      rw [e1, e2, e3]
      refine ⟨?_, rfl, rfl, rfl, hfin.1, hfin.2⟩
      first
        | rw [anC_1 hfin.2 h_59]
        | rw [anC_2 hfin.2 h_59]; rfl)
def qXT (t : Nat) (I : zI) (L : zL) (R : zR) : Option Value → zSh → zI → zL → zR → Prop := fun r Sh1 I1 L1 R1 => r = some (.int (anC (fcA (gB I) t) (lpA (gB I) t).2.2)) ∧ Sh1 = zShF ∧ R1 = R ∧ ∃ J, frDr I J ∧ cE J (fcA (gB I) t) (lpA (gB I) t).2.1 ∧ ((¬ J 8 10 = 0 ∧ I1 = zi J 1 1 0 ∧ L1 = L) ∨ (J 8 10 = 0 ∧ I1 = tellI (zi J 1 1 0) L ∧ L1 = qL L 16 (drQ (qOf (zi J 1 1 0) L 16))))
set_option maxRecDepth 100000 in
set_option maxHeartbeats 4000000 in
theorem ct_X7_text {E : zE} {I : zI} {L : zL} {R : zR} {t : Nat} (hR : zLx R) (h1 : I 1 1 = nI t) (ht : t ≤ 400) : zCt E m_X7_text zShF [.ref 0] I L R (qXT t I L R) := by
  refine z_met (by decide) [some (.ref 0), none] rfl rfl (Nat.le_of_ble_eq_true rfl) (fun X => ?_)
  refine z_aload_n d_X7_text_0 rfl ?_
  refine z_getR d_X7_text_1 f_X7_28 (by first | rfl | assumption) (by omega) (by first | exact hR _ _ _ rfl | rfl | assumption) ?_
  refine z_rV d_X7_text_4 q_X7_text_79 (by first | rfl | assumption) (by omega) ⟨rfl, rfl⟩ (ct_X4_readAll hR h1 ht) rfl rfl rfl ⟨Nat.zero_le _, Nat.zero_le _⟩ (fun r_4 Sh_4 I_4 L_4 R_4 hq_4 => ?_)
  obtain ⟨rfl, rfl, rfl, rfl, hf, hcE⟩ := hq_4
  refine z_istore1 d_X7_text_7 rfl ?_
  refine z_aload_n d_X7_text_8 rfl ?_
  refine z_getR d_X7_text_9 f_X7_12 (by first | rfl | assumption) (by omega) (by first | exact hR _ _ _ rfl | rfl | assumption) ?_
  refine z_iconst d_X7_text_12 ki_0 ?_
  refine z_putI d_X7_text_13 f_X7_75 p_X6_1 (by first | rfl | assumption) (by omega) ?_
  refine z_aload_n d_X7_text_16 rfl ?_
  refine z_getR d_X7_text_17 f_X7_28 (by first | rfl | assumption) (by omega) (by first | exact hR _ _ _ rfl | rfl | assumption) ?_
  refine z_getI d_X7_text_20 f_X7_83 (by first | rfl | assumption) (by omega) ?_
  refine z_if_ne d_X7_text_23 (fun h_23 => ?_) (fun h_23 => ?_)
  · refine z_iload_n d_X7_text_30 rfl ?_
    exact z_ireturn d_X7_text_31 rfl (by
      refine ⟨rfl, rfl, rfl, I_4, hf, hcE, ?_⟩
      first
        | exact Or.inl ⟨h_23, rfl, rfl⟩
        | exact Or.inr ⟨h_23, rfl, rfl⟩)
  · refine z_aload_n d_X7_text_26 rfl ?_
    refine z_cVv d_X7_text_27 q_X7_text_86 (by first | rfl | assumption) (by omega) ⟨rfl, rfl⟩ (ct_X7_tellAll hR) rfl rfl rfl ⟨Nat.zero_le _, Nat.zero_le _⟩ ?_
    refine z_iload_n d_X7_text_30 rfl ?_
    exact z_ireturn d_X7_text_31 rfl (by
      refine ⟨rfl, rfl, rfl, I_4, hf, hcE, ?_⟩
      first
        | exact Or.inl ⟨h_23, rfl, rfl⟩
        | exact Or.inr ⟨h_23, rfl, rfl⟩)
