/-! THE DRAFT: rules, hot, trap, light, how many WORDS, WORDS, rows, lines seen -/
abbrev zDr : Type := (Nat → Int32) × (Nat → Int32) × (Nat → Int32) × (Nat → Int32) × Nat × (Nat → Int32) × Nat × (Nat → Bool)
abbrev drRu (D : zDr) : Nat → Int32 := D.1
abbrev drHo (D : zDr) : Nat → Int32 := D.2.1
abbrev drTr (D : zDr) : Nat → Int32 := D.2.2.1
abbrev drLi (D : zDr) : Nat → Int32 := D.2.2.2.1
abbrev drN (D : zDr) : Nat := D.2.2.2.2.1
abbrev drW (D : zDr) : Nat → Int32 := D.2.2.2.2.2.1
abbrev drR (D : zDr) : Nat := D.2.2.2.2.2.2.1
abbrev drS (D : zDr) : Nat → Bool := D.2.2.2.2.2.2.2
def rwF (g : Nat → Int32) (t : Nat) (c : zCu) (r : Nat) (li : Nat → Int32) : Nat → Int32 := fun j => if 8 * r ≤ j ∧ j < 8 * r + 8 then cv (itC g t 0 99 c (j - 8 * r + 1)) else li j
def ptF (g : Nat → Int32) (t : Nat) (f : Nat → Int32) (most : Int32) (c : zCu) : Nat → Int32 := fun j => if j = (cv (p1C g t c)).toNatClampNeg then cv (ptC g t f most c) else f j
def nmC (g : Nat → Int32) (t : Nat) (lo hi : Int32) (c : zCu) : zCu := chC lo hi (nxC g t c)
/-- a line behind its NAME: the cursor at the TOKEN behind all NUMBERS, the draft then -/
def bd (g : Nat → Int32) (t : Nat) (K : Nat) (c : zCu) (D : zDr) : zCu × zDr := match K with
  | 0 => (nxC g t (itC g t 0 99 c 8), (drRu D, drHo D, drTr D, rwF g t c (drR D) (drLi D), drN D, drW D, drR D + 1, drS D))
  | 1 => (nxC g t (ptC g t (drHo D) 99 c), (drRu D, ptF g t (drHo D) 99 c, drTr D, drLi D, drN D, drW D, drR D, drS D))
  | 2 => (nxC g t (ptC g t (drTr D) 50 c), (drRu D, drHo D, ptF g t (drTr D) 50 c, drLi D, drN D, drW D, drR D, drS D))
  | 3 => (nxC g t (nmC g t 1 999 c), (va_up (drRu D) 0 (cv (nmC g t 1 999 c)), drHo D, drTr D, drLi D, drN D, drW D, drR D, drS D))
  | 4 => (nxC g t (nmC g t 0 9 c), (va_up (drRu D) 1 (cv (nmC g t 0 9 c)), drHo D, drTr D, drLi D, drN D, drW D, drR D, drS D))
  | 5 => (nxC g t c, (va_up (drRu D) 2 1, drHo D, drTr D, drLi D, drN D, drW D, drR D, drS D))
  | 6 => (nxC g t (nmC g t 0 9 c), (va_up (drRu D) 3 (cv (nmC g t 0 9 c)), drHo D, drTr D, drLi D, drN D, drW D, drR D, drS D))
  | 7 => (nxC g t (nmC g t 1 99 (nmC g t 1 9 c)), (va_up (va_up (drRu D) 4 (cv (nmC g t 1 9 c))) 5 (cv (nmC g t 1 99 (nmC g t 1 9 c))), drHo D, drTr D, drLi D, drN D, drW D, drR D, drS D))
  | 8 => (nxC g t (nmC g t 3 4 c), (va_up (drRu D) 6 (cv (nmC g t 3 4 c)), drHo D, drTr D, drLi D, drN D, drW D, drR D, drS D))
  | _ => ((ckWC g t 13 (nxC g t c) 0 (fun _ => 0)).1, (drRu D, drHo D, drTr D, drLi D, (ckWC g t 13 (nxC g t c) 0 (fun _ => 0)).2.1, (ckWC g t 13 (nxC g t c) 0 (fun _ => 0)).2.2, drR D, drS D))
def stp (c : zCu) : zCu := match c with
  | .inl p => .inl p
  | .inr (a, k, s, v) => if k = 4 then .inr (a, k, s, v) else .inl s
def seD (K : Nat) (D : zDr) : zDr := (drRu D, drHo D, drTr D, drLi D, drN D, drW D, drR D, va_up (drS D) K true)
def bdC (K : Nat) (D : zDr) : Prop := K = 10 ∨ (K = 0 ∧ ¬ drR D < 6) ∨ (3 ≤ K ∧ drS D K = true)
def bdB (K : Nat) (D : zDr) : Bool := decide (K = 10) || ((decide (K = 0) && !decide (drR D < 6)) || (decide (3 ≤ K) && drS D K))
theorem bdB_t {K : Nat} {D : zDr} : bdB K D = true ↔ bdC K D := by
  unfold bdB bdC
  simp
def lnB (g : Nat → Int32) (t K : Nat) (c : zCu) (D : zDr) : zCu × zDr := if bdB K D = true then (flC c, D) else (stp (bd g t K c (seD K D)).1, (bd g t K c (seD K D)).2)
def kC (g : Nat → Int32) (t k s a : Nat) : Nat := if k = 2 then kd g t s a else 10
/-- a line -/
def ln (g : Nat → Int32) (t : Nat) (c : zCu) (D : zDr) : zCu × zDr := match c with
  | .inl p => (.inl p, D)
  | .inr (a, k, s, v) => lnB g t (kC g t k s a) (.inr (a, k, s, v)) D
theorem kC_le {g : Nat → Int32} {t k s a : Nat} : kC g t k s a ≤ 10 := by
  unfold kC
  by_cases h : k = 2
  · rw [if_pos h]; exact kd_le
  · rw [if_neg h]; exact Nat.le_refl _
def dV (I : zI) (D : zDr) : Prop := (∀ j, j < 7 → I 10 j = drRu D j) ∧ (∀ j, j < 48 → I 11 j = drHo D j) ∧ (∀ j, j < 48 → I 12 j = drTr D j) ∧ (∀ j, j < 48 → I 14 j = drLi D j) ∧ (I 9 4 = nI (drN D) ∧ ∀ j, j < drN D → I 13 j = drW D j) ∧ I 8 8 = nI (drR D) ∧ (∀ k, 3 ≤ k → k < 10 → (I 15 k = 0 ↔ drS D k = false))
def btw (lo : Int) (x : Int32) (hi : Int) : Prop := lo ≤ x.toInt ∧ x.toInt ≤ hi
def okD (D : zDr) : Prop := (btw 1 (drRu D 0) 999 ∧ btw 0 (drRu D 1) 9 ∧ (drRu D 2 = 0 ∨ drRu D 2 = 1) ∧ btw 0 (drRu D 3) 9 ∧ btw 1 (drRu D 4) 9 ∧ btw 1 (drRu D 5) 99 ∧ btw 3 (drRu D 6) 4) ∧ (∀ j, j < 48 → btw 0 (drHo D j) 99 ∧ btw 0 (drTr D j) 50 ∧ btw 0 (drLi D j) 99) ∧ (drN D ≤ 12 ∧ ∀ j, j < drN D → btw 0 (drW D j) 15) ∧ drR D ≤ 6 ∧ (drS D 9 = false → drN D = 0)
def frDr (I J : zI) : Prop := ∀ k, (k < 8 ∨ 15 < k) → J k = I k
def qBd (t : Nat) (I J : zI) (c : zCu) (D : zDr) : Prop := frDr I J ∧ cC t J c ∧ (∃ n, n ≤ 12 ∧ J 9 4 = nI n) ∧ (isR c → dV J D)
theorem dV_8 {J K : zI} {D : zDr} (hf : fr8 J K) (h : dV J D) : dV K D := by
  obtain ⟨d1, d2, d3, d4, ⟨d5, d6⟩, d7, d8⟩ := h
  refine ⟨fun j hj => ?_, fun j hj => ?_, fun j hj => ?_, fun j hj => ?_, ⟨?_, fun j hj => ?_⟩, ?_, fun k h1 h2 => ?_⟩
  · rw [hf.1 10 (by decide)]; exact d1 j hj
  · rw [hf.1 11 (by decide)]; exact d2 j hj
  · rw [hf.1 12 (by decide)]; exact d3 j hj
  · rw [hf.1 14 (by decide)]; exact d4 j hj
  · rw [hf.1 9 (by decide)]; exact d5
  · rw [hf.1 13 (by decide)]; exact d6 j hj
  · rw [hf.2]; exact d7
  · rw [hf.1 15 (by decide)]; exact d8 k h1 h2
theorem qBd_8 {t : Nat} {I J K : zI} {c c' : zCu} {D : zDr} (h : qBd t I J c D) (hf : fr8 J K) (hc : cC t K c') (hr : isR c' → isR c) : qBd t I K c' D := by
  obtain ⟨h1, h2, ⟨n, hn, hn2⟩, h4⟩ := h
  exact ⟨fun k hk => (hf.1 k (by omega)).trans (h1 k hk), hc, ⟨n, hn, by rw [hf.1 9 (by decide)]; exact hn2⟩, fun z => dV_8 hf (h4 (hr z))⟩
theorem isR_stp {c : zCu} (h : isR (stp c)) : isR c := by
  rcases c with p | u
  · obtain ⟨u, e⟩ := h; cases e
  · exact ⟨u, rfl⟩
theorem stp_4 {t : Nat} {J : zI} {c : zCu} (hc : cC t J c) (h : J 8 5 = 4) : stp c = c := by
  rcases c with p | ⟨a, k, s, v⟩
  · rfl
  · obtain ⟨c1, c2, c3, c4, c5, c6, c7⟩ := hc
    have : k = 4 := (nI_eq (a := k) (b := 4) (by omega) (by decide)).mp (c3.symm.trans h)
    show (if k = 4 then _ else _) = _
    rw [if_pos this]
theorem stp_n {t : Nat} {J : zI} {c : zCu} (hc : cC t J c) (h : ¬ J 8 5 = 4) : stp c = flC c := by
  rcases c with p | ⟨a, k, s, v⟩
  · rfl
  · obtain ⟨c1, c2, c3, c4, c5, c6, c7⟩ := hc
    have : ¬ k = 4 := fun z => h (by rw [c3, z]; rfl)
    show (if k = 4 then _ else _) = _
    rw [if_neg this]; rfl
section ZBQ
variable {t : Nat} {g : Nat → Int32} {I J0 J : zI} {c : zCu} {D : zDr}
theorem bq0 (hF : frDr I J0) (hg : gB J0 = g) (hn : ∃ n, n ≤ 12 ∧ J0 9 4 = nI n) (hD : dV J0 D) (h : rwI t J0 (drR D) c 8 J) : qBd t I (zi J 8 8 (nI (drR D + 1))) (itC g t 0 99 c 8) (bd g t 0 c D).2 := by
  subst hg
  obtain ⟨h1, h2, h3, h4⟩ := h
  obtain ⟨d1, d2, d3, d4, ⟨d5, d6⟩, d7, d8⟩ := hD
  obtain ⟨n, hn1, hn2⟩ := hn
  refine ⟨fun k hk => by rw [zi_ne (by omega), h1 k (by omega) (by omega)]; exact hF k hk, cC_s (fun s hs => by rw [zi_eq, va_up_ne _ _ hs]) h3, ⟨n, hn1, by rw [zi_ne (by decide), h1 9 (by decide) (by decide)]; exact hn2⟩, fun hr => ⟨fun j hj => ?_, fun j hj => ?_, fun j hj => ?_, fun j hj => ?_, ⟨?_, fun j hj => ?_⟩, ?_, fun k a b => ?_⟩⟩
  · rw [zi_ne (by decide), h1 10 (by decide) (by decide)]; exact d1 j hj
  · rw [zi_ne (by decide), h1 11 (by decide) (by decide)]; exact d2 j hj
  · rw [zi_ne (by decide), h1 12 (by decide) (by decide)]; exact d3 j hj
  · rw [zi_ne (by decide), h4 hr j hj, d4 j hj]; rfl
  · rw [zi_ne (by decide), h1 9 (by decide) (by decide)]; exact d5
  · rw [zi_ne (by decide), h1 13 (by decide) (by decide)]; exact d6 j hj
  · rw [zi_eq, up_eq]; rfl
  · rw [zi_ne (by decide), h1 15 (by decide) (by decide)]; exact d8 k a b
theorem bq1 (hF : frDr I J0) (hg : gB J0 = g) (hn : ∃ n, n ≤ 12 ∧ J0 9 4 = nI n) (hD : dV J0 D) (h1 : ∀ k, k ≠ 8 → k ≠ 11 → J k = J0 k) (h2 : J 8 8 = J0 8 8) (h3 : cC t J (ptC (gB J0) t (J0 11) 99 c)) (h4 : isR (ptC (gB J0) t (J0 11) 99 c) → ∀ j, J 11 j = if j = (cv (p1C (gB J0) t c)).toNatClampNeg then cv (ptC (gB J0) t (J0 11) 99 c) else J0 11 j) (e : ptC (gB J0) t (J0 11) 99 c = ptC (gB J0) t (drHo D) 99 c) : qBd t I J (ptC g t (drHo D) 99 c) (bd g t 1 c D).2 := by
  subst hg
  rw [e] at h3 h4
  obtain ⟨d1, d2, d3, d4, ⟨d5, d6⟩, d7, d8⟩ := hD
  obtain ⟨n, hn1, hn2⟩ := hn
  refine ⟨fun k hk => by rw [h1 k (by omega) (by omega)]; exact hF k hk, h3, ⟨n, hn1, by rw [h1 9 (by decide) (by decide)]; exact hn2⟩, fun hr => ⟨fun j hj => ?_, fun j hj => ?_, fun j hj => ?_, fun j hj => ?_, ⟨?_, fun j hj => ?_⟩, ?_, fun k a b => ?_⟩⟩
  · rw [h1 10 (by decide) (by decide)]; exact d1 j hj
  · rw [h4 hr j, d2 j hj]; rfl
  · rw [h1 12 (by decide) (by decide)]; exact d3 j hj
  · rw [h1 14 (by decide) (by decide)]; exact d4 j hj
  · rw [h1 9 (by decide) (by decide)]; exact d5
  · rw [h1 13 (by decide) (by decide)]; exact d6 j hj
  · rw [h2]; exact d7
  · rw [h1 15 (by decide) (by decide)]; exact d8 k a b
theorem bq2 (hF : frDr I J0) (hg : gB J0 = g) (hn : ∃ n, n ≤ 12 ∧ J0 9 4 = nI n) (hD : dV J0 D) (h1 : ∀ k, k ≠ 8 → k ≠ 12 → J k = J0 k) (h2 : J 8 8 = J0 8 8) (h3 : cC t J (ptC (gB J0) t (J0 12) 50 c)) (h4 : isR (ptC (gB J0) t (J0 12) 50 c) → ∀ j, J 12 j = if j = (cv (p1C (gB J0) t c)).toNatClampNeg then cv (ptC (gB J0) t (J0 12) 50 c) else J0 12 j) (e : ptC (gB J0) t (J0 12) 50 c = ptC (gB J0) t (drTr D) 50 c) : qBd t I J (ptC g t (drTr D) 50 c) (bd g t 2 c D).2 := by
  subst hg
  rw [e] at h3 h4
  obtain ⟨d1, d2, d3, d4, ⟨d5, d6⟩, d7, d8⟩ := hD
  obtain ⟨n, hn1, hn2⟩ := hn
  refine ⟨fun k hk => by rw [h1 k (by omega) (by omega)]; exact hF k hk, h3, ⟨n, hn1, by rw [h1 9 (by decide) (by decide)]; exact hn2⟩, fun hr => ⟨fun j hj => ?_, fun j hj => ?_, fun j hj => ?_, fun j hj => ?_, ⟨?_, fun j hj => ?_⟩, ?_, fun k a b => ?_⟩⟩
  · rw [h1 10 (by decide) (by decide)]; exact d1 j hj
  · rw [h1 11 (by decide) (by decide)]; exact d2 j hj
  · rw [h4 hr j, d3 j hj]; rfl
  · rw [h1 14 (by decide) (by decide)]; exact d4 j hj
  · rw [h1 9 (by decide) (by decide)]; exact d5
  · rw [h1 13 (by decide) (by decide)]; exact d6 j hj
  · rw [h2]; exact d7
  · rw [h1 15 (by decide) (by decide)]; exact d8 k a b
/-- a rule -/
theorem bqR {D' : zDr} {i : Nat} {x y : Int32} {c' : zCu} (h : qBd t I J c D) (hf : fr8 J J0) (hc : cC t J0 c') (hr : isR c' → isR c) (hx : isR c' → x = y) (hD' : D' = (va_up (drRu D) i y, drHo D, drTr D, drLi D, drN D, drW D, drR D, drS D)) : qBd t I (zi J0 10 i x) c' D' := by
  obtain ⟨h1, h2, ⟨n, hn, hn2⟩, h4⟩ := qBd_8 h hf hc hr
  refine ⟨fun k hk => by rw [zi_ne (by omega)]; exact h1 k hk, cC_s (fun s _ => by rw [zi_ne (by decide)]) h2, ⟨n, hn, by rw [zi_ne (by decide)]; exact hn2⟩, fun z => ?_⟩
  obtain ⟨d1, d2, d3, d4, ⟨d5, d6⟩, d7, d8⟩ := h4 z
  have ex := hx z
  subst ex
  rw [hD']
  refine ⟨fun j hj => ?_, fun j hj => ?_, fun j hj => ?_, fun j hj => ?_, ⟨?_, fun j hj => ?_⟩, ?_, fun k a b => ?_⟩
  · rw [zi_eq]
    show va_up (J0 10) i x j = va_up (drRu D) i x j
    by_cases q : j = i
    · rw [q, up_eq, up_eq]
    · rw [va_up_ne _ _ q, va_up_ne _ _ q]; exact d1 j hj
  · rw [zi_ne (by decide)]; exact d2 j hj
  · rw [zi_ne (by decide)]; exact d3 j hj
  · rw [zi_ne (by decide)]; exact d4 j hj
  · rw [zi_ne (by decide)]; exact d5
  · rw [zi_ne (by decide)]; exact d6 j hj
  · rw [zi_ne (by decide)]; exact d7
  · rw [zi_ne (by decide)]; exact d8 k a b
theorem bq9 (hF : frDr I J0) (hg : gB J0 = g) (hD : dV J0 D) (h : ckWF t J0 c J) : qBd t I J (bd g t 9 c D).1 (bd g t 9 c D).2 := by
  subst hg
  obtain ⟨⟨h1, h2, h3⟩, h4, h5, ⟨n, hn, hn2⟩⟩ := h
  obtain ⟨d1, d2, d3, d4, ⟨d5, d6⟩, d7, d8⟩ := hD
  refine ⟨fun k hk => by rw [h1 k (by omega) (by omega) (by omega)]; exact hF k hk, h4, ⟨n, hn, hn2⟩, fun hr => ⟨fun j hj => ?_, fun j hj => ?_, fun j hj => ?_, fun j hj => ?_, ⟨(h5 hr).1, (h5 hr).2.2⟩, ?_, fun k a b => ?_⟩⟩
  · rw [h1 10 (by decide) (by decide) (by decide)]; exact d1 j hj
  · rw [h1 11 (by decide) (by decide) (by decide)]; exact d2 j hj
  · rw [h1 12 (by decide) (by decide) (by decide)]; exact d3 j hj
  · rw [h1 14 (by decide) (by decide) (by decide)]; exact d4 j hj
  · rw [h3]; exact d7
  · rw [h1 15 (by decide) (by decide) (by decide)]; exact d8 k a b
end ZBQ
/-- the part's row counts only at the WELL -/
theorem ptC_e {g : Nat → Int32} {t : Nat} {f f' : Nat → Int32} {most : Int32} {c : zCu} (h : ∀ j, j < 48 → f j = f' j) : ptC g t f most c = ptC g t f' most c := by
  have e : p2C g t f c = p2C g t f' c := by
    unfold p2C
    have hb : isR (p1C g t c) → (cv (p1C g t c)).toNatClampNeg < 48 := by
      intro hr
      unfold p1C at hr ⊢
      generalize nxC g t c = d at hr ⊢
      rcases d with p | ⟨a, k, s, v⟩
      · obtain ⟨u, e⟩ := hr; cases e
      · by_cases q : k = 3 ∧ ¬ v < 0 ∧ v ≤ 47
        · have e : chC 0 47 (.inr (a, k, s, v)) = .inr (a, k, s, v) := if_pos q
          rw [e]
          show v.toNatClampNeg < 48
          exact (zx47 ⟨Int32.not_lt.mp q.2.1, q.2.2⟩).1
        · have e : chC 0 47 (.inr (a, k, s, v)) = .inl s := if_neg q
          rw [e] at hr
          obtain ⟨u, e⟩ := hr; cases e
    generalize p1C g t c = d at hb ⊢
    rcases d with p | u
    · show (if _ then _ else Sum.inl p) = (if _ then _ else Sum.inl p)
      rw [ite_self, ite_self]
    · rw [h _ (hb ⟨u, rfl⟩)]
  unfold ptC
  rw [e]
theorem ct_kH {E : zE} {I : zI} {L : zL} {R : zR} {t a k s : Nat} {v : Int32} (hR : zLx R) (h1 : I 1 1 = nI t) (ht : t ≤ 400) (hc : cC t I (.inr (a, k, s, v))) (hg : gdC t (.inr (a, k, s, v))) {K : Nat} (hK : K = kC (gB I) t k s a) : zCf E m_X4_kindHere zShF [.ref 8] I L R (some (.int (kdX K))) I L R := by
  subst hK
  obtain ⟨c1, c2, c3, c4, c5, c6, c7⟩ := hc
  unfold kC
  by_cases h : k = 2
  · rw [if_pos h]
    exact ct_kH1 hR (by rw [c3, h]; rfl) h1 ht c2 c4 hg.1 hg.2.1
  · rw [if_neg h]
    exact ct_kH0 hR (fun z => h ((nI_eq (a := k) (b := 2) (by omega) (by decide)).mp (c3.symm.trans z)))
theorem mb_b {I : zI} {K : Nat} {D : zDr} (hK : K ≤ 10) (hD : dV I D) (hok : okD D) : mbB I (kdX K) ↔ bdC K D := by
  have hr6 : drR D ≤ 6 := hok.2.2.2.1
  obtain ⟨d1, d2, d3, d4, ⟨d5, d6⟩, d7, d8⟩ := hD
  by_cases q : K = 10
  · subst q
    exact ⟨fun _ => Or.inl rfl, fun _ => Or.inl (by decide)⟩
  · have hk : K < 10 := by omega
    have e : kdX K = nI K := if_pos hk
    unfold mbB bdC
    rw [e, nI_clamp (by omega), d7]
    constructor
    · rintro (z | z | ⟨z1, z2⟩ | ⟨z1, z2⟩)
      · exact absurd z (nI_pos (by omega))
      · exact absurd (nI_lt (a := K) (b := 10) hk (by decide)) z
      · exact Or.inr (Or.inl ⟨(nI_eq (a := K) (b := 0) (by omega) (by decide)).mp z1, fun w => z2 (nI_lt (a := drR D) (b := 6) w (by decide))⟩)
      · have h3 : 3 ≤ K := Nat.not_lt.mp (fun w => z1 (nI_lt (a := K) (b := 3) w (by decide)))
        refine Or.inr (Or.inr ⟨h3, ?_⟩)
        cases w : drS D K with
        | true => rfl
        | false => exact absurd ((d8 K h3 hk).mpr w) z2
    · rintro (z | ⟨z1, z2⟩ | ⟨z1, z2⟩)
      · exact absurd z q
      · refine Or.inr (Or.inr (Or.inl ⟨by rw [z1]; rfl, fun w => z2 ((nI_ltI (a := drR D) (b := 6) (by omega) (by decide)).mp w)⟩))
      · refine Or.inr (Or.inr (Or.inr ⟨fun w => absurd ((nI_ltI (a := K) (b := 3) (by omega) (by decide)).mp w) (by omega), fun w => ?_⟩))
        rw [(d8 K z1 hk).mp w] at z2
        cases z2
theorem dV_se {I : zI} {K : Nat} {D : zDr} (hD : dV I D) : dV (zi I 15 K 1) (seD K D) := by
  obtain ⟨d1, d2, d3, d4, ⟨d5, d6⟩, d7, d8⟩ := hD
  refine ⟨fun j hj => ?_, fun j hj => ?_, fun j hj => ?_, fun j hj => ?_, ⟨?_, fun j hj => ?_⟩, ?_, fun k a b => ?_⟩
  · rw [zi_ne (by decide)]; exact d1 j hj
  · rw [zi_ne (by decide)]; exact d2 j hj
  · rw [zi_ne (by decide)]; exact d3 j hj
  · rw [zi_ne (by decide)]; exact d4 j hj
  · rw [zi_ne (by decide)]; exact d5
  · rw [zi_ne (by decide)]; exact d6 j hj
  · rw [zi_ne (by decide)]; exact d7
  · rw [zi_eq]
    show va_up (I 15) K 1 k = 0 ↔ va_up (drS D) K true k = false
    by_cases q : k = K
    · rw [q, up_eq, up_eq]
      exact ⟨fun z => absurd z (by decide), fun z => absurd z (by decide)⟩
    · rw [va_up_ne _ _ q, va_up_ne _ _ q]; exact d8 k a b
theorem fl_10 {I : zI} {w : Int32} (h : I 8 10 = 0) : flI I w 8 10 = w := by
  unfold flI
  rw [if_pos h]
  rfl
set_option maxRecDepth 100000 in
set_option maxHeartbeats 4000000 in
theorem ct_X4_readLine {E : zE} {I : zI} {L : zL} {R : zR} {t a k s : Nat} {v : Int32} {D : zDr} (hR : zLx R) (h1 : I 1 1 = nI t) (ht : t ≤ 400) (hc : cC t I (.inr (a, k, s, v))) (hg : gdC t (.inr (a, k, s, v))) (hD : dV I D) (hok : okD D) : zCt E m_X4_readLine zShF [.ref 8] I L R (fun r1 Sh1 I1 L1 R1 => r1 = none ∧ Sh1 = zShF ∧ L1 = L ∧ R1 = R ∧ qBd t I I1 (ln (gB I) t (.inr (a, k, s, v)) D).1 (ln (gB I) t (.inr (a, k, s, v)) D).2) := by
  have h9 := lP_9 hR
  obtain ⟨K, hKe⟩ : ∃ K, K = kC (gB I) t k s a := ⟨_, rfl⟩
  have hK10 : K ≤ 10 := by rw [hKe]; exact kC_le
  have hlnB : ln (gB I) t (.inr (a, k, s, v)) D = lnB (gB I) t K (.inr (a, k, s, v)) D := by rw [hKe]; rfl
  have hf0 : I 8 10 = 0 := hc.1
  refine z_met (by decide) [some (.ref 8), none] rfl rfl (Nat.le_of_ble_eq_true rfl) (fun X => ?_)
  refine z_aload_n d_X4_readLine_0 rfl ?_
  refine z_cVi d_X4_readLine_1 q_X4_readLine_89 (by first | rfl | assumption) (by omega) ⟨rfl, rfl⟩ (ct_kH hR h1 ht hc hg hKe) rfl rfl rfl ⟨Nat.zero_le _, Nat.zero_le _⟩ ?_
  refine z_istore1 d_X4_readLine_4 rfl ?_
  refine z_aload_n d_X4_readLine_5 rfl ?_
  refine z_iload_n d_X4_readLine_6 rfl ?_
  refine z_rV d_X4_readLine_7 q_X4_readLine_93 (by first | rfl | assumption) (by omega) ⟨rfl, rfl⟩ (ct_X4_mayBegin hR) rfl rfl rfl ⟨Nat.zero_le _, Nat.zero_le _⟩ (fun r_7 Sh_7 I_7 L_7 R_7 hq_7 => ?_)
  obtain ⟨rfl, rfl, rfl, rfl, hm⟩ := hq_7
  refine z_if_ne d_X4_readLine_10 (fun h_10 => ?_) (fun h_10 => ?_)
  · have hm2 : ¬ mbB I (kdX K) ∧ I_7 = I := by
      rcases hm with ⟨-, w, hw, e⟩ | z
      · exfalso
        rw [e, fl_10 hf0, if_neg hw] at h_10
        exact h_10 rfl
      · exact z
    obtain ⟨hnb, e7⟩ := hm2
    refine z_mem e7 rfl rfl ?_
    have hnb' : ¬ bdC K D := fun z => hnb ((mb_b hK10 hD hok).mpr z)
    have hK : K < 10 := by
      rcases Nat.lt_or_ge K 10 with q | q
      · exact q
      · exact absurd (Or.inl (show K = 10 by omega)) hnb'
    rw [show kdX K = nI K from if_pos hK]
    have hout : ∀ M, qBd t I M (stp (bd (gB I) t K (.inr (a, k, s, v)) (seD K D)).1) (bd (gB I) t K (.inr (a, k, s, v)) (seD K D)).2 → qBd t I M (ln (gB I) t (.inr (a, k, s, v)) D).1 (ln (gB I) t (.inr (a, k, s, v)) D).2 := fun M hM => by
      rw [hlnB]; unfold lnB; rw [if_neg (fun z => hnb' (bdB_t.mp z))]; exact hM
    refine z_aload_n d_X4_readLine_14 rfl ?_
    refine z_getR d_X4_readLine_15 f_X4_22 (by first | rfl | assumption) (by omega) (by first | exact hR _ _ _ rfl | rfl | assumption) ?_
    refine z_iload_n d_X4_readLine_18 rfl ?_
    refine z_iconst d_X4_readLine_19 ki_1 ?_
    refine z_zastore d_X4_readLine_20 (by first | rfl | assumption) (by omega) (zix_nI hK (by decide)) ?_
    refine z_mem (I' := zi I 15 K 1) rfl rfl rfl ?_
    have hD1 : dV (zi I 15 K 1) (seD K D) := dV_se hD
    have hF1 : frDr I (zi I 15 K 1) := fun k hk => zi_ne (by omega)
    have hc1 : cC t (zi I 15 K 1) (.inr (a, k, s, v)) := cC_s (fun s _ => by rw [zi_ne (by decide)]) hc
    have hJ1 : zi I 15 K 1 1 1 = nI t := by rw [zi_ne (by decide)]; exact h1
    have hgB : gB (zi I 15 K 1) = gB I := gB_c (zi_ne (by decide))
    have hn1 : ∃ n, n ≤ 12 ∧ zi I 15 K 1 9 4 = nI n := ⟨drN D, hok.2.2.1.1, hD1.2.2.2.2.1.1⟩
    have hq0 : qBd t I (zi I 15 K 1) (.inr (a, k, s, v)) (seD K D) := ⟨hF1, hc1, hn1, fun _ => hD1⟩
    have tl : ∀ (Qs : State → Prop) (c2 : zCu) (D2 : zDr), (∀ M, qBd t I M (stp c2) D2 → zZ E m_X4_readLine X Qs zShF 0 0 267 [some (.ref 8), some (.int (nI K))] [] M L_7 R_7) → ∀ J, qBd t I J c2 D2 → zZ E m_X4_readLine X Qs zShF 0 0 250 [some (.ref 8), some (.int (nI K))] [] J L_7 R_7 := by
      intro Qs c2 D2 hx J hJ
      refine z_aload_n d_X4_readLine_250 rfl ?_
      refine z_getI d_X4_readLine_251 f_X4_40 (by first | rfl | assumption) (by omega) ?_
      refine z_iconst d_X4_readLine_254 ki_4 ?_
      refine z_icmp_eq d_X4_readLine_255 (fun h_255 => ?_) (fun h_255 => ?_)
      · exact hx J (by rw [stp_4 hJ.2.1 h_255]; exact hJ)
      · refine z_aload_n d_X4_readLine_258 rfl ?_
        refine z_iconst d_X4_readLine_259 ki_2 ?_
        refine z_aload_n d_X4_readLine_260 rfl ?_
        refine z_getI d_X4_readLine_261 f_X4_73 (by first | rfl | assumption) (by omega) ?_
        refine z_cVv d_X4_readLine_264 q_X4_readLine_85 (by first | rfl | assumption) (by omega) ⟨rfl, rfl⟩ (ct_X4_fail hR) rfl rfl rfl ⟨Nat.zero_le _, Nat.zero_le _⟩ ?_
        exact hx _ (by rw [stp_n hJ.2.1 h_255]; exact qBd_8 hJ (fr8_fl J 2) (cC_fl (by decide) hJ.2.1) (fun z => (isR_fl z).elim))
    have tk : ¬ K = 9 → ∀ (Qs : State → Prop) (c1 : zCu) (D2 : zDr), (∀ M, qBd t I M (stp (nxC (gB I) t c1)) D2 → zZ E m_X4_readLine X Qs zShF 0 0 267 [some (.ref 8), some (.int (nI K))] [] M L_7 R_7) → ∀ J, qBd t I J c1 D2 → zZ E m_X4_readLine X Qs zShF 0 0 240 [some (.ref 8), some (.int (nI K))] [] J L_7 R_7 := by
      intro hK9 Qs c1 D2 hx J hJ
      have hJJ1 : J 1 1 = nI t := by rw [hJ.1 1 (by decide)]; exact h1
      refine z_iload_n d_X4_readLine_240 rfl ?_
      refine z_bipush d_X4_readLine_241 kb_9 ?_
      refine z_icmp_eq d_X4_readLine_243 (fun h_243 => absurd ((nI_eq (a := K) (b := 9) (by omega) (by decide)).mp h_243) hK9) (fun h_243 => ?_)
      refine z_aload_n d_X4_readLine_246 rfl ?_
      refine z_rV d_X4_readLine_247 q_X4_readLine_33 (by first | rfl | assumption) (by omega) ⟨rfl, rfl⟩ (ct_fetch hR hJJ1 ht hJ.2.1) rfl rfl rfl ⟨Nat.zero_le _, Nat.zero_le _⟩ (fun r_247 Sh_247 I_247 L_247 R_247 hq_247 => ?_)
      obtain ⟨rfl, rfl, rfl, rfl, hf, hc2, -⟩ := hq_247
      rw [gB_c (hJ.1 2 (by decide))] at hc2
      exact tl Qs _ D2 hx _ (qBd_8 hJ hf hc2 (fun z => isR_nx z))
    have tn : K = 9 → ∀ (Qs : State → Prop) (c2 : zCu) (D2 : zDr), (∀ M, qBd t I M (stp c2) D2 → zZ E m_X4_readLine X Qs zShF 0 0 267 [some (.ref 8), some (.int (nI K))] [] M L_7 R_7) → ∀ J, qBd t I J c2 D2 → zZ E m_X4_readLine X Qs zShF 0 0 240 [some (.ref 8), some (.int (nI K))] [] J L_7 R_7 := by
      intro hK9 Qs c2 D2 hx J hJ
      refine z_iload_n d_X4_readLine_240 rfl ?_
      refine z_bipush d_X4_readLine_241 kb_9 ?_
      exact z_icmp_eq d_X4_readLine_243 (fun _ => tl Qs c2 D2 hx J hJ) (fun h => absurd (by rw [hK9]; rfl) h)
    refine z_iload_n d_X4_readLine_21 rfl ?_
    refine z_by (0) (fun e_22_0 => ?_) (fun e_22_0 => ?_)
    · refine z_tabIn (off := 50) (tgt := 72) d_X4_readLine_22 (by rw [e_22_0]; decide) (by rw [e_22_0]; decide) (by rw [e_22_0]; rfl) (by decide) ?_
      obtain rfl : K = 0 := (nI_eq (a := K) (b := 0) (by omega) (by decide)).mp e_22_0
      refine z_aload_n d_X4_readLine_72 rfl ?_
      refine z_rV d_X4_readLine_73 q_X4_readLine_97 (by first | rfl | assumption) (by omega) ⟨rfl, rfl⟩ (ct_X4_readRow (r := drR (seD 0 D)) hR hJ1 ht hc1 hD1.2.2.2.2.2.1 (Classical.not_not.mp (fun z => hnb' (Or.inr (Or.inl ⟨rfl, z⟩))))) rfl rfl rfl ⟨Nat.zero_le _, Nat.zero_le _⟩ (fun r_73 Sh_73 I_73 L_73 R_73 hq_73 => ?_)
      obtain ⟨rfl, rfl, rfl, rfl, J, hJ, rfl⟩ := hq_73
      have hqb := bq0 hF1 hgB hn1 hD1 hJ
      refine z_goto d_X4_readLine_76 ?_
      first
        | exact tk (by decide) _ _ _ (fun M hM => z_return d_X4_readLine_267 rfl ⟨rfl, rfl, rfl, rfl, hout M hM⟩) _ hqb
        | exact tn rfl _ _ _ (fun M hM => z_return d_X4_readLine_267 rfl ⟨rfl, rfl, rfl, rfl, hout M hM⟩) _ hqb
    refine z_by (1) (fun e_22_1 => ?_) (fun e_22_1 => ?_)
    · refine z_tabIn (off := 57) (tgt := 79) d_X4_readLine_22 (by rw [e_22_1]; decide) (by rw [e_22_1]; decide) (by rw [e_22_1]; rfl) (by decide) ?_
      obtain rfl : K = 1 := (nI_eq (a := K) (b := 1) (by omega) (by decide)).mp e_22_1
      refine z_aload_n d_X4_readLine_79 rfl ?_
      refine z_aload_n d_X4_readLine_80 rfl ?_
      refine z_getR d_X4_readLine_81 f_X4_12 (by first | rfl | assumption) (by omega) (by first | exact hR _ _ _ rfl | rfl | assumption) ?_
      refine z_getR d_X4_readLine_84 f_X4_100 (by first | rfl | assumption) (by omega) (by first | exact hR _ _ _ rfl | rfl | assumption) ?_
      refine z_bipush d_X4_readLine_87 kb_99 ?_
      refine z_rV d_X4_readLine_89 q_X4_readLine_103 (by first | rfl | assumption) (by omega) ⟨rfl, rfl⟩ (ct_X4_readPart (q := 11) hR hJ1 ht hc1 rfl (Or.inl rfl) (by decide)) rfl rfl rfl ⟨Nat.zero_le _, Nat.zero_le _⟩ (fun r_89 Sh_89 I_89 L_89 R_89 hq_89 => ?_)
      obtain ⟨rfl, rfl, rfl, rfl, p1, p2, p3, p4⟩ := hq_89
      have hqb := bq1 hF1 hgB hn1 hD1 p1 p2 p3 p4 (ptC_e hD1.2.1)
      refine z_goto d_X4_readLine_92 ?_
      first
        | exact tk (by decide) _ _ _ (fun M hM => z_return d_X4_readLine_267 rfl ⟨rfl, rfl, rfl, rfl, hout M hM⟩) _ hqb
        | exact tn rfl _ _ _ (fun M hM => z_return d_X4_readLine_267 rfl ⟨rfl, rfl, rfl, rfl, hout M hM⟩) _ hqb
    refine z_by (2) (fun e_22_2 => ?_) (fun e_22_2 => ?_)
    · refine z_tabIn (off := 73) (tgt := 95) d_X4_readLine_22 (by rw [e_22_2]; decide) (by rw [e_22_2]; decide) (by rw [e_22_2]; rfl) (by decide) ?_
      obtain rfl : K = 2 := (nI_eq (a := K) (b := 2) (by omega) (by decide)).mp e_22_2
      refine z_aload_n d_X4_readLine_95 rfl ?_
      refine z_aload_n d_X4_readLine_96 rfl ?_
      refine z_getR d_X4_readLine_97 f_X4_12 (by first | rfl | assumption) (by omega) (by first | exact hR _ _ _ rfl | rfl | assumption) ?_
      refine z_getR d_X4_readLine_100 f_X4_106 (by first | rfl | assumption) (by omega) (by first | exact hR _ _ _ rfl | rfl | assumption) ?_
      refine z_bipush d_X4_readLine_103 kb_50 ?_
      refine z_rV d_X4_readLine_105 q_X4_readLine_103 (by first | rfl | assumption) (by omega) ⟨rfl, rfl⟩ (ct_X4_readPart (q := 12) hR hJ1 ht hc1 rfl (Or.inr rfl) (by decide)) rfl rfl rfl ⟨Nat.zero_le _, Nat.zero_le _⟩ (fun r_105 Sh_105 I_105 L_105 R_105 hq_105 => ?_)
      obtain ⟨rfl, rfl, rfl, rfl, p1, p2, p3, p4⟩ := hq_105
      have hqb := bq2 hF1 hgB hn1 hD1 p1 p2 p3 p4 (ptC_e hD1.2.2.1)
      refine z_goto d_X4_readLine_108 ?_
      first
        | exact tk (by decide) _ _ _ (fun M hM => z_return d_X4_readLine_267 rfl ⟨rfl, rfl, rfl, rfl, hout M hM⟩) _ hqb
        | exact tn rfl _ _ _ (fun M hM => z_return d_X4_readLine_267 rfl ⟨rfl, rfl, rfl, rfl, hout M hM⟩) _ hqb
    refine z_by (3) (fun e_22_3 => ?_) (fun e_22_3 => ?_)
    · refine z_tabIn (off := 89) (tgt := 111) d_X4_readLine_22 (by rw [e_22_3]; decide) (by rw [e_22_3]; decide) (by rw [e_22_3]; rfl) (by decide) ?_
      obtain rfl : K = 3 := (nI_eq (a := K) (b := 3) (by omega) (by decide)).mp e_22_3
      refine z_aload_n d_X4_readLine_111 rfl ?_
      refine z_getR d_X4_readLine_112 f_X4_12 (by first | rfl | assumption) (by omega) (by first | exact hR _ _ _ rfl | rfl | assumption) ?_
      refine z_getR d_X4_readLine_115 f_X4_109 (by first | rfl | assumption) (by omega) (by first | exact hR _ _ _ rfl | rfl | assumption) ?_
      refine z_iconst d_X4_readLine_118 ki_0 ?_
      refine z_aload_n d_X4_readLine_119 rfl ?_
      refine z_iconst d_X4_readLine_120 ki_1 ?_
      refine z_sipush d_X4_readLine_121 ks_999 ?_
      refine z_rV d_X4_readLine_124 q_X4_readLine_112 (by first | rfl | assumption) (by omega) ⟨rfl, rfl⟩ (ct_X4_number hR hJ1 ht hc1 (by decide)) rfl rfl rfl ⟨Nat.zero_le _, Nat.zero_le _⟩ (fun r_124 Sh_124 I_124 L_124 R_124 hq_124 => ?_)
      obtain ⟨x, rfl, rfl, rfl, rfl, hf, hcx, hb, hv⟩ := hq_124
      rw [hgB] at hcx hv
      have hqb := bqR (i := 0) (D' := (bd (gB I) t 3 (.inr (a, k, s, v)) (seD 3 D)).2) hq0 hf hcx (fun z => isR_nx (isR_ch z)) (fun z => cv_of z hv) rfl
      refine z_iastore d_X4_readLine_127 (by first | rfl | assumption) (by omega) (zix_lit 0 (by decide)) ?_
      refine z_goto d_X4_readLine_128 ?_
      first
        | exact tk (by decide) _ _ _ (fun M hM => z_return d_X4_readLine_267 rfl ⟨rfl, rfl, rfl, rfl, hout M hM⟩) _ hqb
        | exact tn rfl _ _ _ (fun M hM => z_return d_X4_readLine_267 rfl ⟨rfl, rfl, rfl, rfl, hout M hM⟩) _ hqb
    refine z_by (4) (fun e_22_4 => ?_) (fun e_22_4 => ?_)
    · refine z_tabIn (off := 109) (tgt := 131) d_X4_readLine_22 (by rw [e_22_4]; decide) (by rw [e_22_4]; decide) (by rw [e_22_4]; rfl) (by decide) ?_
      obtain rfl : K = 4 := (nI_eq (a := K) (b := 4) (by omega) (by decide)).mp e_22_4
      refine z_aload_n d_X4_readLine_131 rfl ?_
      refine z_getR d_X4_readLine_132 f_X4_12 (by first | rfl | assumption) (by omega) (by first | exact hR _ _ _ rfl | rfl | assumption) ?_
      refine z_getR d_X4_readLine_135 f_X4_109 (by first | rfl | assumption) (by omega) (by first | exact hR _ _ _ rfl | rfl | assumption) ?_
      refine z_iconst d_X4_readLine_138 ki_1 ?_
      refine z_aload_n d_X4_readLine_139 rfl ?_
      refine z_iconst d_X4_readLine_140 ki_0 ?_
      refine z_bipush d_X4_readLine_141 kb_9 ?_
      refine z_rV d_X4_readLine_143 q_X4_readLine_112 (by first | rfl | assumption) (by omega) ⟨rfl, rfl⟩ (ct_X4_number hR hJ1 ht hc1 (by decide)) rfl rfl rfl ⟨Nat.zero_le _, Nat.zero_le _⟩ (fun r_143 Sh_143 I_143 L_143 R_143 hq_143 => ?_)
      obtain ⟨x, rfl, rfl, rfl, rfl, hf, hcx, hb, hv⟩ := hq_143
      rw [hgB] at hcx hv
      have hqb := bqR (i := 1) (D' := (bd (gB I) t 4 (.inr (a, k, s, v)) (seD 4 D)).2) hq0 hf hcx (fun z => isR_nx (isR_ch z)) (fun z => cv_of z hv) rfl
      refine z_iastore d_X4_readLine_146 (by first | rfl | assumption) (by omega) (zix_lit 1 (by decide)) ?_
      refine z_goto d_X4_readLine_147 ?_
      first
        | exact tk (by decide) _ _ _ (fun M hM => z_return d_X4_readLine_267 rfl ⟨rfl, rfl, rfl, rfl, hout M hM⟩) _ hqb
        | exact tn rfl _ _ _ (fun M hM => z_return d_X4_readLine_267 rfl ⟨rfl, rfl, rfl, rfl, hout M hM⟩) _ hqb
    refine z_by (5) (fun e_22_5 => ?_) (fun e_22_5 => ?_)
    · refine z_tabIn (off := 128) (tgt := 150) d_X4_readLine_22 (by rw [e_22_5]; decide) (by rw [e_22_5]; decide) (by rw [e_22_5]; rfl) (by decide) ?_
      obtain rfl : K = 5 := (nI_eq (a := K) (b := 5) (by omega) (by decide)).mp e_22_5
      have hqb := bqR (i := 2) (x := 1) (D' := (bd (gB I) t 5 (.inr (a, k, s, v)) (seD 5 D)).2) hq0 ⟨fun _ _ => rfl, rfl⟩ hc1 (fun z => z) (fun _ => rfl) rfl
      refine z_aload_n d_X4_readLine_150 rfl ?_
      refine z_getR d_X4_readLine_151 f_X4_12 (by first | rfl | assumption) (by omega) (by first | exact hR _ _ _ rfl | rfl | assumption) ?_
      refine z_getR d_X4_readLine_154 f_X4_109 (by first | rfl | assumption) (by omega) (by first | exact hR _ _ _ rfl | rfl | assumption) ?_
      refine z_iconst d_X4_readLine_157 ki_2 ?_
      refine z_iconst d_X4_readLine_158 ki_1 ?_
      refine z_iastore d_X4_readLine_159 (by first | rfl | assumption) (by omega) (zix_lit 2 (by decide)) ?_
      refine z_goto d_X4_readLine_160 ?_
      first
        | exact tk (by decide) _ _ _ (fun M hM => z_return d_X4_readLine_267 rfl ⟨rfl, rfl, rfl, rfl, hout M hM⟩) _ hqb
        | exact tn rfl _ _ _ (fun M hM => z_return d_X4_readLine_267 rfl ⟨rfl, rfl, rfl, rfl, hout M hM⟩) _ hqb
    refine z_by (6) (fun e_22_6 => ?_) (fun e_22_6 => ?_)
    · refine z_tabIn (off := 141) (tgt := 163) d_X4_readLine_22 (by rw [e_22_6]; decide) (by rw [e_22_6]; decide) (by rw [e_22_6]; rfl) (by decide) ?_
      obtain rfl : K = 6 := (nI_eq (a := K) (b := 6) (by omega) (by decide)).mp e_22_6
      refine z_aload_n d_X4_readLine_163 rfl ?_
      refine z_getR d_X4_readLine_164 f_X4_12 (by first | rfl | assumption) (by omega) (by first | exact hR _ _ _ rfl | rfl | assumption) ?_
      refine z_getR d_X4_readLine_167 f_X4_109 (by first | rfl | assumption) (by omega) (by first | exact hR _ _ _ rfl | rfl | assumption) ?_
      refine z_iconst d_X4_readLine_170 ki_3 ?_
      refine z_aload_n d_X4_readLine_171 rfl ?_
      refine z_iconst d_X4_readLine_172 ki_0 ?_
      refine z_bipush d_X4_readLine_173 kb_9 ?_
      refine z_rV d_X4_readLine_175 q_X4_readLine_112 (by first | rfl | assumption) (by omega) ⟨rfl, rfl⟩ (ct_X4_number hR hJ1 ht hc1 (by decide)) rfl rfl rfl ⟨Nat.zero_le _, Nat.zero_le _⟩ (fun r_175 Sh_175 I_175 L_175 R_175 hq_175 => ?_)
      obtain ⟨x, rfl, rfl, rfl, rfl, hf, hcx, hb, hv⟩ := hq_175
      rw [hgB] at hcx hv
      have hqb := bqR (i := 3) (D' := (bd (gB I) t 6 (.inr (a, k, s, v)) (seD 6 D)).2) hq0 hf hcx (fun z => isR_nx (isR_ch z)) (fun z => cv_of z hv) rfl
      refine z_iastore d_X4_readLine_178 (by first | rfl | assumption) (by omega) (zix_lit 3 (by decide)) ?_
      refine z_goto d_X4_readLine_179 ?_
      first
        | exact tk (by decide) _ _ _ (fun M hM => z_return d_X4_readLine_267 rfl ⟨rfl, rfl, rfl, rfl, hout M hM⟩) _ hqb
        | exact tn rfl _ _ _ (fun M hM => z_return d_X4_readLine_267 rfl ⟨rfl, rfl, rfl, rfl, hout M hM⟩) _ hqb
    refine z_by (7) (fun e_22_7 => ?_) (fun e_22_7 => ?_)
    · refine z_tabIn (off := 160) (tgt := 182) d_X4_readLine_22 (by rw [e_22_7]; decide) (by rw [e_22_7]; decide) (by rw [e_22_7]; rfl) (by decide) ?_
      obtain rfl : K = 7 := (nI_eq (a := K) (b := 7) (by omega) (by decide)).mp e_22_7
      refine z_aload_n d_X4_readLine_182 rfl ?_
      refine z_getR d_X4_readLine_183 f_X4_12 (by first | rfl | assumption) (by omega) (by first | exact hR _ _ _ rfl | rfl | assumption) ?_
      refine z_getR d_X4_readLine_186 f_X4_109 (by first | rfl | assumption) (by omega) (by first | exact hR _ _ _ rfl | rfl | assumption) ?_
      refine z_iconst d_X4_readLine_189 ki_4 ?_
      refine z_aload_n d_X4_readLine_190 rfl ?_
      refine z_iconst d_X4_readLine_191 ki_1 ?_
      refine z_bipush d_X4_readLine_192 kb_9 ?_
      refine z_rV d_X4_readLine_194 q_X4_readLine_112 (by first | rfl | assumption) (by omega) ⟨rfl, rfl⟩ (ct_X4_number hR hJ1 ht hc1 (by decide)) rfl rfl rfl ⟨Nat.zero_le _, Nat.zero_le _⟩ (fun r_194 Sh_194 I_194 L_194 R_194 hq_194 => ?_)
      obtain ⟨x, rfl, rfl, rfl, rfl, hf, hcx, hb, hv⟩ := hq_194
      rw [hgB] at hcx hv
      have hqa := bqR (i := 4) (D' := (va_up (drRu (seD 7 D)) 4 (cv (nmC (gB I) t 1 9 (.inr (a, k, s, v)))), drHo (seD 7 D), drTr (seD 7 D), drLi (seD 7 D), drN (seD 7 D), drW (seD 7 D), drR (seD 7 D), drS (seD 7 D))) hq0 hf hcx (fun z => isR_nx (isR_ch z)) (fun z => cv_of z hv) rfl
      have hJ2 : zi I_194 10 4 x 1 1 = nI t := by rw [zi_ne (by decide), hf.1 1 (by decide)]; exact hJ1
      refine z_iastore d_X4_readLine_197 (by first | rfl | assumption) (by omega) (zix_lit 4 (by decide)) ?_
      refine z_aload_n d_X4_readLine_198 rfl ?_
      refine z_getR d_X4_readLine_199 f_X4_12 (by first | rfl | assumption) (by omega) (by first | exact hR _ _ _ rfl | rfl | assumption) ?_
      refine z_getR d_X4_readLine_202 f_X4_109 (by first | rfl | assumption) (by omega) (by first | exact hR _ _ _ rfl | rfl | assumption) ?_
      refine z_iconst d_X4_readLine_205 ki_5 ?_
      refine z_aload_n d_X4_readLine_206 rfl ?_
      refine z_iconst d_X4_readLine_207 ki_1 ?_
      refine z_bipush d_X4_readLine_208 kb_99 ?_
      refine z_rV d_X4_readLine_210 q_X4_readLine_112 (by first | rfl | assumption) (by omega) ⟨rfl, rfl⟩ (ct_X4_number hR hJ2 ht hqa.2.1 (by decide)) rfl rfl rfl ⟨Nat.zero_le _, Nat.zero_le _⟩ (fun r_210 Sh_210 I_210 L_210 R_210 hq_210 => ?_)
      obtain ⟨y, rfl, rfl, rfl, rfl, hf2, hcy, hb2, hv2⟩ := hq_210
      rw [gB_c (show zi I_194 10 4 x 2 = I 2 from by rw [zi_ne (by decide), hf.1 2 (by decide), zi_ne (by decide)])] at hcy hv2
      have hqb := bqR (i := 5) (D' := (bd (gB I) t 7 (.inr (a, k, s, v)) (seD 7 D)).2) hqa hf2 hcy (fun z => isR_nx (isR_ch z)) (fun z => cv_of z hv2) rfl
      refine z_iastore d_X4_readLine_213 (by first | rfl | assumption) (by omega) (zix_lit 5 (by decide)) ?_
      refine z_goto d_X4_readLine_214 ?_
      first
        | exact tk (by decide) _ _ _ (fun M hM => z_return d_X4_readLine_267 rfl ⟨rfl, rfl, rfl, rfl, hout M hM⟩) _ hqb
        | exact tn rfl _ _ _ (fun M hM => z_return d_X4_readLine_267 rfl ⟨rfl, rfl, rfl, rfl, hout M hM⟩) _ hqb
    refine z_by (8) (fun e_22_8 => ?_) (fun e_22_8 => ?_)
    · refine z_tabIn (off := 195) (tgt := 217) d_X4_readLine_22 (by rw [e_22_8]; decide) (by rw [e_22_8]; decide) (by rw [e_22_8]; rfl) (by decide) ?_
      obtain rfl : K = 8 := (nI_eq (a := K) (b := 8) (by omega) (by decide)).mp e_22_8
      refine z_aload_n d_X4_readLine_217 rfl ?_
      refine z_getR d_X4_readLine_218 f_X4_12 (by first | rfl | assumption) (by omega) (by first | exact hR _ _ _ rfl | rfl | assumption) ?_
      refine z_getR d_X4_readLine_221 f_X4_109 (by first | rfl | assumption) (by omega) (by first | exact hR _ _ _ rfl | rfl | assumption) ?_
      refine z_bipush d_X4_readLine_224 kb_6 ?_
      refine z_aload_n d_X4_readLine_226 rfl ?_
      refine z_iconst d_X4_readLine_227 ki_3 ?_
      refine z_iconst d_X4_readLine_228 ki_4 ?_
      refine z_rV d_X4_readLine_229 q_X4_readLine_112 (by first | rfl | assumption) (by omega) ⟨rfl, rfl⟩ (ct_X4_number hR hJ1 ht hc1 (by decide)) rfl rfl rfl ⟨Nat.zero_le _, Nat.zero_le _⟩ (fun r_229 Sh_229 I_229 L_229 R_229 hq_229 => ?_)
      obtain ⟨x, rfl, rfl, rfl, rfl, hf, hcx, hb, hv⟩ := hq_229
      rw [hgB] at hcx hv
      have hqb := bqR (i := 6) (D' := (bd (gB I) t 8 (.inr (a, k, s, v)) (seD 8 D)).2) hq0 hf hcx (fun z => isR_nx (isR_ch z)) (fun z => cv_of z hv) rfl
      refine z_iastore d_X4_readLine_232 (by first | rfl | assumption) (by omega) (zix_lit 6 (by decide)) ?_
      refine z_goto d_X4_readLine_233 ?_
      first
        | exact tk (by decide) _ _ _ (fun M hM => z_return d_X4_readLine_267 rfl ⟨rfl, rfl, rfl, rfl, hout M hM⟩) _ hqb
        | exact tn rfl _ _ _ (fun M hM => z_return d_X4_readLine_267 rfl ⟨rfl, rfl, rfl, rfl, hout M hM⟩) _ hqb
    refine z_tabOut (tgt := 236) d_X4_readLine_22 (by have n_0 := sw_ne e_22_0; have n_1 := sw_ne e_22_1; have n_2 := sw_ne e_22_2; have n_3 := sw_ne e_22_3; have n_4 := sw_ne e_22_4; have n_5 := sw_ne e_22_5; have n_6 := sw_ne e_22_6; have n_7 := sw_ne e_22_7; have n_8 := sw_ne e_22_8; replace n_0 : _ ≠ (0 : Int) := n_0; replace n_1 : _ ≠ (1 : Int) := n_1; replace n_2 : _ ≠ (2 : Int) := n_2; replace n_3 : _ ≠ (3 : Int) := n_3; replace n_4 : _ ≠ (4 : Int) := n_4; replace n_5 : _ ≠ (5 : Int) := n_5; replace n_6 : _ ≠ (6 : Int) := n_6; replace n_7 : _ ≠ (7 : Int) := n_7; replace n_8 : _ ≠ (8 : Int) := n_8; omega) (by decide) ?_
    obtain rfl : K = 9 := by
      have n0 : K ≠ 0 := fun z => e_22_0 (by rw [z]; rfl)
      have n1 : K ≠ 1 := fun z => e_22_1 (by rw [z]; rfl)
      have n2 : K ≠ 2 := fun z => e_22_2 (by rw [z]; rfl)
      have n3 : K ≠ 3 := fun z => e_22_3 (by rw [z]; rfl)
      have n4 : K ≠ 4 := fun z => e_22_4 (by rw [z]; rfl)
      have n5 : K ≠ 5 := fun z => e_22_5 (by rw [z]; rfl)
      have n6 : K ≠ 6 := fun z => e_22_6 (by rw [z]; rfl)
      have n7 : K ≠ 7 := fun z => e_22_7 (by rw [z]; rfl)
      have n8 : K ≠ 8 := fun z => e_22_8 (by rw [z]; rfl)
      omega
    have hs9 : drS D 9 = false := by
      cases q : drS D 9 with
      | false => rfl
      | true => exact absurd (Or.inr (Or.inr ⟨by decide, q⟩)) hnb'
    have hn9 : zi I 15 9 1 9 4 = 0 := by rw [zi_ne (by decide), hD.2.2.2.2.1.1, hok.2.2.2.2 hs9]; rfl
    refine z_aload_n d_X4_readLine_236 rfl ?_
    refine z_rV d_X4_readLine_237 q_X4_readLine_116 (by first | rfl | assumption) (by omega) ⟨rfl, rfl⟩ (ct_X4_readRound hR hJ1 ht hc1 hn9) rfl rfl rfl ⟨Nat.zero_le _, Nat.zero_le _⟩ (fun r_237 Sh_237 I_237 L_237 R_237 hq_237 => ?_)
    obtain ⟨rfl, rfl, rfl, rfl, hw⟩ := hq_237
    have hqb := bq9 hF1 hgB hD1 hw
    first
      | exact tk (by decide) _ _ _ (fun M hM => z_return d_X4_readLine_267 rfl ⟨rfl, rfl, rfl, rfl, hout M hM⟩) _ hqb
      | exact tn rfl _ _ _ (fun M hM => z_return d_X4_readLine_267 rfl ⟨rfl, rfl, rfl, rfl, hout M hM⟩) _ hqb
  · have hm2 : mbB I (kdX K) ∧ ∃ w : Int32, ¬ w = 0 ∧ I_7 = flI I w := by
      rcases hm with z | ⟨-, e⟩
      · exact z
      · exfalso
        rw [e, if_pos hf0] at h_10
        exact absurd h_10 (by decide)
    obtain ⟨hb, w, hw, e7⟩ := hm2
    refine z_mem e7 rfl rfl ?_
    have e2 : ln (gB I) t (.inr (a, k, s, v)) D = (flC (.inr (a, k, s, v)), D) := by rw [hlnB]; unfold lnB; rw [if_pos (bdB_t.mpr ((mb_b hK10 hD hok).mp hb))]
    have hfr := fr8_fl I w
    refine z_return d_X4_readLine_13 rfl ⟨rfl, rfl, rfl, rfl, ?_⟩
    rw [e2]
    exact qBd_8 (c := .inr (a, k, s, v)) ⟨fun _ _ => rfl, hc, ⟨drN D, hok.2.2.1.1, hD.2.2.2.2.1.1⟩, fun _ => hD⟩ hfr (cC_fl hw hc) (fun _ => ⟨_, rfl⟩)
