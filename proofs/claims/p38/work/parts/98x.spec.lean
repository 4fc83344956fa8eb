/-! TEXT: CLASS AND REFERENCE SIDE BY SIDE -/
theorem tell_k {Y : zI} {L : zL} {k : Nat} (h : k ≠ 3 ∧ ¬ (4 ≤ k ∧ k ≤ 7) ∧ ¬ (17 ≤ k ∧ k ≤ 20) ∧ k ≠ 22) : tellI Y L k = Y k := by
  unfold tellI qI
  rw [zi_ne (by omega), zi_ne (by omega), va_up_ne _ _ (by omega), va_up_ne _ _ (by omega), va_up_ne _ _ (by omega), va_up_ne _ _ (by omega), va_up_ne _ _ (by omega), zi_ne (by omega), va_up_ne _ _ (by omega), va_up_ne _ _ (by omega), va_up_ne _ _ (by omega), va_up_ne _ _ (by omega)]
theorem kdI_k {X : zI} {k : Nat} (h : ¬ (64 ≤ k ∧ k ≤ 71)) : kdI X k = X k := by
  unfold kdI
  rw [zi_ne (by omega), zi_ne (by omega), va_up_ne _ _ (by omega), zi_ne (by omega), va_up_ne _ _ (by omega), va_up_ne _ _ (by omega), va_up_ne _ _ (by omega), va_up_ne _ _ (by omega)]
theorem kdI_64 {X : zI} {s : Nat} (h : s ≠ 6) : kdI X 64 s = X 64 s := by
  have e : kdI X 64 = va_up (X 64) 6 (X 64 12) := rfl
  rw [e, va_up_ne _ _ h]
theorem tx_f {I J J2 : zI} {L : zL} {R : zR} (h : Rel I L R) (hf : frDr I J) (hf2 : frE (zi J 1 1 0) J2) : Rel (zi J2 64 17 0) L R := by
  have hk : ∀ k, k ≠ 1 → (k < 8 ∨ 15 < k) → (k < 64 ∨ 76 < k ∨ (65 ≤ k ∧ k ≤ 71)) → zi J2 64 17 0 k = I k := fun k h1 h2 h3 => by
    rw [zi_ne (by omega), hf2.1 k h3, zi_ne h1]; exact hf k h2
  have hs : ∀ s, s ≠ 17 → (s < 12 ∨ s = 13 ∨ s = 16 ∨ s = 17 ∨ 23 < s) → zi J2 64 17 0 64 s = I 64 s := fun s h1 h2 => by
    rw [zi_eq, va_up_ne _ _ h1, hf2.2 s h2, zi_ne (by decide), hf 64 (by decide)]
  obtain ⟨g0, ⟨P, n, w, hP, r1, r2⟩, r3, r4, ⟨r5, r6⟩, ⟨t, r7⟩, r8, r9⟩ := h
  have e4 := hk 4 (by decide) (by decide) (by decide)
  have e6 := hk 6 (by decide) (by decide) (by decide)
  have e65 := hk 65 (by decide) (by decide) (by decide)
  have e67 := hk 67 (by decide) (by decide) (by decide)
  have e22 := hk 22 (by decide) (by decide) (by decide)
  have qe : ∀ c, (c = 16 ∨ c = 46 ∨ c = 51) → qOf (zi J2 64 17 0) L c = qOf I L c := by
    intro c hc
    refine qOf_eq ?_ ?_ ?_ ?_ rfl
    all_goals exact hk _ (by omega) (by omega) (by omega)
  refine ⟨rlG_c g0 (fun k a b => hk k (by omega) (by omega) (by omega)), ⟨P, n, w, hP, rlP_c e4 (hk 68 (by decide) (by decide) (by decide)) r1, rlW_c (by rw [hk 3 (by decide) (by decide) (by decide)]) (hs 6 (by decide) (by decide)) (hk 7 (by decide) (by decide) (by decide)) (hk 71 (by decide) (by decide) (by decide)) r2⟩, rlH_c (hk 5 (by decide) (by decide) (by decide)) e6 (hk 69 (by decide) (by decide) (by decide)) (hk 70 (by decide) (by decide) (by decide)) r3, rlQ_c (fun a _ => by rw [e65]) (fun _ _ => rfl) (qe 16 (Or.inl rfl)) (by rw [e4]) e6 r4, ⟨?_, ?_⟩, ⟨0, ?_, ?_, by decide, fun j hj => absurd hj (Nat.not_lt_zero j)⟩, fun k hk4 => ?_, ?_⟩
  · exact rlK_c (by rw [e22]) (by rw [e67]) (fun a _ _ => by rw [e65]) (fun _ _ _ => rfl) (qe 46 (Or.inr (Or.inl rfl))) (by rw [e4]) e6 r5
  · exact rlK_c (by rw [e22]) (by rw [e67]) (fun a _ _ => by rw [e65]) (fun _ _ _ => rfl) (qe 51 (Or.inr (Or.inr rfl))) (by rw [e4]) e6 r6
  · rw [zi_ne (by decide), hf2.1 1 (by decide)]; rfl
  · rw [zi_eq, up_eq]; rfl
  · exact rlS_c (hk _ (by omega) (by omega) (by omega)) (hk _ (by omega) (by omega) (by omega)) (by rw [hk 82 (by decide) (by decide) (by decide)]) (by rw [hk 83 (by decide) (by decide) (by decide)]) (fun j _ => by rw [hk 84 (by decide) (by decide) (by decide)]) (r8 k hk4)
  · rw [hs 35 (by decide) (by decide), hk 0 (by decide) (by decide) (by decide)]; exact r9
theorem nI_cl {x : Int32} {m : Nat} (h : btw 0 x m) (hm : m < 2 ^ 31 - 1) : x = nI x.toNatClampNeg ∧ x.toNatClampNeg ≤ m := by
  have := cl_of (x := x) (n := m + 1) h.1 (by have := h.2; omega) (by omega)
  exact ⟨this.2, by omega⟩
theorem anyW_f {f : Nat → Int32} : ∀ n, anyW f n = false → ∀ j, j < n → ¬ 7 < f j
  | 0, _, j, hj => absurd hj (Nat.not_lt_zero j)
  | n + 1, h, j, hj => by
    have h' : (anyW f n || decide (7 < f n)) = false := h
    rw [Bool.or_eq_false_iff] at h'
    by_cases q : j = n
    · rw [q]; exact of_decide_eq_false h'.2
    · exact anyW_f n h'.1 j (by omega)
theorem tx_t {I J J2 : zI} {L : zL} {R : zR} {D : zDr} (h : Rel I L R) (hf : frDr I J) (hf2 : frE (tellI (zi J 1 1 0) L) J2) (hV : dV J D) (hM : dM J2 D) (hok : okD D) (hwd : wdO D) : Rel (kdI (zi J2 64 17 0)) (kdL (qL L 16 (drQ (qOf (zi J 1 1 0) L 16)))) R := by
  have h1 : ∀ k, ¬ (64 ≤ k ∧ k ≤ 76) → kdI (zi J2 64 17 0) k = tellI (zi J 1 1 0) L k := fun k hk => by
    rw [kdI_k (by omega), zi_ne (by omega), hf2.1 k (by omega)]
  have hk : ∀ k, k ≠ 1 → ¬ (3 ≤ k ∧ k ≤ 15) → ¬ (17 ≤ k ∧ k ≤ 20) → k ≠ 22 → ¬ (64 ≤ k ∧ k ≤ 76) → kdI (zi J2 64 17 0) k = I k := fun k a1 a2 a3 a4 a5 => by
    rw [h1 k a5, tell_k (by omega), zi_ne a1]; exact hf k (by omega)
  have c4 : ∀ j, j < 7 → kdI (zi J2 64 17 0) 4 j = drRu D j := fun j hj => by
    rw [h1 4 (by decide)]
    show zcp (J 10) (J 4) 7 j = _
    rw [← hV.1 j hj]; exact if_pos hj
  have c68 : ∀ j, j < 7 → kdI (zi J2 64 17 0) 68 j = drRu D j := fun j hj => by
    show zcp (J2 72) (J2 68) 7 j = _
    rw [← hM.1 j hj]; exact if_pos hj
  have c5 : ∀ j, j < 48 → kdI (zi J2 64 17 0) 5 j = drHo D j := fun j hj => by
    rw [h1 5 (by decide)]
    show zcp (J 11) (J 5) 48 j = _
    rw [← hV.2.1 j hj]; exact if_pos hj
  have c69 : ∀ j, j < 48 → kdI (zi J2 64 17 0) 69 j = drHo D j := fun j hj => by
    show zcp (J2 74) (J2 69) 48 j = _
    rw [← hM.2.1 j hj]; exact if_pos hj
  have c6 : ∀ j, j < 48 → kdI (zi J2 64 17 0) 6 j = drTr D j := fun j hj => by
    rw [h1 6 (by decide)]
    show zcp (J 12) (J 6) 48 j = _
    rw [← hV.2.2.1 j hj]; exact if_pos hj
  have c70 : ∀ j, j < 48 → kdI (zi J2 64 17 0) 70 j = drTr D j := fun j hj => by
    show zcp (J2 75) (J2 70) 48 j = _
    rw [← hM.2.2.1 j hj]; exact if_pos hj
  have c17 : ∀ j, j < 48 → kdI (zi J2 64 17 0) 17 j = drLi D j := fun j hj => by
    rw [h1 17 (by decide)]
    show zcp (J 14) (zi J 1 1 0 17) 48 j = _
    rw [← hV.2.2.2.1 j hj]; exact if_pos hj
  have c65 : ∀ j, j < 160 → kdI (zi J2 64 17 0) 65 j = if 104 ≤ j ∧ j ≤ 151 then drLi D (j - 104) else 0 := fun j hj => by
    show kdS (J2 65) (J2 73) 160 j = _
    unfold kdS
    rw [if_pos hj]
    by_cases q : 104 ≤ j ∧ j ≤ 151
    · rw [if_pos q, if_pos q]; exact hM.2.2.2.1 (j - 104) (by omega)
    · rw [if_neg q, if_neg q]
  have c18 : ∀ j, j < 48 → kdI (zi J2 64 17 0) 18 j = 0 := fun j hj => by
    rw [h1 18 (by decide)]
    show zfill (zi J 1 1 0 18) 48 0 j = 0
    exact if_pos hj
  have c19 : ∀ j, j < 48 → kdI (zi J2 64 17 0) 19 j = 0 := fun j hj => by
    rw [h1 19 (by decide)]
    show zfill (zi J 1 1 0 19) 48 0 j = 0
    exact if_pos hj
  have c20 : ∀ j, j < 8 → kdI (zi J2 64 17 0) 20 j = 0 := fun j hj => by
    rw [h1 20 (by decide)]
    show zfill (zi J 1 1 0 20) 8 0 j = 0
    exact if_pos hj
  have hn12 := hok.2.2.1.1
  have c7 : ∀ j, j < drN D → kdI (zi J2 64 17 0) 7 j = drW D j := fun j hj => by
    rw [h1 7 (by decide)]
    show zcp (J 13) (J 7) 12 j = _
    rw [← hV.2.2.2.2.1.2 j hj]; exact if_pos (by omega)
  have c71 : ∀ j, j < drN D → kdI (zi J2 64 17 0) 71 j = drW D j := fun j hj => by
    show zcp (J2 76) (J2 71) 12 j = _
    rw [← hM.2.2.2.2.1.2 j hj]; exact if_pos (by omega)
  have c3 : kdI (zi J2 64 17 0) 3 4 = nI (drN D) := by
    rw [h1 3 (by decide)]; exact hV.2.2.2.2.1.1
  have c646 : kdI (zi J2 64 17 0) 64 6 = nI (drN D) := hM.2.2.2.2.1.1
  have h34 : drRu D 6 = 3 ∨ drRu D 6 = 4 := by
    have := hok.1.2.2.2.2.2.2
    rcases (show (drRu D 6).toInt = 3 ∨ (drRu D 6).toInt = 4 by have a1 := this.1; have a2 := this.2; omega) with z | z
    · exact Or.inl (Int32.toInt_inj.mp (by rw [z]; decide))
    · exact Or.inr (Int32.toInt_inj.mp (by rw [z]; decide))
  obtain ⟨P, hP, hP6, hPw⟩ : ∃ P, (P = 3 ∨ P = 4) ∧ drRu D 6 = nI P ∧ ∀ j, j < drN D → (drW D j).toNatClampNeg < 2 ^ P := by
    rcases h34 with z | z
    · refine ⟨3, Or.inl rfl, z, fun j hj => ?_⟩
      have hw : anyW (drW D) (drN D) = false := by
        cases q : anyW (drW D) (drN D) with
        | false => rfl
        | true => exact absurd ⟨z, q⟩ hwd
      have a := anyW_f _ hw j hj
      have b := nI_cl (m := 15) (hok.2.2.1.2 j hj) (by decide)
      rcases Nat.lt_or_ge (drW D j).toNatClampNeg 8 with q | q
      · exact q
      · refine absurd ?_ a
        rw [b.1]; exact nI_lt (a := 7) (by omega) (by omega)
    · refine ⟨4, Or.inr rfl, z, fun j hj => ?_⟩
      have b := nI_cl (m := 15) (hok.2.2.1.2 j hj) (by decide)
      show _ < 16
      omega
  obtain ⟨g0, -, -, -, -, -, r8, r9⟩ := h
  obtain ⟨⟨o0, o1, o2, o3, o4, o5, o6⟩, ow, ⟨on, ow2⟩, -, -⟩ := hok
  refine ⟨rlG_c g0 (fun k a b => hk k (by omega) (by omega) (by omega) (by omega) (by omega)), ⟨P, drN D, fun j => (drW D j).toNatClampNeg, hP, ⟨fun j hj => (c68 j hj).trans (c4 j hj).symm, ?_, ?_, ?_, ?_, ?_, ?_, ?_⟩, ⟨c3, c646, on, fun j hj => ⟨?_, ?_, hPw j hj⟩⟩⟩, fun j hj => ⟨⟨(c69 j hj).trans (c5 j hj).symm, ?_⟩, ⟨(c70 j hj).trans (c6 j hj).symm, ?_⟩⟩, ⟨⟨fun j hj => ?_, fun j hj => ?_, fun j hj => ?_, fun j hj => ?_, rfl, rfl, rfl⟩, fun j hj => ⟨?_, ?_, ?_⟩, fun j hj => ?_⟩, ⟨Or.inl ⟨?_, rfl⟩, Or.inl ⟨?_, rfl⟩⟩, ⟨0, ?_, rfl, by decide, fun j hj => absurd hj (Nat.not_lt_zero j)⟩, fun k hk4 => ?_, ?_⟩
  · rw [c4 0 (by decide)]; exact o0
  · rw [c4 1 (by decide)]; exact o1
  · rw [c4 2 (by decide)]; exact o2
  · rw [c4 3 (by decide)]; exact o3
  · rw [c4 4 (by decide)]; exact o4
  · rw [c4 5 (by decide)]; exact o5
  · rw [c4 6 (by decide)]; exact hP6
  · rw [c7 j hj]; exact (nI_cl (m := 15) (ow2 j hj) (by decide)).1
  · rw [c71 j hj]; exact (nI_cl (m := 15) (ow2 j hj) (by decide)).1
  · rw [c5 j hj]; exact (ow j hj).1
  · rw [c6 j hj]; exact (ow j hj).2.1
  · rw [c65 _ (by omega), if_neg (by omega)]; exact (c18 j hj).symm
  · rw [c65 _ (by omega), if_neg (by omega)]; exact (c20 j hj).symm
  · rw [c65 _ (by omega), if_neg (by omega)]; exact (c19 j hj).symm
  · rw [c65 _ (by omega), if_pos (by omega), show 160 * 0 + 104 + j - 104 = j by omega]; exact (c17 j hj).symm
  · have e : qWe (qOf (kdI (zi J2 64 17 0)) (kdL (qL L 16 (drQ (qOf (zi J 1 1 0) L 16)))) 16) j = 0 := c18 j hj
    rw [e, c4 0 (by decide)]
    exact ⟨by decide, Int.le_trans (by decide) o0.1⟩
  · have e : qHe (qOf (kdI (zi J2 64 17 0)) (kdL (qL L 16 (drQ (qOf (zi J 1 1 0) L 16)))) 16) j = 0 := c19 j hj
    rw [e, c6 j hj]
    exact ⟨by decide, (ow j hj).2.1.1⟩
  · have e : qLi (qOf (kdI (zi J2 64 17 0)) (kdL (qL L 16 (drQ (qOf (zi J 1 1 0) L 16)))) 16) j = drLi D j := c17 j hj
    rw [e]
    exact (ow j hj).2.2
  · have e : qLn (qOf (kdI (zi J2 64 17 0)) (kdL (qL L 16 (drQ (qOf (zi J 1 1 0) L 16)))) 16) j = 0 := c20 j hj
    rw [e, c4 0 (by decide)]
    have := o0.1
    exact ⟨by decide, by show (0 : Int) ≤ _; omega⟩
  · rw [h1 22 (by decide)]; rfl
  · rw [h1 22 (by decide)]; rfl
  · rw [h1 1 (by decide), tell_k (by decide)]; rfl
  · exact rlS_c (hk _ (by omega) (by omega) (by omega) (by omega) (by omega)) (hk _ (by omega) (by omega) (by omega) (by omega) (by omega)) (by rw [hk 82 (by decide) (by decide) (by decide) (by decide) (by decide)]) (by rw [hk 83 (by decide) (by decide) (by decide) (by decide) (by decide)]) (fun j _ => by rw [hk 84 (by decide) (by decide) (by decide) (by decide) (by decide)]) (r8 k hk4)
  · rw [kdI_64 (by decide), zi_eq, va_up_ne _ _ (by decide), hf2.2 35 (by decide), tell_k (by decide), zi_ne (by decide), hf 64 (by decide), hk 0 (by decide) (by decide) (by decide) (by decide) (by decide)]
    exact r9
theorem st_text {E : zE} {I : zI} {L : zL} {R : zR} (h : Rel I L R) : zAi E m_X7_text m_X8_text [] I L R Rel := by
  obtain ⟨t, t1, t2, t3, t4⟩ := h.2.2.2.2.2.1
  have hR := h.rf
  refine zCt_mono (ct_X7_text hR t1 t3) (fun r1 Sh1 I1 L1 R1 hq => ?_)
  obtain ⟨rfl, rfl, rfl, J, hf, hcE, hI⟩ := hq
  refine ⟨rfl, _, rfl, ?_⟩
  have a64 : I1 64 17 = nI t ∧ I1 77 = I 77 := by
    rcases hI with ⟨-, e, -⟩ | ⟨-, e, -⟩
    · rw [e, zi_ne (by decide), zi_ne (by decide), hf 64 (by decide), hf 77 (by decide)]; exact ⟨t2, rfl⟩
    · rw [e, tell_k (by decide), tell_k (by decide), zi_ne (by decide), zi_ne (by decide), hf 64 (by decide), hf 77 (by decide)]; exact ⟨t2, rfl⟩
  refine zCt_mono (ct_X8_text (g := gB I) hR a64.1 t3 (fun j hj => by rw [a64.2]; exact t4 j hj) (fun j _ => gB_n)) (fun r2 Sh2 I2 L2 R2 hq2 => ?_)
  obtain ⟨rfl, rfl, rfl, J2, hf2, hcM, hI2⟩ := hq2
  refine ⟨rfl, rfl, ?_⟩
  generalize fcA (gB I) t = fc at hcE hcM
  generalize (lpA (gB I) t).2.1 = D at hcE hcM
  rcases fc with p | u
  · rcases hI with ⟨-, e, e2⟩ | ⟨z, -, -⟩
    · rcases hI2 with ⟨-, e3, e4⟩ | ⟨z, -, -⟩
      · rw [e3, e4, e2]
        rw [e] at hf2
        exact tx_f h hf hf2
      · have := hcM.1; rw [z] at this; exact absurd this (by decide)
    · exact absurd z hcE.1
  · obtain ⟨z1, hV, hok, hwd⟩ := hcE
    obtain ⟨z2, hM, -, -⟩ := hcM
    rcases hI with ⟨z, -, -⟩ | ⟨-, e, e2⟩
    · exact absurd z1 z
    · rcases hI2 with ⟨z, -, -⟩ | ⟨-, e3, e4⟩
      · rw [z2] at z; exact absurd z (by decide)
      · rw [e3, e4, e2]
        rw [e] at hf2
        exact tx_t h hf hf2 hV hM hok hwd
