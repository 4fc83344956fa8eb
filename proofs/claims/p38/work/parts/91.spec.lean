section ZSTEP3
variable {E : zE} {I : zI} {L : zL} {R : zR}
theorem in01 {x : Int32} : inV 0 1 x = true ↔ ¬ x < 0 ∧ x < 2 := by
  rw [inV_iff, t_lt, t_lt, t_0, show (1 : Int32).toInt = 1 from rfl, show (2 : Int32).toInt = 2 from rfl]; omega
theorem in04 {x : Int32} : in0 4 x = inV 0 3 x := bool_eq (by rw [inV_iff, in0_iff, show (0 : Int32).toInt = 0 from rfl, show (3 : Int32).toInt = 3 from rfl, show (4 : Int32).toInt = 4 from rfl]; omega)
theorem in03 {x : Int32} : in0 3 x = inV 0 2 x := bool_eq (by rw [inV_iff, in0_iff, show (0 : Int32).toInt = 0 from rfl, show (2 : Int32).toInt = 2 from rfl, show (3 : Int32).toInt = 3 from rfl]; omega)
theorem sR_cpR {I : zI} {L : zL} {a b : Nat} {q : zQ} (h : sR I L b q) : sR (va_up I 65 (cpR (I 65) (160 * a) (160 * b) 160)) (va_up L 66 (cpR (L 66) (3 * a) (3 * b) 3)) a q := by
  have hc : ∀ j, j < 160 → va_up I 65 (cpR (I 65) (160 * a) (160 * b) 160) 65 (160 * a + j) = I 65 (160 * b + j) := by
    intro j hj
    rw [up_eq]
    unfold cpR
    rw [if_pos (by omega), show 160 * b + (160 * a + j - 160 * a) = 160 * b + j by omega]
  have hl : ∀ j, j < 3 → va_up L 66 (cpR (L 66) (3 * a) (3 * b) 3) 66 (3 * a + j) = L 66 (3 * b + j) := by
    intro j hj
    rw [up_eq]
    unfold cpR
    rw [if_pos (by omega), show 3 * b + (3 * a + j - 3 * a) = 3 * b + j by omega]
  obtain ⟨h1, h2, h3, h4, h5, h6, h7⟩ := h
  refine ⟨fun j hj => ?_, fun j hj => ?_, fun j hj => ?_, fun j hj => ?_, ?_, ?_, ?_⟩
  · rw [hc j (by omega), h1 j hj]
  · rw [show 160 * a + 48 + j = 160 * a + (48 + j) by omega, hc _ (by omega), ← h2 j hj]; congr 1; omega
  · rw [show 160 * a + 56 + j = 160 * a + (56 + j) by omega, hc _ (by omega), ← h3 j hj]; congr 1; omega
  · rw [show 160 * a + 104 + j = 160 * a + (104 + j) by omega, hc _ (by omega), ← h4 j hj]; congr 1; omega
  · exact (hl 0 (by decide)).trans h5
  · exact (hl 1 (by decide)).trans h6
  · exact (hl 2 (by decide)).trans h7
theorem st_keep (h : Rel I L R) {x : Int32} : zAi E m_X7_keep m_X8_keep [.int x] I L R Rel := by
  by_cases c : inV 0 1 x = true
  · have c' := inV_iff.mp c
    rw [t_0, show (1 : Int32).toInt = 1 from rfl] at c'
    have hx0 := cl_of (n := 2) c'.1 (by omega) (by decide)
    generalize x.toNatClampNeg = i at hx0
    obtain ⟨hi, rfl⟩ := hx0
    have hKi : rlK i I L := by rcases (show i = 0 ∨ i = 1 by omega) with rfl | rfl; exact h.2.2.2.2.1.1; exact h.2.2.2.2.1.2
    have hkb : ∃ b : Bool, I 67 i = b2i b ∧ (if I 22 i = 0 then (0 : Int32) else 1) = b2i b := by
      rcases hKi with ⟨a, b⟩ | ⟨a, b, -, -⟩
      · exact ⟨false, by rw [b]; rfl, by rw [a]; rfl⟩
      · exact ⟨true, by rw [b]; rfl, by rw [a]; rfl⟩
    obtain ⟨kb, hk1, hk2⟩ := hkb
    have hx := ct_X7_keep (E := E) (I := I) (L := L) h.rf hi
    rw [hk2] at hx
    generalize hqq : cpQ (qOf I L 16) (qOf I L (46 + 5 * i)) = q' at hx
    have hc9 : 46 + 5 * i + 4 < 65 := by omega
    have eJ : ∀ k, k ≠ 22 → (k < 46 + 5 * i + 1 ∨ 46 + 5 * i + 4 < k) → zi (qI I (46 + 5 * i) q') 22 i 1 k = I k := fun k h1 h2 => by rw [zi_ne h1, qI_ne h2]
    have hy := ct_X8_keep (E := E) (I := zi (qI I (46 + 5 * i) q') 22 i 1) (L := qL L (46 + 5 * i) q') (kb := kb) h.rf hi (by rw [eJ 67 (by decide) (by omega)]; exact hk1)
    refine mk_i hx hy rfl ?_
    rw [eJ 65 (by decide) (by omega), show qL L (46 + 5 * i) q' 66 = L 66 from qL_ne (by omega)]
    have e : ∀ k, k ≠ 22 → k ≠ 65 → k ≠ 67 → (k < 46 + 5 * i + 1 ∨ 46 + 5 * i + 4 < k) → va_up (zi (zi (qI I (46 + 5 * i) q') 22 i 1) 67 i 1) 65 (cpR (I 65) (160 * (i + 1)) 0 160) k = I k := fun k h1 h2 h3 h4 => by rw [up_ne h2, zi_ne h3, eJ k h1 h4]
    have e65 : ∀ a, (a < 160 * (i + 1) ∨ 160 * (i + 1) + 160 ≤ a) → va_up (zi (zi (qI I (46 + 5 * i) q') 22 i 1) 67 i 1) 65 (cpR (I 65) (160 * (i + 1)) 0 160) 65 a = I 65 a := fun a ha => by rw [up_eq]; unfold cpR; rw [if_neg (by omega)]
    have e66 : ∀ a, (a < 3 * (i + 1) ∨ 3 * (i + 1) + 3 ≤ a) → va_up (qL L (46 + 5 * i) q') 66 (cpR (L 66) (3 * (i + 1)) 0 3) 66 a = L 66 a := fun a ha => by rw [up_eq]; unfold cpR; rw [if_neg (by omega)]
    have eL : ∀ k, k ≠ 66 → k ≠ 46 + 5 * i → va_up (qL L (46 + 5 * i) q') 66 (cpR (L 66) (3 * (i + 1)) 0 3) k = L k := fun k h1 h2 => by rw [up_ne h1, qL_ne h2]
    have hqi : qOf (va_up (zi (zi (qI I (46 + 5 * i) q') 22 i 1) 67 i 1) 65 (cpR (I 65) (160 * (i + 1)) 0 160)) (va_up (qL L (46 + 5 * i) q') 66 (cpR (L 66) (3 * (i + 1)) 0 3)) (46 + 5 * i) = q' := by
      rw [qOf_eq (I := qI I (46 + 5 * i) q') (L := qL L (46 + 5 * i) q') (by rw [up_ne (by omega), zi_ne (by omega), zi_ne (by omega)]) (by rw [up_ne (by omega), zi_ne (by omega), zi_ne (by omega)]) (by rw [up_ne (by omega), zi_ne (by omega), zi_ne (by omega)]) (by rw [up_ne (by omega), zi_ne (by omega), zi_ne (by omega)]) (up_ne (by omega)), qOf_q]
    have hsq : sR (va_up (zi (zi (qI I (46 + 5 * i) q') 22 i 1) 67 i 1) 65 (cpR (I 65) (160 * (i + 1)) 0 160)) (va_up (qL L (46 + 5 * i) q') 66 (cpR (L 66) (3 * (i + 1)) 0 3)) (i + 1) q' := by
      have h0 := sR_cpR (a := i + 1) (sR_cq (qOf I L (46 + 5 * i)) h.q)
      rw [hqq] at h0
      exact sR_c h0 (fun a _ _ => by rw [up_eq, up_eq]) (fun a _ _ => by rw [up_eq, up_eq])
    obtain ⟨g, ⟨P, n, w, hP, r1, r2⟩, r3, r4, ⟨r5, r6⟩, ⟨t, r7⟩, r8, r9⟩ := h
    have hKn : rlK i (va_up (zi (zi (qI I (46 + 5 * i) q') 22 i 1) 67 i 1) 65 (cpR (I 65) (160 * (i + 1)) 0 160)) (va_up (qL L (46 + 5 * i) q') 66 (cpR (L 66) (3 * (i + 1)) 0 3)) := by
      refine Or.inr ⟨?_, ?_, ?_, ?_⟩
      · rw [up_ne (by decide), zi_ne (by decide), zi_at]
      · rw [up_ne (by decide), zi_at]
      · rw [hqi]; exact hsq
      · rw [hqi, e 4 (by decide) (by decide) (by decide) (by omega), e 6 (by decide) (by decide) (by decide) (by omega), ← hqq]
        exact cp_b _ r4.2
    have hKo : ∀ o, o < 2 → o ≠ i → rlK o I L → rlK o (va_up (zi (zi (qI I (46 + 5 * i) q') 22 i 1) 67 i 1) 65 (cpR (I 65) (160 * (i + 1)) 0 160)) (va_up (qL L (46 + 5 * i) q') 66 (cpR (L 66) (3 * (i + 1)) 0 3)) := by
      intro o ho hne hk
      refine rlK_c ?_ ?_ (fun a h1 h2 => e65 a (by omega)) (fun a h1 h2 => e66 a (by omega)) (qOf_eq (e _ (by omega) (by omega) (by omega) (by omega)) (e _ (by omega) (by omega) (by omega) (by omega)) (e _ (by omega) (by omega) (by omega) (by omega)) (e _ (by omega) (by omega) (by omega) (by omega)) (eL _ (by omega) (by omega))) (by rw [e 4 (by decide) (by decide) (by decide) (by omega)]) (e 6 (by decide) (by decide) (by decide) (by omega)) hk
      · rw [up_ne (by decide), zi_ne (by decide), zi_at2 hne, qI_ne (by omega)]
      · rw [up_ne (by decide), zi_at2 hne, eJ 67 (by decide) (by omega)]
    refine ⟨rlG_c g (fun k h1 h2 => e k (by omega) (by omega) (by omega) (by omega)), ⟨P, n, w, hP, rlP_c (e 4 (by decide) (by decide) (by decide) (by omega)) (e 68 (by decide) (by decide) (by decide) (by omega)) r1, rlW_c (by rw [e 3 (by decide) (by decide) (by decide) (by omega)]) (by rw [e 64 (by decide) (by decide) (by decide) (by omega)]) (e 7 (by decide) (by decide) (by decide) (by omega)) (e 71 (by decide) (by decide) (by decide) (by omega)) r2⟩, rlH_c (e 5 (by decide) (by decide) (by decide) (by omega)) (e 6 (by decide) (by decide) (by decide) (by omega)) (e 69 (by decide) (by decide) (by decide) (by omega)) (e 70 (by decide) (by decide) (by decide) (by omega)) r3, rlQ_c (fun a h1 => e65 a (by omega)) (fun a h1 => e66 a (by omega)) (qOf_eq (e _ (by omega) (by omega) (by omega) (by omega)) (e _ (by omega) (by omega) (by omega) (by omega)) (e _ (by omega) (by omega) (by omega) (by omega)) (e _ (by omega) (by omega) (by omega) (by omega)) (eL _ (by omega) (by omega))) (by rw [e 4 (by decide) (by decide) (by decide) (by omega)]) (e 6 (by decide) (by decide) (by decide) (by omega)) r4, ⟨?_, ?_⟩, ⟨t, rlT_c (by rw [e 1 (by decide) (by decide) (by decide) (by omega)]) (by rw [e 64 (by decide) (by decide) (by decide) (by omega)]) (e 2 (by decide) (by decide) (by decide) (by omega)) (e 77 (by decide) (by decide) (by decide) (by omega)) r7⟩, fun k hk4 => rlS_c (e _ (by omega) (by omega) (by omega) (by omega)) (e _ (by omega) (by omega) (by omega) (by omega)) (by rw [e 82 (by decide) (by decide) (by decide) (by omega)]) (by rw [e 83 (by decide) (by decide) (by decide) (by omega)]) (fun j _ => by rw [e 84 (by decide) (by decide) (by decide) (by omega)]) (r8 k hk4), ?_⟩
    · rcases (show i = 0 ∨ i = 1 by omega) with rfl | rfl
      · exact hKn
      · exact hKo 0 (by decide) (by decide) r5
    · rcases (show i = 0 ∨ i = 1 by omega) with rfl | rfl
      · exact hKo 1 (by decide) (by decide) r6
      · exact hKn
    · rw [e 64 (by decide) (by decide) (by decide) (by omega), e 0 (by decide) (by decide) (by decide) (by omega)]; exact r9
  · have c2 : x < 0 ∨ ¬ x < 2 := by
      by_cases q : x < 0
      · exact Or.inl q
      · exact Or.inr (fun q2 => c (in01.mpr ⟨q, q2⟩))
    exact mk_i (ct_X7_keep_bad h.rf c2) (ct_X8_keep_bad h.rf (by cases hh : inV 0 1 x; rfl; exact absurd hh c)) rfl h
theorem st_back (h : Rel I L R) {x : Int32} : zAi E m_X7_back m_X8_back [.int x] I L R Rel := by
  by_cases c : inV 0 1 x = true
  · have c' := inV_iff.mp c
    rw [t_0, show (1 : Int32).toInt = 1 from rfl] at c'
    have hx0 := cl_of (n := 2) c'.1 (by omega) (by decide)
    generalize x.toNatClampNeg = i at hx0
    obtain ⟨hi, rfl⟩ := hx0
    have hKi : rlK i I L := by rcases (show i = 0 ∨ i = 1 by omega) with rfl | rfl; exact h.2.2.2.2.1.1; exact h.2.2.2.2.1.2
    have hx := ct_X7_back (E := E) (I := I) (L := L) h.rf hi
    rcases hKi with ⟨a, b⟩ | ⟨a, b, hs, hbb⟩
    · rw [if_pos a, if_pos a, if_pos a] at hx
      have hy := ct_X8_back (E := E) (I := I) (L := L) h.rf hi
      rw [if_pos b, if_pos b, if_pos b] at hy
      exact mk_i hx hy rfl h
    · have a' : ¬ I 22 i = 0 := by rw [a]; decide
      rw [if_neg a', if_neg a', if_neg a'] at hx
      generalize hqq : cpQ (qOf I L (46 + 5 * i)) (qOf I L 16) = q' at hx
      have e1 : ∀ k, (k < 17 ∨ 20 < k) → qI I 16 q' k = I k := fun k h2 => qI_ne (by omega)
      have hy := ct_X8_back (E := E) (I := qI I 16 q') (L := qL L 16 q') h.rf hi
      have b' : ¬ qI I 16 q' 67 i = 0 := by rw [e1 67 (by decide), b]; decide
      rw [if_neg b', if_neg b', if_neg b', e1 65 (by decide), show qL L 16 q' 66 = L 66 from qL_ne (by decide)] at hy
      have hs0 : sR (va_up I 65 (cpR (I 65) (160 * 0) (160 * (i + 1)) 160)) (va_up L 66 (cpR (L 66) (3 * 0) (3 * (i + 1)) 3)) 0 q' := by
        have h0 := sR_cpR (a := 0) (sR_cq (qOf I L 16) hs)
        rw [hqq] at h0
        exact h0
      refine mk_i hx hy ?_ ?_
      · refine sumV_congr 48 (fun j hj => ?_)
        have h1 := hs0.1 j hj
        rw [up_eq, show 160 * 0 + j = 0 + j by omega] at h1
        rw [h1, ← hqq]
        rfl
      · have e : ∀ k, k ≠ 65 → (k < 17 ∨ 20 < k) → va_up (qI I 16 q') 65 (cpR (I 65) 0 (160 * (i + 1)) 160) k = I k := fun k h1 h2 => by rw [up_ne h1, e1 k h2]
        have hq : qOf (va_up (qI I 16 q') 65 (cpR (I 65) 0 (160 * (i + 1)) 160)) (va_up (qL L 16 q') 66 (cpR (L 66) 0 (3 * (i + 1)) 3)) 16 = q' := by
          rw [qOf_eq (I := qI I 16 q') (L := qL L 16 q') (up_ne (by decide)) (up_ne (by decide)) (up_ne (by decide)) (up_ne (by decide)) (up_ne (by decide)), qOf_q]
        refine Rel_q h (fun k hk => e k (by omega) (by omega)) ⟨by rw [e 64 (by decide) (by decide)], by rw [e 64 (by decide) (by decide)], by rw [e 64 (by decide) (by decide)]⟩ (fun a h1 h2 => by rw [up_eq]; unfold cpR; rw [if_neg (by omega)]) (fun k hk => by rw [up_ne (by omega), qL_ne (by omega)]) (fun a h1 h2 => by rw [up_eq]; unfold cpR; rw [if_neg (by omega)]) ⟨?_, ?_⟩ (rlG_c h.1 (fun k h1 h2 => e k (by omega) (by omega)))
        · rw [hq]
          exact sR_c hs0 (fun a _ _ => by rw [up_eq, up_eq]) (fun a _ _ => by rw [up_eq, up_eq])
        · rw [hq, e 4 (by decide) (by decide), e 6 (by decide) (by decide), ← hqq]
          exact cp_b _ hbb
  · have c2 : x < 0 ∨ ¬ x < 2 := by
      by_cases q : x < 0
      · exact Or.inl q
      · exact Or.inr (fun q2 => c (in01.mpr ⟨q, q2⟩))
    exact mk_i (ct_X7_back_bad h.rf c2) (ct_X8_back_bad h.rf (by cases hh : inV 0 1 x; rfl; exact absurd hh c)) rfl h
end ZSTEP3
