section ZSTEP4
variable {E : zE} {I : zI} {L : zL} {R : zR}
/-- tape or sheets have changed -/
theorem Rel_t {I J : zI} {L : zL} {R : zR} (h : Rel I L R) (hk : ∀ k, k ≠ 0 → k ≠ 1 → k ≠ 2 → k ≠ 64 → k ≠ 77 → (k < 56 ∨ 63 < k) → k ≠ 82 → k ≠ 83 → k ≠ 84 → J k = I k) (h64 : J 64 6 = I 64 6) (ht : ∃ t, rlT t J) (hs : ∀ k, k < 4 → rlS k J) (hn : J 64 35 = J 0 10) : Rel J L R := by
  obtain ⟨g, ⟨P, n, w, hP, r1, r2⟩, r3, r4, ⟨r5, r6⟩, -, -, -⟩ := h
  have e : ∀ k, 3 ≤ k → k < 56 → J k = I k := fun k h1 h2 => hk k (by omega) (by omega) (by omega) (by omega) (by omega) (by omega) (by omega) (by omega) (by omega)
  have e2 : ∀ k, 65 ≤ k → k < 72 → J k = I k := fun k h1 h2 => hk k (by omega) (by omega) (by omega) (by omega) (by omega) (by omega) (by omega) (by omega) (by omega)
  have qe : ∀ c, (c = 16 ∨ c = 46 ∨ c = 51) → qOf J L c = qOf I L c := by
    intro c hc
    refine qOf_eq ?_ ?_ ?_ ?_ rfl
    all_goals exact e _ (by omega) (by omega)
  refine ⟨rlG_c g (fun k h1 h2 => e k (by omega) (by omega)), ⟨P, n, w, hP, rlP_c (e 4 (by decide) (by decide)) (e2 68 (by decide) (by decide)) r1, rlW_c (by rw [e 3 (by decide) (by decide)]) h64 (e 7 (by decide) (by decide)) (e2 71 (by decide) (by decide)) r2⟩, rlH_c (e 5 (by decide) (by decide)) (e 6 (by decide) (by decide)) (e2 69 (by decide) (by decide)) (e2 70 (by decide) (by decide)) r3, rlQ_c (fun a _ => by rw [e2 65 (by decide) (by decide)]) (fun _ _ => rfl) (qe 16 (Or.inl rfl)) (by rw [e 4 (by decide) (by decide)]) (e 6 (by decide) (by decide)) r4, ⟨?_, ?_⟩, ht, hs, hn⟩
  · exact rlK_c (by rw [e 22 (by decide) (by decide)]) (by rw [e2 67 (by decide) (by decide)]) (fun a h1 h2 => by rw [e2 65 (by decide) (by decide)]) (fun a h1 h2 => rfl) (qe 46 (Or.inr (Or.inl rfl))) (by rw [e 4 (by decide) (by decide)]) (e 6 (by decide) (by decide)) r5
  · exact rlK_c (by rw [e 22 (by decide) (by decide)]) (by rw [e2 67 (by decide) (by decide)]) (fun a h1 h2 => by rw [e2 65 (by decide) (by decide)]) (fun a h1 h2 => rfl) (qe 51 (Or.inr (Or.inr rfl))) (by rw [e 4 (by decide) (by decide)]) (e 6 (by decide) (by decide)) r6
theorem rlS_all {I J : zI} (hs : ∀ k, k < 4 → rlS k I) (hk : ∀ k, (56 ≤ k ∧ k ≤ 63) ∨ (82 ≤ k ∧ k ≤ 84) → J k = I k) : ∀ k, k < 4 → rlS k J := fun k h4 => rlS_c (hk _ (by omega)) (hk _ (by omega)) (by rw [hk 82 (by decide)]) (by rw [hk 83 (by decide)]) (fun j _ => by rw [hk 84 (by decide)]) (hs k h4)
theorem st_end (h : Rel I L R) {n : Int32} : zAi E m_X7_end m_X8_end [.int n] I L R Rel := by
  obtain ⟨t, ht⟩ := h.2.2.2.2.2.1
  have hx := ct_X7_end (E := E) (I := I) (L := L) (n := n) h.rf
  have ht3 := ht.2.2.1
  have e0 : (I 1 1).toInt = t := by rw [ht.1, nI_toInt (by omega)]
  have e1 : (I 64 17).toInt = t := by rw [ht.2.1, nI_toInt (by omega)]
  by_cases c : inV 0 (I 64 17) n = true
  · have c' := inV_iff.mp c
    rw [t_0, e1] at c'
    have n0 : ¬ n < 0 := by rw [t_lt, t_0]; omega
    have n1 : n ≤ I 1 1 := by rw [t_le, e0]; omega
    rw [if_neg n0, if_neg n0, if_pos n1, if_pos n1] at hx
    have hy := ct_X8_end (E := E) (I := zi I 1 1 n) (L := L) (n := n) h.rf
    rw [zi_ne (show 64 ≠ 1 by decide), if_pos c, if_pos c] at hy
    have hn := cl_of (n := t + 1) c'.1 (by omega) (by omega)
    refine mk_i hx hy (by rw [ht.1, ht.2.1]) (Rel_t h (fun k h0 h1 h2 h3 h4 h5 h6 h7 h8 => by rw [zi_ne h3, zi_ne h1]) (by rw [zi_at2 (by decide), zi_ne (by decide)]) ⟨n.toNatClampNeg, ?_, ?_, by omega, fun j hj => ?_⟩ (rlS_all h.2.2.2.2.2.2.1 (fun k hk => by rw [zi_ne (by omega), zi_ne (by omega)])) ?_)
    · rw [zi_ne (by decide), zi_at]; exact hn.2
    · rw [zi_at]; exact hn.2
    · rw [zi_ne (by decide), zi_ne (by decide), zi_ne (by decide), zi_ne (by decide)]
      exact ht.2.2.2 j (by omega)
    · rw [zi_at2 (by decide), zi_ne (by decide), zi_ne (by decide), zi_ne (by decide)]
      exact h.2.2.2.2.2.2.2
  · have c' := mt inV_iff.mpr c
    rw [t_0, e1] at c'
    have hx2 : zCf E m_X7_end zShF [.ref 0, .int n] I L R (some (.int (-1))) I L R := by
      by_cases n0 : n < 0
      · rw [if_pos n0, if_pos n0] at hx; exact hx
      · have n1 : ¬ n ≤ I 1 1 := by rw [t_le, e0]; rw [t_lt, t_0] at n0; omega
        rw [if_neg n0, if_neg n0, if_neg n1, if_neg n1] at hx; exact hx
    have hy := ct_X8_end (E := E) (I := I) (L := L) (n := n) h.rf
    rw [if_neg c, if_neg c] at hy
    exact mk_i hx2 hy rfl h
theorem bt_and (y : Int64) : vp_nar .byte (y.toInt32.toInt8.toInt32) &&& 255 = (y &&& 255).toInt32 := by
  have e : vp_nar .byte (y.toInt32.toInt8.toInt32) = y.toInt8.toInt32 := by
    have e0 : ∀ x : Int32, vp_nar .byte x = x.toInt8.toInt32 := fun x => rfl
    rw [e0]
    simp
  rw [e]
  apply Int32.toBitVec_inj.mp
  have h1 : (y.toInt8.toInt32 &&& 255).toBitVec = (y.toBitVec.signExtend 8).signExtend 32 &&& 255#32 := rfl
  have h2 : ((y &&& 255).toInt32).toBitVec = (y.toBitVec &&& 255#64).signExtend 32 := rfl
  rw [h1, h2]
  apply BitVec.eq_of_getLsbD_eq
  intro i hi
  have k32 : ∀ i : Fin 32, (255#32).getLsbD i.val = decide (i.val < 8) := by decide
  have k64 : ∀ i : Fin 32, (255#64).getLsbD i.val = decide (i.val < 8) := by decide
  have k1 := k32 ⟨i, hi⟩
  have k2 := k64 ⟨i, hi⟩
  dsimp only at k1 k2
  simp only [BitVec.getLsbD_and, BitVec.getLsbD_signExtend, k1, k2]
  by_cases c : i < 8
  · simp [c, hi, show i < 64 by omega]
  · simp [c, hi, show i < 64 by omega]
theorem st_feed (h : Rel I L R) {v : Int64} : zAi E m_X7_feed m_X8_feed [.long v] I L R Rel := by
  obtain ⟨t, ht⟩ := h.2.2.2.2.2.1
  have hx := ct_X7_feed (E := E) (I := I) (L := L) (v := v) h.rf ht.1 ht.2.2.1
  by_cases c : t + 8 ≤ 400
  · rw [if_pos c, if_pos c] at hx
    have e : ∀ k, k ≠ 1 → k ≠ 2 → apI I 1 v t 8 k = I k := fun k h1 h2 => by unfold apI; rw [up_ne h2, zi_ne h1]
    have hy := ct_X8_feed (E := E) (I := apI I 1 v t 8) (L := L) (v := v) (n := t) h.rf (by rw [e 64 (by decide) (by decide)]; exact ht.2.1) ht.2.2.1
    rw [if_pos c, if_pos c] at hy
    have f : ∀ k, k ≠ 64 → k ≠ 77 → fdI (apI I 1 v t 8) v t 8 k = apI I 1 v t 8 k := fun k h1 h2 => by unfold fdI; rw [up_ne h2, zi_ne h1]
    have f64 : ∀ j, j ≠ 17 → fdI (apI I 1 v t 8) v t 8 64 j = I 64 j := fun j hj => by unfold fdI; rw [up_ne (by decide), zi_at2 hj, e 64 (by decide) (by decide)]
    refine mk_i hx hy rfl (Rel_t h (fun k h0 h1 h2 h3 h4 h5 h6 h7 h8 => by rw [f k h3 h4, e k h1 h2]) (f64 6 (by decide)) ⟨t + 8, ?_, fdI_1 _ _ _ _, c, fun j hj => ?_⟩ (rlS_all h.2.2.2.2.2.2.1 (fun k hk => by rw [f k (by omega) (by omega), e k (by omega) (by omega)])) ?_)
    · rw [f 1 (by decide) (by decide)]; exact apI_1 I 1 v t 8
    · rw [f 2 (by decide) (by decide)]
      have a1 : fdI (apI I 1 v t 8) v t 8 77 = apR v t (I 77) 8 := by unfold fdI; rw [up_eq, e 77 (by decide) (by decide)]
      have a2 : apI I 1 v t 8 2 = apB v t (I 2) 8 := by unfold apI; exact up_eq _ _ _
      rw [a1, a2]
      unfold apR apB
      by_cases q : t ≤ j ∧ j < t + 8
      · rw [if_pos q, if_pos q]
        exact (bt_and _).symm
      · rw [if_neg q, if_neg q]
        exact ht.2.2.2 j (by omega)
    · rw [f64 35 (by decide), f 0 (by decide) (by decide), e 0 (by decide) (by decide)]
      exact h.2.2.2.2.2.2.2
  · rw [if_neg c, if_neg c] at hx
    have hy := ct_X8_feed (E := E) (I := I) (L := L) (v := v) (n := t) h.rf ht.2.1 ht.2.2.1
    rw [if_neg c, if_neg c] at hy
    exact mk_i hx hy rfl h
theorem b_f {b : Bool} (h : ¬ b = true) : b = false := by cases b; rfl; exact absurd rfl h
theorem st_sheet (h : Rel I L R) {k lane n : Int32} : zAi E m_X7_sheet m_X8_sheet [.int k, .int lane, .int n] I L R Rel := by
  by_cases c : inV 0 3 k = true ∧ inV 0 2 lane = true ∧ n ≤ 40
  · obtain ⟨c1, c2, c3⟩ := c
    have c1' := inV_iff.mp c1
    have c2' := inV_iff.mp c2
    rw [t_0, show (3 : Int32).toInt = 3 from rfl] at c1'
    rw [t_0, show (2 : Int32).toInt = 2 from rfl] at c2'
    have hk0 := cl_of (n := 4) c1'.1 (by omega) (by decide)
    have hl0 := cl_of (n := 3) c2'.1 (by omega) (by decide)
    generalize k.toNatClampNeg = i at hk0
    obtain ⟨hi, rfl⟩ := hk0
    have hx := ct_X7_sheet (E := E) (I := I) (L := L) h.rf hi (by rw [in03]; exact c2) c3
    by_cases p : 0 ≤ n
    · rw [if_pos p, if_pos p] at hx
      have p' := t_le.mp p
      rw [t_0] at p'
      have c3' := t_le.mp c3
      rw [show (40 : Int32).toInt = 40 from rfl] at c3'
      have hn0 := cl_of (n := 41) p' (by omega) (by decide)
      generalize hJ : zi (zi (va_up I (56 + 2 * i + 1) (zfill (I (56 + 2 * i + 1)) 40 0)) (56 + 2 * i) 1 lane) (56 + 2 * i) 2 n = J at hx
      have e : ∀ q, q ≠ 56 + 2 * i → q ≠ 56 + 2 * i + 1 → J q = I q := fun q h1 h2 => by rw [← hJ, zi_ne h1, zi_ne h1, up_ne h2]
      have hy := ct_X8_sheet (E := E) (I := J) (L := L) h.rf hi c2 c3
      rw [if_pos p, if_pos p] at hy
      refine mk_i hx hy rfl (Rel_t h (fun q h0 h1 h2 h3 h4 h5 h6 h7 h8 => by rw [up_ne h8, zi_ne h7, zi_ne h6, e q (by omega) (by omega)]) (by rw [up_ne (by decide), zi_ne (by decide), zi_ne (by decide), e 64 (by omega) (by omega)]) ?_ (fun k' hk' => ?_) (by rw [up_ne (by decide), zi_ne (by decide), zi_ne (by decide), e 64 (by omega) (by omega), up_ne (by decide), zi_ne (by decide), zi_ne (by decide), e 0 (by omega) (by omega)]; exact h.2.2.2.2.2.2.2))
      · obtain ⟨t, ht⟩ := h.2.2.2.2.2.1
        refine ⟨t, rlT_c ?_ ?_ ?_ ?_ ht⟩
        · rw [up_ne (by decide), zi_ne (by decide), zi_ne (by decide), e 1 (by omega) (by omega)]
        · rw [up_ne (by decide), zi_ne (by decide), zi_ne (by decide), e 64 (by omega) (by omega)]
        · rw [up_ne (by decide), zi_ne (by decide), zi_ne (by decide), e 2 (by omega) (by omega)]
        · rw [up_ne (by decide), zi_ne (by decide), zi_ne (by decide), e 77 (by omega) (by omega)]
      · have m : ∀ q, q ≠ 82 → q ≠ 83 → q ≠ 84 → va_up (zi (zi J 82 i lane) 83 i n) 84 (flR (J 84) (40 * i) 40 0) q = J q := fun q h1 h2 h3 => by rw [up_ne h3, zi_ne h2, zi_ne h1]
        have m82 : va_up (zi (zi J 82 i lane) 83 i n) 84 (flR (J 84) (40 * i) 40 0) 82 = va_up (I 82) i lane := by rw [up_ne (by decide), zi_ne (by decide), zi_eq, e 82 (by omega) (by omega)]
        have m83 : va_up (zi (zi J 82 i lane) 83 i n) 84 (flR (J 84) (40 * i) 40 0) 83 = va_up (I 83) i n := by rw [up_ne (by decide), zi_eq, zi_ne (by decide), e 83 (by omega) (by omega)]
        have m84 : va_up (zi (zi J 82 i lane) 83 i n) 84 (flR (J 84) (40 * i) 40 0) 84 = flR (I 84) (40 * i) 40 0 := by rw [up_eq, e 84 (by omega) (by omega)]
        by_cases q : k' = i
        · subst q
          refine ⟨?_, Or.inr ⟨lane.toNatClampNeg, n.toNatClampNeg, hl0.1, by omega, ?_, ?_, ?_, ?_, fun j hj => ?_⟩⟩
          · rw [m83, up_eq]; omega
          · rw [m _ (by omega) (by omega) (by omega), ← hJ, zi_at]; exact hn0.2
          · rw [m83, up_eq]; exact hn0.2
          · rw [m _ (by omega) (by omega) (by omega), ← hJ, zi_at2 (by decide), zi_at]; exact hl0.2
          · rw [m82, up_eq]; exact hl0.2
          · rw [m84, m _ (by omega) (by omega) (by omega), ← hJ, zi_ne (by omega), zi_ne (by omega), up_eq]
            unfold flR zfill
            rw [if_pos (by omega), if_pos hj]
        · refine rlS_c ?_ ?_ ?_ ?_ (fun j hj => ?_) (h.2.2.2.2.2.2.1 k' hk')
          · rw [m _ (by omega) (by omega) (by omega), e _ (by omega) (by omega)]
          · rw [m _ (by omega) (by omega) (by omega), e _ (by omega) (by omega)]
          · rw [m82, up_ne q]
          · rw [m83, up_ne q]
          · rw [m84]; unfold flR; rw [if_neg (by omega)]
    · rw [if_neg p, if_neg p] at hx
      have hy := ct_X8_sheet (E := E) (I := I) (L := L) h.rf hi c2 c3
      rw [if_neg p, if_neg p] at hy
      exact mk_i hx hy rfl h
  · have d : inV 0 3 k = false ∨ inV 0 2 lane = false ∨ ¬ n ≤ 40 := by
      by_cases q1 : inV 0 3 k = true
      · by_cases q2 : inV 0 2 lane = true
        · exact Or.inr (Or.inr (fun q3 => c ⟨q1, q2, q3⟩))
        · exact Or.inr (Or.inl (b_f q2))
      · exact Or.inl (b_f q1)
    exact mk_i (ct_X7_sheet_bad h.rf (by rw [in04, in03]; exact d)) (ct_X8_sheet_bad h.rf d) rfl h
theorem st_lay (h : Rel I L R) {k i v : Int32} : zAi E m_X7_lay m_X8_lay [.int k, .int i, .int v] I L R Rel := by
  by_cases c1 : inV 0 3 k = true
  · have c1' := inV_iff.mp c1
    rw [t_0, show (3 : Int32).toInt = 3 from rfl] at c1'
    have hk0 := cl_of (n := 4) c1'.1 (by omega) (by decide)
    generalize k.toNatClampNeg = m at hk0
    obtain ⟨hm, rfl⟩ := hk0
    have hs := h.2.2.2.2.2.2.1 m hm
    have hlen : I (56 + 2 * m) 2 ≤ 40 := by
      rcases hs.2 with ⟨a, -⟩ | ⟨l, n, -, a2, a3, -, -, -, -⟩
      · rw [a]; decide
      · rw [a3, t_le, nI_toInt (by omega), show (40 : Int32).toInt = 40 from rfl]; omega
    have hx := ct_X7_lay (E := E) (I := I) (L := L) (i := i) (v := v) h.rf hm hlen
    rcases hs.2 with ⟨a, b⟩ | ⟨l, n, a1, a2, a3, a4, a5, a6, a7⟩
    · have f1 : fltV (I (56 + 2 * m) 2) (I (56 + 2 * m) 1) (I (56 + 2 * m) 1) i = 1 := by
        unfold fltV; rw [if_neg (by rw [a]; decide)]
      rw [f1, if_neg (by decide), if_neg (by decide)] at hx
      have hy := ct_X8_lay (E := E) (I := I) (L := L) (i := i) (v := v) h.rf hm hs.1.1 hs.1.2
      rw [if_pos b, if_pos b] at hy
      exact mk_i hx hy rfl h
    · have b4 : ¬ I 82 m = -4 := by
        rw [a6]
        intro q
        have := congrArg Int32.toInt q
        rw [nI_toInt (by omega), show (-4 : Int32).toInt = -4 from rfl] at this
        omega
      have f0 : fltV (I (56 + 2 * m) 2) (I (56 + 2 * m) 1) (I (56 + 2 * m) 1) i = if i < 0 then 2 else if i < nI n then 0 else 2 := by
        unfold fltV; rw [a3, if_pos (by rw [t_le, t_0, nI_toInt (by omega)]; omega), if_pos rfl]
      have e1 : (I 83 m - 1).toInt = (n : Int) - 1 := by rw [a4, t_sub (by rw [nI_toInt (by omega)]; omega) (by rw [nI_toInt (by omega)]; omega) (by decide) (by decide), nI_toInt (by omega)]; rfl
      by_cases c : inV 0 (I 83 m - 1) i = true
      · have c' := inV_iff.mp c
        rw [t_0, e1] at c'
        have hi0 := cl_of (n := n) c'.1 (by omega) (by omega)
        rw [f0, if_neg (show ¬ i < 0 by rw [t_lt, t_0]; omega), if_pos (show i < nI n by rw [t_lt, nI_toInt (by omega)]; omega), if_pos rfl, if_pos rfl] at hx
        have hy := ct_X8_lay (E := E) (I := zi I (56 + 2 * m + 1) i.toNatClampNeg (putV (I (56 + 2 * m) 1) v)) (L := L) (i := i) (v := v) h.rf hm (by rw [zi_ne (by omega)]; exact hs.1.1) (by rw [zi_ne (by omega)]; exact hs.1.2)
        rw [zi_ne (show 82 ≠ 56 + 2 * m + 1 by omega), zi_ne (show 83 ≠ 56 + 2 * m + 1 by omega), if_neg b4, if_neg b4, if_pos c, if_pos c] at hy
        refine mk_i hx hy rfl ?_
        generalize i.toNatClampNeg = ii at hi0
        rw [show I (56 + 2 * m) 1 = I 82 m from a5.trans a6.symm]
        generalize putV (I 82 m) v = pv
        have e : ∀ q, q ≠ 56 + 2 * m + 1 → q ≠ 84 → zi (zi I (56 + 2 * m + 1) ii pv) 84 (40 * m + ii) pv q = I q := fun q h1 h2 => by rw [zi_ne h2, zi_ne h1]
        refine Rel_t h (fun q h0 h1 h2 h3 h4 h5 h6 h7 h8 => e q (by omega) (by omega)) (by rw [e 64 (by omega) (by omega)]) ?_ (fun k' hk' => ?_) (by rw [e 64 (by omega) (by omega), e 0 (by omega) (by omega)]; exact h.2.2.2.2.2.2.2)
        · obtain ⟨t, ht⟩ := h.2.2.2.2.2.1
          exact ⟨t, rlT_c (by rw [e 1 (by omega) (by omega)]) (by rw [e 64 (by omega) (by omega)]) (e 2 (by omega) (by omega)) (e 77 (by omega) (by omega)) ht⟩
        · by_cases q : k' = m
          · subst q
            refine ⟨by rw [e 83 (by omega) (by omega)]; exact hs.1, Or.inr ⟨l, n, a1, a2, ?_, ?_, ?_, ?_, fun j hj => ?_⟩⟩
            · rw [e _ (by omega) (by omega)]; exact a3
            · rw [e _ (by omega) (by omega)]; exact a4
            · rw [e _ (by omega) (by omega)]; exact a5
            · rw [e _ (by omega) (by omega)]; exact a6
            · rw [zi_ne (show 56 + 2 * k' + 1 ≠ 84 by omega)]
              by_cases q2 : j = ii
              · subst q2; rw [zi_at, zi_at]
              · rw [zi_at2 (by omega), zi_at2 q2, zi_ne (by omega)]; exact a7 j hj
          · refine rlS_c (e _ (by omega) (by omega)) (e _ (by omega) (by omega)) (by rw [e 82 (by omega) (by omega)]) (by rw [e 83 (by omega) (by omega)]) (fun j hj => ?_) (h.2.2.2.2.2.2.1 k' hk')
            rw [zi_at2 (by omega), zi_ne (by omega)]
      · have c' := mt inV_iff.mpr c
        rw [t_0, e1] at c'
        have f2 : fltV (I (56 + 2 * m) 2) (I (56 + 2 * m) 1) (I (56 + 2 * m) 1) i = 2 := by
          rw [f0]
          by_cases q : i < 0
          · rw [if_pos q]
          · rw [if_neg q, if_neg (by rw [t_lt, nI_toInt (by omega)]; rw [t_lt, t_0] at q; omega)]
        rw [f2, if_neg (by decide), if_neg (by decide)] at hx
        have hy := ct_X8_lay (E := E) (I := I) (L := L) (i := i) (v := v) h.rf hm hs.1.1 hs.1.2
        rw [if_neg b4, if_neg b4, if_neg c, if_neg c] at hy
        exact mk_i hx hy rfl h
  · exact mk_i (ct_X7_lay_bad h.rf (by rw [in04]; exact b_f c1)) (ct_X8_lay_bad h.rf (b_f c1)) rfl h
end ZSTEP4
