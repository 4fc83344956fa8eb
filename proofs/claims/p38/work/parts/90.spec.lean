section ZSTEP2
variable {E : zE} {I : zI} {L : zL} {R : zR}
theorem isLi_iff {w v : Int32} : isLi w v = true ↔ isW w = true ∧ inV 0 99 v = true := by
  simp only [isLi, inV, Bool.and_eq_true]
theorem st_light (h : Rel I L R) {w v : Int32} : zAi E m_X7_light m_X8_light [.int w, .int v] I L R Rel := by
  by_cases c : isLi w v = true
  · have c2 := isLi_iff.mp c
    have hw := isW_nI c2.1
    have hv := inV_iff.mp c2.2
    rw [show (0 : Int32).toInt = 0 from rfl, show (99 : Int32).toInt = 99 from rfl] at hv
    have hx := ct_X7_light (E := E) (I := I) (L := L) (w := w) (v := v) h.rf
    rw [if_pos c, if_pos c] at hx
    have hy := ct_X8_light (E := E) (I := zi I 17 w.toNatClampNeg v) (L := L) (w := w) (v := v) h.rf
    rw [if_pos c2, if_pos c2] at hy
    refine mk_i hx hy (by rw [zi_ne (by decide), h.l hw.2]) ?_
    generalize w.toNatClampNeg = j at hw
    have e : ∀ k, k ≠ 65 → k ≠ 17 → zi (zi I 17 j v) 65 (104 + j) v k = I k := fun k h1 h2 => by rw [zi_ne h1, zi_ne h2]
    have e17 : zi (zi I 17 j v) 65 (104 + j) v 17 = va_up (I 17) j v := by rw [zi_ne (by decide), zi_eq]
    have e65 : ∀ a, a ≠ 104 + j → zi (zi I 17 j v) 65 (104 + j) v 65 a = I 65 a := fun a h1 => by rw [zi_at2 h1, zi_ne (by decide)]
    have hq : qOf (zi (zi I 17 j v) 65 (104 + j) v) L 16 = (va_up (I 17) j v, I 18, I 19, I 20, L 16 4, L 16 5, L 16 6) := by
      unfold qOf
      rw [e17, e 18 (by decide) (by decide), e 19 (by decide) (by decide), e 20 (by decide) (by decide)]
    refine Rel_q h (fun k hk => e k (by omega) (by omega)) ⟨by rw [e 64 (by decide) (by decide)], by rw [e 64 (by decide) (by decide)], by rw [e 64 (by decide) (by decide)]⟩ (fun a h1 h2 => e65 a (by omega)) (fun _ _ => rfl) (fun _ _ _ => rfl) ⟨?_, ?_⟩ (rlG_c h.1 (fun k h1 h2 => e k (by omega) (by omega)))
    · rw [hq]
      obtain ⟨a1, a2, a3, a4, a5, a6, a7⟩ := h.q
      refine ⟨fun i hi => ?_, fun i hi => ?_, fun i hi => ?_, fun i hi => ?_, a5, a6, a7⟩
      · rw [e65 _ (by omega)]; exact a1 i hi
      · rw [e65 _ (by omega)]; exact a2 i hi
      · rw [e65 _ (by omega)]; exact a3 i hi
      · show _ = va_up (I 17) j v i
        by_cases q : i = j
        · subst q
          rw [up_eq, show 160 * 0 + 104 + i = 104 + i by omega, zi_at]
        · rw [up_ne q, e65 _ (by omega)]; exact a4 i hi
    · rw [hq, e 4 (by decide) (by decide), e 6 (by decide) (by decide)]
      refine ⟨fun i hi => ⟨(h.b.1 i hi).1, (h.b.1 i hi).2.1, ?_⟩, h.b.2⟩
      show 0 ≤ (va_up (I 17) j v i).toInt ∧ (va_up (I 17) j v i).toInt ≤ 99
      by_cases q : i = j
      · subst q; rw [up_eq]; exact hv
      · rw [up_ne q]; exact h.li hi
  · have c2 := mt isLi_iff.mpr c
    have hx := ct_X7_light (E := E) (I := I) (L := L) (w := w) (v := v) h.rf
    rw [if_neg c, if_neg c] at hx
    have hy := ct_X8_light (E := E) (I := I) (L := L) (w := w) (v := v) h.rf
    rw [if_neg c2, if_neg c2] at hy
    exact mk_i hx hy rfl h
theorem st_clear (h : Rel I L R) : zAi E m_X7_clear m_X8_clear [] I L R Rel := by
  have hx := ct_X7_clear (E := E) (I := I) (L := L) h.rf
  have hy := ct_X8_clear (E := E) (I := qI I 16 (drQ (qOf I L 16))) (L := qL L 16 (drQ (qOf I L 16))) h.rf
  refine mk_i hx hy ?_ ?_
  · rw [qI_ne (show 65 < 16 + 1 ∨ 16 + 4 < 65 by decide), show (104 : Nat) = 48 + 8 + 48 from rfl, sumV_sp, sumV_sp, sumV_congr (f := fun j => I 65 (0 + j)) (g := I 18) 48 (fun j hj => by rw [show 0 + j = j by omega]; exact h.w hj), sumV_congr (f := fun j => I 65 (0 + (48 + j))) (g := I 20) 8 (fun j hj => by rw [show 0 + (48 + j) = 48 + j by omega]; exact h.n hj), sumV_congr (f := fun j => I 65 (0 + (48 + 8 + j))) (g := I 19) 48 (fun j hj => by rw [show 0 + (48 + 8 + j) = 56 + j by omega]; exact h.h hj)]
  · have e : ∀ k, k ≠ 65 → (k < 17 ∨ 20 < k) → va_up (qI I 16 (drQ (qOf I L 16))) 65 (clR (qI I 16 (drQ (qOf I L 16)) 65) 160) k = I k := fun k h1 h2 => by rw [up_ne h1, qI_ne (by omega)]
    have e65 : ∀ a, va_up (qI I 16 (drQ (qOf I L 16))) 65 (clR (qI I 16 (drQ (qOf I L 16)) 65) 160) 65 a = clR (I 65) 160 a := fun a => by rw [up_eq, qI_ne (show 65 < 16 + 1 ∨ 16 + 4 < 65 by decide)]
    have el : ∀ a, va_up (qL L 16 (drQ (qOf I L 16))) 66 (zfill (qL L 16 (drQ (qOf I L 16)) 66) 3 0) 66 a = zfill (L 66) 3 0 a := fun a => by rw [up_eq, qL_ne (show 66 ≠ 16 by decide)]
    have hq : qOf (va_up (qI I 16 (drQ (qOf I L 16))) 65 (clR (qI I 16 (drQ (qOf I L 16)) 65) 160)) (va_up (qL L 16 (drQ (qOf I L 16))) 66 (zfill (qL L 16 (drQ (qOf I L 16)) 66) 3 0)) 16 = drQ (qOf I L 16) := by
      rw [qOf_eq (I := qI I 16 (drQ (qOf I L 16))) (L := qL L 16 (drQ (qOf I L 16))) (up_ne (by decide)) (up_ne (by decide)) (up_ne (by decide)) (up_ne (by decide)) (up_ne (by decide)), qOf_q]
    refine Rel_q h (fun k hk => e k (by omega) (by omega)) ⟨by rw [e 64 (by decide) (by decide)], by rw [e 64 (by decide) (by decide)], by rw [e 64 (by decide) (by decide)]⟩ (fun a h1 h2 => by rw [e65]; unfold clR; rw [if_neg (by omega)]) (fun k hk => by rw [up_ne (by omega), qL_ne (by omega)]) (fun a h1 h2 => by rw [el]; unfold zfill; rw [if_neg (by omega)]) ⟨?_, ?_⟩ (rlG_c h.1 (fun k h1 h2 => e k (by omega) (by omega)))
    · rw [hq]
      refine ⟨fun i hi => ?_, fun i hi => ?_, fun i hi => ?_, fun i hi => ?_, ?_, ?_, ?_⟩
      · rw [e65]; show clR _ _ _ = zfill _ 48 0 i; unfold clR zfill; rw [if_pos (by omega), if_pos hi]
      · rw [e65]; show clR _ _ _ = zfill _ 8 0 i; unfold clR zfill; rw [if_pos (by omega), if_pos hi]
      · rw [e65]; show clR _ _ _ = zfill _ 48 0 i; unfold clR zfill; rw [if_pos (by omega), if_pos hi]
      · rw [e65]; unfold clR; rw [if_neg (by omega), show 160 * 0 + 104 + i = 104 + i by omega]; exact h.l hi
      · rw [el]; rfl
      · rw [el]; rfl
      · rw [el]; rfl
    · rw [hq, e 4 (by decide) (by decide), e 6 (by decide) (by decide)]
      have hc := h.cap
      refine ⟨fun i hi => ⟨?_, ?_, h.li hi⟩, fun i hi => ?_⟩
      · show 0 ≤ (zfill _ 48 (0 : Int32) i).toInt ∧ (zfill _ 48 (0 : Int32) i).toInt ≤ _; unfold zfill; rw [if_pos hi, t_0]; omega
      · show 0 ≤ (zfill _ 48 (0 : Int32) i).toInt ∧ (zfill _ 48 (0 : Int32) i).toInt ≤ _; unfold zfill; rw [if_pos hi, t_0]; have := (h.trap hi).2; omega
      · show 0 ≤ (zfill _ 8 (0 : Int32) i).toInt ∧ (zfill _ 8 (0 : Int32) i).toInt ≤ _; unfold zfill; rw [if_pos hi, t_0]; omega
theorem Rel_w {I J : zI} {L : zL} {R : zR} (h : Rel I L R) (hk : ∀ k, k ≠ 3 → k ≠ 7 → k ≠ 64 → k ≠ 71 → J k = I k) (h64 : J 64 17 = I 64 17 ∧ J 64 35 = I 64 35) (hw : ∀ P n w, (P = 3 ∨ P = 4) → I 4 6 = nI P → rlW P n w I → ∃ n' w', rlW P n' w' J) : Rel J L R := by
  obtain ⟨g, ⟨P, n, w, hP, r1, r2⟩, r3, r4, ⟨r5, r6⟩, ⟨t, r7⟩, r8, r9⟩ := h
  obtain ⟨n', w', r2'⟩ := hw P n w hP r1.2.2.2.2.2.2.2 r2
  have qe : ∀ c, (c = 16 ∨ c = 46 ∨ c = 51) → qOf J L c = qOf I L c := by
    intro c hc
    refine qOf_eq ?_ ?_ ?_ ?_ rfl
    all_goals exact hk _ (by omega) (by omega) (by omega) (by omega)
  have h65 : J 65 = I 65 := hk 65 (by decide) (by decide) (by decide) (by decide)
  refine ⟨rlG_c g (fun k h1 h2 => hk k (by omega) (by omega) (by omega) (by omega)), ⟨P, n', w', hP, rlP_c (hk 4 (by decide) (by decide) (by decide) (by decide)) (hk 68 (by decide) (by decide) (by decide) (by decide)) r1, r2'⟩, rlH_c (hk 5 (by decide) (by decide) (by decide) (by decide)) (hk 6 (by decide) (by decide) (by decide) (by decide)) (hk 69 (by decide) (by decide) (by decide) (by decide)) (hk 70 (by decide) (by decide) (by decide) (by decide)) r3, rlQ_c (fun a _ => by rw [h65]) (fun _ _ => rfl) (qe 16 (Or.inl rfl)) (by rw [hk 4 (by decide) (by decide) (by decide) (by decide)]) (hk 6 (by decide) (by decide) (by decide) (by decide)) r4, ⟨?_, ?_⟩, ⟨t, rlT_c (by rw [hk 1 (by decide) (by decide) (by decide) (by decide)]) h64.1 (hk 2 (by decide) (by decide) (by decide) (by decide)) (hk 77 (by decide) (by decide) (by decide) (by decide)) r7⟩, fun k hk4 => ?_, ?_⟩
  · exact rlK_c (by rw [hk 22 (by decide) (by decide) (by decide) (by decide)]) (by rw [hk 67 (by decide) (by decide) (by decide) (by decide)]) (fun a h1 h2 => by rw [h65]) (fun a h1 h2 => rfl) (qe 46 (Or.inr (Or.inl rfl))) (by rw [hk 4 (by decide) (by decide) (by decide) (by decide)]) (hk 6 (by decide) (by decide) (by decide) (by decide)) r5
  · exact rlK_c (by rw [hk 22 (by decide) (by decide) (by decide) (by decide)]) (by rw [hk 67 (by decide) (by decide) (by decide) (by decide)]) (fun a h1 h2 => by rw [h65]) (fun a h1 h2 => rfl) (qe 51 (Or.inr (Or.inr rfl))) (by rw [hk 4 (by decide) (by decide) (by decide) (by decide)]) (hk 6 (by decide) (by decide) (by decide) (by decide)) r6
  · exact rlS_c (hk _ (by omega) (by omega) (by omega) (by omega)) (hk _ (by omega) (by omega) (by omega) (by omega)) (by rw [hk 82 (by decide) (by decide) (by decide) (by decide)]) (by rw [hk 83 (by decide) (by decide) (by decide) (by decide)]) (fun j _ => by rw [hk 84 (by decide) (by decide) (by decide) (by decide)]) (r8 k hk4)
  · rw [h64.2, hk 0 (by decide) (by decide) (by decide) (by decide)]; exact r9
theorem st_word (h : Rel I L R) {v : Int32} : zAi E m_X7_word m_X8_word [.int v] I L R Rel := by
  obtain ⟨P, n, w, hP, r1, r2⟩ := h.2.1
  have hp2 := P2 hP
  have hmw := mwV hP r1.2.2.2.2.2.2.2
  have h68 : I 68 6 = nI P := by rw [r1.1 6 (by decide)]; exact r1.2.2.2.2.2.2.2
  have hx := ct_X7_word (E := E) (I := I) (L := L) (v := v) h.rf r2.1 r2.2.2.1
  rw [hmw] at hx
  by_cases c : inV 0 (nI (2 ^ P - 1)) v = true
  · rw [if_pos c, if_pos c] at hx
    obtain ⟨ev, hv⟩ := inV_natn (by omega) c
    by_cases c2 : n < 12
    · rw [if_pos c2, if_pos c2] at hx
      have e : ∀ k, k ≠ 3 → k ≠ 7 → zi (zi I 7 n v) 3 4 (nI (n + 1)) k = I k := fun k h1 h2 => by rw [zi_ne h1, zi_ne h2]
      have hy := ct_X8_word (E := E) (I := zi (zi I 7 n v) 3 4 (nI (n + 1))) (L := L) (v := v) h.rf hP (by rw [e 68 (by decide) (by decide)]; exact h68) (n := n) (by rw [e 64 (by decide) (by decide)]; exact r2.2.1) r2.2.2.1
      rw [if_pos c, if_pos c, if_pos c2, if_pos c2] at hy
      refine mk_i hx hy rfl (Rel_w h (fun k h1 h2 h3 h4 => ?_) ⟨?_, ?_⟩ (fun P' n' w' hP' hI' r' => ?_))
      · rw [zi_ne h3, zi_ne h4, e k h1 h2]
      · rw [zi_at2 (by decide), zi_ne (by decide), e 64 (by decide) (by decide)]
      · rw [zi_at2 (by decide), zi_ne (by decide), e 64 (by decide) (by decide)]
      · have eP : P = P' := (nI_eq (a := P) (b := P') (by omega) (by omega)).mp (r1.2.2.2.2.2.2.2.symm.trans hI')
        subst eP
        refine ⟨n + 1, fun j => if j = n then v.toNatClampNeg else w j, ?_, ?_, by omega, fun j hj => ?_⟩
        · rw [zi_ne (by decide), zi_ne (by decide), zi_at]
        · rw [zi_at]
        · rw [zi_ne (by decide), zi_ne (by decide), zi_ne (show 7 ≠ 3 by decide), zi_ne (show 71 ≠ 64 by decide)]
          by_cases q : j = n
          · subst q
            dsimp only
            rw [if_pos rfl, zi_at, zi_at]
            exact ⟨ev, ev, by omega⟩
          · dsimp only
            rw [if_neg q, zi_at2 q, zi_at2 q, zi_ne (show 71 ≠ 3 by decide), zi_ne (show 71 ≠ 7 by decide)]
            exact r2.2.2.2 j (by omega)
    · rw [if_neg c2, if_neg c2] at hx
      have hy := ct_X8_word (E := E) (I := I) (L := L) (v := v) h.rf hP h68 (n := n) r2.2.1 r2.2.2.1
      rw [if_pos c, if_pos c, if_neg c2, if_neg c2] at hy
      exact mk_i hx hy rfl h
  · rw [if_neg c, if_neg c] at hx
    have hy := ct_X8_word (E := E) (I := I) (L := L) (v := v) h.rf hP h68 (n := n) r2.2.1 r2.2.2.1
    rw [if_neg c, if_neg c] at hy
    exact mk_i hx hy rfl h
theorem st_still (h : Rel I L R) : zAi E m_X7_still m_X8_still [] I L R Rel := by
  obtain ⟨P, n, w, hP, r1, r2⟩ := h.2.1
  have hx := ct_X7_still (E := E) (I := I) (L := L) h.rf
  have hy := ct_X8_still (E := E) (I := zi I 3 4 0) (L := L) h.rf
  refine mk_i hx hy (by rw [zi_ne (by decide), r2.2.1, r2.1]) (Rel_w h (fun k h1 h2 h3 h4 => ?_) ⟨?_, ?_⟩ (fun P' n' w' hP' hI' r' => ?_))
  · rw [zi_ne h3, zi_ne h1]
  · rw [zi_at2 (by decide), zi_ne (by decide)]
  · rw [zi_at2 (by decide), zi_ne (by decide)]
  · refine ⟨0, w', ?_, ?_, by omega, fun j hj => absurd hj (by omega)⟩
    · rw [zi_ne (by decide), zi_at]; rfl
    · rw [zi_at]; rfl
theorem st_words (h : Rel I L R) {i : Int32} : zAi E m_X7_words m_X8_words [.int i] I L R Rel := by
  obtain ⟨P, n, w, hP, r1, r2⟩ := h.2.1
  have hx := ct_X7_words (E := E) (I := I) (L := L) (i := i) h.rf r2.1 r2.2.2.1
  have hn : (I 64 6).toInt = n := by rw [r2.2.1, nI_toInt (by have := r2.2.2.1; omega)]
  have hy := ct_X8_words (E := E) (I := I) (L := L) (i := i) h.rf (by rw [hn]; have := r2.2.2.1; omega) (by rw [hn]; omega)
  have h12 := r2.2.2.1
  refine mk_i hx hy ?_ h
  have e1 : (I 64 6 - 1).toInt = (n : Int) - 1 := by rw [t_sub (by omega) (by omega) (by decide) (by decide), hn]; rfl
  by_cases c : inV 0 (I 64 6 - 1) i = true
  · have c' := inV_iff.mp c
    rw [e1, t_0] at c'
    have hj := cl_of (n := n) c'.1 (by omega) (by omega)
    rw [if_pos c, if_neg (by rw [t_lt, t_0]; omega), if_pos (by rw [t_lt, nI_toInt (by omega)]; omega), (r2.2.2.2 _ hj.1).1, (r2.2.2.2 _ hj.1).2.1]
  · have c' := mt inV_iff.mpr c
    rw [e1, t_0] at c'
    rw [if_neg c]
    by_cases c2 : i < 0
    · rw [if_pos c2]
    · rw [if_neg c2, if_neg (by rw [t_lt, nI_toInt (by omega)]; rw [t_lt, t_0] at c2; omega)]
theorem st_count (h : Rel I L R) {x : Int32} : zAi E m_X7_count m_X8_count [.int x] I L R Rel := by
  obtain ⟨P, n, w, hP, r1, r2⟩ := h.2.1
  obtain ⟨t, ht⟩ := h.2.2.2.2.2.1
  have hs := h.2.2.2.2.2.2.1 0 (by decide)
  have hk : ∀ i, rlK i I L → ∃ b : Bool, I 67 i = b2i b ∧ (if I 22 i = 0 then (0 : Int32) else 1) = b2i b := by
    intro i hi
    rcases hi with ⟨a, b⟩ | ⟨a, b, -, -⟩
    · exact ⟨false, by rw [b]; rfl, by rw [a]; rfl⟩
    · exact ⟨true, by rw [b]; rfl, by rw [a]; rfl⟩
  obtain ⟨k0, hk0, hk0'⟩ := hk 0 h.2.2.2.2.1.1
  obtain ⟨k1, hk1, hk1'⟩ := hk 1 h.2.2.2.2.1.2
  refine mk_i (ct_X7_count h.rf) (ct_X8_count h.rf hk0 hk1) ?_ h
  rw [cntV_congr (f := fun j => decide (0 < I 69 j)) (g := fun j => decide (0 < I 5 j)) 48 (fun j hj => by rw [(h.hot hj).1]), cntV_congr (f := fun j => decide (0 < I 70 j)) (g := fun j => decide (0 < I 6 j)) 48 (fun j hj => by rw [(h.trap hj).1]), cntV_congr (f := fun j => decide (0 < I 65 (104 + j))) (g := fun j => decide (0 < I 17 j)) 48 (fun j hj => by rw [h.l hj]), r2.1, r2.2.1, hk0', hk1', ht.1, ht.2.1]
  have e5 : (if I 82 0 = -4 then -4 else I 83 0) = (if 0 ≤ I 56 2 then I 56 2 else -4) := by
    rcases hs.2 with ⟨a, b⟩ | ⟨l, m, a1, a2, a3, a4, a5, a6, -⟩
    · rw [if_pos b, show I 56 2 = -1 from a, if_neg (by decide)]
    · have b3 : I 56 2 = nI m := a3
      rw [a6, a4, b3, if_neg (fun q => by
        have := congrArg Int32.toInt q
        rw [nI_toInt (by omega), show (-4 : Int32).toInt = -4 from rfl] at this
        omega), if_pos (by rw [t_le, t_0, nI_toInt (by omega)]; omega)]
  rw [e5]
end ZSTEP2
