theorem inV_iff {lo hi x : Int32} : inV lo hi x = true ↔ lo.toInt ≤ x.toInt ∧ x.toInt ≤ hi.toInt := by
  simp only [inV, Bool.and_eq_true, Bool.not_eq_true', decide_eq_false_iff_not]
  rw [t_lt, t_lt]
  omega
theorem isW_iff {w : Int32} : isW w = true ↔ 0 ≤ w.toInt ∧ w.toInt < 48 := by
  rw [← isW_in, inV_iff, show (0 : Int32).toInt = 0 from rfl, show (47 : Int32).toInt = 47 from rfl]
  omega
theorem in0_iff {n x : Int32} : in0 n x = true ↔ 0 ≤ x.toInt ∧ x.toInt < n.toInt := by
  simp only [in0, Bool.and_eq_true, Bool.not_eq_true', decide_eq_false_iff_not]
  rw [t_lt, t_le, t_0]
  omega
theorem cl_of {x : Int32} {n : Nat} (h1 : 0 ≤ x.toInt) (h2 : x.toInt < n) (hn : n < 2 ^ 31) : x.toNatClampNeg < n ∧ x = nI x.toNatClampNeg := by
  have h := zix_of2 (x := x) (N := n) (by rw [t_lt, t_0]; omega) (by rw [t_le, nI_toInt hn]; omega) hn
  obtain ⟨j, hj, rfl⟩ := nI_of (h.2.2)
  rw [nI_clamp hj] at h ⊢
  exact ⟨h.1, rfl⟩
theorem bool_eq {a b : Bool} (h : a = true ↔ b = true) : a = b := by
  cases a <;> cases b <;> simp_all
section ZREAD
variable {I : zI} {L : zL} {R : zR}
theorem Rel.rf (h : Rel I L R) : zLx R := h.1.1
theorem Rel.w (h : Rel I L R) {j : Nat} (hj : j < 48) : I 65 j = I 18 j := by
  have := h.2.2.2.1.1.1 j hj
  rw [show 160 * 0 + j = j by omega] at this
  exact this
theorem Rel.n (h : Rel I L R) {j : Nat} (hj : j < 8) : I 65 (48 + j) = I 20 j := by
  have := h.2.2.2.1.1.2.1 j hj
  rw [show 160 * 0 + 48 + j = 48 + j by omega] at this
  exact this
theorem Rel.h (h : Rel I L R) {j : Nat} (hj : j < 48) : I 65 (56 + j) = I 19 j := by
  have := h.2.2.2.1.1.2.2.1 j hj
  rw [show 160 * 0 + 56 + j = 56 + j by omega] at this
  exact this
theorem Rel.l (h : Rel I L R) {j : Nat} (hj : j < 48) : I 65 (104 + j) = I 17 j := by
  have := h.2.2.2.1.1.2.2.2.1 j hj
  rw [show 160 * 0 + 104 + j = 104 + j by omega] at this
  exact this
theorem Rel.s (h : Rel I L R) : L 66 0 = L 16 4 ∧ L 66 1 = L 16 5 ∧ L 66 2 = L 16 6 := ⟨h.2.2.2.1.1.2.2.2.2.1, h.2.2.2.1.1.2.2.2.2.2.1, h.2.2.2.1.1.2.2.2.2.2.2⟩
theorem Rel.r (h : Rel I L R) {j : Nat} (hj : j < 7) : I 68 j = I 4 j := by obtain ⟨P, n, w, -, r1, -⟩ := h.2.1; exact r1.1 j hj
theorem Rel.cap (h : Rel I L R) : 1 ≤ (I 4 0).toInt ∧ (I 4 0).toInt ≤ 999 := by obtain ⟨P, n, w, -, r1, -⟩ := h.2.1; exact r1.2.1
theorem Rel.dk (h : Rel I L R) : 0 ≤ (I 4 1).toInt ∧ (I 4 1).toInt ≤ 9 := by obtain ⟨P, n, w, -, r1, -⟩ := h.2.1; exact r1.2.2.1
theorem Rel.dr (h : Rel I L R) : I 4 2 = 0 ∨ I 4 2 = 1 := by obtain ⟨P, n, w, -, r1, -⟩ := h.2.1; exact r1.2.2.2.1
theorem Rel.sm (h : Rel I L R) : 0 ≤ (I 4 3).toInt ∧ (I 4 3).toInt ≤ 9 := by obtain ⟨P, n, w, -, r1, -⟩ := h.2.1; exact r1.2.2.2.2.1
theorem Rel.gn (h : Rel I L R) : 1 ≤ (I 4 4).toInt ∧ (I 4 4).toInt ≤ 9 := by obtain ⟨P, n, w, -, r1, -⟩ := h.2.1; exact r1.2.2.2.2.2.1
theorem Rel.by' (h : Rel I L R) : 1 ≤ (I 4 5).toInt ∧ (I 4 5).toInt ≤ 99 := by obtain ⟨P, n, w, -, r1, -⟩ := h.2.1; exact r1.2.2.2.2.2.2.1
theorem Rel.h5 (h : Rel I L R) : ¬ I 68 5 = 0 := by
  rw [h.r (by decide), t_eq, t_0]
  have := h.by'
  omega
theorem Rel.hot (h : Rel I L R) {j : Nat} (hj : j < 48) : I 69 j = I 5 j ∧ 0 ≤ (I 5 j).toInt ∧ (I 5 j).toInt ≤ 99 := (h.2.2.1 j hj).1
theorem Rel.trap (h : Rel I L R) {j : Nat} (hj : j < 48) : I 70 j = I 6 j ∧ 0 ≤ (I 6 j).toInt ∧ (I 6 j).toInt ≤ 50 := (h.2.2.1 j hj).2
theorem Rel.b (h : Rel I L R) : qB (I 4 0) (I 6) (qOf I L 16) := h.2.2.2.1.2
theorem Rel.q (h : Rel I L R) : sR I L 0 (qOf I L 16) := h.2.2.2.1.1
theorem Rel.li (h : Rel I L R) {j : Nat} (hj : j < 48) : 0 ≤ (I 17 j).toInt ∧ (I 17 j).toInt ≤ 99 := (h.b.1 j hj).2.2
theorem Rel.rt (h : Rel I L R) {j : Nat} (hj : j < 48) : I 65 (104 + j) + I 69 j + I 68 1 = cmV I j := by
  unfold cmV
  rw [h.l hj, (h.hot hj).1, h.r (by decide)]
theorem Rel.rb (h : Rel I L R) {j : Nat} (hj : j < 48) : (cmV I j).toInt = (I 17 j).toInt + (I 5 j).toInt + (I 4 1).toInt ∧ 0 ≤ (cmV I j).toInt ∧ (cmV I j).toInt ≤ 207 := by
  have h1 := h.li hj
  have h2 := (h.hot hj).2
  have h3 := h.dk
  have e1 := t_add (a := I 17 j) (b := I 5 j) (by omega) (by omega) (by omega) (by omega)
  have e2 := t_add (a := I 17 j + I 5 j) (b := I 4 1) (by omega) (by omega) (by omega) (by omega)
  unfold cmV
  rw [e2, e1]
  omega
end ZREAD
/-- a charge has changed, nothing else -/
theorem Rel_q {I J : zI} {L M : zL} {R S : zR} (h : Rel I L R) (hk : ∀ k, k < 17 ∨ (21 ≤ k ∧ k < 23) ∨ (46 ≤ k ∧ k < 64) ∨ (67 ≤ k ∧ k ≤ 71) ∨ k = 77 ∨ (82 ≤ k ∧ k ≤ 84) → J k = I k) (h64 : J 64 6 = I 64 6 ∧ J 64 17 = I 64 17 ∧ J 64 35 = I 64 35) (h65 : ∀ a, 160 ≤ a → a < 480 → J 65 a = I 65 a) (hL : ∀ k, k = 46 ∨ k = 51 → M k = L k) (h66 : ∀ a, 3 ≤ a → a < 9 → M 66 a = L 66 a) (hq : rlQ J M) (g : rlG J S) : Rel J M S := by
  obtain ⟨-, ⟨P, n, w, hP, r1, r2⟩, r3, r4, ⟨r5, r6⟩, ⟨t, r7⟩, r8, r9⟩ := h
  have qe : ∀ c, (c = 46 ∨ c = 51) → qOf J M c = qOf I L c := by
    intro c hc
    refine qOf_eq ?_ ?_ ?_ ?_ (hL c hc)
    all_goals exact hk _ (by omega)
  refine ⟨g, ⟨P, n, w, hP, rlP_c (hk 4 (by decide)) (hk 68 (by decide)) r1, rlW_c (by rw [hk 3 (by decide)]) h64.1 (hk 7 (by decide)) (hk 71 (by decide)) r2⟩, rlH_c (hk 5 (by decide)) (hk 6 (by decide)) (hk 69 (by decide)) (hk 70 (by decide)) r3, hq, ⟨?_, ?_⟩, ⟨t, rlT_c (by rw [hk 1 (by decide)]) h64.2.1 (hk 2 (by decide)) (hk 77 (by decide)) r7⟩, fun k hk4 => ?_, ?_⟩
  · exact rlK_c (by rw [hk 22 (by decide)]) (by rw [hk 67 (by decide)]) (fun a h1 h2 => h65 a (by omega) (by omega)) (fun a h1 h2 => h66 a (by omega) (by omega)) (qe 46 (Or.inl rfl)) (by rw [hk 4 (by decide)]) (hk 6 (by decide)) r5
  · exact rlK_c (by rw [hk 22 (by decide)]) (by rw [hk 67 (by decide)]) (fun a h1 h2 => h65 a (by omega) (by omega)) (fun a h1 h2 => h66 a (by omega) (by omega)) (qe 51 (Or.inr rfl)) (by rw [hk 4 (by decide)]) (hk 6 (by decide)) r6
  · exact rlS_c (hk _ (by omega)) (hk _ (by omega)) (by rw [hk 82 (by decide)]) (by rw [hk 83 (by decide)]) (fun j _ => by rw [hk 84 (by decide)]) (r8 k hk4)
  · rw [h64.2.2, hk 0 (by decide)]; exact r9
/-- the charge is q' on both sides -/
theorem Rel_u {I : zI} {L : zL} {R : zR} (h : Rel I L R) {q' : zQ} (hb : qB (I 4 0) (I 6) q') : Rel (sI (qI I 16 q') 0 q') (sL (qL L 16 q') 0 q') R := by
  have e : ∀ k, k ≠ 65 → (k < 17 ∨ 20 < k) → sI (qI I 16 q') 0 q' k = I k := fun k h1 h2 => by rw [sI_ne h1, qI_ne (by omega)]
  refine Rel_q h (fun k hk => e k (by omega) (by omega)) ⟨by rw [e 64 (by decide) (by decide)], by rw [e 64 (by decide) (by decide)], by rw [e 64 (by decide) (by decide)]⟩ (fun a h1 h2 => ?_) (fun k hk => ?_) (fun a h1 h2 => ?_) ⟨?_, ?_⟩ (rlG_c h.1 (fun k h1 h2 => e k (by omega) (by omega)))
  · rw [sI_o (Or.inr (by omega)), qI_ne (by omega)]
  · rw [sL_ne (by omega), qL_ne (by omega)]
  · unfold sL
    rw [zj_at2 (by omega), zj_at2 (by omega), zj_at2 (by omega), qL_ne (by decide)]
  · have e2 : qOf (sI (qI I 16 q') 0 q') (sL (qL L 16 q') 0 q') 16 = q' := by
      rw [qOf_eq (I := qI I 16 q') (L := qL L 16 q') (sI_ne (by decide)) (sI_ne (by decide)) (sI_ne (by decide)) (sI_ne (by decide)) (sL_ne (by decide)), qOf_q]
    rw [e2]
    exact sR_s _ _ _ _
  · have e2 : qOf (sI (qI I 16 q') 0 q') (sL (qL L 16 q') 0 q') 16 = q' := by
      rw [qOf_eq (I := qI I 16 q') (L := qL L 16 q') (sI_ne (by decide)) (sI_ne (by decide)) (sI_ne (by decide)) (sI_ne (by decide)) (sL_ne (by decide)), qOf_q]
    rw [e2, e 4 (by decide) (by decide), e 6 (by decide) (by decide)]
    exact hb
theorem sR_q {I : zI} {L : zL} {k : Nat} {q q' : zQ} {c : Nat} (h : sR I L k q) (hc : c + 4 < 65) : sR (qI I c q') (qL L c q') k q := sR_c h (fun a _ _ => by rw [qI_ne (by omega)]) (fun a _ _ => by rw [qL_ne (by omega)])
theorem sumV_sp (f : Nat → Int32) (a : Nat) : ∀ b, sumV f (a + b) = sumV f a + sumV (fun j => f (a + j)) b
  | 0 => by rw [sumV, Int32.add_zero]; rfl
  | b + 1 => by rw [← Nat.add_assoc, sumV, sumV_sp f a b, sumV, Int32.add_assoc]
section ZSTEP
variable {E : zE} {I : zI} {L : zL} {R : zR}
theorem st_fault (h : Rel I L R) : zAw E m_X7_fault m_X8_fault [] I L R Rel := by
  refine zCt_mono (ct_X7_fault h.rf) (fun r Sh1 J M S g => ?_)
  obtain ⟨rfl, rfl, rfl, rfl, rfl⟩ := g
  refine ⟨rfl, _, rfl, zCt_mono (ct_X8_fault h.rf) (fun r Sh1 J M S g => ?_)⟩
  obtain ⟨rfl, rfl, rfl, rfl, rfl⟩ := g
  exact ⟨rfl, ⟨_, rfl⟩, h⟩
theorem st_rule (h : Rel I L R) {w : Int32} : zAi E m_X7_rule m_X8_rule [.int w] I L R Rel := by
  refine mk_i (ct_X7_rule h.rf) (ct_X8_rule h.rf) ?_ h
  by_cases c : inV 0 6 w = true
  · have c' := inV_iff.mp c
    rw [show (0 : Int32).toInt = 0 from rfl, show (6 : Int32).toInt = 6 from rfl] at c'
    have hw := cl_of (n := 7) c'.1 (by omega) (by decide)
    rw [if_pos c, if_neg (by rw [t_lt, t_0]; omega), if_pos (by rw [t_lt, show (7 : Int32).toInt = 7 from rfl]; omega), h.r hw.1]
  · have c' := mt inV_iff.mpr c
    rw [show (0 : Int32).toInt = 0 from rfl, show (6 : Int32).toInt = 6 from rfl] at c'
    rw [if_neg c]
    by_cases c2 : w < 0
    · rw [if_pos c2]
    · rw [if_neg c2, if_neg (by rw [t_lt, show (7 : Int32).toInt = 7 from rfl]; rw [t_lt, t_0] at c2; omega)]
theorem st_well (h : Rel I L R) {w x : Int32} : zAi E m_X7_well m_X8_well [.int w, .int x] I L R Rel := by
  refine mk_i (ct_X7_well h.rf) (ct_X8_well h.rf) ?_ h
  by_cases c : isW w = true
  · have hw := isW_nI c
    rw [if_pos c]
    by_cases c2 : inV 0 4 x = true
    · have c2' := inV_iff.mp c2
      rw [show (0 : Int32).toInt = 0 from rfl, show (4 : Int32).toInt = 4 from rfl] at c2'
      rw [if_pos ⟨c, c2⟩, h.w hw.2, h.l hw.2, (h.hot hw.2).1, (h.trap hw.2).1, h.h hw.2]
      by_cases x0 : x = 0
      · rw [if_pos x0, if_pos x0]
      · by_cases x1 : x = 1
        · rw [if_neg x0, if_neg x0, if_pos x1, if_pos x1]
        · by_cases x2 : x = 2
          · rw [if_neg x0, if_neg x0, if_neg x1, if_neg x1, if_pos x2, if_pos x2]
          · by_cases x3 : x = 3
            · rw [if_neg x0, if_neg x0, if_neg x1, if_neg x1, if_neg x2, if_neg x2, if_pos x3, if_pos x3]
            · have x4 : x = 4 := by
                rw [t_eq, show (0 : Int32).toInt = 0 from rfl] at x0
                rw [t_eq, show (1 : Int32).toInt = 1 from rfl] at x1
                rw [t_eq, show (2 : Int32).toInt = 2 from rfl] at x2
                rw [t_eq, show (3 : Int32).toInt = 3 from rfl] at x3
                rw [t_eq, show (4 : Int32).toInt = 4 from rfl]
                omega
              rw [if_neg x0, if_neg x0, if_neg x1, if_neg x1, if_neg x2, if_neg x2, if_neg x3, if_neg x3, if_pos x4]
    · rw [if_neg (fun q => c2 q.2)]
      have ne : ∀ k : Int32, inV 0 4 k = true → ¬ x = k := fun k hk e => c2 (by rw [e]; exact hk)
      rw [if_neg (ne 0 (by decide)), if_neg (ne 1 (by decide)), if_neg (ne 2 (by decide)), if_neg (ne 3 (by decide)), if_neg (ne 4 (by decide))]
  · rw [if_neg c, if_neg (fun q => c q.1)]
theorem st_line (h : Rel I L R) {c : Int32} : zAi E m_X7_line m_X8_line [.int c] I L R Rel := by
  refine mk_i (ct_X7_line h.rf) (ct_X8_line h.rf) ?_ h
  have e : inV 0 7 c = in0 8 c := bool_eq (by rw [inV_iff, in0_iff, show (0 : Int32).toInt = 0 from rfl, show (7 : Int32).toInt = 7 from rfl, show (8 : Int32).toInt = 8 from rfl]; omega)
  rw [e]
  by_cases q : in0 8 c = true
  · have q' := in0_iff.mp q
    rw [show (8 : Int32).toInt = 8 from rfl] at q'
    rw [if_pos q, if_pos q, h.n (cl_of (n := 8) q'.1 (by omega) (by decide)).1]
  · rw [if_neg q, if_neg q]
theorem st_now (h : Rel I L R) {x : Int32} : zAl E m_X7_now m_X8_now [.int x] I L R Rel := by
  refine mk_l (ct_X7_now h.rf) (ct_X8_now h.rf) ?_ h
  rw [sumV_congr (f := fun j => I 65 (0 + j)) (g := I 18) 48 (fun j hj => by rw [show 0 + j = j by omega]; exact h.w hj), sumV_congr (f := fun j => I 65 (0 + 48 + j)) (g := I 20) 8 (fun j hj => by rw [show 0 + 48 + j = 48 + j by omega]; exact h.n hj), sumV_congr (f := fun j => I 65 (56 + j)) (g := I 19) 48 (fun j hj => h.h hj), cntV_congr (f := fun j => !decide (I 65 j < I 68 0)) (g := fun j => !decide (I 18 j < I 4 0)) 48 (fun j hj => by rw [h.w hj, h.r (by decide)]), h.s.1, h.s.2.1, h.s.2.2]
theorem st_full (h : Rel I L R) {w : Int32} : zAi E m_X7_full m_X8_full [.int w] I L R Rel := by
  refine mk_i (ct_X7_full h.rf) (ct_X8_full h.rf) ?_ h
  by_cases c : isW w = true
  · have hw := isW_nI c
    have hb := h.rb hw.2
    rw [if_pos c, if_pos c, h.rt hw.2, h.r (by decide)]
    by_cases z : cmV I w.toNatClampNeg = 0
    · rw [if_pos z, if_neg (by rw [t_le, z]; decide)]
    · have z' := mt t_eq.mpr z
      rw [t_0] at z'
      have o : (1 : Int32) ≤ cmV I w.toNatClampNeg := by rw [t_le, show (1 : Int32).toInt = 1 from rfl]; omega
      rw [if_neg z, if_pos o]
      unfold binV
      rw [if_pos o]
  · rw [if_neg c, if_neg c]
theorem sumV_mul (f : Nat → Int32) (s : Int32) : ∀ n, sumV (fun i => f i * s) n = sumV f n * s
  | 0 => by rw [sumV, sumV, Int32.zero_mul]
  | n + 1 => by rw [sumV, sumV, sumV_mul f s n, Int32.add_mul]
theorem st_smear (h : Rel I L R) {w : Int32} : zAi E m_X7_smear m_X8_smear [.int w] I L R Rel := by
  refine mk_i (ct_X7_smear h.rf) (ct_X8_smear h.rf) ?_ h
  by_cases c : isW w = true
  · have hw := isW_nI c
    rw [if_pos c, if_pos c, ← sumV_mul]
    refine sumV_congr _ (fun j hj => ?_)
    rw [h.l (by omega), h.r (by decide)]
  · rw [if_neg c, if_neg c]
theorem htV_congr {f g : Nat → Int32} {n : Int32} : ∀ k, (∀ j, j < k → f j = g j) → htV f n k = htV g n k
  | 0, _ => rfl
  | k + 1, h => by rw [htV, htV, htV_congr k (fun j hj => h j (by omega)), h k (by omega)]
theorem st_hots (h : Rel I L R) {t n : Int32} : zAl E m_X7_hots m_X8_hots [.int t, .int n] I L R Rel := by
  refine mk_l (ct_X7_hots h.rf) (ct_X8_hots h.rf) ?_ h
  rw [htV_congr (f := fun w => (I 69 w + I 68 1) * t) (g := fun w => (I 5 w + I 4 1) * t) 48 (fun j hj => by rw [(h.hot hj).1, h.r (by decide)])]
theorem st_torn (h : Rel I L R) : zAi E m_X7_torn m_X8_torn [] I L R Rel := mk_i (ct_X7_torn h.rf) (ct_X8_torn h.rf) h.2.2.2.2.2.2.2 h
theorem st_expose (h : Rel I L R) {t : Int32} : zAi E m_X7_expose m_X8_expose [.int t] I L R Rel := by
  by_cases c : inV 1 999 t = true
  · have c' := inV_iff.mp c
    rw [show (1 : Int32).toInt = 1 from rfl, show (999 : Int32).toInt = 999 from rfl] at c'
    have hx := ct_X7_expose (E := E) (I := I) (L := L) (t := t) h.rf
    rw [if_pos c, if_pos c, if_pos c] at hx
    obtain ⟨e, hb⟩ := ex_eq (hot := I 5) (hot' := I 69) (t := t) (tr := I 6) h.cap.1 h.cap.2 h.dr h.dk.1 h.dk.2 c'.1 c'.2 (fun j hj => h.hot hj) h.b
    have hy := ct_X8_expose (E := E) (t := t) h.rf (sR_q (q' := exQ (I 4 0) (I 4 2) (I 4 1) t (I 5) (qOf I L 16)) (c := 16) h.q (by decide))
    rw [if_pos c, if_pos c, if_pos c, qI_ne (show 68 < 16 + 1 ∨ 16 + 4 < 68 by decide), qI_ne (show 69 < 16 + 1 ∨ 16 + 4 < 69 by decide), h.r (show 0 < 7 by decide), h.r (show 1 < 7 by decide), h.r (show 2 < 7 by decide), e] at hy
    exact mk_i hx hy rfl (Rel_u h hb)
  · have hx := ct_X7_expose (E := E) (I := I) (L := L) (t := t) h.rf
    rw [if_neg c, if_neg c, if_neg c] at hx
    have hy := ct_X8_expose (E := E) (t := t) h.rf h.q
    rw [if_neg c, if_neg c, if_neg c] at hy
    exact mk_i hx hy rfl h
theorem st_down (h : Rel I L R) : zAi E m_X7_down m_X8_down [] I L R Rel := by
  obtain ⟨e, hb⟩ := hd_eq (tr := I 70) h.cap.1 h.cap.2 h.dr h.sm.1 h.sm.2 (fun j hj => (h.trap hj).1) (fun j hj => (h.trap hj).2.2) h.b
  have hx := ct_X7_down (E := E) (I := I) (L := L) h.rf
  have hy := ct_X8_down (E := E) h.rf (sR_q (q' := hdQ (I 4 0) (I 4 2) (I 4 3) (I 6) true (qOf I L 16)) (c := 16) h.q (by decide))
  rw [qI_ne (show 68 < 16 + 1 ∨ 16 + 4 < 68 by decide), qI_ne (show 70 < 16 + 1 ∨ 16 + 4 < 70 by decide), h.r (show 0 < 7 by decide), h.r (show 2 < 7 by decide), h.r (show 3 < 7 by decide), e] at hy
  exact mk_i hx hy rfl (Rel_u h hb)
theorem st_read (h : Rel I L R) : zAi E m_X7_read m_X8_read [] I L R Rel := by
  have hx := ct_X7_read (E := E) (I := I) (L := L) h.rf
  have hy := ct_X8_read (E := E) h.rf (sR_q (q' := rdQ (qOf I L 16)) (c := 16) h.q (by decide)) (by rw [qI_ne (show 68 < 16 + 1 ∨ 16 + 4 < 68 by decide)]; exact h.h5)
  rw [qI_ne (show 68 < 16 + 1 ∨ 16 + 4 < 68 by decide), h.r (show 4 < 7 by decide), h.r (show 5 < 7 by decide)] at hy
  exact mk_i hx hy (val_eq h.by'.1) (Rel_u h (rd_b h.b))
end ZSTEP
