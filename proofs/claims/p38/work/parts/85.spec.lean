/-! class and reference: what charge does is the same -/
theorem t_sub {a b : Int32} (h1 : -100000000 ≤ a.toInt) (h2 : a.toInt ≤ 100000000) (h3 : -100000000 ≤ b.toInt) (h4 : b.toInt ≤ 100000000) : (a - b).toInt = a.toInt - b.toInt := i_sub (by omega) (by omega)
theorem t_add {a b : Int32} (h1 : -100000000 ≤ a.toInt) (h2 : a.toInt ≤ 100000000) (h3 : -100000000 ≤ b.toInt) (h4 : b.toInt ≤ 100000000) : (a + b).toInt = a.toInt + b.toInt := i_add (by omega) (by omega)
theorem t_mul {a b : Int32} (h1 : 0 ≤ a.toInt) (h2 : a.toInt ≤ 30000) (h3 : 0 ≤ b.toInt) (h4 : b.toInt ≤ 30000) : (a * b).toInt = a.toInt * b.toInt := by
  have h5 : 0 ≤ a.toInt * b.toInt := Int.mul_nonneg h1 h3
  have h6 : a.toInt * b.toInt ≤ 30000 * 30000 := Int.mul_le_mul h2 h4 h3 (by decide)
  rw [Int32.toInt_mul]; exact Int.bmod_eq_of_le (by omega) (by omega)
theorem t_lt {a b : Int32} : a < b ↔ a.toInt < b.toInt := Int32.lt_iff_toInt_lt
theorem t_le {a b : Int32} : a ≤ b ↔ a.toInt ≤ b.toInt := Int32.le_iff_toInt_le
theorem t_0 : (0 : Int32).toInt = 0 := rfl
theorem t_eq {a b : Int32} : a = b ↔ a.toInt = b.toInt := Int32.toInt_inj.symm
/-- wells between 0 and B -/
def wB (B : Int) (wl : Nat → Int32) : Prop := ∀ j, j < 48 → 0 ≤ (wl j).toInt ∧ (wl j).toInt ≤ B
theorem isW_l {w : Int32} (h : isW w = true) : w.toNatClampNeg < 48 := (isW_nI h).2
theorem fl_pT {wl : Nat → Int32} {w off cap : Int32} (hB : wB 1000000 wl) (hc1 : 1 ≤ cap.toInt) (hc2 : cap.toInt ≤ 999) (ho1 : 0 ≤ off.toInt) : flT wl w off cap = pourT wl w off cap := by
  unfold flT pourT
  by_cases hw : isW w = true
  · have hj := hB _ (isW_l hw)
    have e := t_sub (a := cap) (b := wl w.toNatClampNeg) (by omega) (by omega) (by omega) (by omega)
    by_cases h0 : off = 0
    · have c1 : ¬ (isW w = true ∧ ¬ off = 0) := fun q => q.2 h0
      rw [if_neg c1]
      by_cases h1 : wl w.toNatClampNeg < cap
      · have h1' := t_lt.mp h1
        have c2 : isW w = true ∧ wl w.toNatClampNeg < cap := ⟨hw, h1⟩
        have c3 : ¬ cap - wl w.toNatClampNeg < off := by rw [t_lt, e, h0, t_0]; omega
        rw [if_pos c2, if_neg c3, h0]
      · have c2 : ¬ (isW w = true ∧ wl w.toNatClampNeg < cap) := fun q => h1 q.2
        rw [if_neg c2]
    · have c1 : isW w = true ∧ ¬ off = 0 := ⟨hw, h0⟩
      rw [if_pos c1]
      by_cases h1 : wl w.toNatClampNeg < cap
      · have h1' := t_lt.mp h1
        have c2 : isW w = true ∧ wl w.toNatClampNeg < cap := ⟨hw, h1⟩
        have c3 : 0 < cap - wl w.toNatClampNeg := by rw [t_lt, e, t_0]; omega
        rw [if_pos c2, if_pos c3]
        unfold lsV
        by_cases h2 : off ≤ cap - wl w.toNatClampNeg
        · rw [if_pos h2, if_neg (Int32.not_lt.mpr h2)]
        · rw [if_neg h2, if_pos (Int32.not_le.mp h2)]
      · have h1' := mt t_lt.mpr h1
        have c2 : ¬ (isW w = true ∧ wl w.toNatClampNeg < cap) := fun q => h1 q.2
        have c3 : ¬ 0 < cap - wl w.toNatClampNeg := by rw [t_lt, e, t_0]; omega
        rw [if_neg c2, if_neg c3]
  · have c1 : ¬ (isW w = true ∧ ¬ off = 0) := fun q => hw q.1
    have c2 : ¬ (isW w = true ∧ wl w.toNatClampNeg < cap) := fun q => hw q.1
    rw [if_neg c1, if_neg c2]
theorem up_id {f : Nat → Int32} {k : Nat} {x : Int32} (h : x = f k) : va_up f k x = f := by rw [h, up_self]
theorem add_0 (x : Int32) : x + 0 = x := Int32.add_zero x
theorem fl_pW {wl : Nat → Int32} {w off cap : Int32} (hB : wB 1000000 wl) (hc1 : 1 ≤ cap.toInt) (hc2 : cap.toInt ≤ 999) (ho1 : 0 ≤ off.toInt) : flW wl w off cap = pourW wl w off cap := by
  have hT := fl_pT (w := w) hB hc1 hc2 ho1
  unfold flW pourW
  by_cases hw : isW w = true
  · by_cases h1 : wl w.toNatClampNeg < cap
    · have c2 : isW w = true ∧ wl w.toNatClampNeg < cap := ⟨hw, h1⟩
      rw [if_pos c2]
      by_cases h0 : off = 0
      · have c1 : ¬ (isW w = true ∧ ¬ off = 0) := fun q => q.2 h0
        rw [if_neg c1]
        exact (up_id (by rw [← hT, flT_n (Or.inr h0), add_0])).symm
      · have c1 : isW w = true ∧ ¬ off = 0 := ⟨hw, h0⟩
        rw [if_pos c1, hT]
    · have c2 : ¬ (isW w = true ∧ wl w.toNatClampNeg < cap) := fun q => h1 q.2
      rw [if_neg c2]
      by_cases h0 : off = 0
      · have c1 : ¬ (isW w = true ∧ ¬ off = 0) := fun q => q.2 h0
        rw [if_neg c1]
      · have c1 : isW w = true ∧ ¬ off = 0 := ⟨hw, h0⟩
        rw [if_pos c1]
        refine up_id ?_
        rw [hT]
        unfold pourT
        rw [if_neg c2, add_0]
  · have c1 : ¬ (isW w = true ∧ ¬ off = 0) := fun q => hw q.1
    have c2 : ¬ (isW w = true ∧ wl w.toNatClampNeg < cap) := fun q => hw q.1
    rw [if_neg c1, if_neg c2]
theorem pT_b {wl : Nat → Int32} {w off cap : Int32} (hB : wB 1000000 wl) (hc1 : 1 ≤ cap.toInt) (hc2 : cap.toInt ≤ 999) (ho1 : 0 ≤ off.toInt) : 0 ≤ (pourT wl w off cap).toInt ∧ (pourT wl w off cap).toInt ≤ off.toInt ∧ (isW w = true ∧ wl w.toNatClampNeg < cap → (wl w.toNatClampNeg).toInt + (pourT wl w off cap).toInt ≤ cap.toInt) := by
  unfold pourT
  by_cases c : isW w = true ∧ wl w.toNatClampNeg < cap
  · have hj := hB _ (isW_l c.1)
    have e := t_sub (a := cap) (b := wl w.toNatClampNeg) (by omega) (by omega) (by omega) (by omega)
    have h1 := t_lt.mp c.2
    rw [if_pos c]
    by_cases h2 : cap - wl w.toNatClampNeg < off
    · have h3 := t_lt.mp h2
      rw [if_pos h2, e]
      rw [e] at h3
      omega
    · have h3 := mt t_lt.mpr h2
      rw [if_neg h2]
      rw [e] at h3
      omega
  · rw [if_neg c, t_0]
    exact ⟨by omega, ho1, fun q => absurd q c⟩
/-- pouring raises wells, never above cap -/
theorem pW_b {wl : Nat → Int32} {w off cap : Int32} (hB : wB 1000000 wl) (hc1 : 1 ≤ cap.toInt) (hc2 : cap.toInt ≤ 999) (ho1 : 0 ≤ off.toInt) : ∀ j, j < 48 → 0 ≤ (pourW wl w off cap j).toInt ∧ ((pourW wl w off cap j).toInt ≤ cap.toInt ∨ pourW wl w off cap j = wl j) := by
  intro j hj
  have hj0 := hB j hj
  unfold pourW
  by_cases c : isW w = true ∧ wl w.toNatClampNeg < cap
  · rw [if_pos c]
    obtain ⟨h1, h2, h3⟩ := pT_b (w := w) hB hc1 hc2 ho1
    have h3 := h3 c
    have hw := hB _ (isW_l c.1)
    by_cases e : j = w.toNatClampNeg
    · subst e
      rw [up_eq, t_add (by omega) (by omega) (by omega) (by omega)]
      exact ⟨by omega, Or.inl (by omega)⟩
    · rw [up_ne e]
      exact ⟨hj0.1, Or.inr rfl⟩
  · rw [if_neg c]
    exact ⟨hj0.1, Or.inr rfl⟩
theorem pW_B {wl : Nat → Int32} {w off cap : Int32} (hB : wB 1000000 wl) (hc1 : 1 ≤ cap.toInt) (hc2 : cap.toInt ≤ 999) (ho1 : 0 ≤ off.toInt) : wB 1000000 (pourW wl w off cap) := by
  intro j hj
  have h := pW_b (w := w) hB hc1 hc2 ho1 j hj
  have h0 := hB j hj
  refine ⟨h.1, ?_⟩
  rcases h.2 with q | q
  · omega
  · rw [q]; exact h0.2
theorem off_s {off t : Int32} (h1 : 0 ≤ t.toInt) (h2 : t.toInt ≤ off.toInt) (h3 : off.toInt ≤ 1000000) : 0 ≤ (off - t).toInt ∧ (off - t).toInt ≤ off.toInt := by
  rw [t_sub (by omega) (by omega) (by omega) (by omega)]; omega
/-- one step away on both sides -/
theorem spr_b {w cap : Int32} {far : Nat} {s : Int32 × (Nat → Int32)} (hB : wB 1000000 s.2) (hc1 : 1 ≤ cap.toInt) (hc2 : cap.toInt ≤ 999) (ho1 : 0 ≤ s.1.toInt) (ho2 : s.1.toInt ≤ 1000000) : rsS w cap far s = sprS w cap far s ∧ 0 ≤ (sprS w cap far s).1.toInt ∧ (sprS w cap far s).1.toInt ≤ 1000000 ∧ wB 1000000 (sprS w cap far s).2 ∧ ∀ j, j < 48 → (sprS w cap far s).2 j = s.2 j ∨ ((sprS w cap far s).2 j).toInt ≤ cap.toInt := by
  have hm : (8 : Int32) * nI far = nI far * 8 := Int32.mul_comm _ _
  obtain ⟨a1, a2, -⟩ := pT_b (w := w - nI far * 8) hB hc1 hc2 ho1
  obtain ⟨o1, o2⟩ := off_s a1 a2 ho2
  have hB1 := pW_B (w := w - nI far * 8) (off := s.1) hB hc1 hc2 ho1
  obtain ⟨b1, b2, -⟩ := pT_b (w := w + nI far * 8) hB1 hc1 hc2 o1
  obtain ⟨p1, p2⟩ := off_s b1 b2 (by omega)
  refine ⟨?_, p1, Int.le_trans p2 (Int.le_trans o2 ho2), pW_B hB1 hc1 hc2 o1, ?_⟩
  · unfold rsS sprS
    rw [hm, fl_pT hB hc1 hc2 ho1, fl_pW hB hc1 hc2 ho1, fl_pT hB1 hc1 hc2 o1, fl_pW hB1 hc1 hc2 o1]
  · intro j hj
    have h1 := pW_b (w := w - nI far * 8) (off := s.1) hB hc1 hc2 ho1 j hj
    have h2 := pW_b (w := w + nI far * 8) hB1 hc1 hc2 o1 j hj
    show pourW _ _ _ _ j = _ ∨ (pourW _ _ _ _ j).toInt ≤ _
    rcases h2.2 with q | q
    · exact Or.inr q
    · rcases h1.2 with q1 | q1
      · right; rw [q]; exact q1
      · left; rw [q]; exact q1
def itR (w cap : Int32) : Nat → Nat → Int32 × (Nat → Int32) → Int32 × (Nat → Int32)
  | 0, _, s => s
  | n + 1, far, s => itR w cap n (far + 1) (rsS w cap far s)
theorem itR_0 {w cap : Int32} : ∀ (n far : Nat) (s : Int32 × (Nat → Int32)), s.1 = 0 → itR w cap n far s = s
  | 0, _, _, _ => rfl
  | n + 1, far, s, h => by
    have e : rsS w cap far s = s := by
      unfold rsS
      rw [flT_n (Or.inr h), flW_n (Or.inr h), flT_n (Or.inr (by rw [h]; rfl)), flW_n (Or.inr (by rw [h]; rfl)), sub_0, sub_0]
    rw [itR, e, itR_0 n (far + 1) s h]
theorem spr_it {w cap : Int32} (hc1 : 1 ≤ cap.toInt) (hc2 : cap.toInt ≤ 999) : ∀ (n far : Nat) (s : Int32 × (Nat → Int32)), wB 1000000 s.2 → 0 ≤ s.1.toInt → s.1.toInt ≤ 1000000 → sprL w cap n far s = itR w cap n far s ∧ 0 ≤ (sprL w cap n far s).1.toInt ∧ wB 1000000 (sprL w cap n far s).2 ∧ ∀ j, j < 48 → (sprL w cap n far s).2 j = s.2 j ∨ ((sprL w cap n far s).2 j).toInt ≤ cap.toInt
  | 0, _, s, hB, h1, _ => ⟨rfl, h1, hB, fun _ _ => Or.inl rfl⟩
  | n + 1, far, s, hB, h1, h2 => by
    rw [sprL, itR]
    by_cases c : 0 < s.1
    · obtain ⟨e, a1, a2, a3, a4⟩ := spr_b (w := w) (far := far) hB hc1 hc2 h1 h2
      obtain ⟨b0, b1, b2, b3⟩ := spr_it hc1 hc2 n (far + 1) (sprS w cap far s) a3 a1 a2
      rw [if_pos c, e]
      refine ⟨b0, b1, b2, fun j hj => ?_⟩
      rcases b3 j hj with q | q
      · rcases a4 j hj with q1 | q1
        · left; rw [q, q1]
        · right; rw [q]; exact q1
      · exact Or.inr q
    · have e : s.1 = 0 := by
        have := mt t_lt.mpr c
        rw [t_0] at this
        rw [t_eq, t_0]; omega
      rw [if_neg c, ← itR, itR_0 (n + 1) far s e]
      exact ⟨rfl, h1, hB, fun _ _ => Or.inl rfl⟩
theorem rsU_it (w cap : Int32) (s : Int32 × (Nat → Int32)) : rsU w cap 0 5 s = itR w cap 5 1 s := by
  simp only [rsU, itR, if_true]
/-- what is above cap runs over, the same -/
theorem ro_eq {cap dr : Int32} (hc1 : 1 ≤ cap.toInt) (hc2 : cap.toInt ≤ 999) (hd : dr = 0 ∨ dr = 1) : ∀ (n : Nat) (s : (Nat → Int32) × Int64), n ≤ 48 → wB 1000000 s.1 → rrL cap dr n s = roL cap dr n s ∧ wB 1000000 (roL cap dr n s).1 ∧ (∀ j, j < n → ((roL cap dr n s).1 j).toInt ≤ cap.toInt)
  | 0, s, _, hB => ⟨rfl, hB, fun j h => absurd h (by omega)⟩
  | n + 1, s, hn, hB => by
    obtain ⟨e, hB1, hC1⟩ := ro_eq hc1 hc2 hd n s (by omega) hB
    rw [rrL, roL, e]
    generalize roL cap dr n s = t at hB1 hC1
    have hw := hB1 n (by omega)
    have es := t_sub (a := t.1 n) (b := cap) (by omega) (by omega) (by omega) (by omega)
    have hBu : wB 1000000 (va_up t.1 n cap) := by
      intro j hj
      by_cases q : j = n
      · subst q; rw [up_eq]; omega
      · rw [up_ne q]; exact hB1 j hj
    have hCu : ∀ j, j < n + 1 → (va_up t.1 n cap j).toInt ≤ cap.toInt := by
      intro j hj
      by_cases q : j = n
      · subst q; rw [up_eq]; omega
      · rw [up_ne q]; exact hC1 j (by omega)
    unfold rrS roS
    by_cases c : 0 < t.1 n - cap
    · have c' := t_lt.mp c
      rw [es, t_0] at c'
      rw [if_pos c, if_pos c]
      rcases hd with rfl | rfl
      · have hsp := spr_it (w := nI n) hc1 hc2 5 1 (t.1 n - cap, va_up t.1 n cap) hBu (show 0 ≤ (t.1 n - cap).toInt by rw [es]; omega) (show (t.1 n - cap).toInt ≤ 1000000 by rw [es]; omega)
        obtain ⟨q0, q1, q2, q3⟩ := hsp
        rw [if_neg (by decide), rsU_it, ← q0]
        refine ⟨rfl, q2, fun j hj => ?_⟩
        rcases q3 j (by omega) with h | h
        · show ((sprL (nI n) cap 5 1 (t.1 n - cap, va_up t.1 n cap)).2 j).toInt ≤ _
          rw [h]; exact hCu j hj
        · exact h
      · rw [if_pos rfl, rsU_n (by decide)]
        exact ⟨rfl, hBu, hCu⟩
    · have c' := mt t_lt.mpr c
      rw [es, t_0] at c'
      rw [if_neg c, if_neg c]
      refine ⟨rfl, hB1, fun j hj => ?_⟩
      by_cases q : j = n
      · subst q; omega
      · exact hC1 j (by omega)
/-- the bounds of a charge -/
def qB (cap : Int32) (tr : Nat → Int32) (q : zQ) : Prop := (∀ j, j < 48 → (0 ≤ (qWe q j).toInt ∧ (qWe q j).toInt ≤ cap.toInt) ∧ (0 ≤ (qHe q j).toInt ∧ (qHe q j).toInt ≤ (tr j).toInt) ∧ (0 ≤ (qLi q j).toInt ∧ (qLi q j).toInt ≤ 99)) ∧ ∀ c, c < 8 → 0 ≤ (qLn q c).toInt ∧ (qLn q c).toInt ≤ 2 * cap.toInt
theorem two_cap {cap : Int32} (h1 : 1 ≤ cap.toInt) (h2 : cap.toInt ≤ 999) : (2 * cap : Int32).toInt = 2 * cap.toInt := t_mul (a := 2) (by decide) (by decide) (by omega) (by omega)
theorem tl_eq {cap : Int32} {tr : Nat → Int32} {q : zQ} (hc1 : 1 ≤ cap.toInt) (hc2 : cap.toInt ≤ 999) (hq : qB cap tr q) : ∀ n, n ≤ 8 → tlL cap n q = (qLi q, qWe q, qHe q, lnD (2 * cap) (qWe q) (qLn q) n, lsD (2 * cap) (qWe q) (qLn q) n (qLo q), qRd q, qCm q)
  | 0, _ => by rw [tlL, lnD_0]; rfl
  | n + 1, hn => by
    rw [tlL, tl_eq hc1 hc2 hq n (by omega)]
    have hl := hq.2 n (by omega)
    have hw := (hq.1 (40 + n) (by omega)).1
    have e2 := two_cap hc1 hc2
    have es := t_add (a := qLn q n) (b := qWe q (40 + n)) (by omega) (by omega) (by omega) (by omega)
    have ed := t_sub (a := qLn q n + qWe q (40 + n)) (b := 2 * cap) (by omega) (by omega) (by omega) (by omega)
    unfold tlQ
    show (qLi q, qWe q, qHe q, va_up (lnD (2 * cap) (qWe q) (qLn q) n) n _, _, qRd q, qCm q) = _
    simp only [show qLn ((qLi q, qWe q, qHe q, lnD (2 * cap) (qWe q) (qLn q) n, lsD (2 * cap) (qWe q) (qLn q) n (qLo q), qRd q, qCm q) : zQ) n = qLn q n from lnD_at _ _ _ _]
    have hmn : (if 0 < qLn q n + qWe q (40 + n) - 2 * cap then 2 * cap else qLn q n + qWe q (40 + n)) = mn (qLn q n + qWe q (40 + n)) (2 * cap) := by
      unfold mn
      by_cases c : 0 < qLn q n + qWe q (40 + n) - 2 * cap
      · have c' := t_lt.mp c
        rw [ed, t_0] at c'
        rw [if_pos c, if_pos (by rw [t_lt]; omega)]
      · have c' := mt t_lt.mpr c
        rw [ed, t_0] at c'
        rw [if_neg c, if_neg (by rw [t_lt]; omega)]
    have hlo : (if 0 < qLn q n + qWe q (40 + n) - 2 * cap then qLn q n + qWe q (40 + n) - 2 * cap else 0) = qLn q n + qWe q (40 + n) - mn (qLn q n + qWe q (40 + n)) (2 * cap) := by
      rw [← hmn]
      by_cases c : 0 < qLn q n + qWe q (40 + n) - 2 * cap
      · rw [if_pos c, if_pos c]
      · rw [if_neg c, if_neg c, Int32.sub_self]
    rw [hmn, hlo, lnD_s]
    rfl
theorem sh_eq (wl : Nat → Int32) : shR wl 0 = dnW wl := by
  funext j
  unfold shR dnW zfill shD
  by_cases h : j < 8
  · rw [if_pos ⟨Nat.zero_le _, by omega⟩, if_pos h, if_pos h]
  · rw [if_neg h]
    by_cases h2 : j < 48
    · rw [if_pos ⟨Nat.zero_le _, h2⟩, if_neg h, if_pos ⟨by omega, h2⟩]
    · have c1 : ¬ (0 ≤ j ∧ j < 48) := by omega
      have c2 : ¬ (7 < j ∧ j < 48) := by omega
      rw [if_neg c1, if_neg c2, if_neg h]
theorem tr_eq {tr tr' : Nat → Int32} {q : zQ} (htr : ∀ j, j < 48 → tr j = tr' j) (hw : ∀ j, j < 48 → 0 ≤ (qWe q j).toInt) : ∀ n, n ≤ 48 → tpL tr true n q = (qLi q, trW (qWe q) (qHe q) tr' n, trH (qWe q) (qHe q) tr' n, q.2.2.2)
  | 0, _ => by rw [tpL, trW_0, trH_0]
  | n + 1, hn => by
    rw [tpL, if_pos rfl, tr_eq htr hw n (by omega)]
    unfold tpQ
    simp only [show qWe ((qLi q, trW (qWe q) (qHe q) tr' n, trH (qWe q) (qHe q) tr' n, q.2.2.2) : zQ) n = qWe q n from trW_at _ _ _ _, show qHe ((qLi q, trW (qWe q) (qHe q) tr' n, trH (qWe q) (qHe q) tr' n, q.2.2.2) : zQ) n = qHe q n from trH_at _ _ _ _]
    rw [htr n (by omega)]
    by_cases c : 0 < qWe q n
    · rw [if_pos c]
      have e : lsV (tr' n - qHe q n) (qWe q n) = trT (qWe q) (qHe q) tr' n := by
        unfold lsV trT mn
        rw [if_pos c]
        by_cases c2 : qWe q n ≤ tr' n - qHe q n
        · rw [if_pos c2, if_neg (Int32.not_lt.mpr c2)]
        · rw [if_neg c2, if_pos (Int32.not_le.mp c2)]
      rw [e]
      show (qLi q, va_up (trW _ _ _ n) n _, va_up (trH _ _ _ n) n _, q.2.2.2) = _
      rw [trW_s, trH_s]
    · rw [if_neg c]
      have e0 : qWe q n = 0 := by
        have h1 := mt t_lt.mpr c
        have h2 := hw n (by omega)
        rw [t_0] at h1
        rw [t_eq, t_0]; omega
      have e : trT (qWe q) (qHe q) tr' n = -qHe q n := by unfold trT; rw [if_neg c]
      have e1 : qHe q n = qWe q n - trT (qWe q) (qHe q) tr' n := by rw [e, e0, Int32.zero_sub, Int32.neg_neg]
      have e2 : (0 : Int32) = qHe q n + trT (qWe q) (qHe q) tr' n := by rw [e, Int32.add_right_neg]
      show (qLi q, va_up (trW _ _ _ n) n (qHe q n), va_up (trH _ _ _ n) n 0, q.2.2.2) = _
      rw [show va_up (trW (qWe q) (qHe q) tr' n) n (qHe q n) = va_up (trW (qWe q) (qHe q) tr' n) n (qWe q n - trT (qWe q) (qHe q) tr' n) from by rw [← e1], show va_up (trH (qWe q) (qHe q) tr' n) n 0 = va_up (trH (qWe q) (qHe q) tr' n) n (qHe q n + trT (qWe q) (qHe q) tr' n) from by rw [← e2], trW_s, trH_s]
