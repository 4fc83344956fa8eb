theorem dn_b {wl : Nat → Int32} {B : Int} (h : ∀ j, j < 48 → 0 ≤ (wl j).toInt ∧ (wl j).toInt ≤ B) (hB : 0 ≤ B) : ∀ j, j < 48 → 0 ≤ (dnW wl j).toInt ∧ (dnW wl j).toInt ≤ B := by
  intro j hj
  unfold dnW zfill shD
  by_cases c : j < 8
  · rw [if_pos c, t_0]; omega
  · rw [if_neg c]
    by_cases c2 : 7 < j ∧ j < 48
    · rw [if_pos c2]; exact h _ (by omega)
    · omega
theorem tr_b {wl he tr : Nat → Int32} {B : Int} (hB : B ≤ 1000) (hw : ∀ j, j < 48 → 0 ≤ (wl j).toInt ∧ (wl j).toInt ≤ B) (hh : ∀ j, j < 48 → 0 ≤ (he j).toInt ∧ (he j).toInt ≤ (tr j).toInt) (ht : ∀ j, j < 48 → (tr j).toInt ≤ 50) : (∀ j, j < 48 → 0 ≤ (trW wl he tr 48 j).toInt ∧ (trW wl he tr 48 j).toInt ≤ 1050) ∧ (∀ j, j < 48 → 0 ≤ (trH wl he tr 48 j).toInt ∧ (trH wl he tr 48 j).toInt ≤ (tr j).toInt) := by
  have key : ∀ j, j < 48 → (0 ≤ (wl j - trT wl he tr j).toInt ∧ (wl j - trT wl he tr j).toInt ≤ 1050) ∧ (0 ≤ (he j + trT wl he tr j).toInt ∧ (he j + trT wl he tr j).toInt ≤ (tr j).toInt) := by
    intro j hj
    have h1 := hw j hj
    have h2 := hh j hj
    have h3 := ht j hj
    have ed := t_sub (a := tr j) (b := he j) (by omega) (by omega) (by omega) (by omega)
    unfold trT
    by_cases c : 0 < wl j
    · have c' := t_lt.mp c
      rw [t_0] at c'
      rw [if_pos c]
      unfold mn
      by_cases c2 : tr j - he j < wl j
      · have c2' := t_lt.mp c2
        rw [ed] at c2'
        rw [if_pos c2, t_sub (by omega) (by omega) (by omega) (by omega), t_add (by omega) (by omega) (by omega) (by omega), ed]
        omega
      · have c2' := mt t_lt.mpr c2
        rw [ed] at c2'
        rw [if_neg c2, t_sub (by omega) (by omega) (by omega) (by omega), t_add (by omega) (by omega) (by omega) (by omega)]
        omega
    · rw [if_neg c]
      have e : wl j - -he j = wl j + he j := by rw [Int32.sub_neg]
      rw [e, t_add (by omega) (by omega) (by omega) (by omega), Int32.add_right_neg, t_0]
      have c' := mt t_lt.mpr c
      rw [t_0] at c'
      omega
  refine ⟨fun j hj => ?_, fun j hj => ?_⟩
  · unfold trW; rw [if_pos hj]; exact (key j hj).1
  · unfold trH; rw [if_pos hj]; exact (key j hj).2
theorem add_b {m wl : Nat → Int32} {A B : Int} (hA : A ≤ 500000) (hB : B ≤ 500000) (hw : ∀ j, j < 48 → 0 ≤ (wl j).toInt ∧ (wl j).toInt ≤ A) (hm : ∀ j, j < 48 → 0 ≤ (m j).toInt ∧ (m j).toInt ≤ B) : wB 1000000 (addW m wl 48) := by
  intro j hj
  have h1 := hw j hj
  have h2 := hm j hj
  unfold addW
  rw [if_pos hj, t_add (by omega) (by omega) (by omega) (by omega)]
  omega
theorem ln_b {cap : Int32} {wl ln : Nat → Int32} (hc1 : 1 ≤ cap.toInt) (hc2 : cap.toInt ≤ 999) (hw : ∀ j, j < 48 → 0 ≤ (wl j).toInt ∧ (wl j).toInt ≤ cap.toInt) (hl : ∀ c, c < 8 → 0 ≤ (ln c).toInt ∧ (ln c).toInt ≤ 2 * cap.toInt) : ∀ c, c < 8 → 0 ≤ (lnD (2 * cap) wl ln 8 c).toInt ∧ (lnD (2 * cap) wl ln 8 c).toInt ≤ 2 * cap.toInt := by
  intro c hc
  have h1 := hw (40 + c) (by omega)
  have h2 := hl c hc
  have e2 := two_cap hc1 hc2
  have es := t_add (a := ln c) (b := wl (40 + c)) (by omega) (by omega) (by omega) (by omega)
  unfold lnD mn
  rw [if_pos hc]
  by_cases q : 2 * cap < ln c + wl (40 + c)
  · rw [if_pos q, e2]; omega
  · have q' := mt t_lt.mpr q
    rw [if_neg q, es]
    rw [es, e2] at q'
    omega
theorem addC_congr {m m' : Nat → Int32} (x : Int64) : ∀ n, (∀ j, j < n → m j = m' j) → addC m n x = addC m' n x
  | 0, _ => rfl
  | n + 1, h => by rw [addC, addC, addC_congr x n (fun j hj => h j (by omega)), h n (by omega)]
theorem addW_congr {m m' : Nat → Int32} (wl : Nat → Int32) {n : Nat} (h : ∀ j, j < n → m j = m' j) : addW m wl n = addW m' wl n := by
  funext j
  unfold addW
  by_cases c : j < n
  · rw [if_pos c, if_pos c, h j c]
  · rw [if_neg c, if_neg c]
theorem li_sm {li : Nat → Int32} {sm : Int32} (hl : ∀ j, j < 48 → 0 ≤ (li j).toInt ∧ (li j).toInt ≤ 99) (h1 : 0 ≤ sm.toInt) (h2 : sm.toInt ≤ 9) : ∀ j, j < 48 → 0 ≤ (li j * sm).toInt ∧ (li j * sm).toInt ≤ 891 := by
  intro j hj
  have h := hl j hj
  rw [t_mul (by omega) (by omega) h1 (by omega)]
  have h5 : 0 ≤ (li j).toInt * sm.toInt := Int.mul_nonneg h.1 h1
  have h6 : (li j).toInt * sm.toInt ≤ 99 * 9 := Int.mul_le_mul h.2 h2 h1 (by decide)
  omega
/-- one HANDING DOWN is the same -/
theorem hd_eq {cap dr sm : Int32} {tr tr' : Nat → Int32} {q : zQ} (hc1 : 1 ≤ cap.toInt) (hc2 : cap.toInt ≤ 999) (hd : dr = 0 ∨ dr = 1) (hs1 : 0 ≤ sm.toInt) (hs2 : sm.toInt ≤ 9) (htr : ∀ j, j < 48 → tr j = tr' j) (htb : ∀ j, j < 48 → (tr' j).toInt ≤ 50) (hq : qB cap tr' q) : rhQ cap dr tr true sm q = hdQ cap dr sm tr' true q ∧ qB cap tr' (hdQ cap dr sm tr' true q) := by
  have hwe : ∀ j, j < 48 → 0 ≤ (qWe q j).toInt ∧ (qWe q j).toInt ≤ cap.toInt := fun j hj => (hq.1 j hj).1
  have hdn := dn_b hwe (by omega)
  have hhe : ∀ j, j < 48 → 0 ≤ (qHe q j).toInt ∧ (qHe q j).toInt ≤ (tr' j).toInt := fun j hj => (hq.1 j hj).2.1
  have hli : ∀ j, j < 48 → 0 ≤ (qLi q j).toInt ∧ (qLi q j).toInt ≤ 99 := fun j hj => (hq.1 j hj).2.2
  obtain ⟨ht1, ht2⟩ := tr_b (B := cap.toInt) (by omega) hdn hhe htb
  have hwB := add_b (A := 1050) (B := 891) (by decide) (by decide) ht1 (li_sm hli hs1 hs2)
  obtain ⟨e, hb1, hb2⟩ := ro_eq hc1 hc2 hd 48 (addW (fun j => qLi q j * sm) (trW (dnW (qWe q)) (qHe q) tr' 48) 48, lsD (2 * cap) (qWe q) (qLn q) 8 (qLo q)) (Nat.le_refl _) hwB
  have e1 : tpL tr true 48 (r2Q (tlL cap 8 q)) = (qLi q, trW (dnW (qWe q)) (qHe q) tr' 48, trH (dnW (qWe q)) (qHe q) tr' 48, lnD (2 * cap) (qWe q) (qLn q) 8, lsD (2 * cap) (qWe q) (qLn q) 8 (qLo q), qRd q, qCm q) := by
    rw [tl_eq hc1 hc2 hq 8 (Nat.le_refl _)]
    unfold r2Q
    rw [sh_eq]
    exact tr_eq (q := (qLi q, dnW (qWe q), qHe q, lnD (2 * cap) (qWe q) (qLn q) 8, lsD (2 * cap) (qWe q) (qLn q) 8 (qLo q), qRd q, qCm q)) htr (fun j hj => (hdn j hj).1) 48 (Nat.le_refl _)
  have e2 : hdQ cap dr sm tr' true q = (qLi q, (roL cap dr 48 (addW (fun j => qLi q j * sm) (trW (dnW (qWe q)) (qHe q) tr' 48) 48, lsD (2 * cap) (qWe q) (qLn q) 8 (qLo q))).1, trH (dnW (qWe q)) (qHe q) tr' 48, lnD (2 * cap) (qWe q) (qLn q) 8, (roL cap dr 48 (addW (fun j => qLi q j * sm) (trW (dnW (qWe q)) (qHe q) tr' 48) 48, lsD (2 * cap) (qWe q) (qLn q) 8 (qLo q))).2, qRd q, addC (fun j => qLi q j * sm) 48 (qCm q)) := rfl
  refine ⟨?_, ?_⟩
  · unfold rhQ
    rw [e1, e2]
    unfold r4Q r5Q
    rw [← e]
  · rw [e2]
    generalize roL cap dr 48 (addW (fun j => qLi q j * sm) (trW (dnW (qWe q)) (qHe q) tr' 48) 48, lsD (2 * cap) (qWe q) (qLn q) 8 (qLo q)) = z at hb1 hb2 ⊢
    exact ⟨fun j hj => ⟨⟨(hb1 j hj).1, hb2 j hj⟩, ht2 j hj, hli j hj⟩, ln_b hc1 hc2 hwe hq.2⟩
theorem addW_z {m wl : Nat → Int32} {n : Nat} (h : ∀ j, m j = 0) : addW m wl n = wl := by
  funext j
  unfold addW
  by_cases c : j < n
  · rw [if_pos c, h, add_0]
  · rw [if_neg c]
theorem addC_z {m : Nat → Int32} (h : ∀ j, m j = 0) (x : Int64) : ∀ n, addC m n x = x
  | 0 => rfl
  | n + 1 => by rw [addC, addC_z h x n, h, show (0 : Int32).toInt64 = 0 from rfl, Int64.add_zero]
/-- without TRAPS and smear, the same -/
theorem hu_eq {cap dr sm : Int32} {tr tr' : Nat → Int32} {q : zQ} (hc1 : 1 ≤ cap.toInt) (hc2 : cap.toInt ≤ 999) (hd : dr = 0 ∨ dr = 1) (hq : qB cap tr' q) : rhQ cap dr tr false 0 q = hdQ cap dr sm tr' false q ∧ qB cap tr' (hdQ cap dr sm tr' false q) := by
  have hwe : ∀ j, j < 48 → 0 ≤ (qWe q j).toInt ∧ (qWe q j).toInt ≤ cap.toInt := fun j hj => (hq.1 j hj).1
  have hdn := dn_b hwe (by omega)
  have hwB : wB 1000000 (dnW (qWe q)) := fun j hj => ⟨(hdn j hj).1, by have := (hdn j hj).2; omega⟩
  obtain ⟨e, hb1, hb2⟩ := ro_eq hc1 hc2 hd 48 (dnW (qWe q), lsD (2 * cap) (qWe q) (qLn q) 8 (qLo q)) (Nat.le_refl _) hwB
  have hm0 : ∀ j, qLi q j * 0 = 0 := fun j => Int32.mul_zero
  have e2 : hdQ cap dr sm tr' false q = (qLi q, (roL cap dr 48 (dnW (qWe q), lsD (2 * cap) (qWe q) (qLn q) 8 (qLo q))).1, qHe q, lnD (2 * cap) (qWe q) (qLn q) 8, (roL cap dr 48 (dnW (qWe q), lsD (2 * cap) (qWe q) (qLn q) 8 (qLo q))).2, qRd q, qCm q) := rfl
  refine ⟨?_, ?_⟩
  · unfold rhQ
    rw [tl_eq hc1 hc2 hq 8 (Nat.le_refl _), tpL_f]
    unfold r2Q
    rw [sh_eq]
    unfold r4Q r4S
    rw [addW_z (m := fun j => qLi (wQ ((qLi q, qWe q, qHe q, lnD (2 * cap) (qWe q) (qLn q) 8, lsD (2 * cap) (qWe q) (qLn q) 8 (qLo q), qRd q, qCm q) : zQ) (dnW (qWe ((qLi q, qWe q, qHe q, lnD (2 * cap) (qWe q) (qLn q) 8, lsD (2 * cap) (qWe q) (qLn q) 8 (qLo q), qRd q, qCm q) : zQ)))) j * 0) hm0, addC_z (m := fun j => qLi (wQ ((qLi q, qWe q, qHe q, lnD (2 * cap) (qWe q) (qLn q) 8, lsD (2 * cap) (qWe q) (qLn q) 8 (qLo q), qRd q, qCm q) : zQ) (dnW (qWe ((qLi q, qWe q, qHe q, lnD (2 * cap) (qWe q) (qLn q) 8, lsD (2 * cap) (qWe q) (qLn q) 8 (qLo q), qRd q, qCm q) : zQ)))) j * 0) hm0, e2]
    unfold r5Q
    rw [← e]
  · rw [e2]
    generalize roL cap dr 48 (dnW (qWe q), lsD (2 * cap) (qWe q) (qLn q) 8 (qLo q)) = z at hb1 hb2 ⊢
    exact ⟨fun j hj => ⟨⟨(hb1 j hj).1, hb2 j hj⟩, (hq.1 j hj).2.1, (hq.1 j hj).2.2⟩, ln_b hc1 hc2 hwe hq.2⟩
/-- exposed, the same -/
theorem ex_eq {cap dr dk t : Int32} {hot hot' : Nat → Int32} {tr : Nat → Int32} {q : zQ} (hc1 : 1 ≤ cap.toInt) (hc2 : cap.toInt ≤ 999) (hd : dr = 0 ∨ dr = 1) (hk1 : 0 ≤ dk.toInt) (hk2 : dk.toInt ≤ 9) (ht1 : 1 ≤ t.toInt) (ht2 : t.toInt ≤ 999) (hh : ∀ j, j < 48 → hot' j = hot j ∧ 0 ≤ (hot j).toInt ∧ (hot j).toInt ≤ 99) (hq : qB cap tr q) : r5Q cap dr (exS (fun j => (qLi q j + hot' j + dk) * t) 48 q) = exQ cap dr dk t hot q ∧ qB cap tr (exQ cap dr dk t hot q) := by
  have hwe : ∀ j, j < 48 → 0 ≤ (qWe q j).toInt ∧ (qWe q j).toInt ≤ cap.toInt := fun j hj => (hq.1 j hj).1
  have hm : ∀ j, j < 48 → 0 ≤ ((qLi q j + hot j + dk) * t).toInt ∧ ((qLi q j + hot j + dk) * t).toInt ≤ 300000 := by
    intro j hj
    have h1 := (hq.1 j hj).2.2
    have h2 := (hh j hj).2
    have e1 := t_add (a := qLi q j) (b := hot j) (by omega) (by omega) (by omega) (by omega)
    have e2 := t_add (a := qLi q j + hot j) (b := dk) (by omega) (by omega) (by omega) (by omega)
    rw [t_mul (by omega) (by omega) (by omega) (by omega), e2, e1]
    have h5 : 0 ≤ ((qLi q j).toInt + (hot j).toInt + dk.toInt) * t.toInt := Int.mul_nonneg (by omega) (by omega)
    have h6 : ((qLi q j).toInt + (hot j).toInt + dk.toInt) * t.toInt ≤ 300 * 1000 := Int.mul_le_mul (by omega) (by omega) (by omega) (by decide)
    omega
  have hmm : ∀ j, j < 48 → (qLi q j + hot' j + dk) * t = (qLi q j + hot j + dk) * t := fun j hj => by rw [(hh j hj).1]
  have hwB := add_b (A := 999) (B := 300000) (by decide) (by decide) (fun j hj => ⟨(hwe j hj).1, by have := (hwe j hj).2; omega⟩) hm
  obtain ⟨e, hb1, hb2⟩ := ro_eq hc1 hc2 hd 48 (addW (fun j => (qLi q j + hot j + dk) * t) (qWe q) 48, qLo q) (Nat.le_refl _) hwB
  refine ⟨?_, ?_⟩
  · unfold r5Q exS
    rw [addW_congr (qWe q) hmm, addC_congr (qCm q) 48 hmm]
    show (qLi q, (rrL cap dr 48 (addW _ (qWe q) 48, qLo q)).1, qHe q, qLn q, (rrL cap dr 48 (addW _ (qWe q) 48, qLo q)).2, qRd q, _) = _
    rw [e]
    rfl
  · have e2 : exQ cap dr dk t hot q = (qLi q, (roL cap dr 48 (addW (fun j => (qLi q j + hot j + dk) * t) (qWe q) 48, qLo q)).1, qHe q, qLn q, (roL cap dr 48 (addW (fun j => (qLi q j + hot j + dk) * t) (qWe q) 48, qLo q)).2, qRd q, addC (fun j => (qLi q j + hot j + dk) * t) 48 (qCm q)) := rfl
    rw [e2]
    generalize roL cap dr 48 (addW (fun j => (qLi q j + hot j + dk) * t) (qWe q) 48, qLo q) = z at hb1 hb2 ⊢
    exact ⟨fun j hj => ⟨⟨(hb1 j hj).1, hb2 j hj⟩, (hq.1 j hj).2.1, (hq.1 j hj).2.2⟩, hq.2⟩
theorem rd_b {cap : Int32} {tr : Nat → Int32} {q : zQ} (hq : qB cap tr q) : qB cap tr (rdQ q) := by
  refine ⟨hq.1, fun c hc => ?_⟩
  show 0 ≤ (rdL (qLn q) c).toInt ∧ (rdL (qLn q) c).toInt ≤ _
  have h0 := hq.2 0 (by decide)
  unfold rdL
  by_cases e : c = 0
  · subst e; rw [up_eq, t_0]; omega
  · rw [up_ne e]
    unfold rdN
    rw [if_pos (by omega)]
    exact hq.2 _ (by omega)
theorem rdN2_b {cap : Int32} {tr : Nat → Int32} {q : zQ} (hq : qB cap tr q) (hc2 : cap.toInt ≤ 999) : ∀ n, n ≤ 8 → qB cap tr (rdN2 n (0, q)).2 ∧ 0 ≤ (rdN2 n (0, q)).1.toInt ∧ (rdN2 n (0, q)).1.toInt ≤ n * 2000
  | 0, _ => ⟨hq, Int.le_refl 0, by show (0 : Int32).toInt ≤ _; rw [t_0]; omega⟩
  | n + 1, hn => by
    obtain ⟨h1, h2, h3⟩ := rdN2_b hq hc2 n (by omega)
    have h7 := h1.2 7 (by decide)
    refine ⟨rd_b h1, ?_⟩
    show 0 ≤ ((rdN2 n (0, q)).1 + qLn (rdN2 n (0, q)).2 7).toInt ∧ ((rdN2 n (0, q)).1 + qLn (rdN2 n (0, q)).2 7).toInt ≤ _
    rw [t_add (by omega) (by omega) (by omega) (by omega)]
    omega
/-- a line that is empty stays as it is when it is read -/
theorem rd_0 {q : zQ} (h : ∀ j, j < 8 → qLn q j = 0) : rdQ q = q := by
  obtain ⟨li, we, he, ln, lo, rd, cm⟩ := q
  have e : rdL ln = ln := by
    funext j
    unfold rdL
    by_cases e0 : j = 0
    · subst e0; rw [up_eq]; exact (h 0 (by decide)).symm
    · rw [up_ne e0]
      unfold rdN
      by_cases c : 0 < j ∧ j < 8
      · rw [if_pos c]
        exact (h (j - 1) (by omega)).trans (h j c.2).symm
      · rw [if_neg c]
  have e2 : rd + (ln 7).toInt64 = rd := by
    rw [show ln 7 = 0 from h 7 (by decide), show (0 : Int32).toInt64 = 0 from rfl, Int64.add_zero]
  show (li, we, he, rdL ln, lo, rd + (ln 7).toInt64, cm) = _
  rw [e, e2]
theorem rdN2_z {q : zQ} {k : Nat} (h : ∀ j, j < k → j < 8 → qLn q j = 0) : ∀ n x, ∀ j, j < k + n → j < 8 → qLn (rdN2 n (x, q)).2 j = 0
  | 0, x, j, hj, h8 => h j hj h8
  | n + 1, x, j, hj, h8 => by
    have ih := rdN2_z h n x
    show rdL (qLn (rdN2 n (x, q)).2) j = 0
    unfold rdL
    by_cases e0 : j = 0
    · subst e0; exact up_eq _ _ _
    · rw [up_ne e0]
      unfold rdN
      rw [if_pos (by omega)]
      exact ih (j - 1) (by omega) (by omega)
theorem rdN2_more {s : Int32 × zQ} (h : ∀ j, j < 8 → qLn s.2 j = 0) : ∀ n, rdN2 n s = s
  | 0 => rfl
  | n + 1 => by
    rw [rdN2, rdN2_more h n, rd_0 h, h 7 (by decide), add_0]
theorem rdN2_add (s : Int32 × zQ) (m : Nat) : ∀ n, rdN2 (m + n) s = rdN2 n (rdN2 m s)
  | 0 => rfl
  | n + 1 => by rw [← Nat.add_assoc, rdN2, rdN2, rdN2_add s m n]
/-- a row of values: read in the same steps -/
theorem val_eq {g by' x : Int32} (hb : 1 ≤ by'.toInt) : lsV 255 (x * g / by') = valV g by' x := by
  unfold lsV valV mn mx
  have e : (if 1 < by' then by' else (1 : Int32)) = by' := by
    by_cases c : 1 < by'
    · rw [if_pos c]
    · rw [if_neg c]
      have := mt t_lt.mpr c
      rw [show (1 : Int32).toInt = 1 from rfl] at this
      rw [t_eq, show (1 : Int32).toInt = 1 from rfl]; omega
  rw [e]
  by_cases c : x * g / by' ≤ 255
  · rw [if_pos c]
    by_cases c2 : x * g / by' < 255
    · rw [if_pos c2]
    · rw [if_neg c2]
      exact Int32.le_antisymm c (Int32.not_lt.mp c2)
  · rw [if_neg c, if_neg (fun q => c (Int32.le_of_lt q))]
