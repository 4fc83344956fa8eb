/-! the picture is the same -/
theorem row_eq {cap : Int32} {tr : Nat → Int32} {g by' : Int32} (hc2 : cap.toInt ≤ 999) (hby : 1 ≤ by'.toInt) {h b b' : Nat} (h1 : 1 ≤ h) (h3 : h ≤ 3) {s s' : zS} (es : s'.2 = s.2) (hq : qB cap tr s.2) : ∀ n, n ≤ (8 + h - 1) / h → (rowR (fun x => lsV 255 (x * g / by')) h b' n s').2 = (rowV g by' h b n s).2 ∧ qB cap tr (rowV g by' h b n s).2 ∧ (∀ j, j < n * h → j < 8 → qLn (rowV g by' h b n s).2 j = 0) ∧ (∀ c, c < n → (rowR (fun x => lsV 255 (x * g / by')) h b' n s').1 (b' + c) = (rowV g by' h b n s).1 (b + c) ∧ ∃ x : Int32, 0 ≤ x.toInt ∧ x.toInt ≤ 16000 ∧ (rowV g by' h b n s).1 (b + c) = valV g by' x) ∧ (∀ j, (j < b' ∨ b' + n ≤ j) → (rowR (fun x => lsV 255 (x * g / by')) h b' n s').1 j = s'.1 j) ∧ (∀ j, (j < b ∨ b + n ≤ j) → (rowV g by' h b n s).1 j = s.1 j)
  | 0, _ => ⟨es, hq, fun j hj => absurd hj (by omega), fun c hc => absurd hc (by omega), fun _ _ => rfl, fun _ _ => rfl⟩
  | n + 1, hn => by
    obtain ⟨e, hqb, hz, hv, ho1, ho2⟩ := row_eq hc2 hby h1 h3 es hq n (by omega)
    have hn8 := (wi8b h1 h3).2 n (by omega)
    have hmul : (n + 1) * h = n * h + h := by rw [Nat.add_mul, Nat.one_mul]
    have hrd : rdN2 (min h (8 - n * h)) (0, (rowV g by' h b n s).2) = rdN2 h (0, (rowV g by' h b n s).2) := by
      by_cases c : n * h + h ≤ 8
      · rw [show min h (8 - n * h) = h by omega]
      · have e1 : h = min h (8 - n * h) + (h - min h (8 - n * h)) := by omega
        have hall : ∀ j, j < 8 → qLn (rdN2 (min h (8 - n * h)) (0, (rowV g by' h b n s).2)).2 j = 0 := fun j hj => rdN2_z hz _ 0 j (by omega) hj
        have e2 := rdN2_add (0, (rowV g by' h b n s).2) (min h (8 - n * h)) (h - min h (8 - n * h))
        rw [rdN2_more hall] at e2
        rw [← e1] at e2
        exact e2.symm
    have hrb := rdN2_b hqb hc2 h (by omega)
    rw [rowR, rowV, e, hrd]
    refine ⟨rfl, hrb.1, fun j hj h8 => ?_, fun c hc => ?_, fun j hj => ?_, fun j hj => ?_⟩
    · exact rdN2_z hz h 0 j (by omega) h8
    · show va_up _ (b' + n) _ (b' + c) = va_up _ (b + n) _ (b + c) ∧ ∃ x : Int32, 0 ≤ x.toInt ∧ x.toInt ≤ 16000 ∧ va_up _ (b + n) _ (b + c) = valV g by' x
      by_cases q : c = n
      · subst q
        rw [up_eq, up_eq]
        exact ⟨val_eq hby, _, hrb.2.1, by omega, rfl⟩
      · rw [up_ne (by omega), up_ne (by omega)]
        exact hv c (by omega)
    · show va_up _ (b' + n) _ j = _
      rw [up_ne (by omega)]
      exact ho1 j (by omega)
    · show va_up _ (b + n) _ j = _
      rw [up_ne (by omega)]
      exact ho2 j (by omega)
theorem hdN_eq {cap : Int32} {tr : Nat → Int32} {f f' : zQ → zQ} (hf : ∀ q, qB cap tr q → f' q = f q ∧ qB cap tr (f q)) {q : zQ} (hq : qB cap tr q) : ∀ n, hdN f' n q = hdN f n q ∧ qB cap tr (hdN f n q)
  | 0 => ⟨rfl, hq⟩
  | n + 1 => by
    obtain ⟨e, h⟩ := hdN_eq hf hq n
    rw [hdN, hdN, e]
    exact hf _ h
theorem pic_eq {cap : Int32} {tr : Nat → Int32} {g by' : Int32} {f f' : zQ → zQ} (hf : ∀ q, qB cap tr q → f' q = f q ∧ qB cap tr (f q)) (hc2 : cap.toInt ≤ 999) (hby : 1 ≤ by'.toInt) {v h : Nat} (h1 : 1 ≤ h) (h3 : h ≤ 3) {s s' : zS} (es : s'.2 = s.2) (hq : qB cap tr s.2) : ∀ n, (picR (fun x => lsV 255 (x * g / by')) f' v h ((8 + h - 1) / h) n s').2 = (picV g by' f v h ((8 + h - 1) / h) n s).2 ∧ qB cap tr (picV g by' f v h ((8 + h - 1) / h) n s).2 ∧ ∀ r c, r < n → c < (8 + h - 1) / h → (picR (fun x => lsV 255 (x * g / by')) f' v h ((8 + h - 1) / h) n s').1 (r * ((8 + h - 1) / h) + c) = (picV g by' f v h ((8 + h - 1) / h) n s).1 (r * 8 + c) ∧ ∃ x : Int32, 0 ≤ x.toInt ∧ x.toInt ≤ 16000 ∧ (picV g by' f v h ((8 + h - 1) / h) n s).1 (r * 8 + c) = valV g by' x
  | 0 => ⟨es, hq, fun r c hr => absurd hr (by omega)⟩
  | n + 1 => by
    obtain ⟨e, hqb, hv⟩ := pic_eq hf hc2 hby (v := v) h1 h3 es hq n
    have hW := (wi8b h1 h3).1
    obtain ⟨e2, hq2⟩ := hdN_eq hf hqb v
    obtain ⟨a1, a2, -, a4, a5, a6⟩ := row_eq (g := g) (by' := by') (b := n * 8) (b' := n * ((8 + h - 1) / h)) hc2 hby h1 h3 (s := ((picV g by' f v h ((8 + h - 1) / h) n s).1, hdN f v (picV g by' f v h ((8 + h - 1) / h) n s).2)) (s' := ((picR (fun x => lsV 255 (x * g / by')) f' v h ((8 + h - 1) / h) n s').1, hdN f' v (picR (fun x => lsV 255 (x * g / by')) f' v h ((8 + h - 1) / h) n s').2)) (by show hdN f' v _ = hdN f v _; rw [e]; exact e2) hq2 ((8 + h - 1) / h) (Nat.le_refl _)
    rw [picR, picV]
    refine ⟨a1, a2, fun r c hr hc => ?_⟩
    by_cases q : r = n
    · subst q
      exact a4 c hc
    · have hm : (r + 1) * ((8 + h - 1) / h) ≤ n * ((8 + h - 1) / h) := Nat.mul_le_mul_right _ (by omega)
      rw [Nat.add_mul, Nat.one_mul] at hm
      rw [a5 _ (Or.inl (by omega)), a6 _ (Or.inl (by omega))]
      exact hv r c (by omega) hc
theorem val_b {g by' x : Int32} (hg1 : 0 ≤ g.toInt) (hg2 : g.toInt ≤ 9) (hb1 : 1 ≤ by'.toInt) (hb2 : by'.toInt ≤ 99) (hx1 : 0 ≤ x.toInt) (hx2 : x.toInt ≤ 16000) : 0 ≤ (valV g by' x).toInt ∧ (valV g by' x).toInt ≤ 255 := by
  have em := t_mul (a := x) (b := g) hx1 (by omega) hg1 (by omega)
  have h5 : 0 ≤ x.toInt * g.toInt := Int.mul_nonneg hx1 hg1
  have h6 : x.toInt * g.toInt ≤ 16000 * 9 := Int.mul_le_mul hx2 hg2 hg1 (by decide)
  have hmx : (mx 1 by') = by' := by
    unfold mx
    by_cases c : 1 < by'
    · rw [if_pos c]
    · rw [if_neg c]
      have := mt t_lt.mpr c
      rw [show (1 : Int32).toInt = 1 from rfl] at this
      rw [t_eq, show (1 : Int32).toInt = 1 from rfl]; omega
  have ed : (x * g / by').toInt = (x.toInt * g.toInt).tdiv by'.toInt := by
    rw [Int32.toInt_div, em]
    have d1 : 0 ≤ (x.toInt * g.toInt).tdiv by'.toInt := Int.tdiv_nonneg h5 (by omega)
    have d2 : (x.toInt * g.toInt).tdiv by'.toInt ≤ x.toInt * g.toInt := Int.tdiv_le_self _ h5
    exact Int.bmod_eq_of_le (by omega) (by omega)
  have d1 : 0 ≤ (x.toInt * g.toInt).tdiv by'.toInt := Int.tdiv_nonneg h5 (by omega)
  unfold valV mn
  rw [hmx]
  by_cases c : x * g / by' < 255
  · have c' := t_lt.mp c
    rw [if_pos c]
    rw [ed] at c' ⊢
    have : (255 : Int32).toInt = 255 := rfl
    omega
  · rw [if_neg c]
    exact ⟨by decide, by decide⟩
theorem grV_congr {f g : Nat → Int32} : ∀ n, (∀ j, j < n → f j = g j) → grV f n = grV g n
  | 0, _ => rfl
  | n + 1, h => by rw [grV, grV, grV_congr n (fun j hj => h j (by omega)), h n (by omega)]
theorem ls_mn (a b : Int32) : lsV a b = mn a b := by
  unfold lsV mn
  by_cases c : b ≤ a
  · rw [if_pos c]
    by_cases c2 : b < a
    · rw [if_pos c2]
    · rw [if_neg c2]; exact Int32.le_antisymm c (Int32.not_lt.mp c2)
  · rw [if_neg c, if_neg (fun q => c (Int32.le_of_lt q))]
theorem leR_congr {f g : Nat → Int32} : ∀ n, (∀ j, j < n → f j = g j) → leR f n = leV g n
  | 0, _ => rfl
  | n + 1, h => by rw [leR, leV, leR_congr n (fun j hj => h j (by omega)), h n (by omega), ls_mn]
theorem cntV_congr {f g : Nat → Bool} : ∀ n, (∀ j, j < n → f j = g j) → cntV f n = cntV g n
  | 0, _ => rfl
  | n + 1, h => by rw [cntV, cntV, cntV_congr n (fun j hj => h j (by omega)), h n (by omega)]
theorem df_ab {a b : Int32} (ha1 : 0 ≤ a.toInt) (ha2 : a.toInt ≤ 255) (hb1 : 0 ≤ b.toInt) (hb2 : b.toInt ≤ 255) : (if a < b then b - a else a - b) = ab (a - b) := by
  have e := t_sub (a := a) (b := b) (by omega) (by omega) (by omega) (by omega)
  unfold ab
  by_cases c : a < b
  · have c' := t_lt.mp c
    have c2 : ¬ (0 : Int32) ≤ a - b := by rw [t_le, e, t_0]; omega
    rw [if_pos c, if_neg c2, Int32.zero_sub, Int32.neg_sub]
  · have c' := mt t_lt.mpr c
    have c2 : (0 : Int32) ≤ a - b := by rw [t_le, e, t_0]; omega
    rw [if_neg c, if_pos c2]
theorem hv6 {v : Nat} (h1 : 1 ≤ v) (h3 : v ≤ 3) : (6 + v - 1) / v = 6 / v := by
  rcases (show v = 1 ∨ v = 2 ∨ v = 3 by omega) with rfl | rfl | rfl <;> decide
theorem sh_cp (a b : zQ) : nQ (cpQ a b) (zfill (qLn (cpQ a b)) 8 0) = shQ a b := rfl
theorem cp_b {cap : Int32} {tr : Nat → Int32} {a : zQ} (b : zQ) (h : qB cap tr a) : qB cap tr (cpQ a b) := by
  refine ⟨fun j hj => ?_, fun c hc => ?_⟩
  · show (0 ≤ (zcp (qWe a) (qWe b) 48 j).toInt ∧ (zcp (qWe a) (qWe b) 48 j).toInt ≤ _) ∧ (0 ≤ (zcp (qHe a) (qHe b) 48 j).toInt ∧ (zcp (qHe a) (qHe b) 48 j).toInt ≤ _) ∧ (0 ≤ (zcp (qLi a) (qLi b) 48 j).toInt ∧ (zcp (qLi a) (qLi b) 48 j).toInt ≤ 99)
    unfold zcp
    rw [if_pos hj, if_pos hj, if_pos hj]
    exact h.1 j hj
  · show 0 ≤ (zcp (qLn a) (qLn b) 8 c).toInt ∧ (zcp (qLn a) (qLn b) 8 c).toInt ≤ _
    unfold zcp
    rw [if_pos hc]
    exact h.2 c hc
theorem sh_b {cap : Int32} {tr : Nat → Int32} {a : zQ} (b : zQ) (hc : 1 ≤ cap.toInt) (h : qB cap tr a) : qB cap tr (shQ a b) := by
  refine ⟨(cp_b b h).1, fun c hc8 => ?_⟩
  show 0 ≤ (zfill (zcp (qLn a) (qLn b) 8) 8 0 c).toInt ∧ (zfill (zcp (qLn a) (qLn b) 8) 8 0 c).toInt ≤ _
  unfold zfill
  rw [if_pos hc8, t_0]
  omega
theorem sR_cq {I : zI} {L : zL} {k : Nat} {a : zQ} (b : zQ) (h : sR I L k a) : sR I L k (cpQ a b) := by
  obtain ⟨h1, h2, h3, h4, h5, h6, h7⟩ := h
  refine ⟨fun j hj => ?_, fun j hj => ?_, fun j hj => ?_, fun j hj => ?_, h5, h6, h7⟩
  · rw [h1 j hj]; show _ = zcp _ _ 48 j; unfold zcp; rw [if_pos hj]
  · rw [h2 j hj]; show _ = zcp _ _ 8 j; unfold zcp; rw [if_pos hj]
  · rw [h3 j hj]; show _ = zcp _ _ 48 j; unfold zcp; rw [if_pos hj]
  · rw [h4 j hj]; show _ = zcp _ _ 48 j; unfold zcp; rw [if_pos hj]
