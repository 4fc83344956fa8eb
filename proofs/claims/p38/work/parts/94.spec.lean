theorem sumV_zero {f : Nat → Int32} : ∀ n, (∀ k, k < n → f k = 0) → sumV f n = 0
  | 0, _ => rfl
  | n + 1, h => by rw [sumV, sumV_zero n (fun k hk => h k (by omega)), h n (by omega)]; rfl
theorem sumV_add (f g : Nat → Int32) : ∀ n, sumV (fun k => f k + g k) n = sumV f n + sumV g n
  | 0 => rfl
  | n + 1 => by
    rw [sumV, sumV, sumV, sumV_add f g n, Int32.add_assoc, Int32.add_assoc]
    congr 1
    rw [← Int32.add_assoc, ← Int32.add_assoc, Int32.add_comm (sumV g n)]
theorem sumV_swap (f : Nat → Nat → Int32) (m : Nat) : ∀ n, sumV (fun a => sumV (fun b => f a b) m) n = sumV (fun b => sumV (fun a => f a b) n) m
  | 0 => (sumV_zero m (fun _ _ => rfl)).symm
  | n + 1 => by
    rw [sumV, sumV_swap f m n, ← sumV_add]
    rfl
theorem sumV_one {f : Nat → Int32} {k0 : Nat} : ∀ n, (∀ k, k < n → k ≠ k0 → f k = 0) → sumV f n = if k0 < n then f k0 else 0
  | 0, _ => by simp [sumV]
  | n + 1, h => by
    rw [sumV, sumV_one n (fun k hk => h k (by omega))]
    by_cases e : k0 = n
    · subst e
      rw [if_neg (by omega), if_pos (by omega), Int32.zero_add]
    · rw [h n (by omega) (Ne.symm e), Int32.add_zero]
      by_cases c : k0 < n
      · rw [if_pos c, if_pos (by omega)]
      · rw [if_neg c, if_neg (by omega)]
/-- which WELL lies beside: the four sides, each once -/
def besB (w k : Nat) (s : Nat) : Bool := decide (besV (nI w) (nI w - nI w / 8 * 8) (nI s) = nI k)
set_option maxRecDepth 100000 in
theorem bes_tab : ∀ w : Fin 48, ∀ k : Fin 48, (upB (nI w.val) (nI k.val) || onB (nI w.val) (nI k.val)) = (besB w.val k.val 0 || besB w.val k.val 1 || besB w.val k.val 2 || besB w.val k.val 3) ∧ (besB w.val k.val 0 && besB w.val k.val 1) = false ∧ (besB w.val k.val 0 && besB w.val k.val 2) = false ∧ (besB w.val k.val 0 && besB w.val k.val 3) = false ∧ (besB w.val k.val 1 && besB w.val k.val 2) = false ∧ (besB w.val k.val 1 && besB w.val k.val 3) = false ∧ (besB w.val k.val 2 && besB w.val k.val 3) = false := by decide +kernel
theorem md_sum (we hot : Nat → Int32) (w : Int32) : ∀ n, mdR we hot w n = (sumV (fun k => if (upB w (nI k) || onB w (nI k)) = true ∧ hot k = 0 then we k else 0) n, sumV (fun k => if (upB w (nI k) || onB w (nI k)) = true ∧ hot k = 0 then 1 else 0) n)
  | 0 => rfl
  | n + 1 => by
    rw [mdR, md_sum we hot w n, sumV, sumV]
    by_cases c : (upB w (nI n) || onB w (nI n)) = true ∧ hot n = 0
    · rw [if_pos c, if_pos c, if_pos c]
    · rw [if_neg c, if_neg c, if_neg c, Int32.add_zero, Int32.add_zero]
theorem mv_sum (we hot : Nat → Int32) (w col : Int32) : ∀ n, mdV we hot w col n = (sumV (fun s => if isW (besV w col (nI s)) = true ∧ hot (besV w col (nI s)).toNatClampNeg = 0 then we (besV w col (nI s)).toNatClampNeg else 0) n, sumV (fun s => if isW (besV w col (nI s)) = true ∧ hot (besV w col (nI s)).toNatClampNeg = 0 then 1 else 0) n)
  | 0 => rfl
  | n + 1 => by
    rw [mdV, mv_sum we hot w col n, sumV, sumV]
    by_cases c : isW (besV w col (nI n)) = true ∧ hot (besV w col (nI n)).toNatClampNeg = 0
    · rw [if_pos c, if_pos c, if_pos c]
    · rw [if_neg c, if_neg c, if_neg c, Int32.add_zero, Int32.add_zero]
/-- a sum over all WELLS beside is one over the four sides -/
theorem bes_sum {w : Nat} (hw : w < 48) (hot : Nat → Int32) (g : Nat → Int32) : sumV (fun k => if (upB (nI w) (nI k) || onB (nI w) (nI k)) = true ∧ hot k = 0 then g k else 0) 48 = sumV (fun s => if isW (besV (nI w) (nI w - nI w / 8 * 8) (nI s)) = true ∧ hot (besV (nI w) (nI w - nI w / 8 * 8) (nI s)).toNatClampNeg = 0 then g (besV (nI w) (nI w - nI w / 8 * 8) (nI s)).toNatClampNeg else 0) 4 := by
  have e1 : ∀ k, k < 48 → (if (upB (nI w) (nI k) || onB (nI w) (nI k)) = true ∧ hot k = 0 then g k else 0) = sumV (fun s => if besB w k s = true ∧ hot k = 0 then g k else 0) 4 := by
    intro k hk
    obtain ⟨t0, t1, t2, t3, t4, t5, t6⟩ := bes_tab ⟨w, hw⟩ ⟨k, hk⟩
    dsimp only at t0 t1 t2 t3 t4 t5 t6
    rw [t0]
    simp only [sumV, Int32.zero_add]
    by_cases ch : hot k = 0
    · simp only [ch, and_true]
      cases hb0 : besB w k 0 <;> cases hb1 : besB w k 1 <;> cases hb2 : besB w k 2 <;> cases hb3 : besB w k 3 <;> simp_all
    · simp [ch]
  rw [sumV_congr 48 e1, sumV_swap]
  refine sumV_congr 4 (fun s hs => ?_)
  generalize hb : besV (nI w) (nI w - nI w / 8 * 8) (nI s) = b
  have hB : ∀ k, besB w k s = true ↔ b = nI k := fun k => by unfold besB; rw [decide_eq_true_iff, hb]
  by_cases c : isW b = true
  · have hbn := isW_nI c
    rw [sumV_one (k0 := b.toNatClampNeg), if_pos hbn.2]
    · by_cases ch : hot b.toNatClampNeg = 0
      · rw [if_pos ⟨(hB _).mpr hbn.1, ch⟩, if_pos ⟨c, ch⟩]
      · rw [if_neg (fun q => ch q.2), if_neg (fun q => ch q.2)]
    · intro k hk hne
      refine if_neg (fun q => hne ?_)
      have e := (hB k).mp q.1
      rw [hbn.1] at e
      exact ((nI_eq (by omega) (by omega)).mp e).symm
  · rw [if_neg (fun q => c q.1)]
    refine sumV_zero 48 (fun k hk => if_neg (fun q => c ?_))
    rw [(hB k).mp q.1, isW_iff, nI_toInt (by omega)]
    omega
section ZSTEP6
variable {E : zE} {I : zI} {L : zL} {R : zR}
theorem st_mended (h : Rel I L R) {w : Int32} : zAi E m_X7_mended m_X8_mended [.int w] I L R Rel := by
  refine mk_i (ct_X7_mended h.rf) (ct_X8_mended h.rf) ?_ h
  by_cases c : isW w = true
  · have hw := isW_nI c
    rw [if_pos c, if_pos c]
    have e : mdR (I 65) (I 69) w 48 = mdV (I 18) (I 5) w (w - w / 8 * 8) 4 := by
      rw [md_sum, mv_sum]
      rw [sumV_congr (f := fun k => if (upB w (nI k) || onB w (nI k)) = true ∧ I 69 k = 0 then I 65 k else 0) (g := fun k => if (upB w (nI k) || onB w (nI k)) = true ∧ I 5 k = 0 then I 18 k else 0) 48 (fun k hk => by rw [(h.hot hk).1, h.w hk]), sumV_congr (f := fun k => if (upB w (nI k) || onB w (nI k)) = true ∧ I 69 k = 0 then 1 else 0) (g := fun k => if (upB w (nI k) || onB w (nI k)) = true ∧ I 5 k = 0 then 1 else 0) 48 (fun k hk => by rw [(h.hot hk).1])]
      have e1 := bes_sum hw.2 (I 5) (I 18)
      have e2 := bes_sum hw.2 (I 5) (fun _ => 1)
      rw [← hw.1] at e1 e2
      rw [e1, e2]
    rw [e]
  · rw [if_neg c, if_neg c]
/-- the longest exposure, in whole numbers -/
def mxN (k : Nat → Nat) : Nat → Nat
  | 0 => 0
  | n + 1 => max (mxN k n) (k n)
theorem lg_nat {C : Nat} {k : Nat → Nat} {r : Nat → Int32} (hC : C < 2 ^ 31) : ∀ n, (∀ j, j < n → r j = nI (k j) ∧ k j < 2 ^ 31) → lgR (nI C) r n = nI (if 1 ≤ mxN k n then min 999 (C / mxN k n) else 999) ∧ grV r n = nI (mxN k n) ∧ mxN k n < 2 ^ 31
  | 0, _ => ⟨rfl, rfl, by show 0 < 2 ^ 31; decide⟩
  | n + 1, h => by
    obtain ⟨h1, h2, h3⟩ := lg_nat hC n (fun j hj => h j (by omega))
    obtain ⟨g1, g2⟩ := h n (by omega)
    have hm : mxN k (n + 1) = max (mxN k n) (k n) := rfl
    refine ⟨?_, ?_, by rw [hm]; omega⟩
    · rw [lgR, h1, g1]
      by_cases z : k n = 0
      · rw [if_pos (by rw [z]; rfl), hm, z, Nat.max_eq_left (Nat.zero_le _)]
      · have z' : ¬ nI (k n) = 0 := fun q => z ((nI_eq (b := 0) g2 (by decide)).mp q)
        rw [if_neg z', pk_div hC (by omega) g2]
        have hd : C / k n ≤ C := Nat.div_le_self _ _
        have hlv : ∀ a b : Nat, a < 2 ^ 31 → b < 2 ^ 31 → lsV (nI a) (nI b) = nI (min a b) := by
          intro a b ha hb
          unfold lsV
          by_cases q : b ≤ a
          · rw [if_pos (nI_le q ha), Nat.min_eq_right q]
          · rw [if_neg (fun q2 => q ((nI_leI hb ha).mp q2)), Nat.min_eq_left (by omega)]
        by_cases o : 1 ≤ mxN k n
        · have hd2 : C / mxN k n ≤ C := Nat.div_le_self _ _
          rw [if_pos o, hlv _ _ (by omega) (by omega), hm, if_pos (by omega)]
          congr 1
          by_cases q : k n ≤ mxN k n
          · rw [Nat.max_eq_left q]
            have := Nat.div_le_div_left (a := C) q (by omega)
            omega
          · rw [Nat.max_eq_right (by omega)]
            have := Nat.div_le_div_left (a := C) (show mxN k n ≤ k n by omega) (by omega)
            omega
        · rw [if_neg o, hlv 999 _ (by decide) (by omega), hm, if_pos (by omega), Nat.max_eq_right (by omega)]
    · rw [grV, h2, g1, hm]
      unfold mx
      by_cases q : mxN k n < k n
      · rw [if_pos (nI_lt q g2), Nat.max_eq_right (by omega)]
      · rw [if_neg (fun q2 => q ((nI_ltI h3 g2).mp q2)), Nat.max_eq_left (by omega)]
theorem lon_nat {C m : Nat} (hC : C < 2 ^ 31) (hm : m < 2 ^ 31) : lonV (nI C) (nI m) = nI (if 1 ≤ m then min 999 (C / m) else 999) := by
  unfold lonV
  by_cases o : 1 ≤ m
  · have hd : C / m ≤ C := Nat.div_le_self _ _
    rw [if_pos (show (1 : Int32) ≤ nI m from nI_le (a := 1) o hm), if_pos o, pk_div hC (by omega) hm]
    unfold mn
    by_cases q : C / m < 999
    · rw [if_pos (show nI (C / m) < (999 : Int32) from nI_lt (b := 999) q (by decide)), Nat.min_eq_right (by omega)]
    · rw [if_neg (show ¬ nI (C / m) < (999 : Int32) from fun q2 => q ((nI_ltI (b := 999) (by omega) (by decide)).mp q2)), Nat.min_eq_left (by omega)]; rfl
  · rw [if_neg (show ¬ (1 : Int32) ≤ nI m from fun q => o ((nI_leI (a := 1) (by decide) hm).mp q)), if_neg o]; rfl
theorem Rel.nat (h : Rel I L R) : ∃ (C : Nat) (k : Nat → Nat), I 4 0 = nI C ∧ 1 ≤ C ∧ C ≤ 999 ∧ ∀ j, j < 48 → cmV I j = nI (k j) ∧ k j ≤ 207 := by
  have hc := h.cap
  have e := cl_of (x := I 4 0) (n := 1000) (by omega) (by omega) (by decide)
  refine ⟨(I 4 0).toNatClampNeg, fun j => (cmV I j).toNatClampNeg, e.2, ?_, by omega, fun j hj => ?_⟩
  · have := congrArg Int32.toInt e.2
    rw [nI_toInt (by omega)] at this
    omega
  · have hb := h.rb hj
    have e2 := cl_of (x := cmV I j) (n := 208) (by omega) (by omega) (by decide)
    exact ⟨e2.2, by show (cmV I j).toNatClampNeg ≤ 207; omega⟩
theorem Rel.lon (h : Rel I L R) : lgR (I 68 0) (fun w => I 65 (104 + w) + I 69 w + I 68 1) 48 = lonV (I 4 0) (grV (cmV I) 48) := by
  obtain ⟨C, k, hC, hC1, hC2, hk⟩ := h.nat
  obtain ⟨a1, a2, a3⟩ := lg_nat (C := C) (k := k) (r := fun w => I 65 (104 + w) + I 69 w + I 68 1) (by omega) 48 (fun j hj => ⟨(h.rt hj).trans (hk j hj).1, by have := (hk j hj).2; omega⟩)
  obtain ⟨-, b2, -⟩ := lg_nat (C := C) (k := k) (r := cmV I) (by omega) 48 (fun j hj => ⟨(hk j hj).1, by have := (hk j hj).2; omega⟩)
  rw [h.r (by decide), hC, a1, b2, lon_nat (by omega) a3]
theorem st_longest (h : Rel I L R) : zAi E m_X7_longest m_X8_longest [] I L R Rel := mk_i (ct_X7_longest h.rf) (ct_X8_longest h.rf) h.lon h
/-- how many TICKS are needed -/
def ndN (li : Nat → Bool) (k : Nat → Nat) (n : Nat) : Nat → Nat
  | 0 => 1
  | j + 1 => if li j then max (ndN li k n j) ((n + k j - 1) / k j) else ndN li k n j
theorem nd_nat {li f : Nat → Int32} {lb : Nat → Bool} {k : Nat → Nat} {n : Nat} (hn : n ≤ 999) (hn1 : 1 ≤ n) : ∀ m, (∀ j, j < m → (lb j = true ↔ ¬ li j ≤ 0) ∧ f j = nI (k j) ∧ k j ≤ 207 ∧ (lb j = true → 1 ≤ k j)) → ndV li f (nI n) m = nI (ndN lb k n m) ∧ 1 ≤ ndN lb k n m ∧ ndN lb k n m ≤ 2000
  | 0, _ => ⟨rfl, Nat.le_refl _, by show 1 ≤ 2000; decide⟩
  | m + 1, h => by
    obtain ⟨h1, h2, h3⟩ := nd_nat hn hn1 m (fun j hj => h j (by omega))
    obtain ⟨g1, g2, g3, g4⟩ := h m (by omega)
    rw [ndV, ndN, h1]
    by_cases c : lb m = true
    · have k1 := g4 c
      rw [if_neg (g1.mp c), if_pos c, g2]
      have hd : (n + k m - 1) / k m ≤ 1500 := Nat.le_trans (Nat.div_le_self _ _) (by omega)
      have e : binV (nI n) (nI (k m)) = nI ((n + k m - 1) / k m) := by
        unfold binV
        rw [if_pos (show (1 : Int32) ≤ nI (k m) from nI_le (a := 1) k1 (by omega)), nI_add, show nI (n + k m) - (1 : Int32) = nI (n + k m - 1) from pk_sub (a := n + k m) (b := 1) (by omega), pk_div (by omega) (by omega) (by omega)]
      rw [e]
      refine ⟨?_, by omega, by omega⟩
      unfold mx
      by_cases q : ndN lb k n m < (n + k m - 1) / k m
      · rw [if_pos (nI_lt q (by omega)), Nat.max_eq_right (by omega)]
      · rw [if_neg (fun q2 => q ((nI_ltI (by omega) (by omega)).mp q2)), Nat.max_eq_left (by omega)]
    · rw [if_pos (Decidable.not_not.mp (mt g1.mpr c)), if_neg c]
      exact ⟨rfl, h2, h3⟩
theorem an_nat {li rt : Nat → Int32} {lb : Nat → Bool} {k : Nat → Nat} {n t : Nat} (hn : n ≤ 999) (hn1 : 1 ≤ n) (ht1 : 1 ≤ t) (ht : t ≤ 1000) : ∀ m, (∀ j, j < m → (lb j = true ↔ ¬ li j = 0) ∧ rt j = nI (k j) ∧ k j ≤ 207 ∧ (lb j = true → 1 ≤ k j)) → (anR li rt (nI n) (nI t) m = true ↔ ndN lb k n m ≤ t)
  | 0, _ => ⟨fun _ => ht1, fun _ => rfl⟩
  | m + 1, h => by
    have ih := an_nat (li := li) (rt := rt) hn hn1 ht1 ht m (fun j hj => h j (by omega))
    obtain ⟨g1, g2, g3, g4⟩ := h m (by omega)
    rw [anR, ndN, Bool.and_eq_true, Bool.or_eq_true, ih]
    by_cases c : lb m = true
    · have k1 := g4 c
      rw [if_pos c, g2, pk_mul]
      have hkt : k m * t ≤ 207 * 1000 := Nat.mul_le_mul g3 ht
      have e : (decide (li m = 0) = true ∨ (!decide (nI (k m * t) < nI n)) = true) ↔ n ≤ k m * t := by
        have n0 := g1.mp c
        simp only [decide_eq_true_eq, Bool.not_eq_true', decide_eq_false_iff_not]
        rw [nI_ltI (by omega) (by omega)]
        constructor
        · rintro (q | q)
          · exact absurd q n0
          · omega
        · intro q; exact Or.inr (by omega)
      rw [e]
      have e2 : n ≤ k m * t ↔ (n + k m - 1) / k m ≤ t := by
        rw [Nat.div_le_iff_le_mul_add_pred (by omega)]
        omega
      rw [e2]
      omega
    · rw [if_neg c]
      have z : li m = 0 := Decidable.not_not.mp (mt g1.mpr c)
      simp [z]
theorem en_nat {ok : Nat → Bool} {lg nd : Nat} (hlg : lg ≤ 999) (hnd : 1 ≤ nd) (hok : ∀ t, 1 ≤ t → t ≤ 1000 → (ok t = true ↔ nd ≤ t)) : ∀ m t, m + t = 1000 → 1 ≤ t → t ≤ nd → enR ok (nI lg) m t = if lg < nd then -4 else nI nd
  | 0, t, hm, h1, h2 => by
    rw [enR, if_pos (by omega)]
  | m + 1, t, hm, h1, h2 => by
    rw [enR]
    by_cases c : lg < t
    · rw [if_pos (nI_lt c (by omega)), if_pos (by omega)]
    · rw [if_neg (fun q => c ((nI_ltI (by omega) (by omega)).mp q))]
      by_cases c2 : ok t = true
      · have := (hok t h1 (by omega)).mp c2
        rw [if_pos c2, if_neg (by omega)]
        congr 1; omega
      · have : ¬ nd ≤ t := fun q => c2 ((hok t h1 (by omega)).mpr q)
        rw [if_neg c2, en_nat hlg hnd hok m (t + 1) (by omega) (by omega) (by omega)]
theorem st_enough (h : Rel I L R) {n : Int32} : zAi E m_X7_enough m_X8_enough [.int n] I L R Rel := by
  refine mk_i (ct_X7_enough h.rf) (ct_X8_enough h.rf) ?_ h
  by_cases c : inV 1 999 n = true
  · rw [if_pos c, if_pos c, h.lon]
    obtain ⟨en, hn1, hn2⟩ := inV_nat (n := 999) (by decide) c
    generalize n.toNatClampNeg = nn at en hn1 hn2
    subst en
    obtain ⟨C, k, hC, hC1, hC2, hk⟩ := h.nat
    obtain ⟨-, b2, b3⟩ := lg_nat (C := C) (k := k) (r := cmV I) (by omega) 48 (fun j hj => ⟨(hk j hj).1, by have := (hk j hj).2; omega⟩)
    rw [hC, b2, lon_nat (by omega) b3]
    have hlit : ∀ j, j < 48 → 0 < (I 17 j).toInt → 1 ≤ k j := by
      intro j hj h0
      have hb := h.rb hj
      have h1 := h.hot hj
      have h2 := h.dk
      have e := congrArg Int32.toInt (hk j hj).1
      rw [nI_toInt (by have := (hk j hj).2; omega)] at e
      omega
    obtain ⟨d1, d2, d3⟩ := nd_nat (li := I 17) (f := cmV I) (lb := fun j => decide (¬ I 17 j ≤ 0)) (k := k) hn2 hn1 48 (fun j hj => ⟨decide_eq_true_iff, (hk j hj).1, (hk j hj).2, fun q => hlit j hj (by
      have := of_decide_eq_true q
      rw [t_le, t_0] at this
      omega)⟩)
    rw [d1]
    have hok : ∀ t, 1 ≤ t → t ≤ 1000 → ((fun t => anR (fun w => I 65 (104 + w)) (fun w => I 65 (104 + w) + I 69 w + I 68 1) (nI nn) (nI t) 48) t = true ↔ ndN (fun j => decide (¬ I 17 j ≤ 0)) k nn 48 ≤ t) := by
      intro t ht1 ht2
      refine an_nat hn2 hn1 ht1 ht2 48 (fun j hj => ⟨?_, (h.rt hj).trans (hk j hj).1, (hk j hj).2, fun q => hlit j hj (by
        have := of_decide_eq_true q
        rw [t_le, t_0] at this
        omega)⟩)
      rw [h.l hj, decide_eq_true_iff, t_le, t_0, t_eq, t_0]
      have := h.li hj
      omega
    rw [en_nat (lg := if 1 ≤ mxN k 48 then min 999 (C / mxN k 48) else 999) (by split <;> omega) d2 hok 999 1 rfl (Nat.le_refl _) d2]
    generalize hlgg : (if 1 ≤ mxN k 48 then min 999 (C / mxN k 48) else 999) = lg
    have hlg9 : lg ≤ 999 := by rw [← hlgg]; split <;> omega
    by_cases q : lg < ndN (fun j => decide (¬ I 17 j ≤ 0)) k nn 48
    · rw [if_pos q, if_pos (nI_lt q (by omega))]
    · rw [if_neg q, if_neg (fun q2 => q ((nI_ltI (by omega) (by omega)).mp q2))]
  · rw [if_neg c, if_neg c]
end ZSTEP6
