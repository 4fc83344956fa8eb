/-! CLASS AND REFERENCE SIDE BY SIDE: the relation, and what it takes to keep it -/
theorem zCt_mono {E : zE} {md : zMD} {Sh : zSh} {args : List Value} {I : zI} {L : zL} {R : zR} {Q Q' : Option Value → zSh → zI → zL → zR → Prop} (h : zCt E md Sh args I L R Q) (hQ : ∀ r Sh1 I1 L1 R1, Q r Sh1 I1 L1 R1 → Q' r Sh1 I1 L1 R1) : zCt E md Sh args I L R Q' := by
  unfold zCt Met at h ⊢
  exact MetFree.mono h (fun _ _ p => p) (fun _ _ _ _ _ k => k) (fun a s o t _ q => by
    obtain ⟨⟨r, Sh1, I1, L1, R1, e, hq, w⟩, f⟩ := q
    exact ⟨⟨r, Sh1, I1, L1, R1, e, hQ _ _ _ _ _ hq, w⟩, f⟩)
/-- the class is called, then the reference: both return, with one answer (an int, a long; or any ints), and Inv holds -/
def zAi (E : zE) (mc mr : zMD) (args : List Value) (I : zI) (L : zL) (R : zR) (Inv : zI → zL → zR → Prop) : Prop :=
  zCt E mc zShF (.ref 0 :: args) I L R (fun r1 Sh1 I1 L1 R1 => Sh1 = zShF ∧ ∃ v : Int32, r1 = some (.int v) ∧ zCt E mr zShF (.ref 64 :: args) I1 L1 R1 (fun r2 Sh2 I2 L2 R2 => Sh2 = zShF ∧ r2 = some (.int v) ∧ Inv I2 L2 R2))
def zAl (E : zE) (mc mr : zMD) (args : List Value) (I : zI) (L : zL) (R : zR) (Inv : zI → zL → zR → Prop) : Prop :=
  zCt E mc zShF (.ref 0 :: args) I L R (fun r1 Sh1 I1 L1 R1 => Sh1 = zShF ∧ ∃ v : Int64, r1 = some (.long v) ∧ zCt E mr zShF (.ref 64 :: args) I1 L1 R1 (fun r2 Sh2 I2 L2 R2 => Sh2 = zShF ∧ r2 = some (.long v) ∧ Inv I2 L2 R2))
def zAw (E : zE) (mc mr : zMD) (args : List Value) (I : zI) (L : zL) (R : zR) (Inv : zI → zL → zR → Prop) : Prop :=
  zCt E mc zShF (.ref 0 :: args) I L R (fun r1 Sh1 I1 L1 R1 => Sh1 = zShF ∧ ∃ v : Int32, r1 = some (.int v) ∧ zCt E mr zShF (.ref 64 :: args) I1 L1 R1 (fun r2 Sh2 I2 L2 R2 => Sh2 = zShF ∧ (∃ v2 : Int32, r2 = some (.int v2)) ∧ Inv I2 L2 R2))
section ZPAIR
variable {E : zE} {mc mr : zMD} {args : List Value} {I I1 I2 : zI} {L L1 L2 : zL} {R R1 R2 : zR} {Inv : zI → zL → zR → Prop}
theorem mk_i {v v' : Int32} (hc : zCf E mc zShF (.ref 0 :: args) I L R (some (.int v)) I1 L1 R1) (hr : zCf E mr zShF (.ref 64 :: args) I1 L1 R1 (some (.int v')) I2 L2 R2) (e : v' = v) (hI : Inv I2 L2 R2) : zAi E mc mr args I L R Inv := by
  subst e
  refine zCt_mono hc (fun r Sh1 J M S h => ?_)
  obtain ⟨rfl, rfl, rfl, rfl, rfl⟩ := h
  refine ⟨rfl, v', rfl, zCt_mono hr (fun r Sh1 J M S h => ?_)⟩
  obtain ⟨rfl, rfl, rfl, rfl, rfl⟩ := h
  exact ⟨rfl, rfl, hI⟩
theorem mk_l {v v' : Int64} (hc : zCf E mc zShF (.ref 0 :: args) I L R (some (.long v)) I1 L1 R1) (hr : zCf E mr zShF (.ref 64 :: args) I1 L1 R1 (some (.long v')) I2 L2 R2) (e : v' = v) (hI : Inv I2 L2 R2) : zAl E mc mr args I L R Inv := by
  subst e
  refine zCt_mono hc (fun r Sh1 J M S h => ?_)
  obtain ⟨rfl, rfl, rfl, rfl, rfl⟩ := h
  refine ⟨rfl, v', rfl, zCt_mono hr (fun r Sh1 J M S h => ?_)⟩
  obtain ⟨rfl, rfl, rfl, rfl, rfl⟩ := h
  exact ⟨rfl, rfl, hI⟩
end ZPAIR
def rlP (P : Nat) (I : zI) : Prop := (∀ j, j < 7 → I 68 j = I 4 j) ∧ (1 ≤ (I 4 0).toInt ∧ (I 4 0).toInt ≤ 999) ∧ (0 ≤ (I 4 1).toInt ∧ (I 4 1).toInt ≤ 9) ∧ (I 4 2 = 0 ∨ I 4 2 = 1) ∧ (0 ≤ (I 4 3).toInt ∧ (I 4 3).toInt ≤ 9) ∧ (1 ≤ (I 4 4).toInt ∧ (I 4 4).toInt ≤ 9) ∧ (1 ≤ (I 4 5).toInt ∧ (I 4 5).toInt ≤ 99) ∧ I 4 6 = nI P
def rlH (I : zI) : Prop := ∀ j, j < 48 → (I 69 j = I 5 j ∧ 0 ≤ (I 5 j).toInt ∧ (I 5 j).toInt ≤ 99) ∧ (I 70 j = I 6 j ∧ 0 ≤ (I 6 j).toInt ∧ (I 6 j).toInt ≤ 50)
def rlW (P n : Nat) (w : Nat → Nat) (I : zI) : Prop := I 3 4 = nI n ∧ I 64 6 = nI n ∧ n ≤ 12 ∧ ∀ j, j < n → I 7 j = nI (w j) ∧ I 71 j = nI (w j) ∧ w j < 2 ^ P
def rlQ (I : zI) (L : zL) : Prop := sR I L 0 (qOf I L 16) ∧ qB (I 4 0) (I 6) (qOf I L 16)
def rlK (i : Nat) (I : zI) (L : zL) : Prop := (I 22 i = 0 ∧ I 67 i = 0) ∨ (I 22 i = 1 ∧ I 67 i = 1 ∧ sR I L (i + 1) (qOf I L (46 + 5 * i)) ∧ qB (I 4 0) (I 6) (qOf I L (46 + 5 * i)))
def rlT (t : Nat) (I : zI) : Prop := I 1 1 = nI t ∧ I 64 17 = nI t ∧ t ≤ 400 ∧ ∀ j, j < t → I 77 j = I 2 j &&& 255
def rlS (k : Nat) (I : zI) : Prop := (0 ≤ (I 83 k).toInt ∧ (I 83 k).toInt ≤ 40) ∧ ((I (56 + 2 * k) 2 = -1 ∧ I 82 k = -4) ∨ (∃ l n : Nat, l < 3 ∧ n ≤ 40 ∧ I (56 + 2 * k) 2 = nI n ∧ I 83 k = nI n ∧ I (56 + 2 * k) 1 = nI l ∧ I 82 k = nI l ∧ ∀ j, j < 40 → I 84 (40 * k + j) = I (56 + 2 * k + 1) j))
def rlG (I : zI) (R : zR) : Prop := zLx R ∧ (∃ A B, wAB R A B) ∧ gInv I
def Rel (I : zI) (L : zL) (R : zR) : Prop := rlG I R ∧ (∃ P n w, (P = 3 ∨ P = 4) ∧ rlP P I ∧ rlW P n w I) ∧ rlH I ∧ rlQ I L ∧ (rlK 0 I L ∧ rlK 1 I L) ∧ (∃ t, rlT t I) ∧ (∀ k, k < 4 → rlS k I) ∧ I 64 35 = I 0 10
theorem rlP_c {P : Nat} {I J : zI} (h4 : J 4 = I 4) (h68 : J 68 = I 68) (h : rlP P I) : rlP P J := by unfold rlP at h ⊢; rw [h4, h68]; exact h
theorem rlH_c {I J : zI} (h5 : J 5 = I 5) (h6 : J 6 = I 6) (h69 : J 69 = I 69) (h70 : J 70 = I 70) (h : rlH I) : rlH J := by unfold rlH at h ⊢; rw [h5, h6, h69, h70]; exact h
theorem rlW_c {P n : Nat} {w : Nat → Nat} {I J : zI} (h3 : J 3 4 = I 3 4) (h64 : J 64 6 = I 64 6) (h7 : J 7 = I 7) (h71 : J 71 = I 71) (h : rlW P n w I) : rlW P n w J := by unfold rlW at h ⊢; rw [h3, h64, h7, h71]; exact h
theorem sR_c {I J : zI} {L M : zL} {k : Nat} {q : zQ} (h : sR I L k q) (h65 : ∀ a, 160 * k ≤ a → a < 160 * k + 160 → J 65 a = I 65 a) (h66 : ∀ a, 3 * k ≤ a → a < 3 * k + 3 → M 66 a = L 66 a) : sR J M k q := by
  obtain ⟨h1, h2, h3, h4, h5, h6, h7⟩ := h
  refine ⟨fun j hj => ?_, fun j hj => ?_, fun j hj => ?_, fun j hj => ?_, ?_, ?_, ?_⟩
  · rw [h65 _ (by omega) (by omega), h1 j hj]
  · rw [h65 _ (by omega) (by omega), h2 j hj]
  · rw [h65 _ (by omega) (by omega), h3 j hj]
  · rw [h65 _ (by omega) (by omega), h4 j hj]
  · rw [h66 _ (by omega) (by omega), h5]
  · rw [h66 _ (by omega) (by omega), h6]
  · rw [h66 _ (by omega) (by omega), h7]
theorem rlQ_c {I J : zI} {L M : zL} (h65 : ∀ a, a < 160 → J 65 a = I 65 a) (h66 : ∀ a, a < 3 → M 66 a = L 66 a) (hq : qOf J M 16 = qOf I L 16) (h4 : J 4 0 = I 4 0) (h6 : J 6 = I 6) (h : rlQ I L) : rlQ J M := by
  unfold rlQ at h ⊢
  rw [hq, h4, h6]
  exact ⟨sR_c h.1 (fun a _ h => h65 a (by omega)) (fun a _ h => h66 a (by omega)), h.2⟩
theorem rlK_c {i : Nat} {I J : zI} {L M : zL} (h22 : J 22 i = I 22 i) (h67 : J 67 i = I 67 i) (h65 : ∀ a, 160 * (i + 1) ≤ a → a < 160 * (i + 1) + 160 → J 65 a = I 65 a) (h66 : ∀ a, 3 * (i + 1) ≤ a → a < 3 * (i + 1) + 3 → M 66 a = L 66 a) (hq : qOf J M (46 + 5 * i) = qOf I L (46 + 5 * i)) (h4 : J 4 0 = I 4 0) (h6 : J 6 = I 6) (h : rlK i I L) : rlK i J M := by
  unfold rlK at h ⊢
  rw [hq, h4, h6, h22, h67]
  rcases h with h | ⟨a, b, c, d⟩
  · exact Or.inl h
  · exact Or.inr ⟨a, b, sR_c c h65 h66, d⟩
theorem rlT_c {t : Nat} {I J : zI} (h1 : J 1 1 = I 1 1) (h64 : J 64 17 = I 64 17) (h2 : J 2 = I 2) (h77 : J 77 = I 77) (h : rlT t I) : rlT t J := by unfold rlT at h ⊢; rw [h1, h64, h2, h77]; exact h
theorem rlS_c {k : Nat} {I J : zI} (h56 : J (56 + 2 * k) = I (56 + 2 * k)) (h57 : J (56 + 2 * k + 1) = I (56 + 2 * k + 1)) (h82 : J 82 k = I 82 k) (h83 : J 83 k = I 83 k) (h84 : ∀ j, j < 40 → J 84 (40 * k + j) = I 84 (40 * k + j)) (h : rlS k I) : rlS k J := by
  unfold rlS at h ⊢
  rw [h56, h57, h82, h83]
  refine ⟨h.1, ?_⟩
  rcases h.2 with a | ⟨l, n, a1, a2, a3, a4, a5, a6, a7⟩
  · exact Or.inl a
  · exact Or.inr ⟨l, n, a1, a2, a3, a4, a5, a6, fun j hj => by rw [h84 j hj]; exact a7 j hj⟩
/-- what the relation speaks of is as it was -/
def frM (I : zI) (L : zL) (J : zI) (M : zL) : Prop := (∀ k, k < 23 → J k = I k) ∧ (∀ k, 46 ≤ k → k < 64 → J k = I k) ∧ (J 64 6 = I 64 6 ∧ J 64 17 = I 64 17 ∧ J 64 35 = I 64 35) ∧ (∀ a, a < 480 → J 65 a = I 65 a) ∧ (∀ k, 67 ≤ k → k ≤ 71 → J k = I k) ∧ J 77 = I 77 ∧ (∀ k, 82 ≤ k → k ≤ 84 → J k = I k) ∧ (∀ k, k = 16 ∨ k = 46 ∨ k = 51 → M k = L k) ∧ (∀ a, a < 9 → M 66 a = L 66 a)
theorem frM_rf (I : zI) (L : zL) : frM I L I L := ⟨fun _ _ => rfl, fun _ _ _ => rfl, ⟨rfl, rfl, rfl⟩, fun _ _ => rfl, fun _ _ _ => rfl, rfl, fun _ _ _ => rfl, fun _ _ => rfl, fun _ _ => rfl⟩
theorem frM_tr {I J K : zI} {L M N : zL} (h : frM I L J M) (g : frM J M K N) : frM I L K N := by
  obtain ⟨a1, a2, ⟨a3, a4, a5⟩, a6, a7, a8, a9, a10, a11⟩ := h
  obtain ⟨b1, b2, ⟨b3, b4, b5⟩, b6, b7, b8, b9, b10, b11⟩ := g
  exact ⟨fun k h => (b1 k h).trans (a1 k h), fun k h h2 => (b2 k h h2).trans (a2 k h h2), ⟨b3.trans a3, b4.trans a4, b5.trans a5⟩, fun k h => (b6 k h).trans (a6 k h), fun k h h2 => (b7 k h h2).trans (a7 k h h2), b8.trans a8, fun k h h2 => (b9 k h h2).trans (a9 k h h2), fun k h => (b10 k h).trans (a10 k h), fun k h => (b11 k h).trans (a11 k h)⟩
theorem Rel_fr {I J : zI} {L M : zL} {R S : zR} (h : Rel I L R) (f : frM I L J M) (g : rlG J S) : Rel J M S := by
  obtain ⟨-, ⟨P, n, w, hP, r1, r2⟩, r3, r4, ⟨r5, r6⟩, ⟨t, r7⟩, r8, r9⟩ := h
  obtain ⟨a1, a2, ⟨a3, a4, a5⟩, a6, a7, a8, a9, a10, a11⟩ := f
  have qe : ∀ c, (c = 16 ∨ c = 46 ∨ c = 51) → qOf J M c = qOf I L c := by
    intro c hc
    refine qOf_eq ?_ ?_ ?_ ?_ (a10 c hc)
    all_goals rcases hc with rfl | rfl | rfl <;> first | exact a1 _ (by decide) | exact a2 _ (by decide) (by decide)
  refine ⟨g, ⟨P, n, w, hP, rlP_c (a1 4 (by decide)) (a7 68 (by decide) (by decide)) r1, rlW_c (by rw [a1 3 (by decide)]) a3 (a1 7 (by decide)) (a7 71 (by decide) (by decide)) r2⟩, rlH_c (a1 5 (by decide)) (a1 6 (by decide)) (a7 69 (by decide) (by decide)) (a7 70 (by decide) (by decide)) r3, rlQ_c (fun a h => a6 a (by omega)) (fun a h => a11 a (by omega)) (qe 16 (Or.inl rfl)) (by rw [a1 4 (by decide)]) (a1 6 (by decide)) r4, ⟨?_, ?_⟩, ⟨t, rlT_c (by rw [a1 1 (by decide)]) a4 (a1 2 (by decide)) a8 r7⟩, fun k hk => ?_, ?_⟩
  · exact rlK_c (by rw [a1 22 (by decide)]) (by rw [a7 67 (by decide) (by decide)]) (fun a h1 h2 => a6 a (by omega)) (fun a h1 h2 => a11 a (by omega)) (qe 46 (Or.inr (Or.inl rfl))) (by rw [a1 4 (by decide)]) (a1 6 (by decide)) r5
  · exact rlK_c (by rw [a1 22 (by decide)]) (by rw [a7 67 (by decide) (by decide)]) (fun a h1 h2 => a6 a (by omega)) (fun a h1 h2 => a11 a (by omega)) (qe 51 (Or.inr (Or.inr rfl))) (by rw [a1 4 (by decide)]) (a1 6 (by decide)) r6
  · exact rlS_c (a2 _ (by omega) (by omega)) (a2 _ (by omega) (by omega)) (by rw [a9 82 (by decide) (by decide)]) (by rw [a9 83 (by decide) (by decide)]) (fun j _ => by rw [a9 84 (by decide) (by decide)]) (r8 k hk)
  · rw [a5, a1 0 (by decide)]; exact r9
theorem rlG_c {I J : zI} {R : zR} (h : rlG I R) (hk : ∀ k, 37 ≤ k → k ≤ 42 → J k = I k) : rlG J R := by
  refine ⟨h.1, h.2.1, fun P hP h0 => ?_⟩
  have h37 := hk 37 (by decide) (by decide)
  have hT := h.2.2 P hP (by rw [← h37]; exact h0)
  obtain ⟨⟨b1, b2, b3⟩, b4⟩ := hT
  refine ⟨⟨by rw [h37]; exact b1, by rw [h37]; exact b2, fun r hr => ?_⟩, fun r b c1 c2 c3 => ?_⟩
  · rw [hk 38 (by decide) (by decide), hk 39 (by decide) (by decide), hk 40 (by decide) (by decide)]; exact b3 r hr
  · have := b4 r b c1 c2 c3
    unfold gE at this ⊢
    rw [hk 41 (by decide) (by decide), hk 42 (by decide) (by decide)]; exact this
