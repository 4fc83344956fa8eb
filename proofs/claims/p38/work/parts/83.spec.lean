def smL (f : Nat → Int64) : Nat → Int64
  | 0 => 0
  | n + 1 => smL f n + f n
theorem smL_congr {f g : Nat → Int64} : ∀ n, (∀ k, k < n → f k = g k) → smL f n = smL g n
  | 0, _ => rfl
  | n + 1, h => by rw [smL, smL, smL_congr n (fun k hk => h k (by omega)), h n (by omega)]
theorem smL_oN (f : Nat → Nat) : ∀ n, smL (fun k => oN (f k)) n = oN (sumN f n)
  | 0 => rfl
  | n + 1 => by rw [smL, sumN, oN_add, smL_oN f n]
def cT (P : Nat) (ld : Nat → Int64) (a b g j : Nat) : Int64 := if 0 < ld (201 * a + g) ∧ (mtV P a ((g : Int) - 100) b).1 = 1 ∧ ldX P a b g = j then ld (201 * a + g) else 0
theorem ldS_v (P : Nat) (ld : Nat → Int64) (a b g : Nat) (s : zU) (j : Nat) : (ldS P ld a b g s).2.2 j = s.2.2 j + cT P ld a b g j := by
  unfold ldS cT
  by_cases h1 : 0 < ld (201 * a + g)
  · rw [if_pos h1]
    show (if _ then _ else _ : Nat → Int64) j = _
    by_cases h2 : (mtV P a ((g : Int) - 100) b).1 = 1
    · rw [if_pos h2]
      by_cases h3 : ldX P a b g = j
      · rw [if_pos ⟨h1, h2, h3⟩, ← h3, up_eq]
      · rw [if_neg (fun q => h3 q.2.2), up_ne (Ne.symm h3), Int64.add_zero]
    · rw [if_neg h2, if_neg (fun q => h2 q.2.1), Int64.add_zero]
  · rw [if_neg h1, if_neg (fun q => h1 q.1), Int64.add_zero]
theorem ldG_v (P : Nat) (ld : Nat → Int64) (a b : Nat) (s : zU) (j : Nat) : ∀ k, (ldG P ld a b k s).2.2 j = s.2.2 j + smL (fun i => cT P ld a b (4 + i) j) k
  | 0 => by rw [ldG, smL, Int64.add_zero]
  | k + 1 => by rw [ldG, ldS_v, ldG_v P ld a b s j k, smL, Int64.add_assoc]
theorem ldB_v (P : Nat) (ld : Nat → Int64) (o : Int32) (a : Nat) (s : zU) (j : Nat) : ∀ k, (ldB P ld o a k s).2.2 j = s.2.2 j + smL (fun b => if o = -4 ∨ nI (b + 1) = o then smL (fun i => cT P ld a (b + 1) (4 + i) j) 193 else 0) k
  | 0 => by rw [ldB, smL, Int64.add_zero]
  | k + 1 => by
    rw [ldB, smL]
    by_cases h : o = -4 ∨ nI (k + 1) = o
    · rw [if_pos h, if_pos h, ldG_v, ldB_v P ld o a s j k, Int64.add_assoc]
    · rw [if_neg h, if_neg h, Int64.add_zero, ldB_v P ld o a s j k]
theorem ldA_v (P : Nat) (ld : Nat → Int64) (o : Int32) (s : zU) (j : Nat) : ∀ k, (ldA P ld o k s).2.2 j = s.2.2 j + smL (fun a => smL (fun b => if o = -4 ∨ nI (b + 1) = o then smL (fun i => cT P ld (a + 1) (b + 1) (4 + i) j) 193 else 0) (2 ^ P - 2)) k
  | 0 => by rw [ldA, smL, Int64.add_zero]
  | k + 1 => by rw [ldA, ldB_v, ldA_v P ld o s j k, smL, Int64.add_assoc]
theorem oN_pos {n : Nat} (h : n < 2 ^ 63) : 0 < oN n ↔ n ≠ 0 := by
  have e : (oN n).toInt = n := Int64.toInt_ofNat_of_lt h
  rw [Int64.lt_iff_toInt_lt, e]
  show (0 : Int) < n ↔ _
  omega
/-- the lead is a count -/
def LR (P : Nat) (D : Nat → Int → Nat) (ld : Nat → Int64) : Prop := ∀ a g, 1 ≤ a → a < 2 ^ P - 1 → g < 201 → ld (201 * a + g) = oN (eC P D a ((g : Int) - 100))
theorem ldX_eq {P a b g b' g' : Nat} (hP : P = 3 ∨ P = 4) (hb1 : 1 ≤ b) (hg1 : 4 ≤ g) (hg2 : g < 197) (hg' : g' < 201) : ldX P a b g = 201 * b' + g' ↔ b = b' ∧ (mtV P a ((g : Int) - 100) b).2 = (g' : Int) - 100 := by
  have h := mtV_b (a := a) hP ((g : Int) - 100) b
  unfold ldX
  omega
theorem cT_oN {P a b g b' g' : Nat} (hP : P = 3 ∨ P = 4) {D : Nat → Int → Nat} {ld : Nat → Int64} (hL : LR P D ld) (hB : ∀ a z, eC P D a z < 2 ^ 63) (ha1 : 1 ≤ a) (ha2 : a < 2 ^ P - 1) (hb1 : 1 ≤ b) (hg1 : 4 ≤ g) (hg2 : g < 197) (hg' : g' < 201) :
    cT P ld a b g (201 * b' + g') = oN (if b = b' then (if (mtV P a ((g : Int) - 100) b).1 = 1 ∧ (mtV P a ((g : Int) - 100) b).2 = (g' : Int) - 100 then eC P D a ((g : Int) - 100) else 0) else 0) := by
  unfold cT
  rw [hL a g ha1 ha2 (by omega)]
  have hp := oN_pos (hB a ((g : Int) - 100))
  have hx := ldX_eq (a := a) (b := b) (b' := b') hP hb1 hg1 hg2 hg'
  by_cases c1 : b = b'
  · rw [if_pos c1]
    by_cases c2 : (mtV P a ((g : Int) - 100) b).1 = 1 ∧ (mtV P a ((g : Int) - 100) b).2 = (g' : Int) - 100
    · rw [if_pos c2]
      by_cases c3 : eC P D a ((g : Int) - 100) = 0
      · rw [c3]
        split <;> rfl
      · rw [if_pos ⟨hp.mpr c3, c2.1, hx.mpr ⟨c1, c2.2⟩⟩]
    · rw [if_neg c2, if_neg (fun q => c2 ⟨q.2.1, (hx.mp q.2.2).2⟩)]; rfl
  · rw [if_neg c1, if_neg (fun q => c1 (hx.mp q.2.2).1)]; rfl
theorem ldA_n {P b g' : Nat} (hP : P = 3 ∨ P = 4) {D : Nat → Int → Nat} {ld : Nat → Int64} {o : Int32} (hL : LR P D ld) (hB : ∀ a z, eC P D a z < 2 ^ 63) (hD : ∀ r w, r < rgN P → D r w ≠ 0 → -7 ≤ w ∧ w < 7) (hb1 : 1 ≤ b) (hb2 : b < 2 ^ P - 1) (hg' : g' < 201) (ho : o = -4 ∨ nI b = o) (s : zU) :
    (ldA P ld o (2 ^ P - 2) s).2.2 (201 * b + g') = s.2.2 (201 * b + g') + oN (eC P (dS P D) b ((g' : Int) - 100)) := by
  have hp2 := P2 hP
  rw [ldA_v, ← eC_step hP hb1 hb2 D hD]
  congr 1
  rw [← smL_oN]
  refine smL_congr _ (fun a ha => ?_)
  have e1 : ∀ k, k < 2 ^ P - 2 → (if o = -4 ∨ nI (k + 1) = o then smL (fun i => cT P ld (a + 1) (k + 1) (4 + i) (201 * b + g')) 193 else 0) = oN (if k + 1 = b then sumN (fun i => if (mtV P (a + 1) (((4 + i : Nat) : Int) - 100) (k + 1)).1 = 1 ∧ (mtV P (a + 1) (((4 + i : Nat) : Int) - 100) (k + 1)).2 = (g' : Int) - 100 then eC P D (a + 1) (((4 + i : Nat) : Int) - 100) else 0) 193 else 0) := by
    intro k hk
    have e2 : smL (fun i => cT P ld (a + 1) (k + 1) (4 + i) (201 * b + g')) 193 = oN (if k + 1 = b then sumN (fun i => if (mtV P (a + 1) (((4 + i : Nat) : Int) - 100) (k + 1)).1 = 1 ∧ (mtV P (a + 1) (((4 + i : Nat) : Int) - 100) (k + 1)).2 = (g' : Int) - 100 then eC P D (a + 1) (((4 + i : Nat) : Int) - 100) else 0) 193 else 0) := by
      rw [sumN_mul_if, ← smL_oN]
      exact smL_congr _ (fun i hi => cT_oN hP hL hB (by omega) (by omega) (by omega) (by omega) (by omega) hg')
    by_cases c : k + 1 = b
    · rw [if_pos (by rw [c]; exact ho)]; exact e2
    · rw [if_neg c] at e2 ⊢
      split
      · exact e2
      · rfl
  rw [smL_congr _ e1, smL_oN, sumN_one (k0 := b - 1), if_pos (by omega), if_pos (by omega), show b - 1 + 1 = b by omega]
  · intro k _ hne
    rw [if_neg (by omega)]
theorem eC_le {P : Nat} (hP : P = 3 ∨ P = 4) {D : Nat → Int → Nat} {B : Nat} (h : ∀ r w, D r w ≤ B) (a : Nat) (z : Int) : eC P D a z ≤ 16 * B := by
  have hn := (rg_n hP).1
  have h1 : eC P D a z ≤ rgN P * B := sumN_le (fun r => by split; exact h _ _; exact Nat.zero_le _) _
  exact Nat.le_trans h1 (Nat.mul_le_mul_right B hn)
theorem dD_le {P r0 : Nat} (hP : P = 3 ∨ P = 4) : ∀ i r w, dD P r0 i r w ≤ 16 ^ i
  | 0, r, w => by unfold dD; split <;> decide
  | i + 1, r, w => by
    have hn := (rg_n hP).1
    have h1 : dD P r0 (i + 1) r w ≤ rgN P * 16 ^ i := sumN_le (fun q => by
      unfold tT
      split
      · exact Nat.zero_le _
      · split
        · exact dD_le hP i _ _
        · exact Nat.zero_le _) _
    rw [Nat.pow_succ, Nat.mul_comm]
    exact Nat.le_trans h1 (Nat.mul_le_mul_right _ hn)
theorem eC_63 {P r0 i : Nat} (hP : P = 3 ∨ P = 4) (hi : i ≤ 11) (a : Nat) (z : Int) : eC P (dD P r0 i) a z < 2 ^ 63 := by
  have h := eC_le hP (dD_le (r0 := r0) hP i) a z
  have h2 : 16 ^ i ≤ 16 ^ 11 := Nat.pow_le_pow_right (by decide) hi
  have h3 : 16 * 16 ^ 11 < 2 ^ 63 := by decide
  omega
theorem ldT_n {P r0 i : Nat} (hP : P = 3 ∨ P = 4) (hr : r0 < rgN P) (hi : i ≤ 11) {u : zV} (hL : LR P (dD P r0 i) u.2.2.1) {o : Int32} {b : Nat} (hb1 : 1 ≤ b) (hb2 : b < 2 ^ P - 1) (ho : o = -4 ∨ nI b = o) {g : Nat} (hg : g < 201) : (ldT P o u).2.2.1 (201 * b + g) = oN (eC P (dD P r0 (i + 1)) b ((g : Int) - 100)) := by
  have hp2 := P2 hP
  show zcp _ _ 3216 (201 * b + g) = _
  unfold zcp
  rw [if_pos (by omega), ldA_n hP hL (eC_63 hP hi) (fun r w h1 h2 => dD_b hP h1 hr hi h2) hb1 hb2 hg ho]
  show zfill _ 3216 0 (201 * b + g) + _ = _
  unfold zfill
  rw [if_pos (by omega), Int64.zero_add]
  rfl
theorem ldN_n {P r0 : Nat} (hP : P = 3 ∨ P = 4) (hr : r0 < rgN P) {u : zV} (hL : LR P (dD P r0 0) u.2.2.1) : ∀ i, i ≤ 11 → LR P (dD P r0 i) (ldN P i u).2.2.1
  | 0, _ => hL
  | i + 1, h => fun a g h1 h2 h3 => ldT_n hP hr (by omega) (ldN_n hP hr hL i (by omega)) h1 h2 (Or.inl rfl) h3
theorem good_u3 : ∀ a : Fin 8, cntV (fun g => bg 3 a.val g) 3 = 1 → ∀ r : Fin 6, rgW 3 r.val = a.val → r.val = r0F 3 a.val := by decide
theorem good_u4 : ∀ a : Fin 16, cntV (fun g => bg 4 a.val g) 4 = 1 → ∀ r : Fin 16, rgW 4 r.val = a.val → r.val = r0F 4 a.val := by decide
theorem good_u {P a r : Nat} (hP : P = 3 ∨ P = 4) (ha : a < 2 ^ P) (h : cntV (fun g => bg P a g) P = 1) (hr : r < rgN P) (hw : rgW P r = a) : r = r0F P a := by
  rcases hP with rfl | rfl
  · exact good_u3 ⟨a, ha⟩ h ⟨r, hr⟩ hw
  · exact good_u4 ⟨a, ha⟩ h ⟨r, hr⟩ hw
theorem eC_good {P a : Nat} (hP : P = 3 ∨ P = 4) (ha : a < 2 ^ P) (h : cntV (fun g => bg P a g) P = 1) (D : Nat → Int → Nat) (z : Int) : eC P D a z = if (rgS P (r0F P a) : Int) = z.emod P then D (r0F P a) (z.ediv P) else 0 := by
  obtain ⟨h1, h2, h3, -, -⟩ := r0_of hP ha h
  unfold eC
  rw [sumN_one (k0 := r0F P a), if_pos h1]
  · by_cases c : (rgS P (r0F P a) : Int) = z.emod P
    · rw [if_pos ⟨h2, c⟩, if_pos c]
    · rw [if_neg (fun q => c q.2), if_neg c]
  · intro r hr hne
    exact if_neg (fun q => hne (good_u hP ha h hr q.1))
theorem rd0_n {P first : Nat} (hP : P = 3 ∨ P = 4) (hf : first < 2 ^ P) (hg : cntV (fun g => bg P first g) P = 1) (u : zV) : LR P (dD P (r0F P first) 0) (rd0 P first u).2.2.1 := by
  intro a g h1 h2 h3
  have hp2 := P2 hP
  obtain ⟨b1, b2, b3, b4, b5⟩ := r0_of hP hf hg
  have hs := (rg_b hP b1).2.2.1
  show va_up (zfill u.2.2.1 3216 0) (201 * first + stV P first P 0 + 100) 1 (201 * a + g) = _
  have hz := ed_of hP ((g : Int) - 100)
  by_cases c : a = first
  · subst c
    rw [eC_good hP hf hg]
    unfold dD
    by_cases c2 : g = stV P a P 0 + 100
    · rw [show 201 * a + stV P a P 0 + 100 = 201 * a + g by omega, up_eq]
      have hm := ed_mk hP hs 0
      have e : ((g : Int) - 100) = (rgS P (r0F P a) : Int) + P * 0 := by rw [b3]; omega
      rw [e, if_pos hm.1.symm, hm.2, if_pos ⟨rfl, rfl⟩]; rfl
    · rw [up_ne (by omega)]
      unfold zfill
      rw [if_pos (by omega)]
      by_cases c3 : (rgS P (r0F P a) : Int) = ((g : Int) - 100).emod P
      · rw [if_pos c3, if_neg (fun q => c2 (by rw [q.2, ← c3, b3] at hz; omega))]; rfl
      · rw [if_neg c3]; rfl
  · rw [up_ne (by omega)]
    unfold zfill
    rw [if_pos (by omega)]
    have e0 : eC P (dD P (r0F P first) 0) a ((g : Int) - 100) = 0 := by
      refine sumN_zero _ (fun r hr => ?_)
      by_cases c2 : rgW P r = a ∧ (rgS P r : Int) = ((g : Int) - 100).emod P
      · rw [if_pos c2]
        unfold dD
        exact if_neg (fun q => c (by rw [q.1, b2] at c2; exact c2.1.symm))
      · rw [if_neg c2]
    rw [e0]; rfl
theorem rsW_n {P : Nat} {ld : Nat → Int64} {first : Nat} {z0 d : Int} {f : Nat → Nat} (h : ∀ g, g < 201 → ld (201 * first + g) = oN (f g)) : ∀ k, k ≤ 201 → rsW P ld first z0 d k = oN (sumN (fun g => if ((g : Int) - 100 - z0).ediv P = d then f g else 0) k)
  | 0, _ => rfl
  | k + 1, hk => by
    rw [rsW, sumN, oN_add, rsW_n h k (by omega), h k (by omega)]
    split <;> rfl
/-- what the reference counts -/
theorem rounds_n {P first n : Nat} {d : Int} (hP : P = 3 ∨ P = 4) (hf : first < 2 ^ P) (hg : cntV (fun g => bg P first g) P = 1) (hn1 : 1 ≤ n) (hn2 : n ≤ 12) (hd1 : -3 ≤ d) (hd2 : d ≤ 3) (u : zV) : rsW P (rdU P first n u).2.2.1 first (stV P first P 0 : Nat) d 201 = oN (cnR P first n d) := by
  obtain ⟨b1, b2, b3, b4, b5⟩ := r0_of hP hf hg
  have hs := (rg_b hP b1).2.2.1
  have hl : ∀ g, g < 201 → (rdU P first n u).2.2.1 (201 * first + g) = oN (eC P (dD P (r0F P first) n) first ((g : Int) - 100)) := by
    intro g hg'
    have h := ldT_n (o := nI first) hP b1 (show n - 1 ≤ 11 by omega) (ldN_n hP b1 (rd0_n hP hf hg u) (n - 1) (by omega)) b4 b5 (Or.inr rfl) hg'
    rw [show n - 1 + 1 = n by omega] at h
    exact h
  rw [rsW_n hl 201 (Nat.le_refl _)]
  congr 1
  have hm := ed_mk hP hs d
  have hk0 : ∃ k0 : Nat, (k0 : Int) - 100 = (rgS P (r0F P first) : Int) + P * d ∧ k0 < 201 := by
    refine ⟨((rgS P (r0F P first) : Int) + P * d + 100).toNat, ?_⟩
    rcases hP with rfl | rfl <;> omega
  obtain ⟨k0, hk0, hk1⟩ := hk0
  have hdz : ∀ w : Int, ((P : Int) * w).ediv P = w := fun w => Int.mul_ediv_cancel_left w (by omega)
  rw [sumN_one (k0 := k0), if_pos hk1]
  · rw [hk0, b3, show ((stV P first P 0 : Nat) : Int) + P * d - (stV P first P 0 : Nat) = P * d by omega, hdz, if_pos rfl, ← b3, eC_good hP hf hg, if_pos hm.1.symm, hm.2]
    rfl
  · intro g hg' hne
    by_cases c : ((g : Int) - 100 - (stV P first P 0 : Nat)).ediv P = d
    · rw [if_pos c, eC_good hP hf hg]
      by_cases c2 : (rgS P (r0F P first) : Int) = ((g : Int) - 100).emod P
      · exfalso
        have hz := (ed_of hP ((g : Int) - 100)).1
        rw [← c2] at hz
        rw [show (g : Int) - 100 - (stV P first P 0 : Nat) = P * ((g : Int) - 100).ediv P by rw [← b3]; omega, hdz] at c
        rw [c] at hz
        omega
      · rw [if_neg c2]
    · rw [if_neg c]
set_option maxRecDepth 100000 in
set_option maxHeartbeats 4000000 in
theorem ct_X8_rounds {E : zE} {I : zI} {L : zL} {R : zR} {P : Nat} {f n d : Int32} (hR : zLx R) (hP : P = 3 ∨ P = 4) (hI : I 68 6 = nI P) : zCt E m_X8_rounds zShF [.ref 64, .int f, .int n, .int d] I L R (fun r Sh1 I1 L1 R1 => r = some (.long (if (inV 0 (nI (2 ^ P - 1)) f && (inV 1 12 n && inV (-3) 3 d)) = true then vwV P f.toNatClampNeg n.toNatClampNeg d.toInt else -1)) ∧ Sh1 = zShF ∧ (∃ u, I1 = vI I u ∧ L1 = vL L u) ∧ R1 = R) := by
  have hp2 := P2 hP
  have hbad : ∃ u, I = vI I u ∧ L = vL L u := ⟨vOf I L, (vI_self I L).symm, (vL_self I L).symm⟩
  refine z_met (by decide) [some (.ref 64), some (.int f), some (.int n), some (.int d)] rfl rfl (Nat.le_of_ble_eq_true rfl) (fun X => ?_)
  refine z_aload_n d_X8_rounds_0 rfl ?_
  refine z_iload_n d_X8_rounds_1 rfl ?_
  refine z_cVi d_X8_rounds_2 q_X8_rounds_285 (by first | rfl | assumption) (by omega) ⟨rfl, rfl⟩ (ct_X8_isWord hR hP (by first | assumption | simp [*])) rfl rfl rfl ⟨Nat.zero_le _, Nat.zero_le _⟩ ?_
  refine z_if_eq d_X8_rounds_5 (fun h_5 => ?_) (fun h_5 => ?_)
  · refine z_ldc2 d_X8_rounds_34 l_X8_241 ?_
    exact z_lreturn d_X8_rounds_37 rfl ⟨by
      rw [if_neg]
      first
        | (rw [b0 h_5]; simp; done)
        | (rw [b0 h_17]; simp; done)
        | (rw [b0 h_31]; simp), rfl, hbad, rfl⟩
  · refine z_iload_n d_X8_rounds_8 rfl ?_
    refine z_i2l d_X8_rounds_9 ?_
    refine z_lconst (v := 1) d_X8_rounds_10 (by decide) ?_
    refine z_ldc2 d_X8_rounds_11 l_X8_312 ?_
    refine z_cSi d_X8_rounds_14 q_X8_rounds_92 ⟨rfl, rfl⟩ (ct_X8_in) rfl rfl rfl ⟨Nat.zero_le _, Nat.zero_le _⟩ ?_
    rw [inLc (lo := 1) (hi := 12) (by decide) (by decide)]
    refine z_if_eq d_X8_rounds_17 (fun h_17 => ?_) (fun h_17 => ?_)
    · refine z_ldc2 d_X8_rounds_34 l_X8_241 ?_
      exact z_lreturn d_X8_rounds_37 rfl ⟨by
        rw [if_neg]
        first
          | (rw [b0 h_5]; simp; done)
          | (rw [b0 h_17]; simp; done)
          | (rw [b0 h_31]; simp), rfl, hbad, rfl⟩
    · refine z_iload_n d_X8_rounds_20 rfl ?_
      refine z_i2l d_X8_rounds_21 ?_
      refine z_ldc2 d_X8_rounds_22 l_X8_314 ?_
      refine z_ldc2 d_X8_rounds_25 l_X8_252 ?_
      refine z_cSi d_X8_rounds_28 q_X8_rounds_92 ⟨rfl, rfl⟩ (ct_X8_in) rfl rfl rfl ⟨Nat.zero_le _, Nat.zero_le _⟩ ?_
      rw [inLc (lo := -3) (hi := 3) (by decide) (by decide)]
      refine z_if_ne d_X8_rounds_31 (fun h_31 => ?_) (fun h_31 => ?_)
      · rw [b1 h_5, b1 h_17, b1 h_31, Bool.and_self, Bool.and_self, if_pos rfl]
        obtain ⟨ef, hf⟩ := inV_natn (by omega) (b1 h_5)
        obtain ⟨en, hn1, hn2⟩ := inV_nat (n := 12) (by decide) (b1 h_17)
        have hd := inV_int (b1 h_31)
        have hd3 : (-3 : Int32).toInt = -3 := rfl
        have hd4 : (3 : Int32).toInt = 3 := rfl
        have ed : d = iI d.toInt := (Int32.ofInt_toInt d).symm
        generalize f.toNatClampNeg = f' at ef hf ⊢
        generalize n.toNatClampNeg = n' at en hn1 hn2 ⊢
        generalize d.toInt = d' at ed hd ⊢
        subst ef
        subst en
        subst ed
        unfold vwV
        refine z_aload_n d_X8_rounds_38 rfl ?_
        refine z_iload_n d_X8_rounds_39 rfl ?_
        refine z_cVi d_X8_rounds_40 q_X8_rounds_290 (by first | rfl | assumption) (by omega) ⟨rfl, rfl⟩ (ct_X8_isGood hR hP hI (by omega)) rfl rfl rfl ⟨Nat.zero_le _, Nat.zero_le _⟩ ?_
        refine z_if_eq d_X8_rounds_43 (fun h_43 => ?_) (fun h_43 => ?_)
        · have hg := b0 h_43
          rw [decide_eq_false_iff_not] at hg
          refine z_lconst (v := 0) d_X8_rounds_56 (by decide) ?_
          exact z_lreturn d_X8_rounds_57 rfl ⟨by rw [if_neg hg], rfl, hbad, rfl⟩
        · have hg := of_decide_eq_true (b1 h_43)
          rw [if_pos hg]
          refine z_aload_n d_X8_rounds_46 rfl ?_
          refine z_iload_n d_X8_rounds_47 rfl ?_
          refine z_iload_n d_X8_rounds_48 rfl ?_
          refine z_iload_n d_X8_rounds_49 rfl ?_
          refine z_cVl d_X8_rounds_50 q_X8_rounds_308 (by first | rfl | assumption) (by omega) ⟨rfl, rfl⟩ (ct_X8_roundsOf hR hP hI (by omega) hg hn1 (by omega) (by omega) (by omega)) rfl rfl rfl ⟨Nat.zero_le _, Nat.zero_le _⟩ ?_
          refine z_goto d_X8_rounds_53 ?_
          exact z_lreturn d_X8_rounds_57 rfl ⟨by rw [rounds_n hP (by omega) hg hn1 hn2 (by omega) (by omega)], rfl, ⟨_, rfl, rfl⟩, rfl⟩
      · refine z_ldc2 d_X8_rounds_34 l_X8_241 ?_
        exact z_lreturn d_X8_rounds_37 rfl ⟨by
          rw [if_neg]
          first
            | (rw [b0 h_5]; simp; done)
            | (rw [b0 h_17]; simp; done)
            | (rw [b0 h_31]; simp), rfl, hbad, rfl⟩
def fwS (P n : Nat) (d : Int) : Nat → Nat
  | 0 => 0
  | k + 1 => fwS P n d k + (if cntV (fun g => bg P (k + 1) g) P = 1 then cnR P (k + 1) n d else 0)
set_option maxRecDepth 100000 in
theorem fs3 : (fwS 3 1 1 6 = 0 ∧ fwS 3 2 1 6 = 0 ∧ fwS 3 3 1 6 = 3) ∧ (fwS 3 1 (-1) 6 = 0 ∧ fwS 3 2 (-1) 6 = 0 ∧ fwS 3 3 (-1) 6 = 3) ∧ fwS 3 1 0 6 = 6 := by decide +kernel
set_option maxRecDepth 100000 in
theorem fs4 : (fwS 4 1 1 14 = 0 ∧ fwS 4 2 1 14 = 0 ∧ fwS 4 3 1 14 = 24) ∧ (fwS 4 1 (-1) 14 = 0 ∧ fwS 4 2 (-1) 14 = 0 ∧ fwS 4 3 (-1) 14 = 24) ∧ fwS 4 1 0 14 = 12 := by decide +kernel
theorem fs_z {P n : Nat} {d : Int} (hP : P = 3 ∨ P = 4) (hd1 : -1 ≤ d) (hd2 : d ≤ 1) (hn1 : 1 ≤ n) (hn : n < fwN d) : fwS P n d (2 ^ P - 2) = 0 := by
  unfold fwN at hn
  rcases (show d = -1 ∨ d = 0 ∨ d = 1 by omega) with rfl | rfl | rfl
  · have hn3 : n < 3 := by simpa using hn
    rcases (show n = 1 ∨ n = 2 by omega) with rfl | rfl <;> rcases hP with rfl | rfl
    · exact fs3.2.1.1
    · exact fs4.2.1.1
    · exact fs3.2.1.2.1
    · exact fs4.2.1.2.1
  · exfalso
    have hn3 : n < 1 := by simpa using hn
    omega
  · have hn3 : n < 3 := by simpa using hn
    rcases (show n = 1 ∨ n = 2 by omega) with rfl | rfl <;> rcases hP with rfl | rfl
    · exact fs3.1.1
    · exact fs4.1.1
    · exact fs3.1.2.1
    · exact fs4.1.2.1
theorem fs_p {P : Nat} {d : Int} (hP : P = 3 ∨ P = 4) (hd1 : -1 ≤ d) (hd2 : d ≤ 1) : ¬ oN (fwS P (fwN d) d (2 ^ P - 2)) = 0 := by
  rcases (show d = -1 ∨ d = 0 ∨ d = 1 by omega) with rfl | rfl | rfl <;> rcases hP with rfl | rfl
  · rw [show fwS 3 (fwN (-1)) (-1) (2 ^ 3 - 2) = 3 from fs3.2.1.2.2]; decide
  · rw [show fwS 4 (fwN (-1)) (-1) (2 ^ 4 - 2) = 24 from fs4.2.1.2.2]; decide
  · rw [show fwS 3 (fwN 0) 0 (2 ^ 3 - 2) = 6 from fs3.2.2]; decide
  · rw [show fwS 4 (fwN 0) 0 (2 ^ 4 - 2) = 12 from fs4.2.2]; decide
  · rw [show fwS 3 (fwN 1) 1 (2 ^ 3 - 2) = 3 from fs3.1.2.2]; decide
  · rw [show fwS 4 (fwN 1) 1 (2 ^ 4 - 2) = 24 from fs4.1.2.2]; decide
theorem lg_eq (x y : Int64) : lg_cmp x y = 0 ↔ x = y := by
  unfold lg_cmp
  split
  · next h => exact ⟨fun q => absurd q (by decide), fun q => by subst q; exact absurd h (Int64.lt_irrefl)⟩
  · next h =>
    split
    · next h2 => exact ⟨fun _ => h2, fun _ => rfl⟩
    · next h2 => exact ⟨fun q => absurd q (by decide), fun q => absurd q h2⟩
set_option maxRecDepth 100000 in
set_option maxHeartbeats 4000000 in
theorem ct_X8_fewest {E : zE} {I : zI} {L : zL} {R : zR} {P : Nat} {d : Int32} (hR : zLx R) (hP : P = 3 ∨ P = 4) (hI : I 68 6 = nI P) : zCt E m_X8_fewest zShF [.ref 64, .int d] I L R (fun r Sh1 I1 L1 R1 => r = some (.int (if inV (-1) 1 d = true then nI (fwN d.toInt) else -1)) ∧ Sh1 = zShF ∧ (∃ u, I1 = vI I u ∧ L1 = vL L u) ∧ R1 = R) := by
  have hp2 := P2 hP
  have hbad : ∃ u, I = vI I u ∧ L = vL L u := ⟨vOf I L, (vI_self I L).symm, (vL_self I L).symm⟩
  refine z_met (by decide) [some (.ref 64), some (.int d), none, none, none, none] rfl rfl (Nat.le_of_ble_eq_true rfl) (fun X => ?_)
  refine z_iload_n d_X8_fewest_0 rfl ?_
  refine z_i2l d_X8_fewest_1 ?_
  refine z_ldc2 d_X8_fewest_2 l_X8_241 ?_
  refine z_lconst (v := 1) d_X8_fewest_5 (by decide) ?_
  refine z_cSi d_X8_fewest_6 q_X8_fewest_92 ⟨rfl, rfl⟩ (ct_X8_in) rfl rfl rfl ⟨Nat.zero_le _, Nat.zero_le _⟩ ?_
  rw [inLc (lo := -1) (hi := 1) (by decide) (by decide)]
  refine z_if_ne d_X8_fewest_9 (fun h_9 => ?_) (fun h_9 => ?_)
  · rw [if_pos (b1 h_9)]
    have hd := inV_int (b1 h_9)
    have hd3 : (-1 : Int32).toInt = -1 := rfl
    have hd4 : (1 : Int32).toInt = 1 := rfl
    have ed : d = iI d.toInt := (Int32.ofInt_toInt d).symm
    generalize d.toInt = d' at ed hd ⊢
    subst ed
    have hfb := fwN_b d'
    have hIv : ∀ v, vI I v 68 6 = nI P := fun v => by rw [vI_ne (by decide)]; exact hI
    refine z_iconst d_X8_fewest_14 ki_0 ?_
    refine z_istore2 d_X8_fewest_15 rfl ?_
    refine z_lconst (v := 0) d_X8_fewest_16 (by decide) ?_
    refine z_lstore3 d_X8_fewest_17 rfl ?_
    have loop : ∀ (Qs : State → Prop), (∀ (u : zV) (o3 o4 o5 : Option Value), zZ E m_X8_fewest X Qs zShF 0 0 72 [some (.ref 64), some (.int (iI d')), some (.int (nI (fwN d'))), o3, o4, o5] [] (vI I u) (vL L u) R) → ∀ i, i ≤ fwN d' → ∀ (u : zV) (fo : Int64) (o5 : Option Value), (i < fwN d' → fo = 0) → (i = fwN d' → ¬ fo = 0) → zZ E m_X8_fewest X Qs zShF 0 0 18 [some (.ref 64), some (.int (iI d')), some (.int (nI i)), some (.long fo), none, o5] [] (vI I u) (vL L u) R := by
      intro Qs hx
      refine up_rec (fun i hi' ih u fo o5 hf0 hf1 => ?_)
      refine z_lload_n d_X8_fewest_18 rfl ?_
      refine z_lconst (v := 0) d_X8_fewest_19 (by decide) ?_
      refine z_lcmp d_X8_fewest_20 ?_
      refine z_if_ne d_X8_fewest_21 (fun h_21 => ?_) (fun h_21 => ?_)
      · have hne : ¬ fo = 0 := fun q => h_21 ((lg_eq _ _).mpr q)
        have e : i = fwN d' := by
          rcases Nat.lt_or_ge i (fwN d') with q | q
          · exact absurd (hf0 q) hne
          · omega
        subst e
        exact hx u _ _ _
      · have hz : fo = 0 := (lg_eq _ _).mp h_21
        have hlt : i < fwN d' := by
          rcases Nat.lt_or_ge i (fwN d') with q | q
          · exact q
          · exact absurd hz (hf1 (by omega))
        subst hz
        refine z_iinc2 d_X8_fewest_24 ki_1 rfl ?_
        rw [nI_1]
        refine z_iconst d_X8_fewest_27 ki_1 ?_
        refine z_istore5 d_X8_fewest_28 rfl ?_
        have loop2 : ∀ (Qs : State → Prop), (∀ (u : zV) (o5 : Option Value), zZ E m_X8_fewest X Qs zShF 0 0 69 [some (.ref 64), some (.int (iI d')), some (.int (nI (i + 1))), some (.long (oN (fwS P (i + 1) d' (2 ^ P - 2)))), none, o5] [] (vI I u) (vL L u) R) → ∀ k, k ≤ 2 ^ P - 2 → ∀ (u : zV), zZ E m_X8_fewest X Qs zShF 0 0 30 [some (.ref 64), some (.int (iI d')), some (.int (nI (i + 1))), some (.long (oN (fwS P (i + 1) d' k))), none, some (.int (nI (k + 1)))] [] (vI I u) (vL L u) R := by
          intro Qs hx2
          refine up_rec (fun k hk ih2 u => ?_)
          refine z_iload d_X8_fewest_30 rfl ?_
          refine z_aload_n d_X8_fewest_32 rfl ?_
          refine z_cVi d_X8_fewest_33 q_X8_fewest_267 (by first | rfl | assumption) (by omega) ⟨rfl, rfl⟩ (ct_X8_full_ hR hP (hIv _)) rfl rfl rfl ⟨Nat.zero_le _, Nat.zero_le _⟩ ?_
          refine z_icmp_ge d_X8_fewest_36 (fun h_36 => ?_) (fun h_36 => ?_)
          · have e : 2 ^ P - 1 ≤ k + 1 := (nI_leI (a := 2 ^ P - 1) (b := k + 1) (by omega) (by omega)).mp h_36
            obtain rfl : k = 2 ^ P - 2 := by omega
            exact hx2 u _
          · have hkk : k < 2 ^ P - 2 := by rcases Nat.lt_or_ge k (2 ^ P - 2) with q | q; exact q; exact absurd (nI_le (a := 2 ^ P - 1) (b := k + 1) (by omega) (by omega)) h_36
            refine z_lload_n d_X8_fewest_39 rfl ?_
            refine z_aload_n d_X8_fewest_40 rfl ?_
            refine z_iload d_X8_fewest_41 rfl ?_
            refine z_cVi d_X8_fewest_43 q_X8_fewest_290 (by first | rfl | assumption) (by omega) ⟨rfl, rfl⟩ (ct_X8_isGood hR hP (hIv _) (by omega)) rfl rfl rfl ⟨Nat.zero_le _, Nat.zero_le _⟩ ?_
            refine z_if_eq d_X8_fewest_46 (fun h_46 => ?_) (fun h_46 => ?_)
            · have hg := b0 h_46
              rw [decide_eq_false_iff_not] at hg
              refine z_lconst (v := 0) d_X8_fewest_60 (by decide) ?_
              refine z_ladd d_X8_fewest_61 ?_
              refine z_lstore3 d_X8_fewest_62 rfl ?_
              refine z_iinc5 d_X8_fewest_63 ki_1 rfl ?_
              refine z_goto d_X8_fewest_66 ?_
              rw [nI_1, Int64.add_zero]
              have h := ih2 hkk u
              rw [fwS, if_neg hg, Nat.add_zero] at h
              exact h
            · have hg := of_decide_eq_true (b1 h_46)
              refine z_aload_n d_X8_fewest_49 rfl ?_
              refine z_iload d_X8_fewest_50 rfl ?_
              refine z_iload_n d_X8_fewest_52 rfl ?_
              refine z_iload_n d_X8_fewest_53 rfl ?_
              refine z_cVl d_X8_fewest_54 q_X8_fewest_308 (by first | rfl | assumption) (by omega) ⟨rfl, rfl⟩ (ct_X8_roundsOf hR hP (hIv _) (show k + 1 < 2 ^ P by omega) hg (show 1 ≤ i + 1 by omega) (by omega) (by omega) (by omega)) rfl rfl rfl ⟨Nat.zero_le _, Nat.zero_le _⟩ ?_
              rw [rounds_n hP (show k + 1 < 2 ^ P by omega) hg (show 1 ≤ i + 1 by omega) (by omega) (by omega) (by omega), vI_vI, vL_vL]
              refine z_goto d_X8_fewest_57 ?_
              refine z_ladd d_X8_fewest_61 ?_
              refine z_lstore3 d_X8_fewest_62 rfl ?_
              refine z_iinc5 d_X8_fewest_63 ki_1 rfl ?_
              refine z_goto d_X8_fewest_66 ?_
              rw [nI_1, ← oN_add]
              have h := ih2 hkk (rdU P (k + 1) (i + 1) (vOf (vI I u) (vL L u)))
              rw [fwS, if_pos hg] at h
              exact h
        refine loop2 _ (fun u o5 => ?_) 0 (Nat.zero_le _) u
        refine z_goto d_X8_fewest_69 ?_
        refine ih hlt u _ _ (fun q => ?_) (fun q => ?_)
        · rw [fs_z hP (by omega) (by omega) (by omega) q]; rfl
        · rw [q]; exact fs_p hP (by omega) (by omega)
    refine z_mem (I' := vI I (vOf I L)) (L' := vL L (vOf I L)) (vI_self I L).symm (vL_self I L).symm rfl (loop _ (fun u o3 o4 o5 => ?_) 0 (Nat.zero_le _) (vOf I L) 0 none (fun _ => rfl) (fun q => absurd q (by omega)))
    refine z_iload_n d_X8_fewest_72 rfl ?_
    exact z_ireturn d_X8_fewest_73 rfl ⟨rfl, rfl, ⟨u, rfl, rfl⟩, rfl⟩
  · refine z_iconst d_X8_fewest_12 ki_m1 ?_
    exact z_ireturn d_X8_fewest_13 rfl ⟨by rw [b0 h_9]; rfl, rfl, hbad, rfl⟩
