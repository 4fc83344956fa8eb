theorem lst_sh (P a : Nat) (w : Int) : ∀ (n : Nat) (z : Int), lstL P a n (z + P * w) = lstL P a n z + P * w
  | 0, z => rfl
  | n + 1, z => by
    unfold lstL
    rw [show z + P * w + 1 = z + 1 + P * w by omega, hi_sh, lst_sh P a w n (z + 1)]
    split <;> rfl
theorem frS_sh (P b : Nat) (s w : Int) : ∀ k : Nat, frS P b (s + P * w) k = ((frS P b s k).1, (frS P b s k).2 + P * w)
  | 0 => rfl
  | k + 1 => by
    unfold frS
    rw [show s + P * w + (k : Int) = s + k + P * w by omega, hi_sh, show s + k + P * w - 1 = s + k - 1 + P * w by omega, hi_sh, frS_sh P b s w k]
    split <;> rfl
theorem farV_sh (P a b : Nat) (s w : Int) : (farV P a (s + P * w) b).1 = (farV P a s b).1 ∧ (farV P a (s + P * w) b).2 = (farV P a s b).2.map (fun f => f + P * w) := by
  have e : (lstL P a P (s + P * w) - (s + P * w) + 1).toNat = (lstL P a P s - s + 1).toNat := by rw [lst_sh]; congr 1; omega
  unfold farV
  rw [e, frS_sh]
  generalize frS P b s (lstL P a P s - s + 1).toNat = t
  show (if t.1 = 1 then _ else _ : Nat × Option Int).1 = _ ∧ (if t.1 = 1 then _ else _ : Nat × Option Int).2 = _
  by_cases c : t.1 = 1
  · rw [if_pos c, if_pos c]
    by_cases c2 : b = 2 ^ P - 1
    · rw [if_pos c2, if_pos c2]; exact ⟨rfl, rfl⟩
    · rw [if_neg c2, if_neg c2]
      refine ⟨rfl, ?_⟩
      show some (fstL P b P (t.2 + P * w)) = some (fstL P b P t.2 + P * w)
      rw [fst_sh]
  · rw [if_neg c, if_neg c]
    by_cases c2 : t.1 = 0
    · rw [if_pos c2]; exact ⟨rfl, rfl⟩
    · rw [if_neg c2]; exact ⟨rfl, rfl⟩
theorem bg_sh (P a : Nat) (z w : Int) : bg P a (z + P * w) = bg P a z := by
  unfold bg
  rw [hi_sh, show z + P * w - 1 = z - 1 + P * w by omega, hi_sh]
theorem wg_sh (P a b : Nat) (s w : Int) : wgV P a (s + P * w) b = wgV P a s b := by
  unfold wgV
  rw [(mtV_sh P a b s w).1]
/-- a PACKET's way, the two ways, wherever it is -/
theorem fm_all {P a b : Nat} {s : Int} (hP : P = 3 ∨ P = 4) (ha : a < 2 ^ P - 1) (hb : b < 2 ^ P) (hg : bg P a s = true) : (farV P a s b).1 = wgV P a s b ∧ ((farV P a s b).1 = 0 → (farV P a s b).2 = some (mtV P a s b).2 ∧ bg P b (mtV P a s b).2 = true) := by
  have e := ed_of hP s
  have e0 : ((s.emod P).toNat : Int) = s.emod P := Int.toNat_of_nonneg e.2.1
  have es : s = ((s.emod P).toNat : Int) + P * s.ediv P := by rw [e0]; exact e.1
  generalize (s.emod P).toNat = s0 at es e0
  generalize s.ediv P = w at es
  have hs0 : s0 < P := by have := e.2.2; omega
  clear e e0
  subst es
  rw [bg_sh] at hg
  obtain ⟨h1, h2⟩ := fm_ok hP ha hb hs0 hg
  obtain ⟨f1, f2⟩ := farV_sh P a b (s0 : Nat) w
  rw [f1, f2, wg_sh]
  refine ⟨h1, fun h0 => ?_⟩
  obtain ⟨g1, g2⟩ := h2 h0
  have hbf : (mtV P a (s0 : Nat) b).1 = 1 := (wg0 (by rw [← h1]; exact h0)).2
  have m2 := (mtV_sh P a b (s0 : Nat) w).2 (by omega)
  rw [g1, m2, bg_sh]
  exact ⟨rfl, g2⟩
/-- the clock, both ways -/
theorem ck_all {P n : Nat} {w : Nat → Nat} (hP : P = 3 ∨ P = 4) (hn : 1 ≤ n) (hw : ∀ j, j < n → w j < 2 ^ P) (hg : cntV (fun g => bg P (w 0) g) P = 1) (x0 y0 : Int32) : ∀ k, k ≤ n → (grS P w n (stV P (w 0) P 0 : Nat) 0 0 k).1 = (gcS P w n (stV P (w 0) P 0 : Nat) x0 y0 k).1 ∧ ((gcS P w n (stV P (w 0) P 0 : Nat) x0 y0 k).1 = 0 → (grS P w n (stV P (w 0) P 0 : Nat) 0 0 k).2.2.1 = (gcS P w n (stV P (w 0) P 0 : Nat) x0 y0 k).2.1 ∧ bg P (w (k % n)) (gcS P w n (stV P (w 0) P 0 : Nat) x0 y0 k).2.1 = true ∧ w (k % n) < 2 ^ P - 1) ∧ ((gcS P w n (stV P (w 0) P 0 : Nat) x0 y0 k).1 ≠ 0 → (grS P w n (stV P (w 0) P 0 : Nat) 0 0 k).2.1 = nI (gcS P w n (stV P (w 0) P 0 : Nat) x0 y0 k).2.2.1)
  | 0, _ => by
    have hgo := good_of hP (hw 0 (by omega)) hg
    refine ⟨rfl, fun _ => ⟨rfl, ?_, ?_⟩, fun q => absurd rfl q⟩
    · rw [Nat.zero_mod]; exact (st_of hP (hw 0 (by omega)) hgo.2).2
    · rw [Nat.zero_mod]; exact hgo.1
  | k + 1, hk => by
    obtain ⟨h1, h2, h3⟩ := ck_all hP hn hw hg x0 y0 k (by omega)
    have hix : (if k + 1 < n then k + 1 else 0) = (k + 1) % n := by
      by_cases c : k + 1 < n
      · rw [if_pos c, Nat.mod_eq_of_lt c]
      · rw [if_neg c, show k + 1 = n by omega, Nat.mod_self]
    have hnx : (k + 1) % n < n := Nat.mod_lt _ (by omega)
    rw [grS, gcS, hix]
    by_cases c : (gcS P w n (stV P (w 0) P 0 : Nat) x0 y0 k).1 = 0
    · obtain ⟨p1, p2, p3⟩ := h2 c
      rw [if_pos (h1.trans c), if_pos c, p1]
      rw [Nat.mod_eq_of_lt (show k < n by omega)] at p2 p3
      obtain ⟨f1, f2⟩ := fm_all (b := w ((k + 1) % n)) hP p3 (hw _ hnx) p2
      refine ⟨f1, fun h0 => ?_, fun _ => rfl⟩
      have h0' : wgV P (w k) (gcS P w n (stV P (w 0) P 0 : Nat) x0 y0 k).2.1 (w ((k + 1) % n)) = 0 := h0
      obtain ⟨g1, g2⟩ := f2 (f1.trans h0')
      have hnf := (wg0 h0').1
      have := hw _ hnx
      show (Option.getD _ _) = (if _ then _ else _) ∧ bg P _ (if _ then _ else _) = true ∧ _
      rw [g1, if_pos h0']
      exact ⟨rfl, g2, by omega⟩
    · rw [if_neg (fun q => c (h1.symm.trans q)), if_neg c]
      exact ⟨h1, fun q => absurd q c, h3⟩
theorem ck_eq {P n : Nat} {w : Nat → Nat} {x : Int32} (hP : P = 3 ∨ P = 4) (hn : 1 ≤ n) (hw : ∀ j, j < n → w j < 2 ^ P) (hg : cntV (fun g => bg P (w 0) g) P = 1) (x0 y0 : Int32) : ckR P w n x0 y0 x = ckC P w n x := by
  obtain ⟨h1, h2, h3⟩ := ck_all hP hn hw hg x0 y0 n (Nat.le_refl _)
  unfold ckR ckC
  by_cases c : (gcS P w n (stV P (w 0) P 0 : Nat) x0 y0 n).1 = 0
  · have c' := h1.trans c
    rw [if_pos c, if_pos c', if_pos c', c', (h2 c).1]
    by_cases q0 : x = 0
    · rw [if_pos q0, if_pos q0]
    · rw [if_neg q0, if_neg q0]
      by_cases q1 : x = 1
      · rw [if_pos q1, if_pos q1]; rfl
      · rw [if_neg q1, if_neg q1, Int32.add_comm]
  · have c' : ¬ (grS P w n (stV P (w 0) P 0 : Nat) 0 0 n).1 = 0 := fun q => c (h1.symm.trans q)
    rw [if_neg c, if_neg c', if_neg c', h1, h3 c]
theorem pc_ok {v h r c : Int32} : pcO v h r c = picOk v h r c := by
  unfold pcO picOk
  by_cases q : (inV 1 3 v && inV 1 3 h) = true
  · have q2 := q
    simp only [Bool.and_eq_true] at q2
    obtain ⟨ev, hv1, hv3⟩ := inV_nat (n := 3) (by decide) q2.1
    obtain ⟨eh, hh1, hh3⟩ := inV_nat (n := 3) (by decide) q2.2
    generalize v.toNatClampNeg = v' at ev hv1 hv3
    generalize h.toNatClampNeg = h' at eh hh1 hh3
    subst ev
    subst eh
    rw [q, Bool.true_and, Bool.true_and, hi6 hv1 hv3, wi8 hh1 hh3, (hw1 hv1 hv3).1, (hw1 hh1 hh3).2.1, bin6 hv1 hv3, bin8 hh1 hh3, ← hv6 hv1 hv3]
    have g1 := hw1 hv1 hv3
    have g2 := hw1 hh1 hh3
    have g3 := (hi6b hv1 hv3).1
    have g4 := (wi8b hh1 hh3).1
    generalize (6 + v' - 1) / v' = H at g1 g3 ⊢
    generalize (8 + h' - 1) / h' = W at g2 g4 ⊢
    refine bool_eq ?_
    simp only [Bool.and_eq_true, inV_iff, Bool.not_eq_true', decide_eq_false_iff_not, decide_eq_true_eq, t_lt, t_le, t_0]
    rw [nI_toInt (by omega), nI_toInt (by omega), nI_toInt (by omega), nI_toInt (by omega)]
    omega
  · rw [b_f q, Bool.false_and, Bool.false_and]
/-- the reference's picture is the class's -/
theorem sh_mk {I I1 : zI} {L : zL} {R : zR} (hr : Rel I L R) (h68 : I1 68 = I 68) (h70 : I1 70 = I 70) {v h : Nat} (hv1 : 1 ≤ v) (hv3 : v ≤ 3) (hh1 : 1 ≤ h) (hh3 : h ≤ 3) (old : zQ) (f0 : Nat → Int32) :
    (shS I1 v h true (I1 68 3) (cpQ (qOf I L 16) old)).2 = (picV (I 4 4) (I 4 5) (hdQ (I 4 0) (I 4 2) (I 4 3) (I 6) true) v h ((8 + h - 1) / h) (6 / v) (f0, shQ (qOf I L 16) old)).2 ∧ qB (I 4 0) (I 6) (picV (I 4 4) (I 4 5) (hdQ (I 4 0) (I 4 2) (I 4 3) (I 6) true) v h ((8 + h - 1) / h) (6 / v) (f0, shQ (qOf I L 16) old)).2 ∧ ∀ r c, r < 6 / v → c < (8 + h - 1) / h → (shS I1 v h true (I1 68 3) (cpQ (qOf I L 16) old)).1 (r * ((8 + h - 1) / h) + c) = (picV (I 4 4) (I 4 5) (hdQ (I 4 0) (I 4 2) (I 4 3) (I 6) true) v h ((8 + h - 1) / h) (6 / v) (f0, shQ (qOf I L 16) old)).1 (r * 8 + c) ∧ 0 ≤ ((picV (I 4 4) (I 4 5) (hdQ (I 4 0) (I 4 2) (I 4 3) (I 6) true) v h ((8 + h - 1) / h) (6 / v) (f0, shQ (qOf I L 16) old)).1 (r * 8 + c)).toInt ∧ ((picV (I 4 4) (I 4 5) (hdQ (I 4 0) (I 4 2) (I 4 3) (I 6) true) v h ((8 + h - 1) / h) (6 / v) (f0, shQ (qOf I L 16) old)).1 (r * 8 + c)).toInt ≤ 255 := by
  have hf : ∀ q, qB (I 4 0) (I 6) q → rhQ (I 4 0) (I 4 2) (I 70) true (I 4 3) q = hdQ (I 4 0) (I 4 2) (I 4 3) (I 6) true q ∧ qB (I 4 0) (I 6) (hdQ (I 4 0) (I 4 2) (I 4 3) (I 6) true q) := fun q hq => hd_eq hr.cap.1 hr.cap.2 hr.dr hr.sm.1 hr.sm.2 (fun j hj => (hr.trap hj).1) (fun j hj => (hr.trap hj).2.2) hq
  unfold shS
  rw [h68, h70, hr.r (show 0 < 7 by decide), hr.r (show 2 < 7 by decide), hr.r (show 3 < 7 by decide), hr.r (show 4 < 7 by decide), hr.r (show 5 < 7 by decide), sh_cp, hv6 hv1 hv3]
  obtain ⟨a1, a2, a3⟩ := pic_eq (g := I 4 4) (by' := I 4 5) (v := v) hf hr.cap.2 hr.by'.1 hh1 hh3 (s := (f0, shQ (qOf I L 16) old)) (s' := (I1 78, shQ (qOf I L 16) old)) rfl (sh_b old hr.cap.1 hr.b) (6 / v)
  refine ⟨a1, a2, fun r c h1 h2 => ?_⟩
  obtain ⟨b1, x, x1, x2, x3⟩ := a3 r c h1 h2
  refine ⟨b1, ?_⟩
  rw [x3]
  exact val_b (by have := hr.gn; omega) hr.gn.2 hr.by'.1 hr.by'.2 x1 x2
theorem su_mk {I I1 : zI} {L : zL} {R : zR} (hr : Rel I L R) (h68 : I1 68 = I 68) {v h : Nat} (hv1 : 1 ≤ v) (hv3 : v ≤ 3) (hh1 : 1 ≤ h) (hh3 : h ≤ 3) (old : zQ) (f0 : Nat → Int32) :
    ∀ r c, r < 6 / v → c < (8 + h - 1) / h → (shS I1 v h false 0 (cpQ (qOf I L 16) old)).1 (r * ((8 + h - 1) / h) + c) = (picV (I 4 4) (I 4 5) (hdQ (I 4 0) (I 4 2) (I 4 3) (I 6) false) v h ((8 + h - 1) / h) (6 / v) (f0, shQ (qOf I L 16) old)).1 (r * 8 + c) ∧ 0 ≤ ((picV (I 4 4) (I 4 5) (hdQ (I 4 0) (I 4 2) (I 4 3) (I 6) false) v h ((8 + h - 1) / h) (6 / v) (f0, shQ (qOf I L 16) old)).1 (r * 8 + c)).toInt ∧ ((picV (I 4 4) (I 4 5) (hdQ (I 4 0) (I 4 2) (I 4 3) (I 6) false) v h ((8 + h - 1) / h) (6 / v) (f0, shQ (qOf I L 16) old)).1 (r * 8 + c)).toInt ≤ 255 := by
  have hf : ∀ q, qB (I 4 0) (I 6) q → rhQ (I 4 0) (I 4 2) (I1 70) false 0 q = hdQ (I 4 0) (I 4 2) (I 4 3) (I 6) false q ∧ qB (I 4 0) (I 6) (hdQ (I 4 0) (I 4 2) (I 4 3) (I 6) false q) := fun q hq => hu_eq hr.cap.1 hr.cap.2 hr.dr hq
  unfold shS
  rw [h68, hr.r (show 0 < 7 by decide), hr.r (show 2 < 7 by decide), hr.r (show 4 < 7 by decide), hr.r (show 5 < 7 by decide), sh_cp, hv6 hv1 hv3]
  obtain ⟨a1, a2, a3⟩ := pic_eq (g := I 4 4) (by' := I 4 5) (v := v) hf hr.cap.2 hr.by'.1 hh1 hh3 (s := (f0, shQ (qOf I L 16) old)) (s' := (I1 78, shQ (qOf I L 16) old)) rfl (sh_b old hr.cap.1 hr.b) (6 / v)
  intro r c h1 h2
  obtain ⟨b1, x, x1, x2, x3⟩ := a3 r c h1 h2
  refine ⟨b1, ?_⟩
  rw [x3]
  exact val_b (by have := hr.gn; omega) hr.gn.2 hr.by'.1 hr.by'.2 x1 x2
theorem frK (I : zI) (L : zL) (v h : Nat) (s : zS) : frM I L (kI I v h s) (kL L s) := ⟨fun k hk => kI_ne (by omega) (by omega) (by omega), fun k h1 h2 => kI_ne (by omega) (by omega) (by omega), ⟨kI_64 (by decide) (by decide), kI_64 (by decide) (by decide), kI_64 (by decide) (by decide)⟩, fun a ha => kI_65 ha, fun k h1 h2 => kI_ne (by omega) (by omega) (by omega), kI_ne (by decide) (by decide) (by decide), fun k h1 h2 => kI_ne (by omega) (by omega) (by omega), fun k hk => kL_ne (by omega), fun a ha => kL_66 ha⟩
/-- the class's scratch -/
theorem frC {I J : zI} {L M : zL} (hI : ∀ k, (k < 23 ∨ 45 < k) → J k = I k) (hL : ∀ k, k = 16 ∨ 46 ≤ k → M k = L k) : frM I L J M := ⟨fun k hk => hI k (by omega), fun k h1 h2 => hI k (by omega), ⟨by rw [hI 64 (by decide)], by rw [hI 64 (by decide)], by rw [hI 64 (by decide)]⟩, fun a _ => by rw [hI 65 (by decide)], fun k h1 h2 => hI k (by omega), hI 77 (by decide), fun k h1 h2 => hI k (by omega), fun k hk => hL k (by omega), fun a _ => by rw [hL 66 (by decide)]⟩
theorem sR_fr {I J : zI} {L M : zL} {q : zQ} (f : frM I L J M) (h : sR I L 0 q) : sR J M 0 q := sR_c h (fun a _ h2 => f.2.2.2.1 a (by omega)) (fun a _ h2 => f.2.2.2.2.2.2.2.2 a (by omega))
section ZSTEP7
variable {E : zE} {I : zI} {L : zL} {R : zR}
theorem pI_out {q v h k : Nat} {s : zS} (h1 : k < q ∨ q + 6 < k) : pI (pN I q v h) q s k = I k := by rw [pI_ne (by omega), pN_ne (by omega)]
theorem st_picture (h : Rel I L R) {v hh r c : Int32} : zAi E m_X7_picture m_X8_picture [.int v, .int hh, .int r, .int c] I L R Rel := by
  have hx := ct_X7_picture (E := E) (I := I) (L := L) (v := v) (h := hh) (r := r) (c := c) h.rf
  by_cases q : picOk v hh r c = true
  · rw [if_pos q, if_pos q, if_pos q] at hx
    have q2 : (inV 1 3 v && inV 1 3 hh) = true := by unfold picOk at q; rw [Bool.and_eq_true] at q; exact q.1
    have q3 := q2
    simp only [Bool.and_eq_true] at q3
    obtain ⟨ev, hv1, hv3⟩ := inV_nat (n := 3) (by decide) q3.1
    obtain ⟨eh, hh1, hh3⟩ := inV_nat (n := 3) (by decide) q3.2
    have qo := pc_ok.trans q
    generalize v.toNatClampNeg = v' at *
    generalize hh.toNatClampNeg = h' at *
    subst ev
    subst eh
    generalize hJ : pI (pN I 23 v' h') 23 (mkS I L 23 16 3 v' h' true) = J at hx
    generalize hM : qL L 24 (mkS I L 23 16 3 v' h' true).2 = M at hx
    have eJ : ∀ k, (k < 23 ∨ 45 < k) → J k = I k := fun k hk => by rw [← hJ]; exact pI_out (by omega)
    have eM : ∀ k, k = 16 ∨ 46 ≤ k → M k = L k := fun k hk => by rw [← hM]; exact qL_ne (by omega)
    have f1 := frC eJ eM
    have hy := ct_X8_picture (E := E) (I := J) (L := M) (v := nI v') (h := nI h') (r := r) (c := c) h.rf (sR_fr f1 (sR_cq (qOf I L 24) h.q)) (by rw [eJ 68 (by decide)]; exact h.h5)
    rw [if_pos qo, if_pos qo, if_pos qo, nI_clamp (by omega), nI_clamp (by omega)] at hy
    have hgj : rlG (kI J v' h' (shS J v' h' true (J 68 3) (cpQ (qOf I L 16) (qOf I L 24)))) R := by
      refine rlG_c h.1 (fun k h1 h2 => ?_)
      rw [kI_ne (by omega) (by omega) (by omega), ← hJ]
      exact pI_out (by omega)
    refine mk_i hx hy ?_ (Rel_fr h (frM_tr f1 (frK J M v' h' _)) hgj)
    obtain ⟨-, -, a3⟩ := sh_mk (I1 := J) h (eJ 68 (by decide)) (eJ 70 (by decide)) hv1 hv3 hh1 hh3 (qOf I L 24) (I 29)
    have qr := q
    unfold picOk at qr
    simp only [Bool.and_eq_true, Bool.not_eq_true', decide_eq_false_iff_not, decide_eq_true_eq] at qr
    obtain ⟨-, ⟨r1, r2⟩, r3, r4⟩ := qr
    rw [bin6 hv1 hv3] at r2
    rw [bin8 hh1 hh3] at r4
    have g3 := (hi6b hv1 hv3).1
    rw [hv6 hv1 hv3] at g3
    have g4 := (wi8b hh1 hh3).1
    have hrn := (zix_of2 r1 r2 (by omega)).1
    have hcn := (lt_nat r3 r4 (by omega)).2
    exact (a3 _ _ hrn hcn).1
  · rw [if_neg q, if_neg q, if_neg q] at hx
    have qo : ¬ pcO v hh r c = true := fun z => q (pc_ok.symm.trans z)
    have hy := ct_X8_picture (E := E) (I := I) (L := L) (v := v) (h := hh) (r := r) (c := c) h.rf h.q h.h5
    rw [if_neg qo, if_neg qo, if_neg qo] at hy
    exact mk_i hx hy rfl h
theorem st_shades (h : Rel I L R) {v hh x : Int32} : zAi E m_X7_shades m_X8_shades [.int v, .int hh, .int x] I L R Rel := by
  have hx := ct_X7_shades (E := E) (I := I) (L := L) (v := v) (h := hh) (x := x) h.rf
  by_cases q : (inV 1 3 v && inV 1 3 hh && inV 0 3 x) = true
  · rw [if_pos q, if_pos q, if_pos q] at hx
    have q3 := q
    simp only [Bool.and_eq_true] at q3
    obtain ⟨ev, hv1, hv3⟩ := inV_nat (n := 3) (by decide) q3.1.1
    obtain ⟨eh, hh1, hh3⟩ := inV_nat (n := 3) (by decide) q3.1.2
    generalize v.toNatClampNeg = v' at *
    generalize hh.toNatClampNeg = h' at *
    subst ev
    subst eh
    generalize hJ : pI (pN I 23 v' h') 23 (mkS I L 23 16 3 v' h' true) = J at hx
    generalize hM : qL L 24 (mkS I L 23 16 3 v' h' true).2 = M at hx
    have eJ : ∀ k, (k < 23 ∨ 45 < k) → J k = I k := fun k hk => by rw [← hJ]; exact pI_out (by omega)
    have eM : ∀ k, k = 16 ∨ 46 ≤ k → M k = L k := fun k hk => by rw [← hM]; exact qL_ne (by omega)
    have f1 := frC eJ eM
    have hy := ct_X8_shades (E := E) (I := J) (L := M) (v := nI v') (h := nI h') (x := x) h.rf (sR_fr f1 (sR_cq (qOf I L 24) h.q)) (by rw [eJ 68 (by decide)]; exact h.h5)
    rw [if_pos q, if_pos q, if_pos q, nI_clamp (by omega), nI_clamp (by omega)] at hy
    have hgj : rlG (kI J v' h' (shS J v' h' true (J 68 3) (cpQ (qOf I L 16) (qOf I L 24)))) R := by
      refine rlG_c h.1 (fun k h1 h2 => ?_)
      rw [kI_ne (by omega) (by omega) (by omega), ← hJ]
      exact pI_out (by omega)
    refine mk_i hx hy ?_ (Rel_fr h (frM_tr f1 (frK J M v' h' _)) hgj)
    obtain ⟨-, -, a3⟩ := sh_mk (I1 := J) h (eJ 68 (by decide)) (eJ 70 (by decide)) hv1 hv3 hh1 hh3 (qOf I L 24) (I 29)
    have hk : ∀ k, k < 6 / v' * ((8 + h' - 1) / h') → (shS J v' h' true (J 68 3) (cpQ (qOf I L 16) (qOf I L 24))).1 k = pcV (mkS I L 23 16 3 v' h' true).1 ((8 + h' - 1) / h') k := by
      intro k hk
      have g2 := (hw1 hh1 hh3).2.2.2
      have m1 : mkS I L 23 16 3 v' h' true = picV (I 4 4) (I 4 5) (hdQ (I 4 0) (I 4 2) (I 4 3) (I 6) true) v' h' ((8 + h' - 1) / h') (6 / v') (I 29, shQ (qOf I L 16) (qOf I L 24)) := rfl
      rw [m1]
      generalize (8 + h' - 1) / h' = W at *
      have k1 : k / W < 6 / v' := Nat.div_lt_of_lt_mul (by rw [Nat.mul_comm]; exact hk)
      have k2 : k % W < W := Nat.mod_lt _ (by omega)
      have k3 : k / W * W + k % W = k := by rw [Nat.mul_comm]; exact Nat.div_add_mod k W
      have := (a3 (k / W) (k % W) k1 k2).1
      rw [k3] at this
      exact this
    rw [hv6 hv1 hv3, grV_congr _ hk, leR_congr _ hk, sumV_congr _ hk, cntV_congr _ (fun j hj => by rw [hk j hj])]
  · rw [if_neg q, if_neg q, if_neg q] at hx
    have hy := ct_X8_shades (E := E) (I := I) (L := L) (v := v) (h := hh) (x := x) h.rf h.q h.h5
    rw [if_neg q, if_neg q, if_neg q] at hy
    exact mk_i hx hy rfl h
theorem st_late (h : Rel I L R) {c : Int32} : zAi E m_X7_late m_X8_late [.int c] I L R Rel := by
  have hx := ct_X7_late (E := E) (I := I) (L := L) (c := c) h.rf
  have e07 : inV 0 7 c = in0 8 c := bool_eq (by rw [inV_iff, in0_iff, show (0 : Int32).toInt = 0 from rfl, show (7 : Int32).toInt = 7 from rfl, show (8 : Int32).toInt = 8 from rfl]; omega)
  by_cases q : in0 8 c = true
  · rw [if_pos q, if_pos q, if_pos q] at hx
    have q7 := e07.trans q
    generalize hJ : pI (pN I 23 1 1) 23 ((mkS I L 23 16 3 1 1 true).1, hdQ (I 4 0) (I 4 2) (I 4 3) (I 6) true (mkS I L 23 16 3 1 1 true).2) = J at hx
    generalize hM : qL L 24 (hdQ (I 4 0) (I 4 2) (I 4 3) (I 6) true (mkS I L 23 16 3 1 1 true).2) = M at hx
    have eJ : ∀ k, (k < 23 ∨ 45 < k) → J k = I k := fun k hk => by rw [← hJ]; exact pI_out (by omega)
    have eM : ∀ k, k = 16 ∨ 46 ≤ k → M k = L k := fun k hk => by rw [← hM]; exact qL_ne (by omega)
    have f1 := frC eJ eM
    have hy := ct_X8_late (E := E) (I := J) (L := M) (c := c) h.rf (sR_fr f1 (sR_cq (qOf I L 24) h.q)) (by rw [eJ 68 (by decide)]; exact h.h5)
    rw [if_pos q7, if_pos q7, if_pos q7] at hy
    refine mk_i hx hy ?_ (Rel_fr h (frM_tr f1 (frK J M 1 1 _)) ?_)
    · obtain ⟨a1, a2, -⟩ := sh_mk (I1 := J) h (eJ 68 (by decide)) (eJ 70 (by decide)) (v := 1) (h := 1) (by decide) (by decide) (by decide) (by decide) (qOf I L 24) (I 29)
      rw [a1, eJ 68 (by decide), eJ 70 (by decide), h.r (show 0 < 7 by decide), h.r (show 2 < 7 by decide), h.r (show 3 < 7 by decide), (hd_eq h.cap.1 h.cap.2 h.dr h.sm.1 h.sm.2 (fun j hj => (h.trap hj).1) (fun j hj => (h.trap hj).2.2) a2).1]
      rfl
    · refine rlG_c h.1 (fun k h1 h2 => ?_)
      rw [kI_ne (by omega) (by omega) (by omega), ← hJ]
      exact pI_out (by omega)
  · rw [if_neg q, if_neg q, if_neg q] at hx
    have q7 : ¬ inV 0 7 c = true := fun z => q (e07.symm.trans z)
    have hy := ct_X8_late (E := E) (I := I) (L := L) (c := c) h.rf h.q h.h5
    rw [if_neg q7, if_neg q7, if_neg q7] at hy
    exact mk_i hx hy rfl h
theorem st_spoiled (h : Rel I L R) {x : Int32} : zAi E m_X7_spoiled m_X8_spoiled [.int x] I L R Rel := by
  by_cases q : inV 0 1 x = true
  · have q' := inV_iff.mp q
    rw [t_0, show (1 : Int32).toInt = 1 from rfl] at q'
    have hx01 : x = 0 ∨ x = 1 := by
      rcases (show x.toInt = 0 ∨ x.toInt = 1 by omega) with z | z
      · exact Or.inl (t_eq.mpr z)
      · exact Or.inr (t_eq.mpr z)
    have hx := ct_X7_spoiled (E := E) (I := I) (L := L) (x := x) h.rf hx01
    generalize hJ : pI (pN (pI (pN I 23 1 1) 23 (mkS I L 23 16 3 1 1 true)) 30 1 1) 30 (mkS I L 30 16 3 1 1 false) = J at hx
    generalize hM : qL (qL L 24 (mkS I L 23 16 3 1 1 true).2) 31 (mkS I L 30 16 3 1 1 false).2 = M at hx
    have eJ : ∀ k, (k < 23 ∨ 36 < k) → J k = I k := fun k hk => by rw [← hJ, pI_out (by omega), pI_out (by omega)]
    have eM : ∀ k, k = 16 ∨ 46 ≤ k → M k = L k := fun k hk => by rw [← hM, qL_ne (by omega), qL_ne (by omega)]
    have f1 := frC (fun k hk => eJ k (by omega)) eM
    have h68 := eJ 68 (by decide)
    have h70 := eJ 70 (by decide)
    have hs1 := sR_fr f1 (sR_cq (qOf I L 31) h.q)
    have hs2 := sR_fr f1 (sR_cq (qOf I L 24) h.q)
    have hy := ct_X8_spoiled (E := E) (I := J) (L := M) (x := x) h.rf hs1 hs2 (by rw [h68]; exact h.h5)
    rw [if_pos q, if_pos q, if_pos q] at hy
    have o68 : oI J (cpQ (qOf I L 16) (qOf I L 31)) 68 = I 68 := by unfold oI; rw [up_ne (by decide), kI_ne (by decide) (by decide) (by decide), h68]
    have o70 : oI J (cpQ (qOf I L 16) (qOf I L 31)) 70 = I 70 := by unfold oI; rw [up_ne (by decide), kI_ne (by decide) (by decide) (by decide), h70]
    have f2 : frM J M (oI J (cpQ (qOf I L 16) (qOf I L 31))) (oL J M (cpQ (qOf I L 16) (qOf I L 31))) := by
      have f3 := frK J M 1 1 (shS J 1 1 false 0 (cpQ (qOf I L 16) (qOf I L 31)))
      obtain ⟨b1, b2, b3, b4, b5, b6, b7, b8, b9⟩ := f3
      unfold oI oL
      refine ⟨fun k hk => by rw [up_ne (by omega)]; exact b1 k hk, fun k h1 h2 => by rw [up_ne (by omega)]; exact b2 k h1 h2, ?_, fun a ha => by rw [up_ne (by decide)]; exact b4 a ha, fun k h1 h2 => by rw [up_ne (by omega)]; exact b5 k h1 h2, by rw [up_ne (by decide)]; exact b6, fun k h1 h2 => by rw [up_ne (by omega)]; exact b7 k h1 h2, b8, b9⟩
      rw [up_ne (by decide)]; exact b3
    refine mk_i hx hy ?_ (Rel_fr h (frM_tr f1 (frM_tr f2 (frK _ _ 1 1 _))) ?_)
    · have a3 := (sh_mk (I1 := oI J (cpQ (qOf I L 16) (qOf I L 31))) h o68 o70 (v := 1) (h := 1) (by decide) (by decide) (by decide) (by decide) (qOf I L 24) (I 29)).2.2
      have c3 := su_mk (I1 := J) h h68 (v := 1) (h := 1) (by decide) (by decide) (by decide) (by decide) (qOf I L 31) (I 36)
      have hd : ∀ k, k < 48 → dfV (shS (oI J (cpQ (qOf I L 16) (qOf I L 31))) 1 1 true (J 68 3) (cpQ (qOf I L 16) (qOf I L 24))).1 (zcp (shS J 1 1 false 0 (cpQ (qOf I L 16) (qOf I L 31))).1 (J 79) 48) k = ab ((mkS I L 23 16 3 1 1 true).1 k - (mkS I L 30 16 3 1 1 false).1 k) := by
        intro k hk
        have k1 : k / 8 < 6 := by omega
        have k2 : k % 8 < 8 := by omega
        have k3 : k / 8 * 8 + k % 8 = k := by omega
        have d1 := a3 (k / 8) (k % 8) k1 k2
        have d2 := c3 (k / 8) (k % 8) k1 k2
        rw [o68, ← h68] at d1
        rw [show k / 8 * ((8 + 1 - 1) / 1) + k % 8 = k from k3] at d1 d2
        have m1 : mkS I L 23 16 3 1 1 true = picV (I 4 4) (I 4 5) (hdQ (I 4 0) (I 4 2) (I 4 3) (I 6) true) 1 1 ((8 + 1 - 1) / 1) (6 / 1) (I 29, shQ (qOf I L 16) (qOf I L 24)) := rfl
        have m2 : mkS I L 30 16 3 1 1 false = picV (I 4 4) (I 4 5) (hdQ (I 4 0) (I 4 2) (I 4 3) (I 6) false) 1 1 ((8 + 1 - 1) / 1) (6 / 1) (I 36, shQ (qOf I L 16) (qOf I L 31)) := rfl
        rw [m1, m2]
        unfold dfV zcp
        rw [if_pos hk, d1.1, d2.1]
        exact df_ab d1.2.1 d1.2.2 d2.2.1 d2.2.2
      rw [cntV_congr 48 (fun k hk => by rw [hd k hk]), grV_congr 48 hd]
    · refine rlG_c h.1 (fun k h1 h2 => ?_)
      rw [kI_ne (by omega) (by omega) (by omega)]
      unfold oI
      rw [up_ne (by omega), kI_ne (by omega) (by omega) (by omega), eJ k (by omega)]
  · have d : ¬ x = 0 ∧ ¬ x = 1 := ⟨fun z => q (by rw [z]; decide), fun z => q (by rw [z]; decide)⟩
    have hy := ct_X8_spoiled (E := E) (I := I) (L := L) (x := x) h.rf h.q h.q h.h5
    rw [if_neg q, if_neg q, if_neg q] at hy
    exact mk_i (ct_X7_spoiled_bad h.rf d) hy rfl h
theorem frG {I J : zI} (L : zL) (h : gM I J) : frM I L J L := frC (fun k hk => h k (by omega)) (fun _ _ => rfl)
theorem frV (I : zI) (L : zL) (u : zV) : frM I L (vI I u) (vL L u) := by
  have e : ∀ k, k ≠ 64 → vI I u k = I k := fun k h => vI_ne h
  have e2 : ∀ k, k ≠ 80 → k ≠ 81 → vL L u k = L k := fun k h1 h2 => by unfold vL; rw [up_ne h1, up_ne h2]
  refine ⟨fun k hk => e k (by omega), fun k h1 h2 => e k (by omega), ⟨?_, ?_, ?_⟩, fun a _ => by rw [e 65 (by decide)], fun k h1 h2 => e k (by omega), e 77 (by decide), fun k h1 h2 => e k (by omega), fun k hk => e2 k (by omega) (by omega), fun a _ => by rw [e2 66 (by decide) (by decide)]⟩
  · exact mtI_j (by decide) (by decide)
  · exact mtI_j (by decide) (by decide)
  · exact mtI_j (by decide) (by decide)
theorem frMt (I : zI) (L : zL) (x y : Int32) : frM I L (mtI I x y) L := by
  refine ⟨fun k hk => mtI_ne (by omega), fun k h1 h2 => mtI_ne (by omega), ⟨mtI_j (by decide) (by decide), mtI_j (by decide) (by decide), mtI_j (by decide) (by decide)⟩, fun a _ => by rw [mtI_ne (by decide)], fun k h1 h2 => mtI_ne (by omega), mtI_ne (by decide), fun k h1 h2 => mtI_ne (by omega), fun _ _ => rfl, fun _ _ => rfl⟩
theorem gInv_c {I J : zI} (h : gInv I) (hk : ∀ k, 37 ≤ k → k ≤ 42 → J k = I k) : gInv J := by
  intro P hP h0
  have h37 := hk 37 (by decide) (by decide)
  have hT := h P hP (by rw [← h37]; exact h0)
  obtain ⟨⟨b1, b2, b3⟩, b4⟩ := hT
  refine ⟨⟨by rw [h37]; exact b1, by rw [h37]; exact b2, fun r hr => ?_⟩, fun r b c1 c2 c3 => ?_⟩
  · rw [hk 38 (by decide) (by decide), hk 39 (by decide) (by decide), hk 40 (by decide) (by decide)]; exact b3 r hr
  · have := b4 r b c1 c2 c3
    unfold gE at this ⊢
    rw [hk 41 (by decide) (by decide), hk 42 (by decide) (by decide)]; exact this
theorem st_clock (h : Rel I L R) {x : Int32} : zAi E m_X7_clock m_X8_clock [.int x] I L R Rel := by
  obtain ⟨P, n, w, hP, r1, r2⟩ := h.2.1
  have h46 := r1.2.2.2.2.2.2.2
  refine zCt_mono (ct_X7_clock (w := w) (n := n) h.rf hP h.1.2.2 h46 r2.1 r2.2.2.1 (fun j hj => ⟨(r2.2.2.2 j hj).1, (r2.2.2.2 j hj).2.2⟩)) (fun r Sh1 J M S g => ?_)
  obtain ⟨rfl, rfl, ⟨gm, gi⟩, rfl, rfl⟩ := g
  have f1 := frG M gm
  refine ⟨rfl, _, rfl, zCt_mono (ct_X8_clock (w := w) (n := n) (P := P) h.rf hP (by rw [gm 68 (by decide), r1.1 6 (by decide)]; exact h46) (by rw [gm 64 (by decide)]; exact r2.2.1) r2.2.2.1 (fun j hj => ⟨by rw [gm 71 (by decide)]; exact (r2.2.2.2 j hj).2.1, (r2.2.2.2 j hj).2.2⟩)) (fun r Sh2 K N S2 g2 => ?_)⟩
  obtain ⟨rfl, rfl, rfl, rfl, rfl⟩ := g2
  refine ⟨rfl, ?_, ?_⟩
  · by_cases c : inV 0 2 x = true
    · rw [if_pos c, if_pos c]
      by_cases c2 : n = 0
      · rw [if_pos c2, if_pos c2]
      · rw [if_neg c2, if_neg c2]
        by_cases c3 : cntV (fun g => bg P (w 0) g) P = 1
        · rw [if_pos c3, if_pos c3, ck_eq hP (by omega) (fun j hj => (r2.2.2.2 j hj).2.2) c3]
        · rw [if_neg c3, if_neg c3]
    · rw [if_neg c, if_neg c]
  · have hR0 : Rel J N S2 := Rel_fr h f1 ⟨h.rf, h.1.2.1, gi⟩
    have key : ∀ a b : Int32, Rel (mtI J a b) N S2 := fun a b => Rel_fr hR0 (frMt J N a b) ⟨h.rf, h.1.2.1, gInv_c gi (fun k h1 h2 => mtI_ne (by omega))⟩
    split
    · split
      · exact hR0
      · split
        · exact key _ _
        · exact hR0
    · exact hR0
theorem st_goes (h : Rel I L R) {a b : Int32} : zAi E m_X7_goes m_X8_goes [.int a, .int b] I L R Rel := by
  obtain ⟨P, n, w, hP, r1, r2⟩ := h.2.1
  have hp2 := P2 hP
  have h46 := r1.2.2.2.2.2.2.2
  refine zCt_mono (ct_X7_goes (a := a) (b := b) h.rf hP h.1.2.2 h46) (fun r Sh1 J M S g => ?_)
  obtain ⟨rfl, rfl, ⟨gm, gi⟩, rfl, rfl⟩ := g
  have f1 := frG M gm
  refine ⟨rfl, _, rfl, zCt_mono (ct_X8_goes (a := a) (b := b) h.rf hP (by rw [gm 68 (by decide), r1.1 6 (by decide)]; exact h46)) (fun r Sh2 K N S2 g2 => ?_)⟩
  obtain ⟨rfl, rfl, rfl, rfl, rfl⟩ := g2
  refine ⟨rfl, ?_, ?_⟩
  · by_cases c : (inV 0 (nI (2 ^ P - 1)) a && inV 0 (nI (2 ^ P - 1)) b) = true
    · rw [if_pos c, if_pos c]
      have c2 := c
      simp only [Bool.and_eq_true] at c2
      obtain ⟨-, ha⟩ := inV_natn (by omega) c2.1
      obtain ⟨-, hb⟩ := inV_natn (by omega) c2.2
      by_cases c3 : cntV (fun g => bg P a.toNatClampNeg g) P = 1
      · have hgo := good_of hP (by omega) c3
        have hst := st_of hP (by omega) hgo.2
        rw [if_pos c3, if_pos c3, (fm_ok (b := b.toNatClampNeg) hP hgo.1 (by omega) hst.1 hst.2).1]
      · rw [if_neg c3, if_neg c3]
    · rw [if_neg c, if_neg c]
  · have hR0 : Rel J N S2 := Rel_fr h f1 ⟨h.rf, h.1.2.1, gi⟩
    have key : ∀ a b : Int32, Rel (mtI J a b) N S2 := fun a b => Rel_fr hR0 (frMt J N a b) ⟨h.rf, h.1.2.1, gInv_c gi (fun k h1 h2 => mtI_ne (by omega))⟩
    split
    · split
      · split
        · exact hR0
        · exact key _ _
      · exact hR0
    · exact hR0
theorem Rel_gv {J : zI} {M : zL} {S : zR} {A B : Nat} (h : Rel I L R) (gm : gM I J) (gi : gInv J) (hM : ∃ g k, M = va_up (va_up L 43 g) 44 k) (hS : S = zr (zr R 37 11 (some A)) 37 12 (some B)) (hAB : (A = 43 ∧ B = 44) ∨ (A = 44 ∧ B = 43)) (u : zV) : Rel (vI J u) (vL M u) S := by
  obtain ⟨g, k, rfl⟩ := hM
  have f1 : frM I L J (va_up (va_up L 43 g) 44 k) := frC (fun k hk => gm k (by omega)) (fun k hk => by rw [up_ne (by omega), up_ne (by omega)])
  refine Rel_fr h (frM_tr f1 (frV _ _ u)) ⟨by rw [hS]; exact zLx_zr h.rf _ _, ⟨A, B, by rw [hS]; exact wAB_n hAB⟩, gInv_c gi (fun k h1 h2 => vI_ne (by omega))⟩
theorem st_rounds (h : Rel I L R) {f n d : Int32} : zAl E m_X7_rounds m_X8_rounds [.int f, .int n, .int d] I L R Rel := by
  obtain ⟨P, nn, w, hP, r1, r2⟩ := h.2.1
  obtain ⟨A, B, hAB⟩ := h.1.2.1
  have h46 := r1.2.2.2.2.2.2.2
  refine zCt_mono (ct_X7_rounds (f := f) (n := n) (d := d) h.rf hP h.1.2.2 hAB h46) (fun r Sh1 J M S g => ?_)
  obtain ⟨rfl, rfl, ⟨gm, gi⟩, hM, ⟨A', B', hS, hAB'⟩⟩ := g
  refine ⟨rfl, _, rfl, zCt_mono (ct_X8_rounds (f := f) (n := n) (d := d) (by rw [hS]; exact zLx_zr h.rf _ _) hP (by rw [gm 68 (by decide), r1.1 6 (by decide)]; exact h46)) (fun r Sh2 K N S2 g2 => ?_)⟩
  obtain ⟨rfl, rfl, ⟨u, rfl, rfl⟩, rfl⟩ := g2
  exact ⟨rfl, rfl, Rel_gv h gm gi hM hS hAB' u⟩
theorem st_fewest (h : Rel I L R) {d : Int32} : zAi E m_X7_fewest m_X8_fewest [.int d] I L R Rel := by
  obtain ⟨P, nn, w, hP, r1, r2⟩ := h.2.1
  obtain ⟨A, B, hAB⟩ := h.1.2.1
  have h46 := r1.2.2.2.2.2.2.2
  refine zCt_mono (ct_X7_fewest (d := d) h.rf hP h.1.2.2 hAB h46) (fun r Sh1 J M S g => ?_)
  obtain ⟨rfl, rfl, ⟨gm, gi⟩, hM, ⟨A', B', hS, hAB'⟩⟩ := g
  refine ⟨rfl, _, rfl, zCt_mono (ct_X8_fewest (d := d) (by rw [hS]; exact zLx_zr h.rf _ _) hP (by rw [gm 68 (by decide), r1.1 6 (by decide)]; exact h46)) (fun r Sh2 K N S2 g2 => ?_)⟩
  obtain ⟨rfl, rfl, ⟨u, rfl, rfl⟩, rfl⟩ := g2
  exact ⟨rfl, rfl, Rel_gv h gm gi hM hS hAB' u⟩
end ZSTEP7
