/-! the reference's counting is the class's -/
theorem sumN_add (f g : Nat → Nat) : ∀ n, sumN (fun k => f k + g k) n = sumN f n + sumN g n
  | 0 => rfl
  | n + 1 => by rw [sumN, sumN, sumN, sumN_add f g n]; omega
theorem sumN_zero {f : Nat → Nat} : ∀ n, (∀ k, k < n → f k = 0) → sumN f n = 0
  | 0, _ => rfl
  | n + 1, h => by rw [sumN, sumN_zero n (fun k hk => h k (by omega)), h n (by omega)]
theorem sumN_swap (f : Nat → Nat → Nat) (m : Nat) : ∀ n, sumN (fun a => sumN (fun b => f a b) m) n = sumN (fun b => sumN (fun a => f a b) n) m
  | 0 => (sumN_zero m (fun _ _ => rfl)).symm
  | n + 1 => by
    rw [sumN, sumN_swap f m n, ← sumN_add]
    rfl
theorem sumN_one {f : Nat → Nat} {k0 : Nat} : ∀ n, (∀ k, k < n → k ≠ k0 → f k = 0) → sumN f n = if k0 < n then f k0 else 0
  | 0, _ => by simp [sumN]
  | n + 1, h => by
    rw [sumN, sumN_one n (fun k hk => h k (by omega))]
    by_cases e : k0 = n
    · subst e
      rw [if_neg (by omega), if_pos (by omega), Nat.zero_add]
    · rw [h n (by omega) (Ne.symm e), Nat.add_zero]
      by_cases c : k0 < n
      · rw [if_pos c, if_pos (by omega)]
      · rw [if_neg c, if_neg (by omega)]
theorem sumN_le {f : Nat → Nat} {B : Nat} (h : ∀ k, f k ≤ B) : ∀ n, sumN f n ≤ n * B
  | 0 => by simp [sumN]
  | n + 1 => by
    have := sumN_le h n
    have := h n
    rw [sumN, Nat.add_mul, Nat.one_mul]
    omega
/-- all is the same some wells on -/
theorem hi_sh (P a : Nat) (z w : Int) : hi P a (z + P * w) = hi P a z := by
  unfold hi
  have e : (z + P * w).emod P = z.emod P := Int.add_mul_emod_self_left z P w
  rw [e]
theorem fst_sh (P a : Nat) (w : Int) : ∀ (n : Nat) (z : Int), fstL P a n (z + P * w) = fstL P a n z + P * w
  | 0, z => rfl
  | n + 1, z => by
    unfold fstL
    rw [show z + P * w - 1 = z - 1 + P * w by omega, hi_sh, fst_sh P a w n (z - 1)]
    split <;> rfl
theorem mtN_sh (P a : Nat) (w : Int) : ∀ (n : Nat) (z : Int), mtN P a n (z + P * w) = mtN P a n z
  | 0, z => rfl
  | n + 1, z => by
    unfold mtN
    rw [show z + P * w + 1 = z + 1 + P * w by omega, hi_sh, mtN_sh P a w n (z + 1)]
theorem mtS_sh (P b : Nat) (s w : Int) : ∀ k : Nat, (mtS P b (s + P * w) k).1 = (mtS P b s k).1 ∧ ((mtS P b s k).1 ≠ 0 → (mtS P b (s + P * w) k).2 = (mtS P b s k).2 + P * w)
  | 0 => ⟨rfl, fun h => absurd rfl h⟩
  | k + 1 => by
    obtain ⟨h1, h2⟩ := mtS_sh P b s w k
    unfold mtS
    rw [show s + P * w + (k : Int) = s + k + P * w by omega, hi_sh, fst_sh, h1]
    by_cases c : hi P b (s + k) = true ∧ ((mtS P b s k).1 = 0 ∨ fstL P b P (s + k) ≠ (mtS P b s k).2)
    · have c2 : hi P b (s + k) = true ∧ ((mtS P b s k).1 = 0 ∨ fstL P b P (s + k) + P * w ≠ (mtS P b (s + P * w) k).2) := by
        refine ⟨c.1, ?_⟩
        rcases c.2 with q | q
        · exact Or.inl q
        · by_cases e : (mtS P b s k).1 = 0
          · exact Or.inl e
          · refine Or.inr (fun h => q ?_)
            rw [h2 e] at h
            omega
      rw [if_pos c, if_pos c2]
      exact ⟨rfl, fun _ => rfl⟩
    · have c2 : ¬ (hi P b (s + k) = true ∧ ((mtS P b s k).1 = 0 ∨ fstL P b P (s + k) + P * w ≠ (mtS P b (s + P * w) k).2)) := by
        intro h
        refine c ⟨h.1, ?_⟩
        rcases h.2 with q | q
        · exact Or.inl q
        · by_cases e : (mtS P b s k).1 = 0
          · exact Or.inl e
          · refine Or.inr (fun h3 => q ?_)
            rw [h2 e, h3]
      rw [if_neg c, if_neg c2]
      exact ⟨h1, h2⟩
theorem mtV_sh (P a b : Nat) (s w : Int) : (mtV P a (s + P * w) b).1 = (mtV P a s b).1 ∧ ((mtV P a s b).1 ≠ 0 → (mtV P a (s + P * w) b).2 = (mtV P a s b).2 + P * w) := by
  unfold mtV
  rw [mtN_sh]
  exact mtS_sh P b s w _
/-- what a PACKET meets, counted the two ways -/
def fmOk (P a b : Nat) (s : Nat) : Bool := !bg P a (s : Nat) || (((farV P a (s : Nat) b).1 == wgV P a (s : Nat) b) && ((farV P a (s : Nat) b).1 != 0 || ((farV P a (s : Nat) b).2 == some (mtV P a (s : Nat) b).2 && bg P b (mtV P a (s : Nat) b).2)))
set_option maxRecDepth 100000 in
theorem fm_ok3 : ∀ a : Fin 7, ∀ b : Fin 8, ∀ s : Fin 3, fmOk 3 a.val b.val s.val = true := by decide +kernel
set_option maxRecDepth 100000 in
theorem fm_ok4 : ∀ a : Fin 15, ∀ b : Fin 16, ∀ s : Fin 4, fmOk 4 a.val b.val s.val = true := by decide +kernel
theorem fm_ok {P a b s : Nat} (hP : P = 3 ∨ P = 4) (ha : a < 2 ^ P - 1) (hb : b < 2 ^ P) (hs : s < P) (hg : bg P a (s : Nat) = true) : (farV P a (s : Nat) b).1 = wgV P a (s : Nat) b ∧ ((farV P a (s : Nat) b).1 = 0 → (farV P a (s : Nat) b).2 = some (mtV P a (s : Nat) b).2 ∧ bg P b (mtV P a (s : Nat) b).2 = true) := by
  have h : fmOk P a b s = true := by
    rcases hP with rfl | rfl
    · exact fm_ok3 ⟨a, ha⟩ ⟨b, hb⟩ ⟨s, hs⟩
    · exact fm_ok4 ⟨a, ha⟩ ⟨b, hb⟩ ⟨s, hs⟩
  unfold fmOk at h
  rw [hg] at h
  simp only [Bool.not_true, Bool.false_or, Bool.and_eq_true, beq_iff_eq, Bool.or_eq_true, bne_iff_ne, ne_eq] at h
  refine ⟨h.1, fun h0 => ?_⟩
  rcases h.2 with q | q
  · exact absurd h0 q
  · exact q
/-- a WORD's count at a GATE, by its REGION's -/
def eC (P : Nat) (D : Nat → Int → Nat) (a : Nat) (z : Int) : Nat := sumN (fun r => if rgW P r = a ∧ (rgS P r : Int) = z.emod P then D r (z.ediv P) else 0) (rgN P)
theorem ed_of {P : Nat} (hP : P = 3 ∨ P = 4) (z : Int) : z = z.emod P + P * z.ediv P ∧ 0 ≤ z.emod P ∧ z.emod P < P := by
  have hp : (P : Int) ≠ 0 := by omega
  have e1 := Int.emod_add_mul_ediv z P
  have e2 := Int.emod_nonneg z hp
  have e3 := Int.emod_lt_of_pos z (show (0 : Int) < P by omega)
  exact ⟨e1.symm, e2, e3⟩
theorem ed_mk {P : Nat} (hP : P = 3 ∨ P = 4) {s : Nat} (hs : s < P) (w : Int) : ((s : Int) + P * w).emod P = s ∧ ((s : Int) + P * w).ediv P = w := by
  have e1 : ((s : Int) + P * w).emod P = (s : Int).emod P := Int.add_mul_emod_self_left s P w
  have e2 : (s : Int).emod P = s := Int.emod_eq_of_lt (by omega) (by omega)
  have h := ed_of hP ((s : Int) + P * w)
  rw [e1, e2] at h
  refine ⟨e1.trans e2, ?_⟩
  have h1 : (P : Int) * w = P * ((s : Int) + P * w).ediv P := by omega
  exact (Int.eq_of_mul_eq_mul_left (by omega) h1).symm
/-- what comes from one REGION -/
theorem one_r {P r b : Nat} (hP : P = 3 ∨ P = 4) (hr : r < rgN P) (hb1 : 1 ≤ b) (hb2 : b < 2 ^ P - 1) (D : Nat → Int → Nat) (hD : ∀ w, D r w ≠ 0 → -7 ≤ w ∧ w < 7) (z' : Int) :
    sumN (fun i => if (mtV P (rgW P r) ((4 + i : Nat) - 100 : Int) b).1 = 1 ∧ (mtV P (rgW P r) ((4 + i : Nat) - 100 : Int) b).2 = z' then (if (rgS P r : Int) = (((4 + i : Nat) - 100 : Int)).emod P then D r ((((4 + i : Nat) - 100 : Int)).ediv P) else 0) else 0) 193 = (match gtT P r b with | none => 0 | some x => if (rgS P x.1 : Int) = z'.emod P then D r (z'.ediv P - x.2) else 0) := by
  have hrb := rg_b hP hr
  have hfm := fm_ok (b := b) hP hrb.2.1 (by omega) hrb.2.2.1 hrb.2.2.2
  have hbf : b ≠ 2 ^ P - 1 := by omega
  have key : ∀ z : Int, (rgS P r : Int) = z.emod P → (mtV P (rgW P r) z b).1 = (mtV P (rgW P r) (rgS P r : Nat) b).1 ∧ ((mtV P (rgW P r) (rgS P r : Nat) b).1 ≠ 0 → (mtV P (rgW P r) z b).2 = (mtV P (rgW P r) (rgS P r : Nat) b).2 + P * z.ediv P) := by
    intro z hz
    have e := (ed_of hP z).1
    rw [← hz] at e
    have := mtV_sh P (rgW P r) b (rgS P r : Nat) (z.ediv P)
    rw [← e] at this
    exact this
  cases hgt : gtT P r b with
  | none =>
    have h0 := gt_none hP hr hb1 hb2 hgt
    rw [hfm.1] at h0
    refine sumN_zero _ (fun i _ => ?_)
    by_cases c : (rgS P r : Int) = (((4 + i : Nat) - 100 : Int)).emod P
    · rw [if_neg]
      intro q
      rw [(key _ c).1] at q
      exact h0 ((wg1 hbf).mpr q.1)
    · rw [if_neg c]
      split <;> rfl
  | some x =>
    obtain ⟨hx, hxw, hxf, hy1, hy2, -, -⟩ := gt_some (q := x.1) (y := x.2) hP hr hb1 hb2 hgt
    have hxb := rg_b hP hx
    have hz0 : (farV P (rgW P r) (rgS P r : Nat) b).1 = 0 := by rw [hxf]
    have hm1 : (mtV P (rgW P r) (rgS P r : Nat) b).1 = 1 := (wg1 hbf).mp (by rw [← hfm.1]; exact hz0)
    have hm2 : (mtV P (rgW P r) (rgS P r : Nat) b).2 = (rgS P x.1 : Nat) + P * x.2 := by
      have h := (hfm.2 hz0).1
      rw [hxf] at h
      exact (Option.some.inj h).symm
    show _ = (if (rgS P x.1 : Int) = z'.emod P then D r (z'.ediv P - x.2) else 0)
    have hz' := ed_of hP z'
    -- the only place
    have hone : ∀ z : Int, (rgS P r : Int) = z.emod P → (mtV P (rgW P r) z b).2 = z' → (rgS P x.1 : Int) = z'.emod P ∧ z.ediv P = z'.ediv P - x.2 := by
      intro z hz hq
      have h2 := (key z hz).2 (by omega)
      rw [h2, hm2] at hq
      have e : z' = (rgS P x.1 : Int) + P * (x.2 + z.ediv P) := by
        rw [← hq, Int.mul_add]; omega
      have h3 := ed_mk hP hxb.2.2.1 (x.2 + z.ediv P)
      rw [← e] at h3
      omega
    by_cases c0 : (rgS P x.1 : Int) = z'.emod P
    · rw [if_pos c0]
      by_cases cD : D r (z'.ediv P - x.2) = 0
      · rw [cD]
        refine sumN_zero _ (fun i _ => ?_)
        by_cases c : (mtV P (rgW P r) ((4 + i : Nat) - 100 : Int) b).1 = 1 ∧ (mtV P (rgW P r) ((4 + i : Nat) - 100 : Int) b).2 = z'
        · rw [if_pos c]
          by_cases c3 : (rgS P r : Int) = (((4 + i : Nat) - 100 : Int)).emod P
          · rw [if_pos c3, (hone _ c3 c.2).2, cD]
          · rw [if_neg c3]
        · rw [if_neg c]
      · have hw := hD _ cD
        have hmk := ed_mk hP hrb.2.2.1 (z'.ediv P - x.2)
        have hk0 : ∃ k0 : Nat, ((4 + k0 : Nat) - 100 : Int) = (rgS P r : Int) + P * (z'.ediv P - x.2) ∧ k0 < 193 := by
          refine ⟨((rgS P r : Int) + P * (z'.ediv P - x.2) + 96).toNat, ?_⟩
          generalize z'.ediv P - x.2 = w at hw
          rcases hP with rfl | rfl <;> omega
        obtain ⟨k0, hk0, hk1⟩ := hk0
        rw [sumN_one (k0 := k0), if_pos hk1]
        · have c3 : (rgS P r : Int) = (((4 + k0 : Nat) - 100 : Int)).emod P := by rw [hk0, hmk.1]
          have h1 := key _ c3
          rw [if_pos ⟨by rw [h1.1, hm1], by
            rw [h1.2 (by omega), hm2, hk0, hmk.2, Int.mul_sub]
            omega⟩, if_pos c3, hk0, hmk.2]
        · intro i hi hne
          by_cases c : (mtV P (rgW P r) ((4 + i : Nat) - 100 : Int) b).1 = 1 ∧ (mtV P (rgW P r) ((4 + i : Nat) - 100 : Int) b).2 = z'
          · rw [if_pos c]
            by_cases c3 : (rgS P r : Int) = (((4 + i : Nat) - 100 : Int)).emod P
            · exfalso
              have h4 := (hone _ c3 c.2).2
              have h5 := (ed_of hP ((4 + i : Nat) - 100 : Int)).1
              rw [← c3, h4, ← hk0] at h5
              omega
            · rw [if_neg c3]
          · rw [if_neg c]
    · rw [if_neg c0]
      refine sumN_zero _ (fun i _ => ?_)
      by_cases c : (mtV P (rgW P r) ((4 + i : Nat) - 100 : Int) b).1 = 1 ∧ (mtV P (rgW P r) ((4 + i : Nat) - 100 : Int) b).2 = z'
      · rw [if_pos c]
        by_cases c3 : (rgS P r : Int) = (((4 + i : Nat) - 100 : Int)).emod P
        · exact absurd (hone _ c3 c.2).1 c0
        · rw [if_neg c3]
      · rw [if_neg c]
theorem sumN_mul_if {c : Prop} [Decidable c] (f : Nat → Nat) (n : Nat) : (if c then sumN f n else 0) = sumN (fun k => if c then f k else 0) n := by
  by_cases h : c
  · simp only [if_pos h]
  · simp only [if_neg h]; exact (sumN_zero n (fun _ _ => rfl)).symm
/-- one word on, all told -/
theorem eC_step {P b : Nat} (hP : P = 3 ∨ P = 4) (hb1 : 1 ≤ b) (hb2 : b < 2 ^ P - 1) (D : Nat → Int → Nat) (hD : ∀ r w, r < rgN P → D r w ≠ 0 → -7 ≤ w ∧ w < 7) (z' : Int) :
    sumN (fun a => sumN (fun i => if (mtV P (a + 1) ((4 + i : Nat) - 100 : Int) b).1 = 1 ∧ (mtV P (a + 1) ((4 + i : Nat) - 100 : Int) b).2 = z' then eC P D (a + 1) ((4 + i : Nat) - 100 : Int) else 0) 193) (2 ^ P - 2) = eC P (dS P D) b z' := by
  have hp2 := P2 hP
  have e1 : ∀ a, sumN (fun i => if (mtV P (a + 1) ((4 + i : Nat) - 100 : Int) b).1 = 1 ∧ (mtV P (a + 1) ((4 + i : Nat) - 100 : Int) b).2 = z' then eC P D (a + 1) ((4 + i : Nat) - 100 : Int) else 0) 193 = sumN (fun r => sumN (fun i => if (mtV P (a + 1) ((4 + i : Nat) - 100 : Int) b).1 = 1 ∧ (mtV P (a + 1) ((4 + i : Nat) - 100 : Int) b).2 = z' then (if rgW P r = a + 1 ∧ (rgS P r : Int) = (((4 + i : Nat) - 100 : Int)).emod P then D r ((((4 + i : Nat) - 100 : Int)).ediv P) else 0) else 0) 193) (rgN P) := by
    intro a
    rw [← sumN_swap]
    refine sumN_congr _ (fun i _ => ?_)
    exact sumN_mul_if _ _
  rw [sumN_congr _ (fun a _ => e1 a), sumN_swap]
  have e2 : ∀ r, r < rgN P → sumN (fun a => sumN (fun i => if (mtV P (a + 1) ((4 + i : Nat) - 100 : Int) b).1 = 1 ∧ (mtV P (a + 1) ((4 + i : Nat) - 100 : Int) b).2 = z' then (if rgW P r = a + 1 ∧ (rgS P r : Int) = (((4 + i : Nat) - 100 : Int)).emod P then D r ((((4 + i : Nat) - 100 : Int)).ediv P) else 0) else 0) 193) (2 ^ P - 2) = (match gtT P r b with | none => 0 | some x => if (rgS P x.1 : Int) = z'.emod P then D r (z'.ediv P - x.2) else 0) := by
    intro r hr
    have hrb := rg_b hP hr
    rw [sumN_one (k0 := rgW P r - 1), if_pos (by omega), ← one_r hP hr hb1 hb2 D (fun w => hD r w hr) z']
    · refine sumN_congr _ (fun i _ => ?_)
      rw [show rgW P r - 1 + 1 = rgW P r by omega]
      simp only [true_and]
    · intro a _ hne
      refine sumN_zero _ (fun i _ => ?_)
      rw [if_neg (show ¬ (rgW P r = a + 1 ∧ _) from fun q => by omega)]
      split <;> rfl
  rw [sumN_congr _ e2]
  unfold eC
  have e3 : ∀ q, (if rgW P q = b ∧ (rgS P q : Int) = z'.emod P then dS P D q (z'.ediv P) else 0) = sumN (fun r => if rgW P q = b ∧ (rgS P q : Int) = z'.emod P then tT P D r q (z'.ediv P) else 0) (rgN P) := fun q => sumN_mul_if _ _
  rw [sumN_congr _ (fun q _ => e3 q), sumN_swap]
  refine sumN_congr _ (fun r hr => ?_)
  cases hgt : gtT P r b with
  | none =>
    refine (sumN_zero _ (fun q _ => ?_)).symm
    by_cases c : rgW P q = b ∧ (rgS P q : Int) = z'.emod P
    · rw [if_pos c]
      unfold tT
      rw [c.1, hgt]
    · rw [if_neg c]
  | some x =>
    obtain ⟨hx, hxw, -, -, -, -, -⟩ := gt_some (q := x.1) (y := x.2) hP hr hb1 hb2 hgt
    rw [sumN_one (k0 := x.1), if_pos hx]
    · show (if (rgS P x.1 : Int) = z'.emod P then D r (z'.ediv P - x.2) else 0) = _
      by_cases c : (rgS P x.1 : Int) = z'.emod P
      · rw [if_pos c, if_pos ⟨hxw, c⟩]
        unfold tT
        rw [hxw, hgt]
        exact (if_pos rfl).symm
      · rw [if_neg c, if_neg (fun q => c q.2)]
    · intro q _ hne
      by_cases c : rgW P q = b ∧ (rgS P q : Int) = z'.emod P
      · rw [if_pos c]
        unfold tT
        rw [c.1, hgt]
        exact if_neg (fun h => hne h.symm)
      · rw [if_neg c]
