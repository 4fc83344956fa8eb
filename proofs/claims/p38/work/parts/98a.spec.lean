/-! THE TAPE: its bytes, runs of alike bytes, the value of a NUMBER -/
def btA (g : Nat → Int32) (t j : Nat) : Int32 := if j < t then g j else -1
def gB (I : zI) : Nat → Int32 := fun j => I 2 j &&& 255
def rnF (p : Int32 → Bool) (g : Nat → Int32) (t : Nat) : Nat → Nat → Nat
  | 0, j => j
  | n + 1, j => if p (btA g t j) then rnF p g t n (j + 1) else j
/-- the first place from j on whose byte isn't one of p -/
def rn (p : Int32 → Bool) (g : Nat → Int32) (t j : Nat) : Nat := rnF p g t 400 j
def isRn (p : Int32 → Bool) (g : Nat → Int32) (t j e : Nat) : Prop := j ≤ e ∧ (∀ k, j ≤ k → k < e → p (btA g t k) = true) ∧ p (btA g t e) = false
theorem btA_end {g : Nat → Int32} {t j : Nat} (h : t ≤ j) : btA g t j = -1 := if_neg (by omega)
theorem isRn_un {p : Int32 → Bool} {g : Nat → Int32} {t j e e' : Nat} (h : isRn p g t j e) (h' : isRn p g t j e') : e = e' := by
  rcases Nat.lt_trichotomy e e' with q | q | q
  · have := h'.2.1 e h.1 q; rw [h.2.2] at this; cases this
  · exact q
  · have := h.2.1 e' h'.1 q; rw [h'.2.2] at this; cases this
theorem rnF_is {p : Int32 → Bool} {g : Nat → Int32} {t : Nat} (hp : p (-1) = false) : ∀ (n j : Nat), t ≤ j + n → isRn p g t j (rnF p g t n j)
  | 0, j, h => ⟨Nat.le_refl _, fun k h1 h2 => absurd h2 (by show ¬ k < j; omega), by show p (btA g t j) = false; rw [btA_end (by omega)]; exact hp⟩
  | n + 1, j, h => by
    unfold rnF
    by_cases c : p (btA g t j) = true
    · rw [if_pos c]
      obtain ⟨a1, a2, a3⟩ := rnF_is (g := g) (t := t) hp n (j + 1) (by omega)
      refine ⟨by omega, fun k h1 h2 => ?_, a3⟩
      by_cases e : k = j
      · rw [e]; exact c
      · exact a2 k (by omega) h2
    · rw [if_neg c]
      exact ⟨Nat.le_refl _, fun k h1 h2 => absurd h2 (by omega), by simpa using c⟩
theorem rn_is {p : Int32 → Bool} {g : Nat → Int32} {t j : Nat} (hp : p (-1) = false) (ht : t ≤ 400) : isRn p g t j (rn p g t j) := rnF_is hp 400 j (by omega)
theorem rn_eq {p : Int32 → Bool} {g : Nat → Int32} {t j e : Nat} (hp : p (-1) = false) (ht : t ≤ 400) (h : isRn p g t j e) : rn p g t j = e := isRn_un (rn_is hp ht) h
theorem rn_le {p : Int32 → Bool} {g : Nat → Int32} {t j : Nat} (hp : p (-1) = false) (ht : t ≤ 400) (hj : j ≤ t) : rn p g t j ≤ t := by
  obtain ⟨a1, a2, a3⟩ := rn_is (g := g) (j := j) hp ht
  rcases Nat.lt_or_ge t (rn p g t j) with q | q
  · have := a2 t hj q; rw [btA_end (Nat.le_refl _), hp] at this; cases this
  · exact q
def pBl (x : Int32) : Bool := decide (x = 32)
def pTk (k : Int32) (x : Int32) : Bool := decide (tokV x = k)
theorem pBl_1 : pBl (-1) = false := by decide
theorem pTk_1 {k : Int32} (h : k = 2 ∨ k = 3) : pTk k (-1) = false := by rcases h with rfl | rfl <;> decide
def vf (g : Nat → Int32) (t : Nat) (v : Int32) (j : Nat) : Nat → Int32
  | 0 => v
  | n + 1 => vf g t v j n * 10 + btA g t (j + n) - 48
theorem zi_id {I : zI} {k j : Nat} {x : Int32} (h : I k j = x) : zi I k j x = I := by
  unfold zi
  funext a b
  by_cases ha : a = k
  · subst ha
    by_cases hb : b = j
    · subst hb; simp [va_up, h]
    · simp [va_up, hb]
  · simp [va_up, ha]
theorem zi_zz {I : zI} {k j : Nat} {x y : Int32} : zi (zi I k j x) k j y = zi I k j y := by
  unfold zi
  funext a b
  by_cases ha : a = k
  · subst ha
    by_cases hb : b = j
    · subst hb; simp [va_up]
    · simp [va_up, hb]
  · simp [va_up, ha]
theorem zi_sw {I : zI} {k j i : Nat} {x y : Int32} (h : i ≠ j) : zi (zi I k j x) k i y = zi (zi I k i y) k j x := by
  unfold zi
  funext a b
  by_cases ha : a = k
  · subst ha
    by_cases hb : b = j
    · subst hb
      have : b ≠ i := fun z => h z.symm
      simp [va_up, this]
    · by_cases hc : b = i
      · subst hc; simp [va_up, h]
      · simp [va_up, hb, hc]
  · simp [va_up, ha]
theorem ct_byte {E : zE} {I : zI} {L : zL} {R : zR} {t j : Nat} (hR : zLx R) (h1 : I 1 1 = nI t) (ht : t ≤ 400) (hj : j < 2 ^ 31) : zCf E m_X6_byteAt zShF [.ref 1, .int (nI j)] I L R (some (.int (btA (gB I) t j))) I L R := by
  have h := ct_X6_byteAt (E := E) (I := I) (L := L) (i := nI j) (lT_1 hR) (fun _ q => by
    rw [h1] at q
    have := (nI_ltI hj (by omega)).mp q
    exact nI_lt (a := j) (b := 400) (by omega) (by decide))
  have e : (if nI j < 0 then -1 else if nI j < I 1 1 then I (1 + 1) (nI j).toNatClampNeg &&& 255 else -1 : Int32) = btA (gB I) t j := by
    rw [if_neg (nI_pos hj), h1, nI_clamp hj]
    unfold btA gB
    by_cases c : j < t
    · rw [if_pos (nI_lt c (by omega)), if_pos c]
    · rw [if_neg (fun z => c ((nI_ltI hj (by omega)).mp z)), if_neg c]
  rw [e] at h
  exact h
set_option maxRecDepth 100000 in
set_option maxHeartbeats 4000000 in
theorem ct_X4_fail {E : zE} {I : zI} {L : zL} {R : zR} {w p : Int32} (hR : zLx R) : zCf E m_X4_fail zShF [.ref 8, .int w, .int p] I L R (none) (if I 8 10 = 0 then zi (zi I 8 10 w) 8 9 p else I) (L) (R) := by
  refine z_met (by decide) [some (.ref 8), some (.int w), some (.int p)] rfl rfl (Nat.le_of_ble_eq_true rfl) (fun X => ?_)
  refine z_aload_n d_X4_fail_0 rfl ?_
  refine z_getI d_X4_fail_1 f_X4_36 (by first | rfl | assumption) (by omega) ?_
  refine z_if_ne d_X4_fail_4 (fun h_4 => ?_) (fun h_4 => ?_)
  · exact z_return d_X4_fail_17 rfl ⟨rfl, rfl, by rw [if_neg h_4], rfl, rfl⟩
  · refine z_aload_n d_X4_fail_7 rfl ?_
    refine z_iload_n d_X4_fail_8 rfl ?_
    refine z_putI d_X4_fail_9 f_X4_36 p_X4_10 (by first | rfl | assumption) (by omega) ?_
    refine z_aload_n d_X4_fail_12 rfl ?_
    refine z_iload_n d_X4_fail_13 rfl ?_
    refine z_putI d_X4_fail_14 f_X4_49 p_X4_9 (by first | rfl | assumption) (by omega) ?_
    exact z_return d_X4_fail_17 rfl ⟨rfl, rfl, by rw [if_pos h_4], rfl, rfl⟩
set_option maxRecDepth 100000 in
set_option maxHeartbeats 4000000 in
theorem ct_X4_takeAlike {E : zE} {I : zI} {L : zL} {R : zR} {t j : Nat} {k : Int32} (hR : zLx R) (h1 : I 1 1 = nI t) (ht : t ≤ 400) (hj : j ≤ t) (h4 : I 8 4 = nI j) (h5 : I 8 5 = k) (hk : k = 2 ∨ k = 3) : zCf E m_X4_takeAlike zShF [.ref 8] I L R (none) (zi (zi I 8 7 (vf (gB I) t (I 8 7) j (rn (pTk k) (gB I) t j - j))) 8 4 (nI (rn (pTk k) (gB I) t j))) (L) (R) := by
  refine z_met (by decide) [some (.ref 8), none] rfl rfl (Nat.le_of_ble_eq_true rfl) (fun X => ?_)
  refine z_iconst d_X4_takeAlike_0 ki_0 ?_
  refine z_istore1 d_X4_takeAlike_1 rfl ?_
  have loop : ∀ (Qs : State → Prop), (∀ v, zZ E m_X4_takeAlike X Qs zShF 0 0 72 [some (.ref 8), some (.int v)] [] (zi (zi I 8 7 (vf (gB I) t (I 8 7) j (rn (pTk k) (gB I) t j - j))) 8 4 (nI (rn (pTk k) (gB I) t j))) L R) → ∀ i, i ≤ 400 → (∀ m, m < i → tokV (btA (gB I) t (j + m)) = k) → zZ E m_X4_takeAlike X Qs zShF 0 0 2 [some (.ref 8), some (.int (nI i))] [] (zi (zi I 8 7 (vf (gB I) t (I 8 7) j i)) 8 4 (nI (j + i))) L R := by
    intro Qs hx
    refine up_rec (fun i hi' ih hb => ?_)
    have fin : ¬ tokV (btA (gB I) t (j + i)) = k → rn (pTk k) (gB I) t j = j + i := fun hne => rn_eq (pTk_1 hk) ht ⟨by omega, fun m h1 h2 => by
      have := hb (m - j) (by omega)
      rw [show j + (m - j) = m by omega] at this
      unfold pTk; simpa using this, by unfold pTk; simpa using hne⟩
    refine z_iload_n d_X4_takeAlike_2 rfl ?_
    refine z_sipush d_X4_takeAlike_3 ks_400 ?_
    refine z_icmp_ge d_X4_takeAlike_6 (fun h_6 => ?_) (fun h_6 => ?_)
    · refine z_mem (I' := (zi (zi I 8 7 (vf (gB I) t (I 8 7) j (rn (pTk k) (gB I) t j - j))) 8 4 (nI (rn (pTk k) (gB I) t j)))) ?_ rfl rfl (hx _)
      have hi4 := eq_of_ge (n := 400) (by decide) hi' h_6
      have hne : ¬ tokV (btA (gB I) t (j + i)) = k := by
        rw [btA_end (by omega)]; rcases hk with rfl | rfl <;> decide
      rw [fin hne, Nat.add_sub_cancel_left]
    · have hlt := lt_of_nge (n := 400) (by decide) h_6 (by omega)
      refine z_aload_n d_X4_takeAlike_9 rfl ?_
      refine z_getR d_X4_takeAlike_10 f_X4_26 (by first | rfl | assumption) (by omega) (by first | exact hR _ _ _ rfl | rfl | assumption) ?_
      refine z_aload_n d_X4_takeAlike_13 rfl ?_
      refine z_getI d_X4_takeAlike_14 f_X4_61 (by first | rfl | assumption) (by omega) ?_
      refine z_cVi d_X4_takeAlike_17 q_X4_takeAlike_67 (by first | rfl | assumption) (by omega) ⟨rfl, rfl⟩ (ct_byte (t := t) (j := j + i) hR h1 ht (by omega)) rfl rfl rfl ⟨Nat.zero_le _, Nat.zero_le _⟩ ?_
      refine z_cSi d_X4_takeAlike_20 q_X4_takeAlike_79 ⟨rfl, rfl⟩ (ct_X4_tokenOf) rfl rfl rfl ⟨Nat.zero_le _, Nat.zero_le _⟩ ?_
      refine z_aload_n d_X4_takeAlike_23 rfl ?_
      refine z_getI d_X4_takeAlike_24 f_X4_40 (by first | rfl | assumption) (by omega) ?_
      refine z_icmp_ne d_X4_takeAlike_27 (fun h_27 => ?_) (fun h_27 => ?_)
      · refine z_mem (I' := (zi (zi I 8 7 (vf (gB I) t (I 8 7) j (rn (pTk k) (gB I) t j - j))) 8 4 (nI (rn (pTk k) (gB I) t j)))) ?_ rfl rfl (hx _)
        rw [fin (fun z => h_27 (z.trans h5.symm)), Nat.add_sub_cancel_left]
      · refine z_aload_n d_X4_takeAlike_30 rfl ?_
        refine z_aload_n d_X4_takeAlike_31 rfl ?_
        refine z_getI d_X4_takeAlike_32 f_X4_76 (by first | rfl | assumption) (by omega) ?_
        refine z_bipush d_X4_takeAlike_35 kb_10 ?_
        refine z_imul d_X4_takeAlike_37 ?_
        refine z_aload_n d_X4_takeAlike_38 rfl ?_
        refine z_getR d_X4_takeAlike_39 f_X4_26 (by first | rfl | assumption) (by omega) (by first | exact hR _ _ _ rfl | rfl | assumption) ?_
        refine z_aload_n d_X4_takeAlike_42 rfl ?_
        refine z_getI d_X4_takeAlike_43 f_X4_61 (by first | rfl | assumption) (by omega) ?_
        refine z_cVi d_X4_takeAlike_46 q_X4_takeAlike_67 (by first | rfl | assumption) (by omega) ⟨rfl, rfl⟩ (ct_byte (t := t) (j := j + i) hR h1 ht (by omega)) rfl rfl rfl ⟨Nat.zero_le _, Nat.zero_le _⟩ ?_
        refine z_iadd d_X4_takeAlike_49 ?_
        refine z_bipush d_X4_takeAlike_50 kb_48 ?_
        refine z_isub d_X4_takeAlike_52 ?_
        refine z_putI d_X4_takeAlike_53 f_X4_76 p_X4_7 (by first | rfl | assumption) (by omega) ?_
        refine z_aload_n d_X4_takeAlike_56 rfl ?_
        refine z_dup d_X4_takeAlike_57 rfl ?_
        refine z_getI d_X4_takeAlike_58 f_X4_61 (by first | rfl | assumption) (by omega) ?_
        refine z_iconst d_X4_takeAlike_61 ki_1 ?_
        refine z_iadd d_X4_takeAlike_62 ?_
        refine z_putI d_X4_takeAlike_63 f_X4_61 p_X4_4 (by first | rfl | assumption) (by omega) ?_
        refine z_iinc1 d_X4_takeAlike_66 ki_1 rfl ?_
        refine z_goto d_X4_takeAlike_69 ?_
        refine z_mem (I' := zi (zi I 8 7 (vf (gB I) t (I 8 7) j (i + 1))) 8 4 (nI (j + (i + 1)))) ?_ rfl rfl ?_
        · rw [zi_sw (j := 4) (i := 7) (by decide), zi_zz, zi_zz]
          rw [show j + (i + 1) = j + i + 1 by omega, nI_succ]
          rfl
        · rw [nI_1]
          exact ih hlt (fun m hm => by
            by_cases e : m = i
            · rw [e]; exact h_27.trans h5
            · exact hb m (by omega))
  refine z_mem (I' := zi (zi I 8 7 (vf (gB I) t (I 8 7) j 0)) 8 4 (nI (j + 0))) (by show I = zi (zi I 8 7 (I 8 7)) 8 4 (nI j); rw [zi_id rfl, zi_id h4]) rfl rfl (loop _ (fun v => ?_) 0 (Nat.zero_le 400) (fun m h => absurd h (by omega)))
  exact z_return d_X4_takeAlike_72 rfl ⟨rfl, rfl, rfl, rfl, rfl⟩
