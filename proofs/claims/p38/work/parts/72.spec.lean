/-! the reference: tape, words, images, sheets -/
def btR (v : Int64) (k : Nat) : Int32 := ((v >>> ((shv k).toInt64 &&& 63)) &&& 255).toInt32
def apR (v : Int64) (n : Nat) (f : Nat → Int32) (m : Nat) : Nat → Int32 := fun j => if n ≤ j ∧ j < n + m then btR v (j - n) else f j
theorem apR_0 (v : Int64) (n : Nat) (f : Nat → Int32) : apR v n f 0 = f := by
  funext j
  simp [apR, show ¬ (n ≤ j ∧ j < n) by omega]
theorem apR_s (v : Int64) (n : Nat) (f : Nat → Int32) (k : Nat) : va_up (apR v n f k) (n + k) (btR v k) = apR v n f (k + 1) := by
  funext j
  by_cases h : j = n + k
  · subst h; simp [va_up, apR, show n + k < n + (k + 1) by omega]
  · by_cases h2 : n ≤ j ∧ j < n + k
    · simp [va_up, apR, h, h2, show j < n + (k + 1) by omega]
    · have h3 : ¬ (n ≤ j ∧ j < n + (k + 1)) := by omega
      simp [va_up, apR, h, h2, h3]
def fdI (I : zI) (v : Int64) (n k : Nat) : zI := va_up (zi I 64 17 (nI (n + k))) 77 (apR v n (I 77) k)
theorem fdI_1 (I : zI) (v : Int64) (n k : Nat) : fdI I v n k 64 17 = nI (n + k) := by unfold fdI; rw [up_ne (by omega), zi_at]
theorem fdI_s (I : zI) (v : Int64) (n k : Nat) : zi (zi (fdI I v n k) 77 (n + k) (btR v k)) 64 17 (nI (n + (k + 1))) = fdI I v n (k + 1) := by
  unfold fdI
  rw [zi_up, zi_up2 (by omega), zi_2, apR_s]
/-- n places from a on -/
def flR {α : Type} (f : Nat → α) (a n : Nat) (x : α) : Nat → α := fun j => if a ≤ j ∧ j < a + n then x else f j
theorem flR_0 {α : Type} (f : Nat → α) (a : Nat) (x : α) : flR f a 0 x = f := by
  funext j
  unfold flR
  rw [if_neg (by omega)]
theorem flR_s {α : Type} (f : Nat → α) (a n : Nat) (x : α) : va_up (flR f a n x) (a + n) x = flR f a (n + 1) x := by
  funext j
  by_cases e : j = a + n
  · subst e
    rw [up_eq]
    unfold flR
    rw [if_pos (by omega)]
  · rw [up_ne e]
    unfold flR
    by_cases h2 : a ≤ j ∧ j < a + n
    · rw [if_pos h2, if_pos (by omega)]
    · rw [if_neg h2, if_neg (by omega)]
theorem nI4 {i : Nat} (h : i < 4) : inV 0 3 (nI i) = true := by rcases (show i = 0 ∨ i = 1 ∨ i = 2 ∨ i = 3 by omega) with rfl | rfl | rfl | rfl <;> decide
theorem nI2 {i : Nat} (h : i < 2) : inV 0 1 (nI i) = true := by rcases (show i = 0 ∨ i = 1 by omega) with rfl | rfl <;> decide
theorem mul160 (i : Nat) : (160 : Int32) + 160 * nI i = nI (160 * (i + 1)) := by
  rw [show (160 : Int32) * nI i = nI (160 * i) from pk_mul 160 i, show (160 : Int32) + nI (160 * i) = nI (160 + 160 * i) from nI_add 160 _]
  congr 1; omega
theorem ix40 (k i : Nat) : (40 : Int32) * nI k + nI i = nI (40 * k + i) := by rw [show (40 : Int32) * nI k = nI (40 * k) from pk_mul 40 k, nI_add]
/-- what a reading meets at a cell -/
def rfR (ln sz lane : Int32) (p : Int64) : Int32 := if ln = -4 then 1 else if ln = lane then (if p < 0 then 2 else if p < sz.toInt64 then 0 else 2) else 3
def rsR (rf : Nat → Int32) : Nat → Int32
  | 0 => 0
  | c + 1 => if rsR rf c = 0 then rf c else rsR rf c
def pxL (f : Int32) (i c : Nat) : Int64 := f.toInt64 + (2 * nI i).toInt64 + (nI c).toInt64
def px (k : Nat) (f : Int32) (i : Nat) : Nat := (40 * (k : Int) + f.toInt + 2 * i).toNat
def rdG (pf : Nat → Int32) (ok : Nat → Bool) : Nat → Nat → Int32 × Nat × Bool
  | 0, i => (0, i, false)
  | m + 1, i => if pf i = 0 then (if ok i = true then rdG pf ok m (i + 1) else (0, i, true)) else (pf i, i, false)
def okR (cs : Nat → Int32) (k : Nat) (f : Int32) (i : Nat) : Bool := isW (cs (px k f i)) && inV 0 99 (cs (px k f i + 1))
def liR (cs : Nat → Int32) (k : Nat) (f : Int32) (st : Nat → Int32) : Nat → Nat → Int32
  | 0 => st
  | n + 1 => va_up (liR cs k f st n) (104 + (cs (px k f n)).toNatClampNeg) (cs (px k f n + 1))
theorem rdG_ok {pf : Nat → Int32} {ok : Nat → Bool} : ∀ (m i : Nat) (j : Nat), i ≤ j → j < (rdG pf ok m i).2.1 → pf j = 0 ∧ ok j = true
  | 0, i, j, h1, h2 => by simp [rdG] at h2; omega
  | m + 1, i, j, h1, h2 => by
    unfold rdG at h2
    split at h2
    · next ha =>
      split at h2
      · next hb =>
        rcases Nat.lt_or_ge i j with q | q
        · exact rdG_ok m (i + 1) j q h2
        · have : j = i := by omega
          subst this
          exact ⟨ha, hb⟩
      · simp at h2; omega
    · simp at h2; omega
theorem rdG_le {pf : Nat → Int32} {ok : Nat → Bool} : ∀ (m i : Nat), (rdG pf ok m i).2.1 ≤ i + m
  | 0, i => by simp [rdG]
  | m + 1, i => by
    unfold rdG
    have := @rdG_le pf ok m (i + 1)
    split
    · split
      · omega
      · simp
    · simp
theorem l_add {a b : Int64} (h1 : -(2 ^ 63) ≤ a.toInt + b.toInt) (h2 : a.toInt + b.toInt < 2 ^ 63) : (a + b).toInt = a.toInt + b.toInt := by rw [Int64.toInt_add]; exact Int.bmod_eq_of_le (by omega) (by omega)
theorem pxL_int (f : Int32) {i c : Nat} (hi : i ≤ 20) (hc : c ≤ 1) : (pxL f i c).toInt = f.toInt + 2 * i + c := by
  have h1 := f.toInt_lt
  have h2 := Int32.le_toInt f
  have e1 : (2 * nI i : Int32).toInt64.toInt = 2 * i := by rw [Int32.toInt_toInt64, show (2 : Int32) * nI i = nI (2 * i) from pk_mul 2 i, nI_toInt (by omega)]; omega
  have e2 : (nI c).toInt64.toInt = c := by rw [Int32.toInt_toInt64, nI_toInt (by omega)]
  have e0 : f.toInt64.toInt = f.toInt := Int32.toInt_toInt64 f
  unfold pxL
  have e3 : (f.toInt64 + (2 * nI i).toInt64).toInt = f.toInt + 2 * i := by rw [l_add (by rw [e0, e1]; omega) (by rw [e0, e1]; omega), e0, e1]
  rw [l_add (by rw [e3, e2]; omega) (by rw [e3, e2]; omega), e3, e2]
theorem rf_b {ln sz lane f : Int32} {i c : Nat} (hi : i ≤ 20) (hc : c ≤ 1) (h : rfR ln sz lane (pxL f i c) = 0) : 0 ≤ f.toInt + 2 * i + c ∧ f.toInt + 2 * i + c < sz.toInt := by
  have e := pxL_int f hi hc
  unfold rfR at h
  split at h
  · exact absurd h (by decide)
  · split at h
    · split at h
      · exact absurd h (by decide)
      · next h1 =>
        split at h
        · next h2 =>
          have g1 : ¬ (pxL f i c).toInt < 0 := fun q => h1 (Int64.lt_iff_toInt_lt.mpr q)
          have g2 := Int64.lt_iff_toInt_lt.mp h2
          rw [Int32.toInt_toInt64] at g2
          omega
        · exact absurd h (by decide)
    · exact absurd h (by decide)
theorem rs_2 {rf : Nat → Int32} (h : rsR rf 2 = 0) : rf 0 = 0 ∧ rf 1 = 0 := by
  simp only [rsR, if_true] at h
  split at h
  · next h0 => exact ⟨h0, h⟩
  · next h0 => exact absurd h h0
/-- where the i-th pair lies -/
theorem px_ix {k : Nat} {f : Int32} {i : Nat} (_hk : k < 4) (h0 : 0 ≤ f.toInt + 2 * i) : (40 : Int32) * nI k + f + 2 * nI i = nI (px k f i) := by
  have ef : iI f.toInt = f := Int32.ofInt_toInt f
  have e1 : (40 : Int32) * nI k = iI ((40 * k : Nat) : Int) := pk_mul 40 k
  have e2 : (2 : Int32) * nI i = iI ((2 * i : Nat) : Int) := pk_mul 2 i
  have e3 : nI (px k f i) = iI ((px k f i : Nat) : Int) := rfl
  rw [e1, e2, e3, ← ef, iI_add, iI_add, ef]
  congr 1
  unfold px
  rw [Int.toNat_of_nonneg (by omega)]
  omega
set_option maxRecDepth 100000 in
set_option maxHeartbeats 4000000 in
theorem ct_X8_feed {E : zE} {I : zI} {L : zL} {R : zR} {n : Nat} {v : Int64} (hR : zLx R) (hn : I 64 17 = nI n) (hn2 : n ≤ 400) : zCf E m_X8_feed zShF [.ref 64, .long v] I L R (some (.int (if n + 8 ≤ 400 then nI (n + 8) else -3))) (if n + 8 ≤ 400 then fdI I v n 8 else I) (L) (R) := by
  refine z_met (by decide) [some (.ref 64), some (.long v), none, none] rfl rfl (Nat.le_of_ble_eq_true rfl) (fun X => ?_)
  refine z_aload_n d_X8_feed_0 rfl ?_
  refine z_getI d_X8_feed_1 f_X8_102 (by first | rfl | assumption) (by omega) ?_
  rw [hn]
  refine z_bipush d_X8_feed_4 kb_8 ?_
  refine z_iadd d_X8_feed_6 ?_
  refine z_sipush d_X8_feed_7 ks_400 ?_
  refine z_icmp_le d_X8_feed_10 (fun h_10 => ?_) (fun h_10 => ?_)
  · have h8 : n + 8 ≤ 400 := by rw [show nI n + (8 : Int32) = nI (n + 8) from nI_add n 8] at h_10; exact (nI_leI (a := n + 8) (b := 400) (by omega) (by decide)).mp h_10
    refine z_bipush d_X8_feed_16 kb_56 ?_
    refine z_istore3 d_X8_feed_18 rfl ?_
    have loop : ∀ (Qs : State → Prop), (zZ E m_X8_feed X Qs zShF 0 0 56 [some (.ref 64), some (.long v), none, some (.int (shv 8))] [] (fdI I v n 8) L R) → ∀ k, k ≤ 8 → zZ E m_X8_feed X Qs zShF 0 0 19 [some (.ref 64), some (.long v), none, some (.int (shv k))] [] (fdI I v n k) L R := by
      intro Qs hx
      refine up_rec (fun k hk ih => ?_)
      refine z_iload_n d_X8_feed_19 rfl ?_
      refine z_if_lt d_X8_feed_20 (fun h_20 => ?_) (fun h_20 => ?_)
      · have h9 : k = 8 := by rcases Nat.lt_or_ge k 8 with q | q; exact absurd h_20 (shv_p ⟨k, q⟩); omega
        subst h9
        exact hx
      · have hlt : k < 8 := by rcases Nat.lt_or_ge k 8 with q | q; exact q; exact absurd (by rw [show k = 8 by omega]; exact shv_8) h_20
        refine z_aload_n d_X8_feed_23 rfl ?_
        refine z_getR d_X8_feed_24 f_X8_48 (by first | rfl | assumption) (by omega) (by first | exact hR _ _ _ rfl | rfl | assumption) ?_
        refine z_aload_n d_X8_feed_27 rfl ?_
        refine z_getI d_X8_feed_28 f_X8_102 (by first | rfl | assumption) (by omega) ?_
        rw [fdI_1]
        refine z_lload_n d_X8_feed_31 rfl ?_
        refine z_iload_n d_X8_feed_32 rfl ?_
        refine z_lshr d_X8_feed_33 ?_
        refine z_ldc2 d_X8_feed_34 l_X8_105 ?_
        refine z_land d_X8_feed_37 ?_
        refine z_l2i d_X8_feed_38 ?_
        refine z_iastore d_X8_feed_39 (by first | rfl | assumption) (by omega) (zix_nI (j := n + k) (by omega) (by decide)) ?_
        refine z_aload_n d_X8_feed_40 rfl ?_
        refine z_dup d_X8_feed_41 rfl ?_
        refine z_getI d_X8_feed_42 f_X8_102 (by first | rfl | assumption) (by omega) ?_
        refine z_iconst d_X8_feed_45 ki_1 ?_
        refine z_iadd d_X8_feed_46 ?_
        refine z_putI d_X8_feed_47 f_X8_102 p_X8_17 (by first | rfl | assumption) (by omega) ?_
        refine z_iinc3 d_X8_feed_50 ki_m8 rfl ?_
        refine z_goto d_X8_feed_53 ?_
        have h := ih hlt
        have e : zi (fdI I v n k) 77 (n + k) (btR v k) 64 17 + 1 = nI (n + (k + 1)) := by
          rw [zi_ne (by omega), fdI_1, nI_1, Nat.add_assoc]
        refine z_ls (ls' := [some (.ref 64), some (.long v), none, some (.int (shv (k + 1)))]) (by rw [← shv_s ⟨k, hlt⟩]) (z_mem (I' := fdI I v n (k + 1)) ?_ rfl rfl h)
        show zi (zi (fdI I v n k) 77 (n + k) (btR v k)) 64 17 (zi (fdI I v n k) 77 (n + k) (btR v k) 64 17 + 1) = _
        rw [e, fdI_s]
    refine z_mem (I' := fdI I v n 0) (by unfold fdI; rw [apR_0, Nat.add_zero, ← hn, zi_back, up_self]) rfl rfl (loop _ ?_ 0 (Nat.zero_le 8))
    refine z_aload_n d_X8_feed_56 rfl ?_
    refine z_getI d_X8_feed_57 f_X8_102 (by first | rfl | assumption) (by omega) ?_
    exact z_ireturn d_X8_feed_60 rfl ⟨by rw [if_pos h8, fdI_1], rfl, by rw [if_pos h8], rfl, rfl⟩
  · have h8 : ¬ n + 8 ≤ 400 := fun q => h_10 (by rw [show nI n + (8 : Int32) = nI (n + 8) from nI_add n 8]; exact nI_le (a := n + 8) (b := 400) q (by decide))
    refine z_bipush d_X8_feed_13 kb_m3 ?_
    exact z_ireturn d_X8_feed_15 rfl ⟨by rw [if_neg h8], rfl, by rw [if_neg h8], rfl, rfl⟩
set_option maxRecDepth 100000 in
set_option maxHeartbeats 4000000 in
theorem ct_X8_full_ {E : zE} {I : zI} {L : zL} {R : zR} {P : Nat} (hR : zLx R) (hP : P = 3 ∨ P = 4) (hI : I 68 6 = nI P) : zCf E m_X8_full_ zShF [.ref 64] I L R (some (.int (nI (2 ^ P - 1)))) (I) (L) (R) := by
  refine z_met (by decide) [some (.ref 64)] rfl rfl (Nat.le_of_ble_eq_true rfl) (fun X => ?_)
  refine z_iconst d_X8_full__0 ki_1 ?_
  refine z_aload_n d_X8_full__1 rfl ?_
  refine z_getR d_X8_full__2 f_X8_21 (by first | rfl | assumption) (by omega) (by first | exact hR _ _ _ rfl | rfl | assumption) ?_
  refine z_bipush d_X8_full__5 kb_6 ?_
  refine z_iaload d_X8_full__7 (by first | rfl | assumption) (by omega) (zix_lit 6 (by decide)) ?_
  refine z_ishl d_X8_full__8 ?_
  refine z_iconst d_X8_full__9 ki_1 ?_
  refine z_isub d_X8_full__10 ?_
  exact z_ireturn d_X8_full__11 rfl ⟨by rw [hI]; rcases hP with rfl | rfl <;> rfl, rfl, rfl, rfl, rfl⟩
set_option maxRecDepth 100000 in
set_option maxHeartbeats 4000000 in
theorem ct_X8_isWord {E : zE} {I : zI} {L : zL} {R : zR} {P : Nat} {v : Int32} (hR : zLx R) (hP : P = 3 ∨ P = 4) (hI : I 68 6 = nI P) : zCf E m_X8_isWord zShF [.ref 64, .int v] I L R (some (.int (b2i (inV 0 (nI (2 ^ P - 1)) v)))) (I) (L) (R) := by
  refine z_met (by decide) [some (.ref 64), some (.int v)] rfl rfl (Nat.le_of_ble_eq_true rfl) (fun X => ?_)
  refine z_iload_n d_X8_isWord_0 rfl ?_
  refine z_i2l d_X8_isWord_1 ?_
  refine z_lconst (v := 0) d_X8_isWord_2 (by decide) ?_
  refine z_aload_n d_X8_isWord_3 rfl ?_
  refine z_cVi d_X8_isWord_4 q_X8_isWord_267 (by first | rfl | assumption) (by omega) ⟨rfl, rfl⟩ (ct_X8_full_ hR hP (by first | assumption | simp [*])) rfl rfl rfl ⟨Nat.zero_le _, Nat.zero_le _⟩ ?_
  refine z_i2l d_X8_isWord_7 ?_
  refine z_cSi d_X8_isWord_8 q_X8_isWord_92 ⟨rfl, rfl⟩ (ct_X8_in) rfl rfl rfl ⟨Nat.zero_le _, Nat.zero_le _⟩ ?_
  exact z_zreturn d_X8_isWord_11 rfl (nar_b _) ⟨by rw [inLc (lo := 0) (by decide) rfl], rfl, rfl, rfl, rfl⟩
set_option maxRecDepth 100000 in
set_option maxHeartbeats 4000000 in
theorem ct_X8_word {E : zE} {I : zI} {L : zL} {R : zR} {v : Int32} {n P : Nat} (hR : zLx R) (hP : P = 3 ∨ P = 4) (hI : I 68 6 = nI P) (hn : I 64 6 = nI n) (hn2 : n ≤ 12) : zCf E m_X8_word zShF [.ref 64, .int v] I L R (some (.int (if inV 0 (nI (2 ^ P - 1)) v = true then (if n < 12 then nI (n + 1) else -3) else -1))) (if inV 0 (nI (2 ^ P - 1)) v = true then (if n < 12 then zi (zi I 71 n v) 64 6 (nI (n + 1)) else I) else I) (L) (R) := by
  refine z_met (by decide) [some (.ref 64), some (.int v)] rfl rfl (Nat.le_of_ble_eq_true rfl) (fun X => ?_)
  refine z_aload_n d_X8_word_0 rfl ?_
  refine z_iload_n d_X8_word_1 rfl ?_
  refine z_cVi d_X8_word_2 q_X8_word_285 (by first | rfl | assumption) (by omega) ⟨rfl, rfl⟩ (ct_X8_isWord hR hP (by first | assumption | simp [*])) rfl rfl rfl ⟨Nat.zero_le _, Nat.zero_le _⟩ ?_
  refine z_if_ne d_X8_word_5 (fun h_5 => ?_) (fun h_5 => ?_)
  · have hw := b1 h_5
    rw [hw, if_pos rfl, if_pos rfl]
    refine z_aload_n d_X8_word_10 rfl ?_
    refine z_getI d_X8_word_11 f_X8_99 (by first | rfl | assumption) (by omega) ?_
    rw [hn]
    refine z_bipush d_X8_word_14 kb_12 ?_
    refine z_icmp_ne d_X8_word_16 (fun h_16 => ?_) (fun h_16 => ?_)
    · have hlt : n < 12 := by have : n ≠ 12 := (fun q => h_16 (by rw [q]; rfl)); omega
      refine z_aload_n d_X8_word_22 rfl ?_
      refine z_getR d_X8_word_23 f_X8_30 (by first | rfl | assumption) (by omega) (by first | exact hR _ _ _ rfl | rfl | assumption) ?_
      refine z_aload_n d_X8_word_26 rfl ?_
      refine z_getI d_X8_word_27 f_X8_99 (by first | rfl | assumption) (by omega) ?_
      rw [hn]
      refine z_iload_n d_X8_word_30 rfl ?_
      refine z_iastore d_X8_word_31 (by first | rfl | assumption) (by omega) (zix_nI (j := n) (by omega) (by decide)) ?_
      refine z_aload_n d_X8_word_32 rfl ?_
      refine z_dup d_X8_word_33 rfl ?_
      refine z_getI d_X8_word_34 f_X8_99 (by first | rfl | assumption) (by omega) ?_
      rw [zi_ne (by decide), hn]
      refine z_iconst d_X8_word_37 ki_1 ?_
      refine z_iadd d_X8_word_38 ?_
      rw [nI_1]
      refine z_putI d_X8_word_39 f_X8_99 p_X8_6 (by first | rfl | assumption) (by omega) ?_
      refine z_aload_n d_X8_word_42 rfl ?_
      refine z_getI d_X8_word_43 f_X8_99 (by first | rfl | assumption) (by omega) ?_
      exact z_ireturn d_X8_word_46 rfl ⟨by rw [if_pos hlt, zi_at], rfl, by rw [if_pos hlt], rfl, rfl⟩
    · have e : n = 12 := (nI_eq (a := n) (b := 12) (by omega) (by decide)).mp h_16
      refine z_bipush d_X8_word_19 kb_m3 ?_
      exact z_ireturn d_X8_word_21 rfl ⟨by rw [if_neg (by omega)], rfl, by rw [if_neg (by omega)], rfl, rfl⟩
  · have hw := b0 h_5
    refine z_iconst d_X8_word_8 ki_m1 ?_
    exact z_ireturn d_X8_word_9 rfl ⟨by rw [hw]; rfl, rfl, by rw [hw]; rfl, rfl, rfl⟩
set_option maxRecDepth 100000 in
set_option maxHeartbeats 4000000 in
theorem ct_X8_keep {E : zE} {I : zI} {L : zL} {R : zR} {i : Nat} {kb : Bool} (hR : zLx R) (hi : i < 2) (hk : I 67 i = b2i kb) : zCf E m_X8_keep zShF [.ref 64, .int (nI i)] I L R (some (.int (b2i kb))) (va_up (zi I 67 i 1) 65 (cpR (I 65) (160 * (i + 1)) 0 160)) (va_up L 66 (cpR (L 66) (3 * (i + 1)) 0 3)) (R) := by
  refine z_met (by decide) [some (.ref 64), some (.int (nI i)), none] rfl rfl (Nat.le_of_ble_eq_true rfl) (fun X => ?_)
  refine z_iload_n d_X8_keep_0 rfl ?_
  refine z_i2l d_X8_keep_1 ?_
  refine z_lconst (v := 0) d_X8_keep_2 (by decide) ?_
  refine z_lconst (v := 1) d_X8_keep_3 (by decide) ?_
  refine z_cSi d_X8_keep_4 q_X8_keep_92 ⟨rfl, rfl⟩ (ct_X8_in) rfl rfl rfl ⟨Nat.zero_le _, Nat.zero_le _⟩ ?_
  rw [inLc (lo := 0) (hi := 1) (by decide) (by decide)]
  refine z_if_ne d_X8_keep_7 (fun h_7 => ?_) (fun h_7 => absurd (b0 h_7) (by rw [nI2 hi]; decide))
  refine z_aload_n d_X8_keep_12 rfl ?_
  refine z_getR d_X8_keep_13 f_X8_17 (by first | rfl | assumption) (by omega) (by first | exact hR _ _ _ rfl | rfl | assumption) ?_
  refine z_iload_n d_X8_keep_16 rfl ?_
  refine z_zaload d_X8_keep_17 (by first | rfl | assumption) (by omega) (by first | exact zix_nI (by assumption) (by first | decide | assumption) | exact zix_nI (by omega) (by first | decide | assumption) | assumption) ?_
  rw [hk]
  refine z_cSi d_X8_keep_18 q_X8_keep_237 ⟨rfl, rfl⟩ (ct_X8_flag (b := kb)) rfl rfl rfl ⟨Nat.zero_le _, Nat.zero_le _⟩ ?_
  refine z_istore2 d_X8_keep_21 rfl ?_
  refine z_aload_n d_X8_keep_22 rfl ?_
  refine z_getR d_X8_keep_23 f_X8_17 (by first | rfl | assumption) (by omega) (by first | exact hR _ _ _ rfl | rfl | assumption) ?_
  refine z_iload_n d_X8_keep_26 rfl ?_
  refine z_iconst d_X8_keep_27 ki_1 ?_
  refine z_zastore d_X8_keep_28 (by first | rfl | assumption) (by omega) (by first | exact zix_nI (by assumption) (by first | decide | assumption) | exact zix_nI (by omega) (by first | decide | assumption) | assumption) ?_
  rw [nar1]
  refine z_aload_n d_X8_keep_29 rfl ?_
  refine z_sipush d_X8_keep_30 ks_160 ?_
  refine z_sipush d_X8_keep_33 ks_160 ?_
  refine z_iload_n d_X8_keep_36 rfl ?_
  refine z_imul d_X8_keep_37 ?_
  refine z_iadd d_X8_keep_38 ?_
  rw [mul160]
  refine z_iconst d_X8_keep_39 ki_0 ?_
  refine z_cVv d_X8_keep_40 q_X8_keep_243 (by first | rfl | assumption) (by omega) ⟨rfl, rfl⟩ (ct_X8_copies (a := i + 1) (b := 0) hR (by omega) (by omega) (by omega)) rfl rfl rfl ⟨Nat.zero_le _, Nat.zero_le _⟩ ?_
  refine z_iload_n d_X8_keep_43 rfl ?_
  exact z_ireturn d_X8_keep_44 rfl ⟨rfl, rfl, by rw [zi_ne (by decide)], rfl, rfl⟩
set_option maxRecDepth 100000 in
set_option maxHeartbeats 4000000 in
theorem ct_X8_keep_bad {E : zE} {I : zI} {L : zL} {R : zR} {x : Int32} (hR : zLx R) (hx : inV 0 1 x = false) : zCf E m_X8_keep zShF [.ref 64, .int x] I L R (some (.int (-1))) (I) (L) (R) := by
  refine z_met (by decide) [some (.ref 64), some (.int x), none] rfl rfl (Nat.le_of_ble_eq_true rfl) (fun X => ?_)
  refine z_iload_n d_X8_keep_0 rfl ?_
  refine z_i2l d_X8_keep_1 ?_
  refine z_lconst (v := 0) d_X8_keep_2 (by decide) ?_
  refine z_lconst (v := 1) d_X8_keep_3 (by decide) ?_
  refine z_cSi d_X8_keep_4 q_X8_keep_92 ⟨rfl, rfl⟩ (ct_X8_in) rfl rfl rfl ⟨Nat.zero_le _, Nat.zero_le _⟩ ?_
  rw [inLc (lo := 0) (hi := 1) (by decide) (by decide)]
  refine z_if_ne d_X8_keep_7 (fun h_7 => absurd (b1 h_7) (by rw [hx]; decide)) (fun h_7 => ?_)
  refine z_iconst d_X8_keep_10 ki_m1 ?_
  exact z_ireturn d_X8_keep_11 rfl ⟨rfl, rfl, rfl, rfl, rfl⟩
set_option maxRecDepth 100000 in
set_option maxHeartbeats 4000000 in
theorem ct_X8_back {E : zE} {I : zI} {L : zL} {R : zR} {i : Nat} (hR : zLx R) (hi : i < 2) : zCf E m_X8_back zShF [.ref 64, .int (nI i)] I L R (some (.int (if I 67 i = 0 then -2 else sumV (fun k => cpR (I 65) 0 (160 * (i + 1)) 160 (0 + k)) 48))) (if I 67 i = 0 then I else va_up I 65 (cpR (I 65) 0 (160 * (i + 1)) 160)) (if I 67 i = 0 then L else va_up L 66 (cpR (L 66) 0 (3 * (i + 1)) 3)) (R) := by
  refine z_met (by decide) [some (.ref 64), some (.int (nI i))] rfl rfl (Nat.le_of_ble_eq_true rfl) (fun X => ?_)
  refine z_iload_n d_X8_back_0 rfl ?_
  refine z_i2l d_X8_back_1 ?_
  refine z_lconst (v := 0) d_X8_back_2 (by decide) ?_
  refine z_lconst (v := 1) d_X8_back_3 (by decide) ?_
  refine z_cSi d_X8_back_4 q_X8_back_92 ⟨rfl, rfl⟩ (ct_X8_in) rfl rfl rfl ⟨Nat.zero_le _, Nat.zero_le _⟩ ?_
  rw [inLc (lo := 0) (hi := 1) (by decide) (by decide)]
  refine z_if_ne d_X8_back_7 (fun h_7 => ?_) (fun h_7 => absurd (b0 h_7) (by rw [nI2 hi]; decide))
  refine z_aload_n d_X8_back_12 rfl ?_
  refine z_getR d_X8_back_13 f_X8_17 (by first | rfl | assumption) (by omega) (by first | exact hR _ _ _ rfl | rfl | assumption) ?_
  refine z_iload_n d_X8_back_16 rfl ?_
  refine z_zaload d_X8_back_17 (by first | rfl | assumption) (by omega) (by first | exact zix_nI (by assumption) (by first | decide | assumption) | exact zix_nI (by omega) (by first | decide | assumption) | assumption) ?_
  refine z_if_ne d_X8_back_18 (fun h_18 => ?_) (fun h_18 => ?_)
  · refine z_aload_n d_X8_back_24 rfl ?_
    refine z_iconst d_X8_back_25 ki_0 ?_
    refine z_sipush d_X8_back_26 ks_160 ?_
    refine z_sipush d_X8_back_29 ks_160 ?_
    refine z_iload_n d_X8_back_32 rfl ?_
    refine z_imul d_X8_back_33 ?_
    refine z_iadd d_X8_back_34 ?_
    rw [mul160]
    refine z_cVv d_X8_back_35 q_X8_back_243 (by first | rfl | assumption) (by omega) ⟨rfl, rfl⟩ (ct_X8_copies (a := 0) (b := i + 1) hR (by omega) (by omega) (by omega)) rfl rfl rfl ⟨Nat.zero_le _, Nat.zero_le _⟩ ?_
    refine z_aload_n d_X8_back_38 rfl ?_
    refine z_iconst d_X8_back_39 ki_0 ?_
    refine z_bipush d_X8_back_40 kb_48 ?_
    refine z_cVi d_X8_back_42 q_X8_back_213 (by first | rfl | assumption) (by omega) ⟨rfl, rfl⟩ (ct_X8_sumOf (b := 0) (m := 48) hR (by decide)) rfl rfl rfl ⟨Nat.zero_le _, Nat.zero_le _⟩ ?_
    exact z_ireturn d_X8_back_45 rfl ⟨by rw [if_neg h_18]; simp only [up_eq], rfl, by rw [if_neg h_18], by rw [if_neg h_18], rfl⟩
  · refine z_bipush d_X8_back_21 kb_m2 ?_
    exact z_ireturn d_X8_back_23 rfl ⟨by rw [if_pos h_18], rfl, by rw [if_pos h_18], by rw [if_pos h_18], rfl⟩
set_option maxRecDepth 100000 in
set_option maxHeartbeats 4000000 in
theorem ct_X8_back_bad {E : zE} {I : zI} {L : zL} {R : zR} {x : Int32} (hR : zLx R) (hx : inV 0 1 x = false) : zCf E m_X8_back zShF [.ref 64, .int x] I L R (some (.int (-1))) (I) (L) (R) := by
  refine z_met (by decide) [some (.ref 64), some (.int x)] rfl rfl (Nat.le_of_ble_eq_true rfl) (fun X => ?_)
  refine z_iload_n d_X8_back_0 rfl ?_
  refine z_i2l d_X8_back_1 ?_
  refine z_lconst (v := 0) d_X8_back_2 (by decide) ?_
  refine z_lconst (v := 1) d_X8_back_3 (by decide) ?_
  refine z_cSi d_X8_back_4 q_X8_back_92 ⟨rfl, rfl⟩ (ct_X8_in) rfl rfl rfl ⟨Nat.zero_le _, Nat.zero_le _⟩ ?_
  rw [inLc (lo := 0) (hi := 1) (by decide) (by decide)]
  refine z_if_ne d_X8_back_7 (fun h_7 => absurd (b1 h_7) (by rw [hx]; decide)) (fun h_7 => ?_)
  refine z_iconst d_X8_back_10 ki_m1 ?_
  exact z_ireturn d_X8_back_11 rfl ⟨rfl, rfl, rfl, rfl, rfl⟩
set_option maxRecDepth 100000 in
set_option maxHeartbeats 4000000 in
theorem ct_X8_sheet {E : zE} {I : zI} {L : zL} {R : zR} {i : Nat} {lane n : Int32} (hR : zLx R) (hi : i < 4) (hl : inV 0 2 lane = true) (hn : n ≤ 40) : zCf E m_X8_sheet zShF [.ref 64, .int (nI i), .int lane, .int n] I L R (some (.int (if 0 ≤ n then 1 else -14))) (if 0 ≤ n then va_up (zi (zi I 82 i lane) 83 i n) 84 (flR (I 84) (40 * i) 40 0) else I) (L) (R) := by
  refine z_met (by decide) [some (.ref 64), some (.int (nI i)), some (.int lane), some (.int n), none] rfl rfl (Nat.le_of_ble_eq_true rfl) (fun X => ?_)
  refine z_iload_n d_X8_sheet_0 rfl ?_
  refine z_iload_n d_X8_sheet_1 rfl ?_
  refine z_cSi d_X8_sheet_2 q_X8_sheet_316 ⟨rfl, rfl⟩ (ct_X8_isSheet) rfl rfl rfl ⟨Nat.zero_le _, Nat.zero_le _⟩ ?_
  refine z_if_eq d_X8_sheet_5 (fun h_5 => absurd (b0 h_5) (by rw [nI4 hi, hl]; decide)) (fun h_5 => ?_)
  refine z_iload_n d_X8_sheet_8 rfl ?_
  refine z_bipush d_X8_sheet_9 kb_40 ?_
  refine z_icmp_le d_X8_sheet_11 (fun h_11 => ?_) (fun h_11 => absurd hn h_11)
  refine z_iload_n d_X8_sheet_16 rfl ?_
  refine z_if_ge d_X8_sheet_17 (fun h_17 => ?_) (fun h_17 => ?_)
  · refine z_aload_n d_X8_sheet_23 rfl ?_
    refine z_getR d_X8_sheet_24 f_X8_63 (by first | rfl | assumption) (by omega) (by first | exact hR _ _ _ rfl | rfl | assumption) ?_
    refine z_iload_n d_X8_sheet_27 rfl ?_
    refine z_iload_n d_X8_sheet_28 rfl ?_
    refine z_iastore d_X8_sheet_29 (by first | rfl | assumption) (by omega) (zix_nI (j := i) hi (by decide)) ?_
    refine z_aload_n d_X8_sheet_30 rfl ?_
    refine z_getR d_X8_sheet_31 f_X8_66 (by first | rfl | assumption) (by omega) (by first | exact hR _ _ _ rfl | rfl | assumption) ?_
    refine z_iload_n d_X8_sheet_34 rfl ?_
    refine z_iload_n d_X8_sheet_35 rfl ?_
    refine z_iastore d_X8_sheet_36 (by first | rfl | assumption) (by omega) (zix_nI (j := i) hi (by decide)) ?_
    refine z_iconst d_X8_sheet_37 ki_0 ?_
    refine z_istore4 d_X8_sheet_38 rfl ?_
    have loop : ∀ (Qs : State → Prop), (zZ E m_X8_sheet X Qs zShF 0 0 66 [some (.ref 64), some (.int (nI i)), some (.int lane), some (.int n), some (.int (nI 40))] [] (va_up (zi (zi I 82 i lane) 83 i n) 84 (flR (I 84) (40 * i) 40 0)) L R) → ∀ j, j ≤ 40 → zZ E m_X8_sheet X Qs zShF 0 0 40 [some (.ref 64), some (.int (nI i)), some (.int lane), some (.int n), some (.int (nI j))] [] (va_up (zi (zi I 82 i lane) 83 i n) 84 (flR (I 84) (40 * i) j 0)) L R := by
      intro Qs hx
      refine up_rec (fun j hj ih => ?_)
      refine z_iload d_X8_sheet_40 rfl ?_
      refine z_bipush d_X8_sheet_42 kb_40 ?_
      refine z_icmp_ge d_X8_sheet_44 (fun h_44 => ?_) (fun h_44 => ?_)
      · obtain rfl := eq_of_ge (n := 40) (by decide) hj h_44
        exact hx
      · have hlt := lt_of_nge (n := 40) (by decide) h_44 (by omega)
        refine z_aload_n d_X8_sheet_47 rfl ?_
        refine z_getR d_X8_sheet_48 f_X8_69 (by first | rfl | assumption) (by omega) (by first | exact hR _ _ _ rfl | rfl | assumption) ?_
        refine z_bipush d_X8_sheet_51 kb_40 ?_
        refine z_iload_n d_X8_sheet_53 rfl ?_
        refine z_imul d_X8_sheet_54 ?_
        refine z_iload d_X8_sheet_55 rfl ?_
        refine z_iadd d_X8_sheet_57 ?_
        refine z_iconst d_X8_sheet_58 ki_0 ?_
        refine z_iastore d_X8_sheet_59 (by first | rfl | assumption) (by omega) (zix_e (ix40 i j) (by omega) (by decide)) ?_
        refine z_iinc4 d_X8_sheet_60 ki_1 rfl ?_
        refine z_goto d_X8_sheet_63 ?_
        rw [nI_1, zi_up, flR_s]
        exact ih hlt
    refine z_mem (I' := va_up (zi (zi I 82 i lane) 83 i n) 84 (flR (I 84) (40 * i) 0 0)) (by rw [flR_0, show I 84 = zi (zi I 82 i lane) 83 i n 84 from by rw [zi_ne (by decide), zi_ne (by decide)], up_self]) rfl rfl (loop _ ?_ 0 (Nat.zero_le 40))
    refine z_iconst d_X8_sheet_66 ki_1 ?_
    exact z_ireturn d_X8_sheet_67 rfl ⟨by rw [if_pos h_17], rfl, by rw [if_pos h_17], rfl, rfl⟩
  · refine z_bipush d_X8_sheet_20 kb_m14 ?_
    exact z_ireturn d_X8_sheet_22 rfl ⟨by rw [if_neg h_17], rfl, by rw [if_neg h_17], rfl, rfl⟩
set_option maxRecDepth 100000 in
set_option maxHeartbeats 4000000 in
theorem ct_X8_sheet_bad {E : zE} {I : zI} {L : zL} {R : zR} {k lane n : Int32} (hR : zLx R) (hb : inV 0 3 k = false ∨ inV 0 2 lane = false ∨ ¬ n ≤ 40) : zCf E m_X8_sheet zShF [.ref 64, .int k, .int lane, .int n] I L R (some (.int (-1))) (I) (L) (R) := by
  refine z_met (by decide) [some (.ref 64), some (.int k), some (.int lane), some (.int n), none] rfl rfl (Nat.le_of_ble_eq_true rfl) (fun X => ?_)
  refine z_iload_n d_X8_sheet_0 rfl ?_
  refine z_iload_n d_X8_sheet_1 rfl ?_
  refine z_cSi d_X8_sheet_2 q_X8_sheet_316 ⟨rfl, rfl⟩ (ct_X8_isSheet) rfl rfl rfl ⟨Nat.zero_le _, Nat.zero_le _⟩ ?_
  refine z_if_eq d_X8_sheet_5 (fun h_5 => ?_) (fun h_5 => ?_)
  · refine z_iconst d_X8_sheet_14 ki_m1 ?_
    exact z_ireturn d_X8_sheet_15 rfl ⟨rfl, rfl, rfl, rfl, rfl⟩
  · refine z_iload_n d_X8_sheet_8 rfl ?_
    refine z_bipush d_X8_sheet_9 kb_40 ?_
    refine z_icmp_le d_X8_sheet_11 (fun h_11 => absurd hb (fun q => by have e := b1 h_5; simp only [Bool.and_eq_true] at e; rw [e.1, e.2] at q; simp [h_11] at q)) (fun h_11 => ?_)
    refine z_iconst d_X8_sheet_14 ki_m1 ?_
    exact z_ireturn d_X8_sheet_15 rfl ⟨rfl, rfl, rfl, rfl, rfl⟩
set_option maxRecDepth 100000 in
set_option maxHeartbeats 4000000 in
theorem ct_X8_lay {E : zE} {I : zI} {L : zL} {R : zR} {k : Nat} {i v : Int32} (hR : zLx R) (hk4 : k < 4) (h0 : 0 ≤ (I 83 k).toInt) (h40 : (I 83 k).toInt ≤ 40) : zCf E m_X8_lay zShF [.ref 64, .int (nI k), .int i, .int v] I L R (some (.int (if I 82 k = -4 then -11 else if inV 0 (I 83 k - 1) i = true then 1 else -12))) (if I 82 k = -4 then I else if inV 0 (I 83 k - 1) i = true then zi I 84 (40 * k + i.toNatClampNeg) (putV (I 82 k) v) else I) (L) (R) := by
  refine z_met (by decide) [some (.ref 64), some (.int (nI k)), some (.int i), some (.int v)] rfl rfl (Nat.le_of_ble_eq_true rfl) (fun X => ?_)
  refine z_iload_n d_X8_lay_0 rfl ?_
  refine z_iconst d_X8_lay_1 ki_0 ?_
  refine z_cSi d_X8_lay_2 q_X8_lay_316 ⟨rfl, rfl⟩ (ct_X8_isSheet) rfl rfl rfl ⟨Nat.zero_le _, Nat.zero_le _⟩ ?_
  refine z_if_ne d_X8_lay_5 (fun h_5 => ?_) (fun h_5 => absurd (b0 h_5) (by rw [nI4 hk4]; decide))
  refine z_aload_n d_X8_lay_10 rfl ?_
  refine z_getR d_X8_lay_11 f_X8_63 (by first | rfl | assumption) (by omega) (by first | exact hR _ _ _ rfl | rfl | assumption) ?_
  refine z_iload_n d_X8_lay_14 rfl ?_
  refine z_iaload d_X8_lay_15 (by first | rfl | assumption) (by omega) (zix_nI (j := k) hk4 (by decide)) ?_
  refine z_bipush d_X8_lay_16 kb_m4 ?_
  refine z_icmp_ne d_X8_lay_18 (fun h_18 => ?_) (fun h_18 => ?_)
  · refine z_iload_n d_X8_lay_24 rfl ?_
    refine z_i2l d_X8_lay_25 ?_
    refine z_lconst (v := 0) d_X8_lay_26 (by decide) ?_
    refine z_aload_n d_X8_lay_27 rfl ?_
    refine z_getR d_X8_lay_28 f_X8_66 (by first | rfl | assumption) (by omega) (by first | exact hR _ _ _ rfl | rfl | assumption) ?_
    refine z_iload_n d_X8_lay_31 rfl ?_
    refine z_iaload d_X8_lay_32 (by first | rfl | assumption) (by omega) (zix_nI (j := k) hk4 (by decide)) ?_
    refine z_iconst d_X8_lay_33 ki_1 ?_
    refine z_isub d_X8_lay_34 ?_
    refine z_i2l d_X8_lay_35 ?_
    refine z_cSi d_X8_lay_36 q_X8_lay_92 ⟨rfl, rfl⟩ (ct_X8_in) rfl rfl rfl ⟨Nat.zero_le _, Nat.zero_le _⟩ ?_
    rw [inLc (lo := 0) (by decide) rfl]
    refine z_if_ne d_X8_lay_39 (fun h_39 => ?_) (fun h_39 => ?_)
    · have hw := b1 h_39
      have hiw : i = nI i.toNatClampNeg ∧ i.toNatClampNeg < 40 := by
        simp only [inV, Bool.and_eq_true, Bool.not_eq_true', decide_eq_false_iff_not] at hw
        have e1 : (I 83 k - 1).toInt = (I 83 k).toInt - 1 := by rw [i_sub (by rw [show (1 : Int32).toInt = 1 from rfl]; omega) (by rw [show (1 : Int32).toInt = 1 from rfl]; omega)]; rfl
        have h2 : ¬ 39 < i := fun g => by
          have g2 := Int32.lt_iff_toInt_lt.mp g
          have g3 := mt Int32.lt_iff_toInt_lt.mpr hw.2
          rw [show (39 : Int32).toInt = 39 from rfl] at g2
          omega
        obtain ⟨e, h3⟩ := nat_of (n := 39) (by decide) hw.1 h2
        exact ⟨e, by omega⟩
      have hix : zix ((40 : Int32) * nI k + i) 160 (40 * k + i.toNatClampNeg) := zix_e (by rw [← ix40, ← hiw.1]) (by omega) (by decide)
      refine z_aload_n d_X8_lay_45 rfl ?_
      refine z_getR d_X8_lay_46 f_X8_69 (by first | rfl | assumption) (by omega) (by first | exact hR _ _ _ rfl | rfl | assumption) ?_
      refine z_bipush d_X8_lay_49 kb_40 ?_
      refine z_iload_n d_X8_lay_51 rfl ?_
      refine z_imul d_X8_lay_52 ?_
      refine z_iload_n d_X8_lay_53 rfl ?_
      refine z_iadd d_X8_lay_54 ?_
      refine z_aload_n d_X8_lay_55 rfl ?_
      refine z_getR d_X8_lay_56 f_X8_63 (by first | rfl | assumption) (by omega) (by first | exact hR _ _ _ rfl | rfl | assumption) ?_
      refine z_iload_n d_X8_lay_59 rfl ?_
      refine z_iaload d_X8_lay_60 (by first | rfl | assumption) (by omega) (zix_nI (j := k) hk4 (by decide)) ?_
      refine z_if_ne d_X8_lay_61 (fun h_61 => ?_) (fun h_61 => ?_)
      · refine z_aload_n d_X8_lay_69 rfl ?_
        refine z_getR d_X8_lay_70 f_X8_63 (by first | rfl | assumption) (by omega) (by first | exact hR _ _ _ rfl | rfl | assumption) ?_
        refine z_iload_n d_X8_lay_73 rfl ?_
        refine z_iaload d_X8_lay_74 (by first | rfl | assumption) (by omega) (zix_nI (j := k) hk4 (by decide)) ?_
        refine z_iconst d_X8_lay_75 ki_1 ?_
        refine z_icmp_ne d_X8_lay_76 (fun h_76 => ?_) (fun h_76 => ?_)
        · refine z_iload_n d_X8_lay_84 rfl ?_
          refine z_iastore d_X8_lay_85 (by first | rfl | assumption) (by omega) hix ?_
          refine z_iconst d_X8_lay_86 ki_1 ?_
          exact z_ireturn d_X8_lay_87 rfl ⟨by rw [if_neg h_18, if_pos hw], rfl, by rw [if_neg h_18, if_pos hw]; unfold putV; first | rw [if_pos h_61] | rw [if_neg h_61, if_pos h_76] | rw [if_neg h_61, if_neg h_76], rfl, rfl⟩
        · refine z_iload_n d_X8_lay_79 rfl ?_
          refine z_i2s d_X8_lay_80 ?_
          refine z_goto d_X8_lay_81 ?_
          refine z_iastore d_X8_lay_85 (by first | rfl | assumption) (by omega) hix ?_
          refine z_iconst d_X8_lay_86 ki_1 ?_
          exact z_ireturn d_X8_lay_87 rfl ⟨by rw [if_neg h_18, if_pos hw], rfl, by rw [if_neg h_18, if_pos hw]; unfold putV; first | rw [if_pos h_61] | rw [if_neg h_61, if_pos h_76] | rw [if_neg h_61, if_neg h_76], rfl, rfl⟩
      · refine z_iload_n d_X8_lay_64 rfl ?_
        refine z_i2b d_X8_lay_65 ?_
        refine z_goto d_X8_lay_66 ?_
        refine z_iastore d_X8_lay_85 (by first | rfl | assumption) (by omega) hix ?_
        refine z_iconst d_X8_lay_86 ki_1 ?_
        exact z_ireturn d_X8_lay_87 rfl ⟨by rw [if_neg h_18, if_pos hw], rfl, by rw [if_neg h_18, if_pos hw]; unfold putV; first | rw [if_pos h_61] | rw [if_neg h_61, if_pos h_76] | rw [if_neg h_61, if_neg h_76], rfl, rfl⟩
    · refine z_bipush d_X8_lay_42 kb_m12 ?_
      exact z_ireturn d_X8_lay_44 rfl ⟨by rw [if_neg h_18, b0 h_39]; rfl, rfl, by rw [if_neg h_18, b0 h_39]; rfl, rfl, rfl⟩
  · refine z_bipush d_X8_lay_21 kb_m11 ?_
    exact z_ireturn d_X8_lay_23 rfl ⟨by rw [if_pos h_18], rfl, by rw [if_pos h_18], rfl, rfl⟩
set_option maxRecDepth 100000 in
set_option maxHeartbeats 4000000 in
theorem ct_X8_lay_bad {E : zE} {I : zI} {L : zL} {R : zR} {k i v : Int32} (hR : zLx R) (hb : inV 0 3 k = false) : zCf E m_X8_lay zShF [.ref 64, .int k, .int i, .int v] I L R (some (.int (-1))) (I) (L) (R) := by
  refine z_met (by decide) [some (.ref 64), some (.int k), some (.int i), some (.int v)] rfl rfl (Nat.le_of_ble_eq_true rfl) (fun X => ?_)
  refine z_iload_n d_X8_lay_0 rfl ?_
  refine z_iconst d_X8_lay_1 ki_0 ?_
  refine z_cSi d_X8_lay_2 q_X8_lay_316 ⟨rfl, rfl⟩ (ct_X8_isSheet) rfl rfl rfl ⟨Nat.zero_le _, Nat.zero_le _⟩ ?_
  refine z_if_ne d_X8_lay_5 (fun h_5 => absurd (b1 h_5) (by rw [hb]; decide)) (fun h_5 => ?_)
  refine z_iconst d_X8_lay_8 ki_m1 ?_
  exact z_ireturn d_X8_lay_9 rfl ⟨rfl, rfl, rfl, rfl, rfl⟩
