def b2i (b : Bool) : Int32 := if b then 1 else 0
/-- a WELL's number -/
def isW (w : Int32) : Bool := decide (0 ≤ w) && decide (w < 48)
theorem zix_e {i : Int32} {n j : Nat} (e : i = nI j) (h : j < n) (hn : n < 2 ^ 31) : zix i n j := e ▸ zix_nI h hn
theorem isW_ix {w : Int32} (h : isW w = true) : zix w 48 w.toNatClampNeg := by
  simp only [isW, Bool.and_eq_true, decide_eq_true_eq] at h
  exact zix_of2 (Int32.not_lt.mpr h.1) (Int32.not_le.mpr h.2) (by decide)
/-- loops that count up, that count down -/
theorem up_rec {P : Nat → Prop} {n : Nat} (h : ∀ i, i ≤ n → (i < n → P (i + 1)) → P i) : ∀ i, i ≤ n → P i := by
  have key : ∀ m i, n - i = m → i ≤ n → P i := by
    intro m
    induction m with
    | zero => intro i hm hi; exact h i hi (fun q => absurd q (by omega))
    | succ m ih => intro i hm hi; exact h i hi (fun q => ih (i + 1) (by omega) q)
  exact fun i hi => key _ i rfl hi
theorem dn_rec {P : Nat → Prop} (h : ∀ i, (0 < i → P (i - 1)) → P i) : ∀ i, P i := by
  intro i
  induction i with
  | zero => exact h 0 (fun q => absurd q (by omega))
  | succ i ih => exact h (i + 1) (fun _ => ih)
theorem lt_of_nge {i n : Nat} (hn : n < 2 ^ 31) (h : ¬ nI n ≤ nI i) (hi : i < 2 ^ 31) : i < n := by
  rcases Nat.lt_or_ge i n with q | q
  · exact q
  · exact absurd (nI_le q hi) h
theorem eq_of_ge {i n : Nat} (hn : n < 2 ^ 31) (hi : i ≤ n) (h : nI n ≤ nI i) : i = n := by
  have := (nI_leI hn (by omega)).mp h
  omega
def zfill {α : Type} (f : Nat → α) (n : Nat) (x : α) : Nat → α := fun j => if j < n then x else f j
theorem zfill_0 {α : Type} (f : Nat → α) (x : α) : zfill f 0 x = f := by funext j; simp [zfill]
theorem zfill_s {α : Type} (f : Nat → α) (i : Nat) (x : α) : va_up (zfill f i x) i x = zfill f (i + 1) x := by
  funext j
  by_cases h : j = i
  · subst h; simp [va_up, zfill]
  · by_cases h2 : j < i
    · simp [va_up, zfill, h, h2, show j < i + 1 by omega]
    · simp [va_up, zfill, h, h2, show ¬ j < i + 1 by omega]
theorem zi_up (I : zI) (k : Nat) (f : Nat → Int32) (j : Nat) (x : Int32) : zi (va_up I k f) k j x = va_up I k (va_up f j x) := by simp [zi, up_up, up_eq]
theorem zj_up (I : zL) (k : Nat) (f : Nat → Int64) (j : Nat) (x : Int64) : zj (va_up I k f) k j x = va_up I k (va_up f j x) := by simp [zj, up_up, up_eq]
set_option maxRecDepth 100000 in
set_option maxHeartbeats 4000000 in
theorem ct_X7_isWell {E : zE} {Sh : zSh} {I : zI} {L : zL} {R : zR} {w : Int32} : zCf E m_X7_isWell Sh [.int w] I L R (some (.int (b2i (isW w)))) (I) (L) (R) := by
  refine z_met (by decide) [some (.int w)] rfl rfl (Nat.le_of_ble_eq_true rfl) (fun X => ?_)
  refine z_iload_n d_X7_isWell_0 rfl ?_
  refine z_if_lt d_X7_isWell_1 (fun h_1 => ?_) (fun h_1 => ?_)
  · refine z_iconst d_X7_isWell_14 ki_0 ?_
    exact z_zreturn d_X7_isWell_15 rfl rfl ⟨by rw [show isW w = false from by simp [isW, Int32.not_le.mpr h_1]]; rfl, rfl, rfl, rfl, rfl⟩
  · refine z_iload_n d_X7_isWell_4 rfl ?_
    refine z_bipush d_X7_isWell_5 kb_48 ?_
    refine z_icmp_ge d_X7_isWell_7 (fun h_7 => ?_) (fun h_7 => ?_)
    · refine z_iconst d_X7_isWell_14 ki_0 ?_
      exact z_zreturn d_X7_isWell_15 rfl rfl ⟨by simp_all [isW, b2i], rfl, rfl, rfl, rfl⟩
    · refine z_iconst d_X7_isWell_10 ki_1 ?_
      refine z_goto d_X7_isWell_11 ?_
      exact z_zreturn d_X7_isWell_15 rfl rfl ⟨by simp_all [isW, b2i], rfl, rfl, rfl, rfl⟩
set_option maxRecDepth 100000 in
set_option maxHeartbeats 4000000 in
theorem ct_fillI {E : zE} {Sh : zSh} {I : zI} {L : zL} {R : zR} {q n : Nat} {x : Int32} (hs : Sh[q]? = some (2, n)) (hq : q < 1000000) (hn : n < 2 ^ 31) : zCf E m_J7_fill_53178 Sh [.ref q, .int x] I L R (none) (va_up I q (zfill (I q) n x)) (L) (R) := by
  refine z_met (by decide) [some (.ref q), some (.int x), none, none] rfl rfl (Nat.le_of_ble_eq_true rfl) (fun X => ?_)
  refine z_iconst d_J7_fill_53178_0 ki_0 ?_
  refine z_istore2 d_J7_fill_53178_1 rfl ?_
  refine z_aload_n d_J7_fill_53178_2 rfl ?_
  refine z_alenI d_J7_fill_53178_3 (by first | rfl | assumption) (by omega) ?_
  refine z_istore3 d_J7_fill_53178_4 rfl ?_
  have loop : ∀ (Qs : State → Prop), zZ E m_J7_fill_53178 X Qs Sh 0 0 20 [some (.ref q), some (.int x), some (.int (nI n)), some (.int (nI n))] [] (va_up I q (zfill (I q) n x)) L R → ∀ i, i ≤ n → zZ E m_J7_fill_53178 X Qs Sh 0 0 5 [some (.ref q), some (.int x), some (.int (nI i)), some (.int (nI n))] [] (va_up I q (zfill (I q) i x)) L R := by
    intro Qs hx
    refine up_rec (fun i hi ih => ?_)
    refine z_iload_n d_J7_fill_53178_5 rfl ?_
    refine z_iload_n d_J7_fill_53178_6 rfl ?_
    refine z_icmp_ge d_J7_fill_53178_7 (fun h_7 => ?_) (fun h_7 => ?_)
    · obtain rfl := eq_of_ge hn hi h_7
      exact hx
    · have hlt := lt_of_nge hn h_7 (by omega)
      refine z_aload_n d_J7_fill_53178_10 rfl ?_
      refine z_iload_n d_J7_fill_53178_11 rfl ?_
      refine z_iload_n d_J7_fill_53178_12 rfl ?_
      refine z_iastore d_J7_fill_53178_13 (by first | rfl | assumption) (by omega) (by first | exact zix_nI (by assumption) (by first | decide | assumption) | exact zix_nI (by omega) (by first | decide | assumption) | assumption) ?_
      refine z_iinc2 d_J7_fill_53178_14 ki_1 rfl ?_
      refine z_goto d_J7_fill_53178_17 ?_
      rw [nI_1, zi_up, zfill_s]
      exact ih hlt
  refine z_mem (I' := va_up I q (zfill (I q) 0 x)) (by rw [zfill_0, up_self]) rfl rfl (loop _ ?_ 0 (Nat.zero_le n))
  exact z_return d_J7_fill_53178_20 rfl ⟨rfl, rfl, rfl, rfl, rfl⟩
set_option maxRecDepth 100000 in
set_option maxHeartbeats 4000000 in
theorem ct_fillL {E : zE} {Sh : zSh} {I : zI} {L : zL} {R : zR} {q n : Nat} {x : Int64} (hs : Sh[q]? = some (3, n)) (hq : q < 1000000) (hn : n < 2 ^ 31) : zCf E m_J7_fill_d0a16 Sh [.ref q, .long x] I L R (none) (I) (va_up L q (zfill (L q) n x)) (R) := by
  refine z_met (by decide) [some (.ref q), some (.long x), none, none, none] rfl rfl (Nat.le_of_ble_eq_true rfl) (fun X => ?_)
  refine z_iconst d_J7_fill_d0a16_0 ki_0 ?_
  refine z_istore3 d_J7_fill_d0a16_1 rfl ?_
  refine z_aload_n d_J7_fill_d0a16_2 rfl ?_
  refine z_alenL d_J7_fill_d0a16_3 (by first | rfl | assumption) (by omega) ?_
  refine z_istore4 d_J7_fill_d0a16_4 rfl ?_
  have loop : ∀ (Qs : State → Prop), zZ E m_J7_fill_d0a16 X Qs Sh 0 0 22 [some (.ref q), some (.long x), none, some (.int (nI n)), some (.int (nI n))] [] I (va_up L q (zfill (L q) n x)) R → ∀ i, i ≤ n → zZ E m_J7_fill_d0a16 X Qs Sh 0 0 6 [some (.ref q), some (.long x), none, some (.int (nI i)), some (.int (nI n))] [] I (va_up L q (zfill (L q) i x)) R := by
    intro Qs hx
    refine up_rec (fun i hi ih => ?_)
    refine z_iload_n d_J7_fill_d0a16_6 rfl ?_
    refine z_iload d_J7_fill_d0a16_7 rfl ?_
    refine z_icmp_ge d_J7_fill_d0a16_9 (fun h_9 => ?_) (fun h_9 => ?_)
    · obtain rfl := eq_of_ge hn hi h_9
      exact hx
    · have hlt := lt_of_nge hn h_9 (by omega)
      refine z_aload_n d_J7_fill_d0a16_12 rfl ?_
      refine z_iload_n d_J7_fill_d0a16_13 rfl ?_
      refine z_lload_n d_J7_fill_d0a16_14 rfl ?_
      refine z_lastore d_J7_fill_d0a16_15 (by first | rfl | assumption) (by omega) (by first | exact zix_nI (by assumption) (by first | decide | assumption) | exact zix_nI (by omega) (by first | decide | assumption) | assumption) ?_
      refine z_iinc3 d_J7_fill_d0a16_16 ki_1 rfl ?_
      refine z_goto d_J7_fill_d0a16_19 ?_
      rw [nI_1, zj_up, zfill_s]
      exact ih hlt
  refine z_mem (L' := va_up L q (zfill (L q) 0 x)) rfl (by rw [zfill_0, up_self]) rfl (loop _ ?_ 0 (Nat.zero_le n))
  exact z_return d_J7_fill_d0a16_22 rfl ⟨rfl, rfl, rfl, rfl, rfl⟩
