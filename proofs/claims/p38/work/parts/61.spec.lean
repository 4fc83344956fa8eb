/-! the reference: a state as a tuple -/
def stQ (f : Nat → Int32) (b : Nat) (q : zQ) : Nat → Int32 := fun a => if a < b then f a else if a < b + 48 then qWe q (a - b) else if a < b + 56 then qLn q (a - b - 48) else if a < b + 104 then qHe q (a - b - 56) else if a < b + 152 then qLi q (a - b - 104) else f a
theorem stQ_w {f : Nat → Int32} {b j : Nat} {q : zQ} (h : j < 48) : stQ f b q (b + j) = qWe q j := by
  unfold stQ
  rw [if_neg (by omega), if_pos (by omega), show b + j - b = j by omega]
theorem stQ_n {f : Nat → Int32} {b j : Nat} {q : zQ} (h : j < 8) : stQ f b q (b + 48 + j) = qLn q j := by
  unfold stQ
  rw [if_neg (by omega), if_neg (by omega), if_pos (by omega), show b + 48 + j - b - 48 = j by omega]
theorem stQ_h {f : Nat → Int32} {b j : Nat} {q : zQ} (h : j < 48) : stQ f b q (b + 56 + j) = qHe q j := by
  unfold stQ
  rw [if_neg (by omega), if_neg (by omega), if_neg (by omega), if_pos (by omega), show b + 56 + j - b - 56 = j by omega]
theorem stQ_l {f : Nat → Int32} {b j : Nat} {q : zQ} (h : j < 48) : stQ f b q (b + 104 + j) = qLi q j := by
  unfold stQ
  rw [if_neg (by omega), if_neg (by omega), if_neg (by omega), if_neg (by omega), if_pos (by omega), show b + 104 + j - b - 104 = j by omega]
theorem stQ_o {f : Nat → Int32} {b a : Nat} {q : zQ} (h : a < b ∨ b + 152 ≤ a) : stQ f b q a = f a := by
  unfold stQ
  rcases h with h | h
  · rw [if_pos h]
  · rw [if_neg (by omega), if_neg (by omega), if_neg (by omega), if_neg (by omega), if_neg (by omega)]
theorem stQ_ext {f g : Nat → Int32} {b : Nat} {q : zQ} (hw : ∀ j, j < 48 → g (b + j) = qWe q j) (hn : ∀ j, j < 8 → g (b + 48 + j) = qLn q j) (hh : ∀ j, j < 48 → g (b + 56 + j) = qHe q j) (hl : ∀ j, j < 48 → g (b + 104 + j) = qLi q j) (ho : ∀ a, a < b ∨ b + 152 ≤ a → g a = f a) : g = stQ f b q := by
  funext a
  by_cases h0 : a < b ∨ b + 152 ≤ a
  · rw [ho a h0, stQ_o h0]
  · by_cases h1 : a < b + 48
    · obtain ⟨j, rfl⟩ : ∃ j, a = b + j := ⟨a - b, by omega⟩
      rw [hw j (by omega), stQ_w (by omega)]
    · by_cases h2 : a < b + 56
      · obtain ⟨j, rfl⟩ : ∃ j, a = b + 48 + j := ⟨a - b - 48, by omega⟩
        rw [hn j (by omega), stQ_n (by omega)]
      · by_cases h3 : a < b + 104
        · obtain ⟨j, rfl⟩ : ∃ j, a = b + 56 + j := ⟨a - b - 56, by omega⟩
          rw [hh j (by omega), stQ_h (by omega)]
        · obtain ⟨j, rfl⟩ : ∃ j, a = b + 104 + j := ⟨a - b - 104, by omega⟩
          rw [hl j (by omega), stQ_l (by omega)]
abbrev wQ (q : zQ) (w : Nat → Int32) : zQ := (qLi q, w, qHe q, qLn q, qLo q, qRd q, qCm q)
abbrev hQ (q : zQ) (w : Nat → Int32) : zQ := (qLi q, qWe q, w, qLn q, qLo q, qRd q, qCm q)
abbrev nQ (q : zQ) (w : Nat → Int32) : zQ := (qLi q, qWe q, qHe q, w, qLo q, qRd q, qCm q)
abbrev oQ (q : zQ) (x : Int64) : zQ := (qLi q, qWe q, qHe q, qLn q, x, qRd q, qCm q)
abbrev rQ (q : zQ) (x : Int64) : zQ := (qLi q, qWe q, qHe q, qLn q, qLo q, x, qCm q)
abbrev cQ (q : zQ) (x : Int64) : zQ := (qLi q, qWe q, qHe q, qLn q, qLo q, qRd q, x)
theorem up_or {f : Nat → Int32} {j i : Nat} {x y : Int32} (h1 : i = j → y = x) (h2 : i ≠ j → y = f i) : va_up f j x i = y := by
  by_cases e : i = j
  · subst e; rw [up_eq, h1 rfl]
  · rw [up_ne e, h2 e]
theorem stQ_uw {f : Nat → Int32} {b j : Nat} {q : zQ} {x : Int32} (h : j < 48) : va_up (stQ f b q) (b + j) x = stQ f b (wQ q (va_up (qWe q) j x)) :=
  stQ_ext (fun i hi => up_or (fun e => by rw [show i = j by omega]; exact up_eq _ _ _) (fun e => by rw [stQ_w hi]; exact up_ne (by omega))) (fun i hi => by rw [up_ne (by omega)]; exact stQ_n hi) (fun i hi => by rw [up_ne (by omega)]; exact stQ_h hi) (fun i hi => by rw [up_ne (by omega)]; exact stQ_l hi) (fun a ha => by rw [up_ne (by omega)]; exact stQ_o ha)
theorem stQ_un {f : Nat → Int32} {b j : Nat} {q : zQ} {x : Int32} (h : j < 8) : va_up (stQ f b q) (b + 48 + j) x = stQ f b (nQ q (va_up (qLn q) j x)) :=
  stQ_ext (fun i hi => by rw [up_ne (by omega)]; exact stQ_w hi) (fun i hi => up_or (fun e => by rw [show i = j by omega]; exact up_eq _ _ _) (fun e => by rw [stQ_n hi]; exact up_ne (by omega))) (fun i hi => by rw [up_ne (by omega)]; exact stQ_h hi) (fun i hi => by rw [up_ne (by omega)]; exact stQ_l hi) (fun a ha => by rw [up_ne (by omega)]; exact stQ_o ha)
theorem stQ_uh {f : Nat → Int32} {b j : Nat} {q : zQ} {x : Int32} (h : j < 48) : va_up (stQ f b q) (b + 56 + j) x = stQ f b (hQ q (va_up (qHe q) j x)) :=
  stQ_ext (fun i hi => by rw [up_ne (by omega)]; exact stQ_w hi) (fun i hi => by rw [up_ne (by omega)]; exact stQ_n hi) (fun i hi => up_or (fun e => by rw [show i = j by omega]; exact up_eq _ _ _) (fun e => by rw [stQ_h hi]; exact up_ne (by omega))) (fun i hi => by rw [up_ne (by omega)]; exact stQ_l hi) (fun a ha => by rw [up_ne (by omega)]; exact stQ_o ha)
theorem stQ_ul {f : Nat → Int32} {b j : Nat} {q : zQ} {x : Int32} (h : j < 48) : va_up (stQ f b q) (b + 104 + j) x = stQ f b (va_up (qLi q) j x, q.2) :=
  stQ_ext (fun i hi => by rw [up_ne (by omega)]; exact stQ_w hi) (fun i hi => by rw [up_ne (by omega)]; exact stQ_n hi) (fun i hi => by rw [up_ne (by omega)]; exact stQ_h hi) (fun i hi => up_or (fun e => by rw [show i = j by omega]; exact up_eq _ _ _) (fun e => by rw [stQ_l hi]; exact up_ne (by omega))) (fun a ha => by rw [up_ne (by omega)]; exact stQ_o ha)
/-- the state k of the reference is q -/
def sR (I : zI) (L : zL) (k : Nat) (q : zQ) : Prop := (∀ j, j < 48 → I 65 (160 * k + j) = qWe q j) ∧ (∀ j, j < 8 → I 65 (160 * k + 48 + j) = qLn q j) ∧ (∀ j, j < 48 → I 65 (160 * k + 56 + j) = qHe q j) ∧ (∀ j, j < 48 → I 65 (160 * k + 104 + j) = qLi q j) ∧ L 66 (3 * k) = qLo q ∧ L 66 (3 * k + 1) = qRd q ∧ L 66 (3 * k + 2) = qCm q
def sI (I : zI) (k : Nat) (q : zQ) : zI := va_up I 65 (stQ (I 65) (160 * k) q)
def sL (L : zL) (k : Nat) (q : zQ) : zL := zj (zj (zj L 66 (3 * k) (qLo q)) 66 (3 * k + 1) (qRd q)) 66 (3 * k + 2) (qCm q)
theorem sI_w {I : zI} {k j : Nat} {q : zQ} (h : j < 48) : sI I k q 65 (160 * k + j) = qWe q j := by unfold sI; rw [up_eq]; exact stQ_w h
theorem sI_n {I : zI} {k j : Nat} {q : zQ} (h : j < 8) : sI I k q 65 (160 * k + 48 + j) = qLn q j := by unfold sI; rw [up_eq]; exact stQ_n h
theorem sI_h {I : zI} {k j : Nat} {q : zQ} (h : j < 48) : sI I k q 65 (160 * k + 56 + j) = qHe q j := by unfold sI; rw [up_eq]; exact stQ_h h
theorem sI_l {I : zI} {k j : Nat} {q : zQ} (h : j < 48) : sI I k q 65 (160 * k + 104 + j) = qLi q j := by unfold sI; rw [up_eq]; exact stQ_l h
theorem sI_o {I : zI} {k a : Nat} {q : zQ} (h : a < 160 * k ∨ 160 * k + 152 ≤ a) : sI I k q 65 a = I 65 a := by unfold sI; rw [up_eq]; exact stQ_o h
theorem sI_ne {I : zI} {k p : Nat} {q : zQ} (h : p ≠ 65) : sI I k q p = I p := up_ne h
theorem sL_0 {L : zL} {k : Nat} {q : zQ} : sL L k q 66 (3 * k) = qLo q := by unfold sL; rw [zj_at2 (by omega), zj_at2 (by omega), zj_at]
theorem sL_1 {L : zL} {k : Nat} {q : zQ} : sL L k q 66 (3 * k + 1) = qRd q := by unfold sL; rw [zj_at2 (by omega), zj_at]
theorem sL_2 {L : zL} {k : Nat} {q : zQ} : sL L k q 66 (3 * k + 2) = qCm q := by unfold sL; rw [zj_at]
theorem sL_ne {L : zL} {k p : Nat} {q : zQ} (h : p ≠ 66) : sL L k q p = L p := by unfold sL; rw [zj_ne h, zj_ne h, zj_ne h]
theorem sR_s (I : zI) (L : zL) (k : Nat) (q : zQ) : sR (sI I k q) (sL L k q) k q := ⟨fun _ h => sI_w h, fun _ h => sI_n h, fun _ h => sI_h h, fun _ h => sI_l h, sL_0, sL_1, sL_2⟩
theorem sI_self {I : zI} {L : zL} {k : Nat} {q : zQ} (h : sR I L k q) : sI I k q = I := by
  unfold sI
  rw [← stQ_ext h.1 h.2.1 h.2.2.1 h.2.2.2.1 (fun _ _ => rfl), up_self]
theorem sL_self {I : zI} {L : zL} {k : Nat} {q : zQ} (h : sR I L k q) : sL L k q = L := by
  unfold sL
  rw [← h.2.2.2.2.1, zj_self, ← h.2.2.2.2.2.1, zj_self, ← h.2.2.2.2.2.2, zj_self]
theorem sI_sI (I : zI) (k : Nat) (q r : zQ) : sI (sI I k q) k r = sI I k r := by
  unfold sI
  rw [up_up, up_eq]
  congr 1
  exact stQ_ext (fun _ h => stQ_w h) (fun _ h => stQ_n h) (fun _ h => stQ_h h) (fun _ h => stQ_l h) (fun a h => by rw [stQ_o h, stQ_o h])
theorem zj_comm {L : zL} {k i j : Nat} {x y : Int64} (h : i ≠ j) : zj (zj L k i x) k j y = zj (zj L k j y) k i x := by
  unfold zj
  rw [up_eq, up_up, up_eq, up_up, up_comm _ _ _ h]
theorem sL_sL (L : zL) (k : Nat) (q r : zQ) : sL (sL L k q) k r = sL L k r := by
  unfold sL
  rw [zj_comm (i := 3 * k + 2) (j := 3 * k) (by omega), zj_comm (i := 3 * k + 1) (j := 3 * k) (by omega), zj_zj, zj_comm (i := 3 * k + 2) (j := 3 * k + 1) (by omega), zj_zj, zj_zj]
theorem sI_uw {I : zI} {k j : Nat} {q : zQ} {x : Int32} (h : j < 48) : zi (sI I k q) 65 (160 * k + j) x = sI I k (wQ q (va_up (qWe q) j x)) := by unfold sI; rw [zi_up, stQ_uw h]
theorem sI_un {I : zI} {k j : Nat} {q : zQ} {x : Int32} (h : j < 8) : zi (sI I k q) 65 (160 * k + 48 + j) x = sI I k (nQ q (va_up (qLn q) j x)) := by unfold sI; rw [zi_up, stQ_un h]
theorem sI_uh {I : zI} {k j : Nat} {q : zQ} {x : Int32} (h : j < 48) : zi (sI I k q) 65 (160 * k + 56 + j) x = sI I k (hQ q (va_up (qHe q) j x)) := by unfold sI; rw [zi_up, stQ_uh h]
theorem sI_ul {I : zI} {k j : Nat} {q : zQ} {x : Int32} (h : j < 48) : zi (sI I k q) 65 (160 * k + 104 + j) x = sI I k (va_up (qLi q) j x, q.2) := by unfold sI; rw [zi_up, stQ_ul h]
theorem sL_u0 {L : zL} {k : Nat} {q : zQ} {x : Int64} : zj (sL L k q) 66 (3 * k) x = sL L k (oQ q x) := by
  unfold sL
  rw [zj_comm (by omega), zj_comm (i := 3 * k + 1) (by omega), zj_zj]
theorem sL_u1 {L : zL} {k : Nat} {q : zQ} {x : Int64} : zj (sL L k q) 66 (3 * k + 1) x = sL L k (rQ q x) := by
  unfold sL
  rw [zj_comm (by omega), zj_zj]
theorem sL_u2 {L : zL} {k : Nat} {q : zQ} {x : Int64} : zj (sL L k q) 66 (3 * k + 2) x = sL L k (cQ q x) := by
  unfold sL
  rw [zj_zj]
theorem isW_nI {w : Int32} (h : isW w = true) : w = nI w.toNatClampNeg ∧ w.toNatClampNeg < 48 := by
  have h2 := h
  rw [← isW_in] at h2
  simp only [inV, Bool.and_eq_true, Bool.not_eq_true', decide_eq_false_iff_not] at h2
  obtain ⟨e, h3⟩ := nat_of (n := 47) (by decide) h2.1 h2.2
  exact ⟨e, by omega⟩
theorem ixT {w : Int32} {b : Nat} (h : w = nI w.toNatClampNeg) : nI b + w = nI (b + w.toNatClampNeg) := by rw [← nI_add, ← h]
def flT (wl : Nat → Int32) (w off cap : Int32) : Int32 := if isW w = true ∧ ¬ off = 0 then (if 0 < cap - wl w.toNatClampNeg then lsV (cap - wl w.toNatClampNeg) off else 0) else 0
def flW (wl : Nat → Int32) (w off cap : Int32) : Nat → Int32 := if isW w = true ∧ ¬ off = 0 then va_up wl w.toNatClampNeg (wl w.toNatClampNeg + flT wl w off cap) else wl
theorem flT_n {wl : Nat → Int32} {w off cap : Int32} (h : isW w = false ∨ off = 0) : flT wl w off cap = 0 := by
  unfold flT
  rw [if_neg]
  rcases h with h | h <;> simp [h]
theorem flW_n {wl : Nat → Int32} {w off cap : Int32} (h : isW w = false ∨ off = 0) : flW wl w off cap = wl := by
  unfold flW
  rw [if_neg]
  rcases h with h | h <;> simp [h]
theorem sub_0 (x : Int32) : x - 0 = x := by simp
theorem flW_p {wl : Nat → Int32} {w off cap : Int32} (h : isW w = true) (h2 : ¬ off = 0) : flW wl w off cap = va_up wl w.toNatClampNeg (wl w.toNatClampNeg + flT wl w off cap) := by
  unfold flW
  rw [if_pos ⟨h, h2⟩]
theorem flT_p {wl : Nat → Int32} {w off cap : Int32} (h : isW w = true) (h2 : ¬ off = 0) : flT wl w off cap = (if 0 < cap - wl w.toNatClampNeg then lsV (cap - wl w.toNatClampNeg) off else 0) := by
  unfold flT
  rw [if_pos ⟨h, h2⟩]
set_option maxRecDepth 100000 in
set_option maxHeartbeats 4000000 in
theorem ct_X8_flows {E : zE} {I : zI} {L : zL} {R : zR} {k : Nat} {t o : Int32} {q : zQ} (hR : zLx R) (hk : k < 4) (hq : sR I L k q) : zCf E m_X8_flows zShF [.ref 64, .int (nI (160 * k)), .int t, .int o] I L R (some (.int (o - flT (qWe q) t o (I 68 0)))) (sI I k (wQ q (flW (qWe q) t o (I 68 0)))) (L) (R) := by
  refine z_met (by decide) [some (.ref 64), some (.int (nI (160 * k))), some (.int t), some (.int o), none, none] rfl rfl (Nat.le_of_ble_eq_true rfl) (fun X => ?_)
  refine z_iload_n d_X8_flows_0 rfl ?_
  refine z_cSi d_X8_flows_1 q_X8_flows_183 ⟨rfl, rfl⟩ (ct_X8_isWell) rfl rfl rfl ⟨Nat.zero_le _, Nat.zero_le _⟩ ?_
  refine z_if_eq d_X8_flows_4 (fun h_4 => ?_) (fun h_4 => ?_)
  · have e := b0 h_4
    refine z_iload_n d_X8_flows_11 rfl ?_
    exact z_ireturn d_X8_flows_12 rfl ⟨by rw [flT_n (Or.inl e), sub_0], rfl, by rw [flW_n (Or.inl e)]; exact (sI_self hq).symm, rfl, rfl⟩
  · refine z_iload_n d_X8_flows_7 rfl ?_
    refine z_if_ne d_X8_flows_8 (fun h_8 => ?_) (fun h_8 => ?_)
    · have hw := isW_nI (b1 h_4)
      have hwq := hq.1 _ hw.2
      refine z_aload_n d_X8_flows_13 rfl ?_
      refine z_getR d_X8_flows_14 f_X8_21 (by first | rfl | assumption) (by omega) (by first | exact hR _ _ _ rfl | rfl | assumption) ?_
      refine z_iconst d_X8_flows_17 ki_0 ?_
      refine z_iaload d_X8_flows_18 (by first | rfl | assumption) (by omega) (zix_lit 0 (by decide)) ?_
      refine z_aload_n d_X8_flows_19 rfl ?_
      refine z_getR d_X8_flows_20 f_X8_7 (by first | rfl | assumption) (by omega) (by first | exact hR _ _ _ rfl | rfl | assumption) ?_
      refine z_iload_n d_X8_flows_23 rfl ?_
      refine z_iload_n d_X8_flows_24 rfl ?_
      refine z_iadd d_X8_flows_25 ?_
      refine z_iaload d_X8_flows_26 (by first | rfl | assumption) (by omega) (zix_e (ixT hw.1) (by omega) (by decide)) ?_
      refine z_isub d_X8_flows_27 ?_
      refine z_istore4 d_X8_flows_28 rfl ?_
      refine z_iload d_X8_flows_30 rfl ?_
      refine z_if_gt d_X8_flows_32 (fun h_32 => ?_) (fun h_32 => ?_)
      · refine z_iload d_X8_flows_39 rfl ?_
        refine z_iload_n d_X8_flows_41 rfl ?_
        refine z_cSi d_X8_flows_42 q_X8_flows_191 ⟨rfl, rfl⟩ (ct_X8_less) rfl rfl rfl ⟨Nat.zero_le _, Nat.zero_le _⟩ ?_
        refine z_istore5 d_X8_flows_45 rfl ?_
        refine z_aload_n d_X8_flows_47 rfl ?_
        refine z_getR d_X8_flows_48 f_X8_7 (by first | rfl | assumption) (by omega) (by first | exact hR _ _ _ rfl | rfl | assumption) ?_
        refine z_iload_n d_X8_flows_51 rfl ?_
        refine z_iload_n d_X8_flows_52 rfl ?_
        refine z_iadd d_X8_flows_53 ?_
        refine z_dup2 d_X8_flows_54 rfl rfl ?_
        refine z_iaload d_X8_flows_55 (by first | rfl | assumption) (by omega) (zix_e (ixT hw.1) (by omega) (by decide)) ?_
        refine z_iload d_X8_flows_56 rfl ?_
        refine z_iadd d_X8_flows_58 ?_
        refine z_iastore d_X8_flows_59 (by first | rfl | assumption) (by omega) (zix_e (ixT hw.1) (by omega) (by decide)) ?_
        refine z_iload_n d_X8_flows_60 rfl ?_
        refine z_iload d_X8_flows_61 rfl ?_
        refine z_isub d_X8_flows_63 ?_
        exact z_ireturn d_X8_flows_64 rfl ⟨by rw [flT_p (b1 h_4) h_8, ← hwq]; first | rw [if_pos h_32] | rw [if_neg h_32], rfl, by rw [flW_p (b1 h_4) h_8, ← sI_uw hw.2, sI_self hq, flT_p (b1 h_4) h_8, ← hwq]; first | rw [if_pos h_32] | rw [if_neg h_32], rfl, rfl⟩
      · refine z_iconst d_X8_flows_35 ki_0 ?_
        refine z_goto d_X8_flows_36 ?_
        refine z_istore5 d_X8_flows_45 rfl ?_
        refine z_aload_n d_X8_flows_47 rfl ?_
        refine z_getR d_X8_flows_48 f_X8_7 (by first | rfl | assumption) (by omega) (by first | exact hR _ _ _ rfl | rfl | assumption) ?_
        refine z_iload_n d_X8_flows_51 rfl ?_
        refine z_iload_n d_X8_flows_52 rfl ?_
        refine z_iadd d_X8_flows_53 ?_
        refine z_dup2 d_X8_flows_54 rfl rfl ?_
        refine z_iaload d_X8_flows_55 (by first | rfl | assumption) (by omega) (zix_e (ixT hw.1) (by omega) (by decide)) ?_
        refine z_iload d_X8_flows_56 rfl ?_
        refine z_iadd d_X8_flows_58 ?_
        refine z_iastore d_X8_flows_59 (by first | rfl | assumption) (by omega) (zix_e (ixT hw.1) (by omega) (by decide)) ?_
        refine z_iload_n d_X8_flows_60 rfl ?_
        refine z_iload d_X8_flows_61 rfl ?_
        refine z_isub d_X8_flows_63 ?_
        exact z_ireturn d_X8_flows_64 rfl ⟨by rw [flT_p (b1 h_4) h_8, ← hwq]; first | rw [if_pos h_32] | rw [if_neg h_32], rfl, by rw [flW_p (b1 h_4) h_8, ← sI_uw hw.2, sI_self hq, flT_p (b1 h_4) h_8, ← hwq]; first | rw [if_pos h_32] | rw [if_neg h_32], rfl, rfl⟩
    · have e : o = 0 := h_8
      refine z_iload_n d_X8_flows_11 rfl ?_
      exact z_ireturn d_X8_flows_12 rfl ⟨by rw [flT_n (Or.inr e), sub_0], rfl, by rw [flW_n (Or.inr e)]; exact (sI_self hq).symm, rfl, rfl⟩
