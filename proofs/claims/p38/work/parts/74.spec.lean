/-! the reference's picture -/
abbrev zS : Type := (Nat → Int32) × zQ
def rowR (sh : Int32 → Int32) (h b : Nat) : Nat → zS → zS
  | 0, s => s
  | n + 1, s => (va_up (rowR sh h b n s).1 (b + n) (sh (rdN2 (min h (8 - n * h)) (0, (rowR sh h b n s).2)).1), (rdN2 (min h (8 - n * h)) (0, (rowR sh h b n s).2)).2)
def picR (sh : Int32 → Int32) (f : zQ → zQ) (v h w : Nat) : Nat → zS → zS
  | 0, s => s
  | n + 1, s => rowR sh h (n * w) w ((picR sh f v h w n s).1, hdN f v (picR sh f v h w n s).2)
def kI (I : zI) (v h : Nat) (s : zS) : zI := va_up (sI (zi (zi (va_up I 65 (cpR (I 65) 480 0 160)) 64 26 (nI ((6 + v - 1) / v))) 64 27 (nI ((8 + h - 1) / h))) 3 s.2) 78 s.1
def kL (L : zL) (s : zS) : zL := sL (va_up L 66 (cpR (L 66) 9 0 3)) 3 s.2
theorem kI_ne {I : zI} {v h p : Nat} {s : zS} (h4 : p ≠ 64) (h5 : p ≠ 65) (h8 : p ≠ 78) : kI I v h s p = I p := by
  unfold kI
  rw [up_ne h8, sI_ne h5, zi_ne h4, zi_ne h4, up_ne h5]
theorem kI_78 (I : zI) (v h : Nat) (s : zS) : kI I v h s 78 = s.1 := up_eq _ _ _
theorem kI_26 (I : zI) (v h : Nat) (s : zS) : kI I v h s 64 26 = nI ((6 + v - 1) / v) := by
  unfold kI
  rw [up_ne (by decide), sI_ne (by decide), zi_at2 (by decide), zi_at]
theorem kI_27 (I : zI) (v h : Nat) (s : zS) : kI I v h s 64 27 = nI ((8 + h - 1) / h) := by
  unfold kI
  rw [up_ne (by decide), sI_ne (by decide), zi_at]
theorem kI_64 {I : zI} {v h j : Nat} {s : zS} (h1 : j ≠ 26) (h2 : j ≠ 27) : kI I v h s 64 j = I 64 j := by
  unfold kI
  rw [up_ne (by decide), sI_ne (by decide), zi_at2 h2, zi_at2 h1, up_ne (by decide)]
theorem kI_65 {I : zI} {v h a : Nat} {s : zS} (ha : a < 480) : kI I v h s 65 a = I 65 a := by
  unfold kI
  rw [up_ne (by decide), sI_o (Or.inl (by omega)), zi_ne (by decide), zi_ne (by decide), up_eq]
  unfold cpR
  rw [if_neg (by omega)]
theorem kL_66 {L : zL} {a : Nat} {s : zS} (ha : a < 9) : kL L s 66 a = L 66 a := by
  unfold kL sL
  rw [zj_at2 (by omega), zj_at2 (by omega), zj_at2 (by omega), up_eq]
  unfold cpR
  rw [if_neg (by omega)]
theorem kL_ne {L : zL} {p : Nat} {s : zS} (h : p ≠ 66) : kL L s p = L p := by
  unfold kL
  rw [sL_ne h, up_ne h]
theorem sI_va {I : zI} {k p : Nat} {q : zQ} {f : Nat → Int32} (h : p ≠ 65) : sI (va_up I p f) k q = va_up (sI I k q) p f := by
  unfold sI
  rw [up_ne (Ne.symm h), up_comm _ _ _ h]
theorem sI_zi {I : zI} {k p j : Nat} {q : zQ} {x : Int32} (h : p ≠ 65) : sI (zi I p j x) k q = zi (sI I k q) p j x := by
  unfold sI
  rw [zi_ne (Ne.symm h), zi_up2 h]
theorem kI_s (I : zI) (v h : Nat) (s : zS) (r : zQ) : sI (kI I v h s) 3 r = kI I v h (s.1, r) := by
  unfold kI
  rw [sI_va (by decide), sI_sI]
theorem kI_z (I : zI) (v h : Nat) (s : zS) (j : Nat) (x : Int32) : zi (kI I v h s) 78 j x = kI I v h (va_up s.1 j x, s.2) := by
  unfold kI
  rw [zi_up]
theorem kL_s (L : zL) (s : zS) (a : Nat → Int32) (r : zQ) : sL (kL L s) 3 r = kL L (a, r) := by
  unfold kL
  rw [sL_sL]
theorem kR (I : zI) (L : zL) (v h : Nat) (s : zS) : sR (kI I v h s) (kL L s) 3 s.2 := by
  have e : kI I v h s = sI (kI I v h s) 3 s.2 := (kI_s I v h s s.2).symm
  have e2 : kL L s = sL (kL L s) 3 s.2 := (kL_s L s s.1 s.2).symm
  rw [e, e2]
  exact sR_s _ _ _ _
def shS (I : zI) (v h : Nat) (tp : Bool) (sm : Int32) (q : zQ) : zS := picR (fun x => lsV 255 (x * I 68 4 / I 68 5)) (rhQ (I 68 0) (I 68 2) (I 70) tp sm) v h ((8 + h - 1) / h) ((6 + v - 1) / v) (I 78, nQ q (zfill (qLn q) 8 0))
theorem sR_cp {I : zI} {L : zL} {q : zQ} (hq : sR I L 0 q) : sR (va_up I 65 (cpR (I 65) (160 * 3) (160 * 0) 160)) (va_up L 66 (cpR (L 66) (3 * 3) (3 * 0) 3)) 3 q := by
  have hc : ∀ j, j < 160 → va_up I 65 (cpR (I 65) (160 * 3) (160 * 0) 160) 65 (160 * 3 + j) = I 65 j := by
    intro j hj
    rw [up_eq]
    unfold cpR
    rw [if_pos (by omega), show 160 * 0 + (160 * 3 + j - 160 * 3) = j by omega]
  have hl : ∀ j, j < 3 → va_up L 66 (cpR (L 66) (3 * 3) (3 * 0) 3) 66 (3 * 3 + j) = L 66 j := by
    intro j hj
    rw [up_eq]
    unfold cpR
    rw [if_pos (by omega), show 3 * 0 + (3 * 3 + j - 3 * 3) = j by omega]
  obtain ⟨h1, h2, h3, h4, h5, h6, h7⟩ := hq
  refine ⟨fun j hj => ?_, fun j hj => ?_, fun j hj => ?_, fun j hj => ?_, ?_, ?_, ?_⟩
  · rw [hc j (by omega), ← h1 j hj]; congr 1; omega
  · rw [show 160 * 3 + 48 + j = 160 * 3 + (48 + j) by omega, hc _ (by omega), ← h2 j hj]
  · rw [show 160 * 3 + 56 + j = 160 * 3 + (56 + j) by omega, hc _ (by omega), ← h3 j hj]
  · rw [show 160 * 3 + 104 + j = 160 * 3 + (104 + j) by omega, hc _ (by omega), ← h4 j hj]
  · exact (hl 0 (by decide)).trans h5
  · exact (hl 1 (by decide)).trans h6
  · exact (hl 2 (by decide)).trans h7
theorem kI_0 (I : zI) (v h : Nat) (q : zQ) : zi (zi (sI (va_up I 65 (cpR (I 65) (160 * 3) (160 * 0) 160)) 3 q) 64 26 (nI ((6 + v - 1) / v))) 64 27 (nI ((8 + h - 1) / h)) = kI I v h (I 78, q) := by
  unfold kI
  rw [← sI_zi (by decide), ← sI_zi (by decide)]
  have e : ∀ J : zI, J 78 = I 78 → J = va_up J 78 (I 78) := fun J hJ => by rw [← hJ, up_self]
  exact e _ (by rw [sI_ne (by decide), zi_ne (by decide), zi_ne (by decide), up_ne (by decide)])
theorem hi6 {v : Nat} (h1 : 1 ≤ v) (h3 : v ≤ 3) : ((6 : Int32) + nI v - 1) / nI v = nI ((6 + v - 1) / v) := by
  rcases (show v = 1 ∨ v = 2 ∨ v = 3 by omega) with rfl | rfl | rfl <;> decide
theorem wi8 {v : Nat} (h1 : 1 ≤ v) (h3 : v ≤ 3) : ((8 : Int32) + nI v - 1) / nI v = nI ((8 + v - 1) / v) := by
  rcases (show v = 1 ∨ v = 2 ∨ v = 3 by omega) with rfl | rfl | rfl <;> decide
theorem hi6b {v : Nat} (h1 : 1 ≤ v) (h3 : v ≤ 3) : (6 + v - 1) / v ≤ 6 ∧ ∀ n k, n < (6 + v - 1) / v → k < v → n * v + k < 6 := by
  rcases (show v = 1 ∨ v = 2 ∨ v = 3 by omega) with rfl | rfl | rfl
  · exact ⟨by decide, fun n k h g => by omega⟩
  · exact ⟨by decide, fun n k h g => by omega⟩
  · exact ⟨by decide, fun n k h g => by omega⟩
theorem wi8b {v : Nat} (h1 : 1 ≤ v) (h3 : v ≤ 3) : (8 + v - 1) / v ≤ 8 ∧ ∀ n, n < (8 + v - 1) / v → n * v < 8 := by
  rcases (show v = 1 ∨ v = 2 ∨ v = 3 by omega) with rfl | rfl | rfl
  · exact ⟨by decide, fun n h => by omega⟩
  · exact ⟨by decide, fun n h => by omega⟩
  · exact ⟨by decide, fun n h => by omega⟩
theorem ixM (a b c : Nat) : nI a * nI b + nI c = nI (a * b + c) := by rw [pk_mul, nI_add]
set_option maxRecDepth 100000 in
set_option maxHeartbeats 4000000 in
theorem ct_X8_shoots {E : zE} {I : zI} {L : zL} {R : zR} {v h : Nat} {tp : Bool} {sm : Int32} {q : zQ} (hR : zLx R) (hq : sR I L 0 q) (h5 : ¬ I 68 5 = 0) (hv1 : 1 ≤ v) (hv3 : v ≤ 3) (hh1 : 1 ≤ h) (hh3 : h ≤ 3) : zCf E m_X8_shoots zShF [.ref 64, .int (nI v), .int (nI h), .int (b2i tp), .int sm] I L R (none) (kI I v h (shS I v h tp sm q)) (kL L (shS I v h tp sm q)) (R) := by
  refine z_met (by decide) [some (.ref 64), some (.int (nI v)), some (.int (nI h)), some (.int (b2i tp)), some (.int sm), none, none, none, none] rfl rfl (Nat.le_of_ble_eq_true rfl) (fun X => ?_)
  refine z_aload_n d_X8_shoots_0 rfl ?_
  refine z_sipush d_X8_shoots_1 ks_480 ?_
  refine z_iconst d_X8_shoots_4 ki_0 ?_
  refine z_cVv d_X8_shoots_5 q_X8_shoots_243 (by first | rfl | assumption) (by omega) ⟨rfl, rfl⟩ (ct_X8_copies (a := 3) (b := 0) hR (by decide) (by decide) (by decide)) rfl rfl rfl ⟨Nat.zero_le _, Nat.zero_le _⟩ ?_
  have hq3 := sR_cp hq
  have hI0 : zi (zi (sI (va_up I 65 (cpR (I 65) (160 * 3) (160 * 0) 160)) 3 (nQ q (zfill (qLn q) 8 0))) 64 26 (nI ((6 + v - 1) / v))) 64 27 (nI ((8 + h - 1) / h)) = kI I v h (I 78, nQ q (zfill (qLn q) 8 0)) := kI_0 I v h _
  have hL0 : sL (va_up L 66 (cpR (L 66) (3 * 3) (3 * 0) 3)) 3 q = kL L (I 78, nQ q (zfill (qLn q) 8 0)) := rfl
  refine z_mem (I' := sI (va_up I 65 (cpR (I 65) (160 * 3) (160 * 0) 160)) 3 q) (L' := sL (va_up L 66 (cpR (L 66) (3 * 3) (3 * 0) 3)) 3 q) (sI_self hq3).symm (sL_self hq3).symm rfl ?_
  generalize hJ : va_up I 65 (cpR (I 65) (160 * 3) (160 * 0) 160) = J at hI0 ⊢
  generalize hK : sL (va_up L 66 (cpR (L 66) (3 * 3) (3 * 0) 3)) 3 q = K at hL0 ⊢
  refine z_iconst d_X8_shoots_8 ki_0 ?_
  refine z_istore5 d_X8_shoots_9 rfl ?_
  have loop : ∀ (Qs : State → Prop), (zZ E m_X8_shoots X Qs zShF 0 0 36 [some (.ref 64), some (.int (nI v)), some (.int (nI h)), some (.int (b2i tp)), some (.int sm), some (.int (nI 8)), none, none, none] [] (sI J 3 (nQ q (zfill (qLn q) 8 0))) K R) → ∀ i, i ≤ 8 → zZ E m_X8_shoots X Qs zShF 0 0 11 [some (.ref 64), some (.int (nI v)), some (.int (nI h)), some (.int (b2i tp)), some (.int sm), some (.int (nI i)), none, none, none] [] (sI J 3 (nQ q (zfill (qLn q) i 0))) K R := by
    intro Qs hx
    refine up_rec (fun i hi ih => ?_)
    refine z_iload d_X8_shoots_11 rfl ?_
    refine z_bipush d_X8_shoots_13 kb_8 ?_
    refine z_icmp_ge d_X8_shoots_15 (fun h_15 => ?_) (fun h_15 => ?_)
    · obtain rfl := eq_of_ge (n := 8) (by decide) hi h_15
      exact hx
    · have hlt := lt_of_nge (n := 8) (by decide) h_15 (by omega)
      refine z_aload_n d_X8_shoots_18 rfl ?_
      refine z_getR d_X8_shoots_19 f_X8_7 (by first | rfl | assumption) (by omega) (by first | exact hR _ _ _ rfl | rfl | assumption) ?_
      refine z_sipush d_X8_shoots_22 ks_528 ?_
      refine z_iload d_X8_shoots_25 rfl ?_
      refine z_iadd d_X8_shoots_27 ?_
      refine z_iconst d_X8_shoots_28 ki_0 ?_
      refine z_iastore d_X8_shoots_29 (by first | rfl | assumption) (by omega) (zix_e (show (528 : Int32) + nI i = nI (160 * 3 + 48 + i) from nI_add 528 i) (by omega) (by decide)) ?_
      refine z_iinc5 d_X8_shoots_30 ki_1 rfl ?_
      refine z_goto d_X8_shoots_33 ?_
      have hh := ih hlt
      rw [nI_1, sI_un hlt]
      refine z_mem ?_ rfl rfl hh
      rw [show qLn (nQ q (zfill (qLn q) i 0)) = zfill (qLn q) i 0 from rfl, zfill_s]
  refine z_mem (I' := sI J 3 (nQ q (zfill (qLn q) 0 0))) (by rw [zfill_0]) rfl rfl (loop _ ?_ 0 (Nat.zero_le 8))
  refine z_aload_n d_X8_shoots_36 rfl ?_
  refine z_bipush d_X8_shoots_37 kb_6 ?_
  refine z_iload_n d_X8_shoots_39 rfl ?_
  refine z_iadd d_X8_shoots_40 ?_
  refine z_iconst d_X8_shoots_41 ki_1 ?_
  refine z_isub d_X8_shoots_42 ?_
  refine z_iload_n d_X8_shoots_43 rfl ?_
  refine z_idiv d_X8_shoots_44 (nI_ne0 (by omega) (by omega)) ?_
  rw [hi6 hv1 hv3]
  refine z_putI d_X8_shoots_45 f_X8_246 p_X8_26 (by first | rfl | assumption) (by omega) ?_
  refine z_aload_n d_X8_shoots_48 rfl ?_
  refine z_bipush d_X8_shoots_49 kb_8 ?_
  refine z_iload_n d_X8_shoots_51 rfl ?_
  refine z_iadd d_X8_shoots_52 ?_
  refine z_iconst d_X8_shoots_53 ki_1 ?_
  refine z_isub d_X8_shoots_54 ?_
  refine z_iload_n d_X8_shoots_55 rfl ?_
  refine z_idiv d_X8_shoots_56 (nI_ne0 (by omega) (by omega)) ?_
  rw [wi8 hh1 hh3]
  refine z_putI d_X8_shoots_57 f_X8_249 p_X8_27 (by first | rfl | assumption) (by omega) ?_
  rw [hI0, hL0]
  refine z_iconst d_X8_shoots_60 ki_0 ?_
  refine z_istore5 d_X8_shoots_61 rfl ?_
  generalize hf : rhQ (I 68 0) (I 68 2) (I 70) tp sm = f
  generalize hsh : (fun x => lsV 255 (x * I 68 4 / I 68 5)) = sh
  generalize hs0 : ((I 78, nQ q (zfill (qLn q) 8 0)) : zS) = s0
  have hmk : shS I v h tp sm q = picR sh f v h ((8 + h - 1) / h) ((6 + v - 1) / v) s0 := by rw [← hf, ← hs0, ← hsh]; rfl
  rw [hmk]
  have hHb := hi6b hv1 hv3
  have hWb := wi8b hh1 hh3
  generalize hHH : (6 + v - 1) / v = H at hHb ⊢
  generalize hWW : (8 + h - 1) / h = W at hWb ⊢
  have k26 : ∀ s, kI I v h s 64 26 = nI H := fun s => by rw [kI_26, hHH]
  have k27 : ∀ s, kI I v h s 64 27 = nI W := fun s => by rw [kI_27, hWW]
  have k68 : ∀ s, kI I v h s 68 = I 68 := fun s => kI_ne (by decide) (by decide) (by decide)
  have k70 : ∀ s, kI I v h s 70 = I 70 := fun s => kI_ne (by decide) (by decide) (by decide)
  have loop : ∀ (Qs : State → Prop), (∀ o6 o7 o8 : Option Value, zZ E m_X8_shoots X Qs zShF 0 0 196 [some (.ref 64), some (.int (nI v)), some (.int (nI h)), some (.int (b2i tp)), some (.int sm), some (.int (nI H)), o6, o7, o8] [] (kI I v h (picR sh f v h W H s0)) (kL L (picR sh f v h W H s0)) R) → ∀ i, i ≤ H → ∀ o6 o7 o8 : Option Value, zc1 o7 = true → zZ E m_X8_shoots X Qs zShF 0 0 63 [some (.ref 64), some (.int (nI v)), some (.int (nI h)), some (.int (b2i tp)), some (.int sm), some (.int (nI i)), o6, o7, o8] [] (kI I v h (picR sh f v h W i s0)) (kL L (picR sh f v h W i s0)) R := by
    intro Qs hx
    refine up_rec (fun i hi ih o6 o7 o8 ho7 => ?_)
    generalize hs : picR sh f v h W i s0 = r at ih ⊢
    refine z_iload d_X8_shoots_63 rfl ?_
    refine z_aload_n d_X8_shoots_65 rfl ?_
    refine z_getI d_X8_shoots_66 f_X8_246 (by first | rfl | assumption) (by omega) ?_
    rw [k26]
    refine z_icmp_ge d_X8_shoots_69 (fun h_69 => ?_) (fun h_69 => ?_)
    · obtain rfl := eq_of_ge (by omega) hi h_69
      rw [← hs]
      exact hx _ _ _
    · have hlt := lt_of_nge (by omega) h_69 (by omega)
      refine z_iconst d_X8_shoots_72 ki_0 ?_
      refine z_istore6 d_X8_shoots_73 rfl ?_
      have loop2 : ∀ (Qs : State → Prop), (zZ E m_X8_shoots X Qs zShF 0 0 109 [some (.ref 64), some (.int (nI v)), some (.int (nI h)), some (.int (b2i tp)), some (.int sm), some (.int (nI i)), some (.int (nI v)), o7, o8] [] (kI I v h (r.1, hdN f v r.2)) (kL L (r.1, hdN f v r.2)) R) → ∀ n, n ≤ v → zZ E m_X8_shoots X Qs zShF 0 0 75 [some (.ref 64), some (.int (nI v)), some (.int (nI h)), some (.int (b2i tp)), some (.int sm), some (.int (nI i)), some (.int (nI n)), o7, o8] [] (kI I v h (r.1, hdN f n r.2)) (kL L (r.1, hdN f n r.2)) R := by
        intro Qs hx2
        refine up_rec (fun n hn ih2 => ?_)
        refine z_iload d_X8_shoots_75 rfl ?_
        refine z_iload_n d_X8_shoots_77 rfl ?_
        refine z_icmp_ge d_X8_shoots_78 (fun h_78 => ?_) (fun h_78 => ?_)
        · obtain rfl := eq_of_ge (by omega) hn h_78
          exact hx2
        · have hlt2 := lt_of_nge (by omega) h_78 (by omega)
          have h6 := hHb.2 i n hlt hlt2
          refine z_iload d_X8_shoots_81 rfl ?_
          refine z_iload_n d_X8_shoots_83 rfl ?_
          refine z_imul d_X8_shoots_84 ?_
          refine z_iload d_X8_shoots_85 rfl ?_
          refine z_iadd d_X8_shoots_87 ?_
          refine z_bipush d_X8_shoots_88 kb_6 ?_
          refine z_icmp_ge d_X8_shoots_90 (fun h_90 => absurd ((nI_leI (a := 6) (b := i * v + n) (by decide) (by omega)).mp (by rw [← ixM]; exact h_90)) (by omega)) (fun h_90 => ?_)
          refine z_aload_n d_X8_shoots_93 rfl ?_
          refine z_sipush d_X8_shoots_94 ks_480 ?_
          refine z_iload_n d_X8_shoots_97 rfl ?_
          refine z_iload d_X8_shoots_98 rfl ?_
          refine z_cVv d_X8_shoots_100 q_X8_shoots_222 (by first | rfl | assumption) (by omega) ⟨rfl, rfl⟩ (ct_X8_handsDown (k := 3) (tp := tp) (q := hdN f n r.2) hR (by decide) (kR I L v h (r.1, hdN f n r.2))) rfl rfl rfl ⟨Nat.zero_le _, Nat.zero_le _⟩ ?_
          refine z_iinc6 d_X8_shoots_103 ki_1 rfl ?_
          refine z_goto d_X8_shoots_106 ?_
          have h2 := ih2 hlt2
          rw [nI_1, kI_s, kL_s _ _ r.1, k68, k70, hf]
          exact h2
      refine loop2 _ ?_ 0 (Nat.zero_le v)
      refine z_iconst d_X8_shoots_109 ki_0 ?_
      refine z_istore6 d_X8_shoots_110 rfl ?_
      generalize ht0 : ((r.1, hdN f v r.2) : zS) = t0
      have loop3 : ∀ (Qs : State → Prop), (∀ o7 o8 : Option Value, zc1 o7 = true → zZ E m_X8_shoots X Qs zShF 0 0 190 [some (.ref 64), some (.int (nI v)), some (.int (nI h)), some (.int (b2i tp)), some (.int sm), some (.int (nI i)), some (.int (nI W)), o7, o8] [] (kI I v h (rowR sh h (i * W) W t0)) (kL L (rowR sh h (i * W) W t0)) R) → ∀ c, c ≤ W → ∀ o7 o8 : Option Value, zc1 o7 = true → zZ E m_X8_shoots X Qs zShF 0 0 112 [some (.ref 64), some (.int (nI v)), some (.int (nI h)), some (.int (b2i tp)), some (.int sm), some (.int (nI i)), some (.int (nI c)), o7, o8] [] (kI I v h (rowR sh h (i * W) c t0)) (kL L (rowR sh h (i * W) c t0)) R := by
        intro Qs hx3
        refine up_rec (fun c hc ih3 o7 o8 ho7 => ?_)
        generalize ht : rowR sh h (i * W) c t0 = t at ih3 ⊢
        refine z_iload d_X8_shoots_112 rfl ?_
        refine z_aload_n d_X8_shoots_114 rfl ?_
        refine z_getI d_X8_shoots_115 f_X8_249 (by first | rfl | assumption) (by omega) ?_
        rw [k27]
        refine z_icmp_ge d_X8_shoots_118 (fun h_118 => ?_) (fun h_118 => ?_)
        · obtain rfl := eq_of_ge (by omega) hc h_118
          rw [← ht]
          exact hx3 _ _ ho7
        · have hltc := lt_of_nge (by omega) h_118 (by omega)
          have hc8 := hWb.2 c hltc
          have hWW8 := hWb.1
          refine z_iconst d_X8_shoots_121 ki_0 ?_
          refine z_istore7 d_X8_shoots_122 rfl ?_
          refine z_iconst d_X8_shoots_124 ki_0 ?_
          refine z_istore8 d_X8_shoots_125 rfl ?_
          have loop4 : ∀ (Qs : State → Prop), (∀ o8 : Option Value, zZ E m_X8_shoots X Qs zShF 0 0 163 [some (.ref 64), some (.int (nI v)), some (.int (nI h)), some (.int (b2i tp)), some (.int sm), some (.int (nI i)), some (.int (nI c)), some (.int (rdN2 (min h (8 - c * h)) (0, t.2)).1), o8] [] (kI I v h (t.1, (rdN2 (min h (8 - c * h)) (0, t.2)).2)) (kL L (t.1, (rdN2 (min h (8 - c * h)) (0, t.2)).2)) R) → ∀ n, n ≤ min h (8 - c * h) → zZ E m_X8_shoots X Qs zShF 0 0 127 [some (.ref 64), some (.int (nI v)), some (.int (nI h)), some (.int (b2i tp)), some (.int sm), some (.int (nI i)), some (.int (nI c)), some (.int (rdN2 n (0, t.2)).1), some (.int (nI n))] [] (kI I v h (t.1, (rdN2 n (0, t.2)).2)) (kL L (t.1, (rdN2 n (0, t.2)).2)) R := by
            intro Qs hx4
            refine up_rec (fun n hn ih4 => ?_)
            refine z_iload d_X8_shoots_127 rfl ?_
            refine z_iload_n d_X8_shoots_129 rfl ?_
            refine z_icmp_ge d_X8_shoots_130 (fun h_130 => ?_) (fun h_130 => ?_)
            · have e1 : n = h := eq_of_ge (by omega) (by omega) h_130
              have e2 : n = min h (8 - c * h) := by omega
              rw [← e2] at hx4
              exact hx4 _
            · refine z_iload d_X8_shoots_133 rfl ?_
              refine z_iload_n d_X8_shoots_135 rfl ?_
              refine z_imul d_X8_shoots_136 ?_
              refine z_iload d_X8_shoots_137 rfl ?_
              refine z_iadd d_X8_shoots_139 ?_
              refine z_bipush d_X8_shoots_140 kb_8 ?_
              refine z_icmp_ge d_X8_shoots_142 (fun h_142 => ?_) (fun h_142 => ?_)
              · have e1 : 8 ≤ c * h + n := (nI_leI (a := 8) (b := c * h + n) (by decide) (by omega)).mp (by rw [← ixM]; exact h_142)
                have e2 : n = min h (8 - c * h) := by omega
                rw [← e2] at hx4
                exact hx4 _
              · have hnh := lt_of_nge (by omega) h_130 (by omega)
                have e1 : c * h + n < 8 := by
                  rcases Nat.lt_or_ge (c * h + n) 8 with g | g
                  · exact g
                  · exact absurd (by rw [ixM]; exact nI_le (a := 8) g (by omega)) h_142
                have hlt4 : n < min h (8 - c * h) := by omega
                refine z_iload d_X8_shoots_145 rfl ?_
                refine z_aload_n d_X8_shoots_147 rfl ?_
                refine z_sipush d_X8_shoots_148 ks_480 ?_
                refine z_cVi d_X8_shoots_151 q_X8_shoots_229 (by first | rfl | assumption) (by omega) ⟨rfl, rfl⟩ (ct_X8_takes (k := 3) (q := (rdN2 n (0, t.2)).2) hR (by decide) (kR I L v h (t.1, (rdN2 n (0, t.2)).2))) rfl rfl rfl ⟨Nat.zero_le _, Nat.zero_le _⟩ ?_
                refine z_iadd d_X8_shoots_154 ?_
                refine z_istore7 d_X8_shoots_155 rfl ?_
                refine z_iinc8 d_X8_shoots_157 ki_1 rfl ?_
                refine z_goto d_X8_shoots_160 ?_
                have h4 := ih4 hlt4
                rw [nI_1, kI_s, kL_s _ _ t.1]
                exact h4
          refine loop4 _ (fun o8 => ?_) 0 (Nat.zero_le _)
          refine z_aload_n d_X8_shoots_163 rfl ?_
          refine z_getR d_X8_shoots_164 f_X8_51 (by first | rfl | assumption) (by omega) (by first | exact hR _ _ _ rfl | rfl | assumption) ?_
          refine z_iload d_X8_shoots_167 rfl ?_
          refine z_aload_n d_X8_shoots_169 rfl ?_
          refine z_getI d_X8_shoots_170 f_X8_249 (by first | rfl | assumption) (by omega) ?_
          rw [k27]
          refine z_imul d_X8_shoots_173 ?_
          refine z_iload d_X8_shoots_174 rfl ?_
          refine z_iadd d_X8_shoots_176 ?_
          refine z_aload_n d_X8_shoots_177 rfl ?_
          refine z_iload d_X8_shoots_178 rfl ?_
          refine z_cVi d_X8_shoots_180 q_X8_shoots_232 (by first | rfl | assumption) (by omega) ⟨rfl, rfl⟩ (ct_X8_shadeOf hR (by rw [k68]; exact h5)) rfl rfl rfl ⟨Nat.zero_le _, Nat.zero_le _⟩ ?_
          rw [k68]
          have hb : i * W + c < 48 := by
            have : i * W ≤ 5 * W := Nat.mul_le_mul_right W (by have := hHb.1; omega)
            omega
          refine z_iastore d_X8_shoots_183 (by first | rfl | assumption) (by omega) (zix_e (ixM i W c) hb (by decide)) ?_
          refine z_iinc6 d_X8_shoots_184 ki_1 rfl ?_
          refine z_goto d_X8_shoots_187 ?_
          have h3 := ih3 hltc (some (.int (rdN2 (min h (8 - c * h)) (0, t.2)).1)) o8 rfl
          rw [rowR, ht, ← hsh] at h3
          rw [nI_1, kI_z]
          exact h3
      refine loop3 _ (fun o7 o8 ho7 => ?_) 0 (Nat.zero_le W) _ _ ho7
      refine z_iinc5 d_X8_shoots_190 ki_1 rfl ?_
      refine z_goto d_X8_shoots_193 ?_
      have h1 := ih hlt (some (.int (nI W))) o7 o8 ho7
      rw [picR, hs, ht0] at h1
      rw [nI_1]
      exact h1
  exact loop _ (fun o6 o7 o8 => z_return d_X8_shoots_196 rfl ⟨rfl, rfl, rfl, rfl, rfl⟩) 0 (Nat.zero_le H) _ _ _ rfl
