abbrev exS (m : Nat → Int32) (n : Nat) (q : zQ) : zQ := (qLi q, addW m (qWe q) n, qHe q, qLn q, qLo q, qRd q, addC m n (qCm q))
theorem ex_s (m : Nat → Int32) (i : Nat) (q : zQ) : exS m (i + 1) q = cQ (wQ (exS m i q) (va_up (qWe (exS m i q)) i (qWe (exS m i q) i + m i))) (qCm (exS m i q) + (m i).toInt64) := by
  rw [exS, ← addW_s, addC]
theorem exS_0 (m : Nat → Int32) (q : zQ) : exS m 0 q = q := by
  rw [exS, addW_0, addC]
theorem sumV_congr {f g : Nat → Int32} : ∀ n, (∀ j, j < n → f j = g j) → sumV f n = sumV g n
  | 0, _ => rfl
  | n + 1, h => by rw [sumV, sumV, sumV_congr n (fun j hj => h j (by omega)), h n (by omega)]
set_option maxRecDepth 100000 in
set_option maxHeartbeats 4000000 in
theorem ct_X8_down {E : zE} {I : zI} {L : zL} {R : zR} {q : zQ} (hR : zLx R) (hq : sR I L 0 q) : zCf E m_X8_down zShF [.ref 64] I L R (some (.int (sumV (qLn (rhQ (I 68 0) (I 68 2) (I 70) true (I 68 3) q)) 8))) (sI I 0 (rhQ (I 68 0) (I 68 2) (I 70) true (I 68 3) q)) (sL L 0 (rhQ (I 68 0) (I 68 2) (I 70) true (I 68 3) q)) (R) := by
  refine z_met (by decide) [some (.ref 64)] rfl rfl (Nat.le_of_ble_eq_true rfl) (fun X => ?_)
  refine z_aload_n d_X8_down_0 rfl ?_
  refine z_iconst d_X8_down_1 ki_0 ?_
  refine z_iconst d_X8_down_2 ki_1 ?_
  refine z_aload_n d_X8_down_3 rfl ?_
  refine z_getR d_X8_down_4 f_X8_21 (by first | rfl | assumption) (by omega) (by first | exact hR _ _ _ rfl | rfl | assumption) ?_
  refine z_iconst d_X8_down_7 ki_3 ?_
  refine z_iaload d_X8_down_8 (by first | rfl | assumption) (by omega) (zix_lit 3 (by decide)) ?_
  refine z_cVv d_X8_down_9 q_X8_down_222 (by first | rfl | assumption) (by omega) ⟨rfl, rfl⟩ (ct_X8_handsDown (k := 0) (tp := true) (q := q) hR (by decide) hq) rfl rfl rfl ⟨Nat.zero_le _, Nat.zero_le _⟩ ?_
  generalize rhQ (I 68 0) (I 68 2) (I 70) true (I 68 3) q = r
  refine z_aload_n d_X8_down_12 rfl ?_
  refine z_iconst d_X8_down_13 ki_0 ?_
  refine z_cVi d_X8_down_14 q_X8_down_226 (by first | rfl | assumption) (by omega) ⟨rfl, rfl⟩ (ct_X8_lineSum (b := 0) hR (by decide)) rfl rfl rfl ⟨Nat.zero_le _, Nat.zero_le _⟩ ?_
  exact z_ireturn d_X8_down_17 rfl ⟨by rw [sumV_congr 8 (fun j hj => (sI_n (I := I) (k := 0) (q := r) hj))], rfl, rfl, rfl, rfl⟩
set_option maxRecDepth 100000 in
set_option maxHeartbeats 4000000 in
theorem ct_X8_expose {E : zE} {I : zI} {L : zL} {R : zR} {q : zQ} {t : Int32} (hR : zLx R) (hq : sR I L 0 q) : zCf E m_X8_expose zShF [.ref 64, .int t] I L R (some (.int (if inV 1 999 t = true then sumV (qWe (r5Q (I 68 0) (I 68 2) (exS (fun j => (qLi q j + I 69 j + I 68 1) * t) 48 q))) 48 else -1))) (if inV 1 999 t = true then sI I 0 (r5Q (I 68 0) (I 68 2) (exS (fun j => (qLi q j + I 69 j + I 68 1) * t) 48 q)) else I) (if inV 1 999 t = true then sL L 0 (r5Q (I 68 0) (I 68 2) (exS (fun j => (qLi q j + I 69 j + I 68 1) * t) 48 q)) else L) (R) := by
  refine z_met (by decide) [some (.ref 64), some (.int t), none] rfl rfl (Nat.le_of_ble_eq_true rfl) (fun X => ?_)
  refine z_iload_n d_X8_expose_0 rfl ?_
  refine z_i2l d_X8_expose_1 ?_
  refine z_lconst (v := 1) d_X8_expose_2 (by decide) ?_
  refine z_ldc2 d_X8_expose_3 l_X8_202 ?_
  refine z_cSi d_X8_expose_6 q_X8_expose_92 ⟨rfl, rfl⟩ (ct_X8_in) rfl rfl rfl ⟨Nat.zero_le _, Nat.zero_le _⟩ ?_
  rw [inLc (lo := 1) (hi := 999) (by decide) (by decide)]
  refine z_if_ne d_X8_expose_9 (fun h_9 => ?_) (fun h_9 => ?_)
  · rw [if_pos (b1 h_9), if_pos (b1 h_9), if_pos (b1 h_9)]
    refine z_iconst d_X8_expose_14 ki_0 ?_
    refine z_istore2 d_X8_expose_15 rfl ?_
    generalize hm : (fun j => (qLi q j + I 69 j + I 68 1) * t) = m
    have loop : ∀ (Qs : State → Prop), (zZ E m_X8_expose X Qs zShF 0 0 41 [some (.ref 64), some (.int t), some (.int (nI 48))] [] (sI I 0 (exS m 48 q)) (sL L 0 (exS m 48 q)) R) → ∀ i, i ≤ 48 → zZ E m_X8_expose X Qs zShF 0 0 16 [some (.ref 64), some (.int t), some (.int (nI i))] [] (sI I 0 (exS m i q)) (sL L 0 (exS m i q)) R := by
      intro Qs hx
      refine up_rec (fun i hi ih => ?_)
      refine z_iload_n d_X8_expose_16 rfl ?_
      refine z_bipush d_X8_expose_17 kb_48 ?_
      refine z_icmp_ge d_X8_expose_19 (fun h_19 => ?_) (fun h_19 => ?_)
      · obtain rfl := eq_of_ge (n := 48) (by decide) hi h_19
        exact hx
      · have hlt := lt_of_nge (n := 48) (by decide) h_19 (by omega)
        refine z_aload_n d_X8_expose_22 rfl ?_
        refine z_iconst d_X8_expose_23 ki_0 ?_
        refine z_iload_n d_X8_expose_24 rfl ?_
        refine z_aload_n d_X8_expose_25 rfl ?_
        refine z_iload_n d_X8_expose_26 rfl ?_
        refine z_cVi d_X8_expose_27 q_X8_expose_204 (by first | rfl | assumption) (by omega) ⟨rfl, rfl⟩ (ct_X8_rateOf hR hlt) rfl rfl rfl ⟨Nat.zero_le _, Nat.zero_le _⟩ ?_
        refine z_iload_n d_X8_expose_30 rfl ?_
        refine z_imul d_X8_expose_31 ?_
        have em : (sI I 0 (exS m i q) 65 (104 + i) + sI I 0 (exS m i q) 69 i + sI I 0 (exS m i q) 68 1) * t = m i := by
          rw [sI_ne (p := 69) (by decide), sI_ne (p := 68) (by decide), show 104 + i = 160 * 0 + 104 + i by omega, sI_l hlt, ← hm]
        rw [em]
        refine z_cVv d_X8_expose_32 q_X8_expose_207 (by first | rfl | assumption) (by omega) ⟨rfl, rfl⟩ (ct_X8_comes (k := 0) hR (by decide) hlt) rfl rfl rfl ⟨Nat.zero_le _, Nat.zero_le _⟩ ?_
        refine z_iinc2 d_X8_expose_35 ki_1 rfl ?_
        refine z_goto d_X8_expose_38 ?_
        rw [nI_1]
        refine z_mem ?_ ?_ rfl (ih hlt)
        · rw [sI_w hlt, sI_uw hlt, ex_s]
          exact (sI_cq I 0 _ _).symm
        · rw [sL_u2, sL_2, ex_s]
          exact (sL_cw L 0 (exS m i q) _ _).symm
    refine z_mem (I' := sI I 0 (exS m 0 q)) (L' := sL L 0 (exS m 0 q)) (by rw [exS_0, sI_self hq]) (by rw [exS_0, sL_self hq]) rfl (loop _ ?_ 0 (Nat.zero_le 48))
    generalize exS m 48 q = q2
    refine z_aload_n d_X8_expose_41 rfl ?_
    refine z_iconst d_X8_expose_42 ki_0 ?_
    refine z_cVv d_X8_expose_43 q_X8_expose_210 (by first | rfl | assumption) (by omega) ⟨rfl, rfl⟩ (ct_X8_runsOver (k := 0) (q := q2) hR (by decide) (sR_s _ _ _ _)) rfl rfl rfl ⟨Nat.zero_le _, Nat.zero_le _⟩ ?_
    rw [sI_sI, sL_sL, sI_ne (p := 68) (by decide), ← r5Q]
    refine z_aload_n d_X8_expose_46 rfl ?_
    refine z_iconst d_X8_expose_47 ki_0 ?_
    refine z_bipush d_X8_expose_48 kb_48 ?_
    refine z_cVi d_X8_expose_50 q_X8_expose_213 (by first | rfl | assumption) (by omega) ⟨rfl, rfl⟩ (ct_X8_sumOf (b := 0) (m := 48) hR (by decide)) rfl rfl rfl ⟨Nat.zero_le _, Nat.zero_le _⟩ ?_
    exact z_ireturn d_X8_expose_53 rfl ⟨by rw [sumV_congr 48 (fun j hj => (sI_w (I := I) (k := 0) (q := r5Q (I 68 0) (I 68 2) q2) hj))], rfl, rfl, rfl, rfl⟩
  · have e := b0 h_9
    refine z_iconst d_X8_expose_12 ki_m1 ?_
    exact z_ireturn d_X8_expose_13 rfl ⟨by rw [e]; rfl, rfl, by rw [e]; rfl, by rw [e]; rfl, rfl⟩
