abbrev exS (m : Nat → Int32) (n : Nat) (q : zQ) : zQ := (qLi q, addW m (qWe q) n, qHe q, qLn q, qLo q, qRd q, addC m n (qCm q))
theorem ex_s (m : Nat → Int32) (i : Nat) (q : zQ) : exS m (i + 1) q = cQ (wQ (exS m i q) (va_up (qWe (exS m i q)) i (qWe (exS m i q) i + m i))) (qCm (exS m i q) + (m i).toInt64) := by
  rw [exS, ← addW_s, addC]
theorem exS_0 (m : Nat → Int32) (q : zQ) : exS m 0 q = q := by
  rw [exS, addW_0, addC]
theorem sumV_congr {f g : Nat → Int32} : ∀ n, (∀ j, j < n → f j = g j) → sumV f n = sumV g n
  | 0, _ => rfl
  | n + 1, h => by rw [sumV, sumV, sumV_congr n (fun j hj => h j (by omega)), h n (by omega)]
set_option maxRecDepth 100000 in
set_option maxHeartbeats 4000000 in
theorem ct_X8_down {E : zE} {I : zI} {L : zL} {R : zR} {q : zQ} (hR : zLx R) (hq : sR I L 0 q) : zCf E m_X8_down zShF [.ref 64] I L R (some (.int (sumV (qLn (rhQ (I 68 0) (I 68 2) (I 70) true (I 68 3) q)) 8))) (sI I 0 (rhQ (I 68 0) (I 68 2) (I 70) true (I 68 3) q)) (sL L 0 (rhQ (I 68 0) (I 68 2) (I 70) true (I 68 3) q)) (R) := by
  refine z_met (by decide) [some (.ref 64)] rfl rfl (Nat.le_of_ble_eq_true rfl) (fun X => ?_)
  refine z_aload_n d_X8_down_0 rfl ?_
  refine z_iconst d_X8_down_1 ki_0 ?_
  refine z_iconst d_X8_down_2 ki_1 ?_
  refine z_aload_n d_X8_down_3 rfl ?_
  refine z_getR d_X8_down_4 f_X8_21 (by first | rfl | assumption) (by omega) (by first | exact hR _ _ _ rfl | rfl | assumption) ?_
  refine z_iconst d_X8_down_7 ki_3 ?_
  refine z_iaload d_X8_down_8 (by first | rfl | assumption) (by omega) (zix_lit 3 (by decide)) ?_
  refine z_cVv d_X8_down_9 q_X8_down_222 (by first | rfl | assumption) (by omega) ⟨rfl, rfl⟩ (ct_X8_handsDown (k := 0) (tp := true) (q := q) hR (by decide) hq) rfl rfl rfl ⟨Nat.zero_le _, Nat.zero_le _⟩ ?_
  generalize rhQ (I 68 0) (I 68 2) (I 70) true (I 68 3) q = r
  refine z_aload_n d_X8_down_12 rfl ?_
  refine z_iconst d_X8_down_13 ki_0 ?_
  refine z_cVi d_X8_down_14 q_X8_down_226 (by first | rfl | assumption) (by omega) ⟨rfl, rfl⟩ (ct_X8_lineSum (b := 0) hR (by decide)) rfl rfl rfl ⟨Nat.zero_le _, Nat.zero_le _⟩ ?_
  exact z_ireturn d_X8_down_17 rfl ⟨by rw [sumV_congr 8 (fun j hj => (sI_n (I := I) (k := 0) (q := r) hj))], rfl, rfl, rfl, rfl⟩
