set_option maxRecDepth 100000 in
set_option maxHeartbeats 4000000 in
theorem ct_X7_shades {E : zE} {I : zI} {L : zL} {R : zR} {v h x : Int32} (hR : zLx R) : zCf E m_X7_shades zShF [.ref 0, .int v, .int h, .int x] I L R (some (.int (if (inV 1 3 v && inV 1 3 h && inV 0 3 x) = true then (if x = 0 then grV (pcV (mkS I L 23 16 3 v.toNatClampNeg h.toNatClampNeg true).1 ((8 + h.toNatClampNeg - 1) / h.toNatClampNeg)) (6 / v.toNatClampNeg * ((8 + h.toNatClampNeg - 1) / h.toNatClampNeg)) else if x = 1 then leV (pcV (mkS I L 23 16 3 v.toNatClampNeg h.toNatClampNeg true).1 ((8 + h.toNatClampNeg - 1) / h.toNatClampNeg)) (6 / v.toNatClampNeg * ((8 + h.toNatClampNeg - 1) / h.toNatClampNeg)) else if x = 2 then sumV (pcV (mkS I L 23 16 3 v.toNatClampNeg h.toNatClampNeg true).1 ((8 + h.toNatClampNeg - 1) / h.toNatClampNeg)) (6 / v.toNatClampNeg * ((8 + h.toNatClampNeg - 1) / h.toNatClampNeg)) else cntV (fun k => decide (pcV (mkS I L 23 16 3 v.toNatClampNeg h.toNatClampNeg true).1 ((8 + h.toNatClampNeg - 1) / h.toNatClampNeg) k = 255)) (6 / v.toNatClampNeg * ((8 + h.toNatClampNeg - 1) / h.toNatClampNeg))) else -1))) (if (inV 1 3 v && inV 1 3 h && inV 0 3 x) = true then pI (pN I 23 v.toNatClampNeg h.toNatClampNeg) 23 (mkS I L 23 16 3 v.toNatClampNeg h.toNatClampNeg true) else I) (if (inV 1 3 v && inV 1 3 h && inV 0 3 x) = true then qL L 24 (mkS I L 23 16 3 v.toNatClampNeg h.toNatClampNeg true).2 else L) (R) := by
  have h16 := lC_16 hR; have h3 := lP_3 hR; have h23 := lQ_23 hR
  refine z_met (by decide) [some (.ref 0), some (.int v), some (.int h), some (.int x)] rfl rfl (Nat.le_of_ble_eq_true rfl) (fun X => ?_)
  refine z_iload_n d_X7_shades_0 rfl ?_
  refine z_cSi d_X7_shades_1 q_X7_shades_162 ⟨rfl, rfl⟩ (ct_X7_isBin) rfl rfl rfl ⟨Nat.zero_le _, Nat.zero_le _⟩ ?_
  refine z_if_eq d_X7_shades_4 (fun h_4 => ?_) (fun h_4 => ?_)
  · have hw := b0 h_4
    refine z_iconst d_X7_shades_23 ki_m1 ?_
    exact z_ireturn d_X7_shades_24 rfl ⟨by simp [hw], rfl, by simp [hw], by simp [hw], rfl⟩
  · refine z_iload_n d_X7_shades_7 rfl ?_
    refine z_cSi d_X7_shades_8 q_X7_shades_162 ⟨rfl, rfl⟩ (ct_X7_isBin) rfl rfl rfl ⟨Nat.zero_le _, Nat.zero_le _⟩ ?_
    refine z_if_eq d_X7_shades_11 (fun h_11 => ?_) (fun h_11 => ?_)
    · have hw := b0 h_11
      refine z_iconst d_X7_shades_23 ki_m1 ?_
      exact z_ireturn d_X7_shades_24 rfl ⟨by simp [hw], rfl, by simp [hw], by simp [hw], rfl⟩
    · refine z_iload_n d_X7_shades_14 rfl ?_
      refine z_if_lt d_X7_shades_15 (fun h_15 => ?_) (fun h_15 => ?_)
      · refine z_iconst d_X7_shades_23 ki_m1 ?_
        exact z_ireturn d_X7_shades_24 rfl ⟨by simp [inV, Int32.not_le.mp, *], rfl, by simp [inV, Int32.not_le.mp, *], by simp [inV, Int32.not_le.mp, *], rfl⟩
      · refine z_iload_n d_X7_shades_18 rfl ?_
        refine z_iconst d_X7_shades_19 ki_3 ?_
        refine z_icmp_le d_X7_shades_20 (fun h_20 => ?_) (fun h_20 => ?_)
        · have hvv := b1 h_4
          have hhh := b1 h_11
          have hok : (inV 1 3 v && inV 1 3 h && inV 0 3 x) = true := by rw [hvv, hhh]; simp [inV, h_15, Int32.not_lt.mpr h_20]
          obtain ⟨ev, v1, v3⟩ := inV_nat (n := 3) (by decide) hvv
          obtain ⟨eh, w1, w3⟩ := inV_nat (n := 3) (by decide) hhh
          rw [hok, if_pos rfl, if_pos rfl, if_pos rfl]
          generalize v.toNatClampNeg = vv at *
          generalize h.toNatClampNeg = hh at *
          subst ev
          subst eh
          have h6 := bin_6b v1 v3
          have h8 := bin_8b w1 w3
          have c1 : 1 ≤ (8 + hh - 1) / hh := by rcases (show hh = 1 ∨ hh = 2 ∨ hh = 3 by omega) with rfl | rfl | rfl <;> decide
          refine z_aload_n d_X7_shades_25 rfl ?_
          refine z_getR d_X7_shades_26 f_X7_50 (by first | rfl | assumption) (by omega) (by first | exact hR _ _ _ rfl | rfl | assumption) ?_
          refine z_aload_n d_X7_shades_29 rfl ?_
          refine z_getR d_X7_shades_30 f_X7_35 (by first | rfl | assumption) (by omega) (by first | exact hR _ _ _ rfl | rfl | assumption) ?_
          refine z_aload_n d_X7_shades_33 rfl ?_
          refine z_getR d_X7_shades_34 f_X7_19 (by first | rfl | assumption) (by omega) (by first | exact hR _ _ _ rfl | rfl | assumption) ?_
          refine z_iload_n d_X7_shades_37 rfl ?_
          refine z_iload_n d_X7_shades_38 rfl ?_
          refine z_iconst d_X7_shades_39 ki_1 ?_
          refine z_cVv d_X7_shades_40 q_X7_shades_169 (by first | rfl | assumption) (by omega) ⟨rfl, rfl⟩ (ct_X2_make (sp := true) h23 h16 h3 (by omega) (by omega) (by omega) v1 v3 w1 w3) rfl rfl rfl ⟨Nat.zero_le _, Nat.zero_le _⟩ ?_
          have q2 : pI (pN I 23 vv hh) 23 (mkS I L 23 16 3 vv hh true) 23 2 = nI (6 / vv) := by rw [pI_ne (by omega)]; exact pN_2 I 23 vv hh
          have q3 : pI (pN I 23 vv hh) 23 (mkS I L 23 16 3 vv hh true) 23 3 = nI ((8 + hh - 1) / hh) := by rw [pI_ne (by omega)]; exact pN_3 I 23 vv hh
          have q6 : pI (pN I 23 vv hh) 23 (mkS I L 23 16 3 vv hh true) (23 + 6) = (mkS I L 23 16 3 vv hh true).1 := pI_v _ 23 _
          refine z_iload_n d_X7_shades_43 rfl ?_
          refine z_by (0) (fun e_44_0 => ?_) (fun e_44_0 => ?_)
          · refine z_tabIn (off := 28) (tgt := 72) d_X7_shades_44 (by rw [e_44_0]; decide) (by rw [e_44_0]; decide) (by rw [e_44_0]; rfl) (by decide) ?_
            refine z_aload_n d_X7_shades_72 rfl ?_
            refine z_getR d_X7_shades_73 f_X7_50 (by first | rfl | assumption) (by omega) (by first | exact hR _ _ _ rfl | rfl | assumption) ?_
            refine z_cVi d_X7_shades_76 q_X7_shades_176 (by first | rfl | assumption) (by omega) ⟨rfl, rfl⟩ (ct_X2_greatest (by assumption) (by assumption) (by assumption) (by assumption) (by assumption) (by assumption)) rfl rfl rfl ⟨Nat.zero_le _, Nat.zero_le _⟩ ?_
            exact z_ireturn d_X7_shades_79 rfl ⟨by rw [q6]; simp [*], rfl, rfl, rfl, rfl⟩
          refine z_by (1) (fun e_44_1 => ?_) (fun e_44_1 => ?_)
          · refine z_tabIn (off := 36) (tgt := 80) d_X7_shades_44 (by rw [e_44_1]; decide) (by rw [e_44_1]; decide) (by rw [e_44_1]; rfl) (by decide) ?_
            refine z_aload_n d_X7_shades_80 rfl ?_
            refine z_getR d_X7_shades_81 f_X7_50 (by first | rfl | assumption) (by omega) (by first | exact hR _ _ _ rfl | rfl | assumption) ?_
            refine z_cVi d_X7_shades_84 q_X7_shades_179 (by first | rfl | assumption) (by omega) ⟨rfl, rfl⟩ (ct_X2_least (by assumption) (by assumption) (by assumption) (by assumption) (by assumption) (by assumption)) rfl rfl rfl ⟨Nat.zero_le _, Nat.zero_le _⟩ ?_
            exact z_ireturn d_X7_shades_87 rfl ⟨by rw [q6]; simp [*], rfl, rfl, rfl, rfl⟩
          refine z_by (2) (fun e_44_2 => ?_) (fun e_44_2 => ?_)
          · refine z_tabIn (off := 44) (tgt := 88) d_X7_shades_44 (by rw [e_44_2]; decide) (by rw [e_44_2]; decide) (by rw [e_44_2]; rfl) (by decide) ?_
            refine z_aload_n d_X7_shades_88 rfl ?_
            refine z_getR d_X7_shades_89 f_X7_50 (by first | rfl | assumption) (by omega) (by first | exact hR _ _ _ rfl | rfl | assumption) ?_
            refine z_cVi d_X7_shades_92 q_X7_shades_182 (by first | rfl | assumption) (by omega) ⟨rfl, rfl⟩ (ct_X2_summed (by assumption) (by assumption) (by assumption) (by assumption) (by assumption) (by assumption)) rfl rfl rfl ⟨Nat.zero_le _, Nat.zero_le _⟩ ?_
            exact z_ireturn d_X7_shades_95 rfl ⟨by rw [q6]; simp [*], rfl, rfl, rfl, rfl⟩
          refine z_tabOut (tgt := 96) d_X7_shades_44 (by have n_0 := sw_ne e_44_0; have n_1 := sw_ne e_44_1; have n_2 := sw_ne e_44_2; replace n_0 : _ ≠ (0 : Int) := n_0; replace n_1 : _ ≠ (1 : Int) := n_1; replace n_2 : _ ≠ (2 : Int) := n_2; omega) (by decide) ?_
          refine z_aload_n d_X7_shades_96 rfl ?_
          refine z_getR d_X7_shades_97 f_X7_50 (by first | rfl | assumption) (by omega) (by first | exact hR _ _ _ rfl | rfl | assumption) ?_
          refine z_cVi d_X7_shades_100 q_X7_shades_185 (by first | rfl | assumption) (by omega) ⟨rfl, rfl⟩ (ct_X2_brightest (by assumption) (by assumption) (by assumption) (by assumption) (by assumption) (by assumption)) rfl rfl rfl ⟨Nat.zero_le _, Nat.zero_le _⟩ ?_
          exact z_ireturn d_X7_shades_103 rfl ⟨by rw [q6]; simp [*], rfl, rfl, rfl, rfl⟩
        · have hw : inV 0 3 x = false := by simp [inV, Int32.not_le.mp h_20]
          refine z_iconst d_X7_shades_23 ki_m1 ?_
          exact z_ireturn d_X7_shades_24 rfl ⟨by simp [hw], rfl, by simp [hw], by simp [hw], rfl⟩
