set_option maxRecDepth 100000 in
set_option maxHeartbeats 4000000 in
theorem ct_X7_spoiled {E : zE} {I : zI} {L : zL} {R : zR} {x : Int32} (hR : zLx R) (hx : x = 0 ∨ x = 1) : zCf E m_X7_spoiled zShF [.ref 0, .int x] I L R (some (.int (if x = 0 then cntV (fun j => decide (0 < ab ((mkS I L 23 16 3 1 1 true).1 j - (mkS I L 30 16 3 1 1 false).1 j))) 48 else grV (fun j => ab ((mkS I L 23 16 3 1 1 true).1 j - (mkS I L 30 16 3 1 1 false).1 j)) 48))) (pI (pN (pI (pN I 23 1 1) 23 (mkS I L 23 16 3 1 1 true)) 30 1 1) 30 (mkS I L 30 16 3 1 1 false)) (qL (qL L 24 (mkS I L 23 16 3 1 1 true).2) 31 (mkS I L 30 16 3 1 1 false).2) (R) := by
  have h16 := lC_16 hR; have h3 := lP_3 hR; have h23 := lQ_23 hR; have h30 := lQ_30 hR
  refine z_met (by decide) [some (.ref 0), some (.int x), none, none, none, none] rfl rfl (Nat.le_of_ble_eq_true rfl) (fun X => ?_)
  refine z_iload_n d_X7_spoiled_0 rfl ?_
  refine z_if_eq d_X7_spoiled_1 (fun h_1 => ?_) (fun h_1 => ?_)
  · refine z_aload_n d_X7_spoiled_11 rfl ?_
    refine z_getR d_X7_spoiled_12 f_X7_50 (by first | rfl | assumption) (by omega) (by first | exact hR _ _ _ rfl | rfl | assumption) ?_
    refine z_aload_n d_X7_spoiled_15 rfl ?_
    refine z_getR d_X7_spoiled_16 f_X7_35 (by first | rfl | assumption) (by omega) (by first | exact hR _ _ _ rfl | rfl | assumption) ?_
    refine z_aload_n d_X7_spoiled_19 rfl ?_
    refine z_getR d_X7_spoiled_20 f_X7_19 (by first | rfl | assumption) (by omega) (by first | exact hR _ _ _ rfl | rfl | assumption) ?_
    refine z_iconst d_X7_spoiled_23 ki_1 ?_
    refine z_iconst d_X7_spoiled_24 ki_1 ?_
    refine z_iconst d_X7_spoiled_25 ki_1 ?_
    refine z_cVv d_X7_spoiled_26 q_X7_spoiled_169 (by first | rfl | assumption) (by omega) ⟨rfl, rfl⟩ (ct_X2_make (v := 1) (h := 1) (sp := true) h23 h16 h3 (by omega) (by omega) (by omega) (by decide) (by decide) (by decide) (by decide)) rfl rfl rfl ⟨Nat.zero_le _, Nat.zero_le _⟩ ?_
    refine z_aload_n d_X7_spoiled_29 rfl ?_
    refine z_getR d_X7_spoiled_30 f_X7_54 (by first | rfl | assumption) (by omega) (by first | exact hR _ _ _ rfl | rfl | assumption) ?_
    refine z_aload_n d_X7_spoiled_33 rfl ?_
    refine z_getR d_X7_spoiled_34 f_X7_35 (by first | rfl | assumption) (by omega) (by first | exact hR _ _ _ rfl | rfl | assumption) ?_
    refine z_aload_n d_X7_spoiled_37 rfl ?_
    refine z_getR d_X7_spoiled_38 f_X7_19 (by first | rfl | assumption) (by omega) (by first | exact hR _ _ _ rfl | rfl | assumption) ?_
    refine z_iconst d_X7_spoiled_41 ki_1 ?_
    refine z_iconst d_X7_spoiled_42 ki_1 ?_
    refine z_iconst d_X7_spoiled_43 ki_0 ?_
    refine z_cVv d_X7_spoiled_44 q_X7_spoiled_169 (by first | rfl | assumption) (by omega) ⟨rfl, rfl⟩ (ct_X2_make (v := 1) (h := 1) (sp := false) h30 h16 h3 (by omega) (by omega) (by omega) (by decide) (by decide) (by decide) (by decide)) rfl rfl rfl ⟨Nat.zero_le _, Nat.zero_le _⟩ ?_
    generalize hm1 : mkS I L 23 16 3 1 1 true = m1
    have hm2 : mkS (pI (pN I 23 1 1) 23 m1) (qL L (23 + 1) m1.2) 30 16 3 1 1 false = mkS I L 30 16 3 1 1 false := by
      refine mk_congr ?_ ?_ ?_ ?_ ?_
      · rw [pI_ne (by omega), pN_ne (by omega)]
      · rw [pI_ne (by omega), pN_ne (by omega)]
      · rw [pI_ne (by omega), pN_ne (by omega)]
      · exact qOf_eq (by rw [pI_ne (by omega), pN_ne (by omega)]) (by rw [pI_ne (by omega), pN_ne (by omega)]) (by rw [pI_ne (by omega), pN_ne (by omega)]) (by rw [pI_ne (by omega), pN_ne (by omega)]) (qL_ne (by decide))
      · exact qOf_eq (by rw [pI_ne (by omega), pN_ne (by omega)]) (by rw [pI_ne (by omega), pN_ne (by omega)]) (by rw [pI_ne (by omega), pN_ne (by omega)]) (by rw [pI_ne (by omega), pN_ne (by omega)]) (qL_ne (by decide))
    rw [hm2]
    generalize mkS I L 30 16 3 1 1 false = m2
    generalize hJ : pI (pN (pI (pN I 23 1 1) 23 m1) 30 1 1) 30 m2 = J
    have e29 : J 29 = m1.1 := by rw [← hJ, pI_ne (by omega), pN_ne (by omega)]; exact pI_v _ 23 m1
    have e36 : J 36 = m2.1 := by rw [← hJ]; exact pI_v _ 30 m2
    have hab : ∀ d : Int32, (if 0 ≤ d then d else 0 - d) = ab d := fun _ => rfl
    refine z_iconst d_X7_spoiled_47 ki_0 ?_
    refine z_istore2 d_X7_spoiled_48 rfl ?_
    refine z_iconst d_X7_spoiled_49 ki_0 ?_
    refine z_istore3 d_X7_spoiled_50 rfl ?_
    refine z_iconst d_X7_spoiled_51 ki_0 ?_
    refine z_istore4 d_X7_spoiled_52 rfl ?_
    have loop : ∀ (Qs : State → Prop) (K : zL), (∀ o : Option Value, zZ E m_X7_spoiled X Qs zShF 0 0 113 [some (.ref 0), some (.int x), some (.int (cntV (fun j => decide (0 < ab (m1.1 j - m2.1 j))) 48)), some (.int (grV (fun j => ab (m1.1 j - m2.1 j)) 48)), some (.int (nI 48)), o] [] J K R) → ∀ i, i ≤ 48 → ∀ o : Option Value, zZ E m_X7_spoiled X Qs zShF 0 0 54 [some (.ref 0), some (.int x), some (.int (cntV (fun j => decide (0 < ab (m1.1 j - m2.1 j))) i)), some (.int (grV (fun j => ab (m1.1 j - m2.1 j)) i)), some (.int (nI i)), o] [] J K R := by
      intro Qs K hx
      refine up_rec (fun i hi ih o => ?_)
      refine z_iload d_X7_spoiled_54 rfl ?_
      refine z_bipush d_X7_spoiled_56 kb_48 ?_
      refine z_icmp_ge d_X7_spoiled_58 (fun h_58 => ?_) (fun h_58 => ?_)
      · obtain rfl := eq_of_ge (n := 48) (by decide) hi h_58
        exact hx o
      · have hlt := lt_of_nge (n := 48) (by decide) h_58 (by omega)
        refine z_aload_n d_X7_spoiled_61 rfl ?_
        refine z_getR d_X7_spoiled_62 f_X7_50 (by first | rfl | assumption) (by omega) (by first | exact hR _ _ _ rfl | rfl | assumption) ?_
        refine z_getR d_X7_spoiled_65 f_X7_173 (by first | rfl | assumption) (by omega) (by first | exact hR _ _ _ rfl | rfl | assumption) ?_
        refine z_iload d_X7_spoiled_68 rfl ?_
        refine z_iaload d_X7_spoiled_70 (by first | rfl | assumption) (by omega) (by first | exact zix_nI (by assumption) (by first | decide | assumption) | exact zix_nI (by omega) (by first | decide | assumption) | assumption) ?_
        refine z_aload_n d_X7_spoiled_71 rfl ?_
        refine z_getR d_X7_spoiled_72 f_X7_54 (by first | rfl | assumption) (by omega) (by first | exact hR _ _ _ rfl | rfl | assumption) ?_
        refine z_getR d_X7_spoiled_75 f_X7_173 (by first | rfl | assumption) (by omega) (by first | exact hR _ _ _ rfl | rfl | assumption) ?_
        refine z_iload d_X7_spoiled_78 rfl ?_
        refine z_iaload d_X7_spoiled_80 (by first | rfl | assumption) (by omega) (by first | exact zix_nI (by assumption) (by first | decide | assumption) | exact zix_nI (by omega) (by first | decide | assumption) | assumption) ?_
        refine z_isub d_X7_spoiled_81 ?_
        refine z_mabs d_X7_spoiled_82 q_X7_spoiled_191 (by decide) (Nat.le_of_ble_eq_true rfl) ⟨Nat.zero_le _, Nat.zero_le _⟩ ?_
        rw [hab, e29, e36]
        refine z_istore5 d_X7_spoiled_85 rfl ?_
        refine z_iload_n d_X7_spoiled_87 rfl ?_
        refine z_iload d_X7_spoiled_88 rfl ?_
        refine z_if_le d_X7_spoiled_90 (fun h_90 => ?_) (fun h_90 => ?_)
        · refine z_iconst d_X7_spoiled_97 ki_0 ?_
          refine z_iadd d_X7_spoiled_98 ?_
          refine z_istore2 d_X7_spoiled_99 rfl ?_
          refine z_iload_n d_X7_spoiled_100 rfl ?_
          refine z_iload d_X7_spoiled_101 rfl ?_
          refine z_mmax d_X7_spoiled_103 q_X7_spoiled_197 (by decide) (Nat.le_of_ble_eq_true rfl) ⟨Nat.zero_le _, Nat.zero_le _⟩ ?_
          refine z_istore3 d_X7_spoiled_106 rfl ?_
          refine z_iinc4 d_X7_spoiled_107 ki_1 rfl ?_
          refine z_goto d_X7_spoiled_110 ?_
          rw [nI_1]
          have h := ih hlt (some (.int (ab (m1.1 i - m2.1 i))))
          rw [cntV, grV] at h
          first
            | (rw [show b2i (decide (0 < ab (m1.1 i - m2.1 i))) = 0 from by simp [b2i, h_90]] at h; exact h)
            | (rw [show b2i (decide (0 < ab (m1.1 i - m2.1 i))) = 1 from by simp [b2i, Int32.not_le.mp h_90]] at h; exact h)
        · refine z_iconst d_X7_spoiled_93 ki_1 ?_
          refine z_goto d_X7_spoiled_94 ?_
          refine z_iadd d_X7_spoiled_98 ?_
          refine z_istore2 d_X7_spoiled_99 rfl ?_
          refine z_iload_n d_X7_spoiled_100 rfl ?_
          refine z_iload d_X7_spoiled_101 rfl ?_
          refine z_mmax d_X7_spoiled_103 q_X7_spoiled_197 (by decide) (Nat.le_of_ble_eq_true rfl) ⟨Nat.zero_le _, Nat.zero_le _⟩ ?_
          refine z_istore3 d_X7_spoiled_106 rfl ?_
          refine z_iinc4 d_X7_spoiled_107 ki_1 rfl ?_
          refine z_goto d_X7_spoiled_110 ?_
          rw [nI_1]
          have h := ih hlt (some (.int (ab (m1.1 i - m2.1 i))))
          rw [cntV, grV] at h
          first
            | (rw [show b2i (decide (0 < ab (m1.1 i - m2.1 i))) = 0 from by simp [b2i, h_90]] at h; exact h)
            | (rw [show b2i (decide (0 < ab (m1.1 i - m2.1 i))) = 1 from by simp [b2i, Int32.not_le.mp h_90]] at h; exact h)
    refine loop _ _ (fun o => ?_) 0 (Nat.zero_le 48) none
    refine z_iload_n d_X7_spoiled_113 rfl ?_
    refine z_if_ne d_X7_spoiled_114 (fun h_114 => ?_) (fun h_114 => ?_)
    · refine z_iload_n d_X7_spoiled_121 rfl ?_
      exact z_ireturn d_X7_spoiled_122 rfl ⟨by first | rw [if_pos h_114] | rw [if_neg h_114], rfl, rfl, rfl, rfl⟩
    · refine z_iload_n d_X7_spoiled_117 rfl ?_
      refine z_goto d_X7_spoiled_118 ?_
      exact z_ireturn d_X7_spoiled_122 rfl ⟨by first | rw [if_pos h_114] | rw [if_neg h_114], rfl, rfl, rfl, rfl⟩
  · refine z_iload_n d_X7_spoiled_4 rfl ?_
    refine z_iconst d_X7_spoiled_5 ki_1 ?_
    refine z_icmp_eq d_X7_spoiled_6 (fun h_6 => ?_) (fun h_6 => absurd hx (fun q => q.elim h_1 h_6))
    refine z_aload_n d_X7_spoiled_11 rfl ?_
    refine z_getR d_X7_spoiled_12 f_X7_50 (by first | rfl | assumption) (by omega) (by first | exact hR _ _ _ rfl | rfl | assumption) ?_
    refine z_aload_n d_X7_spoiled_15 rfl ?_
    refine z_getR d_X7_spoiled_16 f_X7_35 (by first | rfl | assumption) (by omega) (by first | exact hR _ _ _ rfl | rfl | assumption) ?_
    refine z_aload_n d_X7_spoiled_19 rfl ?_
    refine z_getR d_X7_spoiled_20 f_X7_19 (by first | rfl | assumption) (by omega) (by first | exact hR _ _ _ rfl | rfl | assumption) ?_
    refine z_iconst d_X7_spoiled_23 ki_1 ?_
    refine z_iconst d_X7_spoiled_24 ki_1 ?_
    refine z_iconst d_X7_spoiled_25 ki_1 ?_
    refine z_cVv d_X7_spoiled_26 q_X7_spoiled_169 (by first | rfl | assumption) (by omega) ⟨rfl, rfl⟩ (ct_X2_make (v := 1) (h := 1) (sp := true) h23 h16 h3 (by omega) (by omega) (by omega) (by decide) (by decide) (by decide) (by decide)) rfl rfl rfl ⟨Nat.zero_le _, Nat.zero_le _⟩ ?_
    refine z_aload_n d_X7_spoiled_29 rfl ?_
    refine z_getR d_X7_spoiled_30 f_X7_54 (by first | rfl | assumption) (by omega) (by first | exact hR _ _ _ rfl | rfl | assumption) ?_
    refine z_aload_n d_X7_spoiled_33 rfl ?_
    refine z_getR d_X7_spoiled_34 f_X7_35 (by first | rfl | assumption) (by omega) (by first | exact hR _ _ _ rfl | rfl | assumption) ?_
    refine z_aload_n d_X7_spoiled_37 rfl ?_
    refine z_getR d_X7_spoiled_38 f_X7_19 (by first | rfl | assumption) (by omega) (by first | exact hR _ _ _ rfl | rfl | assumption) ?_
    refine z_iconst d_X7_spoiled_41 ki_1 ?_
    refine z_iconst d_X7_spoiled_42 ki_1 ?_
    refine z_iconst d_X7_spoiled_43 ki_0 ?_
    refine z_cVv d_X7_spoiled_44 q_X7_spoiled_169 (by first | rfl | assumption) (by omega) ⟨rfl, rfl⟩ (ct_X2_make (v := 1) (h := 1) (sp := false) h30 h16 h3 (by omega) (by omega) (by omega) (by decide) (by decide) (by decide) (by decide)) rfl rfl rfl ⟨Nat.zero_le _, Nat.zero_le _⟩ ?_
    generalize hm1 : mkS I L 23 16 3 1 1 true = m1
    have hm2 : mkS (pI (pN I 23 1 1) 23 m1) (qL L (23 + 1) m1.2) 30 16 3 1 1 false = mkS I L 30 16 3 1 1 false := by
      refine mk_congr ?_ ?_ ?_ ?_ ?_
      · rw [pI_ne (by omega), pN_ne (by omega)]
      · rw [pI_ne (by omega), pN_ne (by omega)]
      · rw [pI_ne (by omega), pN_ne (by omega)]
      · exact qOf_eq (by rw [pI_ne (by omega), pN_ne (by omega)]) (by rw [pI_ne (by omega), pN_ne (by omega)]) (by rw [pI_ne (by omega), pN_ne (by omega)]) (by rw [pI_ne (by omega), pN_ne (by omega)]) (qL_ne (by decide))
      · exact qOf_eq (by rw [pI_ne (by omega), pN_ne (by omega)]) (by rw [pI_ne (by omega), pN_ne (by omega)]) (by rw [pI_ne (by omega), pN_ne (by omega)]) (by rw [pI_ne (by omega), pN_ne (by omega)]) (qL_ne (by decide))
    rw [hm2]
    generalize mkS I L 30 16 3 1 1 false = m2
    generalize hJ : pI (pN (pI (pN I 23 1 1) 23 m1) 30 1 1) 30 m2 = J
    have e29 : J 29 = m1.1 := by rw [← hJ, pI_ne (by omega), pN_ne (by omega)]; exact pI_v _ 23 m1
    have e36 : J 36 = m2.1 := by rw [← hJ]; exact pI_v _ 30 m2
    have hab : ∀ d : Int32, (if 0 ≤ d then d else 0 - d) = ab d := fun _ => rfl
    refine z_iconst d_X7_spoiled_47 ki_0 ?_
    refine z_istore2 d_X7_spoiled_48 rfl ?_
    refine z_iconst d_X7_spoiled_49 ki_0 ?_
    refine z_istore3 d_X7_spoiled_50 rfl ?_
    refine z_iconst d_X7_spoiled_51 ki_0 ?_
    refine z_istore4 d_X7_spoiled_52 rfl ?_
    have loop : ∀ (Qs : State → Prop) (K : zL), (∀ o : Option Value, zZ E m_X7_spoiled X Qs zShF 0 0 113 [some (.ref 0), some (.int x), some (.int (cntV (fun j => decide (0 < ab (m1.1 j - m2.1 j))) 48)), some (.int (grV (fun j => ab (m1.1 j - m2.1 j)) 48)), some (.int (nI 48)), o] [] J K R) → ∀ i, i ≤ 48 → ∀ o : Option Value, zZ E m_X7_spoiled X Qs zShF 0 0 54 [some (.ref 0), some (.int x), some (.int (cntV (fun j => decide (0 < ab (m1.1 j - m2.1 j))) i)), some (.int (grV (fun j => ab (m1.1 j - m2.1 j)) i)), some (.int (nI i)), o] [] J K R := by
      intro Qs K hx
      refine up_rec (fun i hi ih o => ?_)
      refine z_iload d_X7_spoiled_54 rfl ?_
      refine z_bipush d_X7_spoiled_56 kb_48 ?_
      refine z_icmp_ge d_X7_spoiled_58 (fun h_58 => ?_) (fun h_58 => ?_)
      · obtain rfl := eq_of_ge (n := 48) (by decide) hi h_58
        exact hx o
      · have hlt := lt_of_nge (n := 48) (by decide) h_58 (by omega)
        refine z_aload_n d_X7_spoiled_61 rfl ?_
        refine z_getR d_X7_spoiled_62 f_X7_50 (by first | rfl | assumption) (by omega) (by first | exact hR _ _ _ rfl | rfl | assumption) ?_
        refine z_getR d_X7_spoiled_65 f_X7_173 (by first | rfl | assumption) (by omega) (by first | exact hR _ _ _ rfl | rfl | assumption) ?_
        refine z_iload d_X7_spoiled_68 rfl ?_
        refine z_iaload d_X7_spoiled_70 (by first | rfl | assumption) (by omega) (by first | exact zix_nI (by assumption) (by first | decide | assumption) | exact zix_nI (by omega) (by first | decide | assumption) | assumption) ?_
        refine z_aload_n d_X7_spoiled_71 rfl ?_
        refine z_getR d_X7_spoiled_72 f_X7_54 (by first | rfl | assumption) (by omega) (by first | exact hR _ _ _ rfl | rfl | assumption) ?_
        refine z_getR d_X7_spoiled_75 f_X7_173 (by first | rfl | assumption) (by omega) (by first | exact hR _ _ _ rfl | rfl | assumption) ?_
        refine z_iload d_X7_spoiled_78 rfl ?_
        refine z_iaload d_X7_spoiled_80 (by first | rfl | assumption) (by omega) (by first | exact zix_nI (by assumption) (by first | decide | assumption) | exact zix_nI (by omega) (by first | decide | assumption) | assumption) ?_
        refine z_isub d_X7_spoiled_81 ?_
        refine z_mabs d_X7_spoiled_82 q_X7_spoiled_191 (by decide) (Nat.le_of_ble_eq_true rfl) ⟨Nat.zero_le _, Nat.zero_le _⟩ ?_
        rw [hab, e29, e36]
        refine z_istore5 d_X7_spoiled_85 rfl ?_
        refine z_iload_n d_X7_spoiled_87 rfl ?_
        refine z_iload d_X7_spoiled_88 rfl ?_
        refine z_if_le d_X7_spoiled_90 (fun h_90 => ?_) (fun h_90 => ?_)
        · refine z_iconst d_X7_spoiled_97 ki_0 ?_
          refine z_iadd d_X7_spoiled_98 ?_
          refine z_istore2 d_X7_spoiled_99 rfl ?_
          refine z_iload_n d_X7_spoiled_100 rfl ?_
          refine z_iload d_X7_spoiled_101 rfl ?_
          refine z_mmax d_X7_spoiled_103 q_X7_spoiled_197 (by decide) (Nat.le_of_ble_eq_true rfl) ⟨Nat.zero_le _, Nat.zero_le _⟩ ?_
          refine z_istore3 d_X7_spoiled_106 rfl ?_
          refine z_iinc4 d_X7_spoiled_107 ki_1 rfl ?_
          refine z_goto d_X7_spoiled_110 ?_
          rw [nI_1]
          have h := ih hlt (some (.int (ab (m1.1 i - m2.1 i))))
          rw [cntV, grV] at h
          first
            | (rw [show b2i (decide (0 < ab (m1.1 i - m2.1 i))) = 0 from by simp [b2i, h_90]] at h; exact h)
            | (rw [show b2i (decide (0 < ab (m1.1 i - m2.1 i))) = 1 from by simp [b2i, Int32.not_le.mp h_90]] at h; exact h)
        · refine z_iconst d_X7_spoiled_93 ki_1 ?_
          refine z_goto d_X7_spoiled_94 ?_
          refine z_iadd d_X7_spoiled_98 ?_
          refine z_istore2 d_X7_spoiled_99 rfl ?_
          refine z_iload_n d_X7_spoiled_100 rfl ?_
          refine z_iload d_X7_spoiled_101 rfl ?_
          refine z_mmax d_X7_spoiled_103 q_X7_spoiled_197 (by decide) (Nat.le_of_ble_eq_true rfl) ⟨Nat.zero_le _, Nat.zero_le _⟩ ?_
          refine z_istore3 d_X7_spoiled_106 rfl ?_
          refine z_iinc4 d_X7_spoiled_107 ki_1 rfl ?_
          refine z_goto d_X7_spoiled_110 ?_
          rw [nI_1]
          have h := ih hlt (some (.int (ab (m1.1 i - m2.1 i))))
          rw [cntV, grV] at h
          first
            | (rw [show b2i (decide (0 < ab (m1.1 i - m2.1 i))) = 0 from by simp [b2i, h_90]] at h; exact h)
            | (rw [show b2i (decide (0 < ab (m1.1 i - m2.1 i))) = 1 from by simp [b2i, Int32.not_le.mp h_90]] at h; exact h)
    refine loop _ _ (fun o => ?_) 0 (Nat.zero_le 48) none
    refine z_iload_n d_X7_spoiled_113 rfl ?_
    refine z_if_ne d_X7_spoiled_114 (fun h_114 => ?_) (fun h_114 => ?_)
    · refine z_iload_n d_X7_spoiled_121 rfl ?_
      exact z_ireturn d_X7_spoiled_122 rfl ⟨by first | rw [if_pos h_114] | rw [if_neg h_114], rfl, rfl, rfl, rfl⟩
    · refine z_iload_n d_X7_spoiled_117 rfl ?_
      refine z_goto d_X7_spoiled_118 ?_
      exact z_ireturn d_X7_spoiled_122 rfl ⟨by first | rw [if_pos h_114] | rw [if_neg h_114], rfl, rfl, rfl, rfl⟩
set_option maxRecDepth 100000 in
set_option maxHeartbeats 4000000 in
theorem ct_X7_spoiled_bad {E : zE} {I : zI} {L : zL} {R : zR} {x : Int32} (hR : zLx R) (hx : ¬ x = 0 ∧ ¬ x = 1) : zCf E m_X7_spoiled zShF [.ref 0, .int x] I L R (some (.int (-1))) (I) (L) (R) := by
  refine z_met (by decide) [some (.ref 0), some (.int x), none, none, none, none] rfl rfl (Nat.le_of_ble_eq_true rfl) (fun X => ?_)
  refine z_iload_n d_X7_spoiled_0 rfl ?_
  refine z_if_eq d_X7_spoiled_1 (fun h_1 => absurd h_1 hx.1) (fun h_1 => ?_)
  refine z_iload_n d_X7_spoiled_4 rfl ?_
  refine z_iconst d_X7_spoiled_5 ki_1 ?_
  refine z_icmp_eq d_X7_spoiled_6 (fun h_6 => absurd h_6 hx.2) (fun h_6 => ?_)
  refine z_iconst d_X7_spoiled_9 ki_m1 ?_
  exact z_ireturn d_X7_spoiled_10 rfl ⟨rfl, rfl, rfl, rfl, rfl⟩
