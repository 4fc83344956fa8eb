/-! MAY A LINE BEGIN -/
def mbB (I : zI) (k : Int32) : Prop := k < 0 ∨ ¬ k < 10 ∨ (k = 0 ∧ ¬ I 8 8 < 6) ∨ (¬ k < 3 ∧ ¬ I 15 k.toNatClampNeg = 0)
set_option maxRecDepth 100000 in
set_option maxHeartbeats 4000000 in
theorem ct_X4_mayBegin {E : zE} {I : zI} {L : zL} {R : zR} {k : Int32} (hR : zLx R) : zCt E m_X4_mayBegin zShF [.ref 8, .int k] I L R (fun r Sh1 I1 L1 R1 => r = some (.int (if I1 8 10 = 0 then 1 else 0)) ∧ Sh1 = zShF ∧ L1 = L ∧ R1 = R ∧ ((mbB I k ∧ ∃ w : Int32, ¬ w = 0 ∧ I1 = flI I w) ∨ (¬ mbB I k ∧ I1 = I))) := by
  refine z_met (by decide) [some (.ref 8), some (.int k)] rfl rfl (Nat.le_of_ble_eq_true rfl) (fun X => ?_)
  refine z_iload_n d_X4_mayBegin_0 rfl ?_
  refine z_if_lt d_X4_mayBegin_1 (fun h_1 => ?_) (fun h_1 => ?_)
  · refine z_aload_n d_X4_mayBegin_10 rfl ?_
    refine z_iconst d_X4_mayBegin_11 ki_2 ?_
    refine z_aload_n d_X4_mayBegin_12 rfl ?_
    refine z_getI d_X4_mayBegin_13 f_X4_73 (by first | rfl | assumption) (by omega) ?_
    refine z_cVv d_X4_mayBegin_16 q_X4_mayBegin_85 (by first | rfl | assumption) (by omega) ⟨rfl, rfl⟩ (ct_X4_fail hR) rfl rfl rfl ⟨Nat.zero_le _, Nat.zero_le _⟩ ?_
    refine z_goto d_X4_mayBegin_19 ?_
    refine z_aload_n d_X4_mayBegin_70 rfl ?_
    refine z_getI d_X4_mayBegin_71 f_X4_36 (by first | rfl | assumption) (by omega) ?_
    refine z_if_ne d_X4_mayBegin_74 (fun h_74 => ?_) (fun h_74 => ?_)
    · refine z_iconst d_X4_mayBegin_81 ki_0 ?_
      exact z_zreturn d_X4_mayBegin_82 rfl rfl (by
        refine ⟨?_, rfl, rfl, rfl, ?_⟩
        · first | rw [if_pos h_74] | rw [if_neg h_74]
        · first
            | (have q := h_58; first | exact Or.inl ⟨Or.inr (Or.inr (Or.inr ⟨h_49, q⟩)), 4, by decide, rfl⟩ | exact Or.inr ⟨fun z => by rcases z with z | z | ⟨z1, z2⟩ | ⟨z1, z2⟩; exact absurd z h_1; exact z h_7; (first | exact h_23 z1 | exact z2 h_32); exact z2 q, rfl⟩)
            | (have q := h_49; exact Or.inr ⟨fun z => by rcases z with z | z | ⟨z1, z2⟩ | ⟨z1, z2⟩; exact absurd z h_1; exact z h_7; (first | exact h_23 z1 | exact z2 h_32); exact z1 q, rfl⟩)
            | (have q := h_32; exact Or.inl ⟨Or.inr (Or.inr (Or.inl ⟨h_23, q⟩)), 5, by decide, rfl⟩)
            | (have q := h_7; exact Or.inl ⟨Or.inr (Or.inl q), 2, by decide, rfl⟩)
            | exact Or.inl ⟨Or.inl h_1, 2, by decide, rfl⟩)
    · refine z_iconst d_X4_mayBegin_77 ki_1 ?_
      refine z_goto d_X4_mayBegin_78 ?_
      exact z_zreturn d_X4_mayBegin_82 rfl rfl (by
        refine ⟨?_, rfl, rfl, rfl, ?_⟩
        · first | rw [if_pos h_74] | rw [if_neg h_74]
        · first
            | (have q := h_58; first | exact Or.inl ⟨Or.inr (Or.inr (Or.inr ⟨h_49, q⟩)), 4, by decide, rfl⟩ | exact Or.inr ⟨fun z => by rcases z with z | z | ⟨z1, z2⟩ | ⟨z1, z2⟩; exact absurd z h_1; exact z h_7; (first | exact h_23 z1 | exact z2 h_32); exact z2 q, rfl⟩)
            | (have q := h_49; exact Or.inr ⟨fun z => by rcases z with z | z | ⟨z1, z2⟩ | ⟨z1, z2⟩; exact absurd z h_1; exact z h_7; (first | exact h_23 z1 | exact z2 h_32); exact z1 q, rfl⟩)
            | (have q := h_32; exact Or.inl ⟨Or.inr (Or.inr (Or.inl ⟨h_23, q⟩)), 5, by decide, rfl⟩)
            | (have q := h_7; exact Or.inl ⟨Or.inr (Or.inl q), 2, by decide, rfl⟩)
            | exact Or.inl ⟨Or.inl h_1, 2, by decide, rfl⟩)
  · refine z_iload_n d_X4_mayBegin_4 rfl ?_
    refine z_bipush d_X4_mayBegin_5 kb_10 ?_
    refine z_icmp_lt d_X4_mayBegin_7 (fun h_7 => ?_) (fun h_7 => ?_)
    · refine z_iload_n d_X4_mayBegin_22 rfl ?_
      refine z_if_ne d_X4_mayBegin_23 (fun h_23 => ?_) (fun h_23 => ?_)
      · refine z_iload_n d_X4_mayBegin_47 rfl ?_
        refine z_iconst d_X4_mayBegin_48 ki_3 ?_
        refine z_icmp_lt d_X4_mayBegin_49 (fun h_49 => ?_) (fun h_49 => ?_)
        · refine z_aload_n d_X4_mayBegin_70 rfl ?_
          refine z_getI d_X4_mayBegin_71 f_X4_36 (by first | rfl | assumption) (by omega) ?_
          refine z_if_ne d_X4_mayBegin_74 (fun h_74 => ?_) (fun h_74 => ?_)
          · refine z_iconst d_X4_mayBegin_81 ki_0 ?_
            exact z_zreturn d_X4_mayBegin_82 rfl rfl (by
              refine ⟨?_, rfl, rfl, rfl, ?_⟩
              · first | rw [if_pos h_74] | rw [if_neg h_74]
              · first
                  | (have q := h_58; first | exact Or.inl ⟨Or.inr (Or.inr (Or.inr ⟨h_49, q⟩)), 4, by decide, rfl⟩ | exact Or.inr ⟨fun z => by rcases z with z | z | ⟨z1, z2⟩ | ⟨z1, z2⟩; exact absurd z h_1; exact z h_7; (first | exact h_23 z1 | exact z2 h_32); exact z2 q, rfl⟩)
                  | (have q := h_49; exact Or.inr ⟨fun z => by rcases z with z | z | ⟨z1, z2⟩ | ⟨z1, z2⟩; exact absurd z h_1; exact z h_7; (first | exact h_23 z1 | exact z2 h_32); exact z1 q, rfl⟩)
                  | (have q := h_32; exact Or.inl ⟨Or.inr (Or.inr (Or.inl ⟨h_23, q⟩)), 5, by decide, rfl⟩)
                  | (have q := h_7; exact Or.inl ⟨Or.inr (Or.inl q), 2, by decide, rfl⟩)
                  | exact Or.inl ⟨Or.inl h_1, 2, by decide, rfl⟩)
          · refine z_iconst d_X4_mayBegin_77 ki_1 ?_
            refine z_goto d_X4_mayBegin_78 ?_
            exact z_zreturn d_X4_mayBegin_82 rfl rfl (by
              refine ⟨?_, rfl, rfl, rfl, ?_⟩
              · first | rw [if_pos h_74] | rw [if_neg h_74]
              · first
                  | (have q := h_58; first | exact Or.inl ⟨Or.inr (Or.inr (Or.inr ⟨h_49, q⟩)), 4, by decide, rfl⟩ | exact Or.inr ⟨fun z => by rcases z with z | z | ⟨z1, z2⟩ | ⟨z1, z2⟩; exact absurd z h_1; exact z h_7; (first | exact h_23 z1 | exact z2 h_32); exact z2 q, rfl⟩)
                  | (have q := h_49; exact Or.inr ⟨fun z => by rcases z with z | z | ⟨z1, z2⟩ | ⟨z1, z2⟩; exact absurd z h_1; exact z h_7; (first | exact h_23 z1 | exact z2 h_32); exact z1 q, rfl⟩)
                  | (have q := h_32; exact Or.inl ⟨Or.inr (Or.inr (Or.inl ⟨h_23, q⟩)), 5, by decide, rfl⟩)
                  | (have q := h_7; exact Or.inl ⟨Or.inr (Or.inl q), 2, by decide, rfl⟩)
                  | exact Or.inl ⟨Or.inl h_1, 2, by decide, rfl⟩)
        · refine z_aload_n d_X4_mayBegin_52 rfl ?_
          refine z_getR d_X4_mayBegin_53 f_X4_22 (by first | rfl | assumption) (by omega) (by first | exact hR _ _ _ rfl | rfl | assumption) ?_
          refine z_iload_n d_X4_mayBegin_56 rfl ?_
          refine z_zaload d_X4_mayBegin_57 (by first | rfl | assumption) (by omega) (zix_of2 (N := 10) h_1 (Int32.not_le.mpr h_7) (by decide)) ?_
          refine z_if_eq d_X4_mayBegin_58 (fun h_58 => ?_) (fun h_58 => ?_)
          · refine z_aload_n d_X4_mayBegin_70 rfl ?_
            refine z_getI d_X4_mayBegin_71 f_X4_36 (by first | rfl | assumption) (by omega) ?_
            refine z_if_ne d_X4_mayBegin_74 (fun h_74 => ?_) (fun h_74 => ?_)
            · refine z_iconst d_X4_mayBegin_81 ki_0 ?_
              exact z_zreturn d_X4_mayBegin_82 rfl rfl (by
                refine ⟨?_, rfl, rfl, rfl, ?_⟩
                · first | rw [if_pos h_74] | rw [if_neg h_74]
                · first
                    | (have q := h_58; first | exact Or.inl ⟨Or.inr (Or.inr (Or.inr ⟨h_49, q⟩)), 4, by decide, rfl⟩ | exact Or.inr ⟨fun z => by rcases z with z | z | ⟨z1, z2⟩ | ⟨z1, z2⟩; exact absurd z h_1; exact z h_7; (first | exact h_23 z1 | exact z2 h_32); exact z2 q, rfl⟩)
                    | (have q := h_49; exact Or.inr ⟨fun z => by rcases z with z | z | ⟨z1, z2⟩ | ⟨z1, z2⟩; exact absurd z h_1; exact z h_7; (first | exact h_23 z1 | exact z2 h_32); exact z1 q, rfl⟩)
                    | (have q := h_32; exact Or.inl ⟨Or.inr (Or.inr (Or.inl ⟨h_23, q⟩)), 5, by decide, rfl⟩)
                    | (have q := h_7; exact Or.inl ⟨Or.inr (Or.inl q), 2, by decide, rfl⟩)
                    | exact Or.inl ⟨Or.inl h_1, 2, by decide, rfl⟩)
            · refine z_iconst d_X4_mayBegin_77 ki_1 ?_
              refine z_goto d_X4_mayBegin_78 ?_
              exact z_zreturn d_X4_mayBegin_82 rfl rfl (by
                refine ⟨?_, rfl, rfl, rfl, ?_⟩
                · first | rw [if_pos h_74] | rw [if_neg h_74]
                · first
                    | (have q := h_58; first | exact Or.inl ⟨Or.inr (Or.inr (Or.inr ⟨h_49, q⟩)), 4, by decide, rfl⟩ | exact Or.inr ⟨fun z => by rcases z with z | z | ⟨z1, z2⟩ | ⟨z1, z2⟩; exact absurd z h_1; exact z h_7; (first | exact h_23 z1 | exact z2 h_32); exact z2 q, rfl⟩)
                    | (have q := h_49; exact Or.inr ⟨fun z => by rcases z with z | z | ⟨z1, z2⟩ | ⟨z1, z2⟩; exact absurd z h_1; exact z h_7; (first | exact h_23 z1 | exact z2 h_32); exact z1 q, rfl⟩)
                    | (have q := h_32; exact Or.inl ⟨Or.inr (Or.inr (Or.inl ⟨h_23, q⟩)), 5, by decide, rfl⟩)
                    | (have q := h_7; exact Or.inl ⟨Or.inr (Or.inl q), 2, by decide, rfl⟩)
                    | exact Or.inl ⟨Or.inl h_1, 2, by decide, rfl⟩)
          · refine z_aload_n d_X4_mayBegin_61 rfl ?_
            refine z_iconst d_X4_mayBegin_62 ki_4 ?_
            refine z_aload_n d_X4_mayBegin_63 rfl ?_
            refine z_getI d_X4_mayBegin_64 f_X4_73 (by first | rfl | assumption) (by omega) ?_
            refine z_cVv d_X4_mayBegin_67 q_X4_mayBegin_85 (by first | rfl | assumption) (by omega) ⟨rfl, rfl⟩ (ct_X4_fail hR) rfl rfl rfl ⟨Nat.zero_le _, Nat.zero_le _⟩ ?_
            refine z_aload_n d_X4_mayBegin_70 rfl ?_
            refine z_getI d_X4_mayBegin_71 f_X4_36 (by first | rfl | assumption) (by omega) ?_
            refine z_if_ne d_X4_mayBegin_74 (fun h_74 => ?_) (fun h_74 => ?_)
            · refine z_iconst d_X4_mayBegin_81 ki_0 ?_
              exact z_zreturn d_X4_mayBegin_82 rfl rfl (by
                refine ⟨?_, rfl, rfl, rfl, ?_⟩
                · first | rw [if_pos h_74] | rw [if_neg h_74]
                · first
                    | (have q := h_58; first | exact Or.inl ⟨Or.inr (Or.inr (Or.inr ⟨h_49, q⟩)), 4, by decide, rfl⟩ | exact Or.inr ⟨fun z => by rcases z with z | z | ⟨z1, z2⟩ | ⟨z1, z2⟩; exact absurd z h_1; exact z h_7; (first | exact h_23 z1 | exact z2 h_32); exact z2 q, rfl⟩)
                    | (have q := h_49; exact Or.inr ⟨fun z => by rcases z with z | z | ⟨z1, z2⟩ | ⟨z1, z2⟩; exact absurd z h_1; exact z h_7; (first | exact h_23 z1 | exact z2 h_32); exact z1 q, rfl⟩)
                    | (have q := h_32; exact Or.inl ⟨Or.inr (Or.inr (Or.inl ⟨h_23, q⟩)), 5, by decide, rfl⟩)
                    | (have q := h_7; exact Or.inl ⟨Or.inr (Or.inl q), 2, by decide, rfl⟩)
                    | exact Or.inl ⟨Or.inl h_1, 2, by decide, rfl⟩)
            · refine z_iconst d_X4_mayBegin_77 ki_1 ?_
              refine z_goto d_X4_mayBegin_78 ?_
              exact z_zreturn d_X4_mayBegin_82 rfl rfl (by
                refine ⟨?_, rfl, rfl, rfl, ?_⟩
                · first | rw [if_pos h_74] | rw [if_neg h_74]
                · first
                    | (have q := h_58; first | exact Or.inl ⟨Or.inr (Or.inr (Or.inr ⟨h_49, q⟩)), 4, by decide, rfl⟩ | exact Or.inr ⟨fun z => by rcases z with z | z | ⟨z1, z2⟩ | ⟨z1, z2⟩; exact absurd z h_1; exact z h_7; (first | exact h_23 z1 | exact z2 h_32); exact z2 q, rfl⟩)
                    | (have q := h_49; exact Or.inr ⟨fun z => by rcases z with z | z | ⟨z1, z2⟩ | ⟨z1, z2⟩; exact absurd z h_1; exact z h_7; (first | exact h_23 z1 | exact z2 h_32); exact z1 q, rfl⟩)
                    | (have q := h_32; exact Or.inl ⟨Or.inr (Or.inr (Or.inl ⟨h_23, q⟩)), 5, by decide, rfl⟩)
                    | (have q := h_7; exact Or.inl ⟨Or.inr (Or.inl q), 2, by decide, rfl⟩)
                    | exact Or.inl ⟨Or.inl h_1, 2, by decide, rfl⟩)
      · refine z_aload_n d_X4_mayBegin_26 rfl ?_
        refine z_getI d_X4_mayBegin_27 f_X4_64 (by first | rfl | assumption) (by omega) ?_
        refine z_bipush d_X4_mayBegin_30 kb_6 ?_
        refine z_icmp_lt d_X4_mayBegin_32 (fun h_32 => ?_) (fun h_32 => ?_)
        · refine z_iload_n d_X4_mayBegin_47 rfl ?_
          refine z_iconst d_X4_mayBegin_48 ki_3 ?_
          refine z_icmp_lt d_X4_mayBegin_49 (fun h_49 => ?_) (fun h_49 => ?_)
          · refine z_aload_n d_X4_mayBegin_70 rfl ?_
            refine z_getI d_X4_mayBegin_71 f_X4_36 (by first | rfl | assumption) (by omega) ?_
            refine z_if_ne d_X4_mayBegin_74 (fun h_74 => ?_) (fun h_74 => ?_)
            · refine z_iconst d_X4_mayBegin_81 ki_0 ?_
              exact z_zreturn d_X4_mayBegin_82 rfl rfl (by
                refine ⟨?_, rfl, rfl, rfl, ?_⟩
                · first | rw [if_pos h_74] | rw [if_neg h_74]
                · first
                    | (have q := h_58; first | exact Or.inl ⟨Or.inr (Or.inr (Or.inr ⟨h_49, q⟩)), 4, by decide, rfl⟩ | exact Or.inr ⟨fun z => by rcases z with z | z | ⟨z1, z2⟩ | ⟨z1, z2⟩; exact absurd z h_1; exact z h_7; (first | exact h_23 z1 | exact z2 h_32); exact z2 q, rfl⟩)
                    | (have q := h_49; exact Or.inr ⟨fun z => by rcases z with z | z | ⟨z1, z2⟩ | ⟨z1, z2⟩; exact absurd z h_1; exact z h_7; (first | exact h_23 z1 | exact z2 h_32); exact z1 q, rfl⟩)
                    | (have q := h_32; exact Or.inl ⟨Or.inr (Or.inr (Or.inl ⟨h_23, q⟩)), 5, by decide, rfl⟩)
                    | (have q := h_7; exact Or.inl ⟨Or.inr (Or.inl q), 2, by decide, rfl⟩)
                    | exact Or.inl ⟨Or.inl h_1, 2, by decide, rfl⟩)
            · refine z_iconst d_X4_mayBegin_77 ki_1 ?_
              refine z_goto d_X4_mayBegin_78 ?_
              exact z_zreturn d_X4_mayBegin_82 rfl rfl (by
                refine ⟨?_, rfl, rfl, rfl, ?_⟩
                · first | rw [if_pos h_74] | rw [if_neg h_74]
                · first
                    | (have q := h_58; first | exact Or.inl ⟨Or.inr (Or.inr (Or.inr ⟨h_49, q⟩)), 4, by decide, rfl⟩ | exact Or.inr ⟨fun z => by rcases z with z | z | ⟨z1, z2⟩ | ⟨z1, z2⟩; exact absurd z h_1; exact z h_7; (first | exact h_23 z1 | exact z2 h_32); exact z2 q, rfl⟩)
                    | (have q := h_49; exact Or.inr ⟨fun z => by rcases z with z | z | ⟨z1, z2⟩ | ⟨z1, z2⟩; exact absurd z h_1; exact z h_7; (first | exact h_23 z1 | exact z2 h_32); exact z1 q, rfl⟩)
                    | (have q := h_32; exact Or.inl ⟨Or.inr (Or.inr (Or.inl ⟨h_23, q⟩)), 5, by decide, rfl⟩)
                    | (have q := h_7; exact Or.inl ⟨Or.inr (Or.inl q), 2, by decide, rfl⟩)
                    | exact Or.inl ⟨Or.inl h_1, 2, by decide, rfl⟩)
          · refine z_aload_n d_X4_mayBegin_52 rfl ?_
            refine z_getR d_X4_mayBegin_53 f_X4_22 (by first | rfl | assumption) (by omega) (by first | exact hR _ _ _ rfl | rfl | assumption) ?_
            refine z_iload_n d_X4_mayBegin_56 rfl ?_
            refine z_zaload d_X4_mayBegin_57 (by first | rfl | assumption) (by omega) (zix_of2 (N := 10) h_1 (Int32.not_le.mpr h_7) (by decide)) ?_
            refine z_if_eq d_X4_mayBegin_58 (fun h_58 => ?_) (fun h_58 => ?_)
            · refine z_aload_n d_X4_mayBegin_70 rfl ?_
              refine z_getI d_X4_mayBegin_71 f_X4_36 (by first | rfl | assumption) (by omega) ?_
              refine z_if_ne d_X4_mayBegin_74 (fun h_74 => ?_) (fun h_74 => ?_)
              · refine z_iconst d_X4_mayBegin_81 ki_0 ?_
                exact z_zreturn d_X4_mayBegin_82 rfl rfl (by
                  refine ⟨?_, rfl, rfl, rfl, ?_⟩
                  · first | rw [if_pos h_74] | rw [if_neg h_74]
                  · first
                      | (have q := h_58; first | exact Or.inl ⟨Or.inr (Or.inr (Or.inr ⟨h_49, q⟩)), 4, by decide, rfl⟩ | exact Or.inr ⟨fun z => by rcases z with z | z | ⟨z1, z2⟩ | ⟨z1, z2⟩; exact absurd z h_1; exact z h_7; (first | exact h_23 z1 | exact z2 h_32); exact z2 q, rfl⟩)
                      | (have q := h_49; exact Or.inr ⟨fun z => by rcases z with z | z | ⟨z1, z2⟩ | ⟨z1, z2⟩; exact absurd z h_1; exact z h_7; (first | exact h_23 z1 | exact z2 h_32); exact z1 q, rfl⟩)
                      | (have q := h_32; exact Or.inl ⟨Or.inr (Or.inr (Or.inl ⟨h_23, q⟩)), 5, by decide, rfl⟩)
                      | (have q := h_7; exact Or.inl ⟨Or.inr (Or.inl q), 2, by decide, rfl⟩)
                      | exact Or.inl ⟨Or.inl h_1, 2, by decide, rfl⟩)
              · refine z_iconst d_X4_mayBegin_77 ki_1 ?_
                refine z_goto d_X4_mayBegin_78 ?_
                exact z_zreturn d_X4_mayBegin_82 rfl rfl (by
                  refine ⟨?_, rfl, rfl, rfl, ?_⟩
                  · first | rw [if_pos h_74] | rw [if_neg h_74]
                  · first
                      | (have q := h_58; first | exact Or.inl ⟨Or.inr (Or.inr (Or.inr ⟨h_49, q⟩)), 4, by decide, rfl⟩ | exact Or.inr ⟨fun z => by rcases z with z | z | ⟨z1, z2⟩ | ⟨z1, z2⟩; exact absurd z h_1; exact z h_7; (first | exact h_23 z1 | exact z2 h_32); exact z2 q, rfl⟩)
                      | (have q := h_49; exact Or.inr ⟨fun z => by rcases z with z | z | ⟨z1, z2⟩ | ⟨z1, z2⟩; exact absurd z h_1; exact z h_7; (first | exact h_23 z1 | exact z2 h_32); exact z1 q, rfl⟩)
                      | (have q := h_32; exact Or.inl ⟨Or.inr (Or.inr (Or.inl ⟨h_23, q⟩)), 5, by decide, rfl⟩)
                      | (have q := h_7; exact Or.inl ⟨Or.inr (Or.inl q), 2, by decide, rfl⟩)
                      | exact Or.inl ⟨Or.inl h_1, 2, by decide, rfl⟩)
            · refine z_aload_n d_X4_mayBegin_61 rfl ?_
              refine z_iconst d_X4_mayBegin_62 ki_4 ?_
              refine z_aload_n d_X4_mayBegin_63 rfl ?_
              refine z_getI d_X4_mayBegin_64 f_X4_73 (by first | rfl | assumption) (by omega) ?_
              refine z_cVv d_X4_mayBegin_67 q_X4_mayBegin_85 (by first | rfl | assumption) (by omega) ⟨rfl, rfl⟩ (ct_X4_fail hR) rfl rfl rfl ⟨Nat.zero_le _, Nat.zero_le _⟩ ?_
              refine z_aload_n d_X4_mayBegin_70 rfl ?_
              refine z_getI d_X4_mayBegin_71 f_X4_36 (by first | rfl | assumption) (by omega) ?_
              refine z_if_ne d_X4_mayBegin_74 (fun h_74 => ?_) (fun h_74 => ?_)
              · refine z_iconst d_X4_mayBegin_81 ki_0 ?_
                exact z_zreturn d_X4_mayBegin_82 rfl rfl (by
                  refine ⟨?_, rfl, rfl, rfl, ?_⟩
                  · first | rw [if_pos h_74] | rw [if_neg h_74]
                  · first
                      | (have q := h_58; first | exact Or.inl ⟨Or.inr (Or.inr (Or.inr ⟨h_49, q⟩)), 4, by decide, rfl⟩ | exact Or.inr ⟨fun z => by rcases z with z | z | ⟨z1, z2⟩ | ⟨z1, z2⟩; exact absurd z h_1; exact z h_7; (first | exact h_23 z1 | exact z2 h_32); exact z2 q, rfl⟩)
                      | (have q := h_49; exact Or.inr ⟨fun z => by rcases z with z | z | ⟨z1, z2⟩ | ⟨z1, z2⟩; exact absurd z h_1; exact z h_7; (first | exact h_23 z1 | exact z2 h_32); exact z1 q, rfl⟩)
                      | (have q := h_32; exact Or.inl ⟨Or.inr (Or.inr (Or.inl ⟨h_23, q⟩)), 5, by decide, rfl⟩)
                      | (have q := h_7; exact Or.inl ⟨Or.inr (Or.inl q), 2, by decide, rfl⟩)
                      | exact Or.inl ⟨Or.inl h_1, 2, by decide, rfl⟩)
              · refine z_iconst d_X4_mayBegin_77 ki_1 ?_
                refine z_goto d_X4_mayBegin_78 ?_
                exact z_zreturn d_X4_mayBegin_82 rfl rfl (by
                  refine ⟨?_, rfl, rfl, rfl, ?_⟩
                  · first | rw [if_pos h_74] | rw [if_neg h_74]
                  · first
                      | (have q := h_58; first | exact Or.inl ⟨Or.inr (Or.inr (Or.inr ⟨h_49, q⟩)), 4, by decide, rfl⟩ | exact Or.inr ⟨fun z => by rcases z with z | z | ⟨z1, z2⟩ | ⟨z1, z2⟩; exact absurd z h_1; exact z h_7; (first | exact h_23 z1 | exact z2 h_32); exact z2 q, rfl⟩)
                      | (have q := h_49; exact Or.inr ⟨fun z => by rcases z with z | z | ⟨z1, z2⟩ | ⟨z1, z2⟩; exact absurd z h_1; exact z h_7; (first | exact h_23 z1 | exact z2 h_32); exact z1 q, rfl⟩)
                      | (have q := h_32; exact Or.inl ⟨Or.inr (Or.inr (Or.inl ⟨h_23, q⟩)), 5, by decide, rfl⟩)
                      | (have q := h_7; exact Or.inl ⟨Or.inr (Or.inl q), 2, by decide, rfl⟩)
                      | exact Or.inl ⟨Or.inl h_1, 2, by decide, rfl⟩)
        · refine z_aload_n d_X4_mayBegin_35 rfl ?_
          refine z_iconst d_X4_mayBegin_36 ki_5 ?_
          refine z_aload_n d_X4_mayBegin_37 rfl ?_
          refine z_getI d_X4_mayBegin_38 f_X4_73 (by first | rfl | assumption) (by omega) ?_
          refine z_cVv d_X4_mayBegin_41 q_X4_mayBegin_85 (by first | rfl | assumption) (by omega) ⟨rfl, rfl⟩ (ct_X4_fail hR) rfl rfl rfl ⟨Nat.zero_le _, Nat.zero_le _⟩ ?_
          refine z_goto d_X4_mayBegin_44 ?_
          refine z_aload_n d_X4_mayBegin_70 rfl ?_
          refine z_getI d_X4_mayBegin_71 f_X4_36 (by first | rfl | assumption) (by omega) ?_
          refine z_if_ne d_X4_mayBegin_74 (fun h_74 => ?_) (fun h_74 => ?_)
          · refine z_iconst d_X4_mayBegin_81 ki_0 ?_
            exact z_zreturn d_X4_mayBegin_82 rfl rfl (by
              refine ⟨?_, rfl, rfl, rfl, ?_⟩
              · first | rw [if_pos h_74] | rw [if_neg h_74]
              · first
                  | (have q := h_58; first | exact Or.inl ⟨Or.inr (Or.inr (Or.inr ⟨h_49, q⟩)), 4, by decide, rfl⟩ | exact Or.inr ⟨fun z => by rcases z with z | z | ⟨z1, z2⟩ | ⟨z1, z2⟩; exact absurd z h_1; exact z h_7; (first | exact h_23 z1 | exact z2 h_32); exact z2 q, rfl⟩)
                  | (have q := h_49; exact Or.inr ⟨fun z => by rcases z with z | z | ⟨z1, z2⟩ | ⟨z1, z2⟩; exact absurd z h_1; exact z h_7; (first | exact h_23 z1 | exact z2 h_32); exact z1 q, rfl⟩)
                  | (have q := h_32; exact Or.inl ⟨Or.inr (Or.inr (Or.inl ⟨h_23, q⟩)), 5, by decide, rfl⟩)
                  | (have q := h_7; exact Or.inl ⟨Or.inr (Or.inl q), 2, by decide, rfl⟩)
                  | exact Or.inl ⟨Or.inl h_1, 2, by decide, rfl⟩)
          · refine z_iconst d_X4_mayBegin_77 ki_1 ?_
            refine z_goto d_X4_mayBegin_78 ?_
            exact z_zreturn d_X4_mayBegin_82 rfl rfl (by
              refine ⟨?_, rfl, rfl, rfl, ?_⟩
              · first | rw [if_pos h_74] | rw [if_neg h_74]
              · first
                  | (have q := h_58; first | exact Or.inl ⟨Or.inr (Or.inr (Or.inr ⟨h_49, q⟩)), 4, by decide, rfl⟩ | exact Or.inr ⟨fun z => by rcases z with z | z | ⟨z1, z2⟩ | ⟨z1, z2⟩; exact absurd z h_1; exact z h_7; (first | exact h_23 z1 | exact z2 h_32); exact z2 q, rfl⟩)
                  | (have q := h_49; exact Or.inr ⟨fun z => by rcases z with z | z | ⟨z1, z2⟩ | ⟨z1, z2⟩; exact absurd z h_1; exact z h_7; (first | exact h_23 z1 | exact z2 h_32); exact z1 q, rfl⟩)
                  | (have q := h_32; exact Or.inl ⟨Or.inr (Or.inr (Or.inl ⟨h_23, q⟩)), 5, by decide, rfl⟩)
                  | (have q := h_7; exact Or.inl ⟨Or.inr (Or.inl q), 2, by decide, rfl⟩)
                  | exact Or.inl ⟨Or.inl h_1, 2, by decide, rfl⟩)
    · refine z_aload_n d_X4_mayBegin_10 rfl ?_
      refine z_iconst d_X4_mayBegin_11 ki_2 ?_
      refine z_aload_n d_X4_mayBegin_12 rfl ?_
      refine z_getI d_X4_mayBegin_13 f_X4_73 (by first | rfl | assumption) (by omega) ?_
      refine z_cVv d_X4_mayBegin_16 q_X4_mayBegin_85 (by first | rfl | assumption) (by omega) ⟨rfl, rfl⟩ (ct_X4_fail hR) rfl rfl rfl ⟨Nat.zero_le _, Nat.zero_le _⟩ ?_
      refine z_goto d_X4_mayBegin_19 ?_
      refine z_aload_n d_X4_mayBegin_70 rfl ?_
      refine z_getI d_X4_mayBegin_71 f_X4_36 (by first | rfl | assumption) (by omega) ?_
      refine z_if_ne d_X4_mayBegin_74 (fun h_74 => ?_) (fun h_74 => ?_)
      · refine z_iconst d_X4_mayBegin_81 ki_0 ?_
        exact z_zreturn d_X4_mayBegin_82 rfl rfl (by
          refine ⟨?_, rfl, rfl, rfl, ?_⟩
          · first | rw [if_pos h_74] | rw [if_neg h_74]
          · first
              | (have q := h_58; first | exact Or.inl ⟨Or.inr (Or.inr (Or.inr ⟨h_49, q⟩)), 4, by decide, rfl⟩ | exact Or.inr ⟨fun z => by rcases z with z | z | ⟨z1, z2⟩ | ⟨z1, z2⟩; exact absurd z h_1; exact z h_7; (first | exact h_23 z1 | exact z2 h_32); exact z2 q, rfl⟩)
              | (have q := h_49; exact Or.inr ⟨fun z => by rcases z with z | z | ⟨z1, z2⟩ | ⟨z1, z2⟩; exact absurd z h_1; exact z h_7; (first | exact h_23 z1 | exact z2 h_32); exact z1 q, rfl⟩)
              | (have q := h_32; exact Or.inl ⟨Or.inr (Or.inr (Or.inl ⟨h_23, q⟩)), 5, by decide, rfl⟩)
              | (have q := h_7; exact Or.inl ⟨Or.inr (Or.inl q), 2, by decide, rfl⟩)
              | exact Or.inl ⟨Or.inl h_1, 2, by decide, rfl⟩)
      · refine z_iconst d_X4_mayBegin_77 ki_1 ?_
        refine z_goto d_X4_mayBegin_78 ?_
        exact z_zreturn d_X4_mayBegin_82 rfl rfl (by
          refine ⟨?_, rfl, rfl, rfl, ?_⟩
          · first | rw [if_pos h_74] | rw [if_neg h_74]
          · first
              | (have q := h_58; first | exact Or.inl ⟨Or.inr (Or.inr (Or.inr ⟨h_49, q⟩)), 4, by decide, rfl⟩ | exact Or.inr ⟨fun z => by rcases z with z | z | ⟨z1, z2⟩ | ⟨z1, z2⟩; exact absurd z h_1; exact z h_7; (first | exact h_23 z1 | exact z2 h_32); exact z2 q, rfl⟩)
              | (have q := h_49; exact Or.inr ⟨fun z => by rcases z with z | z | ⟨z1, z2⟩ | ⟨z1, z2⟩; exact absurd z h_1; exact z h_7; (first | exact h_23 z1 | exact z2 h_32); exact z1 q, rfl⟩)
              | (have q := h_32; exact Or.inl ⟨Or.inr (Or.inr (Or.inl ⟨h_23, q⟩)), 5, by decide, rfl⟩)
              | (have q := h_7; exact Or.inl ⟨Or.inr (Or.inl q), 2, by decide, rfl⟩)
              | exact Or.inl ⟨Or.inl h_1, 2, by decide, rfl⟩)
