set_option maxRecDepth 100000 in
set_option maxHeartbeats 4000000 in
theorem ct_rw_h {E : zE} {I : zI} {L : zL} {R : zR} {t : Nat} {g : Nat → Int32} {c : zCu} (hR : zLx R) (h17 : I 64 17 = nI t) (ht : t ≤ 400) (h77 : ∀ j, j < t → I 77 j = g j) (hgn : ∀ j, j < t → ¬ g j < 0) (hc : cM t I (nxC g t c)) (hg : gdC t c) : zCt E m_X8_readWell zShF [.ref 64, .int 0] I L R (fun r1 Sh1 I1 L1 R1 => r1 = none ∧ Sh1 = zShF ∧ L1 = L ∧ R1 = R ∧ qWl t g I 74 99 c I1) := by
  refine z_met (by decide) [some (.ref 64), some (.int 0), none, none] rfl rfl (Nat.le_of_ble_eq_true rfl) (fun X => ?_)
  refine z_aload_n d_X8_readWell_0 rfl ?_
  refine z_iconst d_X8_readWell_1 ki_0 ?_
  refine z_bipush d_X8_readWell_2 kb_47 ?_
  refine z_rV d_X8_readWell_4 q_X8_readWell_145 (by first | rfl | assumption) (by omega) ⟨rfl, rfl⟩ (ct_isN hR hc (gd_nx ht hgn hg)) rfl rfl rfl ⟨Nat.zero_le _, Nat.zero_le _⟩ (fun r_4 Sh_4 I_4 L_4 R_4 hq_4 => ?_)
  obtain ⟨rfl, rfl, rfl, rfl, hf, hc1, hv⟩ := hq_4
  have hw : isR (p1C g t c) → I_4 64 21 = cv (p1C g t c) := fun z => hv.trans (cv_M hc z)
  have hwb : isR (p1C g t c) → zix (I_4 64 21) 48 (I_4 64 21).toNatClampNeg := fun z => by
    have e := (ch_eq (show isR (chC 0 47 (nxC g t c)) from z)).2
    have e2 : btw 0 (I_4 64 21) 47 := by rw [hw z]; exact e
    exact zx47 ⟨Int32.le_iff_toInt_le.mpr e2.1, Int32.le_iff_toInt_le.mpr e2.2⟩
  have hq : I_4 74 = I 74 := hf.1 74 (by decide)
  have tail : ∀ (Qs : State → Prop), (∀ K x, qWl t g I 74 99 c K → zZ E m_X8_readWell X Qs zShF 0 0 107 [some (.ref 64), some (.int 0), some (.int (I_4 64 21)), some (.int x)] [] K L_4 R_4) → ∀ J, fr64 I J → cM t J (p2C g t (I 74) c) → zZ E m_X8_readWell X Qs zShF 0 0 51 [some (.ref 64), some (.int 0), some (.int (I_4 64 21)), none] [] J L_4 R_4 := by
    intro Qs hx J hJ hcJ
    obtain ⟨hJ17, hJ77⟩ := h17_c hJ h17 h77
    refine z_aload_n d_X8_readWell_51 rfl ?_
    refine z_rV d_X8_readWell_52 q_X8_readWell_149 (by first | rfl | assumption) (by omega) ⟨rfl, rfl⟩ (ct_nx hR hJ17 ht hJ77 (aR_of hcJ)) rfl rfl rfl ⟨Nat.zero_le _, Nat.zero_le _⟩ (fun r_52 Sh_52 I_52 L_52 R_52 hq_52 => ?_)
    obtain ⟨rfl, rfl, rfl, rfl, hf2, hc2⟩ := hq_52
    obtain ⟨hK17, hK77⟩ := h17_c hf2 hJ17 hJ77
    refine z_aload_n d_X8_readWell_55 rfl ?_
    refine z_iconst d_X8_readWell_56 ki_1 ?_
    refine z_iload_n d_X8_readWell_57 rfl ?_
    refine z_if_eq d_X8_readWell_58 (fun h_58 => ?_) (fun h_58 => absurd rfl h_58)
    refine z_bipush d_X8_readWell_66 kb_99 ?_
    refine z_rV d_X8_readWell_68 q_X8_readWell_152 (by first | rfl | assumption) (by omega) ⟨rfl, rfl⟩ (ct_X8_readNumber hR hK17 ht hK77 hc2 (gd_nx ht hgn (gd_p2 ht hgn hg))) rfl rfl rfl ⟨Nat.zero_le _, Nat.zero_le _⟩ (fun r_68 Sh_68 I_68 L_68 R_68 hq_68 => ?_)
    obtain ⟨y, rfl, rfl, rfl, rfl, hf3, hc3, hy⟩ := hq_68
    have hf4 : fr64 I I_68 := fr64_tr hJ (fr64_tr hf2 hf3)
    have hc4 : cM t I_68 (nxC g t (ptC g t (I 74) 99 c)) := hc3
    refine z_istore3 d_X8_readWell_71 rfl ?_
    refine z_aload_n d_X8_readWell_72 rfl ?_
    refine z_getI d_X8_readWell_73 f_X8_107 (by first | rfl | assumption) (by omega) ?_
    refine z_if_ne d_X8_readWell_76 (fun h_76 => ?_) (fun h_76 => ?_)
    · refine z_aload_n d_X8_readWell_93 rfl ?_
      refine z_getI d_X8_readWell_94 f_X8_107 (by first | rfl | assumption) (by omega) ?_
      refine z_if_ne d_X8_readWell_97 (fun h_97 => ?_) (fun h_97 => ?_)
      · exact hx _ _ (qWl_f (by decide) hf4 hc4 h_97)
      · have hr : isR (p1C g t c) := pt_p1 (cM_z hc4 h_97)
        refine z_aload_n d_X8_readWell_100 rfl ?_
        refine z_getR d_X8_readWell_101 f_X8_39 (by first | rfl | assumption) (by omega) (by first | exact hR _ _ _ rfl | rfl | assumption) ?_
        refine z_iload_n d_X8_readWell_104 rfl ?_
        refine z_iload_n d_X8_readWell_105 rfl ?_
        refine z_iastore d_X8_readWell_106 (by first | rfl | assumption) (by omega) (hwb hr) ?_
        exact hx _ _ (qWl_t (by decide) hf4 hc4 hw hy)
    · refine z_iload_n d_X8_readWell_79 rfl ?_
      refine z_if_eq d_X8_readWell_80 (fun h_80 => ?_) (fun h_80 => absurd rfl h_80)
      refine z_aload_n d_X8_readWell_93 rfl ?_
      refine z_getI d_X8_readWell_94 f_X8_107 (by first | rfl | assumption) (by omega) ?_
      refine z_if_ne d_X8_readWell_97 (fun h_97 => ?_) (fun h_97 => ?_)
      · exact hx _ _ (qWl_f (by decide) hf4 hc4 h_97)
      · have hr : isR (p1C g t c) := pt_p1 (cM_z hc4 h_97)
        refine z_aload_n d_X8_readWell_100 rfl ?_
        refine z_getR d_X8_readWell_101 f_X8_39 (by first | rfl | assumption) (by omega) (by first | exact hR _ _ _ rfl | rfl | assumption) ?_
        refine z_iload_n d_X8_readWell_104 rfl ?_
        refine z_iload_n d_X8_readWell_105 rfl ?_
        refine z_iastore d_X8_readWell_106 (by first | rfl | assumption) (by omega) (hwb hr) ?_
        exact hx _ _ (qWl_t (by decide) hf4 hc4 hw hy)
  refine z_aload_n d_X8_readWell_7 rfl ?_
  refine z_getI d_X8_readWell_8 f_X8_138 (by first | rfl | assumption) (by omega) ?_
  refine z_istore2 d_X8_readWell_11 rfl ?_
  refine z_aload_n d_X8_readWell_12 rfl ?_
  refine z_getI d_X8_readWell_13 f_X8_107 (by first | rfl | assumption) (by omega) ?_
  refine z_if_ne d_X8_readWell_16 (fun h_16 => ?_) (fun h_16 => ?_)
  · obtain ⟨p, e⟩ := cM_n hc1 h_16
    refine tail _ (fun K x hK => ?_) _ hf (by rw [p2_i (f := I 74) e]; rw [← e]; exact hc1)
    exact z_return d_X8_readWell_107 rfl ⟨rfl, rfl, rfl, rfl, hK⟩
  · have hr1 : isR (p1C g t c) := cM_z hc1 h_16
    refine z_aload_n d_X8_readWell_19 rfl ?_
    refine z_iload_n d_X8_readWell_20 rfl ?_
    refine z_if_eq d_X8_readWell_21 (fun h_21 => ?_) (fun h_21 => absurd rfl h_21)
    refine z_aload_n d_X8_readWell_33 rfl ?_
    refine z_getR d_X8_readWell_34 f_X8_39 (by first | rfl | assumption) (by omega) (by first | exact hR _ _ _ rfl | rfl | assumption) ?_
    refine z_iload_n d_X8_readWell_37 rfl ?_
    refine z_iaload d_X8_readWell_38 (by first | rfl | assumption) (by omega) (hwb hr1) ?_
    refine z_if_ne d_X8_readWell_39 (fun h_39 => ?_) (fun h_39 => ?_)
    · have e2 : p2C g t (I 74) c = flC (p1C g t c) := p2_f (x := I_4 64 21) hw (by rw [← hq]; exact h_39)
      have hnd : zCf E m_X8_needs zShF [.ref 64, .int 0, .int 4] I_4 L_4 R_4 none (zi (zi I_4 64 22 4) 64 23 (I_4 64 19)) L_4 R_4 := nd_f (g := false) hR rfl h_16
      have hfin : fr64 I (zi (zi I_4 64 22 4) 64 23 (I_4 64 19)) := fr64_tr hf fr64_fl
      have hcin : cM t (zi (zi I_4 64 22 4) 64 23 (I_4 64 19)) (p2C g t (I 74) c) := by rw [e2]; exact cM_fl (by decide) hc1 h_16
      refine z_iconst d_X8_readWell_46 ki_0 ?_
      refine z_iconst d_X8_readWell_47 ki_4 ?_
      refine z_cVv d_X8_readWell_48 q_X8_readWell_141 (by first | rfl | assumption) (by omega) ⟨rfl, rfl⟩ (hnd) rfl rfl rfl ⟨Nat.zero_le _, Nat.zero_le _⟩ ?_
      refine tail _ (fun K x hK => ?_) _ hfin hcin
      exact z_return d_X8_readWell_107 rfl ⟨rfl, rfl, rfl, rfl, hK⟩
    · have e2 : p2C g t (I 74) c = p1C g t c := p2_t (x := I_4 64 21) hw (by rw [← hq]; exact h_39)
      have hnd : zCf E m_X8_needs zShF [.ref 64, .int 1, .int 4] I_4 L_4 R_4 none I_4 L_4 R_4 := nd_t (g := true) hR rfl
      have hfin : fr64 I I_4 := hf
      have hcin : cM t I_4 (p2C g t (I 74) c) := by rw [e2]; exact hc1
      refine z_iconst d_X8_readWell_42 ki_1 ?_
      refine z_goto d_X8_readWell_43 ?_
      refine z_iconst d_X8_readWell_47 ki_4 ?_
      refine z_cVv d_X8_readWell_48 q_X8_readWell_141 (by first | rfl | assumption) (by omega) ⟨rfl, rfl⟩ (hnd) rfl rfl rfl ⟨Nat.zero_le _, Nat.zero_le _⟩ ?_
      refine tail _ (fun K x hK => ?_) _ hfin hcin
      exact z_return d_X8_readWell_107 rfl ⟨rfl, rfl, rfl, rfl, hK⟩
set_option maxRecDepth 100000 in
set_option maxHeartbeats 4000000 in
theorem ct_rw_t {E : zE} {I : zI} {L : zL} {R : zR} {t : Nat} {g : Nat → Int32} {c : zCu} (hR : zLx R) (h17 : I 64 17 = nI t) (ht : t ≤ 400) (h77 : ∀ j, j < t → I 77 j = g j) (hgn : ∀ j, j < t → ¬ g j < 0) (hc : cM t I (nxC g t c)) (hg : gdC t c) : zCt E m_X8_readWell zShF [.ref 64, .int 1] I L R (fun r1 Sh1 I1 L1 R1 => r1 = none ∧ Sh1 = zShF ∧ L1 = L ∧ R1 = R ∧ qWl t g I 75 50 c I1) := by
  refine z_met (by decide) [some (.ref 64), some (.int 1), none, none] rfl rfl (Nat.le_of_ble_eq_true rfl) (fun X => ?_)
  refine z_aload_n d_X8_readWell_0 rfl ?_
  refine z_iconst d_X8_readWell_1 ki_0 ?_
  refine z_bipush d_X8_readWell_2 kb_47 ?_
  refine z_rV d_X8_readWell_4 q_X8_readWell_145 (by first | rfl | assumption) (by omega) ⟨rfl, rfl⟩ (ct_isN hR hc (gd_nx ht hgn hg)) rfl rfl rfl ⟨Nat.zero_le _, Nat.zero_le _⟩ (fun r_4 Sh_4 I_4 L_4 R_4 hq_4 => ?_)
  obtain ⟨rfl, rfl, rfl, rfl, hf, hc1, hv⟩ := hq_4
  have hw : isR (p1C g t c) → I_4 64 21 = cv (p1C g t c) := fun z => hv.trans (cv_M hc z)
  have hwb : isR (p1C g t c) → zix (I_4 64 21) 48 (I_4 64 21).toNatClampNeg := fun z => by
    have e := (ch_eq (show isR (chC 0 47 (nxC g t c)) from z)).2
    have e2 : btw 0 (I_4 64 21) 47 := by rw [hw z]; exact e
    exact zx47 ⟨Int32.le_iff_toInt_le.mpr e2.1, Int32.le_iff_toInt_le.mpr e2.2⟩
  have hq : I_4 75 = I 75 := hf.1 75 (by decide)
  have tail : ∀ (Qs : State → Prop), (∀ K x, qWl t g I 75 50 c K → zZ E m_X8_readWell X Qs zShF 0 0 107 [some (.ref 64), some (.int 1), some (.int (I_4 64 21)), some (.int x)] [] K L_4 R_4) → ∀ J, fr64 I J → cM t J (p2C g t (I 75) c) → zZ E m_X8_readWell X Qs zShF 0 0 51 [some (.ref 64), some (.int 1), some (.int (I_4 64 21)), none] [] J L_4 R_4 := by
    intro Qs hx J hJ hcJ
    obtain ⟨hJ17, hJ77⟩ := h17_c hJ h17 h77
    refine z_aload_n d_X8_readWell_51 rfl ?_
    refine z_rV d_X8_readWell_52 q_X8_readWell_149 (by first | rfl | assumption) (by omega) ⟨rfl, rfl⟩ (ct_nx hR hJ17 ht hJ77 (aR_of hcJ)) rfl rfl rfl ⟨Nat.zero_le _, Nat.zero_le _⟩ (fun r_52 Sh_52 I_52 L_52 R_52 hq_52 => ?_)
    obtain ⟨rfl, rfl, rfl, rfl, hf2, hc2⟩ := hq_52
    obtain ⟨hK17, hK77⟩ := h17_c hf2 hJ17 hJ77
    refine z_aload_n d_X8_readWell_55 rfl ?_
    refine z_iconst d_X8_readWell_56 ki_1 ?_
    refine z_iload_n d_X8_readWell_57 rfl ?_
    refine z_if_eq d_X8_readWell_58 (fun h_58 => absurd h_58 (by decide)) (fun h_58 => ?_)
    refine z_bipush d_X8_readWell_61 kb_50 ?_
    refine z_goto d_X8_readWell_63 ?_
    refine z_rV d_X8_readWell_68 q_X8_readWell_152 (by first | rfl | assumption) (by omega) ⟨rfl, rfl⟩ (ct_X8_readNumber hR hK17 ht hK77 hc2 (gd_nx ht hgn (gd_p2 ht hgn hg))) rfl rfl rfl ⟨Nat.zero_le _, Nat.zero_le _⟩ (fun r_68 Sh_68 I_68 L_68 R_68 hq_68 => ?_)
    obtain ⟨y, rfl, rfl, rfl, rfl, hf3, hc3, hy⟩ := hq_68
    have hf4 : fr64 I I_68 := fr64_tr hJ (fr64_tr hf2 hf3)
    have hc4 : cM t I_68 (nxC g t (ptC g t (I 75) 50 c)) := hc3
    refine z_istore3 d_X8_readWell_71 rfl ?_
    refine z_aload_n d_X8_readWell_72 rfl ?_
    refine z_getI d_X8_readWell_73 f_X8_107 (by first | rfl | assumption) (by omega) ?_
    refine z_if_ne d_X8_readWell_76 (fun h_76 => ?_) (fun h_76 => ?_)
    · refine z_aload_n d_X8_readWell_93 rfl ?_
      refine z_getI d_X8_readWell_94 f_X8_107 (by first | rfl | assumption) (by omega) ?_
      refine z_if_ne d_X8_readWell_97 (fun h_97 => ?_) (fun h_97 => absurd h_97 h_76)
      first
        | exact hx _ _ (qWl_t (by decide) hf4 hc4 hw hy)
        | exact hx _ _ (qWl_f (by decide) hf4 hc4 h_97)
    · refine z_iload_n d_X8_readWell_79 rfl ?_
      refine z_if_eq d_X8_readWell_80 (fun h_80 => absurd h_80 (by decide)) (fun h_80 => ?_)
      have hr : isR (p1C g t c) := pt_p1 (cM_z hc4 h_76)
      refine z_aload_n d_X8_readWell_83 rfl ?_
      refine z_getR d_X8_readWell_84 f_X8_42 (by first | rfl | assumption) (by omega) (by first | exact hR _ _ _ rfl | rfl | assumption) ?_
      refine z_iload_n d_X8_readWell_87 rfl ?_
      refine z_iload_n d_X8_readWell_88 rfl ?_
      refine z_iastore d_X8_readWell_89 (by first | rfl | assumption) (by omega) (hwb hr) ?_
      refine z_goto d_X8_readWell_90 ?_
      first
        | exact hx _ _ (qWl_t (by decide) hf4 hc4 hw hy)
        | exact hx _ _ (qWl_f (by decide) hf4 hc4 h_97)
  refine z_aload_n d_X8_readWell_7 rfl ?_
  refine z_getI d_X8_readWell_8 f_X8_138 (by first | rfl | assumption) (by omega) ?_
  refine z_istore2 d_X8_readWell_11 rfl ?_
  refine z_aload_n d_X8_readWell_12 rfl ?_
  refine z_getI d_X8_readWell_13 f_X8_107 (by first | rfl | assumption) (by omega) ?_
  refine z_if_ne d_X8_readWell_16 (fun h_16 => ?_) (fun h_16 => ?_)
  · obtain ⟨p, e⟩ := cM_n hc1 h_16
    refine tail _ (fun K x hK => ?_) _ hf (by rw [p2_i (f := I 75) e]; rw [← e]; exact hc1)
    exact z_return d_X8_readWell_107 rfl ⟨rfl, rfl, rfl, rfl, hK⟩
  · have hr1 : isR (p1C g t c) := cM_z hc1 h_16
    refine z_aload_n d_X8_readWell_19 rfl ?_
    refine z_iload_n d_X8_readWell_20 rfl ?_
    refine z_if_eq d_X8_readWell_21 (fun h_21 => absurd h_21 (by decide)) (fun h_21 => ?_)
    refine z_aload_n d_X8_readWell_24 rfl ?_
    refine z_getR d_X8_readWell_25 f_X8_42 (by first | rfl | assumption) (by omega) (by first | exact hR _ _ _ rfl | rfl | assumption) ?_
    refine z_iload_n d_X8_readWell_28 rfl ?_
    refine z_iaload d_X8_readWell_29 (by first | rfl | assumption) (by omega) (hwb hr1) ?_
    refine z_goto d_X8_readWell_30 ?_
    refine z_if_ne d_X8_readWell_39 (fun h_39 => ?_) (fun h_39 => ?_)
    · have e2 : p2C g t (I 75) c = flC (p1C g t c) := p2_f (x := I_4 64 21) hw (by rw [← hq]; exact h_39)
      have hnd : zCf E m_X8_needs zShF [.ref 64, .int 0, .int 4] I_4 L_4 R_4 none (zi (zi I_4 64 22 4) 64 23 (I_4 64 19)) L_4 R_4 := nd_f (g := false) hR rfl h_16
      have hfin : fr64 I (zi (zi I_4 64 22 4) 64 23 (I_4 64 19)) := fr64_tr hf fr64_fl
      have hcin : cM t (zi (zi I_4 64 22 4) 64 23 (I_4 64 19)) (p2C g t (I 75) c) := by rw [e2]; exact cM_fl (by decide) hc1 h_16
      refine z_iconst d_X8_readWell_46 ki_0 ?_
      refine z_iconst d_X8_readWell_47 ki_4 ?_
      refine z_cVv d_X8_readWell_48 q_X8_readWell_141 (by first | rfl | assumption) (by omega) ⟨rfl, rfl⟩ (hnd) rfl rfl rfl ⟨Nat.zero_le _, Nat.zero_le _⟩ ?_
      refine tail _ (fun K x hK => ?_) _ hfin hcin
      exact z_return d_X8_readWell_107 rfl ⟨rfl, rfl, rfl, rfl, hK⟩
    · have e2 : p2C g t (I 75) c = p1C g t c := p2_t (x := I_4 64 21) hw (by rw [← hq]; exact h_39)
      have hnd : zCf E m_X8_needs zShF [.ref 64, .int 1, .int 4] I_4 L_4 R_4 none I_4 L_4 R_4 := nd_t (g := true) hR rfl
      have hfin : fr64 I I_4 := hf
      have hcin : cM t I_4 (p2C g t (I 75) c) := by rw [e2]; exact hc1
      refine z_iconst d_X8_readWell_42 ki_1 ?_
      refine z_goto d_X8_readWell_43 ?_
      refine z_iconst d_X8_readWell_47 ki_4 ?_
      refine z_cVv d_X8_readWell_48 q_X8_readWell_141 (by first | rfl | assumption) (by omega) ⟨rfl, rfl⟩ (hnd) rfl rfl rfl ⟨Nat.zero_le _, Nat.zero_le _⟩ ?_
      refine tail _ (fun K x hK => ?_) _ hfin hcin
      exact z_return d_X8_readWell_107 rfl ⟨rfl, rfl, rfl, rfl, hK⟩
