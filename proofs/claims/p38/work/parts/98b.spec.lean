/-! FETCH -/
abbrev bA (I : zI) (t a : Nat) : Nat := rn pBl (gB I) t a
abbrev eA (k : Int32) (I : zI) (t a : Nat) : Nat := rn (pTk k) (gB I) t (bA I t a)
def m1 (I : zI) (b : Nat) (K : Int32) : zI := zi (zi (zi (zi (zi I 8 5 0) 8 4 (nI b)) 8 6 (nI b)) 8 7 0) 8 5 K
def m2 (I : zI) (t a : Nat) (K : Int32) : zI := zi (zi (m1 I (bA I t a) K) 8 7 (vf (gB I) t 0 (bA I t a) (eA K I t a - bA I t a))) 8 4 (nI (eA K I t a))
theorem ct_tok {E : zE} {I : zI} {L : zL} {R : zR} {s v : Int32} (h : tokV s = v) : zCf E m_X4_tokenOf zShF [.int s] I L R (some (.int v)) I L R := by subst h; exact ct_X4_tokenOf
theorem nI_subN {a b : Nat} (h : b ≤ a) : nI a - nI b = nI (a - b) := by
  have : nI (a - b) + nI b = nI a := by rw [nI_add]; congr 1; omega
  rw [← this, Int32.add_sub_cancel]
set_option maxRecDepth 100000 in
set_option maxHeartbeats 4000000 in
theorem ct_X4_fetch_1 {E : zE} {I : zI} {L : zL} {R : zR} {t a : Nat} (hR : zLx R) (h1 : I 1 1 = nI t) (ht : t ≤ 400) (ha : a ≤ t) (h4 : I 8 4 = nI a) (h10 : I 8 10 = 0) (hK : tokV (btA (gB I) t (bA I t a)) = 1) : zCf E m_X4_fetch zShF [.ref 8] I L R (none) (m1 I (bA I t a) 1) (L) (R) := by
  have hb : bA I t a ≤ t := rn_le (g := gB I) pBl_1 ht ha; have he1 : bA I t a ≤ eA 3 I t a := (rn_is (p := pTk 3) (g := gB I) (j := bA I t a) (pTk_1 (Or.inr rfl)) ht).1; have he2 : eA 3 I t a ≤ t := rn_le (p := pTk 3) (g := gB I) (j := bA I t a) (pTk_1 (Or.inr rfl)) ht hb
  refine z_met (by decide) [some (.ref 8), none] rfl rfl (Nat.le_of_ble_eq_true rfl) (fun X => ?_)
  refine z_aload_n d_X4_fetch_0 rfl ?_
  refine z_iconst d_X4_fetch_1 ki_0 ?_
  refine z_putI d_X4_fetch_2 f_X4_40 p_X4_5 (by first | rfl | assumption) (by omega) ?_
  refine z_aload_n d_X4_fetch_5 rfl ?_
  refine z_getI d_X4_fetch_6 f_X4_36 (by first | rfl | assumption) (by omega) ?_
  refine z_if_eq d_X4_fetch_9 (fun h_9 => ?_) (fun h_9 => absurd h10 h_9)
  refine z_iconst d_X4_fetch_13 ki_0 ?_
  refine z_istore1 d_X4_fetch_14 rfl ?_
  have loop : ∀ (Qs : State → Prop), (∀ v, zZ E m_X4_fetch X Qs zShF 0 0 54 [some (.ref 8), some (.int v)] [] (zi (zi I 8 5 0) 8 4 (nI (bA I t a))) L R) → ∀ i, i ≤ 400 → (∀ m, m < i → btA (gB I) t (a + m) = 32) → zZ E m_X4_fetch X Qs zShF 0 0 15 [some (.ref 8), some (.int (nI i))] [] (zi (zi I 8 5 0) 8 4 (nI (a + i))) L R := by
    intro Qs hx
    refine up_rec (fun i hi' ih hbl => ?_)
    have fin : ¬ btA (gB I) t (a + i) = 32 → bA I t a = a + i := fun hne => rn_eq pBl_1 ht ⟨by omega, fun m h1 h2 => by
      have := hbl (m - a) (by omega)
      rw [show a + (m - a) = m by omega] at this
      unfold pBl; simpa using this, by unfold pBl; simpa using hne⟩
    refine z_iload_n d_X4_fetch_15 rfl ?_
    refine z_sipush d_X4_fetch_16 ks_400 ?_
    refine z_icmp_ge d_X4_fetch_19 (fun h_19 => ?_) (fun h_19 => ?_)
    · refine z_mem (I' := zi (zi I 8 5 0) 8 4 (nI (bA I t a))) ?_ rfl rfl (hx _)
      have hi4 := eq_of_ge (n := 400) (by decide) hi' h_19
      rw [fin (by rw [btA_end (by omega)]; decide)]
    · have hlt := lt_of_nge (n := 400) (by decide) h_19 (by omega)
      refine z_aload_n d_X4_fetch_22 rfl ?_
      refine z_getR d_X4_fetch_23 f_X4_26 (by first | rfl | assumption) (by omega) (by first | exact hR _ _ _ rfl | rfl | assumption) ?_
      refine z_aload_n d_X4_fetch_26 rfl ?_
      refine z_getI d_X4_fetch_27 f_X4_61 (by first | rfl | assumption) (by omega) ?_
      refine z_cVi d_X4_fetch_30 q_X4_fetch_67 (by first | rfl | assumption) (by omega) ⟨rfl, rfl⟩ ((show zCf E m_X6_byteAt zShF [.ref 1, .int (nI (a + i))] _ L R (some (.int (btA (gB I) t (a + i)))) _ L R from ct_byte (t := t) (j := a + i) hR h1 ht (by omega))) rfl rfl rfl ⟨Nat.zero_le _, Nat.zero_le _⟩ ?_
      refine z_bipush d_X4_fetch_33 kb_32 ?_
      refine z_icmp_ne d_X4_fetch_35 (fun h_35 => ?_) (fun h_35 => ?_)
      · refine z_mem (I' := zi (zi I 8 5 0) 8 4 (nI (bA I t a))) ?_ rfl rfl (hx _)
        rw [fin h_35]
      · refine z_aload_n d_X4_fetch_38 rfl ?_
        refine z_dup d_X4_fetch_39 rfl ?_
        refine z_getI d_X4_fetch_40 f_X4_61 (by first | rfl | assumption) (by omega) ?_
        refine z_iconst d_X4_fetch_43 ki_1 ?_
        refine z_iadd d_X4_fetch_44 ?_
        refine z_putI d_X4_fetch_45 f_X4_61 p_X4_4 (by first | rfl | assumption) (by omega) ?_
        refine z_iinc1 d_X4_fetch_48 ki_1 rfl ?_
        refine z_goto d_X4_fetch_51 ?_
        refine z_mem (I' := zi (zi I 8 5 0) 8 4 (nI (a + (i + 1)))) ?_ rfl rfl ?_
        · rw [zi_zz, show a + (i + 1) = a + i + 1 by omega, nI_succ]
          rfl
        · rw [nI_1]
          exact ih hlt (fun m hm => by
            by_cases e : m = i
            · rw [e]; exact h_35
            · exact hbl m (by omega))
  refine z_mem (I' := zi (zi I 8 5 0) 8 4 (nI (a + 0))) (by show zi I 8 5 0 = zi (zi I 8 5 0) 8 4 (nI a); rw [zi_id (I := zi I 8 5 0) (k := 8) (j := 4) h4]) rfl rfl (loop _ (fun v => ?_) 0 (Nat.zero_le 400) (fun m h => absurd h (by omega)))
  refine z_aload_n d_X4_fetch_54 rfl ?_
  refine z_aload_n d_X4_fetch_55 rfl ?_
  refine z_getI d_X4_fetch_56 f_X4_61 (by first | rfl | assumption) (by omega) ?_
  refine z_putI d_X4_fetch_59 f_X4_73 p_X4_6 (by first | rfl | assumption) (by omega) ?_
  refine z_aload_n d_X4_fetch_62 rfl ?_
  refine z_iconst d_X4_fetch_63 ki_0 ?_
  refine z_putI d_X4_fetch_64 f_X4_76 p_X4_7 (by first | rfl | assumption) (by omega) ?_
  refine z_aload_n d_X4_fetch_67 rfl ?_
  refine z_aload_n d_X4_fetch_68 rfl ?_
  refine z_getR d_X4_fetch_69 f_X4_26 (by first | rfl | assumption) (by omega) (by first | exact hR _ _ _ rfl | rfl | assumption) ?_
  refine z_aload_n d_X4_fetch_72 rfl ?_
  refine z_getI d_X4_fetch_73 f_X4_61 (by first | rfl | assumption) (by omega) ?_
  refine z_cVi d_X4_fetch_76 q_X4_fetch_67 (by first | rfl | assumption) (by omega) ⟨rfl, rfl⟩ ((show zCf E m_X6_byteAt zShF [.ref 1, .int (nI (bA I t a))] _ L R (some (.int (btA (gB I) t (bA I t a)))) _ L R from ct_byte (t := t) (j := bA I t a) hR h1 ht (by omega))) rfl rfl rfl ⟨Nat.zero_le _, Nat.zero_le _⟩ ?_
  refine z_cSi d_X4_fetch_79 q_X4_fetch_79 ⟨rfl, rfl⟩ ((show zCf E m_X4_tokenOf zShF [.int (btA (gB I) t (bA I t a))] _ L R (some (.int 1)) _ L R from ct_tok hK)) rfl rfl rfl ⟨Nat.zero_le _, Nat.zero_le _⟩ ?_
  refine z_putI d_X4_fetch_82 f_X4_40 p_X4_5 (by first | rfl | assumption) (by omega) ?_
  refine z_aload_n d_X4_fetch_85 rfl ?_
  refine z_getI d_X4_fetch_86 f_X4_40 (by first | rfl | assumption) (by omega) ?_
  refine z_iconst d_X4_fetch_89 ki_4 ?_
  refine z_icmp_ne d_X4_fetch_90 (fun h_90 => ?_) (fun h_90 => absurd (show (1 : Int32) = 4 from h_90) (by decide))
  refine z_aload_n d_X4_fetch_106 rfl ?_
  refine z_getI d_X4_fetch_107 f_X4_40 (by first | rfl | assumption) (by omega) ?_
  refine z_iconst d_X4_fetch_110 ki_2 ?_
  refine z_icmp_eq d_X4_fetch_111 (fun h_111 => absurd (show (1 : Int32) = 2 from h_111) (by decide)) (fun h_111 => ?_)
  refine z_aload_n d_X4_fetch_114 rfl ?_
  refine z_getI d_X4_fetch_115 f_X4_40 (by first | rfl | assumption) (by omega) ?_
  refine z_iconst d_X4_fetch_118 ki_3 ?_
  refine z_icmp_ne d_X4_fetch_119 (fun h_119 => ?_) (fun h_119 => absurd (show (1 : Int32) = 3 from h_119) (by decide))
  refine z_aload_n d_X4_fetch_126 rfl ?_
  refine z_getI d_X4_fetch_127 f_X4_40 (by first | rfl | assumption) (by omega) ?_
  refine z_if_eq d_X4_fetch_130 (fun h_130 => absurd (show (1 : Int32) = 0 from h_130) (by decide)) (fun h_130 => ?_)
  refine z_aload_n d_X4_fetch_133 rfl ?_
  refine z_getI d_X4_fetch_134 f_X4_40 (by first | rfl | assumption) (by omega) ?_
  refine z_iconst d_X4_fetch_137 ki_3 ?_
  refine z_icmp_ne d_X4_fetch_138 (fun h_138 => ?_) (fun h_138 => absurd (show (1 : Int32) = 3 from h_138) (by decide))
  exact z_return d_X4_fetch_168 rfl ⟨rfl, rfl, rfl, rfl, rfl⟩
set_option maxRecDepth 100000 in
set_option maxHeartbeats 4000000 in
theorem ct_X4_fetch_4 {E : zE} {I : zI} {L : zL} {R : zR} {t a : Nat} (hR : zLx R) (h1 : I 1 1 = nI t) (ht : t ≤ 400) (ha : a ≤ t) (h4 : I 8 4 = nI a) (h10 : I 8 10 = 0) (hK : tokV (btA (gB I) t (bA I t a)) = 4) : zCf E m_X4_fetch zShF [.ref 8] I L R (none) (zi (m1 I (bA I t a) 4) 8 4 (nI (bA I t a) + 1)) (L) (R) := by
  have hb : bA I t a ≤ t := rn_le (g := gB I) pBl_1 ht ha; have he1 : bA I t a ≤ eA 3 I t a := (rn_is (p := pTk 3) (g := gB I) (j := bA I t a) (pTk_1 (Or.inr rfl)) ht).1; have he2 : eA 3 I t a ≤ t := rn_le (p := pTk 3) (g := gB I) (j := bA I t a) (pTk_1 (Or.inr rfl)) ht hb
  refine z_met (by decide) [some (.ref 8), none] rfl rfl (Nat.le_of_ble_eq_true rfl) (fun X => ?_)
  refine z_aload_n d_X4_fetch_0 rfl ?_
  refine z_iconst d_X4_fetch_1 ki_0 ?_
  refine z_putI d_X4_fetch_2 f_X4_40 p_X4_5 (by first | rfl | assumption) (by omega) ?_
  refine z_aload_n d_X4_fetch_5 rfl ?_
  refine z_getI d_X4_fetch_6 f_X4_36 (by first | rfl | assumption) (by omega) ?_
  refine z_if_eq d_X4_fetch_9 (fun h_9 => ?_) (fun h_9 => absurd h10 h_9)
  refine z_iconst d_X4_fetch_13 ki_0 ?_
  refine z_istore1 d_X4_fetch_14 rfl ?_
  have loop : ∀ (Qs : State → Prop), (∀ v, zZ E m_X4_fetch X Qs zShF 0 0 54 [some (.ref 8), some (.int v)] [] (zi (zi I 8 5 0) 8 4 (nI (bA I t a))) L R) → ∀ i, i ≤ 400 → (∀ m, m < i → btA (gB I) t (a + m) = 32) → zZ E m_X4_fetch X Qs zShF 0 0 15 [some (.ref 8), some (.int (nI i))] [] (zi (zi I 8 5 0) 8 4 (nI (a + i))) L R := by
    intro Qs hx
    refine up_rec (fun i hi' ih hbl => ?_)
    have fin : ¬ btA (gB I) t (a + i) = 32 → bA I t a = a + i := fun hne => rn_eq pBl_1 ht ⟨by omega, fun m h1 h2 => by
      have := hbl (m - a) (by omega)
      rw [show a + (m - a) = m by omega] at this
      unfold pBl; simpa using this, by unfold pBl; simpa using hne⟩
    refine z_iload_n d_X4_fetch_15 rfl ?_
    refine z_sipush d_X4_fetch_16 ks_400 ?_
    refine z_icmp_ge d_X4_fetch_19 (fun h_19 => ?_) (fun h_19 => ?_)
    · refine z_mem (I' := zi (zi I 8 5 0) 8 4 (nI (bA I t a))) ?_ rfl rfl (hx _)
      have hi4 := eq_of_ge (n := 400) (by decide) hi' h_19
      rw [fin (by rw [btA_end (by omega)]; decide)]
    · have hlt := lt_of_nge (n := 400) (by decide) h_19 (by omega)
      refine z_aload_n d_X4_fetch_22 rfl ?_
      refine z_getR d_X4_fetch_23 f_X4_26 (by first | rfl | assumption) (by omega) (by first | exact hR _ _ _ rfl | rfl | assumption) ?_
      refine z_aload_n d_X4_fetch_26 rfl ?_
      refine z_getI d_X4_fetch_27 f_X4_61 (by first | rfl | assumption) (by omega) ?_
      refine z_cVi d_X4_fetch_30 q_X4_fetch_67 (by first | rfl | assumption) (by omega) ⟨rfl, rfl⟩ ((show zCf E m_X6_byteAt zShF [.ref 1, .int (nI (a + i))] _ L R (some (.int (btA (gB I) t (a + i)))) _ L R from ct_byte (t := t) (j := a + i) hR h1 ht (by omega))) rfl rfl rfl ⟨Nat.zero_le _, Nat.zero_le _⟩ ?_
      refine z_bipush d_X4_fetch_33 kb_32 ?_
      refine z_icmp_ne d_X4_fetch_35 (fun h_35 => ?_) (fun h_35 => ?_)
      · refine z_mem (I' := zi (zi I 8 5 0) 8 4 (nI (bA I t a))) ?_ rfl rfl (hx _)
        rw [fin h_35]
      · refine z_aload_n d_X4_fetch_38 rfl ?_
        refine z_dup d_X4_fetch_39 rfl ?_
        refine z_getI d_X4_fetch_40 f_X4_61 (by first | rfl | assumption) (by omega) ?_
        refine z_iconst d_X4_fetch_43 ki_1 ?_
        refine z_iadd d_X4_fetch_44 ?_
        refine z_putI d_X4_fetch_45 f_X4_61 p_X4_4 (by first | rfl | assumption) (by omega) ?_
        refine z_iinc1 d_X4_fetch_48 ki_1 rfl ?_
        refine z_goto d_X4_fetch_51 ?_
        refine z_mem (I' := zi (zi I 8 5 0) 8 4 (nI (a + (i + 1)))) ?_ rfl rfl ?_
        · rw [zi_zz, show a + (i + 1) = a + i + 1 by omega, nI_succ]
          rfl
        · rw [nI_1]
          exact ih hlt (fun m hm => by
            by_cases e : m = i
            · rw [e]; exact h_35
            · exact hbl m (by omega))
  refine z_mem (I' := zi (zi I 8 5 0) 8 4 (nI (a + 0))) (by show zi I 8 5 0 = zi (zi I 8 5 0) 8 4 (nI a); rw [zi_id (I := zi I 8 5 0) (k := 8) (j := 4) h4]) rfl rfl (loop _ (fun v => ?_) 0 (Nat.zero_le 400) (fun m h => absurd h (by omega)))
  refine z_aload_n d_X4_fetch_54 rfl ?_
  refine z_aload_n d_X4_fetch_55 rfl ?_
  refine z_getI d_X4_fetch_56 f_X4_61 (by first | rfl | assumption) (by omega) ?_
  refine z_putI d_X4_fetch_59 f_X4_73 p_X4_6 (by first | rfl | assumption) (by omega) ?_
  refine z_aload_n d_X4_fetch_62 rfl ?_
  refine z_iconst d_X4_fetch_63 ki_0 ?_
  refine z_putI d_X4_fetch_64 f_X4_76 p_X4_7 (by first | rfl | assumption) (by omega) ?_
  refine z_aload_n d_X4_fetch_67 rfl ?_
  refine z_aload_n d_X4_fetch_68 rfl ?_
  refine z_getR d_X4_fetch_69 f_X4_26 (by first | rfl | assumption) (by omega) (by first | exact hR _ _ _ rfl | rfl | assumption) ?_
  refine z_aload_n d_X4_fetch_72 rfl ?_
  refine z_getI d_X4_fetch_73 f_X4_61 (by first | rfl | assumption) (by omega) ?_
  refine z_cVi d_X4_fetch_76 q_X4_fetch_67 (by first | rfl | assumption) (by omega) ⟨rfl, rfl⟩ ((show zCf E m_X6_byteAt zShF [.ref 1, .int (nI (bA I t a))] _ L R (some (.int (btA (gB I) t (bA I t a)))) _ L R from ct_byte (t := t) (j := bA I t a) hR h1 ht (by omega))) rfl rfl rfl ⟨Nat.zero_le _, Nat.zero_le _⟩ ?_
  refine z_cSi d_X4_fetch_79 q_X4_fetch_79 ⟨rfl, rfl⟩ ((show zCf E m_X4_tokenOf zShF [.int (btA (gB I) t (bA I t a))] _ L R (some (.int 4)) _ L R from ct_tok hK)) rfl rfl rfl ⟨Nat.zero_le _, Nat.zero_le _⟩ ?_
  refine z_putI d_X4_fetch_82 f_X4_40 p_X4_5 (by first | rfl | assumption) (by omega) ?_
  refine z_aload_n d_X4_fetch_85 rfl ?_
  refine z_getI d_X4_fetch_86 f_X4_40 (by first | rfl | assumption) (by omega) ?_
  refine z_iconst d_X4_fetch_89 ki_4 ?_
  refine z_icmp_ne d_X4_fetch_90 (fun h_90 => absurd rfl h_90) (fun h_90 => ?_)
  refine z_aload_n d_X4_fetch_93 rfl ?_
  refine z_dup d_X4_fetch_94 rfl ?_
  refine z_getI d_X4_fetch_95 f_X4_61 (by first | rfl | assumption) (by omega) ?_
  refine z_iconst d_X4_fetch_98 ki_1 ?_
  refine z_iadd d_X4_fetch_99 ?_
  refine z_putI d_X4_fetch_100 f_X4_61 p_X4_4 (by first | rfl | assumption) (by omega) ?_
  refine z_goto d_X4_fetch_103 ?_
  refine z_aload_n d_X4_fetch_126 rfl ?_
  refine z_getI d_X4_fetch_127 f_X4_40 (by first | rfl | assumption) (by omega) ?_
  refine z_if_eq d_X4_fetch_130 (fun h_130 => absurd (show (4 : Int32) = 0 from h_130) (by decide)) (fun h_130 => ?_)
  refine z_aload_n d_X4_fetch_133 rfl ?_
  refine z_getI d_X4_fetch_134 f_X4_40 (by first | rfl | assumption) (by omega) ?_
  refine z_iconst d_X4_fetch_137 ki_3 ?_
  refine z_icmp_ne d_X4_fetch_138 (fun h_138 => ?_) (fun h_138 => absurd (show (4 : Int32) = 3 from h_138) (by decide))
  exact z_return d_X4_fetch_168 rfl ⟨rfl, rfl, rfl, rfl, rfl⟩
set_option maxRecDepth 100000 in
set_option maxHeartbeats 4000000 in
theorem ct_X4_fetch_2 {E : zE} {I : zI} {L : zL} {R : zR} {t a : Nat} (hR : zLx R) (h1 : I 1 1 = nI t) (ht : t ≤ 400) (ha : a ≤ t) (h4 : I 8 4 = nI a) (h10 : I 8 10 = 0) (hK : tokV (btA (gB I) t (bA I t a)) = 2) : zCf E m_X4_fetch zShF [.ref 8] I L R (none) (m2 I t a 2) (L) (R) := by
  have hb : bA I t a ≤ t := rn_le (g := gB I) pBl_1 ht ha; have he1 : bA I t a ≤ eA 3 I t a := (rn_is (p := pTk 3) (g := gB I) (j := bA I t a) (pTk_1 (Or.inr rfl)) ht).1; have he2 : eA 3 I t a ≤ t := rn_le (p := pTk 3) (g := gB I) (j := bA I t a) (pTk_1 (Or.inr rfl)) ht hb
  refine z_met (by decide) [some (.ref 8), none] rfl rfl (Nat.le_of_ble_eq_true rfl) (fun X => ?_)
  refine z_aload_n d_X4_fetch_0 rfl ?_
  refine z_iconst d_X4_fetch_1 ki_0 ?_
  refine z_putI d_X4_fetch_2 f_X4_40 p_X4_5 (by first | rfl | assumption) (by omega) ?_
  refine z_aload_n d_X4_fetch_5 rfl ?_
  refine z_getI d_X4_fetch_6 f_X4_36 (by first | rfl | assumption) (by omega) ?_
  refine z_if_eq d_X4_fetch_9 (fun h_9 => ?_) (fun h_9 => absurd h10 h_9)
  refine z_iconst d_X4_fetch_13 ki_0 ?_
  refine z_istore1 d_X4_fetch_14 rfl ?_
  have loop : ∀ (Qs : State → Prop), (∀ v, zZ E m_X4_fetch X Qs zShF 0 0 54 [some (.ref 8), some (.int v)] [] (zi (zi I 8 5 0) 8 4 (nI (bA I t a))) L R) → ∀ i, i ≤ 400 → (∀ m, m < i → btA (gB I) t (a + m) = 32) → zZ E m_X4_fetch X Qs zShF 0 0 15 [some (.ref 8), some (.int (nI i))] [] (zi (zi I 8 5 0) 8 4 (nI (a + i))) L R := by
    intro Qs hx
    refine up_rec (fun i hi' ih hbl => ?_)
    have fin : ¬ btA (gB I) t (a + i) = 32 → bA I t a = a + i := fun hne => rn_eq pBl_1 ht ⟨by omega, fun m h1 h2 => by
      have := hbl (m - a) (by omega)
      rw [show a + (m - a) = m by omega] at this
      unfold pBl; simpa using this, by unfold pBl; simpa using hne⟩
    refine z_iload_n d_X4_fetch_15 rfl ?_
    refine z_sipush d_X4_fetch_16 ks_400 ?_
    refine z_icmp_ge d_X4_fetch_19 (fun h_19 => ?_) (fun h_19 => ?_)
    · refine z_mem (I' := zi (zi I 8 5 0) 8 4 (nI (bA I t a))) ?_ rfl rfl (hx _)
      have hi4 := eq_of_ge (n := 400) (by decide) hi' h_19
      rw [fin (by rw [btA_end (by omega)]; decide)]
    · have hlt := lt_of_nge (n := 400) (by decide) h_19 (by omega)
      refine z_aload_n d_X4_fetch_22 rfl ?_
      refine z_getR d_X4_fetch_23 f_X4_26 (by first | rfl | assumption) (by omega) (by first | exact hR _ _ _ rfl | rfl | assumption) ?_
      refine z_aload_n d_X4_fetch_26 rfl ?_
      refine z_getI d_X4_fetch_27 f_X4_61 (by first | rfl | assumption) (by omega) ?_
      refine z_cVi d_X4_fetch_30 q_X4_fetch_67 (by first | rfl | assumption) (by omega) ⟨rfl, rfl⟩ ((show zCf E m_X6_byteAt zShF [.ref 1, .int (nI (a + i))] _ L R (some (.int (btA (gB I) t (a + i)))) _ L R from ct_byte (t := t) (j := a + i) hR h1 ht (by omega))) rfl rfl rfl ⟨Nat.zero_le _, Nat.zero_le _⟩ ?_
      refine z_bipush d_X4_fetch_33 kb_32 ?_
      refine z_icmp_ne d_X4_fetch_35 (fun h_35 => ?_) (fun h_35 => ?_)
      · refine z_mem (I' := zi (zi I 8 5 0) 8 4 (nI (bA I t a))) ?_ rfl rfl (hx _)
        rw [fin h_35]
      · refine z_aload_n d_X4_fetch_38 rfl ?_
        refine z_dup d_X4_fetch_39 rfl ?_
        refine z_getI d_X4_fetch_40 f_X4_61 (by first | rfl | assumption) (by omega) ?_
        refine z_iconst d_X4_fetch_43 ki_1 ?_
        refine z_iadd d_X4_fetch_44 ?_
        refine z_putI d_X4_fetch_45 f_X4_61 p_X4_4 (by first | rfl | assumption) (by omega) ?_
        refine z_iinc1 d_X4_fetch_48 ki_1 rfl ?_
        refine z_goto d_X4_fetch_51 ?_
        refine z_mem (I' := zi (zi I 8 5 0) 8 4 (nI (a + (i + 1)))) ?_ rfl rfl ?_
        · rw [zi_zz, show a + (i + 1) = a + i + 1 by omega, nI_succ]
          rfl
        · rw [nI_1]
          exact ih hlt (fun m hm => by
            by_cases e : m = i
            · rw [e]; exact h_35
            · exact hbl m (by omega))
  refine z_mem (I' := zi (zi I 8 5 0) 8 4 (nI (a + 0))) (by show zi I 8 5 0 = zi (zi I 8 5 0) 8 4 (nI a); rw [zi_id (I := zi I 8 5 0) (k := 8) (j := 4) h4]) rfl rfl (loop _ (fun v => ?_) 0 (Nat.zero_le 400) (fun m h => absurd h (by omega)))
  refine z_aload_n d_X4_fetch_54 rfl ?_
  refine z_aload_n d_X4_fetch_55 rfl ?_
  refine z_getI d_X4_fetch_56 f_X4_61 (by first | rfl | assumption) (by omega) ?_
  refine z_putI d_X4_fetch_59 f_X4_73 p_X4_6 (by first | rfl | assumption) (by omega) ?_
  refine z_aload_n d_X4_fetch_62 rfl ?_
  refine z_iconst d_X4_fetch_63 ki_0 ?_
  refine z_putI d_X4_fetch_64 f_X4_76 p_X4_7 (by first | rfl | assumption) (by omega) ?_
  refine z_aload_n d_X4_fetch_67 rfl ?_
  refine z_aload_n d_X4_fetch_68 rfl ?_
  refine z_getR d_X4_fetch_69 f_X4_26 (by first | rfl | assumption) (by omega) (by first | exact hR _ _ _ rfl | rfl | assumption) ?_
  refine z_aload_n d_X4_fetch_72 rfl ?_
  refine z_getI d_X4_fetch_73 f_X4_61 (by first | rfl | assumption) (by omega) ?_
  refine z_cVi d_X4_fetch_76 q_X4_fetch_67 (by first | rfl | assumption) (by omega) ⟨rfl, rfl⟩ ((show zCf E m_X6_byteAt zShF [.ref 1, .int (nI (bA I t a))] _ L R (some (.int (btA (gB I) t (bA I t a)))) _ L R from ct_byte (t := t) (j := bA I t a) hR h1 ht (by omega))) rfl rfl rfl ⟨Nat.zero_le _, Nat.zero_le _⟩ ?_
  refine z_cSi d_X4_fetch_79 q_X4_fetch_79 ⟨rfl, rfl⟩ ((show zCf E m_X4_tokenOf zShF [.int (btA (gB I) t (bA I t a))] _ L R (some (.int 2)) _ L R from ct_tok hK)) rfl rfl rfl ⟨Nat.zero_le _, Nat.zero_le _⟩ ?_
  refine z_putI d_X4_fetch_82 f_X4_40 p_X4_5 (by first | rfl | assumption) (by omega) ?_
  refine z_aload_n d_X4_fetch_85 rfl ?_
  refine z_getI d_X4_fetch_86 f_X4_40 (by first | rfl | assumption) (by omega) ?_
  refine z_iconst d_X4_fetch_89 ki_4 ?_
  refine z_icmp_ne d_X4_fetch_90 (fun h_90 => ?_) (fun h_90 => absurd (show (2 : Int32) = 4 from h_90) (by decide))
  refine z_aload_n d_X4_fetch_106 rfl ?_
  refine z_getI d_X4_fetch_107 f_X4_40 (by first | rfl | assumption) (by omega) ?_
  refine z_iconst d_X4_fetch_110 ki_2 ?_
  refine z_icmp_eq d_X4_fetch_111 (fun h_111 => ?_) (fun h_111 => absurd rfl h_111)
  refine z_aload_n d_X4_fetch_122 rfl ?_
  refine z_cVv d_X4_fetch_123 q_X4_fetch_82 (by first | rfl | assumption) (by omega) ⟨rfl, rfl⟩ ((ct_X4_takeAlike (t := t) (j := bA I t a) (k := 2) hR h1 ht hb rfl rfl (by decide))) rfl rfl rfl ⟨Nat.zero_le _, Nat.zero_le _⟩ ?_
  refine z_aload_n d_X4_fetch_126 rfl ?_
  refine z_getI d_X4_fetch_127 f_X4_40 (by first | rfl | assumption) (by omega) ?_
  refine z_if_eq d_X4_fetch_130 (fun h_130 => absurd (show (2 : Int32) = 0 from h_130) (by decide)) (fun h_130 => ?_)
  refine z_aload_n d_X4_fetch_133 rfl ?_
  refine z_getI d_X4_fetch_134 f_X4_40 (by first | rfl | assumption) (by omega) ?_
  refine z_iconst d_X4_fetch_137 ki_3 ?_
  refine z_icmp_ne d_X4_fetch_138 (fun h_138 => ?_) (fun h_138 => absurd (show (2 : Int32) = 3 from h_138) (by decide))
  exact z_return d_X4_fetch_168 rfl ⟨rfl, rfl, rfl, rfl, rfl⟩
set_option maxRecDepth 100000 in
set_option maxHeartbeats 4000000 in
theorem ct_X4_fetch_3 {E : zE} {I : zI} {L : zL} {R : zR} {t a : Nat} (hR : zLx R) (h1 : I 1 1 = nI t) (ht : t ≤ 400) (ha : a ≤ t) (h4 : I 8 4 = nI a) (h10 : I 8 10 = 0) (hK : tokV (btA (gB I) t (bA I t a)) = 3) (h3 : eA 3 I t a - bA I t a ≤ 3) : zCf E m_X4_fetch zShF [.ref 8] I L R (none) (m2 I t a 3) (L) (R) := by
  have hb : bA I t a ≤ t := rn_le (g := gB I) pBl_1 ht ha; have he1 : bA I t a ≤ eA 3 I t a := (rn_is (p := pTk 3) (g := gB I) (j := bA I t a) (pTk_1 (Or.inr rfl)) ht).1; have he2 : eA 3 I t a ≤ t := rn_le (p := pTk 3) (g := gB I) (j := bA I t a) (pTk_1 (Or.inr rfl)) ht hb
  refine z_met (by decide) [some (.ref 8), none] rfl rfl (Nat.le_of_ble_eq_true rfl) (fun X => ?_)
  refine z_aload_n d_X4_fetch_0 rfl ?_
  refine z_iconst d_X4_fetch_1 ki_0 ?_
  refine z_putI d_X4_fetch_2 f_X4_40 p_X4_5 (by first | rfl | assumption) (by omega) ?_
  refine z_aload_n d_X4_fetch_5 rfl ?_
  refine z_getI d_X4_fetch_6 f_X4_36 (by first | rfl | assumption) (by omega) ?_
  refine z_if_eq d_X4_fetch_9 (fun h_9 => ?_) (fun h_9 => absurd h10 h_9)
  refine z_iconst d_X4_fetch_13 ki_0 ?_
  refine z_istore1 d_X4_fetch_14 rfl ?_
  have loop : ∀ (Qs : State → Prop), (∀ v, zZ E m_X4_fetch X Qs zShF 0 0 54 [some (.ref 8), some (.int v)] [] (zi (zi I 8 5 0) 8 4 (nI (bA I t a))) L R) → ∀ i, i ≤ 400 → (∀ m, m < i → btA (gB I) t (a + m) = 32) → zZ E m_X4_fetch X Qs zShF 0 0 15 [some (.ref 8), some (.int (nI i))] [] (zi (zi I 8 5 0) 8 4 (nI (a + i))) L R := by
    intro Qs hx
    refine up_rec (fun i hi' ih hbl => ?_)
    have fin : ¬ btA (gB I) t (a + i) = 32 → bA I t a = a + i := fun hne => rn_eq pBl_1 ht ⟨by omega, fun m h1 h2 => by
      have := hbl (m - a) (by omega)
      rw [show a + (m - a) = m by omega] at this
      unfold pBl; simpa using this, by unfold pBl; simpa using hne⟩
    refine z_iload_n d_X4_fetch_15 rfl ?_
    refine z_sipush d_X4_fetch_16 ks_400 ?_
    refine z_icmp_ge d_X4_fetch_19 (fun h_19 => ?_) (fun h_19 => ?_)
    · refine z_mem (I' := zi (zi I 8 5 0) 8 4 (nI (bA I t a))) ?_ rfl rfl (hx _)
      have hi4 := eq_of_ge (n := 400) (by decide) hi' h_19
      rw [fin (by rw [btA_end (by omega)]; decide)]
    · have hlt := lt_of_nge (n := 400) (by decide) h_19 (by omega)
      refine z_aload_n d_X4_fetch_22 rfl ?_
      refine z_getR d_X4_fetch_23 f_X4_26 (by first | rfl | assumption) (by omega) (by first | exact hR _ _ _ rfl | rfl | assumption) ?_
      refine z_aload_n d_X4_fetch_26 rfl ?_
      refine z_getI d_X4_fetch_27 f_X4_61 (by first | rfl | assumption) (by omega) ?_
      refine z_cVi d_X4_fetch_30 q_X4_fetch_67 (by first | rfl | assumption) (by omega) ⟨rfl, rfl⟩ ((show zCf E m_X6_byteAt zShF [.ref 1, .int (nI (a + i))] _ L R (some (.int (btA (gB I) t (a + i)))) _ L R from ct_byte (t := t) (j := a + i) hR h1 ht (by omega))) rfl rfl rfl ⟨Nat.zero_le _, Nat.zero_le _⟩ ?_
      refine z_bipush d_X4_fetch_33 kb_32 ?_
      refine z_icmp_ne d_X4_fetch_35 (fun h_35 => ?_) (fun h_35 => ?_)
      · refine z_mem (I' := zi (zi I 8 5 0) 8 4 (nI (bA I t a))) ?_ rfl rfl (hx _)
        rw [fin h_35]
      · refine z_aload_n d_X4_fetch_38 rfl ?_
        refine z_dup d_X4_fetch_39 rfl ?_
        refine z_getI d_X4_fetch_40 f_X4_61 (by first | rfl | assumption) (by omega) ?_
        refine z_iconst d_X4_fetch_43 ki_1 ?_
        refine z_iadd d_X4_fetch_44 ?_
        refine z_putI d_X4_fetch_45 f_X4_61 p_X4_4 (by first | rfl | assumption) (by omega) ?_
        refine z_iinc1 d_X4_fetch_48 ki_1 rfl ?_
        refine z_goto d_X4_fetch_51 ?_
        refine z_mem (I' := zi (zi I 8 5 0) 8 4 (nI (a + (i + 1)))) ?_ rfl rfl ?_
        · rw [zi_zz, show a + (i + 1) = a + i + 1 by omega, nI_succ]
          rfl
        · rw [nI_1]
          exact ih hlt (fun m hm => by
            by_cases e : m = i
            · rw [e]; exact h_35
            · exact hbl m (by omega))
  refine z_mem (I' := zi (zi I 8 5 0) 8 4 (nI (a + 0))) (by show zi I 8 5 0 = zi (zi I 8 5 0) 8 4 (nI a); rw [zi_id (I := zi I 8 5 0) (k := 8) (j := 4) h4]) rfl rfl (loop _ (fun v => ?_) 0 (Nat.zero_le 400) (fun m h => absurd h (by omega)))
  refine z_aload_n d_X4_fetch_54 rfl ?_
  refine z_aload_n d_X4_fetch_55 rfl ?_
  refine z_getI d_X4_fetch_56 f_X4_61 (by first | rfl | assumption) (by omega) ?_
  refine z_putI d_X4_fetch_59 f_X4_73 p_X4_6 (by first | rfl | assumption) (by omega) ?_
  refine z_aload_n d_X4_fetch_62 rfl ?_
  refine z_iconst d_X4_fetch_63 ki_0 ?_
  refine z_putI d_X4_fetch_64 f_X4_76 p_X4_7 (by first | rfl | assumption) (by omega) ?_
  refine z_aload_n d_X4_fetch_67 rfl ?_
  refine z_aload_n d_X4_fetch_68 rfl ?_
  refine z_getR d_X4_fetch_69 f_X4_26 (by first | rfl | assumption) (by omega) (by first | exact hR _ _ _ rfl | rfl | assumption) ?_
  refine z_aload_n d_X4_fetch_72 rfl ?_
  refine z_getI d_X4_fetch_73 f_X4_61 (by first | rfl | assumption) (by omega) ?_
  refine z_cVi d_X4_fetch_76 q_X4_fetch_67 (by first | rfl | assumption) (by omega) ⟨rfl, rfl⟩ ((show zCf E m_X6_byteAt zShF [.ref 1, .int (nI (bA I t a))] _ L R (some (.int (btA (gB I) t (bA I t a)))) _ L R from ct_byte (t := t) (j := bA I t a) hR h1 ht (by omega))) rfl rfl rfl ⟨Nat.zero_le _, Nat.zero_le _⟩ ?_
  refine z_cSi d_X4_fetch_79 q_X4_fetch_79 ⟨rfl, rfl⟩ ((show zCf E m_X4_tokenOf zShF [.int (btA (gB I) t (bA I t a))] _ L R (some (.int 3)) _ L R from ct_tok hK)) rfl rfl rfl ⟨Nat.zero_le _, Nat.zero_le _⟩ ?_
  refine z_putI d_X4_fetch_82 f_X4_40 p_X4_5 (by first | rfl | assumption) (by omega) ?_
  refine z_aload_n d_X4_fetch_85 rfl ?_
  refine z_getI d_X4_fetch_86 f_X4_40 (by first | rfl | assumption) (by omega) ?_
  refine z_iconst d_X4_fetch_89 ki_4 ?_
  refine z_icmp_ne d_X4_fetch_90 (fun h_90 => ?_) (fun h_90 => absurd (show (3 : Int32) = 4 from h_90) (by decide))
  refine z_aload_n d_X4_fetch_106 rfl ?_
  refine z_getI d_X4_fetch_107 f_X4_40 (by first | rfl | assumption) (by omega) ?_
  refine z_iconst d_X4_fetch_110 ki_2 ?_
  refine z_icmp_eq d_X4_fetch_111 (fun h_111 => absurd (show (3 : Int32) = 2 from h_111) (by decide)) (fun h_111 => ?_)
  refine z_aload_n d_X4_fetch_114 rfl ?_
  refine z_getI d_X4_fetch_115 f_X4_40 (by first | rfl | assumption) (by omega) ?_
  refine z_iconst d_X4_fetch_118 ki_3 ?_
  refine z_icmp_ne d_X4_fetch_119 (fun h_119 => absurd rfl h_119) (fun h_119 => ?_)
  refine z_aload_n d_X4_fetch_122 rfl ?_
  refine z_cVv d_X4_fetch_123 q_X4_fetch_82 (by first | rfl | assumption) (by omega) ⟨rfl, rfl⟩ ((ct_X4_takeAlike (t := t) (j := bA I t a) (k := 3) hR h1 ht hb rfl rfl (by decide))) rfl rfl rfl ⟨Nat.zero_le _, Nat.zero_le _⟩ ?_
  refine z_aload_n d_X4_fetch_126 rfl ?_
  refine z_getI d_X4_fetch_127 f_X4_40 (by first | rfl | assumption) (by omega) ?_
  refine z_if_eq d_X4_fetch_130 (fun h_130 => absurd (show (3 : Int32) = 0 from h_130) (by decide)) (fun h_130 => ?_)
  refine z_aload_n d_X4_fetch_133 rfl ?_
  refine z_getI d_X4_fetch_134 f_X4_40 (by first | rfl | assumption) (by omega) ?_
  refine z_iconst d_X4_fetch_137 ki_3 ?_
  refine z_icmp_ne d_X4_fetch_138 (fun h_138 => absurd rfl h_138) (fun h_138 => ?_)
  refine z_aload_n d_X4_fetch_141 rfl ?_
  refine z_getI d_X4_fetch_142 f_X4_61 (by first | rfl | assumption) (by omega) ?_
  refine z_aload_n d_X4_fetch_145 rfl ?_
  refine z_getI d_X4_fetch_146 f_X4_73 (by first | rfl | assumption) (by omega) ?_
  refine z_isub d_X4_fetch_149 ?_
  refine z_iconst d_X4_fetch_150 ki_3 ?_
  refine z_icmp_le d_X4_fetch_151 (fun h_151 => ?_) (fun h_151 => absurd (show nI (eA 3 I t a) - nI (bA I t a) ≤ 3 from by rw [nI_subN he1]; exact (nI_leI (a := eA 3 I t a - bA I t a) (b := 3) (by omega) (by decide)).mpr h3) h_151)
  exact z_return d_X4_fetch_168 rfl ⟨rfl, rfl, rfl, rfl, rfl⟩
set_option maxRecDepth 100000 in
set_option maxHeartbeats 4000000 in
theorem ct_X4_fetch_5 {E : zE} {I : zI} {L : zL} {R : zR} {t a : Nat} (hR : zLx R) (h1 : I 1 1 = nI t) (ht : t ≤ 400) (ha : a ≤ t) (h4 : I 8 4 = nI a) (h10 : I 8 10 = 0) (hK : tokV (btA (gB I) t (bA I t a)) = 3) (h3 : ¬ eA 3 I t a - bA I t a ≤ 3) : zCf E m_X4_fetch zShF [.ref 8] I L R (none) (zi (zi (zi (m2 I t a 3) 8 5 0) 8 10 1) 8 9 (nI (bA I t a))) (L) (R) := by
  have hb : bA I t a ≤ t := rn_le (g := gB I) pBl_1 ht ha; have he1 : bA I t a ≤ eA 3 I t a := (rn_is (p := pTk 3) (g := gB I) (j := bA I t a) (pTk_1 (Or.inr rfl)) ht).1; have he2 : eA 3 I t a ≤ t := rn_le (p := pTk 3) (g := gB I) (j := bA I t a) (pTk_1 (Or.inr rfl)) ht hb
  refine z_met (by decide) [some (.ref 8), none] rfl rfl (Nat.le_of_ble_eq_true rfl) (fun X => ?_)
  refine z_aload_n d_X4_fetch_0 rfl ?_
  refine z_iconst d_X4_fetch_1 ki_0 ?_
  refine z_putI d_X4_fetch_2 f_X4_40 p_X4_5 (by first | rfl | assumption) (by omega) ?_
  refine z_aload_n d_X4_fetch_5 rfl ?_
  refine z_getI d_X4_fetch_6 f_X4_36 (by first | rfl | assumption) (by omega) ?_
  refine z_if_eq d_X4_fetch_9 (fun h_9 => ?_) (fun h_9 => absurd h10 h_9)
  refine z_iconst d_X4_fetch_13 ki_0 ?_
  refine z_istore1 d_X4_fetch_14 rfl ?_
  have loop : ∀ (Qs : State → Prop), (∀ v, zZ E m_X4_fetch X Qs zShF 0 0 54 [some (.ref 8), some (.int v)] [] (zi (zi I 8 5 0) 8 4 (nI (bA I t a))) L R) → ∀ i, i ≤ 400 → (∀ m, m < i → btA (gB I) t (a + m) = 32) → zZ E m_X4_fetch X Qs zShF 0 0 15 [some (.ref 8), some (.int (nI i))] [] (zi (zi I 8 5 0) 8 4 (nI (a + i))) L R := by
    intro Qs hx
    refine up_rec (fun i hi' ih hbl => ?_)
    have fin : ¬ btA (gB I) t (a + i) = 32 → bA I t a = a + i := fun hne => rn_eq pBl_1 ht ⟨by omega, fun m h1 h2 => by
      have := hbl (m - a) (by omega)
      rw [show a + (m - a) = m by omega] at this
      unfold pBl; simpa using this, by unfold pBl; simpa using hne⟩
    refine z_iload_n d_X4_fetch_15 rfl ?_
    refine z_sipush d_X4_fetch_16 ks_400 ?_
    refine z_icmp_ge d_X4_fetch_19 (fun h_19 => ?_) (fun h_19 => ?_)
    · refine z_mem (I' := zi (zi I 8 5 0) 8 4 (nI (bA I t a))) ?_ rfl rfl (hx _)
      have hi4 := eq_of_ge (n := 400) (by decide) hi' h_19
      rw [fin (by rw [btA_end (by omega)]; decide)]
    · have hlt := lt_of_nge (n := 400) (by decide) h_19 (by omega)
      refine z_aload_n d_X4_fetch_22 rfl ?_
      refine z_getR d_X4_fetch_23 f_X4_26 (by first | rfl | assumption) (by omega) (by first | exact hR _ _ _ rfl | rfl | assumption) ?_
      refine z_aload_n d_X4_fetch_26 rfl ?_
      refine z_getI d_X4_fetch_27 f_X4_61 (by first | rfl | assumption) (by omega) ?_
      refine z_cVi d_X4_fetch_30 q_X4_fetch_67 (by first | rfl | assumption) (by omega) ⟨rfl, rfl⟩ ((show zCf E m_X6_byteAt zShF [.ref 1, .int (nI (a + i))] _ L R (some (.int (btA (gB I) t (a + i)))) _ L R from ct_byte (t := t) (j := a + i) hR h1 ht (by omega))) rfl rfl rfl ⟨Nat.zero_le _, Nat.zero_le _⟩ ?_
      refine z_bipush d_X4_fetch_33 kb_32 ?_
      refine z_icmp_ne d_X4_fetch_35 (fun h_35 => ?_) (fun h_35 => ?_)
      · refine z_mem (I' := zi (zi I 8 5 0) 8 4 (nI (bA I t a))) ?_ rfl rfl (hx _)
        rw [fin h_35]
      · refine z_aload_n d_X4_fetch_38 rfl ?_
        refine z_dup d_X4_fetch_39 rfl ?_
        refine z_getI d_X4_fetch_40 f_X4_61 (by first | rfl | assumption) (by omega) ?_
        refine z_iconst d_X4_fetch_43 ki_1 ?_
        refine z_iadd d_X4_fetch_44 ?_
        refine z_putI d_X4_fetch_45 f_X4_61 p_X4_4 (by first | rfl | assumption) (by omega) ?_
        refine z_iinc1 d_X4_fetch_48 ki_1 rfl ?_
        refine z_goto d_X4_fetch_51 ?_
        refine z_mem (I' := zi (zi I 8 5 0) 8 4 (nI (a + (i + 1)))) ?_ rfl rfl ?_
        · rw [zi_zz, show a + (i + 1) = a + i + 1 by omega, nI_succ]
          rfl
        · rw [nI_1]
          exact ih hlt (fun m hm => by
            by_cases e : m = i
            · rw [e]; exact h_35
            · exact hbl m (by omega))
  refine z_mem (I' := zi (zi I 8 5 0) 8 4 (nI (a + 0))) (by show zi I 8 5 0 = zi (zi I 8 5 0) 8 4 (nI a); rw [zi_id (I := zi I 8 5 0) (k := 8) (j := 4) h4]) rfl rfl (loop _ (fun v => ?_) 0 (Nat.zero_le 400) (fun m h => absurd h (by omega)))
  refine z_aload_n d_X4_fetch_54 rfl ?_
  refine z_aload_n d_X4_fetch_55 rfl ?_
  refine z_getI d_X4_fetch_56 f_X4_61 (by first | rfl | assumption) (by omega) ?_
  refine z_putI d_X4_fetch_59 f_X4_73 p_X4_6 (by first | rfl | assumption) (by omega) ?_
  refine z_aload_n d_X4_fetch_62 rfl ?_
  refine z_iconst d_X4_fetch_63 ki_0 ?_
  refine z_putI d_X4_fetch_64 f_X4_76 p_X4_7 (by first | rfl | assumption) (by omega) ?_
  refine z_aload_n d_X4_fetch_67 rfl ?_
  refine z_aload_n d_X4_fetch_68 rfl ?_
  refine z_getR d_X4_fetch_69 f_X4_26 (by first | rfl | assumption) (by omega) (by first | exact hR _ _ _ rfl | rfl | assumption) ?_
  refine z_aload_n d_X4_fetch_72 rfl ?_
  refine z_getI d_X4_fetch_73 f_X4_61 (by first | rfl | assumption) (by omega) ?_
  refine z_cVi d_X4_fetch_76 q_X4_fetch_67 (by first | rfl | assumption) (by omega) ⟨rfl, rfl⟩ ((show zCf E m_X6_byteAt zShF [.ref 1, .int (nI (bA I t a))] _ L R (some (.int (btA (gB I) t (bA I t a)))) _ L R from ct_byte (t := t) (j := bA I t a) hR h1 ht (by omega))) rfl rfl rfl ⟨Nat.zero_le _, Nat.zero_le _⟩ ?_
  refine z_cSi d_X4_fetch_79 q_X4_fetch_79 ⟨rfl, rfl⟩ ((show zCf E m_X4_tokenOf zShF [.int (btA (gB I) t (bA I t a))] _ L R (some (.int 3)) _ L R from ct_tok hK)) rfl rfl rfl ⟨Nat.zero_le _, Nat.zero_le _⟩ ?_
  refine z_putI d_X4_fetch_82 f_X4_40 p_X4_5 (by first | rfl | assumption) (by omega) ?_
  refine z_aload_n d_X4_fetch_85 rfl ?_
  refine z_getI d_X4_fetch_86 f_X4_40 (by first | rfl | assumption) (by omega) ?_
  refine z_iconst d_X4_fetch_89 ki_4 ?_
  refine z_icmp_ne d_X4_fetch_90 (fun h_90 => ?_) (fun h_90 => absurd (show (3 : Int32) = 4 from h_90) (by decide))
  refine z_aload_n d_X4_fetch_106 rfl ?_
  refine z_getI d_X4_fetch_107 f_X4_40 (by first | rfl | assumption) (by omega) ?_
  refine z_iconst d_X4_fetch_110 ki_2 ?_
  refine z_icmp_eq d_X4_fetch_111 (fun h_111 => absurd (show (3 : Int32) = 2 from h_111) (by decide)) (fun h_111 => ?_)
  refine z_aload_n d_X4_fetch_114 rfl ?_
  refine z_getI d_X4_fetch_115 f_X4_40 (by first | rfl | assumption) (by omega) ?_
  refine z_iconst d_X4_fetch_118 ki_3 ?_
  refine z_icmp_ne d_X4_fetch_119 (fun h_119 => absurd rfl h_119) (fun h_119 => ?_)
  refine z_aload_n d_X4_fetch_122 rfl ?_
  refine z_cVv d_X4_fetch_123 q_X4_fetch_82 (by first | rfl | assumption) (by omega) ⟨rfl, rfl⟩ ((ct_X4_takeAlike (t := t) (j := bA I t a) (k := 3) hR h1 ht hb rfl rfl (by decide))) rfl rfl rfl ⟨Nat.zero_le _, Nat.zero_le _⟩ ?_
  refine z_aload_n d_X4_fetch_126 rfl ?_
  refine z_getI d_X4_fetch_127 f_X4_40 (by first | rfl | assumption) (by omega) ?_
  refine z_if_eq d_X4_fetch_130 (fun h_130 => absurd (show (3 : Int32) = 0 from h_130) (by decide)) (fun h_130 => ?_)
  refine z_aload_n d_X4_fetch_133 rfl ?_
  refine z_getI d_X4_fetch_134 f_X4_40 (by first | rfl | assumption) (by omega) ?_
  refine z_iconst d_X4_fetch_137 ki_3 ?_
  refine z_icmp_ne d_X4_fetch_138 (fun h_138 => absurd rfl h_138) (fun h_138 => ?_)
  refine z_aload_n d_X4_fetch_141 rfl ?_
  refine z_getI d_X4_fetch_142 f_X4_61 (by first | rfl | assumption) (by omega) ?_
  refine z_aload_n d_X4_fetch_145 rfl ?_
  refine z_getI d_X4_fetch_146 f_X4_73 (by first | rfl | assumption) (by omega) ?_
  refine z_isub d_X4_fetch_149 ?_
  refine z_iconst d_X4_fetch_150 ki_3 ?_
  refine z_icmp_le d_X4_fetch_151 (fun h_151 => absurd ((nI_leI (a := eA 3 I t a - bA I t a) (b := 3) (by omega) (by decide)).mp (show nI (eA 3 I t a - bA I t a) ≤ 3 from by rw [← nI_subN he1]; exact h_151)) h3) (fun h_151 => ?_)
  refine z_aload_n d_X4_fetch_154 rfl ?_
  refine z_iconst d_X4_fetch_155 ki_0 ?_
  refine z_putI d_X4_fetch_156 f_X4_40 p_X4_5 (by first | rfl | assumption) (by omega) ?_
  refine z_aload_n d_X4_fetch_159 rfl ?_
  refine z_iconst d_X4_fetch_160 ki_1 ?_
  refine z_aload_n d_X4_fetch_161 rfl ?_
  refine z_getI d_X4_fetch_162 f_X4_73 (by first | rfl | assumption) (by omega) ?_
  refine z_cVv d_X4_fetch_165 q_X4_fetch_85 (by first | rfl | assumption) (by omega) ⟨rfl, rfl⟩ (ct_X4_fail hR) rfl rfl rfl ⟨Nat.zero_le _, Nat.zero_le _⟩ ?_
  exact z_return d_X4_fetch_168 rfl ⟨rfl, rfl, (if_pos h10).trans rfl, rfl, rfl⟩
set_option maxRecDepth 100000 in
set_option maxHeartbeats 4000000 in
theorem ct_X4_fetch_0 {E : zE} {I : zI} {L : zL} {R : zR} {t a : Nat} (hR : zLx R) (h1 : I 1 1 = nI t) (ht : t ≤ 400) (ha : a ≤ t) (h4 : I 8 4 = nI a) (h10 : I 8 10 = 0) (hK : tokV (btA (gB I) t (bA I t a)) = 0) : zCf E m_X4_fetch zShF [.ref 8] I L R (none) (zi (zi (zi (m1 I (bA I t a) 0) 8 5 0) 8 10 1) 8 9 (nI (bA I t a))) (L) (R) := by
  have hb : bA I t a ≤ t := rn_le (g := gB I) pBl_1 ht ha; have he1 : bA I t a ≤ eA 3 I t a := (rn_is (p := pTk 3) (g := gB I) (j := bA I t a) (pTk_1 (Or.inr rfl)) ht).1; have he2 : eA 3 I t a ≤ t := rn_le (p := pTk 3) (g := gB I) (j := bA I t a) (pTk_1 (Or.inr rfl)) ht hb
  refine z_met (by decide) [some (.ref 8), none] rfl rfl (Nat.le_of_ble_eq_true rfl) (fun X => ?_)
  refine z_aload_n d_X4_fetch_0 rfl ?_
  refine z_iconst d_X4_fetch_1 ki_0 ?_
  refine z_putI d_X4_fetch_2 f_X4_40 p_X4_5 (by first | rfl | assumption) (by omega) ?_
  refine z_aload_n d_X4_fetch_5 rfl ?_
  refine z_getI d_X4_fetch_6 f_X4_36 (by first | rfl | assumption) (by omega) ?_
  refine z_if_eq d_X4_fetch_9 (fun h_9 => ?_) (fun h_9 => absurd h10 h_9)
  refine z_iconst d_X4_fetch_13 ki_0 ?_
  refine z_istore1 d_X4_fetch_14 rfl ?_
  have loop : ∀ (Qs : State → Prop), (∀ v, zZ E m_X4_fetch X Qs zShF 0 0 54 [some (.ref 8), some (.int v)] [] (zi (zi I 8 5 0) 8 4 (nI (bA I t a))) L R) → ∀ i, i ≤ 400 → (∀ m, m < i → btA (gB I) t (a + m) = 32) → zZ E m_X4_fetch X Qs zShF 0 0 15 [some (.ref 8), some (.int (nI i))] [] (zi (zi I 8 5 0) 8 4 (nI (a + i))) L R := by
    intro Qs hx
    refine up_rec (fun i hi' ih hbl => ?_)
    have fin : ¬ btA (gB I) t (a + i) = 32 → bA I t a = a + i := fun hne => rn_eq pBl_1 ht ⟨by omega, fun m h1 h2 => by
      have := hbl (m - a) (by omega)
      rw [show a + (m - a) = m by omega] at this
      unfold pBl; simpa using this, by unfold pBl; simpa using hne⟩
    refine z_iload_n d_X4_fetch_15 rfl ?_
    refine z_sipush d_X4_fetch_16 ks_400 ?_
    refine z_icmp_ge d_X4_fetch_19 (fun h_19 => ?_) (fun h_19 => ?_)
    · refine z_mem (I' := zi (zi I 8 5 0) 8 4 (nI (bA I t a))) ?_ rfl rfl (hx _)
      have hi4 := eq_of_ge (n := 400) (by decide) hi' h_19
      rw [fin (by rw [btA_end (by omega)]; decide)]
    · have hlt := lt_of_nge (n := 400) (by decide) h_19 (by omega)
      refine z_aload_n d_X4_fetch_22 rfl ?_
      refine z_getR d_X4_fetch_23 f_X4_26 (by first | rfl | assumption) (by omega) (by first | exact hR _ _ _ rfl | rfl | assumption) ?_
      refine z_aload_n d_X4_fetch_26 rfl ?_
      refine z_getI d_X4_fetch_27 f_X4_61 (by first | rfl | assumption) (by omega) ?_
      refine z_cVi d_X4_fetch_30 q_X4_fetch_67 (by first | rfl | assumption) (by omega) ⟨rfl, rfl⟩ ((show zCf E m_X6_byteAt zShF [.ref 1, .int (nI (a + i))] _ L R (some (.int (btA (gB I) t (a + i)))) _ L R from ct_byte (t := t) (j := a + i) hR h1 ht (by omega))) rfl rfl rfl ⟨Nat.zero_le _, Nat.zero_le _⟩ ?_
      refine z_bipush d_X4_fetch_33 kb_32 ?_
      refine z_icmp_ne d_X4_fetch_35 (fun h_35 => ?_) (fun h_35 => ?_)
      · refine z_mem (I' := zi (zi I 8 5 0) 8 4 (nI (bA I t a))) ?_ rfl rfl (hx _)
        rw [fin h_35]
      · refine z_aload_n d_X4_fetch_38 rfl ?_
        refine z_dup d_X4_fetch_39 rfl ?_
        refine z_getI d_X4_fetch_40 f_X4_61 (by first | rfl | assumption) (by omega) ?_
        refine z_iconst d_X4_fetch_43 ki_1 ?_
        refine z_iadd d_X4_fetch_44 ?_
        refine z_putI d_X4_fetch_45 f_X4_61 p_X4_4 (by first | rfl | assumption) (by omega) ?_
        refine z_iinc1 d_X4_fetch_48 ki_1 rfl ?_
        refine z_goto d_X4_fetch_51 ?_
        refine z_mem (I' := zi (zi I 8 5 0) 8 4 (nI (a + (i + 1)))) ?_ rfl rfl ?_
        · rw [zi_zz, show a + (i + 1) = a + i + 1 by omega, nI_succ]
          rfl
        · rw [nI_1]
          exact ih hlt (fun m hm => by
            by_cases e : m = i
            · rw [e]; exact h_35
            · exact hbl m (by omega))
  refine z_mem (I' := zi (zi I 8 5 0) 8 4 (nI (a + 0))) (by show zi I 8 5 0 = zi (zi I 8 5 0) 8 4 (nI a); rw [zi_id (I := zi I 8 5 0) (k := 8) (j := 4) h4]) rfl rfl (loop _ (fun v => ?_) 0 (Nat.zero_le 400) (fun m h => absurd h (by omega)))
  refine z_aload_n d_X4_fetch_54 rfl ?_
  refine z_aload_n d_X4_fetch_55 rfl ?_
  refine z_getI d_X4_fetch_56 f_X4_61 (by first | rfl | assumption) (by omega) ?_
  refine z_putI d_X4_fetch_59 f_X4_73 p_X4_6 (by first | rfl | assumption) (by omega) ?_
  refine z_aload_n d_X4_fetch_62 rfl ?_
  refine z_iconst d_X4_fetch_63 ki_0 ?_
  refine z_putI d_X4_fetch_64 f_X4_76 p_X4_7 (by first | rfl | assumption) (by omega) ?_
  refine z_aload_n d_X4_fetch_67 rfl ?_
  refine z_aload_n d_X4_fetch_68 rfl ?_
  refine z_getR d_X4_fetch_69 f_X4_26 (by first | rfl | assumption) (by omega) (by first | exact hR _ _ _ rfl | rfl | assumption) ?_
  refine z_aload_n d_X4_fetch_72 rfl ?_
  refine z_getI d_X4_fetch_73 f_X4_61 (by first | rfl | assumption) (by omega) ?_
  refine z_cVi d_X4_fetch_76 q_X4_fetch_67 (by first | rfl | assumption) (by omega) ⟨rfl, rfl⟩ ((show zCf E m_X6_byteAt zShF [.ref 1, .int (nI (bA I t a))] _ L R (some (.int (btA (gB I) t (bA I t a)))) _ L R from ct_byte (t := t) (j := bA I t a) hR h1 ht (by omega))) rfl rfl rfl ⟨Nat.zero_le _, Nat.zero_le _⟩ ?_
  refine z_cSi d_X4_fetch_79 q_X4_fetch_79 ⟨rfl, rfl⟩ ((show zCf E m_X4_tokenOf zShF [.int (btA (gB I) t (bA I t a))] _ L R (some (.int 0)) _ L R from ct_tok hK)) rfl rfl rfl ⟨Nat.zero_le _, Nat.zero_le _⟩ ?_
  refine z_putI d_X4_fetch_82 f_X4_40 p_X4_5 (by first | rfl | assumption) (by omega) ?_
  refine z_aload_n d_X4_fetch_85 rfl ?_
  refine z_getI d_X4_fetch_86 f_X4_40 (by first | rfl | assumption) (by omega) ?_
  refine z_iconst d_X4_fetch_89 ki_4 ?_
  refine z_icmp_ne d_X4_fetch_90 (fun h_90 => ?_) (fun h_90 => absurd (show (0 : Int32) = 4 from h_90) (by decide))
  refine z_aload_n d_X4_fetch_106 rfl ?_
  refine z_getI d_X4_fetch_107 f_X4_40 (by first | rfl | assumption) (by omega) ?_
  refine z_iconst d_X4_fetch_110 ki_2 ?_
  refine z_icmp_eq d_X4_fetch_111 (fun h_111 => absurd (show (0 : Int32) = 2 from h_111) (by decide)) (fun h_111 => ?_)
  refine z_aload_n d_X4_fetch_114 rfl ?_
  refine z_getI d_X4_fetch_115 f_X4_40 (by first | rfl | assumption) (by omega) ?_
  refine z_iconst d_X4_fetch_118 ki_3 ?_
  refine z_icmp_ne d_X4_fetch_119 (fun h_119 => ?_) (fun h_119 => absurd (show (0 : Int32) = 3 from h_119) (by decide))
  refine z_aload_n d_X4_fetch_126 rfl ?_
  refine z_getI d_X4_fetch_127 f_X4_40 (by first | rfl | assumption) (by omega) ?_
  refine z_if_eq d_X4_fetch_130 (fun h_130 => ?_) (fun h_130 => absurd rfl h_130)
  refine z_aload_n d_X4_fetch_154 rfl ?_
  refine z_iconst d_X4_fetch_155 ki_0 ?_
  refine z_putI d_X4_fetch_156 f_X4_40 p_X4_5 (by first | rfl | assumption) (by omega) ?_
  refine z_aload_n d_X4_fetch_159 rfl ?_
  refine z_iconst d_X4_fetch_160 ki_1 ?_
  refine z_aload_n d_X4_fetch_161 rfl ?_
  refine z_getI d_X4_fetch_162 f_X4_73 (by first | rfl | assumption) (by omega) ?_
  refine z_cVv d_X4_fetch_165 q_X4_fetch_85 (by first | rfl | assumption) (by omega) ⟨rfl, rfl⟩ (ct_X4_fail hR) rfl rfl rfl ⟨Nat.zero_le _, Nat.zero_le _⟩ ?_
  exact z_return d_X4_fetch_168 rfl ⟨rfl, rfl, (if_pos h10).trans rfl, rfl, rfl⟩
