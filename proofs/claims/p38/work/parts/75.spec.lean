def pcO (v h r c : Int32) : Bool := (inV 1 3 v && inV 1 3 h) && (inV 0 ((6 + v - 1) / v - 1) r && inV 0 ((8 + h - 1) / h - 1) c)
def leR (f : Nat → Int32) : Nat → Int32
  | 0 => 255
  | n + 1 => lsV (leR f n) (f n)
theorem hw1 {v : Nat} (h1 : 1 ≤ v) (h3 : v ≤ 3) : nI ((6 + v - 1) / v) - (1 : Int32) = nI ((6 + v - 1) / v - 1) ∧ nI ((8 + v - 1) / v) - (1 : Int32) = nI ((8 + v - 1) / v - 1) ∧ 1 ≤ (6 + v - 1) / v ∧ 1 ≤ (8 + v - 1) / v := by
  rcases (show v = 1 ∨ v = 2 ∨ v = 3 by omega) with rfl | rfl | rfl <;> decide
theorem inV_natn {x : Int32} {n : Nat} (hn : n < 2 ^ 31) (h : inV 0 (nI n) x = true) : x = nI x.toNatClampNeg ∧ x.toNatClampNeg ≤ n := inV_nat0 (by rw [nI_toInt hn]) h
/-- what a value differs by -/
def dfV (a b : Nat → Int32) (k : Nat) : Int32 := if a k < b k then b k - a k else a k - b k
theorem kR0 {I : zI} {L : zL} {v h : Nat} {s : zS} {q : zQ} (hq : sR I L 0 q) : sR (kI I v h s) (kL L s) 0 q := by
  obtain ⟨h1, h2, h3, h4, h5, h6, h7⟩ := hq
  refine ⟨fun j hj => ?_, fun j hj => ?_, fun j hj => ?_, fun j hj => ?_, ?_, ?_, ?_⟩
  · rw [kI_65 (by omega), h1 j hj]
  · rw [kI_65 (by omega), h2 j hj]
  · rw [kI_65 (by omega), h3 j hj]
  · rw [kI_65 (by omega), h4 j hj]
  · rw [kL_66 (by decide), h5]
  · rw [kL_66 (by decide), h6]
  · rw [kL_66 (by decide), h7]
theorem sR_va {I : zI} {L : zL} {k p : Nat} {q : zQ} {f : Nat → Int32} (hq : sR I L k q) (h : p ≠ 65) : sR (va_up I p f) L k q := by
  obtain ⟨h1, h2, h3, h4, h5, h6, h7⟩ := hq
  exact ⟨fun j hj => by rw [up_ne (Ne.symm h), h1 j hj], fun j hj => by rw [up_ne (Ne.symm h), h2 j hj], fun j hj => by rw [up_ne (Ne.symm h), h3 j hj], fun j hj => by rw [up_ne (Ne.symm h), h4 j hj], h5, h6, h7⟩
theorem zcp_0 {α : Type} (f g : Nat → α) : zcp f g 0 = g := by funext j; simp [zcp]
theorem zcp_s {α : Type} (f g : Nat → α) (i : Nat) : va_up (zcp f g i) i (f i) = zcp f g (i + 1) := by
  funext j
  by_cases h : j = i
  · subst h; simp [va_up, zcp]
  · by_cases h2 : j < i
    · simp [va_up, zcp, h, h2, show j < i + 1 by omega]
    · simp [va_up, zcp, h, h2, show ¬ j < i + 1 by omega]
set_option maxRecDepth 100000 in
set_option maxHeartbeats 4000000 in
theorem ct_X8_picture {E : zE} {I : zI} {L : zL} {R : zR} {v h r c : Int32} {q : zQ} (hR : zLx R) (hq : sR I L 0 q) (h5 : ¬ I 68 5 = 0) : zCf E m_X8_picture zShF [.ref 64, .int v, .int h, .int r, .int c] I L R (some (.int (if pcO v h r c = true then (shS I v.toNatClampNeg h.toNatClampNeg true (I 68 3) q).1 (r.toNatClampNeg * ((8 + h.toNatClampNeg - 1) / h.toNatClampNeg) + c.toNatClampNeg) else -1))) (if pcO v h r c = true then kI I v.toNatClampNeg h.toNatClampNeg (shS I v.toNatClampNeg h.toNatClampNeg true (I 68 3) q) else I) (if pcO v h r c = true then kL L (shS I v.toNatClampNeg h.toNatClampNeg true (I 68 3) q) else L) (R) := by
  refine z_met (by decide) [some (.ref 64), some (.int v), some (.int h), some (.int r), some (.int c)] rfl rfl (Nat.le_of_ble_eq_true rfl) (fun X => ?_)
  refine z_iload_n d_X8_picture_0 rfl ?_
  refine z_iload_n d_X8_picture_1 rfl ?_
  refine z_cSi d_X8_picture_2 q_X8_picture_254 ⟨rfl, rfl⟩ (ct_X8_isPicture) rfl rfl rfl ⟨Nat.zero_le _, Nat.zero_le _⟩ ?_
  refine z_if_eq d_X8_picture_5 (fun h_5 => ?_) (fun h_5 => ?_)
  · have hw := b0 h_5
    refine z_iconst d_X8_picture_49 ki_m1 ?_
    exact z_ireturn d_X8_picture_50 rfl ⟨by simp [pcO, hw], rfl, by simp [pcO, hw], by simp [pcO, hw], rfl⟩
  · have hp := b1 h_5
    have hp2 := hp
    simp only [Bool.and_eq_true] at hp2
    obtain ⟨ev, hv1, hv3⟩ := inV_nat (n := 3) (by decide) hp2.1
    obtain ⟨eh, hh1, hh3⟩ := inV_nat (n := 3) (by decide) hp2.2
    generalize v.toNatClampNeg = v' at ev hv1 hv3 ⊢
    generalize h.toNatClampNeg = h' at eh hh1 hh3 ⊢
    subst ev
    subst eh
    have hok : pcO (nI v') (nI h') r c = (inV 0 (nI ((6 + v' - 1) / v' - 1)) r && inV 0 (nI ((8 + h' - 1) / h' - 1)) c) := by
      unfold pcO
      rw [hp, hi6 hv1 hv3, wi8 hh1 hh3, (hw1 hv1 hv3).1, (hw1 hh1 hh3).2.1, Bool.true_and]
    rw [hok]
    refine z_iload_n d_X8_picture_8 rfl ?_
    refine z_i2l d_X8_picture_9 ?_
    refine z_lconst (v := 0) d_X8_picture_10 (by decide) ?_
    refine z_bipush d_X8_picture_11 kb_6 ?_
    refine z_iload_n d_X8_picture_13 rfl ?_
    refine z_iadd d_X8_picture_14 ?_
    refine z_iconst d_X8_picture_15 ki_1 ?_
    refine z_isub d_X8_picture_16 ?_
    refine z_iload_n d_X8_picture_17 rfl ?_
    refine z_idiv d_X8_picture_18 (nI_ne0 (by omega) (by omega)) ?_
    refine z_iconst d_X8_picture_19 ki_1 ?_
    refine z_isub d_X8_picture_20 ?_
    refine z_i2l d_X8_picture_21 ?_
    refine z_cSi d_X8_picture_22 q_X8_picture_92 ⟨rfl, rfl⟩ (ct_X8_in) rfl rfl rfl ⟨Nat.zero_le _, Nat.zero_le _⟩ ?_
    rw [inLc (lo := 0) (by decide) rfl, hi6 hv1 hv3, (hw1 hv1 hv3).1]
    refine z_if_eq d_X8_picture_25 (fun h_25 => ?_) (fun h_25 => ?_)
    · have hw := b0 h_25
      refine z_iconst d_X8_picture_49 ki_m1 ?_
      exact z_ireturn d_X8_picture_50 rfl ⟨by rw [hw, Bool.false_and]; rfl, rfl, by rw [hw, Bool.false_and]; rfl, by rw [hw, Bool.false_and]; rfl, rfl⟩
    · refine z_iload d_X8_picture_28 rfl ?_
      refine z_i2l d_X8_picture_30 ?_
      refine z_lconst (v := 0) d_X8_picture_31 (by decide) ?_
      refine z_bipush d_X8_picture_32 kb_8 ?_
      refine z_iload_n d_X8_picture_34 rfl ?_
      refine z_iadd d_X8_picture_35 ?_
      refine z_iconst d_X8_picture_36 ki_1 ?_
      refine z_isub d_X8_picture_37 ?_
      refine z_iload_n d_X8_picture_38 rfl ?_
      refine z_idiv d_X8_picture_39 (nI_ne0 (by omega) (by omega)) ?_
      refine z_iconst d_X8_picture_40 ki_1 ?_
      refine z_isub d_X8_picture_41 ?_
      refine z_i2l d_X8_picture_42 ?_
      refine z_cSi d_X8_picture_43 q_X8_picture_92 ⟨rfl, rfl⟩ (ct_X8_in) rfl rfl rfl ⟨Nat.zero_le _, Nat.zero_le _⟩ ?_
      rw [inLc (lo := 0) (by decide) rfl, wi8 hh1 hh3, (hw1 hh1 hh3).2.1]
      refine z_if_ne d_X8_picture_46 (fun h_46 => ?_) (fun h_46 => ?_)
      · rw [b1 h_25, b1 h_46, Bool.and_self, if_pos rfl, if_pos rfl, if_pos rfl]
        obtain ⟨er, hr⟩ := inV_natn (by have := (hi6b hv1 hv3).1; omega) (b1 h_25)
        obtain ⟨ec, hc⟩ := inV_natn (by have := (wi8b hh1 hh3).1; omega) (b1 h_46)
        generalize r.toNatClampNeg = r' at er hr ⊢
        generalize c.toNatClampNeg = c' at ec hc ⊢
        subst er
        subst ec
        have hb : r' * ((8 + h' - 1) / h') + c' < 48 := by
          have g1 := (hi6b hv1 hv3).1
          have g2 := (wi8b hh1 hh3).1
          have g3 := hw1 hv1 hv3
          have g4 := hw1 hh1 hh3
          have : r' * ((8 + h' - 1) / h') ≤ 5 * ((8 + h' - 1) / h') := Nat.mul_le_mul_right _ (by omega)
          omega
        refine z_aload_n d_X8_picture_51 rfl ?_
        refine z_iload_n d_X8_picture_52 rfl ?_
        refine z_iload_n d_X8_picture_53 rfl ?_
        refine z_iconst d_X8_picture_54 ki_1 ?_
        refine z_aload_n d_X8_picture_55 rfl ?_
        refine z_getR d_X8_picture_56 f_X8_21 (by first | rfl | assumption) (by omega) (by first | exact hR _ _ _ rfl | rfl | assumption) ?_
        refine z_iconst d_X8_picture_59 ki_3 ?_
        refine z_iaload d_X8_picture_60 (by first | rfl | assumption) (by omega) (zix_lit 3 (by decide)) ?_
        refine z_cVv d_X8_picture_61 q_X8_picture_258 (by first | rfl | assumption) (by omega) ⟨rfl, rfl⟩ (ct_X8_shoots (tp := true) hR hq h5 hv1 hv3 hh1 hh3) rfl rfl rfl ⟨Nat.zero_le _, Nat.zero_le _⟩ ?_
        refine z_aload_n d_X8_picture_64 rfl ?_
        refine z_getR d_X8_picture_65 f_X8_51 (by first | rfl | assumption) (by omega) (by first | exact hR _ _ _ rfl | rfl | assumption) ?_
        refine z_iload_n d_X8_picture_68 rfl ?_
        refine z_aload_n d_X8_picture_69 rfl ?_
        refine z_getI d_X8_picture_70 f_X8_249 (by first | rfl | assumption) (by omega) ?_
        rw [kI_27]
        refine z_imul d_X8_picture_73 ?_
        refine z_iload d_X8_picture_74 rfl ?_
        refine z_iadd d_X8_picture_76 ?_
        refine z_iaload d_X8_picture_77 (by first | rfl | assumption) (by omega) (zix_e (ixM _ _ _) hb (by decide)) ?_
        exact z_ireturn d_X8_picture_78 rfl ⟨by rw [kI_78], rfl, rfl, rfl, rfl⟩
      · have hw := b0 h_46
        refine z_iconst d_X8_picture_49 ki_m1 ?_
        exact z_ireturn d_X8_picture_50 rfl ⟨by rw [hw, Bool.and_false]; rfl, rfl, by rw [hw, Bool.and_false]; rfl, by rw [hw, Bool.and_false]; rfl, rfl⟩
set_option maxRecDepth 100000 in
set_option maxHeartbeats 4000000 in
theorem ct_X8_shades {E : zE} {I : zI} {L : zL} {R : zR} {v h x : Int32} {q : zQ} (hR : zLx R) (hq : sR I L 0 q) (h5 : ¬ I 68 5 = 0) : zCf E m_X8_shades zShF [.ref 64, .int v, .int h, .int x] I L R (some (.int (if ((inV 1 3 v && inV 1 3 h) && inV 0 3 x) = true then (if x = 0 then grV (shS I v.toNatClampNeg h.toNatClampNeg true (I 68 3) q).1 ((6 + v.toNatClampNeg - 1) / v.toNatClampNeg * ((8 + h.toNatClampNeg - 1) / h.toNatClampNeg)) else if x = 1 then leR (shS I v.toNatClampNeg h.toNatClampNeg true (I 68 3) q).1 ((6 + v.toNatClampNeg - 1) / v.toNatClampNeg * ((8 + h.toNatClampNeg - 1) / h.toNatClampNeg)) else if x = 2 then sumV (shS I v.toNatClampNeg h.toNatClampNeg true (I 68 3) q).1 ((6 + v.toNatClampNeg - 1) / v.toNatClampNeg * ((8 + h.toNatClampNeg - 1) / h.toNatClampNeg)) else cntV (fun k => decide ((shS I v.toNatClampNeg h.toNatClampNeg true (I 68 3) q).1 k = 255)) ((6 + v.toNatClampNeg - 1) / v.toNatClampNeg * ((8 + h.toNatClampNeg - 1) / h.toNatClampNeg))) else -1))) (if ((inV 1 3 v && inV 1 3 h) && inV 0 3 x) = true then kI I v.toNatClampNeg h.toNatClampNeg (shS I v.toNatClampNeg h.toNatClampNeg true (I 68 3) q) else I) (if ((inV 1 3 v && inV 1 3 h) && inV 0 3 x) = true then kL L (shS I v.toNatClampNeg h.toNatClampNeg true (I 68 3) q) else L) (R) := by
  refine z_met (by decide) [some (.ref 64), some (.int v), some (.int h), some (.int x), none, none, none, none, none] rfl rfl (Nat.le_of_ble_eq_true rfl) (fun X => ?_)
  refine z_iload_n d_X8_shades_0 rfl ?_
  refine z_iload_n d_X8_shades_1 rfl ?_
  refine z_cSi d_X8_shades_2 q_X8_shades_254 ⟨rfl, rfl⟩ (ct_X8_isPicture) rfl rfl rfl ⟨Nat.zero_le _, Nat.zero_le _⟩ ?_
  refine z_if_eq d_X8_shades_5 (fun h_5 => ?_) (fun h_5 => ?_)
  · have hw := b0 h_5
    refine z_iconst d_X8_shades_20 ki_m1 ?_
    exact z_ireturn d_X8_shades_21 rfl ⟨by simp [hw], rfl, by simp [hw], by simp [hw], rfl⟩
  · refine z_iload_n d_X8_shades_8 rfl ?_
    refine z_i2l d_X8_shades_9 ?_
    refine z_lconst (v := 0) d_X8_shades_10 (by decide) ?_
    refine z_ldc2 d_X8_shades_11 l_X8_252 ?_
    refine z_cSi d_X8_shades_14 q_X8_shades_92 ⟨rfl, rfl⟩ (ct_X8_in) rfl rfl rfl ⟨Nat.zero_le _, Nat.zero_le _⟩ ?_
    rw [inLc (lo := 0) (hi := 3) (by decide) (by decide)]
    refine z_if_ne d_X8_shades_17 (fun h_17 => ?_) (fun h_17 => ?_)
    · have hp := b1 h_5
      rw [hp, b1 h_17, Bool.and_self, if_pos rfl, if_pos rfl, if_pos rfl]
      simp only [Bool.and_eq_true] at hp
      obtain ⟨ev, hv1, hv3⟩ := inV_nat (n := 3) (by decide) hp.1
      obtain ⟨eh, hh1, hh3⟩ := inV_nat (n := 3) (by decide) hp.2
      generalize v.toNatClampNeg = v' at ev hv1 hv3 ⊢
      generalize h.toNatClampNeg = h' at eh hh1 hh3 ⊢
      subst ev
      subst eh
      refine z_aload_n d_X8_shades_22 rfl ?_
      refine z_iload_n d_X8_shades_23 rfl ?_
      refine z_iload_n d_X8_shades_24 rfl ?_
      refine z_iconst d_X8_shades_25 ki_1 ?_
      refine z_aload_n d_X8_shades_26 rfl ?_
      refine z_getR d_X8_shades_27 f_X8_21 (by first | rfl | assumption) (by omega) (by first | exact hR _ _ _ rfl | rfl | assumption) ?_
      refine z_iconst d_X8_shades_30 ki_3 ?_
      refine z_iaload d_X8_shades_31 (by first | rfl | assumption) (by omega) (zix_lit 3 (by decide)) ?_
      refine z_cVv d_X8_shades_32 q_X8_shades_258 (by first | rfl | assumption) (by omega) ⟨rfl, rfl⟩ (ct_X8_shoots (tp := true) hR hq h5 hv1 hv3 hh1 hh3) rfl rfl rfl ⟨Nat.zero_le _, Nat.zero_le _⟩ ?_
      generalize hss : shS I v' h' true (I 68 3) q = s
      have hHW : (6 + v' - 1) / v' * ((8 + h' - 1) / h') ≤ 48 := by
        have g1 := (hi6b hv1 hv3).1
        have g2 := (wi8b hh1 hh3).1
        exact Nat.le_trans (Nat.mul_le_mul g1 g2) (by decide)
      generalize hN : (6 + v' - 1) / v' * ((8 + h' - 1) / h') = N at hHW ⊢
      have kN : kI I v' h' s 64 26 * kI I v' h' s 64 27 = nI N := by rw [kI_26, kI_27, pk_mul, hN]
      have k78 : kI I v' h' s 78 = s.1 := kI_78 _ _ _ _
      generalize kI I v' h' s = J at kN k78 ⊢
      generalize kL L s = K
      refine z_iconst d_X8_shades_35 ki_0 ?_
      refine z_istore4 d_X8_shades_36 rfl ?_
      refine z_sipush d_X8_shades_38 ks_255 ?_
      refine z_istore5 d_X8_shades_41 rfl ?_
      refine z_iconst d_X8_shades_43 ki_0 ?_
      refine z_istore6 d_X8_shades_44 rfl ?_
      refine z_iconst d_X8_shades_46 ki_0 ?_
      refine z_istore7 d_X8_shades_47 rfl ?_
      refine z_iconst d_X8_shades_49 ki_0 ?_
      refine z_istore8 d_X8_shades_50 rfl ?_
      have loop : ∀ (Qs : State → Prop), (zZ E m_X8_shades X Qs zShF 0 0 150 [some (.ref 64), some (.int (nI v')), some (.int (nI h')), some (.int x), some (.int (grV s.1 N)), some (.int (leR s.1 N)), some (.int (sumV s.1 N)), some (.int (cntV (fun k => decide (s.1 k = 255)) N)), some (.int (nI N))] [] J K R) → ∀ i, i ≤ N → zZ E m_X8_shades X Qs zShF 0 0 52 [some (.ref 64), some (.int (nI v')), some (.int (nI h')), some (.int x), some (.int (grV s.1 i)), some (.int (leR s.1 i)), some (.int (sumV s.1 i)), some (.int (cntV (fun k => decide (s.1 k = 255)) i)), some (.int (nI i))] [] J K R := by
        intro Qs hx
        refine up_rec (fun i hi ih => ?_)
        refine z_iload d_X8_shades_52 rfl ?_
        refine z_aload_n d_X8_shades_54 rfl ?_
        refine z_getI d_X8_shades_55 f_X8_246 (by first | rfl | assumption) (by omega) ?_
        refine z_aload_n d_X8_shades_58 rfl ?_
        refine z_getI d_X8_shades_59 f_X8_249 (by first | rfl | assumption) (by omega) ?_
        refine z_imul d_X8_shades_62 ?_
        rw [kN]
        refine z_icmp_ge d_X8_shades_63 (fun h_63 => ?_) (fun h_63 => ?_)
        · obtain rfl := eq_of_ge (by omega) hi h_63
          exact hx
        · have hlt := lt_of_nge (by omega) h_63 (by omega)
          have hix : zix (nI i) 48 i := zix_nI (by omega) (by decide)
          have j90 : zZ E m_X8_shades X Qs zShF 0 0 90 [some (.ref 64), some (.int (nI v')), some (.int (nI h')), some (.int x), some (.int (grV s.1 i)), some (.int (leR s.1 i)), some (.int (sumV s.1 i)), some (.int (cntV (fun k => decide (s.1 k = 255)) i)), some (.int (nI i))] [.int (grV s.1 (i + 1))] J K R := by
            refine z_istore4 d_X8_shades_90 rfl ?_
            refine z_iload d_X8_shades_92 rfl ?_
            refine z_aload_n d_X8_shades_94 rfl ?_
            refine z_getR d_X8_shades_95 f_X8_51 (by first | rfl | assumption) (by omega) (by first | exact hR _ _ _ rfl | rfl | assumption) ?_
            refine z_iload d_X8_shades_98 rfl ?_
            refine z_iaload d_X8_shades_100 (by first | rfl | assumption) (by omega) hix ?_
            rw [k78]
            refine z_cSi d_X8_shades_101 q_X8_shades_191 ⟨rfl, rfl⟩ (ct_X8_less) rfl rfl rfl ⟨Nat.zero_le _, Nat.zero_le _⟩ ?_
            refine z_istore5 d_X8_shades_104 rfl ?_
            refine z_iload d_X8_shades_106 rfl ?_
            refine z_aload_n d_X8_shades_108 rfl ?_
            refine z_getR d_X8_shades_109 f_X8_51 (by first | rfl | assumption) (by omega) (by first | exact hR _ _ _ rfl | rfl | assumption) ?_
            refine z_iload d_X8_shades_112 rfl ?_
            refine z_iaload d_X8_shades_114 (by first | rfl | assumption) (by omega) hix ?_
            rw [k78]
            refine z_iadd d_X8_shades_115 ?_
            refine z_istore6 d_X8_shades_116 rfl ?_
            refine z_iload d_X8_shades_118 rfl ?_
            refine z_aload_n d_X8_shades_120 rfl ?_
            refine z_getR d_X8_shades_121 f_X8_51 (by first | rfl | assumption) (by omega) (by first | exact hR _ _ _ rfl | rfl | assumption) ?_
            refine z_iload d_X8_shades_124 rfl ?_
            refine z_iaload d_X8_shades_126 (by first | rfl | assumption) (by omega) hix ?_
            rw [k78]
            refine z_sipush d_X8_shades_127 ks_255 ?_
            refine z_icmp_ne d_X8_shades_130 (fun h_130 => ?_) (fun h_130 => ?_)
            · refine z_iconst d_X8_shades_137 ki_0 ?_
              refine z_topi (y := b2i (decide (s.1 i = 255))) (by simp [b2i, h_130]) ?_
              refine z_cSi d_X8_shades_138 q_X8_shades_237 ⟨rfl, rfl⟩ (ct_X8_flag (b := decide (s.1 i = 255))) rfl rfl rfl ⟨Nat.zero_le _, Nat.zero_le _⟩ ?_
              refine z_iadd d_X8_shades_141 ?_
              refine z_istore7 d_X8_shades_142 rfl ?_
              refine z_iinc8 d_X8_shades_144 ki_1 rfl ?_
              refine z_goto d_X8_shades_147 ?_
              rw [nI_1]
              exact ih hlt
            · refine z_iconst d_X8_shades_133 ki_1 ?_
              refine z_goto d_X8_shades_134 ?_
              refine z_topi (y := b2i (decide (s.1 i = 255))) (by simp [b2i, h_130]) ?_
              refine z_cSi d_X8_shades_138 q_X8_shades_237 ⟨rfl, rfl⟩ (ct_X8_flag (b := decide (s.1 i = 255))) rfl rfl rfl ⟨Nat.zero_le _, Nat.zero_le _⟩ ?_
              refine z_iadd d_X8_shades_141 ?_
              refine z_istore7 d_X8_shades_142 rfl ?_
              refine z_iinc8 d_X8_shades_144 ki_1 rfl ?_
              refine z_goto d_X8_shades_147 ?_
              rw [nI_1]
              exact ih hlt
          refine z_aload_n d_X8_shades_66 rfl ?_
          refine z_getR d_X8_shades_67 f_X8_51 (by first | rfl | assumption) (by omega) (by first | exact hR _ _ _ rfl | rfl | assumption) ?_
          refine z_iload d_X8_shades_70 rfl ?_
          refine z_iaload d_X8_shades_72 (by first | rfl | assumption) (by omega) hix ?_
          rw [k78]
          refine z_iload d_X8_shades_73 rfl ?_
          refine z_icmp_le d_X8_shades_75 (fun h_75 => ?_) (fun h_75 => ?_)
          · refine z_iload d_X8_shades_88 rfl ?_
            refine z_topi (y := grV s.1 (i + 1)) (by rw [grV, mx]; first | rw [if_neg (Int32.not_lt.mpr h_75)] | rw [if_pos (Int32.not_le.mp h_75)]) ?_
            exact j90
          · refine z_aload_n d_X8_shades_78 rfl ?_
            refine z_getR d_X8_shades_79 f_X8_51 (by first | rfl | assumption) (by omega) (by first | exact hR _ _ _ rfl | rfl | assumption) ?_
            refine z_iload d_X8_shades_82 rfl ?_
            refine z_iaload d_X8_shades_84 (by first | rfl | assumption) (by omega) hix ?_
            rw [k78]
            refine z_goto d_X8_shades_85 ?_
            refine z_topi (y := grV s.1 (i + 1)) (by rw [grV, mx]; first | rw [if_neg (Int32.not_lt.mpr h_75)] | rw [if_pos (Int32.not_le.mp h_75)]) ?_
            exact j90
      refine loop _ ?_ 0 (Nat.zero_le N)
      generalize grV s.1 N = a1
      generalize leR s.1 N = a2
      generalize sumV s.1 N = a3
      generalize cntV (fun k => decide (s.1 k = 255)) N = a4
      refine z_iload_n d_X8_shades_150 rfl ?_
      refine z_if_ne d_X8_shades_151 (fun h_151 => ?_) (fun h_151 => ?_)
      · refine z_iload_n d_X8_shades_159 rfl ?_
        refine z_iconst d_X8_shades_160 ki_1 ?_
        refine z_icmp_ne d_X8_shades_161 (fun h_161 => ?_) (fun h_161 => ?_)
        · refine z_iload_n d_X8_shades_169 rfl ?_
          refine z_iconst d_X8_shades_170 ki_2 ?_
          refine z_icmp_ne d_X8_shades_171 (fun h_171 => ?_) (fun h_171 => ?_)
          · refine z_iload d_X8_shades_179 rfl ?_
            exact z_ireturn d_X8_shades_181 rfl ⟨by first | rw [if_pos h_151] | rw [if_neg h_151, if_pos h_161] | rw [if_neg h_151, if_neg h_161, if_pos h_171] | rw [if_neg h_151, if_neg h_161, if_neg h_171], rfl, rfl, rfl, rfl⟩
          · refine z_iload d_X8_shades_174 rfl ?_
            refine z_goto d_X8_shades_176 ?_
            exact z_ireturn d_X8_shades_181 rfl ⟨by first | rw [if_pos h_151] | rw [if_neg h_151, if_pos h_161] | rw [if_neg h_151, if_neg h_161, if_pos h_171] | rw [if_neg h_151, if_neg h_161, if_neg h_171], rfl, rfl, rfl, rfl⟩
        · refine z_iload d_X8_shades_164 rfl ?_
          refine z_goto d_X8_shades_166 ?_
          exact z_ireturn d_X8_shades_181 rfl ⟨by first | rw [if_pos h_151] | rw [if_neg h_151, if_pos h_161] | rw [if_neg h_151, if_neg h_161, if_pos h_171] | rw [if_neg h_151, if_neg h_161, if_neg h_171], rfl, rfl, rfl, rfl⟩
      · refine z_iload d_X8_shades_154 rfl ?_
        refine z_goto d_X8_shades_156 ?_
        exact z_ireturn d_X8_shades_181 rfl ⟨by first | rw [if_pos h_151] | rw [if_neg h_151, if_pos h_161] | rw [if_neg h_151, if_neg h_161, if_pos h_171] | rw [if_neg h_151, if_neg h_161, if_neg h_171], rfl, rfl, rfl, rfl⟩
    · have hw := b0 h_17
      refine z_iconst d_X8_shades_20 ki_m1 ?_
      exact z_ireturn d_X8_shades_21 rfl ⟨by simp [hw], rfl, by simp [hw], by simp [hw], rfl⟩
set_option maxRecDepth 100000 in
set_option maxHeartbeats 4000000 in
theorem ct_X8_late {E : zE} {I : zI} {L : zL} {R : zR} {c : Int32} {q : zQ} (hR : zLx R) (hq : sR I L 0 q) (h5 : ¬ I 68 5 = 0) : zCf E m_X8_late zShF [.ref 64, .int c] I L R (some (.int (if inV 0 7 c = true then qLn (rhQ (I 68 0) (I 68 2) (I 70) true (I 68 3) (shS I 1 1 true (I 68 3) q).2) c.toNatClampNeg else -1))) (if inV 0 7 c = true then kI I 1 1 ((shS I 1 1 true (I 68 3) q).1, rhQ (I 68 0) (I 68 2) (I 70) true (I 68 3) (shS I 1 1 true (I 68 3) q).2) else I) (if inV 0 7 c = true then kL L ((shS I 1 1 true (I 68 3) q).1, rhQ (I 68 0) (I 68 2) (I 70) true (I 68 3) (shS I 1 1 true (I 68 3) q).2) else L) (R) := by
  refine z_met (by decide) [some (.ref 64), some (.int c)] rfl rfl (Nat.le_of_ble_eq_true rfl) (fun X => ?_)
  refine z_iload_n d_X8_late_0 rfl ?_
  refine z_i2l d_X8_late_1 ?_
  refine z_lconst (v := 0) d_X8_late_2 (by decide) ?_
  refine z_ldc2 d_X8_late_3 l_X8_235 ?_
  refine z_cSi d_X8_late_6 q_X8_late_92 ⟨rfl, rfl⟩ (ct_X8_in) rfl rfl rfl ⟨Nat.zero_le _, Nat.zero_le _⟩ ?_
  rw [inLc (lo := 0) (hi := 7) (by decide) (by decide)]
  refine z_if_ne d_X8_late_9 (fun h_9 => ?_) (fun h_9 => ?_)
  · have hw := inV_nat0 (n := 7) (by decide) (b1 h_9)
    rw [if_pos (b1 h_9), if_pos (b1 h_9), if_pos (b1 h_9)]
    refine z_aload_n d_X8_late_14 rfl ?_
    refine z_iconst d_X8_late_15 ki_1 ?_
    refine z_iconst d_X8_late_16 ki_1 ?_
    refine z_iconst d_X8_late_17 ki_1 ?_
    refine z_aload_n d_X8_late_18 rfl ?_
    refine z_getR d_X8_late_19 f_X8_21 (by first | rfl | assumption) (by omega) (by first | exact hR _ _ _ rfl | rfl | assumption) ?_
    refine z_iconst d_X8_late_22 ki_3 ?_
    refine z_iaload d_X8_late_23 (by first | rfl | assumption) (by omega) (zix_lit 3 (by decide)) ?_
    refine z_cVv d_X8_late_24 q_X8_late_258 (by first | rfl | assumption) (by omega) ⟨rfl, rfl⟩ (ct_X8_shoots (v := 1) (h := 1) (tp := true) hR hq h5 (by decide) (by decide) (by decide) (by decide)) rfl rfl rfl ⟨Nat.zero_le _, Nat.zero_le _⟩ ?_
    generalize hss : shS I 1 1 true (I 68 3) q = s
    refine z_aload_n d_X8_late_27 rfl ?_
    refine z_sipush d_X8_late_28 ks_480 ?_
    refine z_iconst d_X8_late_31 ki_1 ?_
    refine z_aload_n d_X8_late_32 rfl ?_
    refine z_getR d_X8_late_33 f_X8_21 (by first | rfl | assumption) (by omega) (by first | exact hR _ _ _ rfl | rfl | assumption) ?_
    refine z_iconst d_X8_late_36 ki_3 ?_
    refine z_iaload d_X8_late_37 (by first | rfl | assumption) (by omega) (zix_lit 3 (by decide)) ?_
    refine z_cVv d_X8_late_38 q_X8_late_222 (by first | rfl | assumption) (by omega) ⟨rfl, rfl⟩ (ct_X8_handsDown (k := 3) (tp := true) (q := s.2) hR (by decide) (kR I L 1 1 s)) rfl rfl rfl ⟨Nat.zero_le _, Nat.zero_le _⟩ ?_
    rw [kI_s, kL_s _ _ s.1, show kI I 1 1 s 68 = I 68 from kI_ne (by decide) (by decide) (by decide), show kI I 1 1 s 70 = I 70 from kI_ne (by decide) (by decide) (by decide)]
    refine z_aload_n d_X8_late_41 rfl ?_
    refine z_getR d_X8_late_42 f_X8_7 (by first | rfl | assumption) (by omega) (by first | exact hR _ _ _ rfl | rfl | assumption) ?_
    refine z_sipush d_X8_late_45 ks_528 ?_
    refine z_iload_n d_X8_late_48 rfl ?_
    refine z_iadd d_X8_late_49 ?_
    refine z_iaload d_X8_late_50 (by first | rfl | assumption) (by omega) (zix_e (show (528 : Int32) + c = nI (160 * 3 + 48 + c.toNatClampNeg) from by have e := ixT (b := 528) hw.1; exact e) (by omega) (by decide)) ?_
    exact z_ireturn d_X8_late_51 rfl ⟨by rw [(kR I L 1 1 (s.1, rhQ (I 68 0) (I 68 2) (I 70) true (I 68 3) s.2)).2.1 _ (by omega)], rfl, rfl, rfl, rfl⟩
  · have hw := b0 h_9
    refine z_iconst d_X8_late_12 ki_m1 ?_
    exact z_ireturn d_X8_late_13 rfl ⟨by rw [hw]; rfl, rfl, by rw [hw]; rfl, by rw [hw]; rfl, rfl⟩
def oI (I : zI) (q : zQ) : zI := va_up (kI I 1 1 (shS I 1 1 false 0 q)) 79 (zcp (shS I 1 1 false 0 q).1 (I 79) 48)
def oL (I : zI) (L : zL) (q : zQ) : zL := kL L (shS I 1 1 false 0 q)
set_option maxRecDepth 100000 in
set_option maxHeartbeats 4000000 in
theorem ct_X8_spoiled {E : zE} {I : zI} {L : zL} {R : zR} {x : Int32} {q q2 : zQ} (hR : zLx R) (hq : sR I L 0 q) (hq2 : sR I L 0 q2) (h5 : ¬ I 68 5 = 0) : zCf E m_X8_spoiled zShF [.ref 64, .int x] I L R (some (.int (if inV 0 1 x = true then (if x = 0 then cntV (fun k => decide (0 < dfV (shS (oI I q) 1 1 true (I 68 3) q2).1 (zcp (shS I 1 1 false 0 q).1 (I 79) 48) k)) 48 else grV (dfV (shS (oI I q) 1 1 true (I 68 3) q2).1 (zcp (shS I 1 1 false 0 q).1 (I 79) 48)) 48) else -1))) (if inV 0 1 x = true then kI (oI I q) 1 1 (shS (oI I q) 1 1 true (I 68 3) q2) else I) (if inV 0 1 x = true then kL (oL I L q) (shS (oI I q) 1 1 true (I 68 3) q2) else L) (R) := by
  refine z_met (by decide) [some (.ref 64), some (.int x), none, none, none, none] rfl rfl (Nat.le_of_ble_eq_true rfl) (fun X => ?_)
  refine z_iload_n d_X8_spoiled_0 rfl ?_
  refine z_i2l d_X8_spoiled_1 ?_
  refine z_lconst (v := 0) d_X8_spoiled_2 (by decide) ?_
  refine z_lconst (v := 1) d_X8_spoiled_3 (by decide) ?_
  refine z_cSi d_X8_spoiled_4 q_X8_spoiled_92 ⟨rfl, rfl⟩ (ct_X8_in) rfl rfl rfl ⟨Nat.zero_le _, Nat.zero_le _⟩ ?_
  rw [inLc (lo := 0) (hi := 1) (by decide) (by decide)]
  refine z_if_ne d_X8_spoiled_7 (fun h_7 => ?_) (fun h_7 => ?_)
  · rw [if_pos (b1 h_7), if_pos (b1 h_7), if_pos (b1 h_7)]
    refine z_aload_n d_X8_spoiled_12 rfl ?_
    refine z_iconst d_X8_spoiled_13 ki_1 ?_
    refine z_iconst d_X8_spoiled_14 ki_1 ?_
    refine z_iconst d_X8_spoiled_15 ki_0 ?_
    refine z_iconst d_X8_spoiled_16 ki_0 ?_
    refine z_cVv d_X8_spoiled_17 q_X8_spoiled_258 (by first | rfl | assumption) (by omega) ⟨rfl, rfl⟩ (ct_X8_shoots (v := 1) (h := 1) (tp := false) hR hq h5 (by decide) (by decide) (by decide) (by decide)) rfl rfl rfl ⟨Nat.zero_le _, Nat.zero_le _⟩ ?_
    generalize hs1 : shS I 1 1 false 0 q = s1
    have hoI : oI I q = va_up (kI I 1 1 s1) 79 (zcp s1.1 (I 79) 48) := by unfold oI; rw [hs1]
    have hoL : oL I L q = kL L s1 := by unfold oL; rw [hs1]
    have k78 : kI I 1 1 s1 78 = s1.1 := kI_78 _ _ _ _
    have k79 : kI I 1 1 s1 79 = I 79 := kI_ne (by decide) (by decide) (by decide)
    have k68 : kI I 1 1 s1 68 = I 68 := kI_ne (by decide) (by decide) (by decide)
    refine z_iconst d_X8_spoiled_20 ki_0 ?_
    refine z_istore2 d_X8_spoiled_21 rfl ?_
    have loop : ∀ (Qs : State → Prop), (zZ E m_X8_spoiled X Qs zShF 0 0 46 [some (.ref 64), some (.int x), some (.int (nI 48)), none, none, none] [] (va_up (kI I 1 1 s1) 79 (zcp s1.1 (I 79) 48)) (kL L s1) R) → ∀ i, i ≤ 48 → zZ E m_X8_spoiled X Qs zShF 0 0 22 [some (.ref 64), some (.int x), some (.int (nI i)), none, none, none] [] (va_up (kI I 1 1 s1) 79 (zcp s1.1 (I 79) i)) (kL L s1) R := by
      intro Qs hx
      refine up_rec (fun i hi ih => ?_)
      refine z_iload_n d_X8_spoiled_22 rfl ?_
      refine z_bipush d_X8_spoiled_23 kb_48 ?_
      refine z_icmp_ge d_X8_spoiled_25 (fun h_25 => ?_) (fun h_25 => ?_)
      · obtain rfl := eq_of_ge (n := 48) (by decide) hi h_25
        exact hx
      · have hlt := lt_of_nge (n := 48) (by decide) h_25 (by omega)
        refine z_aload_n d_X8_spoiled_28 rfl ?_
        refine z_getR d_X8_spoiled_29 f_X8_54 (by first | rfl | assumption) (by omega) (by first | exact hR _ _ _ rfl | rfl | assumption) ?_
        refine z_iload_n d_X8_spoiled_32 rfl ?_
        refine z_aload_n d_X8_spoiled_33 rfl ?_
        refine z_getR d_X8_spoiled_34 f_X8_51 (by first | rfl | assumption) (by omega) (by first | exact hR _ _ _ rfl | rfl | assumption) ?_
        refine z_iload_n d_X8_spoiled_37 rfl ?_
        refine z_iaload d_X8_spoiled_38 (by first | rfl | assumption) (by omega) (by first | exact zix_nI (by assumption) (by first | decide | assumption) | exact zix_nI (by omega) (by first | decide | assumption) | assumption) ?_
        refine z_iastore d_X8_spoiled_39 (by first | rfl | assumption) (by omega) (by first | exact zix_nI (by assumption) (by first | decide | assumption) | exact zix_nI (by omega) (by first | decide | assumption) | assumption) ?_
        refine z_iinc2 d_X8_spoiled_40 ki_1 rfl ?_
        refine z_goto d_X8_spoiled_43 ?_
        rw [nI_1, zi_up, up_ne (by decide), k78, zcp_s]
        exact ih hlt
    refine z_mem (I' := va_up (kI I 1 1 s1) 79 (zcp s1.1 (I 79) 0)) (by rw [zcp_0, ← k79, up_self]) rfl rfl (loop _ ?_ 0 (Nat.zero_le 48))
    rw [← hoI, ← hoL]
    have hqo : sR (oI I q) (oL I L q) 0 q2 := by rw [hoI, hoL]; exact sR_va (kR0 hq2) (by decide)
    have h68 : oI I q 68 = I 68 := by rw [hoI, up_ne (by decide)]; exact k68
    have h79 : oI I q 79 = zcp s1.1 (I 79) 48 := by rw [hoI, up_eq]
    generalize oI I q = J at hqo h68 h79 ⊢
    generalize oL I L q = K at hqo ⊢
    refine z_aload_n d_X8_spoiled_46 rfl ?_
    refine z_iconst d_X8_spoiled_47 ki_1 ?_
    refine z_iconst d_X8_spoiled_48 ki_1 ?_
    refine z_iconst d_X8_spoiled_49 ki_1 ?_
    refine z_aload_n d_X8_spoiled_50 rfl ?_
    refine z_getR d_X8_spoiled_51 f_X8_21 (by first | rfl | assumption) (by omega) (by first | exact hR _ _ _ rfl | rfl | assumption) ?_
    refine z_iconst d_X8_spoiled_54 ki_3 ?_
    refine z_iaload d_X8_spoiled_55 (by first | rfl | assumption) (by omega) (zix_lit 3 (by decide)) ?_
    rw [h68]
    refine z_cVv d_X8_spoiled_56 q_X8_spoiled_258 (by first | rfl | assumption) (by omega) ⟨rfl, rfl⟩ (ct_X8_shoots (v := 1) (h := 1) (tp := true) hR hqo (by rw [h68]; exact h5) (by decide) (by decide) (by decide) (by decide)) rfl rfl rfl ⟨Nat.zero_le _, Nat.zero_le _⟩ ?_
    generalize hs2 : shS J 1 1 true (I 68 3) q2 = s2
    have m78 : kI J 1 1 s2 78 = s2.1 := kI_78 _ _ _ _
    have m79 : kI J 1 1 s2 79 = zcp s1.1 (I 79) 48 := by rw [kI_ne (by decide) (by decide) (by decide), h79]
    generalize zcp s1.1 (I 79) 48 = ot at m79 ⊢
    generalize kI J 1 1 s2 = M at m78 m79 ⊢
    generalize kL K s2 = N
    refine z_iconst d_X8_spoiled_59 ki_0 ?_
    refine z_istore2 d_X8_spoiled_60 rfl ?_
    refine z_iconst d_X8_spoiled_61 ki_0 ?_
    refine z_istore3 d_X8_spoiled_62 rfl ?_
    refine z_iconst d_X8_spoiled_63 ki_0 ?_
    refine z_istore4 d_X8_spoiled_64 rfl ?_
    have loop : ∀ (Qs : State → Prop), (∀ o5 : Option Value, zZ E m_X8_spoiled X Qs zShF 0 0 160 [some (.ref 64), some (.int x), some (.int (cntV (fun k => decide (0 < dfV s2.1 ot k)) 48)), some (.int (grV (dfV s2.1 ot) 48)), some (.int (nI 48)), o5] [] M N R) → ∀ i, i ≤ 48 → ∀ o5 : Option Value, zZ E m_X8_spoiled X Qs zShF 0 0 66 [some (.ref 64), some (.int x), some (.int (cntV (fun k => decide (0 < dfV s2.1 ot k)) i)), some (.int (grV (dfV s2.1 ot) i)), some (.int (nI i)), o5] [] M N R := by
      intro Qs hx
      refine up_rec (fun i hi ih o5 => ?_)
      refine z_iload d_X8_spoiled_66 rfl ?_
      refine z_bipush d_X8_spoiled_68 kb_48 ?_
      refine z_icmp_ge d_X8_spoiled_70 (fun h_70 => ?_) (fun h_70 => ?_)
      · obtain rfl := eq_of_ge (n := 48) (by decide) hi h_70
        exact hx _
      · have hlt := lt_of_nge (n := 48) (by decide) h_70 (by omega)
        have j123 : zZ E m_X8_spoiled X Qs zShF 0 0 123 [some (.ref 64), some (.int x), some (.int (cntV (fun k => decide (0 < dfV s2.1 ot k)) i)), some (.int (grV (dfV s2.1 ot) i)), some (.int (nI i)), o5] [.int (dfV s2.1 ot i)] M N R := by
          refine z_istore5 d_X8_spoiled_123 rfl ?_
          refine z_iload_n d_X8_spoiled_125 rfl ?_
          refine z_iload d_X8_spoiled_126 rfl ?_
          refine z_if_le d_X8_spoiled_128 (fun h_128 => ?_) (fun h_128 => ?_)
          · refine z_iconst d_X8_spoiled_135 ki_0 ?_
            refine z_topi (y := b2i (decide (0 < dfV s2.1 ot i))) (by first | simp [b2i, h_128] | simp [b2i, Int32.not_le.mp h_128]) ?_
            refine z_cSi d_X8_spoiled_136 q_X8_spoiled_237 ⟨rfl, rfl⟩ (ct_X8_flag (b := decide (0 < dfV s2.1 ot i))) rfl rfl rfl ⟨Nat.zero_le _, Nat.zero_le _⟩ ?_
            refine z_iadd d_X8_spoiled_139 ?_
            refine z_istore2 d_X8_spoiled_140 rfl ?_
            refine z_iload d_X8_spoiled_141 rfl ?_
            refine z_iload_n d_X8_spoiled_143 rfl ?_
            refine z_icmp_le d_X8_spoiled_144 (fun h_144 => ?_) (fun h_144 => ?_)
            · refine z_iload_n d_X8_spoiled_152 rfl ?_
              refine z_topi (y := grV (dfV s2.1 ot) (i + 1)) (by rw [grV, mx]; first | rw [if_neg (Int32.not_lt.mpr h_144)] | rw [if_pos (Int32.not_le.mp h_144)]) ?_
              refine z_istore3 d_X8_spoiled_153 rfl ?_
              refine z_iinc4 d_X8_spoiled_154 ki_1 rfl ?_
              refine z_goto d_X8_spoiled_157 ?_
              rw [nI_1]
              exact ih hlt _
            · refine z_iload d_X8_spoiled_147 rfl ?_
              refine z_goto d_X8_spoiled_149 ?_
              refine z_topi (y := grV (dfV s2.1 ot) (i + 1)) (by rw [grV, mx]; first | rw [if_neg (Int32.not_lt.mpr h_144)] | rw [if_pos (Int32.not_le.mp h_144)]) ?_
              refine z_istore3 d_X8_spoiled_153 rfl ?_
              refine z_iinc4 d_X8_spoiled_154 ki_1 rfl ?_
              refine z_goto d_X8_spoiled_157 ?_
              rw [nI_1]
              exact ih hlt _
          · refine z_iconst d_X8_spoiled_131 ki_1 ?_
            refine z_goto d_X8_spoiled_132 ?_
            refine z_topi (y := b2i (decide (0 < dfV s2.1 ot i))) (by first | simp [b2i, h_128] | simp [b2i, Int32.not_le.mp h_128]) ?_
            refine z_cSi d_X8_spoiled_136 q_X8_spoiled_237 ⟨rfl, rfl⟩ (ct_X8_flag (b := decide (0 < dfV s2.1 ot i))) rfl rfl rfl ⟨Nat.zero_le _, Nat.zero_le _⟩ ?_
            refine z_iadd d_X8_spoiled_139 ?_
            refine z_istore2 d_X8_spoiled_140 rfl ?_
            refine z_iload d_X8_spoiled_141 rfl ?_
            refine z_iload_n d_X8_spoiled_143 rfl ?_
            refine z_icmp_le d_X8_spoiled_144 (fun h_144 => ?_) (fun h_144 => ?_)
            · refine z_iload_n d_X8_spoiled_152 rfl ?_
              refine z_topi (y := grV (dfV s2.1 ot) (i + 1)) (by rw [grV, mx]; first | rw [if_neg (Int32.not_lt.mpr h_144)] | rw [if_pos (Int32.not_le.mp h_144)]) ?_
              refine z_istore3 d_X8_spoiled_153 rfl ?_
              refine z_iinc4 d_X8_spoiled_154 ki_1 rfl ?_
              refine z_goto d_X8_spoiled_157 ?_
              rw [nI_1]
              exact ih hlt _
            · refine z_iload d_X8_spoiled_147 rfl ?_
              refine z_goto d_X8_spoiled_149 ?_
              refine z_topi (y := grV (dfV s2.1 ot) (i + 1)) (by rw [grV, mx]; first | rw [if_neg (Int32.not_lt.mpr h_144)] | rw [if_pos (Int32.not_le.mp h_144)]) ?_
              refine z_istore3 d_X8_spoiled_153 rfl ?_
              refine z_iinc4 d_X8_spoiled_154 ki_1 rfl ?_
              refine z_goto d_X8_spoiled_157 ?_
              rw [nI_1]
              exact ih hlt _
        refine z_aload_n d_X8_spoiled_73 rfl ?_
        refine z_getR d_X8_spoiled_74 f_X8_51 (by first | rfl | assumption) (by omega) (by first | exact hR _ _ _ rfl | rfl | assumption) ?_
        refine z_iload d_X8_spoiled_77 rfl ?_
        refine z_iaload d_X8_spoiled_79 (by first | rfl | assumption) (by omega) (by first | exact zix_nI (by assumption) (by first | decide | assumption) | exact zix_nI (by omega) (by first | decide | assumption) | assumption) ?_
        refine z_aload_n d_X8_spoiled_80 rfl ?_
        refine z_getR d_X8_spoiled_81 f_X8_54 (by first | rfl | assumption) (by omega) (by first | exact hR _ _ _ rfl | rfl | assumption) ?_
        refine z_iload d_X8_spoiled_84 rfl ?_
        refine z_iaload d_X8_spoiled_86 (by first | rfl | assumption) (by omega) (by first | exact zix_nI (by assumption) (by first | decide | assumption) | exact zix_nI (by omega) (by first | decide | assumption) | assumption) ?_
        rw [m78, m79]
        refine z_icmp_ge d_X8_spoiled_87 (fun h_87 => ?_) (fun h_87 => ?_)
        · refine z_aload_n d_X8_spoiled_108 rfl ?_
          refine z_getR d_X8_spoiled_109 f_X8_51 (by first | rfl | assumption) (by omega) (by first | exact hR _ _ _ rfl | rfl | assumption) ?_
          refine z_iload d_X8_spoiled_112 rfl ?_
          refine z_iaload d_X8_spoiled_114 (by first | rfl | assumption) (by omega) (by first | exact zix_nI (by assumption) (by first | decide | assumption) | exact zix_nI (by omega) (by first | decide | assumption) | assumption) ?_
          refine z_aload_n d_X8_spoiled_115 rfl ?_
          refine z_getR d_X8_spoiled_116 f_X8_54 (by first | rfl | assumption) (by omega) (by first | exact hR _ _ _ rfl | rfl | assumption) ?_
          refine z_iload d_X8_spoiled_119 rfl ?_
          refine z_iaload d_X8_spoiled_121 (by first | rfl | assumption) (by omega) (by first | exact zix_nI (by assumption) (by first | decide | assumption) | exact zix_nI (by omega) (by first | decide | assumption) | assumption) ?_
          rw [m78, m79]
          refine z_isub d_X8_spoiled_122 ?_
          refine z_topi (y := dfV s2.1 ot i) (by unfold dfV; first | rw [if_neg (Int32.not_lt.mpr h_87)] | rw [if_pos (Int32.not_le.mp h_87)]) ?_
          exact j123
        · refine z_aload_n d_X8_spoiled_90 rfl ?_
          refine z_getR d_X8_spoiled_91 f_X8_54 (by first | rfl | assumption) (by omega) (by first | exact hR _ _ _ rfl | rfl | assumption) ?_
          refine z_iload d_X8_spoiled_94 rfl ?_
          refine z_iaload d_X8_spoiled_96 (by first | rfl | assumption) (by omega) (by first | exact zix_nI (by assumption) (by first | decide | assumption) | exact zix_nI (by omega) (by first | decide | assumption) | assumption) ?_
          refine z_aload_n d_X8_spoiled_97 rfl ?_
          refine z_getR d_X8_spoiled_98 f_X8_51 (by first | rfl | assumption) (by omega) (by first | exact hR _ _ _ rfl | rfl | assumption) ?_
          refine z_iload d_X8_spoiled_101 rfl ?_
          refine z_iaload d_X8_spoiled_103 (by first | rfl | assumption) (by omega) (by first | exact zix_nI (by assumption) (by first | decide | assumption) | exact zix_nI (by omega) (by first | decide | assumption) | assumption) ?_
          rw [m78, m79]
          refine z_isub d_X8_spoiled_104 ?_
          refine z_goto d_X8_spoiled_105 ?_
          refine z_topi (y := dfV s2.1 ot i) (by unfold dfV; first | rw [if_neg (Int32.not_lt.mpr h_87)] | rw [if_pos (Int32.not_le.mp h_87)]) ?_
          exact j123
    refine loop _ (fun o5 => ?_) 0 (Nat.zero_le 48) none
    generalize cntV (fun k => decide (0 < dfV s2.1 ot k)) 48 = a1
    generalize grV (dfV s2.1 ot) 48 = a2
    refine z_iload_n d_X8_spoiled_160 rfl ?_
    refine z_if_ne d_X8_spoiled_161 (fun h_161 => ?_) (fun h_161 => ?_)
    · refine z_iload_n d_X8_spoiled_168 rfl ?_
      exact z_ireturn d_X8_spoiled_169 rfl ⟨by first | rw [if_pos h_161] | rw [if_neg h_161], rfl, rfl, rfl, rfl⟩
    · refine z_iload_n d_X8_spoiled_164 rfl ?_
      refine z_goto d_X8_spoiled_165 ?_
      exact z_ireturn d_X8_spoiled_169 rfl ⟨by first | rw [if_pos h_161] | rw [if_neg h_161], rfl, rfl, rfl, rfl⟩
  · have hw := b0 h_7
    refine z_iconst d_X8_spoiled_10 ki_m1 ?_
    exact z_ireturn d_X8_spoiled_11 rfl ⟨by rw [hw]; rfl, rfl, by rw [hw]; rfl, by rw [hw]; rfl, rfl⟩
