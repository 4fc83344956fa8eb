def picOk (v h r c : Int32) : Bool := (inV 1 3 v && inV 1 3 h) && ((!decide (r < 0) && !decide (binV 6 v ≤ r)) && (!decide (c < 0) && decide (c < binV 8 h)))
theorem bin6 {v : Nat} (h1 : 1 ≤ v) (h3 : v ≤ 3) : binV 6 (nI v) = nI (6 / v) := by
  rcases (show v = 1 ∨ v = 2 ∨ v = 3 by omega) with rfl | rfl | rfl <;> decide
theorem bin8 {v : Nat} (h1 : 1 ≤ v) (h3 : v ≤ 3) : binV 8 (nI v) = nI ((8 + v - 1) / v) := by
  rcases (show v = 1 ∨ v = 2 ∨ v = 3 by omega) with rfl | rfl | rfl <;> decide
theorem lt_nat {x : Int32} {n : Nat} (h0 : ¬ x < 0) (h : x < nI n) (hn : n < 2 ^ 31) : x = nI x.toNatClampNeg ∧ x.toNatClampNeg < n := by
  have := zix_of2 h0 (Int32.not_le.mpr h) hn
  obtain ⟨j, hj, rfl⟩ := nI_of h0
  rw [nI_clamp hj] at this ⊢
  exact ⟨rfl, this.1⟩
def ab (d : Int32) : Int32 := if 0 ≤ d then d else 0 - d
def cmV (I : zI) (w : Nat) : Int32 := I 17 w + I 5 w + I 4 1
def lonV (cap most : Int32) : Int32 := if 1 ≤ most then mn 999 (cap / most) else 999
def ndV (li f : Nat → Int32) (n : Int32) : Nat → Int32
  | 0 => 1
  | k + 1 => if li k ≤ 0 then ndV li f n k else mx (ndV li f n k) (binV n (f k))
def htV (f : Nat → Int32) (n : Int32) : Nat → Int64
  | 0 => 0
  | k + 1 => if f k < n then htV f n k else htV f n k ||| (1 <<< ((nI k).toInt64 &&& 63))
def mdV (we hot : Nat → Int32) (w col : Int32) : Nat → Int32 × Int32
  | 0 => (0, 0)
  | k + 1 => if isW (besV w col (nI k)) = true ∧ hot (besV w col (nI k)).toNatClampNeg = 0 then ((mdV we hot w col k).1 + we (besV w col (nI k)).toNatClampNeg, (mdV we hot w col k).2 + 1) else mdV we hot w col k
theorem mk_congr {I J : zI} {L K : zL} {q c p v h : Nat} {sp : Bool} (h1 : J (p + 1) = I (p + 1)) (h3 : J (p + 3) = I (p + 3)) (h6 : J (q + 6) = I (q + 6)) (hc : qOf J K c = qOf I L c) (hq : qOf J K (q + 1) = qOf I L (q + 1)) : mkS J K q c p v h sp = mkS I L q c p v h sp := by
  unfold mkS
  rw [h1, h3, h6, hc, hq]
theorem qOf_eq {I J : zI} {L K : zL} {c : Nat} (h1 : J (c + 1) = I (c + 1)) (h2 : J (c + 2) = I (c + 2)) (h3 : J (c + 3) = I (c + 3)) (h4 : J (c + 4) = I (c + 4)) (hL : K c = L c) : qOf J K c = qOf I L c := by
  unfold qOf
  rw [h1, h2, h3, h4, hL]
set_option maxRecDepth 100000 in
set_option maxHeartbeats 4000000 in
theorem ct_X7_picture {E : zE} {I : zI} {L : zL} {R : zR} {v h r c : Int32} (hR : zLx R) : zCf E m_X7_picture zShF [.ref 0, .int v, .int h, .int r, .int c] I L R (some (.int (if picOk v h r c = true then (mkS I L 23 16 3 v.toNatClampNeg h.toNatClampNeg true).1 (r.toNatClampNeg * 8 + c.toNatClampNeg) else -1))) (if picOk v h r c = true then pI (pN I 23 v.toNatClampNeg h.toNatClampNeg) 23 (mkS I L 23 16 3 v.toNatClampNeg h.toNatClampNeg true) else I) (if picOk v h r c = true then qL L 24 (mkS I L 23 16 3 v.toNatClampNeg h.toNatClampNeg true).2 else L) (R) := by
  have h16 := lC_16 hR; have h3 := lP_3 hR; have h23 := lQ_23 hR
  refine z_met (by decide) [some (.ref 0), some (.int v), some (.int h), some (.int r), some (.int c)] rfl rfl (Nat.le_of_ble_eq_true rfl) (fun X => ?_)
  refine z_iload_n d_X7_picture_0 rfl ?_
  refine z_cSi d_X7_picture_1 q_X7_picture_162 ⟨rfl, rfl⟩ (ct_X7_isBin) rfl rfl rfl ⟨Nat.zero_le _, Nat.zero_le _⟩ ?_
  refine z_if_eq d_X7_picture_4 (fun h_4 => ?_) (fun h_4 => ?_)
  · have hw := b0 h_4
    refine z_iconst d_X7_picture_14 ki_m1 ?_
    exact z_ireturn d_X7_picture_15 rfl ⟨by simp [picOk, hw], rfl, by simp [picOk, hw], by simp [picOk, hw], rfl⟩
  · refine z_iload_n d_X7_picture_7 rfl ?_
    refine z_cSi d_X7_picture_8 q_X7_picture_162 ⟨rfl, rfl⟩ (ct_X7_isBin) rfl rfl rfl ⟨Nat.zero_le _, Nat.zero_le _⟩ ?_
    refine z_if_ne d_X7_picture_11 (fun h_11 => ?_) (fun h_11 => ?_)
    · refine z_iload_n d_X7_picture_16 rfl ?_
      refine z_if_lt d_X7_picture_17 (fun h_17 => ?_) (fun h_17 => ?_)
      · refine z_iconst d_X7_picture_46 ki_m1 ?_
        exact z_ireturn d_X7_picture_47 rfl ⟨by simp [picOk, *], rfl, by simp [picOk, *], by simp [picOk, *], rfl⟩
      · refine z_iload_n d_X7_picture_20 rfl ?_
        refine z_bipush d_X7_picture_21 kb_6 ?_
        refine z_iload_n d_X7_picture_23 rfl ?_
        refine z_cSi d_X7_picture_24 q_X7_picture_165 ⟨rfl, rfl⟩ (ct_X7_binsOf) rfl rfl rfl ⟨Nat.zero_le _, Nat.zero_le _⟩ ?_
        refine z_icmp_ge d_X7_picture_27 (fun h_27 => ?_) (fun h_27 => ?_)
        · refine z_iconst d_X7_picture_46 ki_m1 ?_
          exact z_ireturn d_X7_picture_47 rfl ⟨by simp [picOk, *], rfl, by simp [picOk, *], by simp [picOk, *], rfl⟩
        · refine z_iload d_X7_picture_30 rfl ?_
          refine z_if_lt d_X7_picture_32 (fun h_32 => ?_) (fun h_32 => ?_)
          · refine z_iconst d_X7_picture_46 ki_m1 ?_
            exact z_ireturn d_X7_picture_47 rfl ⟨by simp [picOk, *], rfl, by simp [picOk, *], by simp [picOk, *], rfl⟩
          · refine z_iload d_X7_picture_35 rfl ?_
            refine z_bipush d_X7_picture_37 kb_8 ?_
            refine z_iload_n d_X7_picture_39 rfl ?_
            refine z_cSi d_X7_picture_40 q_X7_picture_165 ⟨rfl, rfl⟩ (ct_X7_binsOf) rfl rfl rfl ⟨Nat.zero_le _, Nat.zero_le _⟩ ?_
            refine z_icmp_lt d_X7_picture_43 (fun h_43 => ?_) (fun h_43 => ?_)
            · have hok : picOk v h r c = true := by simp [picOk, b1 h_4, b1 h_11, h_17, h_27, h_32, h_43]
              have hvv := b1 h_4
              have hhh := b1 h_11
              obtain ⟨ev, v1, v3⟩ := inV_nat (n := 3) (by decide) hvv
              obtain ⟨eh, w1, w3⟩ := inV_nat (n := 3) (by decide) hhh
              rw [hok, if_pos rfl, if_pos rfl, if_pos rfl]
              generalize v.toNatClampNeg = vv at *
              generalize h.toNatClampNeg = hh at *
              subst ev
              subst eh
              rw [bin6 v1 v3] at h_27
              rw [bin8 w1 w3] at h_43
              have h6 := bin_6b v1 v3
              have h8 := bin_8b w1 w3
              obtain ⟨er, hr⟩ := lt_nat h_17 (Int32.not_le.mp h_27) (by omega)
              obtain ⟨ec, hc⟩ := lt_nat h_32 h_43 (by omega)
              generalize r.toNatClampNeg = rr at *
              generalize c.toNatClampNeg = cc at *
              subst er
              subst ec
              refine z_aload_n d_X7_picture_48 rfl ?_
              refine z_getR d_X7_picture_49 f_X7_50 (by first | rfl | assumption) (by omega) (by first | exact hR _ _ _ rfl | rfl | assumption) ?_
              refine z_aload_n d_X7_picture_52 rfl ?_
              refine z_getR d_X7_picture_53 f_X7_35 (by first | rfl | assumption) (by omega) (by first | exact hR _ _ _ rfl | rfl | assumption) ?_
              refine z_aload_n d_X7_picture_56 rfl ?_
              refine z_getR d_X7_picture_57 f_X7_19 (by first | rfl | assumption) (by omega) (by first | exact hR _ _ _ rfl | rfl | assumption) ?_
              refine z_iload_n d_X7_picture_60 rfl ?_
              refine z_iload_n d_X7_picture_61 rfl ?_
              refine z_iconst d_X7_picture_62 ki_1 ?_
              refine z_cVv d_X7_picture_63 q_X7_picture_169 (by first | rfl | assumption) (by omega) ⟨rfl, rfl⟩ (ct_X2_make (sp := true) h23 h16 h3 (by omega) (by omega) (by omega) v1 v3 w1 w3) rfl rfl rfl ⟨Nat.zero_le _, Nat.zero_le _⟩ ?_
              refine z_aload_n d_X7_picture_66 rfl ?_
              refine z_getR d_X7_picture_67 f_X7_50 (by first | rfl | assumption) (by omega) (by first | exact hR _ _ _ rfl | rfl | assumption) ?_
              refine z_getR d_X7_picture_70 f_X7_173 (by first | rfl | assumption) (by omega) (by first | exact hR _ _ _ rfl | rfl | assumption) ?_
              refine z_iload_n d_X7_picture_73 rfl ?_
              refine z_bipush d_X7_picture_74 kb_8 ?_
              refine z_imul d_X7_picture_76 ?_
              refine z_iload d_X7_picture_77 rfl ?_
              refine z_iadd d_X7_picture_79 ?_
              refine z_iaload d_X7_picture_80 (by first | rfl | assumption) (by omega) (zix_e (show nI rr * (8 : Int32) + nI cc = nI (rr * 8 + cc) from by rw [show nI rr * (8 : Int32) = nI (rr * 8) from pk_mul rr 8]; exact nI_add _ _) (by omega) (by decide)) ?_
              exact z_ireturn d_X7_picture_81 rfl ⟨by rw [show pI (pN I 23 vv hh) 23 (mkS I L 23 16 3 vv hh true) 29 = _ from pI_v _ 23 _], rfl, rfl, rfl, rfl⟩
            · refine z_iconst d_X7_picture_46 ki_m1 ?_
              exact z_ireturn d_X7_picture_47 rfl ⟨by simp [picOk, *], rfl, by simp [picOk, *], by simp [picOk, *], rfl⟩
    · have hw := b0 h_11
      refine z_iconst d_X7_picture_14 ki_m1 ?_
      exact z_ireturn d_X7_picture_15 rfl ⟨by simp [picOk, hw], rfl, by simp [picOk, hw], by simp [picOk, hw], rfl⟩
set_option maxRecDepth 100000 in
set_option maxHeartbeats 4000000 in
theorem ct_X7_shades {E : zE} {I : zI} {L : zL} {R : zR} {v h x : Int32} (hR : zLx R) : zCf E m_X7_shades zShF [.ref 0, .int v, .int h, .int x] I L R (some (.int (if (inV 1 3 v && inV 1 3 h && inV 0 3 x) = true then (if x = 0 then grV (pcV (mkS I L 23 16 3 v.toNatClampNeg h.toNatClampNeg true).1 ((8 + h.toNatClampNeg - 1) / h.toNatClampNeg)) (6 / v.toNatClampNeg * ((8 + h.toNatClampNeg - 1) / h.toNatClampNeg)) else if x = 1 then leV (pcV (mkS I L 23 16 3 v.toNatClampNeg h.toNatClampNeg true).1 ((8 + h.toNatClampNeg - 1) / h.toNatClampNeg)) (6 / v.toNatClampNeg * ((8 + h.toNatClampNeg - 1) / h.toNatClampNeg)) else if x = 2 then sumV (pcV (mkS I L 23 16 3 v.toNatClampNeg h.toNatClampNeg true).1 ((8 + h.toNatClampNeg - 1) / h.toNatClampNeg)) (6 / v.toNatClampNeg * ((8 + h.toNatClampNeg - 1) / h.toNatClampNeg)) else cntV (fun k => decide (pcV (mkS I L 23 16 3 v.toNatClampNeg h.toNatClampNeg true).1 ((8 + h.toNatClampNeg - 1) / h.toNatClampNeg) k = 255)) (6 / v.toNatClampNeg * ((8 + h.toNatClampNeg - 1) / h.toNatClampNeg))) else -1))) (if (inV 1 3 v && inV 1 3 h && inV 0 3 x) = true then pI (pN I 23 v.toNatClampNeg h.toNatClampNeg) 23 (mkS I L 23 16 3 v.toNatClampNeg h.toNatClampNeg true) else I) (if (inV 1 3 v && inV 1 3 h && inV 0 3 x) = true then qL L 24 (mkS I L 23 16 3 v.toNatClampNeg h.toNatClampNeg true).2 else L) (R) := by
  have h16 := lC_16 hR; have h3 := lP_3 hR; have h23 := lQ_23 hR
  refine z_met (by decide) [some (.ref 0), some (.int v), some (.int h), some (.int x)] rfl rfl (Nat.le_of_ble_eq_true rfl) (fun X => ?_)
  refine z_iload_n d_X7_shades_0 rfl ?_
  refine z_cSi d_X7_shades_1 q_X7_shades_162 ⟨rfl, rfl⟩ (ct_X7_isBin) rfl rfl rfl ⟨Nat.zero_le _, Nat.zero_le _⟩ ?_
  refine z_if_eq d_X7_shades_4 (fun h_4 => ?_) (fun h_4 => ?_)
  · have hw := b0 h_4
    refine z_iconst d_X7_shades_23 ki_m1 ?_
    exact z_ireturn d_X7_shades_24 rfl ⟨by simp [hw], rfl, by simp [hw], by simp [hw], rfl⟩
  · refine z_iload_n d_X7_shades_7 rfl ?_
    refine z_cSi d_X7_shades_8 q_X7_shades_162 ⟨rfl, rfl⟩ (ct_X7_isBin) rfl rfl rfl ⟨Nat.zero_le _, Nat.zero_le _⟩ ?_
    refine z_if_eq d_X7_shades_11 (fun h_11 => ?_) (fun h_11 => ?_)
    · have hw := b0 h_11
      refine z_iconst d_X7_shades_23 ki_m1 ?_
      exact z_ireturn d_X7_shades_24 rfl ⟨by simp [hw], rfl, by simp [hw], by simp [hw], rfl⟩
    · refine z_iload_n d_X7_shades_14 rfl ?_
      refine z_if_lt d_X7_shades_15 (fun h_15 => ?_) (fun h_15 => ?_)
      · refine z_iconst d_X7_shades_23 ki_m1 ?_
        exact z_ireturn d_X7_shades_24 rfl ⟨by simp [inV, Int32.not_le.mp, *], rfl, by simp [inV, Int32.not_le.mp, *], by simp [inV, Int32.not_le.mp, *], rfl⟩
      · refine z_iload_n d_X7_shades_18 rfl ?_
        refine z_iconst d_X7_shades_19 ki_3 ?_
        refine z_icmp_le d_X7_shades_20 (fun h_20 => ?_) (fun h_20 => ?_)
        · have hvv := b1 h_4
          have hhh := b1 h_11
          have hok : (inV 1 3 v && inV 1 3 h && inV 0 3 x) = true := by rw [hvv, hhh]; simp [inV, h_15, Int32.not_lt.mpr h_20]
          obtain ⟨ev, v1, v3⟩ := inV_nat (n := 3) (by decide) hvv
          obtain ⟨eh, w1, w3⟩ := inV_nat (n := 3) (by decide) hhh
          rw [hok, if_pos rfl, if_pos rfl, if_pos rfl]
          generalize v.toNatClampNeg = vv at *
          generalize h.toNatClampNeg = hh at *
          subst ev
          subst eh
          have h6 := bin_6b v1 v3
          have h8 := bin_8b w1 w3
          have c1 : 1 ≤ (8 + hh - 1) / hh := by rcases (show hh = 1 ∨ hh = 2 ∨ hh = 3 by omega) with rfl | rfl | rfl <;> decide
          refine z_aload_n d_X7_shades_25 rfl ?_
          refine z_getR d_X7_shades_26 f_X7_50 (by first | rfl | assumption) (by omega) (by first | exact hR _ _ _ rfl | rfl | assumption) ?_
          refine z_aload_n d_X7_shades_29 rfl ?_
          refine z_getR d_X7_shades_30 f_X7_35 (by first | rfl | assumption) (by omega) (by first | exact hR _ _ _ rfl | rfl | assumption) ?_
          refine z_aload_n d_X7_shades_33 rfl ?_
          refine z_getR d_X7_shades_34 f_X7_19 (by first | rfl | assumption) (by omega) (by first | exact hR _ _ _ rfl | rfl | assumption) ?_
          refine z_iload_n d_X7_shades_37 rfl ?_
          refine z_iload_n d_X7_shades_38 rfl ?_
          refine z_iconst d_X7_shades_39 ki_1 ?_
          refine z_cVv d_X7_shades_40 q_X7_shades_169 (by first | rfl | assumption) (by omega) ⟨rfl, rfl⟩ (ct_X2_make (sp := true) h23 h16 h3 (by omega) (by omega) (by omega) v1 v3 w1 w3) rfl rfl rfl ⟨Nat.zero_le _, Nat.zero_le _⟩ ?_
          have q2 : pI (pN I 23 vv hh) 23 (mkS I L 23 16 3 vv hh true) 23 2 = nI (6 / vv) := by rw [pI_ne (by omega)]; exact pN_2 I 23 vv hh
          have q3 : pI (pN I 23 vv hh) 23 (mkS I L 23 16 3 vv hh true) 23 3 = nI ((8 + hh - 1) / hh) := by rw [pI_ne (by omega)]; exact pN_3 I 23 vv hh
          have q6 : pI (pN I 23 vv hh) 23 (mkS I L 23 16 3 vv hh true) (23 + 6) = (mkS I L 23 16 3 vv hh true).1 := pI_v _ 23 _
          refine z_iload_n d_X7_shades_43 rfl ?_
          refine z_by (0) (fun e_44_0 => ?_) (fun e_44_0 => ?_)
          · refine z_tabIn (off := 28) (tgt := 72) d_X7_shades_44 (by rw [e_44_0]; decide) (by rw [e_44_0]; decide) (by rw [e_44_0]; rfl) (by decide) ?_
            refine z_aload_n d_X7_shades_72 rfl ?_
            refine z_getR d_X7_shades_73 f_X7_50 (by first | rfl | assumption) (by omega) (by first | exact hR _ _ _ rfl | rfl | assumption) ?_
            refine z_cVi d_X7_shades_76 q_X7_shades_176 (by first | rfl | assumption) (by omega) ⟨rfl, rfl⟩ (ct_X2_greatest (by assumption) (by assumption) (by assumption) (by assumption) (by assumption) (by assumption)) rfl rfl rfl ⟨Nat.zero_le _, Nat.zero_le _⟩ ?_
            exact z_ireturn d_X7_shades_79 rfl ⟨by rw [q6]; simp [*], rfl, rfl, rfl, rfl⟩
          refine z_by (1) (fun e_44_1 => ?_) (fun e_44_1 => ?_)
          · refine z_tabIn (off := 36) (tgt := 80) d_X7_shades_44 (by rw [e_44_1]; decide) (by rw [e_44_1]; decide) (by rw [e_44_1]; rfl) (by decide) ?_
            refine z_aload_n d_X7_shades_80 rfl ?_
            refine z_getR d_X7_shades_81 f_X7_50 (by first | rfl | assumption) (by omega) (by first | exact hR _ _ _ rfl | rfl | assumption) ?_
            refine z_cVi d_X7_shades_84 q_X7_shades_179 (by first | rfl | assumption) (by omega) ⟨rfl, rfl⟩ (ct_X2_least (by assumption) (by assumption) (by assumption) (by assumption) (by assumption) (by assumption)) rfl rfl rfl ⟨Nat.zero_le _, Nat.zero_le _⟩ ?_
            exact z_ireturn d_X7_shades_87 rfl ⟨by rw [q6]; simp [*], rfl, rfl, rfl, rfl⟩
          refine z_by (2) (fun e_44_2 => ?_) (fun e_44_2 => ?_)
          · refine z_tabIn (off := 44) (tgt := 88) d_X7_shades_44 (by rw [e_44_2]; decide) (by rw [e_44_2]; decide) (by rw [e_44_2]; rfl) (by decide) ?_
            refine z_aload_n d_X7_shades_88 rfl ?_
            refine z_getR d_X7_shades_89 f_X7_50 (by first | rfl | assumption) (by omega) (by first | exact hR _ _ _ rfl | rfl | assumption) ?_
            refine z_cVi d_X7_shades_92 q_X7_shades_182 (by first | rfl | assumption) (by omega) ⟨rfl, rfl⟩ (ct_X2_summed (by assumption) (by assumption) (by assumption) (by assumption) (by assumption) (by assumption)) rfl rfl rfl ⟨Nat.zero_le _, Nat.zero_le _⟩ ?_
            exact z_ireturn d_X7_shades_95 rfl ⟨by rw [q6]; simp [*], rfl, rfl, rfl, rfl⟩
          refine z_tabOut (tgt := 96) d_X7_shades_44 (by have n_0 := sw_ne e_44_0; have n_1 := sw_ne e_44_1; have n_2 := sw_ne e_44_2; replace n_0 : _ ≠ (0 : Int) := n_0; replace n_1 : _ ≠ (1 : Int) := n_1; replace n_2 : _ ≠ (2 : Int) := n_2; omega) (by decide) ?_
          refine z_aload_n d_X7_shades_96 rfl ?_
          refine z_getR d_X7_shades_97 f_X7_50 (by first | rfl | assumption) (by omega) (by first | exact hR _ _ _ rfl | rfl | assumption) ?_
          refine z_cVi d_X7_shades_100 q_X7_shades_185 (by first | rfl | assumption) (by omega) ⟨rfl, rfl⟩ (ct_X2_brightest (by assumption) (by assumption) (by assumption) (by assumption) (by assumption) (by assumption)) rfl rfl rfl ⟨Nat.zero_le _, Nat.zero_le _⟩ ?_
          exact z_ireturn d_X7_shades_103 rfl ⟨by rw [q6]; simp [*], rfl, rfl, rfl, rfl⟩
        · have hw : inV 0 3 x = false := by simp [inV, Int32.not_le.mp h_20]
          refine z_iconst d_X7_shades_23 ki_m1 ?_
          exact z_ireturn d_X7_shades_24 rfl ⟨by simp [hw], rfl, by simp [hw], by simp [hw], rfl⟩
set_option maxRecDepth 100000 in
set_option maxHeartbeats 4000000 in
theorem ct_X7_late {E : zE} {I : zI} {L : zL} {R : zR} {c : Int32} (hR : zLx R) : zCf E m_X7_late zShF [.ref 0, .int c] I L R (some (.int (if in0 8 c = true then qLn (hdQ (I 4 0) (I 4 2) (I 4 3) (I 6) true (mkS I L 23 16 3 1 1 true).2) c.toNatClampNeg else -1))) (if in0 8 c = true then pI (pN I 23 1 1) 23 ((mkS I L 23 16 3 1 1 true).1, hdQ (I 4 0) (I 4 2) (I 4 3) (I 6) true (mkS I L 23 16 3 1 1 true).2) else I) (if in0 8 c = true then qL L 24 (hdQ (I 4 0) (I 4 2) (I 4 3) (I 6) true (mkS I L 23 16 3 1 1 true).2) else L) (R) := by
  have h16 := lC_16 hR; have h3 := lP_3 hR; have h23 := lQ_23 hR; have h24 := lC_24 hR
  refine z_met (by decide) [some (.ref 0), some (.int c)] rfl rfl (Nat.le_of_ble_eq_true rfl) (fun X => ?_)
  refine z_iload_n d_X7_late_0 rfl ?_
  refine z_cSi d_X7_late_1 q_X7_late_141 ⟨rfl, rfl⟩ (ct_X7_isColumn) rfl rfl rfl ⟨Nat.zero_le _, Nat.zero_le _⟩ ?_
  refine z_if_ne d_X7_late_4 (fun h_4 => ?_) (fun h_4 => ?_)
  · have hw := b1 h_4
    have hix := in0_ix (n := 8) hw (by decide)
    rw [hw, if_pos rfl, if_pos rfl, if_pos rfl]
    refine z_aload_n d_X7_late_9 rfl ?_
    refine z_getR d_X7_late_10 f_X7_50 (by first | rfl | assumption) (by omega) (by first | exact hR _ _ _ rfl | rfl | assumption) ?_
    refine z_aload_n d_X7_late_13 rfl ?_
    refine z_getR d_X7_late_14 f_X7_35 (by first | rfl | assumption) (by omega) (by first | exact hR _ _ _ rfl | rfl | assumption) ?_
    refine z_aload_n d_X7_late_17 rfl ?_
    refine z_getR d_X7_late_18 f_X7_19 (by first | rfl | assumption) (by omega) (by first | exact hR _ _ _ rfl | rfl | assumption) ?_
    refine z_iconst d_X7_late_21 ki_1 ?_
    refine z_iconst d_X7_late_22 ki_1 ?_
    refine z_iconst d_X7_late_23 ki_1 ?_
    refine z_cVv d_X7_late_24 q_X7_late_169 (by first | rfl | assumption) (by omega) ⟨rfl, rfl⟩ (ct_X2_make (v := 1) (h := 1) (sp := true) h23 h16 h3 (by omega) (by omega) (by omega) (by decide) (by decide) (by decide) (by decide)) rfl rfl rfl ⟨Nat.zero_le _, Nat.zero_le _⟩ ?_
    refine z_aload_n d_X7_late_27 rfl ?_
    refine z_getR d_X7_late_28 f_X7_50 (by first | rfl | assumption) (by omega) (by first | exact hR _ _ _ rfl | rfl | assumption) ?_
    refine z_getR d_X7_late_31 f_X7_188 (by first | rfl | assumption) (by omega) (by first | exact hR _ _ _ rfl | rfl | assumption) ?_
    refine z_aload_n d_X7_late_34 rfl ?_
    refine z_getR d_X7_late_35 f_X7_19 (by first | rfl | assumption) (by omega) (by first | exact hR _ _ _ rfl | rfl | assumption) ?_
    refine z_iconst d_X7_late_38 ki_1 ?_
    refine z_cVv d_X7_late_39 q_X7_late_127 (by first | rfl | assumption) (by omega) ⟨rfl, rfl⟩ (ct_X0_handDown (sp := true) h24 h3 (by omega)) rfl rfl rfl ⟨Nat.zero_le _, Nat.zero_le _⟩ ?_
    have e1 : pI (pN I 23 1 1) 23 (mkS I L 23 16 3 1 1 true) (3 + 1) = I 4 := by rw [pI_ne (by omega), pN_ne (by omega)]
    have e3 : pI (pN I 23 1 1) 23 (mkS I L 23 16 3 1 1 true) (3 + 3) = I 6 := by rw [pI_ne (by omega), pN_ne (by omega)]
    have eq := pI_of (pN I 23 1 1) L 23 (mkS I L 23 16 3 1 1 true)
    have e4 := pI_qI (pN I 23 1 1) 23 (mkS I L 23 16 3 1 1 true)
    rw [e1, e3, show qOf (pI (pN I 23 1 1) 23 (mkS I L 23 16 3 1 1 true)) (qL L (23 + 1) (mkS I L 23 16 3 1 1 true).2) 24 = _ from eq]
    refine z_mem (e4 _) (qL_qL L 24 _ _) rfl ?_
    refine z_aload_n d_X7_late_42 rfl ?_
    refine z_getR d_X7_late_43 f_X7_50 (by first | rfl | assumption) (by omega) (by first | exact hR _ _ _ rfl | rfl | assumption) ?_
    refine z_getR d_X7_late_46 f_X7_188 (by first | rfl | assumption) (by omega) (by first | exact hR _ _ _ rfl | rfl | assumption) ?_
    refine z_getR d_X7_late_49 f_X7_131 (by first | rfl | assumption) (by omega) (by first | exact hR _ _ _ rfl | rfl | assumption) ?_
    refine z_iload_n d_X7_late_52 rfl ?_
    refine z_iaload d_X7_late_53 (by first | rfl | assumption) (by omega) (by first | exact zix_nI (by assumption) (by first | decide | assumption) | exact zix_nI (by omega) (by first | decide | assumption) | assumption) ?_
    exact z_ireturn d_X7_late_54 rfl ⟨by rw [pI_q _ _ _ _ (by decide)]; exact congrArg (fun f => some (Value.int (f c.toNatClampNeg))) (qI_4 (pN I 23 1 1) 24 _), rfl, rfl, rfl, rfl⟩
  · have hw := b0 h_4
    refine z_iconst d_X7_late_7 ki_m1 ?_
    exact z_ireturn d_X7_late_8 rfl ⟨by rw [hw]; rfl, rfl, by rw [hw]; rfl, by rw [hw]; rfl, rfl⟩
set_option maxRecDepth 100000 in
set_option maxHeartbeats 4000000 in
theorem ct_X7_comesInTick {E : zE} {I : zI} {L : zL} {R : zR} {w : Int32} {j : Nat} (hR : zLx R) (hw : zix w 48 j) : zCf E m_X7_comesInTick zShF [.ref 0, .int w] I L R (some (.int (cmV I j))) (I) (L) (R) := by
  refine z_met (by decide) [some (.ref 0), some (.int w)] rfl rfl (Nat.le_of_ble_eq_true rfl) (fun X => ?_)
  refine z_aload_n d_X7_comesInTick_0 rfl ?_
  refine z_getR d_X7_comesInTick_1 f_X7_35 (by first | rfl | assumption) (by omega) (by first | exact hR _ _ _ rfl | rfl | assumption) ?_
  refine z_getR d_X7_comesInTick_4 f_X7_100 (by first | rfl | assumption) (by omega) (by first | exact hR _ _ _ rfl | rfl | assumption) ?_
  refine z_iload_n d_X7_comesInTick_7 rfl ?_
  refine z_iaload d_X7_comesInTick_8 (by first | rfl | assumption) (by omega) (by first | exact zix_nI (by assumption) (by first | decide | assumption) | exact zix_nI (by omega) (by first | decide | assumption) | assumption) ?_
  refine z_aload_n d_X7_comesInTick_9 rfl ?_
  refine z_getR d_X7_comesInTick_10 f_X7_19 (by first | rfl | assumption) (by omega) (by first | exact hR _ _ _ rfl | rfl | assumption) ?_
  refine z_getR d_X7_comesInTick_13 f_X7_103 (by first | rfl | assumption) (by omega) (by first | exact hR _ _ _ rfl | rfl | assumption) ?_
  refine z_iload_n d_X7_comesInTick_16 rfl ?_
  refine z_iaload d_X7_comesInTick_17 (by first | rfl | assumption) (by omega) (by first | exact zix_nI (by assumption) (by first | decide | assumption) | exact zix_nI (by omega) (by first | decide | assumption) | assumption) ?_
  refine z_iadd d_X7_comesInTick_18 ?_
  refine z_aload_n d_X7_comesInTick_19 rfl ?_
  refine z_getR d_X7_comesInTick_20 f_X7_19 (by first | rfl | assumption) (by omega) (by first | exact hR _ _ _ rfl | rfl | assumption) ?_
  refine z_getR d_X7_comesInTick_23 f_X7_89 (by first | rfl | assumption) (by omega) (by first | exact hR _ _ _ rfl | rfl | assumption) ?_
  refine z_iconst d_X7_comesInTick_26 ki_1 ?_
  refine z_iaload d_X7_comesInTick_27 (by first | rfl | assumption) (by omega) (zix_lit 1 (by decide)) ?_
  refine z_iadd d_X7_comesInTick_28 ?_
  exact z_ireturn d_X7_comesInTick_29 rfl ⟨rfl, rfl, rfl, rfl, rfl⟩
set_option maxRecDepth 100000 in
set_option maxHeartbeats 4000000 in
theorem ct_X7_full {E : zE} {I : zI} {L : zL} {R : zR} {w : Int32} (hR : zLx R) : zCf E m_X7_full zShF [.ref 0, .int w] I L R (some (.int (if isW w = true then (if 1 ≤ cmV I w.toNatClampNeg then binV (I 4 0) (cmV I w.toNatClampNeg) else -4) else -1))) (I) (L) (R) := by
  refine z_met (by decide) [some (.ref 0), some (.int w), none] rfl rfl (Nat.le_of_ble_eq_true rfl) (fun X => ?_)
  refine z_iload_n d_X7_full_0 rfl ?_
  refine z_cSi d_X7_full_1 q_X7_full_93 ⟨rfl, rfl⟩ (ct_X7_isWell) rfl rfl rfl ⟨Nat.zero_le _, Nat.zero_le _⟩ ?_
  refine z_if_ne d_X7_full_4 (fun h_4 => ?_) (fun h_4 => ?_)
  · have hw := b1 h_4; have hix := isW_ix hw
    refine z_aload_n d_X7_full_9 rfl ?_
    refine z_iload_n d_X7_full_10 rfl ?_
    refine z_cVi d_X7_full_11 q_X7_full_200 (by first | rfl | assumption) (by omega) ⟨rfl, rfl⟩ (ct_X7_comesInTick hR (by first | assumption | exact zix_nI (by assumption) (by decide))) rfl rfl rfl ⟨Nat.zero_le _, Nat.zero_le _⟩ ?_
    refine z_istore2 d_X7_full_14 rfl ?_
    refine z_iload_n d_X7_full_15 rfl ?_
    refine z_iconst d_X7_full_16 ki_1 ?_
    refine z_icmp_ge d_X7_full_17 (fun h_17 => ?_) (fun h_17 => ?_)
    · refine z_aload_n d_X7_full_25 rfl ?_
      refine z_getR d_X7_full_26 f_X7_19 (by first | rfl | assumption) (by omega) (by first | exact hR _ _ _ rfl | rfl | assumption) ?_
      refine z_getR d_X7_full_29 f_X7_89 (by first | rfl | assumption) (by omega) (by first | exact hR _ _ _ rfl | rfl | assumption) ?_
      refine z_iconst d_X7_full_32 ki_0 ?_
      refine z_iaload d_X7_full_33 (by first | rfl | assumption) (by omega) (zix_lit 0 (by decide)) ?_
      refine z_iload_n d_X7_full_34 rfl ?_
      refine z_cSi d_X7_full_35 q_X7_full_165 ⟨rfl, rfl⟩ (ct_X7_binsOf) rfl rfl rfl ⟨Nat.zero_le _, Nat.zero_le _⟩ ?_
      exact z_ireturn d_X7_full_38 rfl ⟨by rw [if_pos hw]; simp [*], rfl, rfl, rfl, rfl⟩
    · refine z_bipush d_X7_full_20 kb_m4 ?_
      refine z_goto d_X7_full_22 ?_
      exact z_ireturn d_X7_full_38 rfl ⟨by rw [if_pos hw]; simp [*], rfl, rfl, rfl, rfl⟩
  · have hw := b0 h_4
    refine z_iconst d_X7_full_7 ki_m1 ?_
    exact z_ireturn d_X7_full_8 rfl ⟨by rw [hw]; rfl, rfl, rfl, rfl, rfl⟩
set_option maxRecDepth 100000 in
set_option maxHeartbeats 4000000 in
theorem ct_X7_longest {E : zE} {I : zI} {L : zL} {R : zR} (hR : zLx R) : zCf E m_X7_longest zShF [.ref 0] I L R (some (.int (lonV (I 4 0) (grV (cmV I) 48)))) (I) (L) (R) := by
  refine z_met (by decide) [some (.ref 0), none, none] rfl rfl (Nat.le_of_ble_eq_true rfl) (fun X => ?_)
  refine z_iconst d_X7_longest_0 ki_0 ?_
  refine z_istore1 d_X7_longest_1 rfl ?_
  refine z_iconst d_X7_longest_2 ki_0 ?_
  refine z_istore2 d_X7_longest_3 rfl ?_
  have loop : ∀ (Qs : State → Prop), (zZ E m_X7_longest X Qs zShF 0 0 26 [some (.ref 0), some (.int (grV (cmV I) 48)), some (.int (nI 48))] [] I L R) → ∀ i, i ≤ 48 → zZ E m_X7_longest X Qs zShF 0 0 4 [some (.ref 0), some (.int (grV (cmV I) i)), some (.int (nI i))] [] I L R := by
    intro Qs hx
    refine up_rec (fun i hi ih => ?_)
    refine z_iload_n d_X7_longest_4 rfl ?_
    refine z_bipush d_X7_longest_5 kb_48 ?_
    refine z_icmp_ge d_X7_longest_7 (fun h_7 => ?_) (fun h_7 => ?_)
    · obtain rfl := eq_of_ge (n := 48) (by decide) hi h_7
      exact hx
    · have hlt := lt_of_nge (n := 48) (by decide) h_7 (by omega)
      refine z_iload_n d_X7_longest_10 rfl ?_
      refine z_aload_n d_X7_longest_11 rfl ?_
      refine z_iload_n d_X7_longest_12 rfl ?_
      refine z_cVi d_X7_longest_13 q_X7_longest_200 (by first | rfl | assumption) (by omega) ⟨rfl, rfl⟩ (ct_X7_comesInTick hR (by first | assumption | exact zix_nI (by assumption) (by decide))) rfl rfl rfl ⟨Nat.zero_le _, Nat.zero_le _⟩ ?_
      refine z_mmax d_X7_longest_16 q_X7_longest_197 (by decide) (Nat.le_of_ble_eq_true rfl) ⟨Nat.zero_le _, Nat.zero_le _⟩ ?_
      refine z_istore1 d_X7_longest_19 rfl ?_
      refine z_iinc2 d_X7_longest_20 ki_1 rfl ?_
      refine z_goto d_X7_longest_23 ?_
      rw [nI_1]
      exact ih hlt
  refine loop _ ?_ 0 (Nat.zero_le 48)
  generalize grV (cmV I) 48 = most
  refine z_iload_n d_X7_longest_26 rfl ?_
  refine z_iconst d_X7_longest_27 ki_1 ?_
  refine z_icmp_ge d_X7_longest_28 (fun h_28 => ?_) (fun h_28 => ?_)
  · refine z_sipush d_X7_longest_37 ks_999 ?_
    refine z_aload_n d_X7_longest_40 rfl ?_
    refine z_getR d_X7_longest_41 f_X7_19 (by first | rfl | assumption) (by omega) (by first | exact hR _ _ _ rfl | rfl | assumption) ?_
    refine z_getR d_X7_longest_44 f_X7_89 (by first | rfl | assumption) (by omega) (by first | exact hR _ _ _ rfl | rfl | assumption) ?_
    refine z_iconst d_X7_longest_47 ki_0 ?_
    refine z_iaload d_X7_longest_48 (by first | rfl | assumption) (by omega) (zix_lit 0 (by decide)) ?_
    refine z_iload_n d_X7_longest_49 rfl ?_
    refine z_idiv d_X7_longest_50 (by intro q; subst q; exact absurd h_28 (by decide)) ?_
    refine z_mmin d_X7_longest_51 q_X7_longest_203 (by decide) (Nat.le_of_ble_eq_true rfl) ⟨Nat.zero_le _, Nat.zero_le _⟩ ?_
    exact z_ireturn d_X7_longest_54 rfl ⟨by simp only [lonV, h_28, if_true, if_false]; try rfl, rfl, rfl, rfl, rfl⟩
  · refine z_sipush d_X7_longest_31 ks_999 ?_
    refine z_goto d_X7_longest_34 ?_
    exact z_ireturn d_X7_longest_54 rfl ⟨by simp only [lonV, h_28, if_true, if_false]; try rfl, rfl, rfl, rfl, rfl⟩
set_option maxRecDepth 100000 in
set_option maxHeartbeats 4000000 in
theorem ct_X7_enough {E : zE} {I : zI} {L : zL} {R : zR} {n : Int32} (hR : zLx R) : zCf E m_X7_enough zShF [.ref 0, .int n] I L R (some (.int (if inV 1 999 n = true then (if lonV (I 4 0) (grV (cmV I) 48) < ndV (I 17) (cmV I) n 48 then -4 else ndV (I 17) (cmV I) n 48) else -1))) (I) (L) (R) := by
  refine z_met (by decide) [some (.ref 0), some (.int n), none, none] rfl rfl (Nat.le_of_ble_eq_true rfl) (fun X => ?_)
  refine z_iload_n d_X7_enough_0 rfl ?_
  refine z_iconst d_X7_enough_1 ki_1 ?_
  refine z_icmp_lt d_X7_enough_2 (fun h_2 => ?_) (fun h_2 => ?_)
  · refine z_iconst d_X7_enough_12 ki_m1 ?_
    exact z_ireturn d_X7_enough_13 rfl ⟨by simp [inV, *], rfl, rfl, rfl, rfl⟩
  · refine z_iload_n d_X7_enough_5 rfl ?_
    refine z_sipush d_X7_enough_6 ks_999 ?_
    refine z_icmp_le d_X7_enough_9 (fun h_9 => ?_) (fun h_9 => ?_)
    · have hok : inV 1 999 n = true := by simp [inV, h_2, Int32.not_lt.mpr h_9]
      rw [if_pos hok]
      refine z_iconst d_X7_enough_14 ki_1 ?_
      refine z_istore2 d_X7_enough_15 rfl ?_
      refine z_iconst d_X7_enough_16 ki_0 ?_
      refine z_istore3 d_X7_enough_17 rfl ?_
      have loop : ∀ (Qs : State → Prop), (zZ E m_X7_enough X Qs zShF 0 0 56 [some (.ref 0), some (.int n), some (.int (ndV (I 17) (cmV I) n 48)), some (.int (nI 48))] [] I L R) → ∀ i, i ≤ 48 → zZ E m_X7_enough X Qs zShF 0 0 18 [some (.ref 0), some (.int n), some (.int (ndV (I 17) (cmV I) n i)), some (.int (nI i))] [] I L R := by
        intro Qs hx
        refine up_rec (fun i hi ih => ?_)
        refine z_iload_n d_X7_enough_18 rfl ?_
        refine z_bipush d_X7_enough_19 kb_48 ?_
        refine z_icmp_ge d_X7_enough_21 (fun h_21 => ?_) (fun h_21 => ?_)
        · obtain rfl := eq_of_ge (n := 48) (by decide) hi h_21
          exact hx
        · have hlt := lt_of_nge (n := 48) (by decide) h_21 (by omega)
          refine z_aload_n d_X7_enough_24 rfl ?_
          refine z_getR d_X7_enough_25 f_X7_35 (by first | rfl | assumption) (by omega) (by first | exact hR _ _ _ rfl | rfl | assumption) ?_
          refine z_getR d_X7_enough_28 f_X7_100 (by first | rfl | assumption) (by omega) (by first | exact hR _ _ _ rfl | rfl | assumption) ?_
          refine z_iload_n d_X7_enough_31 rfl ?_
          refine z_iaload d_X7_enough_32 (by first | rfl | assumption) (by omega) (by first | exact zix_nI (by assumption) (by first | decide | assumption) | exact zix_nI (by omega) (by first | decide | assumption) | assumption) ?_
          refine z_if_le d_X7_enough_33 (fun h_33 => ?_) (fun h_33 => ?_)
          · refine z_iinc3 d_X7_enough_50 ki_1 rfl ?_
            refine z_goto d_X7_enough_53 ?_
            rw [nI_1]
            have h := ih hlt
            rw [ndV] at h
            first
              | (rw [if_pos h_33] at h; exact h)
              | (rw [if_neg h_33] at h; exact h)
          · refine z_iload_n d_X7_enough_36 rfl ?_
            refine z_iload_n d_X7_enough_37 rfl ?_
            refine z_aload_n d_X7_enough_38 rfl ?_
            refine z_iload_n d_X7_enough_39 rfl ?_
            refine z_cVi d_X7_enough_40 q_X7_enough_200 (by first | rfl | assumption) (by omega) ⟨rfl, rfl⟩ (ct_X7_comesInTick hR (by first | assumption | exact zix_nI (by assumption) (by decide))) rfl rfl rfl ⟨Nat.zero_le _, Nat.zero_le _⟩ ?_
            refine z_cSi d_X7_enough_43 q_X7_enough_165 ⟨rfl, rfl⟩ (ct_X7_binsOf) rfl rfl rfl ⟨Nat.zero_le _, Nat.zero_le _⟩ ?_
            refine z_mmax d_X7_enough_46 q_X7_enough_197 (by decide) (Nat.le_of_ble_eq_true rfl) ⟨Nat.zero_le _, Nat.zero_le _⟩ ?_
            refine z_istore2 d_X7_enough_49 rfl ?_
            refine z_iinc3 d_X7_enough_50 ki_1 rfl ?_
            refine z_goto d_X7_enough_53 ?_
            rw [nI_1]
            have h := ih hlt
            rw [ndV] at h
            first
              | (rw [if_pos h_33] at h; exact h)
              | (rw [if_neg h_33] at h; exact h)
      refine loop _ ?_ 0 (Nat.zero_le 48)
      generalize ndV (I 17) (cmV I) n 48 = nd
      refine z_iload_n d_X7_enough_56 rfl ?_
      refine z_aload_n d_X7_enough_57 rfl ?_
      refine z_cVi d_X7_enough_58 q_X7_enough_206 (by first | rfl | assumption) (by omega) ⟨rfl, rfl⟩ (ct_X7_longest hR) rfl rfl rfl ⟨Nat.zero_le _, Nat.zero_le _⟩ ?_
      refine z_icmp_gt d_X7_enough_61 (fun h_61 => ?_) (fun h_61 => ?_)
      · refine z_bipush d_X7_enough_68 kb_m4 ?_
        exact z_ireturn d_X7_enough_70 rfl ⟨by simp [h_61], rfl, rfl, rfl, rfl⟩
      · refine z_iload_n d_X7_enough_64 rfl ?_
        refine z_goto d_X7_enough_65 ?_
        exact z_ireturn d_X7_enough_70 rfl ⟨by simp [h_61], rfl, rfl, rfl, rfl⟩
    · refine z_iconst d_X7_enough_12 ki_m1 ?_
      exact z_ireturn d_X7_enough_13 rfl ⟨by simp [inV, Int32.not_le.mp h_9], rfl, rfl, rfl, rfl⟩
set_option maxRecDepth 100000 in
set_option maxHeartbeats 4000000 in
theorem ct_X7_hots {E : zE} {I : zI} {L : zL} {R : zR} {t n : Int32} (hR : zLx R) : zCf E m_X7_hots zShF [.ref 0, .int t, .int n] I L R (some (.long (if (inV 1 999 t && inV 1 9999 n) = true then htV (fun w => (I 5 w + I 4 1) * t) n 48 else -1))) (I) (L) (R) := by
  refine z_met (by decide) [some (.ref 0), some (.int t), some (.int n), none, none, none] rfl rfl (Nat.le_of_ble_eq_true rfl) (fun X => ?_)
  refine z_iload_n d_X7_hots_0 rfl ?_
  refine z_cSi d_X7_hots_1 q_X7_hots_116 ⟨rfl, rfl⟩ (ct_X7_isTicks) rfl rfl rfl ⟨Nat.zero_le _, Nat.zero_le _⟩ ?_
  refine z_if_eq d_X7_hots_4 (fun h_4 => ?_) (fun h_4 => ?_)
  · have hw := b0 h_4
    refine z_ldc2 d_X7_hots_19 l_X7_157 ?_
    exact z_lreturn d_X7_hots_22 rfl ⟨by simp [hw], rfl, rfl, rfl, rfl⟩
  · refine z_iload_n d_X7_hots_7 rfl ?_
    refine z_iconst d_X7_hots_8 ki_1 ?_
    refine z_icmp_lt d_X7_hots_9 (fun h_9 => ?_) (fun h_9 => ?_)
    · refine z_ldc2 d_X7_hots_19 l_X7_157 ?_
      exact z_lreturn d_X7_hots_22 rfl ⟨by simp [inV, *], rfl, rfl, rfl, rfl⟩
    · refine z_iload_n d_X7_hots_12 rfl ?_
      refine z_sipush d_X7_hots_13 ks_9999 ?_
      refine z_icmp_le d_X7_hots_16 (fun h_16 => ?_) (fun h_16 => ?_)
      · have hok : (inV 1 999 t && inV 1 9999 n) = true := by rw [b1 h_4]; simp [inV, h_9, Int32.not_lt.mpr h_16]
        rw [if_pos hok]
        refine z_lconst (v := 0) d_X7_hots_23 (by decide) ?_
        refine z_lstore3 d_X7_hots_24 rfl ?_
        refine z_iconst d_X7_hots_25 ki_0 ?_
        refine z_istore5 d_X7_hots_26 rfl ?_
        have loop : ∀ (Qs : State → Prop), (zZ E m_X7_hots X Qs zShF 0 0 74 [some (.ref 0), some (.int t), some (.int n), some (.long (htV (fun w => (I 5 w + I 4 1) * t) n 48)), none, some (.int (nI 48))] [] I L R) → ∀ i, i ≤ 48 → zZ E m_X7_hots X Qs zShF 0 0 28 [some (.ref 0), some (.int t), some (.int n), some (.long (htV (fun w => (I 5 w + I 4 1) * t) n i)), none, some (.int (nI i))] [] I L R := by
          intro Qs hx
          refine up_rec (fun i hi ih => ?_)
          refine z_iload d_X7_hots_28 rfl ?_
          refine z_bipush d_X7_hots_30 kb_48 ?_
          refine z_icmp_ge d_X7_hots_32 (fun h_32 => ?_) (fun h_32 => ?_)
          · obtain rfl := eq_of_ge (n := 48) (by decide) hi h_32
            exact hx
          · have hlt := lt_of_nge (n := 48) (by decide) h_32 (by omega)
            refine z_aload_n d_X7_hots_35 rfl ?_
            refine z_getR d_X7_hots_36 f_X7_19 (by first | rfl | assumption) (by omega) (by first | exact hR _ _ _ rfl | rfl | assumption) ?_
            refine z_getR d_X7_hots_39 f_X7_103 (by first | rfl | assumption) (by omega) (by first | exact hR _ _ _ rfl | rfl | assumption) ?_
            refine z_iload d_X7_hots_42 rfl ?_
            refine z_iaload d_X7_hots_44 (by first | rfl | assumption) (by omega) (by first | exact zix_nI (by assumption) (by first | decide | assumption) | exact zix_nI (by omega) (by first | decide | assumption) | assumption) ?_
            refine z_aload_n d_X7_hots_45 rfl ?_
            refine z_getR d_X7_hots_46 f_X7_19 (by first | rfl | assumption) (by omega) (by first | exact hR _ _ _ rfl | rfl | assumption) ?_
            refine z_getR d_X7_hots_49 f_X7_89 (by first | rfl | assumption) (by omega) (by first | exact hR _ _ _ rfl | rfl | assumption) ?_
            refine z_iconst d_X7_hots_52 ki_1 ?_
            refine z_iaload d_X7_hots_53 (by first | rfl | assumption) (by omega) (zix_lit 1 (by decide)) ?_
            refine z_iadd d_X7_hots_54 ?_
            refine z_iload_n d_X7_hots_55 rfl ?_
            refine z_imul d_X7_hots_56 ?_
            refine z_iload_n d_X7_hots_57 rfl ?_
            refine z_icmp_lt d_X7_hots_58 (fun h_58 => ?_) (fun h_58 => ?_)
            · refine z_iinc5 d_X7_hots_68 ki_1 rfl ?_
              refine z_goto d_X7_hots_71 ?_
              rw [nI_1]
              have h := ih hlt
              rw [htV] at h
              first
                | (rw [if_pos h_58] at h; exact h)
                | (rw [if_neg h_58] at h; exact h)
            · refine z_lload_n d_X7_hots_61 rfl ?_
              refine z_lconst (v := 1) d_X7_hots_62 (by decide) ?_
              refine z_iload d_X7_hots_63 rfl ?_
              refine z_lshl d_X7_hots_65 ?_
              refine z_lor d_X7_hots_66 ?_
              refine z_lstore3 d_X7_hots_67 rfl ?_
              refine z_iinc5 d_X7_hots_68 ki_1 rfl ?_
              refine z_goto d_X7_hots_71 ?_
              rw [nI_1]
              have h := ih hlt
              rw [htV] at h
              first
                | (rw [if_pos h_58] at h; exact h)
                | (rw [if_neg h_58] at h; exact h)
        refine loop _ ?_ 0 (Nat.zero_le 48)
        refine z_lload_n d_X7_hots_74 rfl ?_
        exact z_lreturn d_X7_hots_75 rfl ⟨rfl, rfl, rfl, rfl, rfl⟩
      · refine z_ldc2 d_X7_hots_19 l_X7_157 ?_
        exact z_lreturn d_X7_hots_22 rfl ⟨by simp [inV, Int32.not_le.mp h_16], rfl, rfl, rfl, rfl⟩
set_option maxRecDepth 100000 in
set_option maxHeartbeats 4000000 in
theorem ct_X7_mended {E : zE} {I : zI} {L : zL} {R : zR} {w : Int32} (hR : zLx R) : zCf E m_X7_mended zShF [.ref 0, .int w] I L R (some (.int (if isW w = true then (if (mdV (I 18) (I 5) w (w - w / 8 * 8) 4).2 = 0 then -4 else (mdV (I 18) (I 5) w (w - w / 8 * 8) 4).1 / (mdV (I 18) (I 5) w (w - w / 8 * 8) 4).2) else -1))) (I) (L) (R) := by
  refine z_met (by decide) [some (.ref 0), some (.int w), none, none, none, none, none] rfl rfl (Nat.le_of_ble_eq_true rfl) (fun X => ?_)
  refine z_iload_n d_X7_mended_0 rfl ?_
  refine z_cSi d_X7_mended_1 q_X7_mended_93 ⟨rfl, rfl⟩ (ct_X7_isWell) rfl rfl rfl ⟨Nat.zero_le _, Nat.zero_le _⟩ ?_
  refine z_if_ne d_X7_mended_4 (fun h_4 => ?_) (fun h_4 => ?_)
  · have hw := b1 h_4
    rw [if_pos hw]
    refine z_iload_n d_X7_mended_9 rfl ?_
    refine z_bipush d_X7_mended_10 kb_8 ?_
    refine z_irem d_X7_mended_12 (by first | assumption | decide) ?_
    generalize w - w / 8 * 8 = col
    refine z_istore2 d_X7_mended_13 rfl ?_
    refine z_iconst d_X7_mended_14 ki_0 ?_
    refine z_istore3 d_X7_mended_15 rfl ?_
    refine z_iconst d_X7_mended_16 ki_0 ?_
    refine z_istore4 d_X7_mended_17 rfl ?_
    refine z_iconst d_X7_mended_19 ki_0 ?_
    refine z_istore5 d_X7_mended_20 rfl ?_
    have loop : ∀ (Qs : State → Prop), (∀ o : Option Value, zZ E m_X7_mended X Qs zShF 0 0 80 [some (.ref 0), some (.int w), some (.int col), some (.int (mdV (I 18) (I 5) w col 4).1), some (.int (mdV (I 18) (I 5) w col 4).2), some (.int (nI 4)), o] [] I L R) → ∀ i, i ≤ 4 → ∀ o : Option Value, zZ E m_X7_mended X Qs zShF 0 0 22 [some (.ref 0), some (.int w), some (.int col), some (.int (mdV (I 18) (I 5) w col i).1), some (.int (mdV (I 18) (I 5) w col i).2), some (.int (nI i)), o] [] I L R := by
      intro Qs hx
      refine up_rec (fun i hi ih o => ?_)
      refine z_iload d_X7_mended_22 rfl ?_
      refine z_iconst d_X7_mended_24 ki_4 ?_
      refine z_icmp_ge d_X7_mended_25 (fun h_25 => ?_) (fun h_25 => ?_)
      · obtain rfl := eq_of_ge (n := 4) (by decide) hi h_25
        exact hx o
      · have hlt := lt_of_nge (n := 4) (by decide) h_25 (by omega)
        refine z_iload_n d_X7_mended_28 rfl ?_
        refine z_iload_n d_X7_mended_29 rfl ?_
        refine z_iload d_X7_mended_30 rfl ?_
        refine z_cSi d_X7_mended_32 q_X7_mended_209 ⟨rfl, rfl⟩ (ct_X7_besideOf) rfl rfl rfl ⟨Nat.zero_le _, Nat.zero_le _⟩ ?_
        refine z_istore6 d_X7_mended_35 rfl ?_
        refine z_iload d_X7_mended_37 rfl ?_
        refine z_cSi d_X7_mended_39 q_X7_mended_93 ⟨rfl, rfl⟩ (ct_X7_isWell) rfl rfl rfl ⟨Nat.zero_le _, Nat.zero_le _⟩ ?_
        refine z_if_eq d_X7_mended_42 (fun h_42 => ?_) (fun h_42 => ?_)
        · refine z_iinc5 d_X7_mended_74 ki_1 rfl ?_
          refine z_goto d_X7_mended_77 ?_
          rw [nI_1]
          have h := ih hlt (some (.int (besV w col (nI i))))
          rw [mdV] at h
          first
            | (rw [if_neg (fun q => by rw [b0 h_42] at q; exact absurd q.1 (by decide))] at h; exact h)
            | (rw [if_neg (fun q => h_55 q.2)] at h; exact h)
            | (rw [if_pos ⟨b1 h_42, h_55⟩] at h; exact h)
        · have hix := isW_ix (b1 h_42)
          refine z_aload_n d_X7_mended_45 rfl ?_
          refine z_getR d_X7_mended_46 f_X7_19 (by first | rfl | assumption) (by omega) (by first | exact hR _ _ _ rfl | rfl | assumption) ?_
          refine z_getR d_X7_mended_49 f_X7_103 (by first | rfl | assumption) (by omega) (by first | exact hR _ _ _ rfl | rfl | assumption) ?_
          refine z_iload d_X7_mended_52 rfl ?_
          refine z_iaload d_X7_mended_54 (by first | rfl | assumption) (by omega) (by first | exact zix_nI (by assumption) (by first | decide | assumption) | exact zix_nI (by omega) (by first | decide | assumption) | assumption) ?_
          refine z_if_ne d_X7_mended_55 (fun h_55 => ?_) (fun h_55 => ?_)
          · refine z_iinc5 d_X7_mended_74 ki_1 rfl ?_
            refine z_goto d_X7_mended_77 ?_
            rw [nI_1]
            have h := ih hlt (some (.int (besV w col (nI i))))
            rw [mdV] at h
            first
              | (rw [if_neg (fun q => by rw [b0 h_42] at q; exact absurd q.1 (by decide))] at h; exact h)
              | (rw [if_neg (fun q => h_55 q.2)] at h; exact h)
              | (rw [if_pos ⟨b1 h_42, h_55⟩] at h; exact h)
          · refine z_iload_n d_X7_mended_58 rfl ?_
            refine z_aload_n d_X7_mended_59 rfl ?_
            refine z_getR d_X7_mended_60 f_X7_35 (by first | rfl | assumption) (by omega) (by first | exact hR _ _ _ rfl | rfl | assumption) ?_
            refine z_getR d_X7_mended_63 f_X7_97 (by first | rfl | assumption) (by omega) (by first | exact hR _ _ _ rfl | rfl | assumption) ?_
            refine z_iload d_X7_mended_66 rfl ?_
            refine z_iaload d_X7_mended_68 (by first | rfl | assumption) (by omega) (by first | exact zix_nI (by assumption) (by first | decide | assumption) | exact zix_nI (by omega) (by first | decide | assumption) | assumption) ?_
            refine z_iadd d_X7_mended_69 ?_
            refine z_istore3 d_X7_mended_70 rfl ?_
            refine z_iinc4 d_X7_mended_71 ki_1 rfl ?_
            refine z_iinc5 d_X7_mended_74 ki_1 rfl ?_
            refine z_goto d_X7_mended_77 ?_
            rw [nI_1]
            have h := ih hlt (some (.int (besV w col (nI i))))
            rw [mdV] at h
            first
              | (rw [if_neg (fun q => by rw [b0 h_42] at q; exact absurd q.1 (by decide))] at h; exact h)
              | (rw [if_neg (fun q => h_55 q.2)] at h; exact h)
              | (rw [if_pos ⟨b1 h_42, h_55⟩] at h; exact h)
    refine loop _ (fun o => ?_) 0 (Nat.zero_le 4) none
    generalize mdV (I 18) (I 5) w col 4 = md
    refine z_iload d_X7_mended_80 rfl ?_
    refine z_if_ne d_X7_mended_82 (fun h_82 => ?_) (fun h_82 => ?_)
    · refine z_iload_n d_X7_mended_90 rfl ?_
      refine z_iload d_X7_mended_91 rfl ?_
      refine z_idiv d_X7_mended_93 (by first | assumption | decide) ?_
      exact z_ireturn d_X7_mended_94 rfl ⟨by simp [h_82], rfl, rfl, rfl, rfl⟩
    · refine z_bipush d_X7_mended_85 kb_m4 ?_
      refine z_goto d_X7_mended_87 ?_
      exact z_ireturn d_X7_mended_94 rfl ⟨by simp [h_82], rfl, rfl, rfl, rfl⟩
  · have hw := b0 h_4
    refine z_iconst d_X7_mended_7 ki_m1 ?_
    exact z_ireturn d_X7_mended_8 rfl ⟨by rw [hw]; rfl, rfl, rfl, rfl, rfl⟩
