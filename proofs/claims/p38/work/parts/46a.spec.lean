def picOk (v h r c : Int32) : Bool := (inV 1 3 v && inV 1 3 h) && ((!decide (r < 0) && !decide (binV 6 v ≤ r)) && (!decide (c < 0) && decide (c < binV 8 h)))
theorem bin6 {v : Nat} (h1 : 1 ≤ v) (h3 : v ≤ 3) : binV 6 (nI v) = nI (6 / v) := by
  rcases (show v = 1 ∨ v = 2 ∨ v = 3 by omega) with rfl | rfl | rfl <;> decide
theorem bin8 {v : Nat} (h1 : 1 ≤ v) (h3 : v ≤ 3) : binV 8 (nI v) = nI ((8 + v - 1) / v) := by
  rcases (show v = 1 ∨ v = 2 ∨ v = 3 by omega) with rfl | rfl | rfl <;> decide
theorem lt_nat {x : Int32} {n : Nat} (h0 : ¬ x < 0) (h : x < nI n) (hn : n < 2 ^ 31) : x = nI x.toNatClampNeg ∧ x.toNatClampNeg < n := by
  have := zix_of2 h0 (Int32.not_le.mpr h) hn
  obtain ⟨j, hj, rfl⟩ := nI_of h0
  rw [nI_clamp hj] at this ⊢
  exact ⟨rfl, this.1⟩
def ab (d : Int32) : Int32 := if 0 ≤ d then d else 0 - d
def cmV (I : zI) (w : Nat) : Int32 := I 17 w + I 5 w + I 4 1
def lonV (cap most : Int32) : Int32 := if 1 ≤ most then mn 999 (cap / most) else 999
def ndV (li f : Nat → Int32) (n : Int32) : Nat → Int32
  | 0 => 1
  | k + 1 => if li k ≤ 0 then ndV li f n k else mx (ndV li f n k) (binV n (f k))
def htV (f : Nat → Int32) (n : Int32) : Nat → Int64
  | 0 => 0
  | k + 1 => if f k < n then htV f n k else htV f n k ||| (1 <<< ((nI k).toInt64 &&& 63))
def mdV (we hot : Nat → Int32) (w col : Int32) : Nat → Int32 × Int32
  | 0 => (0, 0)
  | k + 1 => if isW (besV w col (nI k)) = true ∧ hot (besV w col (nI k)).toNatClampNeg = 0 then ((mdV we hot w col k).1 + we (besV w col (nI k)).toNatClampNeg, (mdV we hot w col k).2 + 1) else mdV we hot w col k
theorem mk_congr {I J : zI} {L K : zL} {q c p v h : Nat} {sp : Bool} (h1 : J (p + 1) = I (p + 1)) (h3 : J (p + 3) = I (p + 3)) (h6 : J (q + 6) = I (q + 6)) (hc : qOf J K c = qOf I L c) (hq : qOf J K (q + 1) = qOf I L (q + 1)) : mkS J K q c p v h sp = mkS I L q c p v h sp := by
  unfold mkS
  rw [h1, h3, h6, hc, hq]
theorem qOf_eq {I J : zI} {L K : zL} {c : Nat} (h1 : J (c + 1) = I (c + 1)) (h2 : J (c + 2) = I (c + 2)) (h3 : J (c + 3) = I (c + 3)) (h4 : J (c + 4) = I (c + 4)) (hL : K c = L c) : qOf J K c = qOf I L c := by
  unfold qOf
  rw [h1, h2, h3, h4, hL]
set_option maxRecDepth 100000 in
set_option maxHeartbeats 4000000 in
theorem ct_X7_picture {E : zE} {I : zI} {L : zL} {R : zR} {v h r c : Int32} (hR : zLx R) : zCf E m_X7_picture zShF [.ref 0, .int v, .int h, .int r, .int c] I L R (some (.int (if picOk v h r c = true then (mkS I L 23 16 3 v.toNatClampNeg h.toNatClampNeg true).1 (r.toNatClampNeg * 8 + c.toNatClampNeg) else -1))) (if picOk v h r c = true then pI (pN I 23 v.toNatClampNeg h.toNatClampNeg) 23 (mkS I L 23 16 3 v.toNatClampNeg h.toNatClampNeg true) else I) (if picOk v h r c = true then qL L 24 (mkS I L 23 16 3 v.toNatClampNeg h.toNatClampNeg true).2 else L) (R) := by
  have h16 := lC_16 hR; have h3 := lP_3 hR; have h23 := lQ_23 hR
  refine z_met (by decide) [some (.ref 0), some (.int v), some (.int h), some (.int r), some (.int c)] rfl rfl (Nat.le_of_ble_eq_true rfl) (fun X => ?_)
  refine z_iload_n d_X7_picture_0 rfl ?_
  refine z_cSi d_X7_picture_1 q_X7_picture_162 ⟨rfl, rfl⟩ (ct_X7_isBin) rfl rfl rfl ⟨Nat.zero_le _, Nat.zero_le _⟩ ?_
  refine z_if_eq d_X7_picture_4 (fun h_4 => ?_) (fun h_4 => ?_)
  · have hw := b0 h_4
    refine z_iconst d_X7_picture_14 ki_m1 ?_
    exact z_ireturn d_X7_picture_15 rfl ⟨by simp [picOk, hw], rfl, by simp [picOk, hw], by simp [picOk, hw], rfl⟩
  · refine z_iload_n d_X7_picture_7 rfl ?_
    refine z_cSi d_X7_picture_8 q_X7_picture_162 ⟨rfl, rfl⟩ (ct_X7_isBin) rfl rfl rfl ⟨Nat.zero_le _, Nat.zero_le _⟩ ?_
    refine z_if_ne d_X7_picture_11 (fun h_11 => ?_) (fun h_11 => ?_)
    · refine z_iload_n d_X7_picture_16 rfl ?_
      refine z_if_lt d_X7_picture_17 (fun h_17 => ?_) (fun h_17 => ?_)
      · refine z_iconst d_X7_picture_46 ki_m1 ?_
        exact z_ireturn d_X7_picture_47 rfl ⟨by simp [picOk, *], rfl, by simp [picOk, *], by simp [picOk, *], rfl⟩
      · refine z_iload_n d_X7_picture_20 rfl ?_
        refine z_bipush d_X7_picture_21 kb_6 ?_
        refine z_iload_n d_X7_picture_23 rfl ?_
        refine z_cSi d_X7_picture_24 q_X7_picture_165 ⟨rfl, rfl⟩ (ct_X7_binsOf) rfl rfl rfl ⟨Nat.zero_le _, Nat.zero_le _⟩ ?_
        refine z_icmp_ge d_X7_picture_27 (fun h_27 => ?_) (fun h_27 => ?_)
        · refine z_iconst d_X7_picture_46 ki_m1 ?_
          exact z_ireturn d_X7_picture_47 rfl ⟨by simp [picOk, *], rfl, by simp [picOk, *], by simp [picOk, *], rfl⟩
        · refine z_iload d_X7_picture_30 rfl ?_
          refine z_if_lt d_X7_picture_32 (fun h_32 => ?_) (fun h_32 => ?_)
          · refine z_iconst d_X7_picture_46 ki_m1 ?_
            exact z_ireturn d_X7_picture_47 rfl ⟨by simp [picOk, *], rfl, by simp [picOk, *], by simp [picOk, *], rfl⟩
          · refine z_iload d_X7_picture_35 rfl ?_
            refine z_bipush d_X7_picture_37 kb_8 ?_
            refine z_iload_n d_X7_picture_39 rfl ?_
            refine z_cSi d_X7_picture_40 q_X7_picture_165 ⟨rfl, rfl⟩ (ct_X7_binsOf) rfl rfl rfl ⟨Nat.zero_le _, Nat.zero_le _⟩ ?_
            refine z_icmp_lt d_X7_picture_43 (fun h_43 => ?_) (fun h_43 => ?_)
            · have hok : picOk v h r c = true := by simp [picOk, b1 h_4, b1 h_11, h_17, h_27, h_32, h_43]
              have hvv := b1 h_4
              have hhh := b1 h_11
              obtain ⟨ev, v1, v3⟩ := inV_nat (n := 3) (by decide) hvv
              obtain ⟨eh, w1, w3⟩ := inV_nat (n := 3) (by decide) hhh
              rw [hok, if_pos rfl, if_pos rfl, if_pos rfl]
              generalize v.toNatClampNeg = vv at *
              generalize h.toNatClampNeg = hh at *
              subst ev
              subst eh
              rw [bin6 v1 v3] at h_27
              rw [bin8 w1 w3] at h_43
              have h6 := bin_6b v1 v3
              have h8 := bin_8b w1 w3
              obtain ⟨er, hr⟩ := lt_nat h_17 (Int32.not_le.mp h_27) (by omega)
              obtain ⟨ec, hc⟩ := lt_nat h_32 h_43 (by omega)
              generalize r.toNatClampNeg = rr at *
              generalize c.toNatClampNeg = cc at *
              subst er
              subst ec
              refine z_aload_n d_X7_picture_48 rfl ?_
              refine z_getR d_X7_picture_49 f_X7_50 (by first | rfl | assumption) (by omega) (by first | exact hR _ _ _ rfl | rfl | assumption) ?_
              refine z_aload_n d_X7_picture_52 rfl ?_
              refine z_getR d_X7_picture_53 f_X7_35 (by first | rfl | assumption) (by omega) (by first | exact hR _ _ _ rfl | rfl | assumption) ?_
              refine z_aload_n d_X7_picture_56 rfl ?_
              refine z_getR d_X7_picture_57 f_X7_19 (by first | rfl | assumption) (by omega) (by first | exact hR _ _ _ rfl | rfl | assumption) ?_
              refine z_iload_n d_X7_picture_60 rfl ?_
              refine z_iload_n d_X7_picture_61 rfl ?_
              refine z_iconst d_X7_picture_62 ki_1 ?_
              refine z_cVv d_X7_picture_63 q_X7_picture_169 (by first | rfl | assumption) (by omega) ⟨rfl, rfl⟩ (ct_X2_make (sp := true) h23 h16 h3 (by omega) (by omega) (by omega) v1 v3 w1 w3) rfl rfl rfl ⟨Nat.zero_le _, Nat.zero_le _⟩ ?_
              refine z_aload_n d_X7_picture_66 rfl ?_
              refine z_getR d_X7_picture_67 f_X7_50 (by first | rfl | assumption) (by omega) (by first | exact hR _ _ _ rfl | rfl | assumption) ?_
              refine z_getR d_X7_picture_70 f_X7_173 (by first | rfl | assumption) (by omega) (by first | exact hR _ _ _ rfl | rfl | assumption) ?_
              refine z_iload_n d_X7_picture_73 rfl ?_
              refine z_bipush d_X7_picture_74 kb_8 ?_
              refine z_imul d_X7_picture_76 ?_
              refine z_iload d_X7_picture_77 rfl ?_
              refine z_iadd d_X7_picture_79 ?_
              refine z_iaload d_X7_picture_80 (by first | rfl | assumption) (by omega) (zix_e (show nI rr * (8 : Int32) + nI cc = nI (rr * 8 + cc) from by rw [show nI rr * (8 : Int32) = nI (rr * 8) from pk_mul rr 8]; exact nI_add _ _) (by omega) (by decide)) ?_
              exact z_ireturn d_X7_picture_81 rfl ⟨by rw [show pI (pN I 23 vv hh) 23 (mkS I L 23 16 3 vv hh true) 29 = _ from pI_v _ 23 _], rfl, rfl, rfl, rfl⟩
            · refine z_iconst d_X7_picture_46 ki_m1 ?_
              exact z_ireturn d_X7_picture_47 rfl ⟨by simp [picOk, *], rfl, by simp [picOk, *], by simp [picOk, *], rfl⟩
    · have hw := b0 h_11
      refine z_iconst d_X7_picture_14 ki_m1 ?_
      exact z_ireturn d_X7_picture_15 rfl ⟨by simp [picOk, hw], rfl, by simp [picOk, hw], by simp [picOk, hw], rfl⟩
