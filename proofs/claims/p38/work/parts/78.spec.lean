/-! the reference counts ROUNDS -/
abbrev zU : Type := Int32 × Int32 × (Nat → Int64)
def ldX (P a b g : Nat) : Nat := (201 * (b : Int) + (mtV P a ((g : Int) - 100) b).2 + 100).toNat
def ldS (P : Nat) (ld : Nat → Int64) (a b g : Nat) (s : zU) : zU :=
  if 0 < ld (201 * a + g) then
    (nI (mtV P a ((g : Int) - 100) b).1, iI (mtV P a ((g : Int) - 100) b).2,
     if (mtV P a ((g : Int) - 100) b).1 = 1 then va_up s.2.2 (ldX P a b g) (s.2.2 (ldX P a b g) + ld (201 * a + g)) else s.2.2)
  else s
def ldG (P : Nat) (ld : Nat → Int64) (a b : Nat) : Nat → zU → zU
  | 0, s => s
  | k + 1, s => ldS P ld a b (4 + k) (ldG P ld a b k s)
def ldB (P : Nat) (ld : Nat → Int64) (o : Int32) (a : Nat) : Nat → zU → zU
  | 0, s => s
  | k + 1, s => if o = -4 ∨ nI (k + 1) = o then ldG P ld a (k + 1) 193 (ldB P ld o a k s) else ldB P ld o a k s
def ldA (P : Nat) (ld : Nat → Int64) (o : Int32) : Nat → zU → zU
  | 0, s => s
  | k + 1, s => ldB P ld o (k + 1) (2 ^ P - 2) (ldA P ld o k s)
/-- memory: the junk, leadThen -/
def uI (I : zI) (s : zU) : zI := mtI I s.1 s.2.1
def uL (L : zL) (s : zU) : zL := va_up L 81 s.2.2
theorem ldX_b {P a b g : Nat} (hP : P = 3 ∨ P = 4) (hb1 : 1 ≤ b) (hb2 : b < 15) (hg1 : 4 ≤ g) (hg2 : g < 197) : ldX P a b g < 3216 ∧ (201 : Int32) * nI b + iI (mtV P a ((g : Int) - 100) b).2 + 100 = nI (ldX P a b g) := by
  have h := mtV_b (a := a) hP ((g : Int) - 100) b
  have h0 : 0 ≤ 201 * (b : Int) + (mtV P a ((g : Int) - 100) b).2 + 100 := by omega
  refine ⟨by unfold ldX; omega, ?_⟩
  have e1 : (201 : Int32) * nI b = iI ((201 * b : Nat) : Int) := pk_mul 201 b
  have e3 : nI (ldX P a b g) = iI ((ldX P a b g : Nat) : Int) := rfl
  rw [e1, e3, iI_add, show (100 : Int32) = iI 100 from rfl, iI_add]
  congr 1
  unfold ldX
  rw [Int.toNat_of_nonneg h0]
  omega
theorem ix201 (a g : Nat) : (201 : Int32) * nI a + nI g = nI (201 * a + g) := by rw [show (201 : Int32) * nI a = nI (201 * a) from pk_mul 201 a, nI_add]
/-- one call of leads: junk, lead, leadThen -/
abbrev zV : Type := Int32 × Int32 × (Nat → Int64) × (Nat → Int64)
def ldT (P : Nat) (o : Int32) (u : zV) : zV :=
  ((ldA P u.2.2.1 o (2 ^ P - 2) (u.1, u.2.1, zfill u.2.2.2 3216 0)).1, (ldA P u.2.2.1 o (2 ^ P - 2) (u.1, u.2.1, zfill u.2.2.2 3216 0)).2.1, zcp (ldA P u.2.2.1 o (2 ^ P - 2) (u.1, u.2.1, zfill u.2.2.2 3216 0)).2.2 u.2.2.1 3216, (ldA P u.2.2.1 o (2 ^ P - 2) (u.1, u.2.1, zfill u.2.2.2 3216 0)).2.2)
def vI (I : zI) (u : zV) : zI := mtI I u.1 u.2.1
def vL (L : zL) (u : zV) : zL := va_up (va_up L 81 u.2.2.2) 80 u.2.2.1
def vOf (I : zI) (L : zL) : zV := (I 64 28, I 64 29, L 80, L 81)
theorem vI_ne {I : zI} {u : zV} {p : Nat} (h : p ≠ 64) : vI I u p = I p := mtI_ne h
theorem vI_vI (I : zI) (u v : zV) : vI (vI I u) v = vI I v := mtI_mt _ _ _ _ _
theorem vL_vL (L : zL) (u v : zV) : vL (vL L u) v = vL L v := by
  unfold vL
  rw [up_comm _ _ _ (show 80 ≠ 81 by decide), up_up, up_up]
theorem vOf_v (I : zI) (L : zL) (u : zV) : vOf (vI I u) (vL L u) = u := by
  unfold vOf vI vL
  rw [mtI_28, mtI_29, up_eq, up_ne (by decide), up_eq]
theorem vI_self (I : zI) (L : zL) : vI I (vOf I L) = I := mtI_self I
theorem vL_self (I : zI) (L : zL) : vL L (vOf I L) = L := by
  unfold vL vOf
  rw [up_self, up_self]
set_option maxRecDepth 100000 in
set_option maxHeartbeats 4000000 in
theorem ct_X8_leads {E : zE} {I : zI} {L : zL} {R : zR} {P : Nat} {o : Int32} (hR : zLx R) (hP : P = 3 ∨ P = 4) (hI : I 68 6 = nI P) : zCf E m_X8_leads zShF [.ref 64, .int o] I L R (none) (vI I (ldT P o (vOf I L))) (vL L (ldT P o (vOf I L))) (R) := by
  have hp2 := P2 hP
  have hT : ldT P o (vOf I L) = ((ldA P (L 80) o (2 ^ P - 2) (I 64 28, I 64 29, zfill (L 81) 3216 0)).1, (ldA P (L 80) o (2 ^ P - 2) (I 64 28, I 64 29, zfill (L 81) 3216 0)).2.1, zcp (ldA P (L 80) o (2 ^ P - 2) (I 64 28, I 64 29, zfill (L 81) 3216 0)).2.2 (L 80) 3216, (ldA P (L 80) o (2 ^ P - 2) (I 64 28, I 64 29, zfill (L 81) 3216 0)).2.2) := rfl
  rw [hT]
  refine z_met (by decide) [some (.ref 64), some (.int o), none, none, none] rfl rfl (Nat.le_of_ble_eq_true rfl) (fun X => ?_)
  refine z_iconst d_X8_leads_0 ki_0 ?_
  refine z_istore2 d_X8_leads_1 rfl ?_
  have loop : ∀ (Qs : State → Prop), (zZ E m_X8_leads X Qs zShF 0 0 22 [some (.ref 64), some (.int o), some (.int (nI 3216)), none, none] [] I (va_up L 81 (zfill (L 81) 3216 0)) R) → ∀ i, i ≤ 3216 → zZ E m_X8_leads X Qs zShF 0 0 2 [some (.ref 64), some (.int o), some (.int (nI i)), none, none] [] I (va_up L 81 (zfill (L 81) i 0)) R := by
    intro Qs hx
    refine up_rec (fun i hi' ih => ?_)
    refine z_iload_n d_X8_leads_2 rfl ?_
    refine z_sipush d_X8_leads_3 ks_3216 ?_
    refine z_icmp_ge d_X8_leads_6 (fun h_6 => ?_) (fun h_6 => ?_)
    · obtain rfl := eq_of_ge (n := 3216) (by decide) hi' h_6
      exact hx
    · have hlt := lt_of_nge (n := 3216) (by decide) h_6 (by omega)
      refine z_aload_n d_X8_leads_9 rfl ?_
      refine z_getR d_X8_leads_10 f_X8_60 (by first | rfl | assumption) (by omega) (by first | exact hR _ _ _ rfl | rfl | assumption) ?_
      refine z_iload_n d_X8_leads_13 rfl ?_
      refine z_lconst (v := 0) d_X8_leads_14 (by decide) ?_
      refine z_lastore d_X8_leads_15 (by first | rfl | assumption) (by omega) (by first | exact zix_nI (by assumption) (by first | decide | assumption) | exact zix_nI (by omega) (by first | decide | assumption) | assumption) ?_
      refine z_iinc2 d_X8_leads_16 ki_1 rfl ?_
      refine z_goto d_X8_leads_19 ?_
      rw [nI_1, zj_up, zfill_s]
      exact ih hlt
  refine z_mem (L' := va_up L 81 (zfill (L 81) 0 0)) rfl (by rw [zfill_0, up_self]) rfl (loop _ ?_ 0 (Nat.zero_le 3216))
  refine z_iconst d_X8_leads_22 ki_1 ?_
  refine z_istore2 d_X8_leads_23 rfl ?_
  generalize hu0 : ((I 64 28, I 64 29, zfill (L 81) 3216 0) : zU) = u0
  have hI0 : I = uI I u0 := by rw [← hu0]; exact (mtI_self I).symm
  have hL0 : va_up L 81 (zfill (L 81) 3216 0) = uL L u0 := by rw [← hu0]; rfl
  have hIm : ∀ s, uI I s 68 6 = nI P := fun s => by unfold uI; rw [mtI_ne (by decide)]; exact hI
  have h80 : ∀ s, uL L s 80 = L 80 := fun s => up_ne (by decide)
  have h81 : ∀ s, uL L s 81 = s.2.2 := fun s => up_eq _ _ _
  have loop : ∀ (Qs : State → Prop), (∀ o3 o4 : Option Value, zZ E m_X8_leads X Qs zShF 0 0 155 [some (.ref 64), some (.int o), some (.int (nI (2 ^ P - 2 + 1))), o3, o4] [] (uI I (ldA P (L 80) o (2 ^ P - 2) u0)) (uL L (ldA P (L 80) o (2 ^ P - 2) u0)) R) → ∀ i, i ≤ 2 ^ P - 2 → ∀ o3 o4 : Option Value, zZ E m_X8_leads X Qs zShF 0 0 24 [some (.ref 64), some (.int o), some (.int (nI (i + 1))), o3, o4] [] (uI I (ldA P (L 80) o i u0)) (uL L (ldA P (L 80) o i u0)) R := by
    intro Qs hx
    refine up_rec (fun i hi' ih o3 o4 => ?_)
    generalize hs : ldA P (L 80) o i u0 = s at ih ⊢
    refine z_iload_n d_X8_leads_24 rfl ?_
    refine z_aload_n d_X8_leads_25 rfl ?_
    refine z_cVi d_X8_leads_26 q_X8_leads_267 (by first | rfl | assumption) (by omega) ⟨rfl, rfl⟩ (ct_X8_full_ hR hP (hIm _)) rfl rfl rfl ⟨Nat.zero_le _, Nat.zero_le _⟩ ?_
    refine z_icmp_ge d_X8_leads_29 (fun h_29 => ?_) (fun h_29 => ?_)
    · have e : 2 ^ P - 1 ≤ i + 1 := (nI_leI (a := 2 ^ P - 1) (b := i + 1) (by omega) (by omega)).mp h_29
      have e2 : i = 2 ^ P - 2 := by omega
      rw [e2] at hs ⊢
      have h := hx o3 o4
      rw [hs] at h
      exact h
    · have hai : i < 2 ^ P - 2 := by rcases Nat.lt_or_ge i (2 ^ P - 2) with q | q; exact q; exact absurd (nI_le (a := 2 ^ P - 1) (b := i + 1) (by omega) (by omega)) h_29
      refine z_iconst d_X8_leads_32 ki_1 ?_
      refine z_istore3 d_X8_leads_33 rfl ?_
      have loop2 : ∀ (Qs : State → Prop), (∀ o3 o4 : Option Value, zZ E m_X8_leads X Qs zShF 0 0 149 [some (.ref 64), some (.int o), some (.int (nI (i + 1))), o3, o4] [] (uI I (ldB P (L 80) o (i + 1) (2 ^ P - 2) s)) (uL L (ldB P (L 80) o (i + 1) (2 ^ P - 2) s)) R) → ∀ j, j ≤ 2 ^ P - 2 → ∀ o4 : Option Value, zZ E m_X8_leads X Qs zShF 0 0 34 [some (.ref 64), some (.int o), some (.int (nI (i + 1))), some (.int (nI (j + 1))), o4] [] (uI I (ldB P (L 80) o (i + 1) j s)) (uL L (ldB P (L 80) o (i + 1) j s)) R := by
        intro Qs hx2
        refine up_rec (fun j hj ih2 o4 => ?_)
        generalize hv : ldB P (L 80) o (i + 1) j s = v at ih2 ⊢
        refine z_iload_n d_X8_leads_34 rfl ?_
        refine z_aload_n d_X8_leads_35 rfl ?_
        refine z_cVi d_X8_leads_36 q_X8_leads_267 (by first | rfl | assumption) (by omega) ⟨rfl, rfl⟩ (ct_X8_full_ hR hP (hIm _)) rfl rfl rfl ⟨Nat.zero_le _, Nat.zero_le _⟩ ?_
        refine z_icmp_ge d_X8_leads_39 (fun h_39 => ?_) (fun h_39 => ?_)
        · have e : 2 ^ P - 1 ≤ j + 1 := (nI_leI (a := 2 ^ P - 1) (b := j + 1) (by omega) (by omega)).mp h_39
          have e2 : j = 2 ^ P - 2 := by omega
          have h := hx2 (some (.int (nI (j + 1)))) o4
          rw [← e2, hv] at h
          exact h
        · have hbj : j < 2 ^ P - 2 := by rcases Nat.lt_or_ge j (2 ^ P - 2) with q | q; exact q; exact absurd (nI_le (a := 2 ^ P - 1) (b := j + 1) (by omega) (by omega)) h_39
          have j53 : (o = -4 ∨ nI (j + 1) = o) → zZ E m_X8_leads X Qs zShF 0 0 53 [some (.ref 64), some (.int o), some (.int (nI (i + 1))), some (.int (nI (j + 1))), o4] [] (uI I v) (uL L v) R := by
            intro hon
            refine z_iconst d_X8_leads_53 ki_4 ?_
            refine z_istore4 d_X8_leads_54 rfl ?_
            have loop3 : ∀ (Qs : State → Prop), (zZ E m_X8_leads X Qs zShF 0 0 143 [some (.ref 64), some (.int o), some (.int (nI (i + 1))), some (.int (nI (j + 1))), some (.int (nI (4 + 193)))] [] (uI I (ldG P (L 80) (i + 1) (j + 1) 193 v)) (uL L (ldG P (L 80) (i + 1) (j + 1) 193 v)) R) → ∀ k, k ≤ 193 → zZ E m_X8_leads X Qs zShF 0 0 56 [some (.ref 64), some (.int o), some (.int (nI (i + 1))), some (.int (nI (j + 1))), some (.int (nI (4 + k)))] [] (uI I (ldG P (L 80) (i + 1) (j + 1) k v)) (uL L (ldG P (L 80) (i + 1) (j + 1) k v)) R := by
              intro Qs hx3
              refine up_rec (fun k hk ih3 => ?_)
              generalize hr : ldG P (L 80) (i + 1) (j + 1) k v = r at ih3 ⊢
              refine z_iload d_X8_leads_56 rfl ?_
              refine z_sipush d_X8_leads_58 ks_197 ?_
              refine z_icmp_ge d_X8_leads_61 (fun h_61 => ?_) (fun h_61 => ?_)
              · have e : 197 ≤ 4 + k := (nI_leI (a := 197) (b := 4 + k) (by decide) (by omega)).mp h_61
                obtain rfl : k = 193 := by omega
                rw [← hr]
                exact hx3
              · have hk3 : k < 193 := by rcases Nat.lt_or_ge k 193 with q | q; exact q; exact absurd (nI_le (a := 197) (b := 4 + k) (by omega) (by omega)) h_61
                have hix : zix ((201 : Int32) * nI (i + 1) + nI (4 + k)) 3216 (201 * (i + 1) + (4 + k)) := zix_e (ix201 _ _) (by omega) (by decide)
                have hsk : ¬ 0 < L 80 (201 * (i + 1) + (4 + k)) → zZ E m_X8_leads X Qs zShF 0 0 137 [some (.ref 64), some (.int o), some (.int (nI (i + 1))), some (.int (nI (j + 1))), some (.int (nI (4 + k)))] [] (uI I r) (uL L r) R := by
                  intro h0
                  refine z_iinc4 d_X8_leads_137 ki_1 rfl ?_
                  refine z_goto d_X8_leads_140 ?_
                  rw [nI_1]
                  have h := ih3 hk3
                  rw [ldG, hr, ldS, if_neg h0] at h
                  exact h
                refine z_aload_n d_X8_leads_64 rfl ?_
                refine z_getR d_X8_leads_65 f_X8_57 (by first | rfl | assumption) (by omega) (by first | exact hR _ _ _ rfl | rfl | assumption) ?_
                refine z_sipush d_X8_leads_68 ks_201 ?_
                refine z_iload_n d_X8_leads_71 rfl ?_
                refine z_imul d_X8_leads_72 ?_
                refine z_iload d_X8_leads_73 rfl ?_
                refine z_iadd d_X8_leads_75 ?_
                refine z_laload d_X8_leads_76 (by first | rfl | assumption) (by omega) hix ?_
                rw [h80]
                refine z_lconst (v := 0) d_X8_leads_77 (by decide) ?_
                refine z_lcmp d_X8_leads_78 ?_
                refine z_if_le d_X8_leads_79 (fun h_79 => ?_) (fun h_79 => ?_)
                · exact hsk (fun q => absurd h_79 (Int32.not_le.mpr ((lg_gt _ _).mpr q)))
                · have hpos : 0 < L 80 (201 * (i + 1) + (4 + k)) := (lg_gt _ _).mp (Int32.not_le.mp h_79)
                  refine z_aload_n d_X8_leads_82 rfl ?_
                  refine z_iload_n d_X8_leads_83 rfl ?_
                  refine z_iload d_X8_leads_84 rfl ?_
                  refine z_bipush d_X8_leads_86 kb_100 ?_
                  refine z_isub d_X8_leads_88 ?_
                  refine z_topi (y := iI (((4 + k : Nat) : Int) - 100)) (iI_sub ((4 + k : Nat) : Int) 100) ?_
                  refine z_iload_n d_X8_leads_89 rfl ?_
                  refine z_cVi d_X8_leads_90 q_X8_leads_296 (by first | rfl | assumption) (by omega) ⟨rfl, rfl⟩ (ct_X8_wrong (s := ((4 + k : Nat) : Int) - 100) hR hP (hIm _) (by omega) (by omega) (by omega) (by omega)) rfl rfl rfl ⟨Nat.zero_le _, Nat.zero_le _⟩ ?_
                  have hbne : j + 1 ≠ 2 ^ P - 1 := by omega
                  have hmI : (if j + 1 = 2 ^ P - 1 then uI I r else mtI (uI I r) (nI (mtV P (i + 1) (((4 + k : Nat) : Int) - 100) (j + 1)).1) (iI (mtV P (i + 1) (((4 + k : Nat) : Int) - 100) (j + 1)).2)) = uI I (nI (mtV P (i + 1) (((4 + k : Nat) : Int) - 100) (j + 1)).1, iI (mtV P (i + 1) (((4 + k : Nat) : Int) - 100) (j + 1)).2, r.2.2) := by rw [if_neg hbne]; exact mtI_mt _ _ _ _ _
                  rw [hmI]
                  have hwgl := wg_le P (i + 1) (j + 1) (((4 + k : Nat) : Int) - 100)
                  refine z_if_ne d_X8_leads_93 (fun h_93 => ?_) (fun h_93 => ?_)
                  · have hne : ¬ (mtV P (i + 1) (((4 + k : Nat) : Int) - 100) (j + 1)).1 = 1 := fun q => h_93 (by rw [(wg1 hbne).mpr q]; rfl)
                    refine z_iinc4 d_X8_leads_137 ki_1 rfl ?_
                    refine z_goto d_X8_leads_140 ?_
                    rw [nI_1]
                    have h := ih3 hk3
                    rw [ldG, hr, ldS, if_pos hpos, if_neg hne] at h
                    exact h
                  · have h1 : (mtV P (i + 1) (((4 + k : Nat) : Int) - 100) (j + 1)).1 = 1 := (wg1 hbne).mp ((nI_eq (b := 0) (by omega) (by decide)).mp h_93)
                    obtain ⟨hxl, hxe⟩ := ldX_b (a := i + 1) (b := j + 1) (g := 4 + k) hP (by omega) (by omega) (by omega) (by omega)
                    refine z_aload_n d_X8_leads_96 rfl ?_
                    refine z_getR d_X8_leads_97 f_X8_60 (by first | rfl | assumption) (by omega) (by first | exact hR _ _ _ rfl | rfl | assumption) ?_
                    refine z_sipush d_X8_leads_100 ks_201 ?_
                    refine z_iload_n d_X8_leads_103 rfl ?_
                    refine z_imul d_X8_leads_104 ?_
                    refine z_aload_n d_X8_leads_105 rfl ?_
                    refine z_iload_n d_X8_leads_106 rfl ?_
                    refine z_iload d_X8_leads_107 rfl ?_
                    refine z_bipush d_X8_leads_109 kb_100 ?_
                    refine z_isub d_X8_leads_111 ?_
                    refine z_topi (y := iI (((4 + k : Nat) : Int) - 100)) (iI_sub ((4 + k : Nat) : Int) 100) ?_
                    refine z_iload_n d_X8_leads_112 rfl ?_
                    refine z_cVi d_X8_leads_113 q_X8_leads_299 (by first | rfl | assumption) (by omega) ⟨rfl, rfl⟩ (ct_X8_goesTo (s := ((4 + k : Nat) : Int) - 100) hR hP (hIm _) (by omega) (by omega) (by omega) (by omega)) rfl rfl rfl ⟨Nat.zero_le _, Nat.zero_le _⟩ ?_
                    rw [show mtI (uI I (nI (mtV P (i + 1) (((4 + k : Nat) : Int) - 100) (j + 1)).1, iI (mtV P (i + 1) (((4 + k : Nat) : Int) - 100) (j + 1)).2, r.2.2)) (nI (mtV P (i + 1) (((4 + k : Nat) : Int) - 100) (j + 1)).1) (iI (mtV P (i + 1) (((4 + k : Nat) : Int) - 100) (j + 1)).2) = uI I (nI (mtV P (i + 1) (((4 + k : Nat) : Int) - 100) (j + 1)).1, iI (mtV P (i + 1) (((4 + k : Nat) : Int) - 100) (j + 1)).2, r.2.2) from mtI_mt _ _ _ _ _]
                    refine z_iadd d_X8_leads_116 ?_
                    refine z_bipush d_X8_leads_117 kb_100 ?_
                    refine z_iadd d_X8_leads_119 ?_
                    refine z_topi hxe ?_
                    refine z_dup2 d_X8_leads_120 rfl rfl ?_
                    refine z_laload d_X8_leads_121 (by first | rfl | assumption) (by omega) (zix_nI hxl (by decide)) ?_
                    rw [h81]
                    refine z_aload_n d_X8_leads_122 rfl ?_
                    refine z_getR d_X8_leads_123 f_X8_57 (by first | rfl | assumption) (by omega) (by first | exact hR _ _ _ rfl | rfl | assumption) ?_
                    refine z_sipush d_X8_leads_126 ks_201 ?_
                    refine z_iload_n d_X8_leads_129 rfl ?_
                    refine z_imul d_X8_leads_130 ?_
                    refine z_iload d_X8_leads_131 rfl ?_
                    refine z_iadd d_X8_leads_133 ?_
                    refine z_laload d_X8_leads_134 (by first | rfl | assumption) (by omega) hix ?_
                    rw [h80]
                    refine z_ladd d_X8_leads_135 ?_
                    refine z_lastore d_X8_leads_136 (by first | rfl | assumption) (by omega) (zix_nI hxl (by decide)) ?_
                    refine z_iinc4 d_X8_leads_137 ki_1 rfl ?_
                    refine z_goto d_X8_leads_140 ?_
                    rw [nI_1]
                    have h := ih3 hk3
                    rw [ldG, hr, ldS, if_pos hpos, if_pos h1] at h
                    refine z_mem rfl ?_ rfl h
                    exact zj_up L 81 r.2.2 _ _
            refine loop3 _ ?_ 0 (Nat.zero_le _)
            refine z_iinc3 d_X8_leads_143 ki_1 rfl ?_
            refine z_goto d_X8_leads_146 ?_
            rw [nI_1]
            have h := ih2 hbj (some (.int (nI (4 + 193))))
            rw [ldB, if_pos hon, hv] at h
            exact h
          refine z_iload_n d_X8_leads_42 rfl ?_
          refine z_bipush d_X8_leads_43 kb_m4 ?_
          refine z_icmp_eq d_X8_leads_45 (fun h_45 => ?_) (fun h_45 => ?_)
          · exact j53 (Or.inl h_45)
          · refine z_iload_n d_X8_leads_48 rfl ?_
            refine z_iload_n d_X8_leads_49 rfl ?_
            refine z_icmp_ne d_X8_leads_50 (fun h_50 => ?_) (fun h_50 => ?_)
            · refine z_iinc3 d_X8_leads_143 ki_1 rfl ?_
              refine z_goto d_X8_leads_146 ?_
              rw [nI_1]
              have h := ih2 hbj o4
              rw [ldB, if_neg (fun q => q.elim h_45 h_50), hv] at h
              exact h
            · exact j53 (Or.inr h_50)
      refine loop2 _ (fun o3 o4 => ?_) 0 (Nat.zero_le _) _
      refine z_iinc2 d_X8_leads_149 ki_1 rfl ?_
      refine z_goto d_X8_leads_152 ?_
      rw [nI_1]
      have h := ih hai o3 o4
      rw [ldA, hs] at h
      exact h
  refine z_mem (I' := uI I (ldA P (L 80) o 0 u0)) (L' := uL L (ldA P (L 80) o 0 u0)) hI0 hL0 rfl (loop _ (fun o3 o4 => ?_) 0 (Nat.zero_le _) none none)
  generalize ldA P (L 80) o (2 ^ P - 2) u0 = t
  refine z_iconst d_X8_leads_155 ki_0 ?_
  refine z_istore2 d_X8_leads_156 rfl ?_
  have loop4 : ∀ (Qs : State → Prop), (zZ E m_X8_leads X Qs zShF 0 0 182 [some (.ref 64), some (.int o), some (.int (nI 3216)), o3, o4] [] (uI I t) (va_up (uL L t) 80 (zcp t.2.2 (L 80) 3216)) R) → ∀ i, i ≤ 3216 → zZ E m_X8_leads X Qs zShF 0 0 157 [some (.ref 64), some (.int o), some (.int (nI i)), o3, o4] [] (uI I t) (va_up (uL L t) 80 (zcp t.2.2 (L 80) i)) R := by
    intro Qs hx
    refine up_rec (fun i hi' ih => ?_)
    refine z_iload_n d_X8_leads_157 rfl ?_
    refine z_sipush d_X8_leads_158 ks_3216 ?_
    refine z_icmp_ge d_X8_leads_161 (fun h_161 => ?_) (fun h_161 => ?_)
    · obtain rfl := eq_of_ge (n := 3216) (by decide) hi' h_161
      exact hx
    · have hlt := lt_of_nge (n := 3216) (by decide) h_161 (by omega)
      refine z_aload_n d_X8_leads_164 rfl ?_
      refine z_getR d_X8_leads_165 f_X8_57 (by first | rfl | assumption) (by omega) (by first | exact hR _ _ _ rfl | rfl | assumption) ?_
      refine z_iload_n d_X8_leads_168 rfl ?_
      refine z_aload_n d_X8_leads_169 rfl ?_
      refine z_getR d_X8_leads_170 f_X8_60 (by first | rfl | assumption) (by omega) (by first | exact hR _ _ _ rfl | rfl | assumption) ?_
      refine z_iload_n d_X8_leads_173 rfl ?_
      refine z_laload d_X8_leads_174 (by first | rfl | assumption) (by omega) (by first | exact zix_nI (by assumption) (by first | decide | assumption) | exact zix_nI (by omega) (by first | decide | assumption) | assumption) ?_
      refine z_lastore d_X8_leads_175 (by first | rfl | assumption) (by omega) (by first | exact zix_nI (by assumption) (by first | decide | assumption) | exact zix_nI (by omega) (by first | decide | assumption) | assumption) ?_
      refine z_iinc2 d_X8_leads_176 ki_1 rfl ?_
      refine z_goto d_X8_leads_179 ?_
      rw [nI_1, zj_up, up_ne (by decide), h81, zcp_s]
      exact ih hlt
  refine z_mem (L' := va_up (uL L t) 80 (zcp t.2.2 (L 80) 0)) rfl (by rw [zcp_0, ← h80 t, up_self]) rfl (loop4 _ ?_ 0 (Nat.zero_le 3216))
  exact z_return d_X8_leads_182 rfl ⟨rfl, rfl, rfl, rfl, rfl⟩
def ldN (P : Nat) : Nat → zV → zV
  | 0, u => u
  | k + 1, u => ldT P (-4) (ldN P k u)
/-- what is summed at last -/
def rsW (P : Nat) (ld : Nat → Int64) (first : Nat) (z0 d : Int) : Nat → Int64
  | 0 => 0
  | g + 1 => rsW P ld first z0 d g + (if ((g : Int) - 100 - z0).ediv P = d then ld (201 * first + g) else 0)
def rd0 (P first : Nat) (u : zV) : zV := (u.1, u.2.1, va_up (zfill u.2.2.1 3216 0) (201 * first + stV P first P 0 + 100) 1, u.2.2.2)
def rdU (P first n : Nat) (u : zV) : zV := ldT P (nI first) (ldN P (n - 1) (rd0 P first u))
theorem vL_80 (L : zL) (u : zV) : vL L u 80 = u.2.2.1 := up_eq _ _ _
theorem vL_z (L : zL) (u : zV) (j : Nat) (x : Int64) : zj (vL L u) 80 j x = vL L (u.1, u.2.1, va_up u.2.2.1 j x, u.2.2.2) := zj_up _ _ _ _ _
set_option maxRecDepth 100000 in
set_option maxHeartbeats 4000000 in
theorem ct_X8_roundsOf {E : zE} {I : zI} {L : zL} {R : zR} {P first n : Nat} {d : Int} (hR : zLx R) (hP : P = 3 ∨ P = 4) (hI : I 68 6 = nI P) (hf : first < 2 ^ P) (hg : cntV (fun g => bg P first g) P = 1) (hn1 : 1 ≤ n) (hn2 : n < 1000) (hd1 : -3 ≤ d) (hd2 : d ≤ 3) : zCf E m_X8_roundsOf zShF [.ref 64, .int (nI first), .int (nI n), .int (iI d)] I L R (some (.long (rsW P (rdU P first n (vOf I L)).2.2.1 first (stV P first P 0) d 201))) (vI I (rdU P first n (vOf I L))) (vL L (rdU P first n (vOf I L))) (R) := by
  have hp2 := P2 hP
  have hgo := good_of hP hf hg
  have hs4 := stV_4 hP first
  refine z_met (by decide) [some (.ref 64), some (.int (nI first)), some (.int (nI n)), some (.int (iI d)), none, none, none, none] rfl rfl (Nat.le_of_ble_eq_true rfl) (fun X => ?_)
  refine z_mem (I' := vI I (vOf I L)) (L' := vL L (vOf I L)) (vI_self I L).symm (vL_self I L).symm rfl ?_
  generalize hu : vOf I L = u
  have hIv : ∀ v, vI I v 68 6 = nI P := fun v => by rw [vI_ne (by decide)]; exact hI
  refine z_iconst d_X8_roundsOf_0 ki_0 ?_
  refine z_istore4 d_X8_roundsOf_1 rfl ?_
  have loop : ∀ (Qs : State → Prop), (zZ E m_X8_roundsOf X Qs zShF 0 0 25 [some (.ref 64), some (.int (nI first)), some (.int (nI n)), some (.int (iI d)), some (.int (nI 3216)), none, none, none] [] (vI I u) (vL L (u.1, u.2.1, zfill u.2.2.1 3216 0, u.2.2.2)) R) → ∀ i, i ≤ 3216 → zZ E m_X8_roundsOf X Qs zShF 0 0 3 [some (.ref 64), some (.int (nI first)), some (.int (nI n)), some (.int (iI d)), some (.int (nI i)), none, none, none] [] (vI I u) (vL L (u.1, u.2.1, zfill u.2.2.1 i 0, u.2.2.2)) R := by
    intro Qs hx
    refine up_rec (fun i hi' ih => ?_)
    refine z_iload d_X8_roundsOf_3 rfl ?_
    refine z_sipush d_X8_roundsOf_5 ks_3216 ?_
    refine z_icmp_ge d_X8_roundsOf_8 (fun h_8 => ?_) (fun h_8 => ?_)
    · obtain rfl := eq_of_ge (n := 3216) (by decide) hi' h_8
      exact hx
    · have hlt := lt_of_nge (n := 3216) (by decide) h_8 (by omega)
      refine z_aload_n d_X8_roundsOf_11 rfl ?_
      refine z_getR d_X8_roundsOf_12 f_X8_57 (by first | rfl | assumption) (by omega) (by first | exact hR _ _ _ rfl | rfl | assumption) ?_
      refine z_iload d_X8_roundsOf_15 rfl ?_
      refine z_lconst (v := 0) d_X8_roundsOf_17 (by decide) ?_
      refine z_lastore d_X8_roundsOf_18 (by first | rfl | assumption) (by omega) (by first | exact zix_nI (by assumption) (by first | decide | assumption) | exact zix_nI (by omega) (by first | decide | assumption) | assumption) ?_
      refine z_iinc4 d_X8_roundsOf_19 ki_1 rfl ?_
      refine z_goto d_X8_roundsOf_22 ?_
      rw [nI_1, vL_z, zfill_s]
      exact ih hlt
  refine z_mem (L' := vL L (u.1, u.2.1, zfill u.2.2.1 0 0, u.2.2.2)) rfl (by rw [zfill_0]) rfl (loop _ ?_ 0 (Nat.zero_le 3216))
  refine z_aload_n d_X8_roundsOf_25 rfl ?_
  refine z_iload_n d_X8_roundsOf_26 rfl ?_
  refine z_cVi d_X8_roundsOf_27 q_X8_roundsOf_293 (by first | rfl | assumption) (by omega) ⟨rfl, rfl⟩ (ct_X8_firstBegin hR hP (hIv _) (by omega) hgo.2) rfl rfl rfl ⟨Nat.zero_le _, Nat.zero_le _⟩ ?_
  refine z_istore4 d_X8_roundsOf_30 rfl ?_
  refine z_aload_n d_X8_roundsOf_32 rfl ?_
  refine z_getR d_X8_roundsOf_33 f_X8_57 (by first | rfl | assumption) (by omega) (by first | exact hR _ _ _ rfl | rfl | assumption) ?_
  refine z_sipush d_X8_roundsOf_36 ks_201 ?_
  refine z_iload_n d_X8_roundsOf_39 rfl ?_
  refine z_imul d_X8_roundsOf_40 ?_
  refine z_iload d_X8_roundsOf_41 rfl ?_
  refine z_iadd d_X8_roundsOf_43 ?_
  refine z_bipush d_X8_roundsOf_44 kb_100 ?_
  refine z_iadd d_X8_roundsOf_46 ?_
  refine z_lconst (v := 1) d_X8_roundsOf_47 (by decide) ?_
  refine z_lastore d_X8_roundsOf_48 (by first | rfl | assumption) (by omega) (zix_e (show (201 : Int32) * nI first + nI (stV P first P 0) + 100 = nI (201 * first + stV P first P 0 + 100) from by rw [ix201]; exact nI_add _ 100) (by omega) (by decide)) ?_
  rw [vL_z]
  generalize hv : rd0 P first u = v
  have hv0 : ((u.1, u.2.1, va_up (zfill u.2.2.1 3216 0) (201 * first + stV P first P 0 + 100) 1, u.2.2.2) : zV) = v := by rw [← hv]; rfl
  have hrU : rdU P first n u = ldT P (nI first) (ldN P (n - 1) v) := by rw [← hv]; rfl
  rw [show vI I u = vI I v from by rw [← hv0]; rfl, hv0, hrU]
  refine z_iconst d_X8_roundsOf_49 ki_1 ?_
  refine z_istore5 d_X8_roundsOf_50 rfl ?_
  have loop : ∀ (Qs : State → Prop), (zZ E m_X8_roundsOf X Qs zShF 0 0 70 [some (.ref 64), some (.int (nI first)), some (.int (nI n)), some (.int (iI d)), some (.int (nI (stV P first P 0))), some (.int (nI (n - 1 + 1))), none, none] [] (vI I (ldN P (n - 1) v)) (vL L (ldN P (n - 1) v)) R) → ∀ i, i ≤ n - 1 → zZ E m_X8_roundsOf X Qs zShF 0 0 52 [some (.ref 64), some (.int (nI first)), some (.int (nI n)), some (.int (iI d)), some (.int (nI (stV P first P 0))), some (.int (nI (i + 1))), none, none] [] (vI I (ldN P i v)) (vL L (ldN P i v)) R := by
    intro Qs hx
    refine up_rec (fun i hi' ih => ?_)
    refine z_iload d_X8_roundsOf_52 rfl ?_
    refine z_iload_n d_X8_roundsOf_54 rfl ?_
    refine z_icmp_ge d_X8_roundsOf_55 (fun h_55 => ?_) (fun h_55 => ?_)
    · have e : n ≤ i + 1 := (nI_leI (a := n) (b := i + 1) (by omega) (by omega)).mp h_55
      obtain rfl : i = n - 1 := by omega
      exact hx
    · have hlt : i < n - 1 := by rcases Nat.lt_or_ge i (n - 1) with q | q; exact q; exact absurd (nI_le (a := n) (b := i + 1) (by omega) (by omega)) h_55
      refine z_aload_n d_X8_roundsOf_58 rfl ?_
      refine z_bipush d_X8_roundsOf_59 kb_m4 ?_
      refine z_cVv d_X8_roundsOf_61 q_X8_roundsOf_305 (by first | rfl | assumption) (by omega) ⟨rfl, rfl⟩ (ct_X8_leads hR hP (hIv _)) rfl rfl rfl ⟨Nat.zero_le _, Nat.zero_le _⟩ ?_
      refine z_iinc5 d_X8_roundsOf_64 ki_1 rfl ?_
      refine z_goto d_X8_roundsOf_67 ?_
      rw [nI_1, vOf_v, vI_vI, vL_vL]
      exact ih hlt
  refine loop _ ?_ 0 (Nat.zero_le _)
  refine z_aload_n d_X8_roundsOf_70 rfl ?_
  refine z_iload_n d_X8_roundsOf_71 rfl ?_
  refine z_cVv d_X8_roundsOf_72 q_X8_roundsOf_305 (by first | rfl | assumption) (by omega) ⟨rfl, rfl⟩ (ct_X8_leads hR hP (hIv _)) rfl rfl rfl ⟨Nat.zero_le _, Nat.zero_le _⟩ ?_
  rw [vOf_v, vI_vI, vL_vL]
  generalize ldT P (nI first) (ldN P (n - 1) v) = w
  refine z_lconst (v := 0) d_X8_roundsOf_75 (by decide) ?_
  refine z_lstore5 d_X8_roundsOf_76 rfl ?_
  refine z_iconst d_X8_roundsOf_78 ki_0 ?_
  refine z_istore7 d_X8_roundsOf_79 rfl ?_
  have loop : ∀ (Qs : State → Prop), (zZ E m_X8_roundsOf X Qs zShF 0 0 133 [some (.ref 64), some (.int (nI first)), some (.int (nI n)), some (.int (iI d)), some (.int (nI (stV P first P 0))), some (.long (rsW P w.2.2.1 first (stV P first P 0) d 201)), none, some (.int (nI 201))] [] (vI I w) (vL L w) R) → ∀ i, i ≤ 201 → zZ E m_X8_roundsOf X Qs zShF 0 0 81 [some (.ref 64), some (.int (nI first)), some (.int (nI n)), some (.int (iI d)), some (.int (nI (stV P first P 0))), some (.long (rsW P w.2.2.1 first (stV P first P 0) d i)), none, some (.int (nI i))] [] (vI I w) (vL L w) R := by
    intro Qs hx
    refine up_rec (fun i hi' ih => ?_)
    refine z_iload d_X8_roundsOf_81 rfl ?_
    refine z_sipush d_X8_roundsOf_83 ks_201 ?_
    refine z_icmp_ge d_X8_roundsOf_86 (fun h_86 => ?_) (fun h_86 => ?_)
    · obtain rfl := eq_of_ge (n := 201) (by decide) hi' h_86
      exact hx
    · have hlt := lt_of_nge (n := 201) (by decide) h_86 (by omega)
      refine z_lload d_X8_roundsOf_89 rfl ?_
      refine z_aload_n d_X8_roundsOf_91 rfl ?_
      refine z_iload d_X8_roundsOf_92 rfl ?_
      refine z_bipush d_X8_roundsOf_94 kb_100 ?_
      refine z_isub d_X8_roundsOf_96 ?_
      refine z_iload d_X8_roundsOf_97 rfl ?_
      refine z_isub d_X8_roundsOf_99 ?_
      refine z_topi (y := iI ((i : Int) - 100 - (stV P first P 0 : Nat))) (by rw [show nI i - (100 : Int32) = iI ((i : Int) - 100) from iI_sub (i : Int) 100]; exact iI_sub _ ((stV P first P 0 : Nat) : Int)) ?_
      refine z_cVi d_X8_roundsOf_100 q_X8_roundsOf_302 (by first | rfl | assumption) (by omega) ⟨rfl, rfl⟩ (ct_X8_wells hR hP (hIv _) (by omega) (by omega)) rfl rfl rfl ⟨Nat.zero_le _, Nat.zero_le _⟩ ?_
      refine z_iload_n d_X8_roundsOf_103 rfl ?_
      have hdv : -220 ≤ ((i : Int) - 100 - (stV P first P 0 : Nat)).ediv P ∧ ((i : Int) - 100 - (stV P first P 0 : Nat)).ediv P ≤ 220 := by
        rcases hP with rfl | rfl
        · have : ((i : Int) - 100 - (stV 3 first 3 0 : Nat)).ediv ((3 : Nat) : Int) = ((i : Int) - 100 - (stV 3 first 3 0 : Nat)) / 3 := rfl
          omega
        · have : ((i : Int) - 100 - (stV 4 first 4 0 : Nat)).ediv ((4 : Nat) : Int) = ((i : Int) - 100 - (stV 4 first 4 0 : Nat)) / 4 := rfl
          omega
      have heq : iI (((i : Int) - 100 - (stV P first P 0 : Nat)).ediv P) = iI d ↔ ((i : Int) - 100 - (stV P first P 0 : Nat)).ediv P = d := iI_eq (by omega) (by omega) (by omega) (by omega)
      refine z_icmp_ne d_X8_roundsOf_104 (fun h_104 => ?_) (fun h_104 => ?_)
      · refine z_lconst (v := 0) d_X8_roundsOf_123 (by decide) ?_
        refine z_ladd d_X8_roundsOf_124 ?_
        refine z_lstore5 d_X8_roundsOf_125 rfl ?_
        refine z_iinc7 d_X8_roundsOf_127 ki_1 rfl ?_
        refine z_goto d_X8_roundsOf_130 ?_
        rw [nI_1]
        have h := ih hlt
        rw [rsW] at h
        first
          | (rw [if_neg (mt heq.mpr h_104)] at h; exact h)
          | (rw [if_pos (heq.mp h_104)] at h; exact h)
      · refine z_aload_n d_X8_roundsOf_107 rfl ?_
        refine z_getR d_X8_roundsOf_108 f_X8_57 (by first | rfl | assumption) (by omega) (by first | exact hR _ _ _ rfl | rfl | assumption) ?_
        refine z_sipush d_X8_roundsOf_111 ks_201 ?_
        refine z_iload_n d_X8_roundsOf_114 rfl ?_
        refine z_imul d_X8_roundsOf_115 ?_
        refine z_iload d_X8_roundsOf_116 rfl ?_
        refine z_iadd d_X8_roundsOf_118 ?_
        refine z_laload d_X8_roundsOf_119 (by first | rfl | assumption) (by omega) (zix_e (ix201 _ _) (by omega) (by decide)) ?_
        rw [vL_80]
        refine z_goto d_X8_roundsOf_120 ?_
        refine z_ladd d_X8_roundsOf_124 ?_
        refine z_lstore5 d_X8_roundsOf_125 rfl ?_
        refine z_iinc7 d_X8_roundsOf_127 ki_1 rfl ?_
        refine z_goto d_X8_roundsOf_130 ?_
        rw [nI_1]
        have h := ih hlt
        rw [rsW] at h
        first
          | (rw [if_neg (mt heq.mpr h_104)] at h; exact h)
          | (rw [if_pos (heq.mp h_104)] at h; exact h)
  refine loop _ ?_ 0 (Nat.zero_le 201)
  refine z_lload d_X8_roundsOf_133 rfl ?_
  exact z_lreturn d_X8_roundsOf_135 rfl ⟨rfl, rfl, rfl, rfl, rfl⟩
