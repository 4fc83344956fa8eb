/-! gates: how many ways there are -/
def sumN (f : Nat → Nat) : Nat → Nat
  | 0 => 0
  | n + 1 => sumN f n + f n
def oN (n : Nat) : Int64 := Int64.ofNat n
theorem oN_add (a b : Nat) : oN (a + b) = oN a + oN b := Int64.ofNat_add a b
theorem oN_0 : oN 0 = 0 := rfl
theorem sumN_congr {f g : Nat → Nat} : ∀ n, (∀ k, k < n → f k = g k) → sumN f n = sumN g n
  | 0, _ => rfl
  | n + 1, h => by rw [sumN, sumN, sumN_congr n (fun k hk => h k (by omega)), h n (by omega)]
/-- what comes under the REGION q from the REGION r -/
def tT (P : Nat) (D : Nat → Int → Nat) (r q : Nat) (w : Int) : Nat := match gtT P r (rgW P q) with
  | none => 0
  | some x => if x.1 = q then D r (w - x.2) else 0
def dS (P : Nat) (D : Nat → Int → Nat) (q : Nat) (w : Int) : Nat := sumN (fun r => tT P D r q w) (rgN P)
def dD (P r0 : Nat) : Nat → Nat → Int → Nat
  | 0 => fun r w => if r = r0 ∧ w = 0 then 1 else 0
  | i + 1 => dS P (dD P r0 i)
theorem sumN_ne {f : Nat → Nat} : ∀ n, sumN f n ≠ 0 → ∃ k, k < n ∧ f k ≠ 0
  | 0, h => absurd rfl h
  | n + 1, h => by
    by_cases e : f n = 0
    · have h2 : sumN f n ≠ 0 := by rw [sumN, e] at h; simpa using h
      obtain ⟨k, hk, hf⟩ := sumN_ne n h2
      exact ⟨k, by omega, hf⟩
    · exact ⟨n, by omega, e⟩
theorem dD_sup {P r0 : Nat} (hP : P = 3 ∨ P = 4) : ∀ (i q : Nat) (w : Int), q < rgN P → dD P r0 i q w ≠ 0 → (rgS P q : Int) + P * w - rgS P r0 ≤ i * ((P : Int) - 2) ∧ -(i * ((P : Int) - 2)) ≤ (rgS P q : Int) + P * w - rgS P r0
  | 0, q, w, hq, h => by
    unfold dD at h
    by_cases e : q = r0 ∧ w = 0
    · obtain ⟨rfl, rfl⟩ := e
      simp
    · rw [if_neg e] at h; exact absurd rfl h
  | i + 1, q, w, hq, h => by
    obtain ⟨r, hr, h2⟩ := sumN_ne _ h
    unfold tT at h2
    have hqb := rg_b hP hq
    cases hgt : gtT P r (rgW P q) with
    | none => rw [hgt] at h2; exact absurd rfl h2
    | some x =>
      rw [hgt] at h2
      have h3 : (if x.1 = q then dD P r0 i r (w - x.2) else 0) ≠ 0 := h2
      by_cases e : x.1 = q
      · rw [if_pos e] at h3
        have ih := dD_sup hP i r (w - x.2) hr h3
        obtain ⟨-, -, -, -, -, a6, a7⟩ := gt_some (q := x.1) (y := x.2) hP hr hqb.1 hqb.2.1 hgt
        rw [e] at a6 a7
        have hm : (P : Int) * (w - x.2) = P * w - P * x.2 := Int.mul_sub _ _ _
        have hi' : ((i + 1 : Nat) : Int) * ((P : Int) - 2) = i * ((P : Int) - 2) + ((P : Int) - 2) := by
          rw [show ((i + 1 : Nat) : Int) = (i : Int) + 1 by omega, Int.add_mul, Int.one_mul]
        omega
      · rw [if_neg e] at h3; exact absurd rfl h3
theorem dD_b {P r0 i q : Nat} {w : Int} (hP : P = 3 ∨ P = 4) (hq : q < rgN P) (hr : r0 < rgN P) (hi : i ≤ 11) (h : dD P r0 i q w ≠ 0) : -7 ≤ w ∧ w < 7 := by
  have h1 := dD_sup hP i q w hq h
  have h2 := (rg_b hP hq).2.2.1
  have h3 := (rg_b hP hr).2.2.1
  rcases hP with rfl | rfl
  · have e : (i : Int) * (((3 : Nat) : Int) - 2) = i := by omega
    rw [e] at h1
    omega
  · have e : (i : Int) * (((4 : Nat) : Int) - 2) = 2 * i := by omega
    rw [e] at h1
    omega
/-- the ways of one REGION added to another's -/
def awP (wy nx : Nat → Int64) (f t : Nat) (y : Int) (m : Nat) : Nat → Int64 := fun j =>
  if t * 16 ≤ j ∧ j < t * 16 + 16 ∧ 0 ≤ ((j : Int) - t * 16) - y ∧ ((j : Int) - t * 16) - y < m then nx j + wy (f * 16 + (((j : Int) - t * 16) - y).toNat) else nx j
theorem awP_s {wy nx : Nat → Int64} {f t : Nat} {y : Int} {w : Nat} (h0 : 0 ≤ (w : Int) + y) (h16 : (w : Int) + y < 16) : va_up (awP wy nx f t y w) (t * 16 + ((w : Int) + y).toNat) (awP wy nx f t y w (t * 16 + ((w : Int) + y).toNat) + wy (f * 16 + w)) = awP wy nx f t y (w + 1) := by
  funext j
  by_cases e : j = t * 16 + ((w : Int) + y).toNat
  · subst e
    rw [up_eq]
    unfold awP
    rw [if_neg (by omega), if_pos (by omega)]
    congr 2
    omega
  · rw [up_ne e]
    unfold awP
    by_cases c : t * 16 ≤ j ∧ j < t * 16 + 16 ∧ 0 ≤ ((j : Int) - t * 16) - y ∧ ((j : Int) - t * 16) - y < w
    · rw [if_pos c, if_pos (by omega)]
    · rw [if_neg c, if_neg (by omega)]
theorem awP_0 {wy nx : Nat → Int64} {f t : Nat} {y : Int} {w : Nat} (h : (w : Int) = 0 ∨ (w : Int) = -y) : awP wy nx f t y w = nx := by
  funext j
  unfold awP
  rw [if_neg (by omega)]
def wAB (R : zR) (A B : Nat) : Prop := R 37 11 = some A ∧ R 37 12 = some B ∧ ((A = 43 ∧ B = 44) ∨ (A = 44 ∧ B = 43))
theorem wSh {A : Nat} (h : A = 43 ∨ A = 44) : zShF[A]? = some (3, 256) ∧ A < 1000000 := by rcases h with rfl | rfl <;> exact ⟨rfl, by decide⟩
theorem mx0 {y : Int} (h1 : -1 ≤ y) (h2 : y ≤ 1) : (if (0 : Int32) < -(iI y) then -(iI y) else 0) = nI (-y).toNat := by
  rcases (show y = -1 ∨ y = 0 ∨ y = 1 by omega) with rfl | rfl | rfl <;> decide
def pS (P : Nat) (D : Nat → Int → Nat) (i b q : Nat) (w : Int) : Nat := sumN (fun r => tT P D r q w) i + (if rgW P q < b then tT P D i q w else 0)
set_option maxRecDepth 100000 in
set_option maxHeartbeats 4000000 in
theorem ct_X1_addWays {E : zE} {I : zI} {L : zL} {R : zR} {f t A B : Nat} {y : Int} (hR : zLx R) (hAB : wAB R A B) (hf : f < 16) (ht : t < 16) (hy1 : -1 ≤ y) (hy2 : y ≤ 1) : zCf E m_X1_addWays zShF [.ref 37, .int (nI f), .int (nI t), .int (iI y)] I L R (none) (I) (va_up L B (awP (L A) (L B) f t y 16)) (R) := by
  obtain ⟨hA, hB, hABn⟩ := hAB
  have hsA := wSh (A := A) (by omega)
  have hsB := wSh (A := B) (by omega)
  have hAl := hsA.2
  have hBl := hsB.2
  have hsA := hsA.1
  have hsB := hsB.1
  have hne : A ≠ B := by omega
  have hW : ∃ W : Nat, (W : Int) = min 16 (16 - y) := ⟨(min 16 (16 - y)).toNat, by omega⟩
  obtain ⟨W, hW⟩ := hW
  have hW17 : awP (L A) (L B) f t y 16 = awP (L A) (L B) f t y W := by
    funext j
    unfold awP
    by_cases c : t * 16 ≤ j ∧ j < t * 16 + 16 ∧ 0 ≤ ((j : Int) - t * 16) - y ∧ ((j : Int) - t * 16) - y < W
    · rw [if_pos c, if_pos (by omega)]
    · rw [if_neg c, if_neg (by omega)]
  rw [hW17]
  refine z_met (by decide) [some (.ref 37), some (.int (nI f)), some (.int (nI t)), some (.int (iI y)), none] rfl rfl (Nat.le_of_ble_eq_true rfl) (fun X => ?_)
  refine z_iconst d_X1_addWays_0 ki_0 ?_
  refine z_iload_n d_X1_addWays_1 rfl ?_
  refine z_ineg d_X1_addWays_2 ?_
  refine z_mmax d_X1_addWays_3 q_X1_addWays_127 (by decide) (Nat.le_of_ble_eq_true rfl) ⟨Nat.zero_le _, Nat.zero_le _⟩ ?_
  rw [mx0 hy1 hy2]
  refine z_istore4 d_X1_addWays_6 rfl ?_
  have loop : ∀ (Qs : State → Prop), (∀ o4 : Option Value, zZ E m_X1_addWays X Qs zShF 0 0 59 [some (.ref 37), some (.int (nI f)), some (.int (nI t)), some (.int (iI y)), o4] [] I (va_up L B (awP (L A) (L B) f t y W)) R) → ∀ w, w ≤ W → (-y).toNat ≤ w → zZ E m_X1_addWays X Qs zShF 0 0 8 [some (.ref 37), some (.int (nI f)), some (.int (nI t)), some (.int (iI y)), some (.int (nI w))] [] I (va_up L B (awP (L A) (L B) f t y w)) R := by
    intro Qs hx
    refine up_rec (fun w hw ih h0 => ?_)
    have hsum : nI w + iI y = iI ((w : Int) + y) := iI_add (w : Int) y
    refine z_iload d_X1_addWays_8 rfl ?_
    refine z_bipush d_X1_addWays_10 kb_16 ?_
    refine z_icmp_ge d_X1_addWays_12 (fun h_12 => ?_) (fun h_12 => ?_)
    · have e : 16 ≤ w := (nI_leI (a := 16) (b := w) (by decide) (by omega)).mp h_12
      obtain rfl : w = W := by omega
      exact hx _
    · refine z_iload d_X1_addWays_15 rfl ?_
      refine z_iload_n d_X1_addWays_17 rfl ?_
      refine z_iadd d_X1_addWays_18 ?_
      refine z_bipush d_X1_addWays_19 kb_16 ?_
      refine z_icmp_ge d_X1_addWays_21 (fun h_21 => ?_) (fun h_21 => ?_)
      · rw [hsum] at h_21
        have e : (16 : Int) ≤ (w : Int) + y := (iI_le (a := 16) (b := (w : Int) + y) (by decide) (by decide) (by omega) (by omega)).mp h_21
        obtain rfl : w = W := by omega
        exact hx _
      · have hw16 := lt_of_nge (n := 16) (by decide) h_12 (by omega)
        have hwy : (w : Int) + y < 16 := by
          have : ¬ (16 : Int) ≤ (w : Int) + y := fun q => h_21 (by rw [hsum]; exact (iI_le (a := 16) (b := (w : Int) + y) (by decide) (by decide) (by omega) (by omega)).mpr q)
          omega
        have hix : nI t * (16 : Int32) + nI w + iI y = nI (t * 16 + ((w : Int) + y).toNat) := by
          rw [show nI t * (16 : Int32) + nI w + iI y = iI ((t * 16 + w : Nat) : Int) + iI y from by rw [ix16]; rfl, iI_add]
          show iI _ = iI ((t * 16 + ((w : Int) + y).toNat : Nat) : Int)
          congr 1
          omega
        refine z_aload_n d_X1_addWays_24 rfl ?_
        refine z_getR d_X1_addWays_25 f_X1_31 (by first | rfl | assumption) (by omega) (by first | exact hR _ _ _ rfl | rfl | assumption) ?_
        refine z_iload_n d_X1_addWays_28 rfl ?_
        refine z_bipush d_X1_addWays_29 kb_16 ?_
        refine z_imul d_X1_addWays_31 ?_
        refine z_iload d_X1_addWays_32 rfl ?_
        refine z_iadd d_X1_addWays_34 ?_
        refine z_iload_n d_X1_addWays_35 rfl ?_
        refine z_iadd d_X1_addWays_36 ?_
        refine z_topi hix ?_
        refine z_dup2 d_X1_addWays_37 rfl rfl ?_
        refine z_laload d_X1_addWays_38 (by first | rfl | assumption) (by omega) (zix_nI (by omega) (by decide)) ?_
        rw [up_eq]
        refine z_aload_n d_X1_addWays_39 rfl ?_
        refine z_getR d_X1_addWays_40 f_X1_27 (by first | rfl | assumption) (by omega) (by first | exact hR _ _ _ rfl | rfl | assumption) ?_
        refine z_iload_n d_X1_addWays_43 rfl ?_
        refine z_bipush d_X1_addWays_44 kb_16 ?_
        refine z_imul d_X1_addWays_46 ?_
        refine z_iload d_X1_addWays_47 rfl ?_
        refine z_iadd d_X1_addWays_49 ?_
        refine z_laload d_X1_addWays_50 (by first | rfl | assumption) (by omega) (zix_e (ix16 f w) (by omega) (by decide)) ?_
        rw [up_ne hne]
        refine z_ladd d_X1_addWays_51 ?_
        refine z_lastore d_X1_addWays_52 (by first | rfl | assumption) (by omega) (zix_nI (by omega) (by decide)) ?_
        refine z_iinc4 d_X1_addWays_53 ki_1 rfl ?_
        refine z_goto d_X1_addWays_56 ?_
        have h := ih (by omega) (by omega)
        rw [nI_1]
        refine z_mem rfl ?_ rfl h
        rw [zj_up, awP_s (by omega) hwy]
  refine z_mem (L' := va_up L B (awP (L A) (L B) f t y (-y).toNat)) rfl (by rw [awP_0 (by omega), up_self]) rfl (loop _ (fun o4 => ?_) _ (by omega) (Nat.le_refl _))
  exact z_return d_X1_addWays_59 rfl ⟨rfl, rfl, rfl, rfl, rfl⟩
theorem wv0 {L : zL} {A B : Nat} (h : (A = 43 ∧ B = 44) ∨ (A = 44 ∧ B = 43)) (f : Nat → Int64) : ∃ g k, va_up L B f = va_up (va_up L 43 g) 44 k := by
  rcases h with ⟨rfl, rfl⟩ | ⟨rfl, rfl⟩
  · exact ⟨L 43, f, by rw [up_self]⟩
  · exact ⟨f, L 44, by
      have e : va_up L 43 f 44 = L 44 := up_ne (by decide)
      rw [← e, up_self]⟩
theorem wv1 {L : zL} {g k g' k' : Nat → Int64} : va_up (va_up (va_up (va_up L 43 g) 44 k) 43 g') 44 k' = va_up (va_up L 43 g') 44 k' := by
  rw [up_comm _ _ _ (show 44 ≠ 43 by decide), up_up, up_up]
theorem wAB_sw {R : zR} {A B : Nat} (h : wAB R A B) : wAB (zr (zr R 37 11 (some B)) 37 12 (some A)) B A := by
  refine ⟨?_, ?_, ?_⟩
  · simp [zr, up_eq, va_up]
  · simp [zr, up_eq, va_up]
  · have := h.2.2; omega
set_option maxRecDepth 100000 in
set_option maxHeartbeats 4000000 in
theorem ct_X1_goOnByAWord {E : zE} {I : zI} {L : zL} {R : zR} {P A B : Nat} {D : Nat → Int → Nat} (hR : zLx R) (hP : P = 3 ∨ P = 4) (hT : gT P I) (hAB : wAB R A B) (hD : ∀ r w, r < rgN P → w < 16 → L A (r * 16 + w) = oN (D r ((w : Int) - 8))) (hD0 : ∀ r w, r < rgN P → D r w ≠ 0 → -7 ≤ w ∧ w < 7) : zCt E m_X1_goOnByAWord zShF [.ref 37] I L R (fun r Sh1 I1 L1 R1 => r = none ∧ Sh1 = zShF ∧ I1 = I ∧ ((∃ g k, L1 = va_up (va_up L 43 g) 44 k) ∧ (∀ r w, r < rgN P → w < 16 → L1 B (r * 16 + w) = oN (dS P D r ((w : Int) - 8)))) ∧ R1 = zr (zr R 37 11 (some B)) 37 12 (some A)) := by
  have hABx := hAB
  obtain ⟨hA, hB, hABn⟩ := hAB
  have hsA := wSh (A := A) (by omega)
  have hsB := wSh (A := B) (by omega)
  have hAl := hsA.2
  have hBl := hsB.2
  have hsA := hsA.1
  have hsB := hsB.1
  have hne : A ≠ B := by omega
  have hp2 := P2 hP
  have hn := rg_n hP
  have hI := hT.1.1
  refine z_met (by decide) [some (.ref 37), none, none, none] rfl rfl (Nat.le_of_ble_eq_true rfl) (fun X => ?_)
  refine z_aload_n d_X1_goOnByAWord_0 rfl ?_
  refine z_getR d_X1_goOnByAWord_1 f_X1_31 (by first | rfl | assumption) (by omega) (by first | exact hR _ _ _ rfl | rfl | assumption) ?_
  refine z_lconst (v := 0) d_X1_goOnByAWord_4 (by decide) ?_
  refine z_cSv d_X1_goOnByAWord_5 q_X1_goOnByAWord_117 ⟨rfl, rfl⟩ (ct_fillL hsB hBl (by decide)) rfl rfl rfl ⟨Nat.zero_le _, Nat.zero_le _⟩ ?_
  refine z_iconst d_X1_goOnByAWord_8 ki_0 ?_
  refine z_istore1 d_X1_goOnByAWord_9 rfl ?_
  have loop : ∀ (Qs : State → Prop), (∀ (N : Nat → Int64) (o1 o2 o3 : Option Value), (∀ q w, q < rgN P → w < 16 → N (q * 16 + w) = oN (dS P D q ((w : Int) - 8))) → zZ E m_X1_goOnByAWord X Qs zShF 0 0 73 [some (.ref 37), o1, o2, o3] [] I (va_up L B N) R) → ∀ i, i ≤ rgN P → ∀ (N : Nat → Int64) (o2 o3 : Option Value), (∀ q w, q < rgN P → w < 16 → N (q * 16 + w) = oN (sumN (fun r => tT P D r q ((w : Int) - 8)) i)) → zZ E m_X1_goOnByAWord X Qs zShF 0 0 10 [some (.ref 37), some (.int (nI i)), o2, o3] [] I (va_up L B N) R := by
    intro Qs hx
    refine up_rec (fun i hi' ih N o2 o3 hN => ?_)
    refine z_iload_n d_X1_goOnByAWord_10 rfl ?_
    refine z_aload_n d_X1_goOnByAWord_11 rfl ?_
    refine z_getI d_X1_goOnByAWord_12 f_X1_104 (by first | rfl | assumption) (by omega) ?_
    rw [hT.1.2.1]
    refine z_icmp_ge d_X1_goOnByAWord_15 (fun h_15 => ?_) (fun h_15 => ?_)
    · obtain rfl := eq_of_ge (by omega) hi' h_15
      exact hx N _ _ _ hN
    · have hir := lt_of_nge (by omega) h_15 (by omega)
      have hrb := rg_b hP hir
      refine z_iconst d_X1_goOnByAWord_18 ki_1 ?_
      refine z_istore2 d_X1_goOnByAWord_19 rfl ?_
      have loop2 : ∀ (Qs : State → Prop), (∀ (N : Nat → Int64) (o2 o3 : Option Value), (∀ q w, q < rgN P → w < 16 → N (q * 16 + w) = oN (sumN (fun r => tT P D r q ((w : Int) - 8)) (i + 1))) → zZ E m_X1_goOnByAWord X Qs zShF 0 0 67 [some (.ref 37), some (.int (nI i)), o2, o3] [] I (va_up L B N) R) → ∀ g, g ≤ 2 ^ P - 2 → ∀ (N : Nat → Int64) (o3 : Option Value), (∀ q w, q < rgN P → w < 16 → N (q * 16 + w) = oN (pS P D i (g + 1) q ((w : Int) - 8))) → zZ E m_X1_goOnByAWord X Qs zShF 0 0 20 [some (.ref 37), some (.int (nI i)), some (.int (nI (g + 1))), o3] [] I (va_up L B N) R := by
        intro Qs hx2
        refine up_rec (fun g hg ih2 N o3 hN => ?_)
        refine z_iload_n d_X1_goOnByAWord_20 rfl ?_
        refine z_aload_n d_X1_goOnByAWord_21 rfl ?_
        refine z_cVi d_X1_goOnByAWord_22 q_X1_goOnByAWord_60 (by first | rfl | assumption) (by omega) ⟨rfl, rfl⟩ (ct_X1_allHigh hR hP hI) rfl rfl rfl ⟨Nat.zero_le _, Nat.zero_le _⟩ ?_
        refine z_icmp_ge d_X1_goOnByAWord_25 (fun h_25 => ?_) (fun h_25 => ?_)
        · have e : 2 ^ P - 1 ≤ g + 1 := (nI_leI (a := 2 ^ P - 1) (b := g + 1) (by omega) (by omega)).mp h_25
          exact hx2 N _ _ (fun q w h1 h2 => by rw [hN q w h1 h2]; unfold pS; have := rg_b hP h1; rw [if_pos (by omega)]; rfl)
        · have hgg : g < 2 ^ P - 2 := by rcases Nat.lt_or_ge g (2 ^ P - 2) with q | q; exact q; exact absurd (nI_le (a := 2 ^ P - 1) (b := g + 1) (by omega) (by omega)) h_25
          have hge := hT.2 i (g + 1) hir (by omega) (by omega)
          have hix : zix (nI i * (16 : Int32) + nI (g + 1)) 256 (i * 16 + (g + 1)) := zix_e (ix16 i (g + 1)) (by omega) (by decide)
          refine z_iload_n d_X1_goOnByAWord_28 rfl ?_
          refine z_bipush d_X1_goOnByAWord_29 kb_16 ?_
          refine z_imul d_X1_goOnByAWord_31 ?_
          refine z_iload_n d_X1_goOnByAWord_32 rfl ?_
          refine z_iadd d_X1_goOnByAWord_33 ?_
          refine z_istore3 d_X1_goOnByAWord_34 rfl ?_
          refine z_aload_n d_X1_goOnByAWord_35 rfl ?_
          refine z_getR d_X1_goOnByAWord_36 f_X1_21 (by first | rfl | assumption) (by omega) (by first | exact hR _ _ _ rfl | rfl | assumption) ?_
          refine z_iload_n d_X1_goOnByAWord_39 rfl ?_
          refine z_iaload d_X1_goOnByAWord_40 (by first | rfl | assumption) (by omega) hix ?_
          refine z_if_lt d_X1_goOnByAWord_41 (fun h_41 => ?_) (fun h_41 => ?_)
          · have hno : gtT P i (g + 1) = none := by
              cases hgt : gtT P i (g + 1) with
              | none => rfl
              | some x =>
                exfalso
                have hq := (gt_some (q := x.1) (y := x.2) hP hir (by omega) (by omega) hgt).1
                unfold gE at hge
                rw [hgt] at hge
                have h4 : I 41 (i * 16 + (g + 1)) = nI x.1 := hge.1
                rw [h4] at h_41
                exact absurd h_41 (nI_pos (by omega))
            refine z_iinc2 d_X1_goOnByAWord_61 ki_1 rfl ?_
            refine z_goto d_X1_goOnByAWord_64 ?_
            rw [nI_1]
            refine ih2 hgg N _ (fun q w h1 h2 => ?_)
            rw [hN q w h1 h2]
            unfold pS
            by_cases e1 : rgW P q < g + 1
            · rw [if_pos e1, if_pos (by omega)]
            · rw [if_neg e1]
              by_cases e2 : rgW P q < g + 1 + 1
              · rw [if_pos e2]
                have e3 : rgW P q = g + 1 := by omega
                unfold tT
                rw [e3, hno]
              · rw [if_neg e2]
          · have hgs : ∃ t y, gtT P i (g + 1) = some (t, y) := by
              cases hgt : gtT P i (g + 1) with
              | none =>
                exfalso
                unfold gE at hge
                rw [hgt] at hge
                have h4 : I 41 (i * 16 + (g + 1)) = -1 := hge
                rw [h4] at h_41
                exact h_41 (by decide)
              | some x => exact ⟨x.1, x.2, rfl⟩
            obtain ⟨t, y, hgt⟩ := hgs
            obtain ⟨ht, htw, -, hy1, hy2, -, -⟩ := gt_some hP hir (by omega) (by omega) hgt
            have hge2 : I 41 (i * 16 + (g + 1)) = nI t ∧ I 42 (i * 16 + (g + 1)) = iI y := by unfold gE at hge; rw [hgt] at hge; exact hge
            refine z_aload_n d_X1_goOnByAWord_44 rfl ?_
            refine z_iload_n d_X1_goOnByAWord_45 rfl ?_
            refine z_aload_n d_X1_goOnByAWord_46 rfl ?_
            refine z_getR d_X1_goOnByAWord_47 f_X1_21 (by first | rfl | assumption) (by omega) (by first | exact hR _ _ _ rfl | rfl | assumption) ?_
            refine z_iload_n d_X1_goOnByAWord_50 rfl ?_
            refine z_iaload d_X1_goOnByAWord_51 (by first | rfl | assumption) (by omega) hix ?_
            rw [hge2.1]
            refine z_aload_n d_X1_goOnByAWord_52 rfl ?_
            refine z_getR d_X1_goOnByAWord_53 f_X1_24 (by first | rfl | assumption) (by omega) (by first | exact hR _ _ _ rfl | rfl | assumption) ?_
            refine z_iload_n d_X1_goOnByAWord_56 rfl ?_
            refine z_iaload d_X1_goOnByAWord_57 (by first | rfl | assumption) (by omega) hix ?_
            rw [hge2.2]
            refine z_cVv d_X1_goOnByAWord_58 q_X1_goOnByAWord_123 (by first | rfl | assumption) (by omega) ⟨rfl, rfl⟩ (ct_X1_addWays hR hABx (by omega) (by omega) hy1 hy2) rfl rfl rfl ⟨Nat.zero_le _, Nat.zero_le _⟩ ?_
            rw [up_eq, up_ne hne, up_up]
            refine z_iinc2 d_X1_goOnByAWord_61 ki_1 rfl ?_
            refine z_goto d_X1_goOnByAWord_64 ?_
            rw [nI_1]
            refine ih2 hgg _ _ (fun q w h1 h2 => ?_)
            have hNq := hN q w h1 h2
            unfold awP
            by_cases e : q = t
            · subst e
              have hpS : pS P D i (g + 1 + 1) q ((w : Int) - 8) = pS P D i (g + 1) q ((w : Int) - 8) + D i ((w : Int) - 8 - y) := by
                unfold pS
                rw [if_pos (by omega), if_neg (by omega), Nat.add_zero]
                congr 1
                unfold tT
                rw [htw, hgt]
                exact if_pos rfl
              rw [hpS, oN_add, ← hNq]
              by_cases c : q * 16 ≤ q * 16 + w ∧ q * 16 + w < q * 16 + 16 ∧ 0 ≤ (((q * 16 + w : Nat) : Int) - q * 16) - y ∧ (((q * 16 + w : Nat) : Int) - q * 16) - y < (16 : Nat)
              · rw [if_pos c]
                congr 1
                rw [hD i _ hir (by omega)]
                congr 2
                omega
              · rw [if_neg c]
                have z0 : D i ((w : Int) - 8 - y) = 0 := by
                  rcases Nat.eq_zero_or_pos (D i ((w : Int) - 8 - y)) with q0 | q0
                  · exact q0
                  · have := hD0 i ((w : Int) - 8 - y) hir (by omega); omega
                rw [z0, oN_0, Int64.add_zero]
            · rw [if_neg (by omega), hNq]
              congr 1
              unfold pS
              by_cases e1 : rgW P q < g + 1
              · rw [if_pos e1, if_pos (by omega)]
              · rw [if_neg e1]
                by_cases e2 : rgW P q < g + 1 + 1
                · rw [if_pos e2]
                  have e3 : rgW P q = g + 1 := by omega
                  unfold tT
                  rw [e3, hgt]
                  show _ + 0 = _ + (if t = q then D i ((w : Int) - 8 - y) else 0)
                  rw [if_neg (fun q2 => e (Eq.symm q2))]
                · rw [if_neg e2]
      refine loop2 _ (fun N o2 o3 hN => ?_) 0 (Nat.zero_le _) N o3 (fun q w h1 h2 => by rw [hN q w h1 h2]; unfold pS; have := rg_b hP h1; rw [if_neg (by omega), Nat.add_zero])
      refine z_iinc1 d_X1_goOnByAWord_67 ki_1 rfl ?_
      refine z_goto d_X1_goOnByAWord_70 ?_
      rw [nI_1]
      exact ih hir N _ _ hN
  refine loop _ (fun N o1 o2 o3 hN => ?_) 0 (Nat.zero_le _) _ none none (fun q w h1 h2 => by unfold zfill; rw [if_pos (by omega)]; rfl)
  refine z_aload_n d_X1_goOnByAWord_73 rfl ?_
  refine z_getR d_X1_goOnByAWord_74 f_X1_27 (by first | rfl | assumption) (by omega) hA ?_
  refine z_astore1 d_X1_goOnByAWord_77 rfl ?_
  refine z_aload_n d_X1_goOnByAWord_78 rfl ?_
  refine z_aload_n d_X1_goOnByAWord_79 rfl ?_
  refine z_getR d_X1_goOnByAWord_80 f_X1_31 (by first | rfl | assumption) (by omega) (by simpa using hB) ?_
  refine z_putR d_X1_goOnByAWord_83 f_X1_27 p_X1_11 (fun _ => rfl) (fun _ => rfl) (by first | rfl | assumption) (by omega) ?_
  refine z_aload_n d_X1_goOnByAWord_86 rfl ?_
  refine z_aload_n d_X1_goOnByAWord_87 rfl ?_
  refine z_putR d_X1_goOnByAWord_88 f_X1_31 p_X1_12 (fun _ => rfl) (fun _ => rfl) (by first | rfl | assumption) (by omega) ?_
  exact z_return d_X1_goOnByAWord_91 rfl ⟨rfl, rfl, rfl, ⟨wv0 hABn N, fun r w h1 h2 => by rw [up_eq]; exact hN r w h1 h2⟩, rfl⟩
theorem st3 : ∀ a : Fin 8, (∃ g : Fin 3, bg 3 a.val (g.val : Nat) = true) → stV 3 a.val 3 0 < 3 ∧ bg 3 a.val (stV 3 a.val 3 0 : Nat) = true := by decide
theorem st4 : ∀ a : Fin 16, (∃ g : Fin 4, bg 4 a.val (g.val : Nat) = true) → stV 4 a.val 4 0 < 4 ∧ bg 4 a.val (stV 4 a.val 4 0 : Nat) = true := by decide
theorem st_of {P a : Nat} (hP : P = 3 ∨ P = 4) (ha : a < 2 ^ P) (h : ∃ g : Nat, g < P ∧ bg P a g = true) : stV P a P 0 < P ∧ bg P a (stV P a P 0 : Nat) = true := by
  obtain ⟨g, h1, h2⟩ := h
  rcases hP with rfl | rfl
  · exact st3 ⟨a, ha⟩ ⟨⟨g, h1⟩, h2⟩
  · exact st4 ⟨a, ha⟩ ⟨⟨g, h1⟩, h2⟩
theorem good_pos3 : ∀ a : Fin 8, cntV (fun g => bg 3 a.val g) 3 = 1 → 1 ≤ a.val := by decide
theorem good_pos4 : ∀ a : Fin 16, cntV (fun g => bg 4 a.val g) 4 = 1 → 1 ≤ a.val := by decide
theorem good_pos {P a : Nat} (hP : P = 3 ∨ P = 4) (ha : a < 2 ^ P) (h : cntV (fun g => bg P a g) P = 1) : 1 ≤ a := by
  rcases hP with rfl | rfl
  · exact good_pos3 ⟨a, ha⟩ h
  · exact good_pos4 ⟨a, ha⟩ h
/-- the REGION of a good WORD -/
def r0F (P a : Nat) : Nat := rgC P a (stV P a P 0)
theorem r0_of {P a : Nat} (hP : P = 3 ∨ P = 4) (ha : a < 2 ^ P) (h : cntV (fun g => bg P a g) P = 1) : r0F P a < rgN P ∧ rgW P (r0F P a) = a ∧ rgS P (r0F P a) = stV P a P 0 ∧ 1 ≤ a ∧ a < 2 ^ P - 1 := by
  have h1 := good_of hP ha h
  have h2 := st_of hP ha h1.2
  have h3 := good_pos hP ha h
  obtain ⟨b1, b2, b3, -⟩ := (rgC_s hP h3 h1.1 h2.1).1 h2.2
  exact ⟨b1, b2, b3, h3, h1.1⟩
/-- how many ROUNDS of n WORDS there are -/
def cnR (P first n : Nat) (d : Int) : Nat := dD P (r0F P first) n (r0F P first) d
theorem zr_zr (R : zR) (k i j : Nat) (x y : Option Nat) (h : i ≠ j) (u v : Option Nat) : zr (zr (zr (zr R k i x) k j y) k i u) k j v = zr (zr R k i u) k j v := by
  unfold zr
  simp only [up_eq, up_up]
  rw [up_comm _ _ _ (Ne.symm h), up_up, up_up]
theorem zLx_zr {R : zR} (hR : zLx R) (x y : Option Nat) : zLx (zr (zr R 37 11 x) 37 12 y) := by
  intro k j a h
  have h2 := hR k j a h
  by_cases e : k = 37
  · subst e
    have e1 : j ≠ 11 := fun q => by rw [q] at h; simp [xRef] at h
    have e2 : j ≠ 12 := fun q => by rw [q] at h; simp [xRef] at h
    simp [zr, up_eq, va_up, e1, e2, h2]
  · simp [zr, va_up, e, h2]
theorem wAB_n {R : zR} {A B : Nat} (h : (A = 43 ∧ B = 44) ∨ (A = 44 ∧ B = 43)) : wAB (zr (zr R 37 11 (some A)) 37 12 (some B)) A B := by
  refine ⟨?_, ?_, h⟩
  · simp [zr, up_eq, va_up]
  · simp [zr, up_eq, va_up]
theorem zr_id {R : zR} {A B : Nat} (h : wAB R A B) : R = zr (zr R 37 11 (some A)) 37 12 (some B) := by
  unfold zr
  rw [up_eq, up_up, ← h.1, up_self, ← h.2.1, up_self, up_self]
set_option maxRecDepth 100000 in
set_option maxHeartbeats 4000000 in
theorem ct_X1_waysRound {E : zE} {I : zI} {L : zL} {R : zR} {P first n A B : Nat} {d : Int} (hR : zLx R) (hP : P = 3 ∨ P = 4) (hT : gT P I) (hAB : wAB R A B) (hf : first < 2 ^ P) (hn1 : 1 ≤ n) (hn2 : n ≤ 12) (hd1 : -3 ≤ d) (hd2 : d ≤ 3) : zCt E m_X1_waysRound zShF [.ref 37, .int (nI first), .int (nI n), .int (iI d)] I L R (fun r Sh1 I1 L1 R1 => r = some (.long (if cntV (fun g => bg P first g) P = 1 then oN (cnR P first n d) else 0)) ∧ Sh1 = zShF ∧ I1 = I ∧ (∃ g k, L1 = va_up (va_up L 43 g) 44 k) ∧ (∃ A' B', R1 = zr (zr R 37 11 (some A')) 37 12 (some B') ∧ ((A' = 43 ∧ B' = 44) ∨ (A' = 44 ∧ B' = 43)))) := by
  have hp2 := P2 hP
  have hn := rg_n hP
  have hI := hT.1.1
  refine z_met (by decide) [some (.ref 37), some (.int (nI first)), some (.int (nI n)), some (.int (iI d)), none, none, none, none, none, none] rfl rfl (Nat.le_of_ble_eq_true rfl) (fun X => ?_)
  refine z_aload_n d_X1_waysRound_0 rfl ?_
  refine z_iload_n d_X1_waysRound_1 rfl ?_
  refine z_cVi d_X1_waysRound_2 q_X1_waysRound_113 (by first | rfl | assumption) (by omega) ⟨rfl, rfl⟩ (ct_X1_isGood hR hP hI (by omega)) rfl rfl rfl ⟨Nat.zero_le _, Nat.zero_le _⟩ ?_
  refine z_if_ne d_X1_waysRound_5 (fun h_5 => ?_) (fun h_5 => ?_)
  · have hg := of_decide_eq_true (b1 h_5)
    rw [if_pos hg]
    obtain ⟨hr0, hrw, hrs, hf1, hf2⟩ := r0_of hP hf hg
    have hABx := hAB
    obtain ⟨hA, hB, hABn⟩ := hAB
    have hsA := wSh (A := A) (by omega)
    have hAl := hsA.2
    have hsA := hsA.1
    have hs4 := stV_4 hP first
    have hra := (hT.1.2.2 (r0F P first) hr0).2.2
    rw [hrw, hrs] at hra
    refine z_aload_n d_X1_waysRound_10 rfl ?_
    refine z_getR d_X1_waysRound_11 f_X1_18 (by first | rfl | assumption) (by omega) (by first | exact hR _ _ _ rfl | rfl | assumption) ?_
    refine z_iload_n d_X1_waysRound_14 rfl ?_
    refine z_iconst d_X1_waysRound_15 ki_4 ?_
    refine z_imul d_X1_waysRound_16 ?_
    refine z_aload_n d_X1_waysRound_17 rfl ?_
    refine z_iload_n d_X1_waysRound_18 rfl ?_
    refine z_cVi d_X1_waysRound_19 q_X1_waysRound_81 (by first | rfl | assumption) (by omega) ⟨rfl, rfl⟩ (ct_X1_startOf hR hP hI (by omega)) rfl rfl rfl ⟨Nat.zero_le _, Nat.zero_le _⟩ ?_
    refine z_iadd d_X1_waysRound_22 ?_
    refine z_iaload d_X1_waysRound_23 (by first | rfl | assumption) (by omega) (zix_e (ix4 first (stV P first P 0)) (by omega) (by decide)) ?_
    rw [hra]
    have hcn : cnR P first n d = dD P (r0F P first) n (r0F P first) d := rfl
    rw [hcn]
    generalize r0F P first = r0 at *
    refine z_istore4 d_X1_waysRound_24 rfl ?_
    refine z_aload_n d_X1_waysRound_26 rfl ?_
    refine z_getR d_X1_waysRound_27 f_X1_27 (by first | rfl | assumption) (by omega) hA ?_
    refine z_lconst (v := 0) d_X1_waysRound_30 (by decide) ?_
    refine z_cSv d_X1_waysRound_31 q_X1_waysRound_117 ⟨rfl, rfl⟩ (ct_fillL hsA hAl (by decide)) rfl rfl rfl ⟨Nat.zero_le _, Nat.zero_le _⟩ ?_
    refine z_aload_n d_X1_waysRound_34 rfl ?_
    refine z_getR d_X1_waysRound_35 f_X1_27 (by first | rfl | assumption) (by omega) hA ?_
    refine z_iload d_X1_waysRound_38 rfl ?_
    refine z_bipush d_X1_waysRound_40 kb_16 ?_
    refine z_imul d_X1_waysRound_42 ?_
    refine z_bipush d_X1_waysRound_43 kb_8 ?_
    refine z_iadd d_X1_waysRound_45 ?_
    refine z_lconst (v := 1) d_X1_waysRound_46 (by decide) ?_
    refine z_lastore d_X1_waysRound_47 (by first | rfl | assumption) (by omega) (zix_e (show nI r0 * (16 : Int32) + 8 = nI (r0 * 16 + 8) from ix16 r0 8) (by omega) (by decide)) ?_
    rw [zj_up]
    have hD0 : ∀ r w, r < rgN P → w < 16 → va_up (zfill (L A) 256 0) (r0 * 16 + 8) 1 (r * 16 + w) = oN (dD P r0 0 r ((w : Int) - 8)) := by
      intro r w h1 h2
      unfold dD
      by_cases e : r = r0 ∧ w = 8
      · obtain ⟨rfl, rfl⟩ := e
        rw [up_eq, if_pos ⟨rfl, by omega⟩]; rfl
      · rw [up_ne (by omega), if_neg (by omega)]
        unfold zfill
        rw [if_pos (by omega)]; rfl
    obtain ⟨g0, k0, hL0⟩ := wv0 (L := L) (A := B) (B := A) (by omega) (va_up (zfill (L A) 256 0) (r0 * 16 + 8) 1)
    generalize hM : va_up L A (va_up (zfill (L A) 256 0) (r0 * 16 + 8) 1) = M at hL0
    have hMA : ∀ r w, r < rgN P → w < 16 → M A (r * 16 + w) = oN (dD P r0 0 r ((w : Int) - 8)) := by rw [← hM, up_eq]; exact hD0
    refine z_iconst d_X1_waysRound_48 ki_1 ?_
    refine z_istore5 d_X1_waysRound_49 rfl ?_
    have loop : ∀ (Qs : State → Prop), (∀ (M : zL) (R1 : zR) (A1 B1 : Nat), (∃ g k, M = va_up (va_up L 43 g) 44 k) → wAB R1 A1 B1 → R1 = zr (zr R 37 11 (some A1)) 37 12 (some B1) → (∀ r w, r < rgN P → w < 16 → M A1 (r * 16 + w) = oN (dD P r0 (n - 1) r ((w : Int) - 8))) → zZ E m_X1_waysRound X Qs zShF 0 0 67 [some (.ref 37), some (.int (nI first)), some (.int (nI n)), some (.int (iI d)), some (.int (nI r0)), some (.int (nI n)), none, none, none, none] [] I M R1) → ∀ i, i ≤ n - 1 → ∀ (M : zL) (R1 : zR) (A1 B1 : Nat), (∃ g k, M = va_up (va_up L 43 g) 44 k) → wAB R1 A1 B1 → R1 = zr (zr R 37 11 (some A1)) 37 12 (some B1) → (∀ r w, r < rgN P → w < 16 → M A1 (r * 16 + w) = oN (dD P r0 i r ((w : Int) - 8))) → zZ E m_X1_waysRound X Qs zShF 0 0 51 [some (.ref 37), some (.int (nI first)), some (.int (nI n)), some (.int (iI d)), some (.int (nI r0)), some (.int (nI (i + 1))), none, none, none, none] [] I M R1 := by
      intro Qs hx
      refine up_rec (fun i hi' ih M R1 A1 B1 hMM hW1 hR1 hMA => ?_)
      have hRx : zLx R1 := by rw [hR1]; exact zLx_zr hR _ _
      refine z_iload d_X1_waysRound_51 rfl ?_
      refine z_iload_n d_X1_waysRound_53 rfl ?_
      refine z_icmp_ge d_X1_waysRound_54 (fun h_54 => ?_) (fun h_54 => ?_)
      · have e : n ≤ i + 1 := (nI_leI (a := n) (b := i + 1) (by omega) (by omega)).mp h_54
        obtain rfl : i = n - 1 := by omega
        rw [show n - 1 + 1 = n by omega]
        exact hx M R1 A1 B1 hMM hW1 hR1 hMA
      · have hlt : i < n - 1 := by rcases Nat.lt_or_ge i (n - 1) with q | q; exact q; exact absurd (nI_le (a := n) (b := i + 1) (by omega) (by omega)) h_54
        refine z_aload_n d_X1_waysRound_57 rfl ?_
        refine z_rV d_X1_waysRound_58 q_X1_waysRound_120 (by first | rfl | assumption) (by omega) ⟨rfl, rfl⟩ (ct_X1_goOnByAWord (D := dD P r0 i) hRx hP hT hW1 hMA (fun r w h1 h2 => dD_b hP h1 hr0 (by omega) h2)) rfl rfl rfl ⟨Nat.zero_le _, Nat.zero_le _⟩ (fun r_58 Sh_58 I_58 L_58 R_58 hq_58 => ?_)
        obtain ⟨rfl, rfl, rfl, ⟨⟨g1, k1, hL1⟩, hMB⟩, rfl⟩ := hq_58
        refine z_iinc5 d_X1_waysRound_61 ki_1 rfl ?_
        refine z_goto d_X1_waysRound_64 ?_
        rw [nI_1]
        obtain ⟨g2, k2, hM2⟩ := hMM
        refine ih hlt _ _ B1 A1 ⟨g1, k1, by rw [hL1, hM2, wv1]⟩ (wAB_sw hW1) ?_ hMB
        rw [hR1, zr_zr _ _ _ _ _ _ (by decide)]
    refine loop _ (fun M R1 A1 B1 hMM hW1 hR1 hMA => ?_) 0 (Nat.zero_le _) M R A B ⟨g0, k0, hL0⟩ hABx (zr_id hABx) hMA
    refine z_lconst (v := 0) d_X1_waysRound_67 (by decide) ?_
    refine z_lstore5 d_X1_waysRound_68 rfl ?_
    refine z_iconst d_X1_waysRound_70 ki_0 ?_
    refine z_istore7 d_X1_waysRound_71 rfl ?_
    have hwA := wSh (A := A1) (by have := hW1.2.2; omega)
    have hwAl := hwA.2
    have hwA := hwA.1
    have hA1 := hW1.1
    have hRx : zLx R1 := by rw [hR1]; exact zLx_zr hR _ _
    have hdS : dD P r0 n r0 d = sumN (fun r => tT P (dD P r0 (n - 1)) r r0 d) (rgN P) := by
      obtain ⟨m, rfl⟩ : ∃ m, n = m + 1 := ⟨n - 1, by omega⟩
      rfl
    rw [hdS]
    have loop : ∀ (Qs : State → Prop), (∀ o8 o9 : Option Value, zZ E m_X1_waysRound X Qs zShF 0 0 153 [some (.ref 37), some (.int (nI first)), some (.int (nI n)), some (.int (iI d)), some (.int (nI r0)), some (.long (oN (sumN (fun r => tT P (dD P r0 (n - 1)) r r0 d) (rgN P)))), none, some (.int (nI (rgN P))), o8, o9] [] I M R1) → ∀ i, i ≤ rgN P → ∀ o8 o9 : Option Value, zc1 o8 = true → zZ E m_X1_waysRound X Qs zShF 0 0 73 [some (.ref 37), some (.int (nI first)), some (.int (nI n)), some (.int (iI d)), some (.int (nI r0)), some (.long (oN (sumN (fun r => tT P (dD P r0 (n - 1)) r r0 d) i))), none, some (.int (nI i)), o8, o9] [] I M R1 := by
      intro Qs hx
      refine up_rec (fun i hi' ih o8 o9 ho8 => ?_)
      refine z_iload d_X1_waysRound_73 rfl ?_
      refine z_aload_n d_X1_waysRound_75 rfl ?_
      refine z_getI d_X1_waysRound_76 f_X1_104 (by first | rfl | assumption) (by omega) ?_
      rw [hT.1.2.1]
      refine z_icmp_ge d_X1_waysRound_79 (fun h_79 => ?_) (fun h_79 => ?_)
      · obtain rfl := eq_of_ge (by omega) hi' h_79
        exact hx _ _
      · have hir := lt_of_nge (by omega) h_79 (by omega)
        have hge := hT.2 i first hir hf1 hf2
        have hix : zix (nI i * (16 : Int32) + nI first) 256 (i * 16 + first) := zix_e (ix16 i first) (by omega) (by decide)
        have hskip : tT P (dD P r0 (n - 1)) i r0 d = 0 → ∀ o8 o9 : Option Value, zc1 o8 = true → zZ E m_X1_waysRound X Qs zShF 0 0 147 [some (.ref 37), some (.int (nI first)), some (.int (nI n)), some (.int (iI d)), some (.int (nI r0)), some (.long (oN (sumN (fun r => tT P (dD P r0 (n - 1)) r r0 d) i))), none, some (.int (nI i)), o8, o9] [] I M R1 := by
          intro h0 o8 o9 ho
          refine z_iinc7 d_X1_waysRound_147 ki_1 rfl ?_
          refine z_goto d_X1_waysRound_150 ?_
          rw [nI_1]
          have h := ih hir o8 o9 ho
          rw [sumN, h0, Nat.add_zero] at h
          exact h
        refine z_iload d_X1_waysRound_82 rfl ?_
        refine z_bipush d_X1_waysRound_84 kb_16 ?_
        refine z_imul d_X1_waysRound_86 ?_
        refine z_iload_n d_X1_waysRound_87 rfl ?_
        refine z_iadd d_X1_waysRound_88 ?_
        refine z_istore8 d_X1_waysRound_89 rfl ?_
        refine z_bipush d_X1_waysRound_91 kb_8 ?_
        refine z_iload_n d_X1_waysRound_93 rfl ?_
        refine z_iadd d_X1_waysRound_94 ?_
        refine z_aload_n d_X1_waysRound_95 rfl ?_
        refine z_getR d_X1_waysRound_96 f_X1_24 (by first | rfl | assumption) (by omega) (hRx _ _ _ rfl) ?_
        refine z_iload d_X1_waysRound_99 rfl ?_
        refine z_iaload d_X1_waysRound_101 (by first | rfl | assumption) (by omega) hix ?_
        refine z_isub d_X1_waysRound_102 ?_
        refine z_istore9 d_X1_waysRound_103 rfl ?_
        refine z_aload_n d_X1_waysRound_105 rfl ?_
        refine z_getR d_X1_waysRound_106 f_X1_21 (by first | rfl | assumption) (by omega) (hRx _ _ _ rfl) ?_
        refine z_iload d_X1_waysRound_109 rfl ?_
        refine z_iaload d_X1_waysRound_111 (by first | rfl | assumption) (by omega) hix ?_
        refine z_iload d_X1_waysRound_112 rfl ?_
        refine z_icmp_ne d_X1_waysRound_114 (fun h_114 => ?_) (fun h_114 => ?_)
        · refine hskip ?_ _ _ rfl
          unfold tT
          rw [hrw]
          cases hgt : gtT P i first with
          | none => rfl
          | some x =>
            show (if x.1 = r0 then _ else 0) = 0
            refine if_neg (fun q => h_114 ?_)
            unfold gE at hge
            rw [hgt] at hge
            rw [hge.1, q]
        · have hgs : ∃ y, gtT P i first = some (r0, y) := by
            cases hgt : gtT P i first with
            | none =>
              exfalso
              unfold gE at hge
              rw [hgt] at hge
              have h4 : I 41 (i * 16 + first) = -1 := hge
              rw [h4] at h_114
              exact absurd h_114 (fun q => by
                have := congrArg Int32.toInt q
                rw [nI_toInt (by omega)] at this
                have e1 : (-1 : Int32).toInt = -1 := rfl
                omega)
            | some x =>
              unfold gE at hge
              rw [hgt] at hge
              have h4 : I 41 (i * 16 + first) = nI x.1 := hge.1
              have hx1 := (gt_some (q := x.1) (y := x.2) hP hir hf1 hf2 hgt).1
              rw [h4] at h_114
              have e := (nI_eq (a := x.1) (b := r0) (by omega) (by omega)).mp h_114
              exact ⟨x.2, by rw [← e]⟩
          obtain ⟨y, hgt⟩ := hgs
          obtain ⟨-, -, -, hy1, hy2, -, -⟩ := gt_some hP hir hf1 hf2 hgt
          have hgb : I 42 (i * 16 + first) = iI y := by unfold gE at hge; rw [hgt] at hge; exact hge.2
          have hwl : (8 : Int32) + iI d - I 42 (i * 16 + first) = nI (8 + d - y).toNat := by
            rw [hgb, show (8 : Int32) = iI 8 from rfl, iI_add, iI_sub]
            show iI _ = iI (((8 + d - y).toNat : Nat) : Int)
            congr 1
            omega
          have hwb : 4 ≤ (8 + d - y).toNat ∧ (8 + d - y).toNat ≤ 12 := by omega
          have htT : tT P (dD P r0 (n - 1)) i r0 d = dD P r0 (n - 1) i (d - y) := by
            unfold tT
            rw [hrw, hgt]
            exact if_pos rfl
          rw [hwl]
          refine z_iload d_X1_waysRound_117 rfl ?_
          refine z_if_lt d_X1_waysRound_119 (fun h_119 => absurd h_119 (nI_pos (by omega))) (fun h_119 => ?_)
          refine z_iload d_X1_waysRound_122 rfl ?_
          refine z_bipush d_X1_waysRound_124 kb_16 ?_
          refine z_icmp_ge d_X1_waysRound_126 (fun h_126 => absurd ((nI_leI (a := 16) (b := (8 + d - y).toNat) (by decide) (by omega)).mp h_126) (by omega)) (fun h_126 => ?_)
          refine z_lload d_X1_waysRound_129 rfl ?_
          refine z_aload_n d_X1_waysRound_131 rfl ?_
          refine z_getR d_X1_waysRound_132 f_X1_27 (by first | rfl | assumption) (by omega) hA1 ?_
          refine z_iload d_X1_waysRound_135 rfl ?_
          refine z_bipush d_X1_waysRound_137 kb_16 ?_
          refine z_imul d_X1_waysRound_139 ?_
          refine z_iload d_X1_waysRound_140 rfl ?_
          refine z_iadd d_X1_waysRound_142 ?_
          refine z_laload d_X1_waysRound_143 (by first | rfl | assumption) (by omega) (zix_e (ix16 i (8 + d - y).toNat) (by omega) (by decide)) ?_
          rw [hMA i _ hir (by omega), show (((8 + d - y).toNat : Nat) : Int) - 8 = d - y by omega, ← htT]
          refine z_ladd d_X1_waysRound_144 ?_
          rw [← oN_add]
          refine z_lstore5 d_X1_waysRound_145 rfl ?_
          refine z_iinc7 d_X1_waysRound_147 ki_1 rfl ?_
          refine z_goto d_X1_waysRound_150 ?_
          rw [nI_1]
          exact ih hir _ _ rfl
    refine loop _ (fun o8 o9 => ?_) 0 (Nat.zero_le _) none none rfl
    refine z_lload d_X1_waysRound_153 rfl ?_
    exact z_lreturn d_X1_waysRound_155 rfl ⟨rfl, rfl, rfl, hMM, ⟨A1, B1, hR1, hW1.2.2⟩⟩
  · have hg := b0 h_5
    rw [decide_eq_false_iff_not] at hg
    refine z_lconst (v := 0) d_X1_waysRound_8 (by decide) ?_
    exact z_lreturn d_X1_waysRound_9 rfl ⟨by rw [if_neg hg], rfl, rfl, ⟨L 43, L 44, by rw [up_self, up_self]⟩, ⟨A, B, zr_id hAB, hAB.2.2⟩⟩
