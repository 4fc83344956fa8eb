theorem flt_0 {len lane as i : Int32} (h : fltV len lane as i = 0) (hl : len ≤ 40) : zix i 40 i.toNatClampNeg := by
  unfold fltV at h
  split at h
  · split at h
    · split at h
      · exact absurd h (by decide)
      · split at h
        · next h0 h1 => exact zix_of2 (N := 40) h0 (Int32.not_le.mpr (Int32.lt_of_lt_of_le h1 hl)) (by decide)
        · exact absurd h (by decide)
    · exact absurd h (by decide)
  · exact absurd h (by decide)
/-- the fault at a pair of cells -/
def pfV (len lane as p : Int32) : Int32 := if fltV len lane as p = 0 then fltV len lane as (p + 1) else fltV len lane as p
theorem pf_0 {len lane as p : Int32} (h : pfV len lane as p = 0) : fltV len lane as p = 0 ∧ fltV len lane as (p + 1) = 0 := by
  unfold pfV at h
  split at h
  · next h1 => exact ⟨h1, h⟩
  · next h1 => exact absurd h h1
/-- pairs are read: what is wrong at last, how many are whole, whether one was refused -/
def rdS (pf : Int32 → Int32) (ok : Int32 → Bool) (f : Int32) : Nat → Nat → Int32 × Nat × Bool
  | 0, i => (0, i, false)
  | m + 1, i => if pf (f + 2 * nI i) = 0 then (if ok (f + 2 * nI i) then rdS pf ok f m (i + 1) else (0, i, true)) else (pf (f + 2 * nI i), i, false)
def okV (cs : Nat → Int32) (p : Int32) : Bool := isLi (cs p.toNatClampNeg) (cs (p + 1).toNatClampNeg)
/-- the lights behind n pairs -/
def liV (cs : Nat → Int32) (f : Int32) (li : Nat → Int32) : Nat → Nat → Int32
  | 0 => li
  | n + 1 => va_up (liV cs f li n) (cs (f + 2 * nI n).toNatClampNeg).toNatClampNeg (cs (f + 2 * nI n + 1).toNatClampNeg)
/-- the whole ones are right -/
theorem rdS_ok {pf : Int32 → Int32} {ok : Int32 → Bool} {f : Int32} : ∀ (m i : Nat) (j : Nat), i ≤ j → j < (rdS pf ok f m i).2.1 → pf (f + 2 * nI j) = 0 ∧ ok (f + 2 * nI j) = true
  | 0, i, j, h1, h2 => by simp [rdS] at h2; omega
  | m + 1, i, j, h1, h2 => by
    unfold rdS at h2
    split at h2
    · next ha =>
      split at h2
      · next hb =>
        rcases Nat.lt_or_ge i j with q | q
        · exact rdS_ok m (i + 1) j q h2
        · have : j = i := by omega
          subst this
          exact ⟨ha, hb⟩
      · simp at h2; omega
    · simp at h2; omega
theorem rdS_le {pf : Int32 → Int32} {ok : Int32 → Bool} {f : Int32} : ∀ (m i : Nat), (rdS pf ok f m i).2.1 ≤ i + m
  | 0, i => by simp [rdS]
  | m + 1, i => by
    unfold rdS
    have := @rdS_le pf ok f m (i + 1)
    split
    · split
      · omega
      · simp
    · simp
set_option maxRecDepth 100000 in
set_option maxHeartbeats 4000000 in
theorem ct_X7_sheet {E : zE} {I : zI} {L : zL} {R : zR} {i : Nat} {lane n : Int32} (hR : zLx R) (hi : i < 4) (hl : in0 3 lane = true) (hn : n ≤ 40) : zCf E m_X7_sheet zShF [.ref 0, .int (nI i), .int lane, .int n] I L R (some (.int (if 0 ≤ n then 1 else -14))) (if 0 ≤ n then zi (zi (va_up I (56 + 2 * i + 1) (zfill (I (56 + 2 * i + 1)) 40 0)) (56 + 2 * i) 1 lane) (56 + 2 * i) 2 n else I) (L) (R) := by
  have hsi : zSe zShF R (56 + 2 * i) := by rcases (show i = 0 ∨ i = 1 ∨ i = 2 ∨ i = 3 by omega) with rfl | rfl | rfl | rfl; exact lS_56 hR; exact lS_58 hR; exact lS_60 hR; exact lS_62 hR
  have hri : R 45 i = some (56 + 2 * i) := by rcases (show i = 0 ∨ i = 1 ∨ i = 2 ∨ i = 3 by omega) with rfl | rfl | rfl | rfl <;> exact hR _ _ _ rfl
  have hss : zShF[56 + 2 * i]? = some (0, 5) := hsi.1
  have hk : in0 4 (nI i) = true := by rcases (show i = 0 ∨ i = 1 ∨ i = 2 ∨ i = 3 by omega) with rfl | rfl | rfl | rfl <;> decide
  refine z_met (by decide) [some (.ref 0), some (.int (nI i)), some (.int lane), some (.int n)] rfl rfl (Nat.le_of_ble_eq_true rfl) (fun X => ?_)
  refine z_iload_n d_X7_sheet_0 rfl ?_
  refine z_cSi d_X7_sheet_1 q_X7_sheet_259 ⟨rfl, rfl⟩ (ct_X7_isSheet) rfl rfl rfl ⟨Nat.zero_le _, Nat.zero_le _⟩ ?_
  refine z_if_eq d_X7_sheet_4 (fun h_4 => absurd (b0 h_4) (by rw [hk]; decide)) (fun h_4 => ?_)
  refine z_iload_n d_X7_sheet_7 rfl ?_
  refine z_cSi d_X7_sheet_8 q_X7_sheet_262 ⟨rfl, rfl⟩ (ct_X7_isLane) rfl rfl rfl ⟨Nat.zero_le _, Nat.zero_le _⟩ ?_
  refine z_if_eq d_X7_sheet_11 (fun h_11 => absurd (b0 h_11) (by rw [hl]; decide)) (fun h_11 => ?_)
  refine z_iload_n d_X7_sheet_14 rfl ?_
  refine z_bipush d_X7_sheet_15 kb_40 ?_
  refine z_icmp_le d_X7_sheet_17 (fun h_17 => ?_) (fun h_17 => absurd hn h_17)
  refine z_iload_n d_X7_sheet_22 rfl ?_
  refine z_if_ge d_X7_sheet_23 (fun h_23 => ?_) (fun h_23 => ?_)
  · refine z_aload_n d_X7_sheet_29 rfl ?_
    refine z_getR d_X7_sheet_30 f_X7_66 (by first | rfl | assumption) (by omega) (by first | exact hR _ _ _ rfl | rfl | assumption) ?_
    refine z_iload_n d_X7_sheet_33 rfl ?_
    refine z_aaload6 d_X7_sheet_34 (by first | rfl | assumption) (by omega) (by first | exact zix_nI (by assumption) (by first | decide | assumption) | exact zix_nI (by omega) (by first | decide | assumption) | assumption) (by first | exact hR _ _ _ rfl | rfl | assumption) ?_
    refine z_iload_n d_X7_sheet_35 rfl ?_
    refine z_iload_n d_X7_sheet_36 rfl ?_
    refine z_cVv d_X7_sheet_37 q_X7_sheet_265 (by first | rfl | assumption) (by omega) ⟨rfl, rfl⟩ (ct_X5_renew (by assumption)) rfl rfl rfl ⟨Nat.zero_le _, Nat.zero_le _⟩ ?_
    refine z_iconst d_X7_sheet_40 ki_1 ?_
    exact z_ireturn d_X7_sheet_41 rfl ⟨by simp [h_23], rfl, by simp [h_23], rfl, rfl⟩
  · refine z_bipush d_X7_sheet_26 kb_m14 ?_
    exact z_ireturn d_X7_sheet_28 rfl ⟨by simp [h_23], rfl, by simp [h_23], rfl, rfl⟩
set_option maxRecDepth 100000 in
set_option maxHeartbeats 4000000 in
theorem ct_X7_sheet_bad {E : zE} {I : zI} {L : zL} {R : zR} {k lane n : Int32} (hR : zLx R) (hb : in0 4 k = false ∨ in0 3 lane = false ∨ ¬ n ≤ 40) : zCf E m_X7_sheet zShF [.ref 0, .int k, .int lane, .int n] I L R (some (.int (-1))) (I) (L) (R) := by
  refine z_met (by decide) [some (.ref 0), some (.int k), some (.int lane), some (.int n)] rfl rfl (Nat.le_of_ble_eq_true rfl) (fun X => ?_)
  refine z_iload_n d_X7_sheet_0 rfl ?_
  refine z_cSi d_X7_sheet_1 q_X7_sheet_259 ⟨rfl, rfl⟩ (ct_X7_isSheet) rfl rfl rfl ⟨Nat.zero_le _, Nat.zero_le _⟩ ?_
  refine z_if_eq d_X7_sheet_4 (fun h_4 => ?_) (fun h_4 => ?_)
  · refine z_iconst d_X7_sheet_20 ki_m1 ?_
    exact z_ireturn d_X7_sheet_21 rfl ⟨rfl, rfl, rfl, rfl, rfl⟩
  · refine z_iload_n d_X7_sheet_7 rfl ?_
    refine z_cSi d_X7_sheet_8 q_X7_sheet_262 ⟨rfl, rfl⟩ (ct_X7_isLane) rfl rfl rfl ⟨Nat.zero_le _, Nat.zero_le _⟩ ?_
    refine z_if_eq d_X7_sheet_11 (fun h_11 => ?_) (fun h_11 => ?_)
    · refine z_iconst d_X7_sheet_20 ki_m1 ?_
      exact z_ireturn d_X7_sheet_21 rfl ⟨rfl, rfl, rfl, rfl, rfl⟩
    · refine z_iload_n d_X7_sheet_14 rfl ?_
      refine z_bipush d_X7_sheet_15 kb_40 ?_
      refine z_icmp_le d_X7_sheet_17 (fun h_17 => absurd hb (fun q => by rw [b1 h_4, b1 h_11] at q; simp [h_17] at q)) (fun h_17 => ?_)
      refine z_iconst d_X7_sheet_20 ki_m1 ?_
      exact z_ireturn d_X7_sheet_21 rfl ⟨rfl, rfl, rfl, rfl, rfl⟩
set_option maxRecDepth 100000 in
set_option maxHeartbeats 4000000 in
theorem ct_X7_lay {E : zE} {I : zI} {L : zL} {R : zR} {k : Nat} {i v : Int32} (hR : zLx R) (hk4 : k < 4) (hlen : I (56 + 2 * k) 2 ≤ 40) : zCf E m_X7_lay zShF [.ref 0, .int (nI k), .int i, .int v] I L R (some (.int (if fltV (I (56 + 2 * k) 2) (I (56 + 2 * k) 1) (I (56 + 2 * k) 1) i = 0 then 1 else -10 - fltV (I (56 + 2 * k) 2) (I (56 + 2 * k) 1) (I (56 + 2 * k) 1) i))) (if fltV (I (56 + 2 * k) 2) (I (56 + 2 * k) 1) (I (56 + 2 * k) 1) i = 0 then zi I (56 + 2 * k + 1) i.toNatClampNeg (putV (I (56 + 2 * k) 1) v) else I) (L) (R) := by
  have hsi : zSe zShF R (56 + 2 * k) := by rcases (show k = 0 ∨ k = 1 ∨ k = 2 ∨ k = 3 by omega) with rfl | rfl | rfl | rfl; exact lS_56 hR; exact lS_58 hR; exact lS_60 hR; exact lS_62 hR
  have hri : R 45 k = some (56 + 2 * k) := by rcases (show k = 0 ∨ k = 1 ∨ k = 2 ∨ k = 3 by omega) with rfl | rfl | rfl | rfl <;> exact hR _ _ _ rfl
  have hss : zShF[56 + 2 * k]? = some (0, 5) := hsi.1
  have hk : in0 4 (nI k) = true := by rcases (show k = 0 ∨ k = 1 ∨ k = 2 ∨ k = 3 by omega) with rfl | rfl | rfl | rfl <;> decide
  refine z_met (by decide) [some (.ref 0), some (.int (nI k)), some (.int i), some (.int v), none, none] rfl rfl (Nat.le_of_ble_eq_true rfl) (fun X => ?_)
  refine z_iload_n d_X7_lay_0 rfl ?_
  refine z_cSi d_X7_lay_1 q_X7_lay_259 ⟨rfl, rfl⟩ (ct_X7_isSheet) rfl rfl rfl ⟨Nat.zero_le _, Nat.zero_le _⟩ ?_
  refine z_if_ne d_X7_lay_4 (fun h_4 => ?_) (fun h_4 => absurd (b0 h_4) (by rw [hk]; decide))
  refine z_aload_n d_X7_lay_9 rfl ?_
  refine z_getR d_X7_lay_10 f_X7_66 (by first | rfl | assumption) (by omega) (by first | exact hR _ _ _ rfl | rfl | assumption) ?_
  refine z_iload_n d_X7_lay_13 rfl ?_
  refine z_aaload6 d_X7_lay_14 (by first | rfl | assumption) (by omega) (by first | exact zix_nI (by assumption) (by first | decide | assumption) | exact zix_nI (by omega) (by first | decide | assumption) | assumption) (by first | exact hR _ _ _ rfl | rfl | assumption) ?_
  refine z_astore4 d_X7_lay_15 rfl ?_
  refine z_aload d_X7_lay_17 rfl ?_
  refine z_aload d_X7_lay_19 rfl ?_
  refine z_getI d_X7_lay_21 f_X7_269 (by first | rfl | assumption) (by omega) ?_
  refine z_iload_n d_X7_lay_24 rfl ?_
  refine z_cVi d_X7_lay_25 q_X7_lay_272 (by first | rfl | assumption) (by omega) ⟨rfl, rfl⟩ (ct_X5_faultAt (by assumption)) rfl rfl rfl ⟨Nat.zero_le _, Nat.zero_le _⟩ ?_
  refine z_istore5 d_X7_lay_28 rfl ?_
  refine z_iload d_X7_lay_30 rfl ?_
  refine z_if_eq d_X7_lay_32 (fun h_32 => ?_) (fun h_32 => ?_)
  · refine z_aload d_X7_lay_41 rfl ?_
    refine z_iload_n d_X7_lay_43 rfl ?_
    refine z_iload_n d_X7_lay_44 rfl ?_
    refine z_cVv d_X7_lay_45 q_X7_lay_275 (by first | rfl | assumption) (by omega) ⟨rfl, rfl⟩ (ct_X5_put hsi (flt_0 h_32 hlen)) rfl rfl rfl ⟨Nat.zero_le _, Nat.zero_le _⟩ ?_
    refine z_iconst d_X7_lay_48 ki_1 ?_
    exact z_ireturn d_X7_lay_49 rfl ⟨by simp [h_32], rfl, by simp [h_32], rfl, rfl⟩
  · refine z_bipush d_X7_lay_35 kb_m10 ?_
    refine z_iload d_X7_lay_37 rfl ?_
    refine z_isub d_X7_lay_39 ?_
    exact z_ireturn d_X7_lay_40 rfl ⟨by simp [h_32], rfl, by simp [h_32], rfl, rfl⟩
set_option maxRecDepth 100000 in
set_option maxHeartbeats 4000000 in
theorem ct_X7_lay_bad {E : zE} {I : zI} {L : zL} {R : zR} {k i v : Int32} (hR : zLx R) (hb : in0 4 k = false) : zCf E m_X7_lay zShF [.ref 0, .int k, .int i, .int v] I L R (some (.int (-1))) (I) (L) (R) := by
  refine z_met (by decide) [some (.ref 0), some (.int k), some (.int i), some (.int v), none, none] rfl rfl (Nat.le_of_ble_eq_true rfl) (fun X => ?_)
  refine z_iload_n d_X7_lay_0 rfl ?_
  refine z_cSi d_X7_lay_1 q_X7_lay_259 ⟨rfl, rfl⟩ (ct_X7_isSheet) rfl rfl rfl ⟨Nat.zero_le _, Nat.zero_le _⟩ ?_
  refine z_if_ne d_X7_lay_4 (fun h_4 => absurd (b1 h_4) (by rw [hb]; decide)) (fun h_4 => ?_)
  refine z_iconst d_X7_lay_7 ki_m1 ?_
  exact z_ireturn d_X7_lay_8 rfl ⟨rfl, rfl, rfl, rfl, rfl⟩
set_option maxRecDepth 100000 in
set_option maxHeartbeats 4000000 in
theorem ct_X7_reads_bad {E : zE} {I : zI} {L : zL} {R : zR} {k lane f n : Int32} (hR : zLx R) (hb : in0 4 k = false ∨ in0 3 lane = false ∨ inV 0 20 n = false) : zCf E m_X7_reads zShF [.ref 0, .int k, .int lane, .int f, .int n] I L R (some (.int (-1))) (I) (L) (R) := by
  refine z_met (by decide) [some (.ref 0), some (.int k), some (.int lane), some (.int f), some (.int n), none, none, none, none] rfl rfl (Nat.le_of_ble_eq_true rfl) (fun X => ?_)
  refine z_iload_n d_X7_reads_0 rfl ?_
  refine z_cSi d_X7_reads_1 q_X7_reads_259 ⟨rfl, rfl⟩ (ct_X7_isSheet) rfl rfl rfl ⟨Nat.zero_le _, Nat.zero_le _⟩ ?_
  refine z_if_eq d_X7_reads_4 (fun h_4 => ?_) (fun h_4 => ?_)
  · refine z_iconst d_X7_reads_26 ki_m1 ?_
    exact z_ireturn d_X7_reads_27 rfl ⟨rfl, rfl, rfl, rfl, rfl⟩
  · refine z_iload_n d_X7_reads_7 rfl ?_
    refine z_cSi d_X7_reads_8 q_X7_reads_262 ⟨rfl, rfl⟩ (ct_X7_isLane) rfl rfl rfl ⟨Nat.zero_le _, Nat.zero_le _⟩ ?_
    refine z_if_eq d_X7_reads_11 (fun h_11 => ?_) (fun h_11 => ?_)
    · refine z_iconst d_X7_reads_26 ki_m1 ?_
      exact z_ireturn d_X7_reads_27 rfl ⟨rfl, rfl, rfl, rfl, rfl⟩
    · refine z_iload d_X7_reads_14 rfl ?_
      refine z_if_lt d_X7_reads_16 (fun h_16 => ?_) (fun h_16 => ?_)
      · refine z_iconst d_X7_reads_26 ki_m1 ?_
        exact z_ireturn d_X7_reads_27 rfl ⟨rfl, rfl, rfl, rfl, rfl⟩
      · refine z_iload d_X7_reads_19 rfl ?_
        refine z_bipush d_X7_reads_21 kb_20 ?_
        refine z_icmp_le d_X7_reads_23 (fun h_23 => absurd hb (fun q => by rw [b1 h_4, b1 h_11] at q; simp [inV, h_16, Int32.not_lt.mpr h_23] at q)) (fun h_23 => ?_)
        refine z_iconst d_X7_reads_26 ki_m1 ?_
        exact z_ireturn d_X7_reads_27 rfl ⟨rfl, rfl, rfl, rfl, rfl⟩
set_option maxRecDepth 100000 in
set_option maxHeartbeats 4000000 in
theorem ct_X7_reads {E : zE} {I : zI} {L : zL} {R : zR} {k n : Nat} {lane f : Int32} (hR : zLx R) (hk4 : k < 4) (hl : in0 3 lane = true) (hn20 : n ≤ 20) (hlen : I (56 + 2 * k) 2 ≤ 40) : zCf E m_X7_reads zShF [.ref 0, .int (nI k), .int lane, .int f, .int (nI n)] I L R (some (.int (if (rdS (pfV (I (56 + 2 * k) 2) (I (56 + 2 * k) 1) lane) (okV (I (56 + 2 * k + 1))) f n 0).2.2 = true then -20 - nI (rdS (pfV (I (56 + 2 * k) 2) (I (56 + 2 * k) 1) lane) (okV (I (56 + 2 * k + 1))) f n 0).2.1 else nI (rdS (pfV (I (56 + 2 * k) 2) (I (56 + 2 * k) 1) lane) (okV (I (56 + 2 * k + 1))) f n 0).2.1))) (if (rdS (pfV (I (56 + 2 * k) 2) (I (56 + 2 * k) 1) lane) (okV (I (56 + 2 * k + 1))) f n 0).2.2 = true then I else zi (va_up I 17 (liV (I (56 + 2 * k + 1)) f (I 17) (rdS (pfV (I (56 + 2 * k) 2) (I (56 + 2 * k) 1) lane) (okV (I (56 + 2 * k + 1))) f n 0).2.1)) 0 10 (rdS (pfV (I (56 + 2 * k) 2) (I (56 + 2 * k) 1) lane) (okV (I (56 + 2 * k + 1))) f n 0).1) (L) (R) := by
  have hsi : zSe zShF R (56 + 2 * k) := by rcases (show k = 0 ∨ k = 1 ∨ k = 2 ∨ k = 3 by omega) with rfl | rfl | rfl | rfl; exact lS_56 hR; exact lS_58 hR; exact lS_60 hR; exact lS_62 hR
  have hri : R 45 k = some (56 + 2 * k) := by rcases (show k = 0 ∨ k = 1 ∨ k = 2 ∨ k = 3 by omega) with rfl | rfl | rfl | rfl <;> exact hR _ _ _ rfl
  have hss : zShF[56 + 2 * k]? = some (0, 5) := hsi.1
  have hs1 : zShF[56 + 2 * k + 1]? = some (2, 40) := hsi.2.1
  have hr1 : R (56 + 2 * k) 0 = some (56 + 2 * k + 1) := hsi.2.2.1
  have hk : in0 4 (nI k) = true := by rcases (show k = 0 ∨ k = 1 ∨ k = 2 ∨ k = 3 by omega) with rfl | rfl | rfl | rfl <;> decide
  generalize hrr : rdS (pfV (I (56 + 2 * k) 2) (I (56 + 2 * k) 1) lane) (okV (I (56 + 2 * k + 1))) f n 0 = r
  have hrl : r.2.1 ≤ n := by have := rdS_le (pf := pfV (I (56 + 2 * k) 2) (I (56 + 2 * k) 1) lane) (ok := okV (I (56 + 2 * k + 1))) (f := f) n 0; rw [hrr] at this; omega
  have hro : ∀ j, j < r.2.1 → pfV (I (56 + 2 * k) 2) (I (56 + 2 * k) 1) lane (f + 2 * nI j) = 0 ∧ okV (I (56 + 2 * k + 1)) (f + 2 * nI j) = true := fun j hj => rdS_ok n 0 j (Nat.zero_le j) (by rw [hrr]; exact hj)
  refine z_met (by decide) [some (.ref 0), some (.int (nI k)), some (.int lane), some (.int f), some (.int (nI n)), none, none, none, none] rfl rfl (Nat.le_of_ble_eq_true rfl) (fun X => ?_)
  refine z_iload_n d_X7_reads_0 rfl ?_
  refine z_cSi d_X7_reads_1 q_X7_reads_259 ⟨rfl, rfl⟩ (ct_X7_isSheet) rfl rfl rfl ⟨Nat.zero_le _, Nat.zero_le _⟩ ?_
  refine z_if_eq d_X7_reads_4 (fun h_4 => absurd (b0 h_4) (by rw [hk]; decide)) (fun h_4 => ?_)
  refine z_iload_n d_X7_reads_7 rfl ?_
  refine z_cSi d_X7_reads_8 q_X7_reads_262 ⟨rfl, rfl⟩ (ct_X7_isLane) rfl rfl rfl ⟨Nat.zero_le _, Nat.zero_le _⟩ ?_
  refine z_if_eq d_X7_reads_11 (fun h_11 => absurd (b0 h_11) (by rw [hl]; decide)) (fun h_11 => ?_)
  refine z_iload d_X7_reads_14 rfl ?_
  refine z_if_lt d_X7_reads_16 (fun h_16 => absurd h_16 (nI_pos (by omega))) (fun h_16 => ?_)
  refine z_iload d_X7_reads_19 rfl ?_
  refine z_bipush d_X7_reads_21 kb_20 ?_
  refine z_icmp_le d_X7_reads_23 (fun h_23 => ?_) (fun h_23 => absurd (nI_le (b := 20) hn20 (by decide)) h_23)
  refine z_aload_n d_X7_reads_28 rfl ?_
  refine z_getR d_X7_reads_29 f_X7_66 (by first | rfl | assumption) (by omega) (by first | exact hR _ _ _ rfl | rfl | assumption) ?_
  refine z_iload_n d_X7_reads_32 rfl ?_
  refine z_aaload6 d_X7_reads_33 (by first | rfl | assumption) (by omega) (by first | exact zix_nI (by assumption) (by first | decide | assumption) | exact zix_nI (by omega) (by first | decide | assumption) | assumption) (by first | exact hR _ _ _ rfl | rfl | assumption) ?_
  refine z_astore5 d_X7_reads_34 rfl ?_
  refine z_iconst d_X7_reads_36 ki_0 ?_
  refine z_istore6 d_X7_reads_37 rfl ?_
  refine z_iconst d_X7_reads_39 ki_0 ?_
  refine z_istore7 d_X7_reads_40 rfl ?_
  refine z_iconst d_X7_reads_42 ki_0 ?_
  refine z_istore8 d_X7_reads_43 rfl ?_
  have loop : ∀ (Qs : State → Prop), (r.2.2 = false → ∀ o : Option Value, zZ E m_X7_reads X Qs zShF 0 0 121 [some (.ref 0), some (.int (nI k)), some (.int lane), some (.int f), some (.int (nI n)), some (.ref (56 + 2 * k)), some (.int r.1), some (.int (nI r.2.1)), o] [] I L R) → (r.2.2 = true → zZ E m_X7_reads X Qs zShF 0 0 106 [some (.ref 0), some (.int (nI k)), some (.int lane), some (.int f), some (.int (nI n)), some (.ref (56 + 2 * k)), some (.int 0), some (.int (nI r.2.1)), some (.int (nI r.2.1))] [] I L R) → ∀ m i, m + i = n → rdS (pfV (I (56 + 2 * k) 2) (I (56 + 2 * k) 1) lane) (okV (I (56 + 2 * k + 1))) f m i = r → zZ E m_X7_reads X Qs zShF 0 0 45 [some (.ref 0), some (.int (nI k)), some (.int lane), some (.int f), some (.int (nI n)), some (.ref (56 + 2 * k)), some (.int 0), some (.int (nI i)), some (.int (nI i))] [] I L R := by
    intro Qs hx hx2 m
    induction m with
    | zero =>
      intro i hm hr
      obtain rfl : i = n := by omega
      refine z_iload d_X7_reads_45 rfl ?_
      refine z_iload d_X7_reads_47 rfl ?_
      refine z_icmp_ge d_X7_reads_49 (fun h_49 => ?_) (fun h_49 => absurd (Int32.le_refl _) h_49)
      subst hr
      exact hx rfl _
    | succ m ih =>
      intro i hm hr
      rw [rdS] at hr
      refine z_iload d_X7_reads_45 rfl ?_
      refine z_iload d_X7_reads_47 rfl ?_
      refine z_icmp_ge d_X7_reads_49 (fun h_49 => absurd ((nI_leI (a := n) (b := i) (by omega) (by omega)).mp h_49) (by omega)) (fun h_49 => ?_)
      refine z_aload d_X7_reads_52 rfl ?_
      refine z_iload_n d_X7_reads_54 rfl ?_
      refine z_iload_n d_X7_reads_55 rfl ?_
      refine z_iconst d_X7_reads_56 ki_2 ?_
      refine z_iload d_X7_reads_57 rfl ?_
      refine z_imul d_X7_reads_59 ?_
      refine z_iadd d_X7_reads_60 ?_
      refine z_cVi d_X7_reads_61 q_X7_reads_278 (by first | rfl | assumption) (by omega) ⟨rfl, rfl⟩ (ct_X5_pairFaultAt (by assumption)) rfl rfl rfl ⟨Nat.zero_le _, Nat.zero_le _⟩ ?_
      rw [show (if fltV (I (56 + 2 * k) 2) (I (56 + 2 * k) 1) lane (f + 2 * nI i) = 0 then fltV (I (56 + 2 * k) 2) (I (56 + 2 * k) 1) lane (f + 2 * nI i + 1) else fltV (I (56 + 2 * k) 2) (I (56 + 2 * k) 1) lane (f + 2 * nI i)) = pfV (I (56 + 2 * k) 2) (I (56 + 2 * k) 1) lane (f + 2 * nI i) from rfl]
      refine z_istore6 d_X7_reads_64 rfl ?_
      refine z_iload d_X7_reads_66 rfl ?_
      refine z_if_eq d_X7_reads_68 (fun h_68 => ?_) (fun h_68 => ?_)
      · rw [if_pos h_68] at hr
        obtain ⟨hp1, hp2⟩ := pf_0 h_68
        have hx1 := flt_0 hp1 hlen
        have hx2' := flt_0 hp2 hlen
        refine z_aload d_X7_reads_74 rfl ?_
        refine z_getR d_X7_reads_76 f_X7_281 (by first | rfl | assumption) (by omega) (by first | exact hR _ _ _ rfl | rfl | assumption) ?_
        refine z_iload_n d_X7_reads_79 rfl ?_
        refine z_iconst d_X7_reads_80 ki_2 ?_
        refine z_iload d_X7_reads_81 rfl ?_
        refine z_imul d_X7_reads_83 ?_
        refine z_iadd d_X7_reads_84 ?_
        refine z_iaload d_X7_reads_85 (by first | rfl | assumption) (by omega) (by first | exact zix_nI (by assumption) (by first | decide | assumption) | exact zix_nI (by omega) (by first | decide | assumption) | assumption) ?_
        refine z_aload d_X7_reads_86 rfl ?_
        refine z_getR d_X7_reads_88 f_X7_281 (by first | rfl | assumption) (by omega) (by first | exact hR _ _ _ rfl | rfl | assumption) ?_
        refine z_iload_n d_X7_reads_91 rfl ?_
        refine z_iconst d_X7_reads_92 ki_2 ?_
        refine z_iload d_X7_reads_93 rfl ?_
        refine z_imul d_X7_reads_95 ?_
        refine z_iadd d_X7_reads_96 ?_
        refine z_iconst d_X7_reads_97 ki_1 ?_
        refine z_iadd d_X7_reads_98 ?_
        refine z_iaload d_X7_reads_99 (by first | rfl | assumption) (by omega) (by first | exact zix_nI (by assumption) (by first | decide | assumption) | exact zix_nI (by omega) (by first | decide | assumption) | assumption) ?_
        skip
        refine z_cSi d_X7_reads_100 q_X7_reads_112 ⟨rfl, rfl⟩ (ct_X7_isLighting) rfl rfl rfl ⟨Nat.zero_le _, Nat.zero_le _⟩ ?_
        refine z_if_ne d_X7_reads_103 (fun h_103 => ?_) (fun h_103 => ?_)
        · rw [if_pos (show okV (I (56 + 2 * k + 1)) (f + 2 * nI i) = true from b1 h_103)] at hr
          refine z_iinc7 d_X7_reads_112 ki_1 rfl ?_
          refine z_iinc8 d_X7_reads_115 ki_1 rfl ?_
          refine z_goto d_X7_reads_118 ?_
          rw [nI_1, h_68]
          exact ih (i + 1) (by omega) hr
        · rw [if_neg (by rw [show okV (I (56 + 2 * k + 1)) (f + 2 * nI i) = false from b0 h_103]; decide)] at hr
          subst hr
          have h2 := hx2 rfl
          rw [h_68]
          exact h2
      · refine z_goto d_X7_reads_71 ?_
        rw [if_neg h_68] at hr
        subst hr
        exact hx rfl _
  refine loop _ (fun h9 o => ?_) (fun h9 => ?_) n 0 (by omega) hrr
  · refine z_iconst d_X7_reads_121 ki_0 ?_
    refine z_istore8 d_X7_reads_122 rfl ?_
    have loop2 : ∀ (Qs : State → Prop), (zZ E m_X7_reads X Qs zShF 0 0 171 [some (.ref 0), some (.int (nI k)), some (.int lane), some (.int f), some (.int (nI n)), some (.ref (56 + 2 * k)), some (.int r.1), some (.int (nI r.2.1)), some (.int (nI r.2.1))] [] (va_up I 17 (liV (I (56 + 2 * k + 1)) f (I 17) r.2.1)) L R) → ∀ j, j ≤ r.2.1 → zZ E m_X7_reads X Qs zShF 0 0 124 [some (.ref 0), some (.int (nI k)), some (.int lane), some (.int f), some (.int (nI n)), some (.ref (56 + 2 * k)), some (.int r.1), some (.int (nI r.2.1)), some (.int (nI j))] [] (va_up I 17 (liV (I (56 + 2 * k + 1)) f (I 17) j)) L R := by
      intro Qs hx
      refine up_rec (fun j hj ih => ?_)
      refine z_iload d_X7_reads_124 rfl ?_
      refine z_iload d_X7_reads_126 rfl ?_
      refine z_icmp_ge d_X7_reads_128 (fun h_128 => ?_) (fun h_128 => ?_)
      · obtain rfl := eq_of_ge (by omega) hj h_128
        exact hx
      · have hlt := lt_of_nge (by omega) h_128 (by omega)
        obtain ⟨ho1, ho2⟩ := hro j hlt
        obtain ⟨hp1, hp2⟩ := pf_0 ho1
        have hx1 := flt_0 hp1 hlen
        have hx2' := flt_0 hp2 hlen
        have hne : va_up I 17 (liV (I (56 + 2 * k + 1)) f (I 17) j) (56 + 2 * k + 1) = I (56 + 2 * k + 1) := up_ne (by omega)
        have hwl : zix (I (56 + 2 * k + 1) (f + 2 * nI j).toNatClampNeg) 48 (I (56 + 2 * k + 1) (f + 2 * nI j).toNatClampNeg).toNatClampNeg := isW_ix (by simp only [okV, isLi, Bool.and_eq_true] at ho2; exact ho2.1)
        refine z_aload_n d_X7_reads_131 rfl ?_
        refine z_getR d_X7_reads_132 f_X7_35 (by first | rfl | assumption) (by omega) (by first | exact hR _ _ _ rfl | rfl | assumption) ?_
        refine z_getR d_X7_reads_135 f_X7_100 (by first | rfl | assumption) (by omega) (by first | exact hR _ _ _ rfl | rfl | assumption) ?_
        refine z_aload d_X7_reads_138 rfl ?_
        refine z_getR d_X7_reads_140 f_X7_281 (by first | rfl | assumption) (by omega) (by first | exact hR _ _ _ rfl | rfl | assumption) ?_
        refine z_iload_n d_X7_reads_143 rfl ?_
        refine z_iconst d_X7_reads_144 ki_2 ?_
        refine z_iload d_X7_reads_145 rfl ?_
        refine z_imul d_X7_reads_147 ?_
        refine z_iadd d_X7_reads_148 ?_
        refine z_iaload d_X7_reads_149 (by first | rfl | assumption) (by omega) (by first | exact zix_nI (by assumption) (by first | decide | assumption) | exact zix_nI (by omega) (by first | decide | assumption) | assumption) ?_
        refine z_aload d_X7_reads_150 rfl ?_
        refine z_getR d_X7_reads_152 f_X7_281 (by first | rfl | assumption) (by omega) (by first | exact hR _ _ _ rfl | rfl | assumption) ?_
        refine z_iload_n d_X7_reads_155 rfl ?_
        refine z_iconst d_X7_reads_156 ki_2 ?_
        refine z_iload d_X7_reads_157 rfl ?_
        refine z_imul d_X7_reads_159 ?_
        refine z_iadd d_X7_reads_160 ?_
        refine z_iconst d_X7_reads_161 ki_1 ?_
        refine z_iadd d_X7_reads_162 ?_
        refine z_iaload d_X7_reads_163 (by first | rfl | assumption) (by omega) (by first | exact zix_nI (by assumption) (by first | decide | assumption) | exact zix_nI (by omega) (by first | decide | assumption) | assumption) ?_
        rw [hne]
        refine z_iastore d_X7_reads_164 (by first | rfl | assumption) (by omega) (by first | exact zix_nI (by assumption) (by first | decide | assumption) | exact zix_nI (by omega) (by first | decide | assumption) | assumption) ?_
        refine z_iinc8 d_X7_reads_165 ki_1 rfl ?_
        refine z_goto d_X7_reads_168 ?_
        rw [nI_1, zi_up]
        exact ih hlt
    refine z_mem (I' := va_up I 17 (liV (I (56 + 2 * k + 1)) f (I 17) 0)) (by rw [liV, up_self]) rfl rfl (loop2 _ ?_ 0 (Nat.zero_le _))
    refine z_aload_n d_X7_reads_171 rfl ?_
    refine z_iload d_X7_reads_172 rfl ?_
    refine z_putI d_X7_reads_174 f_X7_284 p_X7_10 (by first | rfl | assumption) (by omega) ?_
    refine z_iload d_X7_reads_177 rfl ?_
    exact z_ireturn d_X7_reads_179 rfl ⟨by rw [h9]; rfl, rfl, by rw [h9]; rfl, rfl, rfl⟩
  · refine z_bipush d_X7_reads_106 kb_m20 ?_
    refine z_iload d_X7_reads_108 rfl ?_
    refine z_isub d_X7_reads_110 ?_
    exact z_ireturn d_X7_reads_111 rfl ⟨by rw [h9]; rfl, rfl, by rw [h9]; rfl, rfl, rfl⟩
