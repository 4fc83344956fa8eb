/-! the calls on gates -/
section ZLOOK
variable {E : zE} {md : zMD} {X : zX} {Qs : State → Prop} {Sh : zSh} {kc ks pc pc' : Nat} {ls : List (Option Value)} {st : List Value} {I : zI} {L : zL} {R : zR}
theorem z_lookup {dflt off : Int} {ps : Array (Int × Int)} {len tgt : Nat} {x : Int32} (hd : decode (zcc md) pc = .ok (.lookupswitch dflt ps, len)) (hp : (ps.toList.zip (ps.toList.drop 1)).all (fun (a, next) => a.1 < next.1) = true) (ho : Op.lookupswitch.offset ps.toList dflt x.toInt = off) (ht : (pc : Int) + off = (tgt : Int)) (k : zZ E md X Qs Sh kc ks tgt ls st I L R) : zZ E md X Qs Sh kc ks pc ls (.int x :: st) I L R := by
  intro C hz H locs la hW hS hl
  exact lv_lookup C.1 C.2.1 hd hp ho ht (k C hz H locs la hW hS hl)
end ZLOOK
theorem gInv_of {P : Nat} {J : zI} (hP : P = 3 ∨ P = 4) (hT : gT P J) : gInv J := by
  intro Q hQ h
  have e : P = Q := (nI_eq (a := P) (b := Q) (by omega) (by omega)).mp (hT.1.1.symm.trans h)
  rw [← e]; exact hT
theorem gT_gI {P : Nat} {J : zI} {l wr at' ca : Int32} (hT : gT P J) : gT P (gI J l wr at' ca) := by
  obtain ⟨⟨h1, h2, h3⟩, h4⟩ := hT
  refine ⟨⟨by rw [gI_j (by decide) (by decide) (by decide) (by decide)]; exact h1, by rw [gI_j (by decide) (by decide) (by decide) (by decide)]; exact h2, fun r hr => ?_⟩, fun r b a1 a2 a3 => ?_⟩
  · rw [gI_ne (by decide), gI_ne (by decide), gI_ne (by decide)]; exact h3 r hr
  · have := h4 r b a1 a2 a3
    unfold gE at this ⊢
    rw [gI_ne (by decide), gI_ne (by decide)]; exact this
theorem gT_ld {P : Nat} {J : zI} {o : Option Int} (hT : gT P J) : gT P (ldI J o) := by
  obtain ⟨⟨h1, h2, h3⟩, h4⟩ := hT
  refine ⟨⟨by rw [ldI_0 (by decide)]; exact h1, by rw [ldI_0 (by decide)]; exact h2, fun r hr => ?_⟩, fun r b a1 a2 a3 => ?_⟩
  · rw [ldI_ne (by decide), ldI_ne (by decide), ldI_ne (by decide)]; exact h3 r hr
  · have := h4 r b a1 a2 a3
    unfold gE at this ⊢
    rw [ldI_ne (by decide), ldI_ne (by decide)]; exact this
theorem gM_gI {I J : zI} {l wr at' ca : Int32} (h : gM I J) : gM I (gI J l wr at' ca) := fun k hk => by rw [gI_ne (by omega), h k hk]
theorem gM_ld {I J : zI} {o : Option Int} (h : gM I J) : gM I (ldI J o) := fun k hk => by rw [ldI_ne (by omega), h k hk]
theorem grS_j (P : Nat) (w : Nat → Nat) (n : Nat) (z0 : Int) (l0 at0 l1 at1 : Int32) : ∀ k, (grS P w n z0 l0 at0 k).1 = (grS P w n z0 l1 at1 k).1 ∧ (grS P w n z0 l0 at0 k).2.2.1 = (grS P w n z0 l1 at1 k).2.2.1 ∧ (0 < k → (grS P w n z0 l0 at0 k).2.1 = (grS P w n z0 l1 at1 k).2.1)
  | 0 => ⟨rfl, rfl, fun h => absurd h (by omega)⟩
  | k + 1 => by
    obtain ⟨h1, h2, h3⟩ := grS_j P w n z0 l0 at0 l1 at1 k
    unfold grS
    by_cases e : (grS P w n z0 l0 at0 k).1 = 0
    · have e' : (grS P w n z0 l1 at1 k).1 = 0 := h1.symm.trans e
      rw [if_pos e, if_pos e', h2]
      exact ⟨rfl, rfl, fun _ => rfl⟩
    · have e' : ¬ (grS P w n z0 l1 at1 k).1 = 0 := fun q => e (h1.trans q)
      rw [if_neg e, if_neg e']
      refine ⟨h1, h2, fun _ => h3 ?_⟩
      rcases Nat.eq_zero_or_pos k with q | q
      · exfalso; apply e; rw [q]; rfl
      · exact q
theorem grS_z (P : Nat) (w : Nat → Nat) (n : Nat) (z0 : Int) (l0 at0 : Int32) (k : Nat) (hk : 0 < k) (h : (grS P w n z0 l0 at0 k).1 = 0) : (grS P w n z0 l0 at0 k).2.2.2 = iI (grS P w n z0 l0 at0 k).2.2.1 := by
  obtain ⟨m, rfl⟩ : ∃ m, k = m + 1 := ⟨k - 1, by omega⟩
  exact (grS_l P w n z0 l0 at0 m h).1
/-- what clock answers -/
def ckC (P : Nat) (w : Nat → Nat) (n : Nat) (x : Int32) : Int32 :=
  if x = 0 then (if (grS P w n (stV P (w 0) P 0) 0 0 n).1 = 0 then -4 else (grS P w n (stV P (w 0) P 0) 0 0 n).2.1)
  else if x = 1 then nI (grS P w n (stV P (w 0) P 0) 0 0 n).1
  else (if (grS P w n (stV P (w 0) P 0) 0 0 n).1 = 0 then iI (((grS P w n (stV P (w 0) P 0) 0 0 n).2.2.1 - (stV P (w 0) P 0 : Nat)).ediv P) + 100 else -4)
theorem inV2 {x : Int32} (h : inV 0 2 x = true) (h0 : ¬ x = 0) (h1 : ¬ x = 1) : x = 2 := by
  obtain ⟨e, h2⟩ := inV_nat0 (n := 2) (by decide) h
  rw [e] at h0 h1 ⊢
  rcases (show x.toNatClampNeg = 0 ∨ x.toNatClampNeg = 1 ∨ x.toNatClampNeg = 2 by omega) with q | q | q
  · rw [q] at h0; exact absurd rfl h0
  · rw [q] at h1; exact absurd rfl h1
  · rw [q]; rfl
theorem mwV {P : Nat} {x : Int32} (hP : P = 3 ∨ P = 4) (h : x = nI P) : (if x = 3 then (7 : Int32) else 15) = nI (2 ^ P - 1) := by rcases hP with rfl | rfl <;> (rw [h]; decide)
def vwV (P v n : Nat) (d : Int) : Int64 := if cntV (fun g => bg P v g) P = 1 then oN (cnR P v n d) else 0
set_option maxRecDepth 100000 in
theorem fw3 : (∀ v : Fin 8, vwV 3 v.val 1 1 = 0 ∧ vwV 3 v.val 2 1 = 0 ∧ vwV 3 v.val 1 (-1) = 0 ∧ vwV 3 v.val 2 (-1) = 0) ∧ 0 < vwV 3 3 3 1 ∧ 0 < vwV 3 3 3 (-1) ∧ 0 < vwV 3 1 1 0 := by decide +kernel
set_option maxRecDepth 100000 in
theorem fw4 : (∀ v : Fin 16, vwV 4 v.val 1 1 = 0 ∧ vwV 4 v.val 2 1 = 0 ∧ vwV 4 v.val 1 (-1) = 0 ∧ vwV 4 v.val 2 (-1) = 0) ∧ 0 < vwV 4 3 3 1 ∧ 0 < vwV 4 3 3 (-1) ∧ 0 < vwV 4 1 1 0 := by decide +kernel
/-- the fewest WORDS -/
def fwN (d : Int) : Nat := if d = 0 then 1 else 3
theorem fw_z {P v n : Nat} {d : Int} (hP : P = 3 ∨ P = 4) (hv : v < 2 ^ P) (hd1 : -1 ≤ d) (hd2 : d ≤ 1) (hn1 : 1 ≤ n) (hn : n < fwN d) : vwV P v n d = 0 := by
  unfold fwN at hn
  rcases (show d = -1 ∨ d = 0 ∨ d = 1 by omega) with rfl | rfl | rfl
  · have hn3 : n < 3 := by simpa using hn
    rcases hP with rfl | rfl
    · have h := fw3.1 ⟨v, hv⟩
      rcases (show n = 1 ∨ n = 2 by omega) with rfl | rfl
      · exact h.2.2.1
      · exact h.2.2.2
    · have h := fw4.1 ⟨v, hv⟩
      rcases (show n = 1 ∨ n = 2 by omega) with rfl | rfl
      · exact h.2.2.1
      · exact h.2.2.2
  · exfalso
    have hn3 : n < 1 := by simpa using hn
    omega
  · have hn3 : n < 3 := by simpa using hn
    rcases hP with rfl | rfl
    · have h := fw3.1 ⟨v, hv⟩
      rcases (show n = 1 ∨ n = 2 by omega) with rfl | rfl
      · exact h.1
      · exact h.2.1
    · have h := fw4.1 ⟨v, hv⟩
      rcases (show n = 1 ∨ n = 2 by omega) with rfl | rfl
      · exact h.1
      · exact h.2.1
theorem fw_p {P : Nat} {d : Int} (hP : P = 3 ∨ P = 4) (hd1 : -1 ≤ d) (hd2 : d ≤ 1) : ∃ v, v ≤ 3 ∧ 0 < vwV P v (fwN d) d := by
  rcases (show d = -1 ∨ d = 0 ∨ d = 1 by omega) with rfl | rfl | rfl
  · exact ⟨3, by decide, by rcases hP with rfl | rfl; exact fw3.2.2.1; exact fw4.2.2.1⟩
  · exact ⟨1, by decide, by rcases hP with rfl | rfl; exact fw3.2.2.2; exact fw4.2.2.2⟩
  · exact ⟨3, by decide, by rcases hP with rfl | rfl; exact fw3.2.1; exact fw4.2.1⟩
theorem fwN_b (d : Int) : 1 ≤ fwN d ∧ fwN d ≤ 3 := by unfold fwN; split <;> omega
theorem inV_int {x lo hi : Int32} (h : inV lo hi x = true) : lo.toInt ≤ x.toInt ∧ x.toInt ≤ hi.toInt := by
  simp only [inV, Bool.and_eq_true, Bool.not_eq_true', decide_eq_false_iff_not] at h
  have h1 := mt Int32.lt_iff_toInt_lt.mpr h.1
  have h2 := mt Int32.lt_iff_toInt_lt.mpr h.2
  omega
set_option maxRecDepth 100000 in
set_option maxHeartbeats 4000000 in
theorem ct_X7_clock {E : zE} {I : zI} {L : zL} {R : zR} {P n : Nat} {w : Nat → Nat} {x : Int32} (hR : zLx R) (hP : P = 3 ∨ P = 4) (hG : gInv I) (hI : I 4 6 = nI P) (hn : I 3 4 = nI n) (hn12 : n ≤ 12) (hw : ∀ j, j < n → I 7 j = nI (w j) ∧ w j < 2 ^ P) : zCt E m_X7_clock zShF [.ref 0, .int x] I L R (fun r Sh1 I1 L1 R1 => r = some (.int (if inV 0 2 x = true then (if n = 0 then -2 else if cntV (fun g => bg P (w 0) g) P = 1 then ckC P w n x else -2) else -1)) ∧ Sh1 = zShF ∧ (gM I I1 ∧ gInv I1) ∧ L1 = L ∧ R1 = R) := by
  have hp2 := P2 hP
  refine z_met (by decide) [some (.ref 0), some (.int x)] rfl rfl (Nat.le_of_ble_eq_true rfl) (fun X => ?_)
  refine z_iload_n d_X7_clock_0 rfl ?_
  refine z_if_lt d_X7_clock_1 (fun h_1 => ?_) (fun h_1 => ?_)
  · refine z_iconst d_X7_clock_9 ki_m1 ?_
    exact z_ireturn d_X7_clock_10 rfl ⟨by rw [if_neg (by simp [inV, h_1])], rfl, ⟨gM_rf I, hG⟩, rfl, rfl⟩
  · refine z_iload_n d_X7_clock_4 rfl ?_
    refine z_iconst d_X7_clock_5 ki_2 ?_
    refine z_icmp_le d_X7_clock_6 (fun h_6 => ?_) (fun h_6 => ?_)
    · have hx02 : inV 0 2 x = true := by simp [inV, h_1, Int32.not_lt.mpr h_6]
      rw [if_pos hx02]
      refine z_aload_n d_X7_clock_11 rfl ?_
      refine z_getR d_X7_clock_12 f_X7_60 (by first | rfl | assumption) (by omega) (by first | exact hR _ _ _ rfl | rfl | assumption) ?_
      refine z_aload_n d_X7_clock_15 rfl ?_
      refine z_getR d_X7_clock_16 f_X7_19 (by first | rfl | assumption) (by omega) (by first | exact hR _ _ _ rfl | rfl | assumption) ?_
      refine z_getR d_X7_clock_19 f_X7_89 (by first | rfl | assumption) (by omega) (by first | exact hR _ _ _ rfl | rfl | assumption) ?_
      refine z_bipush d_X7_clock_22 kb_6 ?_
      refine z_iaload d_X7_clock_24 (by first | rfl | assumption) (by omega) (zix_lit 6 (by decide)) ?_
      rw [hI]
      refine z_rV d_X7_clock_25 q_X7_clock_222 (by first | rfl | assumption) (by omega) ⟨rfl, rfl⟩ (ct_X1_bePhases hR hP hG) rfl rfl rfl ⟨Nat.zero_le _, Nat.zero_le _⟩ (fun r_25 Sh_25 I_25 L_25 R_25 hq_25 => ?_)
      obtain ⟨rfl, rfl, ⟨hM1, hT1⟩, rfl, rfl⟩ := hq_25
      have h3 : I_25 3 = I 3 := hM1 3 (by decide)
      have h7 : I_25 7 = I 7 := hM1 7 (by decide)
      refine z_aload_n d_X7_clock_28 rfl ?_
      refine z_getR d_X7_clock_29 f_X7_19 (by first | rfl | assumption) (by omega) (by first | exact hR _ _ _ rfl | rfl | assumption) ?_
      refine z_getI d_X7_clock_32 f_X7_216 (by first | rfl | assumption) (by omega) ?_
      rw [h3, hn]
      refine z_if_eq d_X7_clock_35 (fun h_35 => ?_) (fun h_35 => ?_)
      · have e : n = 0 := (nI_eq (a := n) (b := 0) (by omega) (by decide)).mp h_35
        refine z_bipush d_X7_clock_57 kb_m2 ?_
        exact z_ireturn d_X7_clock_59 rfl ⟨by rw [if_pos e], rfl, ⟨hM1, gInv_of hP hT1⟩, rfl, rfl⟩
      · have hn0 : ¬ n = 0 := fun q => h_35 (by rw [q]; rfl)
        rw [if_neg hn0]
        have hw0 := hw 0 (by omega)
        refine z_aload_n d_X7_clock_38 rfl ?_
        refine z_getR d_X7_clock_39 f_X7_60 (by first | rfl | assumption) (by omega) (by first | exact hR _ _ _ rfl | rfl | assumption) ?_
        refine z_aload_n d_X7_clock_42 rfl ?_
        refine z_getR d_X7_clock_43 f_X7_19 (by first | rfl | assumption) (by omega) (by first | exact hR _ _ _ rfl | rfl | assumption) ?_
        refine z_getR d_X7_clock_46 f_X7_219 (by first | rfl | assumption) (by omega) (by first | exact hR _ _ _ rfl | rfl | assumption) ?_
        refine z_iconst d_X7_clock_49 ki_0 ?_
        refine z_iaload d_X7_clock_50 (by first | rfl | assumption) (by omega) (zix_lit 0 (by decide)) ?_
        rw [h7, hw0.1]
        refine z_cVi d_X7_clock_51 q_X7_clock_226 (by first | rfl | assumption) (by omega) ⟨rfl, rfl⟩ (ct_X1_isGood hR hP hT1.1.1 (by omega)) rfl rfl rfl ⟨Nat.zero_le _, Nat.zero_le _⟩ ?_
        refine z_if_ne d_X7_clock_54 (fun h_54 => ?_) (fun h_54 => ?_)
        · have hg := of_decide_eq_true (b1 h_54)
          rw [if_pos hg]
          refine z_aload_n d_X7_clock_60 rfl ?_
          refine z_getR d_X7_clock_61 f_X7_60 (by first | rfl | assumption) (by omega) (by first | exact hR _ _ _ rfl | rfl | assumption) ?_
          refine z_aload_n d_X7_clock_64 rfl ?_
          refine z_getR d_X7_clock_65 f_X7_19 (by first | rfl | assumption) (by omega) (by first | exact hR _ _ _ rfl | rfl | assumption) ?_
          refine z_cVv d_X7_clock_68 q_X7_clock_229 (by first | rfl | assumption) (by omega) ⟨rfl, rfl⟩ (ct_X1_goRound (w := w) hR hP hT1.1.1 (by rw [h3]; exact hn) (by omega) hn12 (fun j hj => by rw [h7]; exact ⟨(hw j hj).1, by have := (hw j hj).2; omega⟩)) rfl rfl rfl ⟨Nat.zero_le _, Nat.zero_le _⟩ ?_
          have hs4 := stV_4 hP (w 0)
          unfold ckC
          generalize hz0 : stV P (w 0) P 0 = z0 at hs4
          obtain ⟨hj1, hj2, hj3⟩ := grS_j P w n z0 (I_25 37 1) (I_25 37 3) 0 0 n
          have hj3 := hj3 (by omega)
          have hjz := grS_z P w n z0 (I_25 37 1) (I_25 37 3) n (by omega)
          have hbd := grS_b P hP w n z0 (I_25 37 1) (I_25 37 3) n
          have hcd : (grS P w n z0 (I_25 37 1) (I_25 37 3) n).1 ≤ 3 := by
            have key : ∀ k, (grS P w n z0 (I_25 37 1) (I_25 37 3) k).1 ≤ 3 := by
              intro k
              induction k with
              | zero => exact Nat.zero_le 3
              | succ k ih =>
                unfold grS
                split
                · exact far_c _ _ _ _
                · exact ih
            exact key n
          rw [← hj1, ← hj2, ← hj3]
          generalize grS P w n z0 (I_25 37 1) (I_25 37 3) n = g at *
          have hM2 := gM_gI (l := g.2.2.2) (wr := nI g.1) (at' := g.2.1) (ca := fdV (g.2.2.2 - nI z0) (nI P)) hM1
          have hT2 := gInv_of hP (gT_gI (l := g.2.2.2) (wr := nI g.1) (at' := g.2.1) (ca := fdV (g.2.2.2 - nI z0) (nI P)) hT1)
          have g2 := gI_2 I_25 g.2.2.2 (nI g.1) g.2.1 (fdV (g.2.2.2 - nI z0) (nI P))
          have g3 := gI_3 I_25 g.2.2.2 (nI g.1) g.2.1 (fdV (g.2.2.2 - nI z0) (nI P))
          have g4 := gI_4 I_25 g.2.2.2 (nI g.1) g.2.1 (fdV (g.2.2.2 - nI z0) (nI P))
          generalize gI I_25 g.2.2.2 (nI g.1) g.2.1 (fdV (g.2.2.2 - nI z0) (nI P)) = J at hM2 hT2 g2 g3 g4 ⊢
          have hz : nI g.1 = 0 ↔ g.1 = 0 := nI_eq (a := g.1) (b := 0) (by omega) (by decide)
          refine z_iload_n d_X7_clock_71 rfl ?_
          refine z_by 0 (fun e0 => ?_) (fun e0 => ?_)
          · refine z_lookup (off := 28) (tgt := 100) d_X7_clock_72 (by decide) (by rw [e0]; decide) (by decide) ?_
            rw [if_pos e0]
            refine z_aload_n d_X7_clock_100 rfl ?_
            refine z_getR d_X7_clock_101 f_X7_60 (by first | rfl | assumption) (by omega) (by first | exact hR _ _ _ rfl | rfl | assumption) ?_
            refine z_getI d_X7_clock_104 f_X7_233 (by first | rfl | assumption) (by omega) ?_
            rw [g2]
            refine z_if_ne d_X7_clock_107 (fun h_107 => ?_) (fun h_107 => ?_)
            · refine z_aload_n d_X7_clock_115 rfl ?_
              refine z_getR d_X7_clock_116 f_X7_60 (by first | rfl | assumption) (by omega) (by first | exact hR _ _ _ rfl | rfl | assumption) ?_
              refine z_getI d_X7_clock_119 f_X7_236 (by first | rfl | assumption) (by omega) ?_
              skip
              exact z_ireturn d_X7_clock_122 rfl ⟨by first | rw [if_pos (hz.mp h_107)] | rw [if_neg (mt hz.mpr h_107), g3], rfl, ⟨hM2, hT2⟩, rfl, rfl⟩
            · refine z_bipush d_X7_clock_110 kb_m4 ?_
              refine z_goto d_X7_clock_112 ?_
              skip
              exact z_ireturn d_X7_clock_122 rfl ⟨by first | rw [if_pos (hz.mp h_107)] | rw [if_neg (mt hz.mpr h_107), g3], rfl, ⟨hM2, hT2⟩, rfl, rfl⟩
          refine z_by 1 (fun e1 => ?_) (fun e1 => ?_)
          · refine z_lookup (off := 51) (tgt := 123) d_X7_clock_72 (by decide) (by rw [e1]; decide) (by decide) ?_
            rw [if_neg e0, if_pos e1]
            refine z_aload_n d_X7_clock_123 rfl ?_
            refine z_getR d_X7_clock_124 f_X7_60 (by first | rfl | assumption) (by omega) (by first | exact hR _ _ _ rfl | rfl | assumption) ?_
            refine z_getI d_X7_clock_127 f_X7_233 (by first | rfl | assumption) (by omega) ?_
            exact z_ireturn d_X7_clock_130 rfl ⟨by rw [g2], rfl, ⟨hM2, hT2⟩, rfl, rfl⟩
          refine z_lookup (off := 59) (tgt := 131) d_X7_clock_72 (by decide) (by rw [inV2 hx02 e0 e1]; decide) (by decide) ?_
          rw [if_neg e0, if_neg e1]
          refine z_aload_n d_X7_clock_131 rfl ?_
          refine z_getR d_X7_clock_132 f_X7_60 (by first | rfl | assumption) (by omega) (by first | exact hR _ _ _ rfl | rfl | assumption) ?_
          refine z_getI d_X7_clock_135 f_X7_233 (by first | rfl | assumption) (by omega) ?_
          rw [g2]
          refine z_if_ne d_X7_clock_138 (fun h_138 => ?_) (fun h_138 => ?_)
          · refine z_bipush d_X7_clock_154 kb_m4 ?_
            exact z_ireturn d_X7_clock_156 rfl ⟨by first | (rw [if_neg (mt hz.mpr h_138)]; done) | (rw [if_pos (hz.mp h_138), g4, hjz (hz.mp h_138), show iI g.2.2.1 - nI z0 = iI (g.2.2.1 - (z0 : Int)) from iI_sub _ (z0 : Int), (fm_of hP (by omega) (by omega)).2]), rfl, ⟨hM2, hT2⟩, rfl, rfl⟩
          · refine z_aload_n d_X7_clock_141 rfl ?_
            refine z_getR d_X7_clock_142 f_X7_60 (by first | rfl | assumption) (by omega) (by first | exact hR _ _ _ rfl | rfl | assumption) ?_
            refine z_getI d_X7_clock_145 f_X7_239 (by first | rfl | assumption) (by omega) ?_
            refine z_bipush d_X7_clock_148 kb_100 ?_
            refine z_iadd d_X7_clock_150 ?_
            refine z_goto d_X7_clock_151 ?_
            exact z_ireturn d_X7_clock_156 rfl ⟨by first | (rw [if_neg (mt hz.mpr h_138)]; done) | (rw [if_pos (hz.mp h_138), g4, hjz (hz.mp h_138), show iI g.2.2.1 - nI z0 = iI (g.2.2.1 - (z0 : Int)) from iI_sub _ (z0 : Int), (fm_of hP (by omega) (by omega)).2]), rfl, ⟨hM2, hT2⟩, rfl, rfl⟩
        · have hg := b0 h_54
          rw [decide_eq_false_iff_not] at hg
          refine z_bipush d_X7_clock_57 kb_m2 ?_
          exact z_ireturn d_X7_clock_59 rfl ⟨by rw [if_neg hg], rfl, ⟨hM1, gInv_of hP hT1⟩, rfl, rfl⟩
    · refine z_iconst d_X7_clock_9 ki_m1 ?_
      exact z_ireturn d_X7_clock_10 rfl ⟨by rw [if_neg (by simp [inV, Int32.not_le.mp h_6])], rfl, ⟨gM_rf I, hG⟩, rfl, rfl⟩
set_option maxRecDepth 100000 in
set_option maxHeartbeats 4000000 in
theorem ct_X7_goes {E : zE} {I : zI} {L : zL} {R : zR} {P : Nat} {a b : Int32} (hR : zLx R) (hP : P = 3 ∨ P = 4) (hG : gInv I) (hI : I 4 6 = nI P) : zCt E m_X7_goes zShF [.ref 0, .int a, .int b] I L R (fun r Sh1 I1 L1 R1 => r = some (.int (if (inV 0 (nI (2 ^ P - 1)) a && inV 0 (nI (2 ^ P - 1)) b) = true then (if cntV (fun g => bg P a.toNatClampNeg g) P = 1 then nI (farV P a.toNatClampNeg (stV P a.toNatClampNeg P 0 : Nat) b.toNatClampNeg).1 else -2) else -1)) ∧ Sh1 = zShF ∧ (gM I I1 ∧ gInv I1) ∧ L1 = L ∧ R1 = R) := by
  have hp2 := P2 hP
  have hmw := mwV hP hI
  refine z_met (by decide) [some (.ref 0), some (.int a), some (.int b)] rfl rfl (Nat.le_of_ble_eq_true rfl) (fun X => ?_)
  refine z_aload_n d_X7_goes_0 rfl ?_
  refine z_iload_n d_X7_goes_1 rfl ?_
  refine z_cVi d_X7_goes_2 q_X7_goes_213 (by first | rfl | assumption) (by omega) ⟨rfl, rfl⟩ (ct_X7_isWord hR) rfl rfl rfl ⟨Nat.zero_le _, Nat.zero_le _⟩ ?_
  rw [hmw]
  refine z_if_eq d_X7_goes_5 (fun h_5 => ?_) (fun h_5 => ?_)
  · have hw := b0 h_5
    refine z_iconst d_X7_goes_16 ki_m1 ?_
    exact z_ireturn d_X7_goes_17 rfl ⟨by rw [hw, Bool.false_and]; rfl, rfl, ⟨gM_rf I, hG⟩, rfl, rfl⟩
  · refine z_aload_n d_X7_goes_8 rfl ?_
    refine z_iload_n d_X7_goes_9 rfl ?_
    refine z_cVi d_X7_goes_10 q_X7_goes_213 (by first | rfl | assumption) (by omega) ⟨rfl, rfl⟩ (ct_X7_isWord hR) rfl rfl rfl ⟨Nat.zero_le _, Nat.zero_le _⟩ ?_
    rw [hmw]
    refine z_if_ne d_X7_goes_13 (fun h_13 => ?_) (fun h_13 => ?_)
    · rw [b1 h_5, b1 h_13, Bool.and_self, if_pos rfl]
      obtain ⟨ea, ha⟩ := inV_natn (by omega) (b1 h_5)
      obtain ⟨eb, hb⟩ := inV_natn (by omega) (b1 h_13)
      generalize a.toNatClampNeg = a' at ea ha ⊢
      generalize b.toNatClampNeg = b' at eb hb ⊢
      subst ea
      subst eb
      refine z_aload_n d_X7_goes_18 rfl ?_
      refine z_getR d_X7_goes_19 f_X7_60 (by first | rfl | assumption) (by omega) (by first | exact hR _ _ _ rfl | rfl | assumption) ?_
      refine z_aload_n d_X7_goes_22 rfl ?_
      refine z_getR d_X7_goes_23 f_X7_19 (by first | rfl | assumption) (by omega) (by first | exact hR _ _ _ rfl | rfl | assumption) ?_
      refine z_getR d_X7_goes_26 f_X7_89 (by first | rfl | assumption) (by omega) (by first | exact hR _ _ _ rfl | rfl | assumption) ?_
      refine z_bipush d_X7_goes_29 kb_6 ?_
      refine z_iaload d_X7_goes_31 (by first | rfl | assumption) (by omega) (zix_lit 6 (by decide)) ?_
      rw [hI]
      refine z_rV d_X7_goes_32 q_X7_goes_222 (by first | rfl | assumption) (by omega) ⟨rfl, rfl⟩ (ct_X1_bePhases hR hP hG) rfl rfl rfl ⟨Nat.zero_le _, Nat.zero_le _⟩ (fun r_32 Sh_32 I_32 L_32 R_32 hq_32 => ?_)
      obtain ⟨rfl, rfl, ⟨hM1, hT1⟩, rfl, rfl⟩ := hq_32
      refine z_aload_n d_X7_goes_35 rfl ?_
      refine z_getR d_X7_goes_36 f_X7_60 (by first | rfl | assumption) (by omega) (by first | exact hR _ _ _ rfl | rfl | assumption) ?_
      refine z_iload_n d_X7_goes_39 rfl ?_
      refine z_cVi d_X7_goes_40 q_X7_goes_226 (by first | rfl | assumption) (by omega) ⟨rfl, rfl⟩ (ct_X1_isGood hR hP hT1.1.1 (by omega)) rfl rfl rfl ⟨Nat.zero_le _, Nat.zero_le _⟩ ?_
      refine z_if_ne d_X7_goes_43 (fun h_43 => ?_) (fun h_43 => ?_)
      · have hg := of_decide_eq_true (b1 h_43)
        rw [if_pos hg]
        have hs4 := stV_4 hP a'
        refine z_aload_n d_X7_goes_49 rfl ?_
        refine z_getR d_X7_goes_50 f_X7_60 (by first | rfl | assumption) (by omega) (by first | exact hR _ _ _ rfl | rfl | assumption) ?_
        refine z_iload_n d_X7_goes_53 rfl ?_
        refine z_aload_n d_X7_goes_54 rfl ?_
        refine z_getR d_X7_goes_55 f_X7_60 (by first | rfl | assumption) (by omega) (by first | exact hR _ _ _ rfl | rfl | assumption) ?_
        refine z_iload_n d_X7_goes_58 rfl ?_
        refine z_cVi d_X7_goes_59 q_X7_goes_242 (by first | rfl | assumption) (by omega) ⟨rfl, rfl⟩ (ct_X1_startOf hR hP hT1.1.1 (by omega)) rfl rfl rfl ⟨Nat.zero_le _, Nat.zero_le _⟩ ?_
        refine z_iload_n d_X7_goes_62 rfl ?_
        refine z_cVi d_X7_goes_63 q_X7_goes_245 (by first | rfl | assumption) (by omega) ⟨rfl, rfl⟩ (ct_X1_fare (s := ((stV P a' P 0 : Nat) : Int)) hR hP hT1.1.1 (by omega) (by omega) (by omega) (by omega)) rfl rfl rfl ⟨Nat.zero_le _, Nat.zero_le _⟩ ?_
        exact z_ireturn d_X7_goes_66 rfl ⟨rfl, rfl, ⟨gM_ld hM1, gInv_of hP (gT_ld hT1)⟩, rfl, rfl⟩
      · have hg := b0 h_43
        rw [decide_eq_false_iff_not] at hg
        refine z_bipush d_X7_goes_46 kb_m2 ?_
        exact z_ireturn d_X7_goes_48 rfl ⟨by rw [if_neg hg], rfl, ⟨hM1, gInv_of hP hT1⟩, rfl, rfl⟩
    · have hw := b0 h_13
      refine z_iconst d_X7_goes_16 ki_m1 ?_
      exact z_ireturn d_X7_goes_17 rfl ⟨by rw [hw, Bool.and_false]; rfl, rfl, ⟨gM_rf I, hG⟩, rfl, rfl⟩
set_option maxRecDepth 100000 in
set_option maxHeartbeats 4000000 in
theorem ct_X7_rounds {E : zE} {I : zI} {L : zL} {R : zR} {P A B : Nat} {f n d : Int32} (hR : zLx R) (hP : P = 3 ∨ P = 4) (hG : gInv I) (hAB : wAB R A B) (hI : I 4 6 = nI P) : zCt E m_X7_rounds zShF [.ref 0, .int f, .int n, .int d] I L R (fun r Sh1 I1 L1 R1 => r = some (.long (if (inV 0 (nI (2 ^ P - 1)) f && (inV 1 12 n && inV (-3) 3 d)) = true then vwV P f.toNatClampNeg n.toNatClampNeg d.toInt else -1)) ∧ Sh1 = zShF ∧ (gM I I1 ∧ gInv I1) ∧ (∃ g k, L1 = va_up (va_up L 43 g) 44 k) ∧ (∃ A' B', R1 = zr (zr R 37 11 (some A')) 37 12 (some B') ∧ ((A' = 43 ∧ B' = 44) ∨ (A' = 44 ∧ B' = 43)))) := by
  have hp2 := P2 hP
  have hmw := mwV hP hI
  have hbad : (∃ g k, L = va_up (va_up L 43 g) 44 k) ∧ (∃ A' B', R = zr (zr R 37 11 (some A')) 37 12 (some B') ∧ ((A' = 43 ∧ B' = 44) ∨ (A' = 44 ∧ B' = 43))) := ⟨⟨L 43, L 44, by rw [up_self, up_self]⟩, A, B, zr_id hAB, hAB.2.2⟩
  refine z_met (by decide) [some (.ref 0), some (.int f), some (.int n), some (.int d)] rfl rfl (Nat.le_of_ble_eq_true rfl) (fun X => ?_)
  refine z_aload_n d_X7_rounds_0 rfl ?_
  refine z_iload_n d_X7_rounds_1 rfl ?_
  refine z_cVi d_X7_rounds_2 q_X7_rounds_213 (by first | rfl | assumption) (by omega) ⟨rfl, rfl⟩ (ct_X7_isWord hR) rfl rfl rfl ⟨Nat.zero_le _, Nat.zero_le _⟩ ?_
  rw [hmw]
  refine z_if_eq d_X7_rounds_5 (fun h_5 => ?_) (fun h_5 => ?_)
  · refine z_ldc2 d_X7_rounds_30 l_X7_157 ?_
    exact z_lreturn d_X7_rounds_33 rfl ⟨by
      rw [if_neg]
      first
        | (rw [b0 h_5]; simp; done)
        | (simp [inV, h_10]; done)
        | (simp [inV, h_16]; done)
        | (simp [inV, h_22]; done)
        | (simp [inV, Int32.not_le.mp h_27]), rfl, ⟨gM_rf I, hG⟩, hbad.1, hbad.2⟩
  · refine z_iload_n d_X7_rounds_8 rfl ?_
    refine z_iconst d_X7_rounds_9 ki_1 ?_
    refine z_icmp_lt d_X7_rounds_10 (fun h_10 => ?_) (fun h_10 => ?_)
    · refine z_ldc2 d_X7_rounds_30 l_X7_157 ?_
      exact z_lreturn d_X7_rounds_33 rfl ⟨by
        rw [if_neg]
        first
          | (rw [b0 h_5]; simp; done)
          | (simp [inV, h_10]; done)
          | (simp [inV, h_16]; done)
          | (simp [inV, h_22]; done)
          | (simp [inV, Int32.not_le.mp h_27]), rfl, ⟨gM_rf I, hG⟩, hbad.1, hbad.2⟩
    · refine z_iload_n d_X7_rounds_13 rfl ?_
      refine z_bipush d_X7_rounds_14 kb_12 ?_
      refine z_icmp_gt d_X7_rounds_16 (fun h_16 => ?_) (fun h_16 => ?_)
      · refine z_ldc2 d_X7_rounds_30 l_X7_157 ?_
        exact z_lreturn d_X7_rounds_33 rfl ⟨by
          rw [if_neg]
          first
            | (rw [b0 h_5]; simp; done)
            | (simp [inV, h_10]; done)
            | (simp [inV, h_16]; done)
            | (simp [inV, h_22]; done)
            | (simp [inV, Int32.not_le.mp h_27]), rfl, ⟨gM_rf I, hG⟩, hbad.1, hbad.2⟩
      · refine z_iload_n d_X7_rounds_19 rfl ?_
        refine z_bipush d_X7_rounds_20 kb_m3 ?_
        refine z_icmp_lt d_X7_rounds_22 (fun h_22 => ?_) (fun h_22 => ?_)
        · refine z_ldc2 d_X7_rounds_30 l_X7_157 ?_
          exact z_lreturn d_X7_rounds_33 rfl ⟨by
            rw [if_neg]
            first
              | (rw [b0 h_5]; simp; done)
              | (simp [inV, h_10]; done)
              | (simp [inV, h_16]; done)
              | (simp [inV, h_22]; done)
              | (simp [inV, Int32.not_le.mp h_27]), rfl, ⟨gM_rf I, hG⟩, hbad.1, hbad.2⟩
        · refine z_iload_n d_X7_rounds_25 rfl ?_
          refine z_iconst d_X7_rounds_26 ki_3 ?_
          refine z_icmp_le d_X7_rounds_27 (fun h_27 => ?_) (fun h_27 => ?_)
          · have e1 : inV 1 12 n = true := by simp [inV, h_10, h_16]
            have e2 : inV (-3) 3 d = true := by simp [inV, h_22, Int32.not_lt.mpr h_27]
            rw [b1 h_5, e1, e2, Bool.and_self, Bool.and_self, if_pos rfl]
            obtain ⟨ef, hf⟩ := inV_natn (by omega) (b1 h_5)
            obtain ⟨en, hn1, hn2⟩ := inV_nat (n := 12) (by decide) e1
            have hd := inV_int e2
            have hd3 : (-3 : Int32).toInt = -3 := rfl
            have hd4 : (3 : Int32).toInt = 3 := rfl
            have ed : d = iI d.toInt := (Int32.ofInt_toInt d).symm
            generalize f.toNatClampNeg = f' at ef hf ⊢
            generalize n.toNatClampNeg = n' at en hn1 hn2 ⊢
            generalize d.toInt = d' at ed hd ⊢
            subst ef
            subst en
            subst ed
            refine z_aload_n d_X7_rounds_34 rfl ?_
            refine z_getR d_X7_rounds_35 f_X7_60 (by first | rfl | assumption) (by omega) (by first | exact hR _ _ _ rfl | rfl | assumption) ?_
            refine z_aload_n d_X7_rounds_38 rfl ?_
            refine z_getR d_X7_rounds_39 f_X7_19 (by first | rfl | assumption) (by omega) (by first | exact hR _ _ _ rfl | rfl | assumption) ?_
            refine z_getR d_X7_rounds_42 f_X7_89 (by first | rfl | assumption) (by omega) (by first | exact hR _ _ _ rfl | rfl | assumption) ?_
            refine z_bipush d_X7_rounds_45 kb_6 ?_
            refine z_iaload d_X7_rounds_47 (by first | rfl | assumption) (by omega) (zix_lit 6 (by decide)) ?_
            rw [hI]
            refine z_rV d_X7_rounds_48 q_X7_rounds_222 (by first | rfl | assumption) (by omega) ⟨rfl, rfl⟩ (ct_X1_bePhases hR hP hG) rfl rfl rfl ⟨Nat.zero_le _, Nat.zero_le _⟩ (fun r_48 Sh_48 I_48 L_48 R_48 hq_48 => ?_)
            obtain ⟨rfl, rfl, ⟨hM1, hT1⟩, rfl, rfl⟩ := hq_48
            refine z_aload_n d_X7_rounds_51 rfl ?_
            refine z_getR d_X7_rounds_52 f_X7_60 (by first | rfl | assumption) (by omega) (by first | exact hR _ _ _ rfl | rfl | assumption) ?_
            refine z_iload_n d_X7_rounds_55 rfl ?_
            refine z_iload_n d_X7_rounds_56 rfl ?_
            refine z_iload_n d_X7_rounds_57 rfl ?_
            refine z_rV d_X7_rounds_58 q_X7_rounds_251 (by first | rfl | assumption) (by omega) ⟨rfl, rfl⟩ (ct_X1_waysRound hR hP hT1 hAB (by omega) hn1 hn2 (by omega) (by omega)) rfl rfl rfl ⟨Nat.zero_le _, Nat.zero_le _⟩ (fun r_58 Sh_58 I_58 L_58 R_58 hq_58 => ?_)
            obtain ⟨rfl, rfl, rfl, hL1, hR1⟩ := hq_58
            exact z_lreturn d_X7_rounds_61 rfl ⟨rfl, rfl, ⟨hM1, gInv_of hP hT1⟩, hL1, hR1⟩
          · refine z_ldc2 d_X7_rounds_30 l_X7_157 ?_
            exact z_lreturn d_X7_rounds_33 rfl ⟨by
              rw [if_neg]
              first
                | (rw [b0 h_5]; simp; done)
                | (simp [inV, h_10]; done)
                | (simp [inV, h_16]; done)
                | (simp [inV, h_22]; done)
                | (simp [inV, Int32.not_le.mp h_27]), rfl, ⟨gM_rf I, hG⟩, hbad.1, hbad.2⟩
set_option maxRecDepth 100000 in
set_option maxHeartbeats 4000000 in
theorem ct_X7_fewest {E : zE} {I : zI} {L : zL} {R : zR} {P A B : Nat} {d : Int32} (hR : zLx R) (hP : P = 3 ∨ P = 4) (hG : gInv I) (hAB : wAB R A B) (hI : I 4 6 = nI P) : zCt E m_X7_fewest zShF [.ref 0, .int d] I L R (fun r Sh1 I1 L1 R1 => r = some (.int (if inV (-1) 1 d = true then nI (fwN d.toInt) else -1)) ∧ Sh1 = zShF ∧ (gM I I1 ∧ gInv I1) ∧ (∃ g k, L1 = va_up (va_up L 43 g) 44 k) ∧ (∃ A' B', R1 = zr (zr R 37 11 (some A')) 37 12 (some B') ∧ ((A' = 43 ∧ B' = 44) ∨ (A' = 44 ∧ B' = 43)))) := by
  have hp2 := P2 hP
  have hmw := mwV hP hI
  have hbad : (∃ g k, L = va_up (va_up L 43 g) 44 k) ∧ (∃ A' B', R = zr (zr R 37 11 (some A')) 37 12 (some B') ∧ ((A' = 43 ∧ B' = 44) ∨ (A' = 44 ∧ B' = 43))) := ⟨⟨L 43, L 44, by rw [up_self, up_self]⟩, A, B, zr_id hAB, hAB.2.2⟩
  refine z_met (by decide) [some (.ref 0), some (.int d), none, none] rfl rfl (Nat.le_of_ble_eq_true rfl) (fun X => ?_)
  refine z_iload_n d_X7_fewest_0 rfl ?_
  refine z_iconst d_X7_fewest_1 ki_m1 ?_
  refine z_icmp_lt d_X7_fewest_2 (fun h_2 => ?_) (fun h_2 => ?_)
  · refine z_iconst d_X7_fewest_10 ki_m1 ?_
    exact z_ireturn d_X7_fewest_11 rfl ⟨by rw [if_neg (by simp [inV, h_2])], rfl, ⟨gM_rf I, hG⟩, hbad.1, hbad.2⟩
  · refine z_iload_n d_X7_fewest_5 rfl ?_
    refine z_iconst d_X7_fewest_6 ki_1 ?_
    refine z_icmp_le d_X7_fewest_7 (fun h_7 => ?_) (fun h_7 => ?_)
    · have e2 : inV (-1) 1 d = true := by simp [inV, h_2, Int32.not_lt.mpr h_7]
      rw [if_pos e2]
      have hd := inV_int e2
      have hd3 : (-1 : Int32).toInt = -1 := rfl
      have hd4 : (1 : Int32).toInt = 1 := rfl
      have ed : d = iI d.toInt := (Int32.ofInt_toInt d).symm
      generalize d.toInt = d' at ed hd ⊢
      subst ed
      refine z_aload_n d_X7_fewest_12 rfl ?_
      refine z_getR d_X7_fewest_13 f_X7_60 (by first | rfl | assumption) (by omega) (by first | exact hR _ _ _ rfl | rfl | assumption) ?_
      refine z_aload_n d_X7_fewest_16 rfl ?_
      refine z_getR d_X7_fewest_17 f_X7_19 (by first | rfl | assumption) (by omega) (by first | exact hR _ _ _ rfl | rfl | assumption) ?_
      refine z_getR d_X7_fewest_20 f_X7_89 (by first | rfl | assumption) (by omega) (by first | exact hR _ _ _ rfl | rfl | assumption) ?_
      refine z_bipush d_X7_fewest_23 kb_6 ?_
      refine z_iaload d_X7_fewest_25 (by first | rfl | assumption) (by omega) (zix_lit 6 (by decide)) ?_
      rw [hI]
      refine z_rV d_X7_fewest_26 q_X7_fewest_222 (by first | rfl | assumption) (by omega) ⟨rfl, rfl⟩ (ct_X1_bePhases hR hP hG) rfl rfl rfl ⟨Nat.zero_le _, Nat.zero_le _⟩ (fun r_26 Sh_26 I_26 L_26 R_26 hq_26 => ?_)
      obtain ⟨rfl, rfl, ⟨hM1, hT1⟩, hLe, hRe⟩ := hq_26
      rw [hLe, hRe]
      have hI1 : I_26 4 6 = nI P := by rw [hM1 4 (by decide)]; exact hI
      have hmw1 := mwV hP hI1
      have hfb := fwN_b d'
      obtain ⟨v0, hv3, hv0⟩ := fw_p hP (show -1 ≤ d' by omega) (show d' ≤ 1 by omega)
      refine z_iconst d_X7_fewest_29 ki_1 ?_
      refine z_istore2 d_X7_fewest_30 rfl ?_
      have loop : ∀ (Qs : State → Prop), (∀ (M : zL) (R1 : zR) (A1 B1 : Nat) (o3 : Option Value), (∃ g k, M = va_up (va_up L 43 g) 44 k) → wAB R1 A1 B1 → R1 = zr (zr R 37 11 (some A1)) 37 12 (some B1) → zZ E m_X7_fewest X Qs zShF 0 0 62 [some (.ref 0), some (.int (iI d')), some (.int (nI (fwN d'))), o3] [] I_26 M R1) → ∀ i, i ≤ fwN d' - 1 → ∀ (M : zL) (R1 : zR) (A1 B1 : Nat) (o3 : Option Value), (∃ g k, M = va_up (va_up L 43 g) 44 k) → wAB R1 A1 B1 → R1 = zr (zr R 37 11 (some A1)) 37 12 (some B1) → zZ E m_X7_fewest X Qs zShF 0 0 31 [some (.ref 0), some (.int (iI d')), some (.int (nI (i + 1))), o3] [] I_26 M R1 := by
        intro Qs hx
        refine up_rec (fun i hi' ih M R1 A1 B1 o3 hMM hW1 hR1 => ?_)
        refine z_iload_n d_X7_fewest_31 rfl ?_
        refine z_bipush d_X7_fewest_32 kb_12 ?_
        refine z_icmp_gt d_X7_fewest_34 (fun h_34 => absurd ((nI_ltI (a := 12) (b := i + 1) (by decide) (by omega)).mp h_34) (by omega)) (fun h_34 => ?_)
        refine z_iconst d_X7_fewest_37 ki_0 ?_
        refine z_istore3 d_X7_fewest_38 rfl ?_
        have loop2 : ∀ (Qs : State → Prop), (i + 1 = fwN d' → ∀ (M : zL) (R1 : zR) (A1 B1 : Nat) (o3 : Option Value), (∃ g k, M = va_up (va_up L 43 g) 44 k) → wAB R1 A1 B1 → R1 = zr (zr R 37 11 (some A1)) 37 12 (some B1) → zZ E m_X7_fewest X Qs zShF 0 0 62 [some (.ref 0), some (.int (iI d')), some (.int (nI (fwN d'))), o3] [] I_26 M R1) → (i + 1 < fwN d' → ∀ (M : zL) (R1 : zR) (A1 B1 : Nat) (o3 : Option Value), (∃ g k, M = va_up (va_up L 43 g) 44 k) → wAB R1 A1 B1 → R1 = zr (zr R 37 11 (some A1)) 37 12 (some B1) → zZ E m_X7_fewest X Qs zShF 0 0 70 [some (.ref 0), some (.int (iI d')), some (.int (nI (i + 1))), o3] [] I_26 M R1) → ∀ v, v ≤ 2 ^ P → (i + 1 = fwN d' → v ≤ v0) → ∀ (M : zL) (R1 : zR) (A1 B1 : Nat), (∃ g k, M = va_up (va_up L 43 g) 44 k) → wAB R1 A1 B1 → R1 = zr (zr R 37 11 (some A1)) 37 12 (some B1) → zZ E m_X7_fewest X Qs zShF 0 0 39 [some (.ref 0), some (.int (iI d')), some (.int (nI (i + 1))), some (.int (nI v))] [] I_26 M R1 := by
          intro Qs hx2 hx3
          refine up_rec (fun v hv ih2 hvv M R1 A1 B1 hMM hW1 hR1 => ?_)
          have hRx : zLx R1 := by rw [hR1]; exact zLx_zr hR _ _
          refine z_iload_n d_X7_fewest_39 rfl ?_
          refine z_aload_n d_X7_fewest_40 rfl ?_
          refine z_cVi d_X7_fewest_41 q_X7_fewest_248 (by first | rfl | assumption) (by omega) ⟨rfl, rfl⟩ (ct_X7_mostWord hRx) rfl rfl rfl ⟨Nat.zero_le _, Nat.zero_le _⟩ ?_
          rw [hmw1]
          refine z_icmp_gt d_X7_fewest_44 (fun h_44 => ?_) (fun h_44 => ?_)
          · have hvf : 2 ^ P - 1 < v := (nI_ltI (a := 2 ^ P - 1) (b := v) (by omega) (by omega)).mp h_44
            refine hx3 ?_ M R1 A1 B1 _ hMM hW1 hR1
            rcases Nat.lt_or_ge (i + 1) (fwN d') with q | q
            · exact q
            · have := hvv (by omega); omega
          · have hv2 : v < 2 ^ P := by rcases Nat.lt_or_ge v (2 ^ P) with q | q; exact q; exact absurd (nI_lt (a := 2 ^ P - 1) (b := v) (by omega) (by omega)) h_44
            refine z_aload_n d_X7_fewest_47 rfl ?_
            refine z_getR d_X7_fewest_48 f_X7_60 (by first | rfl | assumption) (by omega) (hRx _ _ _ rfl) ?_
            refine z_iload_n d_X7_fewest_51 rfl ?_
            refine z_iload_n d_X7_fewest_52 rfl ?_
            refine z_iload_n d_X7_fewest_53 rfl ?_
            refine z_rV d_X7_fewest_54 q_X7_fewest_251 (by first | rfl | assumption) (by omega) ⟨rfl, rfl⟩ (ct_X1_waysRound hRx hP hT1 hW1 hv2 (show 1 ≤ i + 1 by omega) (show i + 1 ≤ 12 by omega) (show -3 ≤ d' by omega) (show d' ≤ 3 by omega)) rfl rfl rfl ⟨Nat.zero_le _, Nat.zero_le _⟩ (fun r_54 Sh_54 I_54 L_54 R_54 hq_54 => ?_)
            obtain ⟨rfl, rfl, rfl, ⟨g1, k1, hL1⟩, ⟨A2, B2, hR2, hAB2⟩⟩ := hq_54
            have hMM2 : ∃ g k, L_54 = va_up (va_up L 43 g) 44 k := by
              obtain ⟨g2, k2, hM2⟩ := hMM
              exact ⟨g1, k1, by rw [hL1, hM2, wv1]⟩
            have hRR2 : R_54 = zr (zr R 37 11 (some A2)) 37 12 (some B2) := by rw [hR2, hR1, zr_zr _ _ _ _ _ _ (by decide)]
            have hWW2 : wAB R_54 A2 B2 := by rw [hRR2]; exact wAB_n hAB2
            refine z_lconst (v := 0) d_X7_fewest_57 (by decide) ?_
            refine z_lcmp d_X7_fewest_58 ?_
            have hvw : (if cntV (fun g => bg P v g) P = 1 then oN (cnR P v (i + 1) d') else 0) = vwV P v (i + 1) d' := rfl
            rw [hvw]
            refine z_if_le d_X7_fewest_59 (fun h_59 => ?_) (fun h_59 => ?_)
            · have hnp : ¬ 0 < vwV P v (i + 1) d' := fun q => absurd h_59 (Int32.not_le.mpr ((lg_gt _ _).mpr q))
              refine z_iinc3 d_X7_fewest_64 ki_1 rfl ?_
              refine z_goto d_X7_fewest_67 ?_
              rw [nI_1]
              refine ih2 hv2 (fun he => ?_) _ _ A2 B2 hMM2 hWW2 hRR2
              have h1 := hvv he
              rcases Nat.lt_or_ge v v0 with q | q
              · omega
              · exfalso
                obtain rfl : v = v0 := by omega
                rw [he] at hnp
                exact hnp hv0
            · have hp : 0 < vwV P v (i + 1) d' := (lg_gt _ _).mp (Int32.not_le.mp h_59)
              have he : i + 1 = fwN d' := by
                rcases Nat.lt_or_ge (i + 1) (fwN d') with q | q
                · rw [fw_z hP hv2 (by omega) (by omega) (by omega) q] at hp
                  exact absurd hp (by decide)
                · omega
              have h := hx2 he _ _ A2 B2 (some (.int (nI v))) hMM2 hWW2 hRR2
              rw [← he] at h
              exact h
        refine loop2 _ (fun he M R1 A1 B1 o3 hMM hW1 hR1 => ?_) (fun hlt M R1 A1 B1 o3 hMM hW1 hR1 => ?_) 0 (Nat.zero_le _) (fun _ => Nat.zero_le _) M R1 A1 B1 hMM hW1 hR1
        · exact hx M R1 A1 B1 o3 hMM hW1 hR1
        · refine z_iinc2 d_X7_fewest_70 ki_1 rfl ?_
          refine z_goto d_X7_fewest_73 ?_
          rw [nI_1]
          exact ih (by omega) _ _ A1 B1 _ hMM hW1 hR1
      refine loop _ (fun M R1 A1 B1 o3 hMM hW1 hR1 => ?_) 0 (Nat.zero_le _) L R A B none hbad.1 hAB (zr_id hAB)
      refine z_iload_n d_X7_fewest_62 rfl ?_
      exact z_ireturn d_X7_fewest_63 rfl ⟨rfl, rfl, ⟨hM1, gInv_of hP hT1⟩, hMM, ⟨A1, B1, hR1, hW1.2.2⟩⟩
    · refine z_iconst d_X7_fewest_10 ki_m1 ?_
      exact z_ireturn d_X7_fewest_11 rfl ⟨by rw [if_neg (by simp [inV, Int32.not_le.mp h_7])], rfl, ⟨gM_rf I, hG⟩, hbad.1, hbad.2⟩
