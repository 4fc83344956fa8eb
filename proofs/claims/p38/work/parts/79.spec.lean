/-! gates: all REGIONS, and where they go on to -/
section ZREL
variable {E : zE} {md : zMD} {X : zX} {Qs : State → Prop} {Sh : zSh} {kc ks pc pc' : Nat} {ls : List (Option Value)} {st : List Value} {I : zI} {L : zL} {R : zR} {Q : Option Value → zSh → zI → zL → zR → Prop}
theorem z_rV {idx q n ci : Nat} {mdc : zMD} {As stk : List Value} (hd : zD md pc (.invokevirtual idx) 3 pc') (hc : zCv md idx mdc ci n) (hs : Sh[q]? = some (0, ci)) (hq : q < 1000000) (h0 : zmc mdc = 0 ∧ zms mdc = 0) (hct : zCt E mdc Sh (.ref q :: As) I L R Q) (hst : stk = As.reverse ++ .ref q :: st) (hn : As.length = n) (hw : Nat.ble (zcat st) 8 = true) (hroom : kc ≤ (zrm md).cells ∧ ks ≤ (zrm md).slots)
    (k : ∀ (r : Option Value) (Sh' : zSh) (I' : zI) (L' : zL) (R' : zR), Q r Sh' I' L' R' → zZ E md X Qs Sh' kc ks pc' ls (r.toList ++ st) I' L' R') : zZ E md X Qs Sh kc ks pc ls stk I L R :=
  z_callV hd hc hs hq hct hst hn hw (by rw [h0.1, h0.2]; exact hroom) (fun r Sh1 I1 L1 R1 h => by rw [h0.1, h0.2]; exact k r Sh1 I1 L1 R1 h)
end ZREL
def rgL3 : List (Nat × Nat) := [(1, 0), (2, 1), (3, 0), (4, 2), (5, 2), (6, 1)]
def gtL3 : List (List (Option (Nat × Int))) := [[none, some (0, 0), none, some (2, 0), none, some (4, -1), none], [none, none, some (1, 0), some (2, 0), none, none, some (5, 0)], [none, some (0, 0), some (1, 0), some (2, 0), none, some (4, -1), some (5, 0)], [none, none, none, none, some (3, 0), some (4, 0), some (5, 0)], [none, some (0, 1), none, some (2, 1), some (3, 0), some (4, 0), some (5, 0)], [none, none, some (1, 0), some (2, 0), some (3, 0), some (4, 0), some (5, 0)]]
def rgL4 : List (Nat × Nat) := [(1, 0), (2, 1), (3, 0), (4, 2), (5, 0), (5, 2), (6, 1), (7, 0), (8, 3), (9, 3), (10, 1), (10, 3), (11, 3), (12, 2), (13, 2), (14, 1)]
def gtL4 : List (List (Option (Nat × Int))) := [[none, some (0, 0), none, some (2, 0), none, some (4, 0), none, some (7, 0), none, some (9, -1), none, some (12, -1), none, some (14, -1), none], [none, none, some (1, 0), some (2, 0), none, none, some (6, 0), some (7, 0), none, none, some (10, 0), some (12, -1), none, none, some (15, 0)], [none, some (0, 0), some (1, 0), some (2, 0), none, some (4, 0), some (6, 0), some (7, 0), none, some (9, -1), some (10, 0), some (12, -1), none, some (14, -1), some (15, 0)], [none, none, none, none, some (3, 0), some (5, 0), some (6, 0), some (7, 0), none, none, none, none, some (13, 0), some (14, 0), some (15, 0)], [none, some (0, 0), none, some (2, 0), none, some (4, 0), none, some (7, 0), none, some (9, -1), none, some (12, -1), none, some (14, -1), none], [none, none, none, none, some (3, 0), some (5, 0), some (6, 0), some (7, 0), none, none, none, none, some (13, 0), some (14, 0), some (15, 0)], [none, none, some (1, 0), some (2, 0), some (3, 0), some (5, 0), some (6, 0), some (7, 0), none, none, some (10, 0), some (12, -1), some (13, 0), some (14, 0), some (15, 0)], [none, some (0, 0), some (1, 0), some (2, 0), some (3, 0), none, some (6, 0), some (7, 0), none, some (9, -1), some (10, 0), some (12, -1), some (13, 0), none, some (15, 0)], [none, none, none, none, none, none, none, none, some (8, 0), some (9, 0), some (11, 0), some (12, 0), some (13, 0), some (14, 0), some (15, 0)], [none, some (0, 1), none, some (2, 1), none, some (4, 1), none, some (7, 1), some (8, 0), some (9, 0), some (11, 0), some (12, 0), some (13, 0), some (14, 0), some (15, 0)], [none, none, some (1, 0), some (2, 0), none, none, some (6, 0), some (7, 0), none, none, some (10, 0), some (12, -1), none, none, some (15, 0)], [none, none, none, none, none, none, none, none, some (8, 0), some (9, 0), some (11, 0), some (12, 0), some (13, 0), some (14, 0), some (15, 0)], [none, some (0, 1), some (1, 1), some (2, 1), none, some (4, 1), some (6, 1), some (7, 1), some (8, 0), some (9, 0), none, some (12, 0), some (13, 0), some (14, 0), none], [none, none, none, none, some (3, 0), some (5, 0), some (6, 0), some (7, 0), some (8, 0), some (9, 0), some (11, 0), some (12, 0), some (13, 0), some (14, 0), some (15, 0)], [none, some (0, 1), none, some (2, 1), some (3, 0), none, some (6, 0), none, some (8, 0), some (9, 0), some (11, 0), some (12, 0), some (13, 0), some (14, 0), some (15, 0)], [none, none, some (1, 0), some (2, 0), some (3, 0), some (5, 0), some (6, 0), some (7, 0), some (8, 0), some (9, 0), none, none, some (13, 0), some (14, 0), some (15, 0)]]
def rgL (P : Nat) : List (Nat × Nat) := if P = 3 then rgL3 else rgL4
def rgN (P : Nat) : Nat := if P = 3 then 6 else 16
def rgW (P r : Nat) : Nat := ((rgL P)[r]?.getD (0, 0)).1
def rgS (P r : Nat) : Nat := ((rgL P)[r]?.getD (0, 0)).2
def gtT (P r b : Nat) : Option (Nat × Int) := (((if P = 3 then gtL3 else gtL4)[r]?.getD [])[b]?.getD none)
/-- how many REGIONS begin ahead of a GATE of a WORD -/
def rgC (P w g : Nat) : Nat := ((rgL P).filter (fun x => x.1 < w || (x.1 == w && x.2 < g))).length
theorem rg_b3 : ∀ r : Fin 6, 1 ≤ rgW 3 r.val ∧ rgW 3 r.val < 7 ∧ rgS 3 r.val < 3 ∧ bg 3 (rgW 3 r.val) (rgS 3 r.val : Nat) = true := by decide
theorem rg_b4 : ∀ r : Fin 16, 1 ≤ rgW 4 r.val ∧ rgW 4 r.val < 15 ∧ rgS 4 r.val < 4 ∧ bg 4 (rgW 4 r.val) (rgS 4 r.val : Nat) = true := by decide
theorem rg_b {P r : Nat} (hP : P = 3 ∨ P = 4) (hr : r < rgN P) : 1 ≤ rgW P r ∧ rgW P r < 2 ^ P - 1 ∧ rgS P r < P ∧ bg P (rgW P r) (rgS P r : Nat) = true := by
  rcases hP with rfl | rfl
  · exact rg_b3 ⟨r, hr⟩
  · exact rg_b4 ⟨r, hr⟩
theorem rg_n {P : Nat} (hP : P = 3 ∨ P = 4) : rgN P ≤ 16 ∧ 6 ≤ rgN P := by rcases hP with rfl | rfl <;> decide
theorem rgC3 : ∀ w : Fin 7, 1 ≤ w.val → ∀ g : Fin 3, (bg 3 w.val (g.val : Nat) = true → rgC 3 w.val g.val < 6 ∧ rgW 3 (rgC 3 w.val g.val) = w.val ∧ rgS 3 (rgC 3 w.val g.val) = g.val ∧ rgC 3 w.val (g.val + 1) = rgC 3 w.val g.val + 1) ∧ (bg 3 w.val (g.val : Nat) = false → rgC 3 w.val (g.val + 1) = rgC 3 w.val g.val) := by decide
theorem rgC4 : ∀ w : Fin 15, 1 ≤ w.val → ∀ g : Fin 4, (bg 4 w.val (g.val : Nat) = true → rgC 4 w.val g.val < 16 ∧ rgW 4 (rgC 4 w.val g.val) = w.val ∧ rgS 4 (rgC 4 w.val g.val) = g.val ∧ rgC 4 w.val (g.val + 1) = rgC 4 w.val g.val + 1) ∧ (bg 4 w.val (g.val : Nat) = false → rgC 4 w.val (g.val + 1) = rgC 4 w.val g.val) := by decide
theorem rgCe3 : ∀ w : Fin 7, 1 ≤ w.val → rgC 3 w.val 3 = rgC 3 (w.val + 1) 0 := by decide
theorem rgCe4 : ∀ w : Fin 15, 1 ≤ w.val → rgC 4 w.val 4 = rgC 4 (w.val + 1) 0 := by decide
theorem rgC_s {P w g : Nat} (hP : P = 3 ∨ P = 4) (h1 : 1 ≤ w) (h2 : w < 2 ^ P - 1) (hg : g < P) : (bg P w (g : Nat) = true → rgC P w g < rgN P ∧ rgW P (rgC P w g) = w ∧ rgS P (rgC P w g) = g ∧ rgC P w (g + 1) = rgC P w g + 1) ∧ (bg P w (g : Nat) = false → rgC P w (g + 1) = rgC P w g) := by
  rcases hP with rfl | rfl
  · exact rgC3 ⟨w, h2⟩ h1 ⟨g, hg⟩
  · exact rgC4 ⟨w, h2⟩ h1 ⟨g, hg⟩
theorem rgC_e {P w : Nat} (hP : P = 3 ∨ P = 4) (h1 : 1 ≤ w) (h2 : w < 2 ^ P - 1) : rgC P w P = rgC P (w + 1) 0 := by
  rcases hP with rfl | rfl
  · exact rgCe3 ⟨w, h2⟩ h1
  · exact rgCe4 ⟨w, h2⟩ h1
theorem rgC_0 {P : Nat} (hP : P = 3 ∨ P = 4) : rgC P 1 0 = 0 ∧ rgC P (2 ^ P - 1) 0 = rgN P := by rcases hP with rfl | rfl <;> decide
theorem rg_inj3 : ∀ r q : Fin 6, rgW 3 r.val * 4 + rgS 3 r.val = rgW 3 q.val * 4 + rgS 3 q.val → r = q := by decide
theorem rg_inj4 : ∀ r q : Fin 16, rgW 4 r.val * 4 + rgS 4 r.val = rgW 4 q.val * 4 + rgS 4 q.val → r = q := by decide
theorem rg_inj {P r q : Nat} (hP : P = 3 ∨ P = 4) (hr : r < rgN P) (hq : q < rgN P) (h : rgW P r * 4 + rgS P r = rgW P q * 4 + rgS P q) : r = q := by
  rcases hP with rfl | rfl
  · exact congrArg Fin.val (rg_inj3 ⟨r, hr⟩ ⟨q, hq⟩ h)
  · exact congrArg Fin.val (rg_inj4 ⟨r, hr⟩ ⟨q, hq⟩ h)
/-- the tables are as they are: by what a PACKET meets -/
def gtOk (P r b : Nat) : Bool := match gtT P r b with
  | none => (farV P (rgW P r) (rgS P r : Nat) b).1 != 0
  | some (q, y) => decide (q < rgN P) && decide (rgW P q = b) && decide (farV P (rgW P r) (rgS P r : Nat) b = (0, some ((rgS P q : Nat) + P * y))) && decide (-1 ≤ y) && decide (y ≤ 1) && decide ((rgS P q : Int) + P * y - rgS P r ≤ P - 2) && decide (2 - (P : Int) ≤ (rgS P q : Int) + P * y - rgS P r)
set_option maxRecDepth 100000 in
theorem gt_ok3 : ∀ r : Fin 6, ∀ b : Fin 7, 1 ≤ b.val → gtOk 3 r.val b.val = true := by decide +kernel
set_option maxRecDepth 100000 in
theorem gt_ok4 : ∀ r : Fin 16, ∀ b : Fin 15, 1 ≤ b.val → gtOk 4 r.val b.val = true := by decide +kernel
theorem gt_ok {P r b : Nat} (hP : P = 3 ∨ P = 4) (hr : r < rgN P) (h1 : 1 ≤ b) (h2 : b < 2 ^ P - 1) : gtOk P r b = true := by
  rcases hP with rfl | rfl
  · exact gt_ok3 ⟨r, hr⟩ ⟨b, h2⟩ h1
  · exact gt_ok4 ⟨r, hr⟩ ⟨b, h2⟩ h1
theorem gt_none {P r b : Nat} (hP : P = 3 ∨ P = 4) (hr : r < rgN P) (h1 : 1 ≤ b) (h2 : b < 2 ^ P - 1) (h : gtT P r b = none) : (farV P (rgW P r) (rgS P r : Nat) b).1 ≠ 0 := by
  have := gt_ok hP hr h1 h2
  unfold gtOk at this
  rw [h] at this
  simpa using this
theorem gt_some {P r b q : Nat} {y : Int} (hP : P = 3 ∨ P = 4) (hr : r < rgN P) (h1 : 1 ≤ b) (h2 : b < 2 ^ P - 1) (h : gtT P r b = some (q, y)) : q < rgN P ∧ rgW P q = b ∧ farV P (rgW P r) (rgS P r : Nat) b = (0, some ((rgS P q : Nat) + P * y)) ∧ -1 ≤ y ∧ y ≤ 1 ∧ (rgS P q : Int) + P * y - rgS P r ≤ P - 2 ∧ 2 - (P : Int) ≤ (rgS P q : Int) + P * y - rgS P r := by
  have := gt_ok hP hr h1 h2
  unfold gtOk at this
  rw [h] at this
  simp only [Bool.and_eq_true, decide_eq_true_eq] at this
  obtain ⟨⟨⟨⟨⟨⟨a1, a2⟩, a3⟩, a4⟩, a5⟩, a6⟩, a7⟩ := this
  exact ⟨a1, a2, a3, a4, a5, a6, a7⟩
/-- nothing but the gates has changed -/
def gM (I J : zI) : Prop := ∀ k, k < 37 ∨ 42 < k → J k = I k
/-- the first c REGIONS are listed -/
def gA (P c : Nat) (J : zI) : Prop := J 37 0 = nI P ∧ J 37 7 = nI c ∧ ∀ r, r < c → J 38 r = nI (rgW P r) ∧ J 39 r = nI (rgS P r) ∧ J 40 (rgW P r * 4 + rgS P r) = nI r
def gE (P : Nat) (J : zI) (r b : Nat) : Prop := match gtT P r b with
  | none => J 41 (r * 16 + b) = -1
  | some (q, y) => J 41 (r * 16 + b) = nI q ∧ J 42 (r * 16 + b) = iI y
def gT (P : Nat) (J : zI) : Prop := gA P (rgN P) J ∧ ∀ r b, r < rgN P → 1 ≤ b → b < 2 ^ P - 1 → gE P J r b
def gInv (J : zI) : Prop := ∀ P, (P = 3 ∨ P = 4) → J 37 0 = nI P → gT P J
theorem gM_rf (I : zI) : gM I I := fun _ _ => rfl
theorem gM_tr {I J K : zI} (h1 : gM I J) (h2 : gM J K) : gM I K := fun k h => (h2 k h).trans (h1 k h)
theorem gM_zi {I J : zI} {p j : Nat} {x : Int32} (h : gM I J) (h1 : 37 ≤ p) (h2 : p ≤ 42) : gM I (zi J p j x) := fun k hk => by rw [zi_ne (by omega), h k hk]
theorem gM_va {I J : zI} {p : Nat} {f : Nat → Int32} (h : gM I J) (h1 : 37 ≤ p) (h2 : p ≤ 42) : gM I (va_up J p f) := fun k hk => by rw [up_ne (by omega), h k hk]
theorem ix4 (w g : Nat) : nI w * (4 : Int32) + nI g = nI (w * 4 + g) := by rw [show nI w * (4 : Int32) = nI (w * 4) from pk_mul w 4, nI_add]
theorem ix16 (w g : Nat) : nI w * (16 : Int32) + nI g = nI (w * 16 + g) := by rw [show nI w * (16 : Int32) = nI (w * 16) from pk_mul w 16, nI_add]
set_option maxRecDepth 100000 in
set_option maxHeartbeats 4000000 in
theorem ct_X1_listRegions {E : zE} {I : zI} {L : zL} {R : zR} {P : Nat} (hR : zLx R) (hP : P = 3 ∨ P = 4) (hI : I 37 0 = nI P) : zCt E m_X1_listRegions zShF [.ref 37] I L R (fun r Sh1 I1 L1 R1 => r = none ∧ Sh1 = zShF ∧ (gM I I1 ∧ gA P (rgN P) I1) ∧ L1 = L ∧ R1 = R) := by
  have hp2 := P2 hP
  have hn := rg_n hP
  refine z_met (by decide) [some (.ref 37), none, none] rfl rfl (Nat.le_of_ble_eq_true rfl) (fun X => ?_)
  refine z_aload_n d_X1_listRegions_0 rfl ?_
  refine z_iconst d_X1_listRegions_1 ki_0 ?_
  refine z_putI d_X1_listRegions_2 f_X1_104 p_X1_7 (by first | rfl | assumption) (by omega) ?_
  have hA0 : gM I (zi I 37 7 0) ∧ gA P 0 (zi I 37 7 0) := ⟨gM_zi (gM_rf I) (by decide) (by decide), by rw [zi_at2 (by decide)]; exact hI, by rw [zi_at]; rfl, fun r h => absurd h (by omega)⟩
  refine z_iconst d_X1_listRegions_5 ki_1 ?_
  refine z_istore1 d_X1_listRegions_6 rfl ?_
  have loop : ∀ (Qs : State → Prop), (∀ (J : zI) (o1 o2 : Option Value), gM I J ∧ gA P (rgN P) J → zZ E m_X1_listRegions X Qs zShF 0 0 99 [some (.ref 37), o1, o2] [] J L R) → ∀ i, i ≤ 2 ^ P - 2 → ∀ (J : zI) (o2 : Option Value), gM I J ∧ gA P (rgC P (i + 1) 0) J → zZ E m_X1_listRegions X Qs zShF 0 0 7 [some (.ref 37), some (.int (nI (i + 1))), o2] [] J L R := by
    intro Qs hx
    refine up_rec (fun i hi' ih J o2 hJ => ?_)
    refine z_iload_n d_X1_listRegions_7 rfl ?_
    refine z_aload_n d_X1_listRegions_8 rfl ?_
    refine z_cVi d_X1_listRegions_9 q_X1_listRegions_60 (by first | rfl | assumption) (by omega) ⟨rfl, rfl⟩ (ct_X1_allHigh hR hP hJ.2.1) rfl rfl rfl ⟨Nat.zero_le _, Nat.zero_le _⟩ ?_
    refine z_icmp_ge d_X1_listRegions_12 (fun h_12 => ?_) (fun h_12 => ?_)
    · have e : 2 ^ P - 1 ≤ i + 1 := (nI_leI (a := 2 ^ P - 1) (b := i + 1) (by omega) (by omega)).mp h_12
      have e2 : i + 1 = 2 ^ P - 1 := by omega
      rw [e2, (rgC_0 hP).2] at hJ
      exact hx J _ o2 hJ
    · have hai : i < 2 ^ P - 2 := by rcases Nat.lt_or_ge i (2 ^ P - 2) with q | q; exact q; exact absurd (nI_le (a := 2 ^ P - 1) (b := i + 1) (by omega) (by omega)) h_12
      refine z_iconst d_X1_listRegions_15 ki_0 ?_
      refine z_istore2 d_X1_listRegions_16 rfl ?_
      have loop2 : ∀ (Qs : State → Prop), (∀ (J : zI), gM I J ∧ gA P (rgC P (i + 1) P) J → zZ E m_X1_listRegions X Qs zShF 0 0 93 [some (.ref 37), some (.int (nI (i + 1))), some (.int (nI P))] [] J L R) → ∀ g, g ≤ P → ∀ (J : zI), gM I J ∧ gA P (rgC P (i + 1) g) J → zZ E m_X1_listRegions X Qs zShF 0 0 17 [some (.ref 37), some (.int (nI (i + 1))), some (.int (nI g))] [] J L R := by
        intro Qs hx2
        refine up_rec (fun g hg ih2 J hJ => ?_)
        refine z_iload_n d_X1_listRegions_17 rfl ?_
        refine z_aload_n d_X1_listRegions_18 rfl ?_
        refine z_getI d_X1_listRegions_19 f_X1_34 (by first | rfl | assumption) (by omega) ?_
        rw [hJ.2.1]
        refine z_icmp_ge d_X1_listRegions_22 (fun h_22 => ?_) (fun h_22 => ?_)
        · obtain rfl := eq_of_ge (by omega) hg h_22
          exact hx2 J hJ
        · have hgP := lt_of_nge (by omega) h_22 (by omega)
          have hs := rgC_s hP (show 1 ≤ i + 1 by omega) (show i + 1 < 2 ^ P - 1 by omega) hgP
          refine z_aload_n d_X1_listRegions_25 rfl ?_
          refine z_iload_n d_X1_listRegions_26 rfl ?_
          refine z_iload_n d_X1_listRegions_27 rfl ?_
          refine z_cVi d_X1_listRegions_28 q_X1_listRegions_54 (by first | rfl | assumption) (by omega) ⟨rfl, rfl⟩ (ct_X1_beginsAt (z := (g : Int)) hR hP hJ.2.1 (by omega) (by omega) (by omega)) rfl rfl rfl ⟨Nat.zero_le _, Nat.zero_le _⟩ ?_
          refine z_if_eq d_X1_listRegions_31 (fun h_31 => ?_) (fun h_31 => ?_)
          · refine z_iinc2 d_X1_listRegions_87 ki_1 rfl ?_
            refine z_goto d_X1_listRegions_90 ?_
            rw [nI_1]
            have e := hs.2 (b0 h_31)
            exact ih2 hgP J (by rw [e]; exact hJ)
          · have e := hs.1 (b1 h_31)
            generalize hc : rgC P (i + 1) g = c at e hJ
            refine z_aload_n d_X1_listRegions_34 rfl ?_
            refine z_getI d_X1_listRegions_35 f_X1_104 (by first | rfl | assumption) (by omega) ?_
            rw [hJ.2.2.1]
            refine z_bipush d_X1_listRegions_38 kb_16 ?_
            refine z_icmp_ge d_X1_listRegions_40 (fun h_40 => absurd ((nI_leI (a := 16) (b := c) (by decide) (by omega)).mp h_40) (by omega)) (fun h_40 => ?_)
            refine z_aload_n d_X1_listRegions_43 rfl ?_
            refine z_getR d_X1_listRegions_44 f_X1_11 (by first | rfl | assumption) (by omega) (by first | exact hR _ _ _ rfl | rfl | assumption) ?_
            refine z_aload_n d_X1_listRegions_47 rfl ?_
            refine z_getI d_X1_listRegions_48 f_X1_104 (by first | rfl | assumption) (by omega) ?_
            rw [hJ.2.2.1]
            refine z_iload_n d_X1_listRegions_51 rfl ?_
            refine z_iastore d_X1_listRegions_52 (by first | rfl | assumption) (by omega) (zix_nI (j := c) (by omega) (by decide)) ?_
            refine z_aload_n d_X1_listRegions_53 rfl ?_
            refine z_getR d_X1_listRegions_54 f_X1_15 (by first | rfl | assumption) (by omega) (by first | exact hR _ _ _ rfl | rfl | assumption) ?_
            refine z_aload_n d_X1_listRegions_57 rfl ?_
            refine z_getI d_X1_listRegions_58 f_X1_104 (by first | rfl | assumption) (by omega) ?_
            rw [zi_ne (by decide), hJ.2.2.1]
            refine z_iload_n d_X1_listRegions_61 rfl ?_
            refine z_iastore d_X1_listRegions_62 (by first | rfl | assumption) (by omega) (zix_nI (j := c) (by omega) (by decide)) ?_
            refine z_aload_n d_X1_listRegions_63 rfl ?_
            refine z_getR d_X1_listRegions_64 f_X1_18 (by first | rfl | assumption) (by omega) (by first | exact hR _ _ _ rfl | rfl | assumption) ?_
            refine z_iload_n d_X1_listRegions_67 rfl ?_
            refine z_iconst d_X1_listRegions_68 ki_4 ?_
            refine z_imul d_X1_listRegions_69 ?_
            refine z_iload_n d_X1_listRegions_70 rfl ?_
            refine z_iadd d_X1_listRegions_71 ?_
            refine z_aload_n d_X1_listRegions_72 rfl ?_
            refine z_getI d_X1_listRegions_73 f_X1_104 (by first | rfl | assumption) (by omega) ?_
            rw [zi_ne (by decide), zi_ne (by decide), hJ.2.2.1]
            refine z_iastore d_X1_listRegions_76 (by first | rfl | assumption) (by omega) (zix_e (ix4 (i + 1) g) (by omega) (by decide)) ?_
            refine z_aload_n d_X1_listRegions_77 rfl ?_
            refine z_dup d_X1_listRegions_78 rfl ?_
            refine z_getI d_X1_listRegions_79 f_X1_104 (by first | rfl | assumption) (by omega) ?_
            rw [zi_ne (by decide), zi_ne (by decide), zi_ne (by decide), hJ.2.2.1]
            refine z_iconst d_X1_listRegions_82 ki_1 ?_
            refine z_iadd d_X1_listRegions_83 ?_
            refine z_putI d_X1_listRegions_84 f_X1_104 p_X1_7 (by first | rfl | assumption) (by omega) ?_
            refine z_iinc2 d_X1_listRegions_87 ki_1 rfl ?_
            refine z_goto d_X1_listRegions_90 ?_
            rw [nI_1, nI_1]
            refine ih2 hgP _ ?_
            rw [e.2.2.2]
            refine ⟨gM_zi (gM_zi (gM_zi (gM_zi hJ.1 (by decide) (by decide)) (by decide) (by decide)) (by decide) (by decide)) (by decide) (by decide), ?_, ?_, ?_⟩
            · rw [zi_at2 (by decide), zi_ne (by decide), zi_ne (by decide), zi_ne (by decide)]; exact hJ.2.1
            · rw [zi_at]
            · intro r hr
              rcases Nat.lt_or_ge r c with q | q
              · obtain ⟨a1, a2, a3⟩ := hJ.2.2.2 r q
                refine ⟨?_, ?_, ?_⟩
                · rw [zi_ne (by decide), zi_ne (by decide), zi_ne (by decide), zi_at2 (by omega), a1]
                · rw [zi_ne (by decide), zi_ne (by decide), zi_at2 (by omega), zi_ne (by decide), a2]
                · rw [zi_ne (by decide), zi_at2 (fun h => by
                    have := rg_inj hP (show r < rgN P by omega) e.1 (by rw [e.2.1, e.2.2.1]; exact h)
                    omega), zi_ne (by decide), zi_ne (by decide), a3]
              · obtain rfl : r = c := by omega
                refine ⟨?_, ?_, ?_⟩
                · rw [zi_ne (by decide), zi_ne (by decide), zi_ne (by decide), zi_at, e.2.1]
                · rw [zi_ne (by decide), zi_ne (by decide), zi_at, e.2.2.1]
                · rw [e.2.1, e.2.2.1, zi_ne (by decide), zi_at]
      refine loop2 _ (fun J hJ => ?_) 0 (Nat.zero_le _) J hJ
      refine z_iinc1 d_X1_listRegions_93 ki_1 rfl ?_
      refine z_goto d_X1_listRegions_96 ?_
      rw [nI_1]
      exact ih hai J _ (by rw [← rgC_e hP (show 1 ≤ i + 1 by omega) (show i + 1 < 2 ^ P - 1 by omega)]; exact hJ)
  refine loop _ (fun J o1 o2 hJ => ?_) 0 (Nat.zero_le _) _ none (by rw [show 0 + 1 = 1 from rfl, (rgC_0 hP).1]; exact hA0)
  exact z_return d_X1_listRegions_99 rfl ⟨rfl, rfl, hJ, rfl, rfl⟩
set_option maxRecDepth 100000 in
set_option maxHeartbeats 4000000 in
theorem ct_X1_listGoing {E : zE} {I : zI} {L : zL} {R : zR} {P : Nat} (hR : zLx R) (hP : P = 3 ∨ P = 4) (hA : gA P (rgN P) I) : zCt E m_X1_listGoing zShF [.ref 37] I L R (fun r Sh1 I1 L1 R1 => r = none ∧ Sh1 = zShF ∧ (gM I I1 ∧ gT P I1) ∧ L1 = L ∧ R1 = R) := by
  have hp2 := P2 hP
  have hn := rg_n hP
  refine z_met (by decide) [some (.ref 37), none, none, none] rfl rfl (Nat.le_of_ble_eq_true rfl) (fun X => ?_)
  refine z_aload_n d_X1_listGoing_0 rfl ?_
  refine z_getR d_X1_listGoing_1 f_X1_21 (by first | rfl | assumption) (by omega) (by first | exact hR _ _ _ rfl | rfl | assumption) ?_
  refine z_iconst d_X1_listGoing_4 ki_m1 ?_
  refine z_cSv d_X1_listGoing_5 q_X1_listGoing_107 ⟨rfl, rfl⟩ (ct_fillI (by first | assumption | rfl) (by omega) (by decide)) rfl rfl rfl ⟨Nat.zero_le _, Nat.zero_le _⟩ ?_
  generalize hK : va_up I 41 (zfill (I 41) 256 (-1)) = K
  have hK0 : gM I K := by rw [← hK]; exact gM_va (gM_rf I) (by decide) (by decide)
  have hKA : gA P (rgN P) K := by
    rw [← hK]
    refine ⟨by rw [up_ne (by decide)]; exact hA.1, by rw [up_ne (by decide)]; exact hA.2.1, fun r hr => ?_⟩
    rw [up_ne (by decide), up_ne (by decide), up_ne (by decide)]
    exact hA.2.2 r hr
  have hKm : ∀ r b, r < rgN P → b < 16 → K 41 (r * 16 + b) = -1 := by
    intro r b h1 h2
    rw [← hK, up_eq]
    unfold zfill
    rw [if_pos (by omega)]
  have step : ∀ (J : zI), gM I J ∧ gA P (rgN P) J → ∀ (o : Option Int), gM I (ldI J o) ∧ gA P (rgN P) (ldI J o) ∧ ∀ p, p ≠ 37 → ldI J o p = J p := by
    intro J hJ o
    refine ⟨fun k hk => by rw [ldI_ne (by omega)]; exact hJ.1 k hk, ⟨by rw [ldI_0 (by decide)]; exact hJ.2.1, by rw [ldI_0 (by decide)]; exact hJ.2.2.1, fun r hr => ?_⟩, fun p hp => ldI_ne hp⟩
    rw [ldI_ne (by decide), ldI_ne (by decide), ldI_ne (by decide)]
    exact hJ.2.2.2 r hr
  refine z_iconst d_X1_listGoing_8 ki_0 ?_
  refine z_istore1 d_X1_listGoing_9 rfl ?_
  have loop : ∀ (Qs : State → Prop), (∀ (J : zI) (o1 o2 o3 : Option Value), gM I J ∧ gT P J → zZ E m_X1_listGoing X Qs zShF 0 0 112 [some (.ref 37), o1, o2, o3] [] J L R) → ∀ i, i ≤ rgN P → ∀ (J : zI) (o2 o3 : Option Value), (gM I J ∧ gA P (rgN P) J) → (∀ r b, r < i → 1 ≤ b → b < 2 ^ P - 1 → gE P J r b) → (∀ r b, r < rgN P → i ≤ r → b < 16 → J 41 (r * 16 + b) = -1) → zZ E m_X1_listGoing X Qs zShF 0 0 10 [some (.ref 37), some (.int (nI i)), o2, o3] [] J L R := by
    intro Qs hx
    refine up_rec (fun i hi' ih J o2 o3 hJ hE hM => ?_)
    refine z_iload_n d_X1_listGoing_10 rfl ?_
    refine z_aload_n d_X1_listGoing_11 rfl ?_
    refine z_getI d_X1_listGoing_12 f_X1_104 (by first | rfl | assumption) (by omega) ?_
    rw [hJ.2.2.1]
    refine z_icmp_ge d_X1_listGoing_15 (fun h_15 => ?_) (fun h_15 => ?_)
    · obtain rfl := eq_of_ge (by omega) hi' h_15
      exact hx J _ _ _ ⟨hJ.1, hJ.2, fun r b h1 h2 h3 => hE r b h1 h2 h3⟩
    · have hir := lt_of_nge (by omega) h_15 (by omega)
      have hrb := rg_b hP hir
      refine z_iconst d_X1_listGoing_18 ki_1 ?_
      refine z_istore2 d_X1_listGoing_19 rfl ?_
      have loop2 : ∀ (Qs : State → Prop), (∀ (J : zI) (o2 o3 : Option Value), (gM I J ∧ gA P (rgN P) J) → (∀ r b, r < i + 1 → 1 ≤ b → b < 2 ^ P - 1 → gE P J r b) → (∀ r b, r < rgN P → i + 1 ≤ r → b < 16 → J 41 (r * 16 + b) = -1) → zZ E m_X1_listGoing X Qs zShF 0 0 106 [some (.ref 37), some (.int (nI i)), o2, o3] [] J L R) → ∀ g, g ≤ 2 ^ P - 2 → ∀ (J : zI) (o3 : Option Value), (gM I J ∧ gA P (rgN P) J) → (∀ r b, (r < i ∨ (r = i ∧ b < g + 1)) → 1 ≤ b → b < 2 ^ P - 1 → gE P J r b) → (∀ r b, r < rgN P → (i < r ∨ (r = i ∧ g + 1 ≤ b)) → b < 16 → J 41 (r * 16 + b) = -1) → zZ E m_X1_listGoing X Qs zShF 0 0 20 [some (.ref 37), some (.int (nI i)), some (.int (nI (g + 1))), o3] [] J L R := by
        intro Qs hx2
        refine up_rec (fun g hg ih2 J o3 hJ hE hM => ?_)
        refine z_iload_n d_X1_listGoing_20 rfl ?_
        refine z_aload_n d_X1_listGoing_21 rfl ?_
        refine z_cVi d_X1_listGoing_22 q_X1_listGoing_60 (by first | rfl | assumption) (by omega) ⟨rfl, rfl⟩ (ct_X1_allHigh hR hP hJ.2.1) rfl rfl rfl ⟨Nat.zero_le _, Nat.zero_le _⟩ ?_
        refine z_icmp_ge d_X1_listGoing_25 (fun h_25 => ?_) (fun h_25 => ?_)
        · have e : 2 ^ P - 1 ≤ g + 1 := (nI_leI (a := 2 ^ P - 1) (b := g + 1) (by omega) (by omega)).mp h_25
          exact hx2 J _ _ hJ (fun r b h1 h2 h3 => hE r b (by omega) h2 h3) (fun r b h1 h2 h3 => hM r b h1 (by omega) h3)
        · have hgg : g < 2 ^ P - 2 := by rcases Nat.lt_or_ge g (2 ^ P - 2) with q | q; exact q; exact absurd (nI_le (a := 2 ^ P - 1) (b := g + 1) (by omega) (by omega)) h_25
          have hti := hJ.2.2.2 i hir
          refine z_aload_n d_X1_listGoing_28 rfl ?_
          refine z_aload_n d_X1_listGoing_29 rfl ?_
          refine z_getR d_X1_listGoing_30 f_X1_11 (by first | rfl | assumption) (by omega) (by first | exact hR _ _ _ rfl | rfl | assumption) ?_
          refine z_iload_n d_X1_listGoing_33 rfl ?_
          refine z_iaload d_X1_listGoing_34 (by first | rfl | assumption) (by omega) (zix_nI (j := i) (by omega) (by decide)) ?_
          rw [hti.1]
          refine z_aload_n d_X1_listGoing_35 rfl ?_
          refine z_getR d_X1_listGoing_36 f_X1_15 (by first | rfl | assumption) (by omega) (by first | exact hR _ _ _ rfl | rfl | assumption) ?_
          refine z_iload_n d_X1_listGoing_39 rfl ?_
          refine z_iaload d_X1_listGoing_40 (by first | rfl | assumption) (by omega) (zix_nI (j := i) (by omega) (by decide)) ?_
          rw [hti.2.1]
          refine z_iload_n d_X1_listGoing_41 rfl ?_
          refine z_cVi d_X1_listGoing_42 q_X1_listGoing_88 (by first | rfl | assumption) (by omega) ⟨rfl, rfl⟩ (ct_X1_fare (s := ((rgS P i : Nat) : Int)) hR hP hJ.2.1 (by omega) (by omega) (by omega) (by omega)) rfl rfl rfl ⟨Nat.zero_le _, Nat.zero_le _⟩ ?_
          obtain ⟨hj1, hj2, hj3⟩ := step J hJ (farV P (rgW P i) ((rgS P i : Nat) : Int) (g + 1)).2
          have hfc := far_c P (rgW P i) ((rgS P i : Nat) : Int) (g + 1)
          refine z_if_ne d_X1_listGoing_45 (fun h_45 => ?_) (fun h_45 => ?_)
          · have hne : ¬ (farV P (rgW P i) ((rgS P i : Nat) : Int) (g + 1)).1 = 0 := fun q => h_45 (by rw [q]; rfl)
            have hno : gtT P i (g + 1) = none := by
              cases hgt : gtT P i (g + 1) with
              | none => rfl
              | some x => exact absurd (by rw [(gt_some (q := x.1) (y := x.2) hP hir (by omega) (by omega) hgt).2.2.1]) hne
            refine z_iinc2 d_X1_listGoing_100 ki_1 rfl ?_
            refine z_goto d_X1_listGoing_103 ?_
            rw [nI_1]
            have hgE : ∀ r b, gE P (ldI J (farV P (rgW P i) ((rgS P i : Nat) : Int) (g + 1)).2) r b ↔ gE P J r b := fun r b => by unfold gE; rw [hj3 41 (by decide), hj3 42 (by decide)]
            refine ih2 hgg _ _ ⟨hj1, hj2⟩ (fun r b h1 h2 h3 => ?_) (fun r b h1 h2 h3 => by rw [hj3 41 (by decide)]; exact hM r b h1 (by omega) h3)
            rw [hgE]
            rcases Nat.lt_or_ge r i with q | q
            · exact hE r b (Or.inl q) h2 h3
            · obtain rfl : r = i := by omega
              rcases Nat.lt_or_ge b (g + 1) with q2 | q2
              · exact hE r b (Or.inr ⟨rfl, q2⟩) h2 h3
              · obtain rfl : b = g + 1 := by omega
                unfold gE
                rw [hno]
                exact hM r (g + 1) hir (Or.inr ⟨rfl, Nat.le_refl _⟩) (by omega)
          · have hz : (farV P (rgW P i) ((rgS P i : Nat) : Int) (g + 1)).1 = 0 := (nI_eq (a := (farV P (rgW P i) ((rgS P i : Nat) : Int) (g + 1)).1) (b := 0) (by omega) (by decide)).mp h_45
            have hgs : ∃ q y, gtT P i (g + 1) = some (q, y) := by
              cases hgt : gtT P i (g + 1) with
              | none => exact absurd hz (gt_none hP hir (by omega) (by omega) hgt)
              | some x => exact ⟨x.1, x.2, rfl⟩
            obtain ⟨q, y, hgt⟩ := hgs
            obtain ⟨hq, hqw, hqf, hy1, hy2, hq6, hq7⟩ := gt_some hP hir (by omega) (by omega) hgt
            have hqb := rg_b hP hq
            rw [hqf] at hj1 hj2 hj3 ⊢
            have hld : ldI J (some (((rgS P q : Nat) : Int) + P * y)) 37 1 = iI (((rgS P q : Nat) : Int) + P * y) := zi_at _ _ _ _
            have hdm : (((rgS P q : Nat) : Int) + P * y).ediv P = y ∧ -200 ≤ (((rgS P q : Nat) : Int) + P * y) ∧ (((rgS P q : Nat) : Int) + P * y) ≤ 200 := by
              rcases hP with rfl | rfl
              · have : (((rgS 3 q : Nat) : Int) + ((3 : Nat) : Int) * y).ediv ((3 : Nat) : Int) = (((rgS 3 q : Nat) : Int) + 3 * y) / 3 := rfl
                omega
              · have : (((rgS 4 q : Nat) : Int) + ((4 : Nat) : Int) * y).ediv ((4 : Nat) : Int) = (((rgS 4 q : Nat) : Int) + 4 * y) / 4 := rfl
                omega
            have hfd : fdV (iI (((rgS P q : Nat) : Int) + P * y)) (nI P) = iI y := by rw [(fm_of hP hdm.2.1 hdm.2.2).2, hdm.1]
            generalize ldI J (some (((rgS P q : Nat) : Int) + P * y)) = K2 at hj1 hj2 hj3 hld ⊢
            refine z_aload_n d_X1_listGoing_48 rfl ?_
            refine z_aload_n d_X1_listGoing_49 rfl ?_
            refine z_getI d_X1_listGoing_50 f_X1_67 (by first | rfl | assumption) (by omega) ?_
            rw [hld]
            refine z_cVi d_X1_listGoing_53 q_X1_listGoing_95 (by first | rfl | assumption) (by omega) ⟨rfl, rfl⟩ (ct_X1_wellsIn hR hP hj2.1) rfl rfl rfl ⟨Nat.zero_le _, Nat.zero_le _⟩ ?_
            rw [hfd]
            refine z_istore3 d_X1_listGoing_56 rfl ?_
            refine z_aload_n d_X1_listGoing_57 rfl ?_
            refine z_getR d_X1_listGoing_58 f_X1_21 (by first | rfl | assumption) (by omega) (by first | exact hR _ _ _ rfl | rfl | assumption) ?_
            refine z_iload_n d_X1_listGoing_61 rfl ?_
            refine z_bipush d_X1_listGoing_62 kb_16 ?_
            refine z_imul d_X1_listGoing_64 ?_
            refine z_iload_n d_X1_listGoing_65 rfl ?_
            refine z_iadd d_X1_listGoing_66 ?_
            refine z_aload_n d_X1_listGoing_67 rfl ?_
            refine z_getR d_X1_listGoing_68 f_X1_18 (by first | rfl | assumption) (by omega) (by first | exact hR _ _ _ rfl | rfl | assumption) ?_
            refine z_iload_n d_X1_listGoing_71 rfl ?_
            refine z_iconst d_X1_listGoing_72 ki_4 ?_
            refine z_imul d_X1_listGoing_73 ?_
            refine z_aload_n d_X1_listGoing_74 rfl ?_
            refine z_getI d_X1_listGoing_75 f_X1_67 (by first | rfl | assumption) (by omega) ?_
            rw [hld]
            refine z_iadd d_X1_listGoing_78 ?_
            refine z_iload_n d_X1_listGoing_79 rfl ?_
            refine z_aload_n d_X1_listGoing_80 rfl ?_
            refine z_getI d_X1_listGoing_81 f_X1_34 (by first | rfl | assumption) (by omega) ?_
            rw [hj2.1]
            refine z_imul d_X1_listGoing_84 ?_
            refine z_isub d_X1_listGoing_85 ?_
            have hmul : iI y * nI P = iI (y * P) := (Int32.ofInt_mul y P).symm
            have hidx : nI (g + 1) * (4 : Int32) + iI (((rgS P q : Nat) : Int) + P * y) - iI y * nI P = nI (rgW P q * 4 + rgS P q) := by
              rw [hmul, show nI (g + 1) * (4 : Int32) = iI (((g + 1) * 4 : Nat) : Int) from pk_mul (g + 1) 4, iI_add, iI_sub, hqw]
              show iI _ = iI (((g + 1) * 4 + rgS P q : Nat) : Int)
              congr 1
              rw [show y * (P : Int) = P * y from Int.mul_comm _ _]
              omega
            refine z_iaload d_X1_listGoing_86 (by first | rfl | assumption) (by omega) (zix_e hidx (by omega) (by decide)) ?_
            rw [(hj2.2.2 q hq).2.2]
            refine z_iastore d_X1_listGoing_87 (by first | rfl | assumption) (by omega) (zix_e (ix16 i (g + 1)) (by omega) (by decide)) ?_
            refine z_aload_n d_X1_listGoing_88 rfl ?_
            refine z_getR d_X1_listGoing_89 f_X1_24 (by first | rfl | assumption) (by omega) (by first | exact hR _ _ _ rfl | rfl | assumption) ?_
            refine z_iload_n d_X1_listGoing_92 rfl ?_
            refine z_bipush d_X1_listGoing_93 kb_16 ?_
            refine z_imul d_X1_listGoing_95 ?_
            refine z_iload_n d_X1_listGoing_96 rfl ?_
            refine z_iadd d_X1_listGoing_97 ?_
            refine z_iload_n d_X1_listGoing_98 rfl ?_
            refine z_iastore d_X1_listGoing_99 (by first | rfl | assumption) (by omega) (zix_e (ix16 i (g + 1)) (by omega) (by decide)) ?_
            refine z_iinc2 d_X1_listGoing_100 ki_1 rfl ?_
            refine z_goto d_X1_listGoing_103 ?_
            rw [nI_1]
            refine ih2 hgg _ _ ⟨gM_zi (gM_zi hj1 (by decide) (by decide)) (by decide) (by decide), ?_, ?_, ?_⟩ (fun r b h1 h2 h3 => ?_) (fun r b h1 h2 h3 => ?_)
            · rw [zi_ne (by decide), zi_ne (by decide)]; exact hj2.1
            · rw [zi_ne (by decide), zi_ne (by decide)]; exact hj2.2.1
            · intro r hr
              rw [zi_ne (by decide), zi_ne (by decide), zi_ne (by decide), zi_ne (by decide), zi_ne (by decide), zi_ne (by decide)]
              exact hj2.2.2 r hr
            · rcases Nat.lt_or_ge r i with q1 | q1
              · have h5 := hE r b (Or.inl q1) h2 h3
                unfold gE at h5 ⊢
                rw [zi_ne (show 41 ≠ 42 by decide), zi_at2 (by omega), zi_at2 (by omega), zi_ne (show 42 ≠ 41 by decide), hj3 41 (by decide), hj3 42 (by decide)]
                exact h5
              · obtain rfl : r = i := by omega
                rcases Nat.lt_or_ge b (g + 1) with q2 | q2
                · have h5 := hE r b (Or.inr ⟨rfl, q2⟩) h2 h3
                  unfold gE at h5 ⊢
                  rw [zi_ne (show 41 ≠ 42 by decide), zi_at2 (by omega), zi_at2 (by omega), zi_ne (show 42 ≠ 41 by decide), hj3 41 (by decide), hj3 42 (by decide)]
                  exact h5
                · obtain rfl : b = g + 1 := by omega
                  unfold gE
                  rw [hgt]
                  exact ⟨by rw [zi_ne (by decide), zi_at], by rw [zi_at]⟩
            · rw [zi_ne (by decide), zi_at2 (by omega), hj3 41 (by decide)]
              exact hM r b h1 (by omega) h3
      refine loop2 _ (fun J o2 o3 hJ hE hM => ?_) 0 (Nat.zero_le _) J o3 hJ (fun r b h h2 h3 => hE r b (by omega) h2 h3) (fun r b h h2 h3 => hM r b h (by omega) h3)
      refine z_iinc1 d_X1_listGoing_106 ki_1 rfl ?_
      refine z_goto d_X1_listGoing_109 ?_
      rw [nI_1]
      exact ih hir J _ _ hJ hE hM
  refine loop _ (fun J o1 o2 o3 hJ => ?_) 0 (Nat.zero_le _) K none none ⟨hK0, hKA⟩ (fun r b h => absurd h (by omega)) (fun r b h _ h2 => hKm r b h h2)
  exact z_return d_X1_listGoing_112 rfl ⟨rfl, rfl, hJ, rfl, rfl⟩
set_option maxRecDepth 100000 in
set_option maxHeartbeats 4000000 in
theorem ct_X1_bePhases {E : zE} {I : zI} {L : zL} {R : zR} {P : Nat} (hR : zLx R) (hP : P = 3 ∨ P = 4) (hG : gInv I) : zCt E m_X1_bePhases zShF [.ref 37, .int (nI P)] I L R (fun r Sh1 I1 L1 R1 => r = none ∧ Sh1 = zShF ∧ (gM I I1 ∧ gT P I1) ∧ L1 = L ∧ R1 = R) := by
  refine z_met (by decide) [some (.ref 37), some (.int (nI P)), none] rfl rfl (Nat.le_of_ble_eq_true rfl) (fun X => ?_)
  refine z_iload_n d_X1_bePhases_0 rfl ?_
  refine z_iconst d_X1_bePhases_1 ki_4 ?_
  refine z_icmp_ne d_X1_bePhases_2 (fun h_2 => ?_) (fun h_2 => ?_)
  · refine z_iconst d_X1_bePhases_9 ki_3 ?_
    refine z_topi (y := nI P) (by rcases hP with rfl | rfl <;> first | rfl | exact absurd rfl h_2 | exact absurd h_2 (by decide)) ?_
    refine z_istore2 d_X1_bePhases_10 rfl ?_
    refine z_aload_n d_X1_bePhases_11 rfl ?_
    refine z_getI d_X1_bePhases_12 f_X1_34 (by first | rfl | assumption) (by omega) ?_
    refine z_iload_n d_X1_bePhases_15 rfl ?_
    refine z_icmp_eq d_X1_bePhases_16 (fun h_16 => ?_) (fun h_16 => ?_)
    · have h0 := hG P hP h_16
      exact z_return d_X1_bePhases_32 rfl ⟨rfl, rfl, ⟨gM_rf I, h0⟩, rfl, rfl⟩
    · refine z_aload_n d_X1_bePhases_19 rfl ?_
      refine z_iload_n d_X1_bePhases_20 rfl ?_
      refine z_putI d_X1_bePhases_21 f_X1_34 p_X1_0 (by first | rfl | assumption) (by omega) ?_
      refine z_aload_n d_X1_bePhases_24 rfl ?_
      refine z_rV d_X1_bePhases_25 q_X1_bePhases_38 (by first | rfl | assumption) (by omega) ⟨rfl, rfl⟩ (ct_X1_listRegions hR hP (zi_at _ _ _ _)) rfl rfl rfl ⟨Nat.zero_le _, Nat.zero_le _⟩ (fun r_25 Sh_25 I_25 L_25 R_25 hq_25 => ?_)
      obtain ⟨rfl, rfl, ⟨hM1, hA1⟩, rfl, rfl⟩ := hq_25
      refine z_aload_n d_X1_bePhases_28 rfl ?_
      refine z_rV d_X1_bePhases_29 q_X1_bePhases_41 (by first | rfl | assumption) (by omega) ⟨rfl, rfl⟩ (ct_X1_listGoing hR hP hA1) rfl rfl rfl ⟨Nat.zero_le _, Nat.zero_le _⟩ (fun r_29 Sh_29 I_29 L_29 R_29 hq_29 => ?_)
      obtain ⟨rfl, rfl, ⟨hM2, hT2⟩, rfl, rfl⟩ := hq_29
      exact z_return d_X1_bePhases_32 rfl ⟨rfl, rfl, ⟨gM_tr (gM_zi (gM_rf I) (by decide) (by decide)) (gM_tr hM1 hM2), hT2⟩, rfl, rfl⟩
  · refine z_iconst d_X1_bePhases_5 ki_4 ?_
    refine z_goto d_X1_bePhases_6 ?_
    refine z_topi (y := nI P) (by rcases hP with rfl | rfl <;> first | rfl | exact absurd rfl h_2 | exact absurd h_2 (by decide)) ?_
    refine z_istore2 d_X1_bePhases_10 rfl ?_
    refine z_aload_n d_X1_bePhases_11 rfl ?_
    refine z_getI d_X1_bePhases_12 f_X1_34 (by first | rfl | assumption) (by omega) ?_
    refine z_iload_n d_X1_bePhases_15 rfl ?_
    refine z_icmp_eq d_X1_bePhases_16 (fun h_16 => ?_) (fun h_16 => ?_)
    · have h0 := hG P hP h_16
      exact z_return d_X1_bePhases_32 rfl ⟨rfl, rfl, ⟨gM_rf I, h0⟩, rfl, rfl⟩
    · refine z_aload_n d_X1_bePhases_19 rfl ?_
      refine z_iload_n d_X1_bePhases_20 rfl ?_
      refine z_putI d_X1_bePhases_21 f_X1_34 p_X1_0 (by first | rfl | assumption) (by omega) ?_
      refine z_aload_n d_X1_bePhases_24 rfl ?_
      refine z_rV d_X1_bePhases_25 q_X1_bePhases_38 (by first | rfl | assumption) (by omega) ⟨rfl, rfl⟩ (ct_X1_listRegions hR hP (zi_at _ _ _ _)) rfl rfl rfl ⟨Nat.zero_le _, Nat.zero_le _⟩ (fun r_25 Sh_25 I_25 L_25 R_25 hq_25 => ?_)
      obtain ⟨rfl, rfl, ⟨hM1, hA1⟩, rfl, rfl⟩ := hq_25
      refine z_aload_n d_X1_bePhases_28 rfl ?_
      refine z_rV d_X1_bePhases_29 q_X1_bePhases_41 (by first | rfl | assumption) (by omega) ⟨rfl, rfl⟩ (ct_X1_listGoing hR hP hA1) rfl rfl rfl ⟨Nat.zero_le _, Nat.zero_le _⟩ (fun r_29 Sh_29 I_29 L_29 R_29 hq_29 => ?_)
      obtain ⟨rfl, rfl, ⟨hM2, hT2⟩, rfl, rfl⟩ := hq_29
      exact z_return d_X1_bePhases_32 rfl ⟨rfl, rfl, ⟨gM_tr (gM_zi (gM_rf I) (by decide) (by decide)) (gM_tr hM1 hM2), hT2⟩, rfl, rfl⟩
