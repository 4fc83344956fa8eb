theorem met_ofWF {l : Launch} {y : MethodName} {ws ws' : List Cond} {rm : Room} {Pc : Array Value → State → Prop} {Qc : Array Value → State → Outcome → State → Prop} {mc ms : Nat} {free : Addr → Prop} {cc : ByteArray} {maxL : Nat} {ret : Option FieldType}
    (hy : plainFor y = true) (hw : ws = Cond.code y cc maxL ret :: ws')
    (body : ∀ p e s m args below meth c s₁, BodyLoose p l y (headSpec ws rm) cc maxL ret e s m args below meth c s₁ → c.maxLocals = maxL → Pc args s →
      W p l e (headSpec ws rm).room s m args below meth c s.heap [] 0 0 (MQ below Qc args s mc ms free) (entryFrame m args maxL)) : Met l y ws rm Pc Qc mc ms free := by
  refine MetFree.of_bodySF (code := cc) (maxLocals := maxL) (ret := ret) hy ?_ ?_
  · intro args s m h hn
    obtain ⟨meth, c, h1, h2, h3, h4, h5, h6, -, -⟩ := Cond.code_spec hn (atoms_spec (ws := ws) h _ (by rw [hw]; exact List.mem_cons_self))
    exact ⟨meth, c, h1, h2, h3, h4, h5, h6⟩
  · intro p e s m args below meth c s₁ B hml hP _
    have hh0 : s₁.heap = s.heap := by rw [B.state]; rfl
    obtain ⟨t, a1, o, b1, b2, b3⟩ := body p e s m args below meth c s₁ B hml hP s₁ hh0 (Stand.of_body B)
    exact ⟨t, o, a1, b1, b2, ⟨b3.1, b3.2⟩⟩
set_option maxRecDepth 10000 in
theorem z_metF {E : zE} {md : zMD} {Sh : zSh} {args : List Value} {I : zI} {L : zL} {R : zR} {Q : Option Value → zSh → zI → zL → zR → Prop} (hy : plainFor md.1 = true) (ls : List (Option Value)) (hls : zas E 0 ls = lv_args 0 (args.map (ztr E))) (hlen : ls.length = zmL md) (hfit : (lg_sl (args.map (ztr E))).length ≤ zmL md)
    (body : ∀ X : zX, zZ E md X (zQs E md X Q) Sh 0 0 0 ls [] I L R) : zCt E md Sh args I L R Q := by
  refine met_ofWF (cc := zcc md) (maxL := zmL md) (ret := zret md) hy rfl ?_
  intro p e s m a below meth c s₁ B hml hv
  obtain ⟨rfl, hsz, hW, hKK, hFo⟩ := hv
  have hts := atoms_spec (ws := .code md.1 (zcc md) (zmL md) (zret md) :: lw_g) B.pre
  have hl := lv_entry (args.map (ztr E)) (n := zmL md) hfit
  rw [lg_entry_eq]
  exact body (p, e, s, m, (args.map (ztr E)).toArray, below, meth, c) ⟨B.exec, B.bytes, hml, findClass_of_methodNamed B.named, fun w h => hts w (List.mem_cons_of_mem _ h), B.returns, B.notSynchronized, (name_of_methodNamed B.named B.method).1, hKK, hFo, by show eB E ≤ s.heap.size; omega⟩ hsz s.heap [] _ hW va_S.rf ⟨hlen, by rw [hls]; exact hl⟩
/-! gates: WORDS as numbers, GATES as whole numbers near 0 -/
def iI (z : Int) : Int32 := Int32.ofInt z
def hi (P : Nat) (a : Nat) (z : Int) : Bool := a.testBit (z.emod P).toNat
def bg (P a : Nat) (z : Int) : Bool := hi P a z && !hi P a (z - 1)
def fmV (x p : Int32) : Int32 := if 0 ≤ x ^^^ p then x - x / p * p else if x - x / p * p = 0 then x - x / p * p else x - x / p * p + p
def fdV (x p : Int32) : Int32 := if 0 ≤ x ^^^ p then x / p else if x / p * p = x then x / p else x / p - 1
theorem iI_add (a b : Int) : iI a + iI b = iI (a + b) := (Int32.ofInt_add a b).symm
theorem iI_sub (a b : Int) : iI a - iI b = iI (a - b) := (Int32.ofInt_sub a b).symm
theorem iI_nI (n : Nat) : iI (n : Int) = nI n := rfl
theorem iI_toInt {z : Int} (h : -(2 ^ 31) ≤ z) (h2 : z < 2 ^ 31) : (iI z).toInt = z := Int32.toInt_ofInt_of_le h h2
theorem iI_lt {a b : Int} (ha : -(2 ^ 31) ≤ a) (ha2 : a < 2 ^ 31) (hb : -(2 ^ 31) ≤ b) (hb2 : b < 2 ^ 31) : iI a < iI b ↔ a < b := by rw [Int32.lt_iff_toInt_lt, iI_toInt ha ha2, iI_toInt hb hb2]
theorem iI_le {a b : Int} (ha : -(2 ^ 31) ≤ a) (ha2 : a < 2 ^ 31) (hb : -(2 ^ 31) ≤ b) (hb2 : b < 2 ^ 31) : iI a ≤ iI b ↔ a ≤ b := by rw [Int32.le_iff_toInt_le, iI_toInt ha ha2, iI_toInt hb hb2]
theorem iI_eq {a b : Int} (ha : -(2 ^ 31) ≤ a) (ha2 : a < 2 ^ 31) (hb : -(2 ^ 31) ≤ b) (hb2 : b < 2 ^ 31) : iI a = iI b ↔ a = b := by rw [← Int32.toInt_inj, iI_toInt ha ha2, iI_toInt hb hb2]
set_option maxRecDepth 100000 in
theorem fm_tab : ∀ k : Fin 401, fmV (iI ((k.val : Int) - 200)) 3 = nI (((k.val : Int) - 200).emod 3).toNat ∧ fmV (iI ((k.val : Int) - 200)) 4 = nI (((k.val : Int) - 200).emod 4).toNat ∧ fdV (iI ((k.val : Int) - 200)) 3 = iI (((k.val : Int) - 200).ediv 3) ∧ fdV (iI ((k.val : Int) - 200)) 4 = iI (((k.val : Int) - 200).ediv 4) := by decide +kernel
theorem fm_of {P : Nat} (hP : P = 3 ∨ P = 4) {z : Int} (h1 : -200 ≤ z) (h2 : z ≤ 200) : fmV (iI z) (nI P) = nI (z.emod P).toNat ∧ fdV (iI z) (nI P) = iI (z.ediv P) := by
  have h := fm_tab ⟨(z + 200).toNat, by omega⟩
  have e : (((z + 200).toNat : Nat) : Int) - 200 = z := by omega
  simp only [e] at h
  rcases hP with rfl | rfl
  · exact ⟨h.1, h.2.2.1⟩
  · exact ⟨h.2.1, h.2.2.2⟩
theorem bit_tab : ∀ a : Fin 16, ∀ m : Fin 4, (nI a.val >>> (nI m.val &&& 31) &&& 1 = 1) ↔ (a.val.testBit m.val = true) := by decide +kernel
theorem hi_bit {P a : Nat} (hP : P = 3 ∨ P = 4) (ha : a < 16) (z : Int) : (nI a >>> (nI (z.emod P).toNat &&& 31) &&& 1 = 1) ↔ hi P a z = true := by
  have hm : (z.emod P).toNat < 4 := by
    rcases hP with rfl | rfl
    · have : z.emod ((3 : Nat) : Int) = z % 3 := rfl
      omega
    · have : z.emod ((4 : Nat) : Int) = z % 4 := rfl
      omega
  exact bit_tab ⟨a, ha⟩ ⟨(z.emod P).toNat, hm⟩
set_option maxRecDepth 100000 in
set_option maxHeartbeats 4000000 in
theorem ct_J9_floorMod_7cf53 {E : zE} {Sh : zSh} {I : zI} {L : zL} {R : zR} {x p : Int32} (hp : ¬ p = 0) : zCf E m_J9_floorMod_7cf53 Sh [.int x, .int p] I L R (some (.int (fmV x p))) (I) (L) (R) := by
  refine z_metF (by decide +kernel) [some (.int x), some (.int p), none] rfl rfl (Nat.le_of_ble_eq_true rfl) (fun X => ?_)
  refine z_iload_n d_J9_floorMod_7cf53_0 rfl ?_
  refine z_iload_n d_J9_floorMod_7cf53_1 rfl ?_
  refine z_irem d_J9_floorMod_7cf53_2 (by first | assumption | decide) ?_
  refine z_istore2 d_J9_floorMod_7cf53_3 rfl ?_
  refine z_iload_n d_J9_floorMod_7cf53_4 rfl ?_
  refine z_iload_n d_J9_floorMod_7cf53_5 rfl ?_
  refine z_ixor d_J9_floorMod_7cf53_6 ?_
  refine z_if_ge d_J9_floorMod_7cf53_7 (fun h_7 => ?_) (fun h_7 => ?_)
  · refine z_iload_n d_J9_floorMod_7cf53_18 rfl ?_
    exact z_ireturn d_J9_floorMod_7cf53_19 rfl ⟨by simp [fmV, *], rfl, rfl, rfl, rfl⟩
  · refine z_iload_n d_J9_floorMod_7cf53_10 rfl ?_
    refine z_if_eq d_J9_floorMod_7cf53_11 (fun h_11 => ?_) (fun h_11 => ?_)
    · refine z_iload_n d_J9_floorMod_7cf53_18 rfl ?_
      exact z_ireturn d_J9_floorMod_7cf53_19 rfl ⟨by simp [fmV, *], rfl, rfl, rfl, rfl⟩
    · refine z_iload_n d_J9_floorMod_7cf53_14 rfl ?_
      refine z_iload_n d_J9_floorMod_7cf53_15 rfl ?_
      refine z_iadd d_J9_floorMod_7cf53_16 ?_
      exact z_ireturn d_J9_floorMod_7cf53_17 rfl ⟨by simp [fmV, *], rfl, rfl, rfl, rfl⟩
set_option maxRecDepth 100000 in
set_option maxHeartbeats 4000000 in
theorem ct_J9_floorDiv_7cf53 {E : zE} {Sh : zSh} {I : zI} {L : zL} {R : zR} {x p : Int32} (hp : ¬ p = 0) : zCf E m_J9_floorDiv_7cf53 Sh [.int x, .int p] I L R (some (.int (fdV x p))) (I) (L) (R) := by
  refine z_metF (by decide +kernel) [some (.int x), some (.int p), none] rfl rfl (Nat.le_of_ble_eq_true rfl) (fun X => ?_)
  refine z_iload_n d_J9_floorDiv_7cf53_0 rfl ?_
  refine z_iload_n d_J9_floorDiv_7cf53_1 rfl ?_
  refine z_idiv d_J9_floorDiv_7cf53_2 (by first | assumption | decide) ?_
  refine z_istore2 d_J9_floorDiv_7cf53_3 rfl ?_
  refine z_iload_n d_J9_floorDiv_7cf53_4 rfl ?_
  refine z_iload_n d_J9_floorDiv_7cf53_5 rfl ?_
  refine z_ixor d_J9_floorDiv_7cf53_6 ?_
  refine z_if_ge d_J9_floorDiv_7cf53_7 (fun h_7 => ?_) (fun h_7 => ?_)
  · refine z_iload_n d_J9_floorDiv_7cf53_21 rfl ?_
    exact z_ireturn d_J9_floorDiv_7cf53_22 rfl ⟨by simp [fdV, *], rfl, rfl, rfl, rfl⟩
  · refine z_iload_n d_J9_floorDiv_7cf53_10 rfl ?_
    refine z_iload_n d_J9_floorDiv_7cf53_11 rfl ?_
    refine z_imul d_J9_floorDiv_7cf53_12 ?_
    refine z_iload_n d_J9_floorDiv_7cf53_13 rfl ?_
    refine z_icmp_eq d_J9_floorDiv_7cf53_14 (fun h_14 => ?_) (fun h_14 => ?_)
    · refine z_iload_n d_J9_floorDiv_7cf53_21 rfl ?_
      exact z_ireturn d_J9_floorDiv_7cf53_22 rfl ⟨by simp [fdV, *], rfl, rfl, rfl, rfl⟩
    · refine z_iload_n d_J9_floorDiv_7cf53_17 rfl ?_
      refine z_iconst d_J9_floorDiv_7cf53_18 ki_1 ?_
      refine z_isub d_J9_floorDiv_7cf53_19 ?_
      exact z_ireturn d_J9_floorDiv_7cf53_20 rfl ⟨by simp [fdV, *], rfl, rfl, rfl, rfl⟩
set_option maxRecDepth 100000 in
set_option maxHeartbeats 4000000 in
theorem ct_X1_isHigh {E : zE} {I : zI} {L : zL} {R : zR} {P a : Nat} {z : Int} (hR : zLx R) (hP : P = 3 ∨ P = 4) (hI : I 37 0 = nI P) (ha : a < 16) (h1 : -200 ≤ z) (h2 : z ≤ 200) : zCf E m_X1_isHigh zShF [.ref 37, .int (nI a), .int (iI z)] I L R (some (.int (b2i (hi P a z)))) (I) (L) (R) := by
  have hm := (fm_of hP h1 h2).1
  have hb := hi_bit hP ha z
  refine z_met (by decide) [some (.ref 37), some (.int (nI a)), some (.int (iI z))] rfl rfl (Nat.le_of_ble_eq_true rfl) (fun X => ?_)
  refine z_iload_n d_X1_isHigh_0 rfl ?_
  refine z_iload_n d_X1_isHigh_1 rfl ?_
  refine z_aload_n d_X1_isHigh_2 rfl ?_
  refine z_getI d_X1_isHigh_3 f_X1_34 (by first | rfl | assumption) (by omega) ?_
  rw [hI]
  refine z_iconst d_X1_isHigh_6 ki_4 ?_
  refine z_icmp_ne d_X1_isHigh_7 (fun h_7 => ?_) (fun h_7 => ?_)
  · refine z_iconst d_X1_isHigh_14 ki_3 ?_
    refine z_topi (y := nI P) (by first | (have := (nI_eq (a := P) (b := 4) (by omega) (by decide)).mp h_7; subst this; rfl) | (rcases hP with rfl | rfl; rfl; exact absurd rfl h_7)) ?_
    refine z_cSi d_X1_isHigh_15 q_X1_isHigh_44 ⟨rfl, rfl⟩ (ct_J9_floorMod_7cf53 (nI_ne0 (by omega) (by omega))) rfl rfl rfl ⟨Nat.zero_le _, Nat.zero_le _⟩ ?_
    rw [hm]
    refine z_ishr d_X1_isHigh_18 ?_
    refine z_iconst d_X1_isHigh_19 ki_1 ?_
    refine z_iand d_X1_isHigh_20 ?_
    refine z_iconst d_X1_isHigh_21 ki_1 ?_
    refine z_icmp_ne d_X1_isHigh_22 (fun h_22 => ?_) (fun h_22 => ?_)
    · refine z_iconst d_X1_isHigh_29 ki_0 ?_
      exact z_zreturn d_X1_isHigh_30 rfl rfl ⟨by first | (rw [show hi P a z = true from hb.mp h_22]; rfl) | (rw [show hi P a z = false from by cases hh : hi P a z; rfl; exact absurd (hb.mpr hh) h_22]; rfl), rfl, rfl, rfl, rfl⟩
    · refine z_iconst d_X1_isHigh_25 ki_1 ?_
      refine z_goto d_X1_isHigh_26 ?_
      exact z_zreturn d_X1_isHigh_30 rfl rfl ⟨by first | (rw [show hi P a z = true from hb.mp h_22]; rfl) | (rw [show hi P a z = false from by cases hh : hi P a z; rfl; exact absurd (hb.mpr hh) h_22]; rfl), rfl, rfl, rfl, rfl⟩
  · refine z_iconst d_X1_isHigh_10 ki_4 ?_
    refine z_goto d_X1_isHigh_11 ?_
    refine z_topi (y := nI P) (by first | (have := (nI_eq (a := P) (b := 4) (by omega) (by decide)).mp h_7; subst this; rfl) | (rcases hP with rfl | rfl; rfl; exact absurd rfl h_7)) ?_
    refine z_cSi d_X1_isHigh_15 q_X1_isHigh_44 ⟨rfl, rfl⟩ (ct_J9_floorMod_7cf53 (nI_ne0 (by omega) (by omega))) rfl rfl rfl ⟨Nat.zero_le _, Nat.zero_le _⟩ ?_
    rw [hm]
    refine z_ishr d_X1_isHigh_18 ?_
    refine z_iconst d_X1_isHigh_19 ki_1 ?_
    refine z_iand d_X1_isHigh_20 ?_
    refine z_iconst d_X1_isHigh_21 ki_1 ?_
    refine z_icmp_ne d_X1_isHigh_22 (fun h_22 => ?_) (fun h_22 => ?_)
    · refine z_iconst d_X1_isHigh_29 ki_0 ?_
      exact z_zreturn d_X1_isHigh_30 rfl rfl ⟨by first | (rw [show hi P a z = true from hb.mp h_22]; rfl) | (rw [show hi P a z = false from by cases hh : hi P a z; rfl; exact absurd (hb.mpr hh) h_22]; rfl), rfl, rfl, rfl, rfl⟩
    · refine z_iconst d_X1_isHigh_25 ki_1 ?_
      refine z_goto d_X1_isHigh_26 ?_
      exact z_zreturn d_X1_isHigh_30 rfl rfl ⟨by first | (rw [show hi P a z = true from hb.mp h_22]; rfl) | (rw [show hi P a z = false from by cases hh : hi P a z; rfl; exact absurd (hb.mpr hh) h_22]; rfl), rfl, rfl, rfl, rfl⟩
set_option maxRecDepth 100000 in
set_option maxHeartbeats 4000000 in
theorem ct_X1_allHigh {E : zE} {I : zI} {L : zL} {R : zR} {P : Nat} (hR : zLx R) (hP : P = 3 ∨ P = 4) (hI : I 37 0 = nI P) : zCf E m_X1_allHigh zShF [.ref 37] I L R (some (.int (nI (2 ^ P - 1)))) (I) (L) (R) := by
  refine z_met (by decide) [some (.ref 37)] rfl rfl (Nat.le_of_ble_eq_true rfl) (fun X => ?_)
  refine z_iconst d_X1_allHigh_0 ki_1 ?_
  refine z_aload_n d_X1_allHigh_1 rfl ?_
  refine z_getI d_X1_allHigh_2 f_X1_34 (by first | rfl | assumption) (by omega) ?_
  refine z_ishl d_X1_allHigh_5 ?_
  refine z_iconst d_X1_allHigh_6 ki_1 ?_
  refine z_isub d_X1_allHigh_7 ?_
  exact z_ireturn d_X1_allHigh_8 rfl ⟨by rw [hI]; rcases hP with rfl | rfl <;> rfl, rfl, rfl, rfl, rfl⟩
