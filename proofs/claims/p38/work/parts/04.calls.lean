/-! CONTRACTS OVER THE LITTLE MACHINE, AND CALLS -/
def zPc (E : zE) (Sh : zSh) (args : List Value) (I : zI) (L : zL) (R : zR) : Array Value → State → Prop := fun v U => v = (args.map (ztr E)).toArray ∧ U.heap.size = eB E + Sh.length ∧ zWd E Sh I L R U.heap ∧ zKK E U ∧ zFo E U U.heap
def zQc (E : zE) (md : zMD) (Q : Option Value → zSh → zI → zL → zR → Prop) : Array Value → State → Outcome → State → Prop := fun _ st oc t => ∃ (r : Option Value) (Sh : zSh) (I : zI) (L : zL) (R : zR), oc = .returned (r.map (ztr E)) ∧ Q r Sh I L R ∧ zWd E Sh I L R t.heap ∧ st.heap.size + zmc md = eB E + Sh.length ∧ va_F (zA E) st t
/-- the method, called with args in this world, returns with Q -/
def zCt (E : zE) (md : zMD) (Sh : zSh) (args : List Value) (I : zI) (L : zL) (R : zR) (Q : Option Value → zSh → zI → zL → zR → Prop) : Prop :=
  Met (eL E) md.1 (.code md.1 (zcc md) (zmL md) (zret md) :: lw_g) (zrm md) (zPc E Sh args I L R) (zQc E md Q) (zmc md) (zms md) (zA E)
abbrev zQs (E : zE) (md : zMD) (X : zX) (Q : Option Value → zSh → zI → zL → zR → Prop) : State → Prop := MQ (xB X) (zQc E md Q) (xA X) (xS X) (zmc md) (zms md) (zA E)
theorem zPc_blind {E : zE} {Sh : zSh} {args : List Value} {I : zI} {L : zL} {R : zR} : FrameBlind (zPc E Sh args I L R) := fun a U g mk h => ⟨h.1, h.2.1, h.2.2.1, zKK.same rfl h.2.2.2.1, zFo.moved (u := U) (Vm.Alike.refl U.vm) h.2.2.2.2⟩
set_option maxRecDepth 10000 in
/-- a contract out of the walk of the method's body -/
theorem z_met {E : zE} {md : zMD} {Sh : zSh} {args : List Value} {I : zI} {L : zL} {R : zR} {Q : Option Value → zSh → zI → zL → zR → Prop} (hy : plainName md.1.cls = true) (ls : List (Option Value)) (hls : zas E 0 ls = lv_args 0 (args.map (ztr E))) (hlen : ls.length = zmL md) (hfit : (lg_sl (args.map (ztr E))).length ≤ zmL md)
    (body : ∀ X : zX, zZ E md X (zQs E md X Q) Sh 0 0 0 ls [] I L R) : zCt E md Sh args I L R Q := by
  refine Met.ofW (cc := zcc md) (maxL := zmL md) (ret := zret md) hy rfl ?_
  intro p e s m a below meth c s₁ B hml hv
  obtain ⟨rfl, hsz, hW, hKK, hFo⟩ := hv
  have hts := atoms_spec (ws := .code md.1 (zcc md) (zmL md) (zret md) :: lw_g) B.pre
  have hl := lv_entry (args.map (ztr E)) (n := zmL md) hfit
  rw [lg_entry_eq]
  exact body (p, e, s, m, (args.map (ztr E)).toArray, below, meth, c) ⟨B.exec, B.bytes, hml, findClass_of_methodNamed B.named, fun w h => hts w (List.mem_cons_of_mem _ h), B.returns, B.notSynchronized, (name_of_methodNamed B.named B.method).1, hKK, hFo, by show eB E ≤ s.heap.size; omega⟩ hsz s.heap [] _ hW va_S.rf ⟨hlen, by rw [hls]; exact hl⟩
section ZCALLS
variable {E : zE} {md : zMD} {X : zX} {Qs : State → Prop} {Sh : zSh} {kc ks pc pc' : Nat} {ls : List (Option Value)} {st : List Value} {I : zI} {L : zL} {R : zR} {Q : Option Value → zSh → zI → zL → zR → Prop}
/-- what a return owes -/
theorem z_fin {H : Heap} {locs : List Loc} {r : Option Value} (hq : Q r Sh I L R) (hz : (xS X).heap.size + zmc md = eB E + Sh.length) (hW : zWd E Sh I L R H) (hS : va_S (zA E) (xS X).heap H locs) :
    ∀ t : State, t.heap = H → (xS X).WarmedH t.vm → zQc E md Q (xA X) (xS X) (.returned (r.map (ztr E))) t := fun t ht _ => ⟨r, Sh, I, L, R, rfl, hq, by rw [ht]; exact hW, hz, hS.F ht⟩
theorem z_ireturn {v : Int32} (hd : decode (zcc md) pc = .ok (.ireturn, 1)) (hr : zret md = some .int) (hq : Q (some (.int v)) Sh I L R) : zZ E md X (zQs E md X Q) Sh (zmc md) (zms md) pc ls [.int v] I L R := by
  intro C hz H locs la hW hS hl
  exact W.iret C.1 C.2.1 (C.2.2.2.2.2.1.trans hr) (z_fin hq hz hW hS) hS.2.2 hd C.2.2.2.2.2.2.1
theorem z_zreturn {v : Int32} (hd : decode (zcc md) pc = .ok (.ireturn, 1)) (hr : zret md = some .boolean) (hn : narrow .boolean (.int v) = .int v) (hq : Q (some (.int v)) Sh I L R) : zZ E md X (zQs E md X Q) Sh (zmc md) (zms md) pc ls [.int v] I L R := by
  intro C hz H locs la hW hS hl
  exact W.zret C.1 C.2.1 (C.2.2.2.2.2.1.trans hr) hn (z_fin hq hz hW hS) hS.2.2 hd C.2.2.2.2.2.2.1
theorem z_lreturn {v : Int64} (hd : decode (zcc md) pc = .ok (.lreturn, 1)) (hr : zret md = some .long) (hq : Q (some (.long v)) Sh I L R) : zZ E md X (zQs E md X Q) Sh (zmc md) (zms md) pc ls [.long v] I L R := by
  intro C hz H locs la hW hS hl
  exact W.lret C.1 C.2.1 (C.2.2.2.2.2.1.trans hr) (z_fin hq hz hW hS) hS.2.2 hd C.2.2.2.2.2.2.1
theorem z_return (hd : decode (zcc md) pc = .ok (.return_, 1)) (hr : zret md = none) (hq : Q none Sh I L R) : zZ E md X (zQs E md X Q) Sh (zmc md) (zms md) pc ls [] I L R := by
  intro C hz H locs la hW hS hl
  exact W.vret C.1 C.2.1 (C.2.2.2.2.2.1.trans hr) (z_fin hq hz hW hS) hS.2.2 hd C.2.2.2.2.2.2.1
theorem z_areturn {a : Nat} {n : String} (hd : decode (zcc md) pc = .ok (.areturn, 1)) (hr : zret md = some (.object n)) (hq : Q (some (.ref a)) Sh I L R) : zZ E md X (zQs E md X Q) Sh (zmc md) (zms md) pc ls [.ref a] I L R := by
  intro C hz H locs la hW hS hl
  exact W.aret C.1 C.2.1 (C.2.2.2.2.2.1.trans hr) (Or.inl ⟨n, rfl⟩) (Or.inr ⟨_, rfl⟩) (z_fin hq hz hW hS) hS.2.2 hd C.2.2.2.2.2.2.1
/-- the heap's size is the world's -/
theorem z_size {H : Heap} {locs : List Loc} {T : State} (hb : eB E ≤ (xS X).heap.size) (hz : (xS X).heap.size + kc = eB E + Sh.length) (hW : zWd E Sh I L R H) (hS : va_S (zA E) (xS X).heap H locs) (hT : T.heap = H) (X' : Stand (xP X) (eL E) (xE X) (zrm md) (xS X) (xM X) (xA X) (xB X) (xT X) (xC X) T locs kc ks) : H.size = eB E + Sh.length := by
  have h1 : T.heap.size ≤ (xS X).heap.size + kc := X'.same.2.2.1
  rw [hT] at h1
  have h2 := hS.1
  rcases Nat.eq_zero_or_pos Sh.length with h | h
  · omega
  · have hk : Sh.length - 1 < Sh.length := by omega
    have h3 := (hW.2 _ _ (zw_at (List.getElem?_eq_getElem hk))).lt
    have h4 : eB E + (Sh.length - 1) < H.size := h3
    omega
theorem z_run {H : Heap} {locs : List Loc} {la : Array Slot} {mdc : zMD} {st0 rest : List Value} {a : Array Value} (hb : eB E ≤ (xS X).heap.size) (hz : (xS X).heap.size + kc = eB E + Sh.length) (hW : zWd E Sh I L R H) (hS : va_S (zA E) (xS X).heap H locs)
    (hr : H.size = eB E + Sh.length → va_Run (xP X) (eL E) (xE X) (zrm md) (xS X) (xM X) (xA X) (xB X) (xT X) (xC X) H locs kc ks (zmc mdc) (zms mdc) (F0 (xM X) pc la st0) rest (zQc E mdc Q a) (zA E))
    (kk : ∀ (r : Option Value) (Sh' : zSh) (I' : zI) (L' : zL) (R' : zR) (H1 : Heap) (locs1 : List Loc), Q r Sh' I' L' R' → (xS X).heap.size + (kc + zmc mdc) = eB E + Sh'.length → zWd E Sh' I' L' R' H1 → va_S (zA E) (xS X).heap H1 locs1 →
      W (xP X) (eL E) (xE X) (zrm md) (xS X) (xM X) (xA X) (xB X) (xT X) (xC X) H1 locs1 (kc + zmc mdc) (ks + zms mdc) Qs (F0 (xM X) (pc + 3) la ((r.map (ztr E)).toList ++ rest))) :
    W (xP X) (eL E) (xE X) (zrm md) (xS X) (xM X) (xA X) (xB X) (xT X) (xC X) H locs kc ks Qs (F0 (xM X) pc la st0) := by
  intro T hT X'
  have hsz := z_size hb hz hW hS hT X'
  obtain ⟨v, st₀, t, T', L', h0, X2, hL, e1, e2, ⟨r, Sh', I', L1, R', hv, hq, hw, hm, hF1, hF2⟩, st⟩ := hr hsz T hT X'
  cases hv
  rw [h0] at hm hF1 hF2
  obtain ⟨t2, a1, b1⟩ := kk r Sh' I' L1 R' T'.heap (locs ++ L') hq (by omega) (by rw [e1]; exact hw)
    ⟨Nat.le_trans hS.1 (by rw [e1]; exact hF1), fun q h1 h2 => by rw [e1, hF2 q (Nat.lt_of_lt_of_le h1 hS.1) h2]; exact hS.2.1 q h1 h2, fun q hq => by
      rcases List.mem_append.mp hq with h | h
      · exact hS.2.2 q h
      · exact hL q h⟩ T' rfl X2
  exact ⟨t2, st t2 a1, b1⟩
theorem zgood {w : Cond} (h : w ∈ lw_g) : GoodIn lw_g (w :: lw_g) := by
  intro q hq
  have h1 : q ∈ lw_g := by
    rcases List.mem_cons.mp hq with e | e
    · rw [e]; exact h
    · exact e
  exact ⟨h1, good_of_word (List.mem_filter.mp h1).2⟩
/-- a callee's words and room, whoever calls -/
def zCb (md mdc : zMD) (n : Nat) : Prop := Cond.code mdc.1 (zcc mdc) (zmL mdc) (zret mdc) ∈ lw_g ∧ Cond.initialized mdc.1.cls ∈ lw_g ∧ (mdc.1.cls ≠ "java/lang/invoke/MethodHandle" ∧ mdc.1.cls ≠ "java/lang/invoke/VarHandle" ∧ (parseMethodDescriptor mdc.1.desc).map (fun d => d.parameters.length) = some n) ∧ ((zrm mdc).cells = zmc mdc ∧ (zrm mdc).slots = zms mdc) ∧ ((zrm mdc).frames + 1 ≤ (zrm md).frames ∧ 8 + (zmL mdc + 11) + (zrm mdc).locals ≤ (zrm md).locals)
def zCv (md : zMD) (idx : Nat) (mdc : zMD) (ci n : Nat) : Prop := zCb md mdc n ∧ Cond.methodLink md.1.cls idx mdc.1 ∈ lw_g ∧ Cond.instanceMethod mdc.1 ∈ lw_g ∧ ∃ (C : String) (T : u_T) (N : Nat), vwCl[ci]? = some (C, T, N) ∧ Cond.selects C mdc.1 mdc.1 ∈ lw_g
def zCs (md : zMD) (idx : Nat) (mdc : zMD) (n : Nat) : Prop := zCb md mdc n ∧ Cond.methodLink md.1.cls idx mdc.1 ∈ lw_g ∧ Cond.static mdc.1 ∈ lw_g
def zCsn (md : zMD) (idx : Nat) (mdc : zMD) (n : Nat) (host : String) : Prop := zCb md mdc n ∧ (md.1.cls, idx, mdc.1, host) ∈ zNest ∧ Cond.static mdc.1 ∈ lw_g
def zCi (md : zMD) (idx : Nat) (mdc : zMD) (n : Nat) : Prop := zCb md mdc n ∧ Cond.methodLink md.1.cls idx mdc.1 ∈ lw_g ∧ Cond.instanceMethod mdc.1 ∈ lw_g ∧ mdc.1.name = "<init>" ∧ zret mdc = none
def zCin (md : zMD) (idx : Nat) (mdc : zMD) (n : Nat) (host : String) : Prop := zCb md mdc n ∧ (md.1.cls, idx, mdc.1, host) ∈ zNest ∧ Cond.instanceMethod mdc.1 ∈ lw_g ∧ mdc.1.name = "<init>" ∧ zret mdc = none
def zcat (st : List Value) : Nat := (st.map fun v => v.category).sum
theorem zcat_map : ∀ st : List Value, ((st.map (ztr E)).map fun v => v.category).sum = zcat st
  | [] => rfl
  | v :: t => by
    have := zcat_map t
    simp only [zcat, List.map_cons, List.sum_cons, ztr_cat] at this ⊢
    rw [this]
theorem z_pre {H : Heap} {locs : List Loc} {args : List Value} (C : zCtx E md X) (hsz : H.size = eB E + Sh.length) (hW : zWd E Sh I L R H) (hS : va_S (zA E) (xS X).heap H locs) : ∀ U : State, U.heap = H → (xS X).WarmedH U.vm → zPc E Sh args I L R (args.map (ztr E)).toArray U := by
  intro U hU hw
  refine ⟨rfl, by rw [hU]; exact hsz, by rw [hU]; exact hW, zKK.warm hw C.2.2.2.2.2.2.2.2.1, zFo.moved hw.alike ?_⟩
  rw [hU]
  exact C.2.2.2.2.2.2.2.2.2.1.kept (fun a h1 h2 => hS.2.1 a h1 h2)
theorem z_callV {idx q n ci : Nat} {mdc : zMD} {As stk : List Value} (hd : zD md pc (.invokevirtual idx) 3 pc') (hc : zCv md idx mdc ci n) (hs : Sh[q]? = some (0, ci)) (hq : q < 1000000) (hct : zCt E mdc Sh (.ref q :: As) I L R Q) (hst : stk = As.reverse ++ .ref q :: st) (hn : As.length = n) (hw : Nat.ble (zcat st) 8 = true) (hroom : kc + zmc mdc ≤ (zrm md).cells ∧ ks + zms mdc ≤ (zrm md).slots)
    (kk : ∀ (r : Option Value) (Sh' : zSh) (I' : zI) (L' : zL) (R' : zR), Q r Sh' I' L' R' → zZ E md X Qs Sh' (kc + zmc mdc) (ks + zms mdc) pc' ls (r.toList ++ st) I' L' R') : zZ E md X Qs Sh kc ks pc ls stk I L R := by
  obtain ⟨hd, rfl⟩ := hd
  obtain ⟨⟨hcode, hini, hnm, ⟨hrc, hrs⟩, hR⟩, hlk, hin, Cn, T, N, hcl, hsel⟩ := hc
  subst hst
  intro C hz H locs la hW hS hl
  refine z_run (mdc := mdc) (Q := Q) (a := (Value.ref (zad E q) :: As.map (ztr E)).toArray) (rest := st.map (ztr E)) C.2.2.2.2.2.2.2.2.2.2 hz hW hS (fun hsz => ?_) (fun r Sh' I' L' R' H1 locs1 hq1 hz1 hW1 hS1 => ?_)
  · refine va_runV (C := Cn) (As := As.map (ztr E)) (b := zad E q) (nL := zmL md) ⟨C.1, C.2.1, C.2.2.1, C.2.2.2.1, C.2.2.2.2.1⟩ hct ⟨callB_of n C.2.2.2.2.1 (zgood hcode) rfl hrc hrs (C.2.2.2.2.1 _ hini) (C.2.2.2.2.1 _ hlk) hnm hR, C.2.2.2.2.1 _ hin, C.2.2.2.2.1 _ hsel⟩ ⟨zPc_blind, va_recv (D := eD E) (cl := vwCl) (tys := zTy E) C.2.2.2.2.2.2.2.2.1.1 hW.2 hcl (q0 := q) (zA_at hs hq rfl), z_pre C hsz hW hS⟩ rfl (by simpa using hn) hl.2.1 ?_ ?_ hd hroom
    · show ((As.reverse ++ .ref q :: st).map (ztr E)) = _
      simp [List.map_append, List.map_reverse, ztr]
    · show 2 * 0 + ((st.map (ztr E)).map fun v => v.category).sum ≤ 8
      rw [zcat_map, Nat.mul_zero, Nat.zero_add]
      exact Nat.le_of_ble_eq_true hw
  · have := kk r Sh' I' L' R' hq1 C hz1 H1 locs1 la hW1 hS1 hl
    cases r <;> exact this
theorem z_callS {idx n : Nat} {mdc : zMD} {As stk : List Value} (hd : zD md pc (.invokestatic idx) 3 pc') (hc : zCs md idx mdc n) (hct : zCt E mdc Sh As I L R Q) (hst : stk = As.reverse ++ st) (hn : As.length = n) (hw : Nat.ble (zcat st) 8 = true) (hroom : kc + zmc mdc ≤ (zrm md).cells ∧ ks + zms mdc ≤ (zrm md).slots)
    (kk : ∀ (r : Option Value) (Sh' : zSh) (I' : zI) (L' : zL) (R' : zR), Q r Sh' I' L' R' → zZ E md X Qs Sh' (kc + zmc mdc) (ks + zms mdc) pc' ls (r.toList ++ st) I' L' R') : zZ E md X Qs Sh kc ks pc ls stk I L R := by
  obtain ⟨hd, rfl⟩ := hd
  obtain ⟨⟨hcode, hini, hnm, ⟨hrc, hrs⟩, hR⟩, hlk, hstat⟩ := hc
  subst hst
  intro C hz H locs la hW hS hl
  refine z_run (mdc := mdc) (Q := Q) (a := (As.map (ztr E)).toArray) (rest := st.map (ztr E)) C.2.2.2.2.2.2.2.2.2.2 hz hW hS (fun hsz => ?_) (fun r Sh' I' L' R' H1 locs1 hq1 hz1 hW1 hS1 => ?_)
  · refine va_runS (As := As.map (ztr E)) (nL := zmL md) ⟨C.1, C.2.1, C.2.2.1, C.2.2.2.1, C.2.2.2.2.1⟩ hct ⟨callB_of n C.2.2.2.2.1 (zgood hcode) rfl hrc hrs (C.2.2.2.2.1 _ hini) (C.2.2.2.2.1 _ hlk) hnm hR, C.2.2.2.2.1 _ hstat⟩ ⟨zPc_blind, z_pre C hsz hW hS⟩ rfl (by simpa using hn) hl.2.1 ?_ ?_ hd hroom
    · show ((As.reverse ++ st).map (ztr E)) = _
      simp [List.map_append, List.map_reverse]
    · show 2 * 0 + ((st.map (ztr E)).map fun v => v.category).sum ≤ 8
      rw [zcat_map, Nat.mul_zero, Nat.zero_add]
      exact Nat.le_of_ble_eq_true hw
  · have := kk r Sh' I' L' R' hq1 C hz1 H1 locs1 la hW1 hS1 hl
    cases r <;> exact this
theorem z_callSN {idx n : Nat} {mdc : zMD} {host : String} {As stk : List Value} (hd : zD md pc (.invokestatic idx) 3 pc') (hc : zCsn md idx mdc n host) (hct : zCt E mdc Sh As I L R Q) (hst : stk = As.reverse ++ st) (hn : As.length = n) (hw : Nat.ble (zcat st) 8 = true) (hroom : kc + zmc mdc ≤ (zrm md).cells ∧ ks + zms mdc ≤ (zrm md).slots)
    (kk : ∀ (r : Option Value) (Sh' : zSh) (I' : zI) (L' : zL) (R' : zR), Q r Sh' I' L' R' → zZ E md X Qs Sh' (kc + zmc mdc) (ks + zms mdc) pc' ls (r.toList ++ st) I' L' R') : zZ E md X Qs Sh kc ks pc ls stk I L R := by
  obtain ⟨hd, rfl⟩ := hd
  obtain ⟨⟨hcode, hini, hnm, ⟨hrc, hrs⟩, hR⟩, hlk, hstat⟩ := hc
  subst hst
  intro C hz H locs la hW hS hl
  refine z_run (mdc := mdc) (Q := Q) (a := (As.map (ztr E)).toArray) (rest := st.map (ztr E)) C.2.2.2.2.2.2.2.2.2.2 hz hW hS (fun hsz => ?_) (fun r Sh' I' L' R' H1 locs1 hq1 hz1 hW1 hS1 => ?_)
  · refine va_runSN (host := host) (As := As.map (ztr E)) (nL := zmL md) ⟨C.1, C.2.1, C.2.2.1, C.2.2.2.1, C.2.2.2.2.1⟩ hct ⟨va_cnB n C.2.2.2.2.1 (zgood hcode) rfl hrc hrs (C.2.2.2.2.2.2.2.2.1.2.1 _ hlk) (C.2.2.2.2.1 _ hini) hnm hR, C.2.2.2.2.1 _ hstat, trivial⟩ ⟨zPc_blind, z_pre C hsz hW hS⟩ rfl (by simpa using hn) hl.2.1 ?_ ?_ hd hroom
    · show ((As.reverse ++ st).map (ztr E)) = _
      simp [List.map_append, List.map_reverse]
    · show 2 * 0 + ((st.map (ztr E)).map fun v => v.category).sum ≤ 8
      rw [zcat_map, Nat.mul_zero, Nat.zero_add]
      exact Nat.le_of_ble_eq_true hw
  · have := kk r Sh' I' L' R' hq1 C hz1 H1 locs1 la hW1 hS1 hl
    cases r <;> exact this
theorem z_callI {idx q n : Nat} {mdc : zMD} {As stk : List Value} (hd : zD md pc (.invokespecial idx) 3 pc') (hc : zCi md idx mdc n) (hct : zCt E mdc Sh (.ref q :: As) I L R Q) (hst : stk = As.reverse ++ .ref q :: st) (hn : As.length = n) (hw : Nat.ble (zcat st) 8 = true) (hroom : kc + zmc mdc ≤ (zrm md).cells ∧ ks + zms mdc ≤ (zrm md).slots)
    (kk : ∀ (r : Option Value) (Sh' : zSh) (I' : zI) (L' : zL) (R' : zR), Q r Sh' I' L' R' → zZ E md X Qs Sh' (kc + zmc mdc) (ks + zms mdc) pc' ls (r.toList ++ st) I' L' R') : zZ E md X Qs Sh kc ks pc ls stk I L R := by
  obtain ⟨hd, rfl⟩ := hd
  obtain ⟨⟨hcode, hini, hnm, ⟨hrc, hrs⟩, hR⟩, hlk, hin, hy1, hrt⟩ := hc
  subst hst
  intro C hz H locs la hW hS hl
  refine z_run (mdc := mdc) (Q := Q) (a := (Value.ref (zad E q) :: As.map (ztr E)).toArray) (rest := st.map (ztr E)) C.2.2.2.2.2.2.2.2.2.2 hz hW hS (fun hsz => ?_) (fun r Sh' I' L' R' H1 locs1 hq1 hz1 hW1 hS1 => ?_)
  · refine va_runI (As := As.map (ztr E)) (b := zad E q) (nL := zmL md) ⟨C.1, C.2.1, C.2.2.1, C.2.2.2.1, C.2.2.2.2.1⟩ hct ⟨callB_of n C.2.2.2.2.1 (zgood hcode) (by rw [hrt]) hrc hrs (C.2.2.2.2.1 _ hini) (C.2.2.2.2.1 _ hlk) hnm hR, hy1, C.2.2.2.2.1 _ hin⟩ ⟨zPc_blind, z_pre (args := .ref q :: As) C hsz hW hS⟩ rfl (by simpa using hn) hl.2.1 ?_ ?_ hd hroom
    · show ((As.reverse ++ .ref q :: st).map (ztr E)) = _
      simp [List.map_append, List.map_reverse, ztr]
    · show 2 * 0 + ((st.map (ztr E)).map fun v => v.category).sum ≤ 8
      rw [zcat_map, Nat.mul_zero, Nat.zero_add]
      exact Nat.le_of_ble_eq_true hw
  · have := kk r Sh' I' L' R' hq1 C hz1 H1 locs1 la hW1 hS1 hl
    cases r <;> exact this
theorem z_callIN {idx q n : Nat} {mdc : zMD} {host : String} {As stk : List Value} (hd : zD md pc (.invokespecial idx) 3 pc') (hc : zCin md idx mdc n host) (hct : zCt E mdc Sh (.ref q :: As) I L R Q) (hst : stk = As.reverse ++ .ref q :: st) (hn : As.length = n) (hw : Nat.ble (zcat st) 8 = true) (hroom : kc + zmc mdc ≤ (zrm md).cells ∧ ks + zms mdc ≤ (zrm md).slots)
    (kk : ∀ (r : Option Value) (Sh' : zSh) (I' : zI) (L' : zL) (R' : zR), Q r Sh' I' L' R' → zZ E md X Qs Sh' (kc + zmc mdc) (ks + zms mdc) pc' ls (r.toList ++ st) I' L' R') : zZ E md X Qs Sh kc ks pc ls stk I L R := by
  obtain ⟨hd, rfl⟩ := hd
  obtain ⟨⟨hcode, hini, hnm, ⟨hrc, hrs⟩, hR⟩, hlk, hin, hy1, hrt⟩ := hc
  subst hst
  intro C hz H locs la hW hS hl
  refine z_run (mdc := mdc) (Q := Q) (a := (Value.ref (zad E q) :: As.map (ztr E)).toArray) (rest := st.map (ztr E)) C.2.2.2.2.2.2.2.2.2.2 hz hW hS (fun hsz => ?_) (fun r Sh' I' L' R' H1 locs1 hq1 hz1 hW1 hS1 => ?_)
  · refine va_runIN (host := host) (As := As.map (ztr E)) (b := zad E q) (nL := zmL md) ⟨C.1, C.2.1, C.2.2.1, C.2.2.2.1, C.2.2.2.2.1⟩ hct ⟨va_cnB n C.2.2.2.2.1 (zgood hcode) (by rw [hrt]) hrc hrs (C.2.2.2.2.2.2.2.2.1.2.1 _ hlk) (C.2.2.2.2.1 _ hini) hnm hR, hy1, C.2.2.2.2.1 _ hin⟩ ⟨zPc_blind, z_pre (args := .ref q :: As) C hsz hW hS⟩ rfl (by simpa using hn) hl.2.1 ?_ ?_ hd hroom
    · show ((As.reverse ++ .ref q :: st).map (ztr E)) = _
      simp [List.map_append, List.map_reverse, ztr]
    · show 2 * 0 + ((st.map (ztr E)).map fun v => v.category).sum ≤ 8
      rw [zcat_map, Nat.mul_zero, Nat.zero_add]
      exact Nat.le_of_ble_eq_true hw
  · have := kk r Sh' I' L' R' hq1 C hz1 H1 locs1 la hW1 hS1 hl
    cases r <;> exact this
end ZCALLS
