/-! CELLS THAT ARE MADE; THE LIBRARY'S OWN CALLS -/
section ZMADE
variable {E : zE} {md : zMD} {X : zX} {Qs : State → Prop} {Sh : zSh} {kc ks pc pc' : Nat} {ls : List (Option Value)} {st : List Value} {I : zI} {L : zL} {R : zR}
theorem z_sized {H : Heap} {locs : List Loc} {g : JFrame} (C : zCtx E md X) (hz : (xS X).heap.size + kc = eB E + Sh.length) (hW : zWd E Sh I L R H) (hS : va_S (zA E) (xS X).heap H locs)
    (k : H.size = eB E + Sh.length → W (xP X) (eL E) (xE X) (zrm md) (xS X) (xM X) (xA X) (xB X) (xT X) (xC X) H locs kc ks Qs g) : W (xP X) (eL E) (xE X) (zrm md) (xS X) (xM X) (xA X) (xB X) (xT X) (xC X) H locs kc ks Qs g :=
  fun T hT X1 => k (z_size C.2.2.2.2.2.2.2.2.2.2 hz hW hS hT X1) T hT X1
theorem zWd_push {I' : zI} {L' : zL} {R' : zR} {t : Nat × Nat} {H H1 : Heap} (hW : zWd E Sh I L R H) (hn : Sh.length < 1000000) (hk : ∀ q : Nat, q < H.size → H1[q]? = H[q]?) (h1 : ∀ q, q ≠ Sh.length → I' q = I q) (h2 : ∀ q, q ≠ Sh.length → L' q = L q) (h3 : ∀ q, q ≠ Sh.length → R' q = R q)
    (hat : va_at (eD E) vwCl (eB E + Sh.length, ze E I' L' R' Sh.length t) H1) : zWd E (Sh ++ [t]) I' L' R' H1 := by
  refine ⟨by simp; omega, fun k q hq => ?_⟩
  simp only [zw, List.getElem?_mapIdx, Option.map_eq_some_iff] at hq
  obtain ⟨u, hu, rfl⟩ := hq
  by_cases hl : k < Sh.length
  · rw [List.getElem?_append_left hl] at hu
    have h := hW.2 k _ (zw_at hu)
    rw [ze_congr (h1 k (by omega)) (h2 k (by omega)) (h3 k (by omega))]
    exact h.kept (hk _ h.lt)
  · rw [List.getElem?_append_right (by omega)] at hu
    have hz : k - Sh.length < 1 := (List.getElem?_eq_some_iff.mp hu).1
    have hk0 : k = Sh.length := by omega
    subst hk0
    rw [Nat.sub_self] at hu
    cases hu
    exact hat
theorem zS_push {H H1 : Heap} {locs : List Loc} (hS : va_S (zA E) (xS X).heap H locs) (hz : H1.size = H.size + 1) (hk : ∀ q : Nat, q < H.size → H1[q]? = H[q]?) : va_S (zA E) (xS X).heap H1 locs :=
  ⟨Nat.le_trans hS.1 (by omega), fun x h1 h2 => (hk x (Nat.lt_of_lt_of_le h1 hS.1)).trans (hS.2.1 x h1 h2), hS.2.2⟩
def zdef (t : Nat) : Value := match t with
  | 0 => .int 0
  | 1 => .long 0
  | _ => .null
def zNw (md : zMD) (idx ci N : Nat) : Prop := ∃ (C : String) (T : u_T) (ty0 : Nat → FieldType), vwCl[ci]? = some (C, T, N) ∧ (∀ w ∈ u_ws C T N, w ∈ lw_g) ∧ (∀ k, k < N → parseFieldDescriptor (T k).2.2.1 = some (ty0 k)) ∧ Cond.classLink md.1.cls idx C ∈ lw_g ∧ Cond.instantiable C N ∈ lw_g ∧ Cond.initialized C ∈ lw_g ∧ ∀ j, j < N → ∃ t, (zft ci)[j]? = some t ∧ defaultValue (ty0 j) = zdef t
theorem z_new {idx ci N : Nat} (hd : zD md pc (.new idx) 3 pc') (hc : zNw md idx ci N) (hn : Sh.length < 1000000) (hroom : kc + 1 ≤ (zrm md).cells ∧ ks + N ≤ (zrm md).slots)
    (k : zZ E md X Qs (Sh ++ [(0, ci)]) (kc + 1) (ks + N) pc' ls (.ref Sh.length :: st) (va_up I Sh.length (fun _ => 0)) (va_up L Sh.length (fun _ => 0)) (va_up R Sh.length (fun _ => none))) : zZ E md X Qs Sh kc ks pc ls st I L R := by
  obtain ⟨hd, rfl⟩ := hd
  obtain ⟨Cn, T, ty0, hcl, hin, hty, hlk, hins, hini, hdf⟩ := hc
  intro C hz H locs la hW hS hl
  refine z_sized C hz hW hS (fun hsz => ?_)
  have hKn := C.2.2.2.2.2.2.2.2.1.1.1 ci _ hcl
  refine W.newcK (h := eB E + Sh.length) C.1 C.2.1 C.2.2.2.1 (C.2.2.2.2.1 _ hlk) (C.2.2.2.2.1 _ hins) (C.2.2.2.2.1 _ hini) rfl hd hroom.1 hroom.2 hKn.2.1 hsz (fun H1 kC hkC e1 z1 o1 => ?_)
  have o2 : ∀ q : Nat, q < H.size → H1[q]? = H[q]? := fun q h => o1 q (by omega)
  have hk := k C (by simp; omega) H1 locs la (zWd_push hW hn o2 (fun q h => va_up_ne _ _ h) (fun q h => va_up_ne _ _ h) (fun q h => va_up_ne _ _ h) ?_) (zS_push hS (by omega) o2) hl
  · have e : ztr E (.ref Sh.length) = .ref (eB E + Sh.length) := by show Value.ref (zad E _) = _; rw [zad_lt hn]
    rw [List.map_cons, e] at hk
    exact hk
  · refine ⟨_, hcl, (u_born ty0 C.2.2.2.2.1 hin hKn hkC e1 hty).to (fun j hj => ?_)⟩
    obtain ⟨t, ht, hv⟩ := hdf j hj
    rw [hv]
    show zdef t = (zfs E _ _ _ _ ci).getD j .null
    rw [List.getD_eq_getElem?_getD, zfs_at ht]
    show zdef t = zfv E _ _ _ _ j t
    unfold zdef zfv
    split <;> simp [va_up, va_rf]
/-- rows of numbers -/
theorem z_newa {tag : Nat} {ty : FieldType} {atype : ArrayType} {n : Int32} {N : Nat} {I' : zI} {L' : zL} (hd : zD md pc (.newarray atype) 2 pc') (hat : newarray.typeOf atype = ty) (hty : (zTy E)[tag]? = some (eY E (tag + 1), ty)) (hw : Cond.arrayClass ty ∈ lw_g) (hn0 : ¬ n < 0) (hN : n.toNatClampNeg = N) (hby : N * componentBytes ty ≤ 536870912) (hn : Sh.length < 1000000) (hroom : kc + 1 ≤ (zrm md).cells ∧ ks + N ≤ (zrm md).slots)
    (h1 : ∀ q, q ≠ Sh.length → I' q = I q) (h2 : ∀ q, q ≠ Sh.length → L' q = L q) (hra : ∀ U : State, va_RA U (eY E (tag + 1)) ty → U.vm.findClass ("[" ++ ty.toString) = some (eY E (tag + 1)))
    (hcell : ∃ a0 : vp_A, ze E I' L' R Sh.length (tag + 1, N) = .inl (eY E (tag + 1), a0) ∧ vp_cell (eY E (tag + 1)) a0 = arrV (eY E (tag + 1)) N (fun _ => defaultValue ty))
    (k : zZ E md X Qs (Sh ++ [(tag + 1, N)]) (kc + 1) (ks + N) pc' ls (.ref Sh.length :: st) I' L' R) : zZ E md X Qs Sh kc ks pc ls (.int n :: st) I L R := by
  obtain ⟨hd, rfl⟩ := hd
  subst hat
  intro C hz H locs la hW hS hl
  refine z_sized C hz hW hS (fun hsz => ?_)
  have hK2 := hra _ (C.2.2.2.2.2.2.2.2.1.1.2 tag _ hty).2
  refine va_newaK (h := eB E + Sh.length) C.1 C.2.1 (C.2.2.2.2.1 _ hw) rfl hd rfl hn0 hN hby hroom.1 hroom.2 hsz (fun H1 cA e1 z1 o1 hAr hNm => ?_)
  have hcA : cA = eY E (tag + 1) := Option.some.inj (hNm.symm.trans hK2)
  subst hcA
  have o2 : ∀ q : Nat, q < H.size → H1[q]? = H[q]? := fun q h => o1 q (by omega)
  obtain ⟨a0, ha1, ha2⟩ := hcell
  have hk := k C (by simp; omega) H1 locs la (zWd_push hW hn o2 h1 h2 (fun _ _ => rfl) ?_) (zS_push hS (by omega) o2) hl
  · have e : ztr E (.ref Sh.length) = .ref (eB E + Sh.length) := by show Value.ref (zad E _) = _; rw [zad_lt hn]
    rw [List.map_cons, e] at hk
    exact hk
  · rw [ha1]
    show H1[eB E + Sh.length]? = some (vp_cell _ _)
    rw [ha2]
    exact e1
theorem z_newI {n : Int32} {N : Nat} (hd : zD md pc (.newarray .int) 2 pc') (hn0 : ¬ n < 0) (hN : n.toNatClampNeg = N) (hby : N * 4 ≤ 536870912) (hn : Sh.length < 1000000) (hroom : kc + 1 ≤ (zrm md).cells ∧ ks + N ≤ (zrm md).slots)
    (k : zZ E md X Qs (Sh ++ [(2, N)]) (kc + 1) (ks + N) pc' ls (.ref Sh.length :: st) (va_up I Sh.length (fun _ => 0)) L R) : zZ E md X Qs Sh kc ks pc ls (.int n :: st) I L R :=
  z_newa (tag := 1) (ty := .int) hd rfl rfl (in_g (up_1 (List.mem_of_getElem? (i := 85) rfl)) rfl) hn0 hN hby hn hroom (fun q h => va_up_ne _ _ h) (fun _ _ => rfl) (fun U h => h) ⟨(N, .inl (fun _ => 0)), by show Sum.inl (eY E 2, N, Sum.inl _) = _; simp [va_up], rfl⟩ k
theorem z_newB {n : Int32} {N : Nat} (hd : zD md pc (.newarray .byte) 2 pc') (hn0 : ¬ n < 0) (hN : n.toNatClampNeg = N) (hby : N * 1 ≤ 536870912) (hn : Sh.length < 1000000) (hroom : kc + 1 ≤ (zrm md).cells ∧ ks + N ≤ (zrm md).slots)
    (k : zZ E md X Qs (Sh ++ [(1, N)]) (kc + 1) (ks + N) pc' ls (.ref Sh.length :: st) (va_up I Sh.length (fun _ => 0)) L R) : zZ E md X Qs Sh kc ks pc ls (.int n :: st) I L R :=
  z_newa (tag := 0) (ty := .byte) hd rfl rfl (in_g (up_1 (List.mem_of_getElem? (i := 40) rfl)) rfl) hn0 hN hby hn hroom (fun q h => va_up_ne _ _ h) (fun _ _ => rfl) (fun U h => h) ⟨(N, .inl (fun _ => 0)), by show Sum.inl (eY E 1, N, Sum.inl _) = _; simp [va_up], rfl⟩ k
theorem z_newZ {n : Int32} {N : Nat} (hd : zD md pc (.newarray .boolean) 2 pc') (hn0 : ¬ n < 0) (hN : n.toNatClampNeg = N) (hby : N * 1 ≤ 536870912) (hn : Sh.length < 1000000) (hroom : kc + 1 ≤ (zrm md).cells ∧ ks + N ≤ (zrm md).slots)
    (k : zZ E md X Qs (Sh ++ [(4, N)]) (kc + 1) (ks + N) pc' ls (.ref Sh.length :: st) (va_up I Sh.length (fun _ => 0)) L R) : zZ E md X Qs Sh kc ks pc ls (.int n :: st) I L R :=
  z_newa (tag := 3) (ty := .boolean) hd rfl rfl (in_g (up_1 (List.mem_of_getElem? (i := 131) rfl)) rfl) hn0 hN hby hn hroom (fun q h => va_up_ne _ _ h) (fun _ _ => rfl) (fun U h => h) ⟨(N, .inl (fun _ => 0)), by show Sum.inl (eY E 4, N, Sum.inl _) = _; simp [va_up], rfl⟩ k
theorem z_newL {n : Int32} {N : Nat} (hd : zD md pc (.newarray .long) 2 pc') (hn0 : ¬ n < 0) (hN : n.toNatClampNeg = N) (hby : N * 8 ≤ 536870912) (hn : Sh.length < 1000000) (hroom : kc + 1 ≤ (zrm md).cells ∧ ks + N ≤ (zrm md).slots)
    (k : zZ E md X Qs (Sh ++ [(3, N)]) (kc + 1) (ks + N) pc' ls (.ref Sh.length :: st) I (va_up L Sh.length (fun _ => 0)) R) : zZ E md X Qs Sh kc ks pc ls (.int n :: st) I L R :=
  z_newa (tag := 2) (ty := .long) hd rfl rfl (in_g (up_2 (List.mem_of_getElem? (i := 1) rfl)) rfl) hn0 hN hby hn hroom (fun _ _ => rfl) (fun q h => va_up_ne _ _ h) (fun U h => h) ⟨(N, .inr (.inl (fun _ => 0))), by show Sum.inl (eY E 3, N, Sum.inr (Sum.inl _)) = _; simp [va_up], rfl⟩ k
/-- rows of references -/
theorem z_anew {tag idx : Nat} {Cn : String} {n : Int32} {N : Nat} (htag : (tag = 4 ∧ Cn = RX0) ∨ (tag = 5 ∧ Cn = RX5)) (hd : zD md pc (.anewarray idx) 3 pc') (hlk : Cond.classLink md.1.cls idx Cn ∈ lw_g) (hn0 : ¬ n < 0) (hN : n.toNatClampNeg = N) (hby : N * 4 ≤ 536870912) (hn : Sh.length < 1000000) (hroom : kc + 1 ≤ (zrm md).cells ∧ ks + N ≤ (zrm md).slots)
    (k : zZ E md X Qs (Sh ++ [(tag + 1, N)]) (kc + 1) (ks + N) pc' ls (.ref Sh.length :: st) I L (va_up R Sh.length (fun _ => none))) : zZ E md X Qs Sh kc ks pc ls (.int n :: st) I L R := by
  obtain ⟨hd, rfl⟩ := hd
  subst hN
  intro C hz H locs la hW hS hl
  refine z_sized C hz hW hS (fun hsz => ?_)
  have hao : va_AO Cn (xS X) := by
    rcases htag with ⟨-, rfl⟩ | ⟨-, rfl⟩
    · exact C.2.2.2.2.2.2.2.2.1.2.2.1.1
    · exact C.2.2.2.2.2.2.2.2.1.2.2.1.2
  have hty : (zTy E)[tag]? = some (eY E (tag + 1), .object Cn) := by rcases htag with ⟨rfl, rfl⟩ | ⟨rfl, rfl⟩ <;> rfl
  obtain ⟨kA, comp, k1, k2, k3, k4⟩ := (C.2.2.2.2.2.2.2.2.1.1.2 tag _ hty).2
  refine W.anew C.1 C.2.1 C.2.2.2.1 (C.2.2.2.2.1 _ hlk) (va_AO.use hao) rfl hd rfl hn0 hby hroom.1 hroom.2 (fun cA kA comp f1 f2 f3 f4 => ?_)
  have hcA : cA = eY E (tag + 1) := Option.some.inj (f1.symm.trans k4)
  subst hcA
  generalize hH1 : H.push ({ cls := eY E (tag + 1), slots := Array.replicate n.toNatClampNeg .null, vm := .none } : Cell) = H1
  have z1 : H1.size = H.size + 1 := by rw [← hH1, Array.size_push]
  have e1 : H1[H.size]? = some (arrV (eY E (tag + 1)) n.toNatClampNeg (fun _ => .null)) := by rw [← hH1, Array.getElem?_push_size, ← arrV_new]
  have o2 : ∀ q : Nat, q < H.size → H1[q]? = H[q]? := fun q hq => by rw [← hH1, Array.getElem?_push, if_neg (Nat.ne_of_lt hq)]
  have hk := k C (by simp; omega) H1 locs la (zWd_push hW hn o2 (fun _ _ => rfl) (fun _ _ => rfl) (fun q h => va_up_ne _ _ h) ?_) (zS_push hS (by omega) o2) hl
  · have e : ztr E (.ref Sh.length) = .ref H.size := by show Value.ref (zad E _) = _; rw [zad_lt hn, hsz]
    rw [List.map_cons, e] at hk
    exact hk
  · have e : ze E I L (va_up R Sh.length (fun _ => none)) Sh.length (tag + 1, n.toNatClampNeg) = .inl (eY E (tag + 1), n.toNatClampNeg, .inr (.inr (.inr (.inr (fun _ => none))))) := by
      rcases htag with ⟨rfl, rfl⟩ | ⟨rfl, rfl⟩ <;> simp [ze, va_up]
    rw [e]
    show H1[eB E + Sh.length]? = some (vp_cell _ _)
    rw [← hsz]
    exact e1
theorem z_aastore {tag n j q a ci N : Nat} {Cn : String} {T : u_T} {i : Int32} (htag : (tag = 4 ∧ Cn = RX0) ∨ (tag = 5 ∧ Cn = RX5)) (hd : zD md pc .aastore 1 pc') (hs : Sh[q]? = some (tag + 1, n)) (hq : q < 1000000) (ha : a < 1000000) (hx : zix i n j) (hsa : Sh[a]? = some (0, ci)) (hc : vwCl[ci]? = some (Cn, T, N)) (k : zZ E md X Qs Sh kc ks pc' ls st I L (zr R q j (some a))) : zZ E md X Qs Sh kc ks pc ls (.ref a :: .int i :: .ref q :: st) I L R := by
  obtain ⟨hd, rfl⟩ := hd
  intro C hz H locs la hW hS hl
  have hty : (zTy E)[tag]? = some (eY E (tag + 1), .object (Cn, T, N).1) := by rcases htag with ⟨rfl, rfl⟩ | ⟨rfl, rfl⟩ <;> rfl
  have hze : ∀ R', ze E I L R' q (tag + 1, n) = .inl (eY E (tag + 1), n, .inr (.inr (.inr (.inr (fun j => (R' q j).map (zad E)))))) := by
    intro R'
    rcases htag with ⟨rfl, rfl⟩ | ⟨rfl, rfl⟩ <;> rfl
  refine va_astq (D := eD E) (cl := vwCl) (tys := zTy E) (f := fun j => (R q j).map (zad E)) C.1 C.2.1 C.2.2.2.2.2.2.2.2.1.1 hW.2 (zw_D E Sh I L R) hS q tag a ci (zA_at hs hq (hze R)) hty (v := zad E a) (zA_at hsa ha rfl) hc hx.inn hd (fun H1 locs1 hP1 _ hS1 => k C hz H1 locs1 la ⟨hW.1, ?_⟩ hS1 hl)
  rw [zad_lt hq, hx.2.1, zw_set (I' := I) (L' := L) (R' := zr R q j (some a)) hs (fun _ _ => rfl) (fun _ _ => rfl) (fun p h => zr_ne h) (show _ = ze E I L (zr R q j (some a)) q (tag + 1, n) from by
    rw [hze, zr_eq]
    congr 7
    funext y
    by_cases hy : y = j <;> simp [va_up, hy])] at hP1
  exact hP1
theorem z_objInit {idx q : Nat} (hd : zD md pc (.invokespecial idx) 3 pc') (hlk : Cond.methodLink md.1.cls idx objectInit ∈ lw_g) (hin : Cond.instanceMethod objectInit ∈ lw_g) (hco : Cond.code objectInit ⟨#[0xb1]⟩ 1 none ∈ lw_g) (hf : 1 ≤ (zrm md).frames) (hlo : zcat st + 12 ≤ (zrm md).locals) (k : zZ E md X Qs Sh kc ks pc' ls st I L R) : zZ E md X Qs Sh kc ks pc ls (.ref q :: st) I L R := by
  obtain ⟨hd, rfl⟩ := hd
  intro C hz H locs la hW hS hl
  exact W.objInit C.1 C.2.1 C.2.2.2.1 (C.2.2.2.2.1 _ hlk) (C.2.2.2.2.1 _ hin) (C.2.2.2.2.1 _ hco) rfl (by rw [C.2.2.1]; exact hl.2.1) rfl hd hf (by
    show 2 * 0 + ((st.map (ztr E)).map fun v => v.category).sum + 12 ≤ _
    rw [zcat_map]; omega) (k C hz H locs la hW hS hl)
def zMa (md : zMD) (idx : Nat) (y : MethodName) (cc : ByteArray) (n : Nat) : Prop := Cond.methodLink md.1.cls idx y ∈ lw_g ∧ Cond.static y ∈ lw_g ∧ Cond.initialized "java/lang/Math" ∈ lw_g ∧ Cond.code y cc n (some .int) ∈ lw_g
theorem z_mmax {idx : Nat} {x y : Int32} (hd : zD md pc (.invokestatic idx) 3 pc') (hm : zMa md idx Lib.Math.max.name Lib.Math.max.code 2) (hf : 1 ≤ (zrm md).frames) (hlo : zcat st + 13 ≤ (zrm md).locals) (hc : kc ≤ (zrm md).cells ∧ ks ≤ (zrm md).slots) (k : zZ E md X Qs Sh kc ks pc' ls (.int (if x < y then y else x) :: st) I L R) : zZ E md X Qs Sh kc ks pc ls (.int y :: .int x :: st) I L R := by
  obtain ⟨hd, rfl⟩ := hd
  intro C hz H locs la hW hS hl
  exact va_mmax C.1 C.2.1 (C.2.2.1.trans hl.2.1.symm) C.2.2.2.1 (C.2.2.2.2.1 _ hm.1) (C.2.2.2.2.1 _ hm.2.1) (C.2.2.2.2.1 _ hm.2.2.1) (C.2.2.2.2.1 _ hm.2.2.2) hf (by rw [zcat_map]; exact hlo) hc.1 hc.2 hd (k C hz H locs la hW hS hl)
theorem z_mmin {idx : Nat} {x y : Int32} (hd : zD md pc (.invokestatic idx) 3 pc') (hm : zMa md idx Lib.Math.min.name Lib.Math.min.code 2) (hf : 1 ≤ (zrm md).frames) (hlo : zcat st + 13 ≤ (zrm md).locals) (hc : kc ≤ (zrm md).cells ∧ ks ≤ (zrm md).slots) (k : zZ E md X Qs Sh kc ks pc' ls (.int (if y < x then y else x) :: st) I L R) : zZ E md X Qs Sh kc ks pc ls (.int y :: .int x :: st) I L R := by
  obtain ⟨hd, rfl⟩ := hd
  intro C hz H locs la hW hS hl
  exact va_mmin C.1 C.2.1 (C.2.2.1.trans hl.2.1.symm) C.2.2.2.1 (C.2.2.2.2.1 _ hm.1) (C.2.2.2.2.1 _ hm.2.1) (C.2.2.2.2.1 _ hm.2.2.1) (C.2.2.2.2.1 _ hm.2.2.2) hf (by rw [zcat_map]; exact hlo) hc.1 hc.2 hd (k C hz H locs la hW hS hl)
theorem z_mabs {idx : Nat} {x : Int32} (hd : zD md pc (.invokestatic idx) 3 pc') (hm : zMa md idx Lib.Math.abs.name Lib.Math.abs.code 1) (hf : 1 ≤ (zrm md).frames) (hlo : zcat st + 13 ≤ (zrm md).locals) (hc : kc ≤ (zrm md).cells ∧ ks ≤ (zrm md).slots) (k : zZ E md X Qs Sh kc ks pc' ls (.int (if 0 ≤ x then x else 0 - x) :: st) I L R) : zZ E md X Qs Sh kc ks pc ls (.int x :: st) I L R := by
  obtain ⟨hd, rfl⟩ := hd
  intro C hz H locs la hW hS hl
  exact va_mabs C.1 C.2.1 (C.2.2.1.trans hl.2.1.symm) C.2.2.2.1 (C.2.2.2.2.1 _ hm.1) (C.2.2.2.2.1 _ hm.2.1) (C.2.2.2.2.1 _ hm.2.2.1) (C.2.2.2.2.1 _ hm.2.2.2) hf (by rw [zcat_map]; exact hlo) hc.1 hc.2 hd (k C hz H locs la hW hS hl)
def zcp {α : Type} (f g : Nat → α) (n : Nat) : Nat → α := fun k => if k < n then f k else g k
theorem zcp_of {α : Type} (f g : Nat → α) (n : Nat) : va_cpy f g 0 0 n = zcp f g n := by
  funext k
  simp [va_cpy, zcp]
def zAc (md : zMD) (idx : Nat) : Prop := Cond.methodLink md.1.cls idx arraycopyName ∈ lw_g
theorem z_copy {idx q0 q1 n0 n1 N : Nat} {n : Int32} (hd : zD md pc (.invokestatic idx) 3 pc') (hm : zAc md idx) (hs0 : Sh[q0]? = some (2, n0)) (hq0 : q0 < 1000000) (hs1 : Sh[q1]? = some (2, n1)) (hq1 : q1 < 1000000) (hn : ¬ n < 0) (hN : n.toNatClampNeg = N) (h0 : N ≤ n0) (h1 : N ≤ n1) (hf : 1 ≤ (zrm md).frames) (hlo : zcat st + 18 ≤ (zrm md).locals) (k : zZ E md X Qs Sh kc ks pc' ls st (va_up I q1 (zcp (I q0) (I q1) N)) L R) : zZ E md X Qs Sh kc ks pc ls (.int n :: .int 0 :: .ref q1 :: .int 0 :: .ref q0 :: st) I L R := by
  obtain ⟨hd, rfl⟩ := hd
  subst hN
  intro C hz H locs la hW hS hl
  have z0 : (0 : Int32).toNatClampNeg = 0 := by decide
  refine va_copyi (D := eD E) (cl := vwCl) (tys := zTy E) (f := I q0) (g := I q1) (ty := .int) C.1 C.2.1 (C.2.2.1.trans hl.2.1.symm) C.2.2.2.1 (C.2.2.2.2.1 _ hm) (C.2.2.2.2.1 _ (in_g (up_2 (List.mem_of_getElem? (i := 212) rfl)) rfl)) (C.2.2.2.2.1 _ (in_g (up_2 (List.mem_of_getElem? (i := 211) rfl)) rfl)) (C.2.2.2.2.1 _ (in_g (up_1 (List.mem_of_getElem? (i := 15) rfl)) rfl)) C.2.2.2.2.2.2.2.2.1.1 hW.2 (zw_D E Sh I L R) hS q0 q1 1 1 (zA_at hs0 hq0 rfl) (zA_at hs1 hq1 rfl) rfl rfl rfl (by decide) (by decide) hn (by rw [z0]; omega) (by rw [z0]; omega) (fun _ _ => rfl) hf (by rw [zcat_map]; exact hlo) hd (fun H1 locs1 hP1 _ hS1 => k C hz H1 locs1 la ⟨hW.1, ?_⟩ hS1 hl)
  rw [zad_lt hq1, z0, zcp_of, zw_set (I' := va_up I q1 (zcp (I q0) (I q1) n.toNatClampNeg)) (L' := L) (R' := R) hs1 (fun p h => va_up_ne _ _ h) (fun _ _ => rfl) (fun _ _ => rfl) (show _ = ze E (va_up I q1 (zcp (I q0) (I q1) n.toNatClampNeg)) L R q1 (2, n1) from by
    show Sum.inl (eY E 2, n1, Sum.inl _) = Sum.inl (eY E 2, n1, Sum.inl _)
    simp [va_up])] at hP1
  exact hP1
/-- a contract that says all: the answer, the world behind it (nothing is made) -/
def zCf (E : zE) (md : zMD) (Sh : zSh) (args : List Value) (I : zI) (L : zL) (R : zR) (rv : Option Value) (I' : zI) (L' : zL) (R' : zR) : Prop := zCt E md Sh args I L R (fun r Sh1 I1 L1 R1 => r = rv ∧ Sh1 = Sh ∧ I1 = I' ∧ L1 = L' ∧ R1 = R')
theorem z_cVv {idx q n ci : Nat} {mdc : zMD} {As stk : List Value} {I' : zI} {L' : zL} {R' : zR} (hd : zD md pc (.invokevirtual idx) 3 pc') (hc : zCv md idx mdc ci n) (hs : Sh[q]? = some (0, ci)) (hq : q < 1000000) (h0 : zmc mdc = 0 ∧ zms mdc = 0) (hct : zCf E mdc Sh (.ref q :: As) I L R none I' L' R') (hst : stk = As.reverse ++ .ref q :: st) (hn : As.length = n) (hw : Nat.ble (zcat st) 8 = true) (hroom : kc ≤ (zrm md).cells ∧ ks ≤ (zrm md).slots)
    (k : zZ E md X Qs Sh kc ks pc' ls st I' L' R') : zZ E md X Qs Sh kc ks pc ls stk I L R :=
  z_callV hd hc hs hq hct hst hn hw (by rw [h0.1, h0.2]; exact hroom) (fun r Sh1 I1 L1 R1 h => by obtain ⟨rfl, rfl, rfl, rfl, rfl⟩ := h; rw [h0.1, h0.2]; exact k)
theorem z_cVi {idx q n ci : Nat} {mdc : zMD} {As stk : List Value} {I' : zI} {L' : zL} {R' : zR} {x : Int32} (hd : zD md pc (.invokevirtual idx) 3 pc') (hc : zCv md idx mdc ci n) (hs : Sh[q]? = some (0, ci)) (hq : q < 1000000) (h0 : zmc mdc = 0 ∧ zms mdc = 0) (hct : zCf E mdc Sh (.ref q :: As) I L R (some (.int x)) I' L' R') (hst : stk = As.reverse ++ .ref q :: st) (hn : As.length = n) (hw : Nat.ble (zcat st) 8 = true) (hroom : kc ≤ (zrm md).cells ∧ ks ≤ (zrm md).slots)
    (k : zZ E md X Qs Sh kc ks pc' ls (.int x :: st) I' L' R') : zZ E md X Qs Sh kc ks pc ls stk I L R :=
  z_callV hd hc hs hq hct hst hn hw (by rw [h0.1, h0.2]; exact hroom) (fun r Sh1 I1 L1 R1 h => by obtain ⟨rfl, rfl, rfl, rfl, rfl⟩ := h; rw [h0.1, h0.2]; exact k)
theorem z_cVl {idx q n ci : Nat} {mdc : zMD} {As stk : List Value} {I' : zI} {L' : zL} {R' : zR} {x : Int64} (hd : zD md pc (.invokevirtual idx) 3 pc') (hc : zCv md idx mdc ci n) (hs : Sh[q]? = some (0, ci)) (hq : q < 1000000) (h0 : zmc mdc = 0 ∧ zms mdc = 0) (hct : zCf E mdc Sh (.ref q :: As) I L R (some (.long x)) I' L' R') (hst : stk = As.reverse ++ .ref q :: st) (hn : As.length = n) (hw : Nat.ble (zcat st) 8 = true) (hroom : kc ≤ (zrm md).cells ∧ ks ≤ (zrm md).slots)
    (k : zZ E md X Qs Sh kc ks pc' ls (.long x :: st) I' L' R') : zZ E md X Qs Sh kc ks pc ls stk I L R :=
  z_callV hd hc hs hq hct hst hn hw (by rw [h0.1, h0.2]; exact hroom) (fun r Sh1 I1 L1 R1 h => by obtain ⟨rfl, rfl, rfl, rfl, rfl⟩ := h; rw [h0.1, h0.2]; exact k)
theorem z_cVr {idx q n ci : Nat} {mdc : zMD} {As stk : List Value} {I' : zI} {L' : zL} {R' : zR} {x : Nat} (hd : zD md pc (.invokevirtual idx) 3 pc') (hc : zCv md idx mdc ci n) (hs : Sh[q]? = some (0, ci)) (hq : q < 1000000) (h0 : zmc mdc = 0 ∧ zms mdc = 0) (hct : zCf E mdc Sh (.ref q :: As) I L R (some (.ref x)) I' L' R') (hst : stk = As.reverse ++ .ref q :: st) (hn : As.length = n) (hw : Nat.ble (zcat st) 8 = true) (hroom : kc ≤ (zrm md).cells ∧ ks ≤ (zrm md).slots)
    (k : zZ E md X Qs Sh kc ks pc' ls (.ref x :: st) I' L' R') : zZ E md X Qs Sh kc ks pc ls stk I L R :=
  z_callV hd hc hs hq hct hst hn hw (by rw [h0.1, h0.2]; exact hroom) (fun r Sh1 I1 L1 R1 h => by obtain ⟨rfl, rfl, rfl, rfl, rfl⟩ := h; rw [h0.1, h0.2]; exact k)
theorem z_cSv {idx n : Nat} {mdc : zMD} {As stk : List Value} {I' : zI} {L' : zL} {R' : zR} (hd : zD md pc (.invokestatic idx) 3 pc') (hc : zCs md idx mdc n) (h0 : zmc mdc = 0 ∧ zms mdc = 0) (hct : zCf E mdc Sh As I L R none I' L' R') (hst : stk = As.reverse ++ st) (hn : As.length = n) (hw : Nat.ble (zcat st) 8 = true) (hroom : kc ≤ (zrm md).cells ∧ ks ≤ (zrm md).slots)
    (k : zZ E md X Qs Sh kc ks pc' ls st I' L' R') : zZ E md X Qs Sh kc ks pc ls stk I L R :=
  z_callS hd hc hct hst hn hw (by rw [h0.1, h0.2]; exact hroom) (fun r Sh1 I1 L1 R1 h => by obtain ⟨rfl, rfl, rfl, rfl, rfl⟩ := h; rw [h0.1, h0.2]; exact k)
theorem z_cSi {idx n : Nat} {mdc : zMD} {As stk : List Value} {I' : zI} {L' : zL} {R' : zR} {x : Int32} (hd : zD md pc (.invokestatic idx) 3 pc') (hc : zCs md idx mdc n) (h0 : zmc mdc = 0 ∧ zms mdc = 0) (hct : zCf E mdc Sh As I L R (some (.int x)) I' L' R') (hst : stk = As.reverse ++ st) (hn : As.length = n) (hw : Nat.ble (zcat st) 8 = true) (hroom : kc ≤ (zrm md).cells ∧ ks ≤ (zrm md).slots)
    (k : zZ E md X Qs Sh kc ks pc' ls (.int x :: st) I' L' R') : zZ E md X Qs Sh kc ks pc ls stk I L R :=
  z_callS hd hc hct hst hn hw (by rw [h0.1, h0.2]; exact hroom) (fun r Sh1 I1 L1 R1 h => by obtain ⟨rfl, rfl, rfl, rfl, rfl⟩ := h; rw [h0.1, h0.2]; exact k)
theorem z_cSl {idx n : Nat} {mdc : zMD} {As stk : List Value} {I' : zI} {L' : zL} {R' : zR} {x : Int64} (hd : zD md pc (.invokestatic idx) 3 pc') (hc : zCs md idx mdc n) (h0 : zmc mdc = 0 ∧ zms mdc = 0) (hct : zCf E mdc Sh As I L R (some (.long x)) I' L' R') (hst : stk = As.reverse ++ st) (hn : As.length = n) (hw : Nat.ble (zcat st) 8 = true) (hroom : kc ≤ (zrm md).cells ∧ ks ≤ (zrm md).slots)
    (k : zZ E md X Qs Sh kc ks pc' ls (.long x :: st) I' L' R') : zZ E md X Qs Sh kc ks pc ls stk I L R :=
  z_callS hd hc hct hst hn hw (by rw [h0.1, h0.2]; exact hroom) (fun r Sh1 I1 L1 R1 h => by obtain ⟨rfl, rfl, rfl, rfl, rfl⟩ := h; rw [h0.1, h0.2]; exact k)
theorem z_cSr {idx n : Nat} {mdc : zMD} {As stk : List Value} {I' : zI} {L' : zL} {R' : zR} {x : Nat} (hd : zD md pc (.invokestatic idx) 3 pc') (hc : zCs md idx mdc n) (h0 : zmc mdc = 0 ∧ zms mdc = 0) (hct : zCf E mdc Sh As I L R (some (.ref x)) I' L' R') (hst : stk = As.reverse ++ st) (hn : As.length = n) (hw : Nat.ble (zcat st) 8 = true) (hroom : kc ≤ (zrm md).cells ∧ ks ≤ (zrm md).slots)
    (k : zZ E md X Qs Sh kc ks pc' ls (.ref x :: st) I' L' R') : zZ E md X Qs Sh kc ks pc ls stk I L R :=
  z_callS hd hc hct hst hn hw (by rw [h0.1, h0.2]; exact hroom) (fun r Sh1 I1 L1 R1 h => by obtain ⟨rfl, rfl, rfl, rfl, rfl⟩ := h; rw [h0.1, h0.2]; exact k)
theorem z_cSNv {idx n : Nat} {mdc : zMD} {host : String} {As stk : List Value} {I' : zI} {L' : zL} {R' : zR} (hd : zD md pc (.invokestatic idx) 3 pc') (hc : zCsn md idx mdc n host) (h0 : zmc mdc = 0 ∧ zms mdc = 0) (hct : zCf E mdc Sh As I L R none I' L' R') (hst : stk = As.reverse ++ st) (hn : As.length = n) (hw : Nat.ble (zcat st) 8 = true) (hroom : kc ≤ (zrm md).cells ∧ ks ≤ (zrm md).slots)
    (k : zZ E md X Qs Sh kc ks pc' ls st I' L' R') : zZ E md X Qs Sh kc ks pc ls stk I L R :=
  z_callSN hd hc hct hst hn hw (by rw [h0.1, h0.2]; exact hroom) (fun r Sh1 I1 L1 R1 h => by obtain ⟨rfl, rfl, rfl, rfl, rfl⟩ := h; rw [h0.1, h0.2]; exact k)
theorem z_cSNi {idx n : Nat} {mdc : zMD} {host : String} {As stk : List Value} {I' : zI} {L' : zL} {R' : zR} {x : Int32} (hd : zD md pc (.invokestatic idx) 3 pc') (hc : zCsn md idx mdc n host) (h0 : zmc mdc = 0 ∧ zms mdc = 0) (hct : zCf E mdc Sh As I L R (some (.int x)) I' L' R') (hst : stk = As.reverse ++ st) (hn : As.length = n) (hw : Nat.ble (zcat st) 8 = true) (hroom : kc ≤ (zrm md).cells ∧ ks ≤ (zrm md).slots)
    (k : zZ E md X Qs Sh kc ks pc' ls (.int x :: st) I' L' R') : zZ E md X Qs Sh kc ks pc ls stk I L R :=
  z_callSN hd hc hct hst hn hw (by rw [h0.1, h0.2]; exact hroom) (fun r Sh1 I1 L1 R1 h => by obtain ⟨rfl, rfl, rfl, rfl, rfl⟩ := h; rw [h0.1, h0.2]; exact k)
theorem z_cSNl {idx n : Nat} {mdc : zMD} {host : String} {As stk : List Value} {I' : zI} {L' : zL} {R' : zR} {x : Int64} (hd : zD md pc (.invokestatic idx) 3 pc') (hc : zCsn md idx mdc n host) (h0 : zmc mdc = 0 ∧ zms mdc = 0) (hct : zCf E mdc Sh As I L R (some (.long x)) I' L' R') (hst : stk = As.reverse ++ st) (hn : As.length = n) (hw : Nat.ble (zcat st) 8 = true) (hroom : kc ≤ (zrm md).cells ∧ ks ≤ (zrm md).slots)
    (k : zZ E md X Qs Sh kc ks pc' ls (.long x :: st) I' L' R') : zZ E md X Qs Sh kc ks pc ls stk I L R :=
  z_callSN hd hc hct hst hn hw (by rw [h0.1, h0.2]; exact hroom) (fun r Sh1 I1 L1 R1 h => by obtain ⟨rfl, rfl, rfl, rfl, rfl⟩ := h; rw [h0.1, h0.2]; exact k)
theorem z_cSNr {idx n : Nat} {mdc : zMD} {host : String} {As stk : List Value} {I' : zI} {L' : zL} {R' : zR} {x : Nat} (hd : zD md pc (.invokestatic idx) 3 pc') (hc : zCsn md idx mdc n host) (h0 : zmc mdc = 0 ∧ zms mdc = 0) (hct : zCf E mdc Sh As I L R (some (.ref x)) I' L' R') (hst : stk = As.reverse ++ st) (hn : As.length = n) (hw : Nat.ble (zcat st) 8 = true) (hroom : kc ≤ (zrm md).cells ∧ ks ≤ (zrm md).slots)
    (k : zZ E md X Qs Sh kc ks pc' ls (.ref x :: st) I' L' R') : zZ E md X Qs Sh kc ks pc ls stk I L R :=
  z_callSN hd hc hct hst hn hw (by rw [h0.1, h0.2]; exact hroom) (fun r Sh1 I1 L1 R1 h => by obtain ⟨rfl, rfl, rfl, rfl, rfl⟩ := h; rw [h0.1, h0.2]; exact k)
end ZMADE
