/-! THE LITTLE MACHINE, ITS STEPS: zZ at an instruction out of zZ at the next -/
abbrev zcc (md : zMD) : ByteArray := md.2.1
abbrev zmL (md : zMD) : Nat := md.2.2.1
abbrev zret (md : zMD) : Option FieldType := md.2.2.2.1
abbrev zrm (md : zMD) : Room := md.2.2.2.2.1
abbrev zmc (md : zMD) : Nat := md.2.2.2.2.2.1
abbrev zms (md : zMD) : Nat := md.2.2.2.2.2.2
abbrev xP (X : zX) : Program := X.1
abbrev xE (X : zX) : Env := X.2.1
abbrev xS (X : zX) : State := X.2.2.1
abbrev xM (X : zX) : MethodId := X.2.2.2.1
abbrev xA (X : zX) : Array Value := X.2.2.2.2.1
abbrev xB (X : zX) : List Frame := X.2.2.2.2.2.1
abbrev xT (X : zX) : Method := X.2.2.2.2.2.2.1
abbrev xC (X : zX) : Code := X.2.2.2.2.2.2.2
def zCtx (E : zE) (md : zMD) (X : zX) : Prop := (xP X).tables.exec = Jvm.exec ∧ (xC X).code = zcc md ∧ (xC X).maxLocals = zmL md ∧ (xS X).vm.findClass md.1.cls = some (xM X).cls ∧ (∀ w ∈ lw_g, w.before (xA X) (xS X) = true) ∧ (xT X).sig.returnType = zret md ∧ (xT X).locks = false ∧ (xT X).name = md.1.name ∧ zKK E (xS X) ∧ zFo E (xS X) (xS X).heap ∧ eB E ≤ (xS X).heap.size
/-- from the frame at pc with these locals, this operand stack, this world, the machine comes to Qs -/
def zZ (E : zE) (md : zMD) (X : zX) (Qs : State → Prop) (Sh : zSh) (kc ks pc : Nat) (ls : List (Option Value)) (st : List Value) (I : zI) (L : zL) (R : zR) : Prop :=
  zCtx E md X → (xS X).heap.size + kc = eB E + Sh.length → ∀ (H : Heap) (locs : List Loc) (la : Array Slot), zWd E Sh I L R H → va_S (zA E) (xS X).heap H locs → zl E la (zmL md) ls →
    W (xP X) (eL E) (xE X) (zrm md) (xS X) (xM X) (xA X) (xB X) (xT X) (xC X) H locs kc ks Qs (F0 (xM X) pc la (st.map (ztr E)))
def zD (md : zMD) (pc : Nat) (i : Instr) (len pc' : Nat) : Prop := decode (zcc md) pc = .ok (i, len) ∧ pc' = pc + len
def zDj (md : zMD) (pc : Nat) (i : Int → Instr) (pc' tgt : Nat) : Prop := ∃ off : Int, decode (zcc md) pc = .ok (i off, 3) ∧ pc' = pc + 3 ∧ (pc : Int) + off = (tgt : Int)
/-- an int that is the place j in a row of n -/
def zix (i : Int32) (n j : Nat) : Prop := j < n ∧ i.toNatClampNeg = j ∧ ¬ i < 0
theorem zix.inn {i : Int32} {n j : Nat} (h : zix i n j) : vp_in i n := fun q => q.elim h.2.2 (fun q => by rw [h.2.1] at q; exact absurd h.1 (Nat.not_lt.mpr q))
theorem zix_of {i : Int32} {n : Nat} (h : vp_in i n) : zix i n i.toNatClampNeg := ⟨Nat.not_le.mp (fun q => h (Or.inr q)), rfl, fun q => h (Or.inl q)⟩
theorem zix_nI {n j : Nat} (h : j < n) (hn : n < 2 ^ 31) : zix (nI j) n j := ⟨h, nI_clamp (Nat.lt_trans h hn), nI_pos (Nat.lt_trans h hn)⟩
/-- one place of the ints, longs, references -/
def zi (I : zI) (k j : Nat) (x : Int32) : zI := va_up I k (va_up (I k) j x)
def zj (L : zL) (k j : Nat) (x : Int64) : zL := va_up L k (va_up (L k) j x)
def zr (R : zR) (k j : Nat) (x : Option Nat) : zR := va_up R k (va_up (R k) j x)
theorem ze_congr {E : zE} {I I' : zI} {L L' : zL} {R R' : zR} {k : Nat} {t : Nat × Nat} (h1 : I' k = I k) (h2 : L' k = L k) (h3 : R' k = R k) : ze E I' L' R' k t = ze E I L R k t := by
  have hf : ∀ j q, zfv E I' L' R' k j q = zfv E I L R k j q := by
    intro j q
    unfold zfv
    split <;> simp [h1, h2, h3]
  have hs : ∀ ci, zfs E I' L' R' k ci = zfs E I L R k ci := by
    intro ci
    unfold zfs
    simp [hf]
  unfold ze
  split <;> simp [h1, h2, h3, hs]
theorem zw_set {E : zE} {Sh : zSh} {I I' : zI} {L L' : zL} {R R' : zR} {k : Nat} {t : Nat × Nat} {e : va_E} (h : Sh[k]? = some t) (h1 : ∀ q, q ≠ k → I' q = I q) (h2 : ∀ q, q ≠ k → L' q = L q) (h3 : ∀ q, q ≠ k → R' q = R q) (he : e = ze E I' L' R' k t) :
    (zw E Sh I L R).set k (eB E + k, e) = zw E Sh I' L' R' := by
  subst he
  apply List.ext_getElem?
  intro i
  by_cases hi : i = k
  · subst hi
    rw [List.getElem?_set_self', zw_at h, zw_at h]
    rfl
  · rw [List.getElem?_set_ne (fun z => hi z.symm)]
    simp only [zw, List.getElem?_mapIdx]
    cases Sh[i]? with
    | none => rfl
    | some q => simp [ze_congr (h1 i hi) (h2 i hi) (h3 i hi)]
theorem zi_ne {I : zI} {k j q : Nat} {x : Int32} (h : q ≠ k) : zi I k j x q = I q := if_neg h
theorem zj_ne {I : zL} {k j q : Nat} {x : Int64} (h : q ≠ k) : zj I k j x q = I q := if_neg h
theorem zr_ne {I : zR} {k j q : Nat} {x : Option Nat} (h : q ≠ k) : zr I k j x q = I q := if_neg h
theorem zi_eq {I : zI} {k j : Nat} {x : Int32} : zi I k j x k = va_up (I k) j x := if_pos rfl
theorem zj_eq {I : zL} {k j : Nat} {x : Int64} : zj I k j x k = va_up (I k) j x := if_pos rfl
theorem zr_eq {I : zR} {k j : Nat} {x : Option Nat} : zr I k j x k = va_up (I k) j x := if_pos rfl
theorem zfs_at {E : zE} {I : zI} {L : zL} {R : zR} {k ci j t : Nat} (h : (zft ci)[j]? = some t) : (zfs E I L R k ci)[j]? = some (zfv E I L R k j t) := by simp [zfs, List.getElem?_mapIdx, h]
theorem zfs_set {E : zE} {I I' : zI} {L L' : zL} {R R' : zR} {k ci j t : Nat} {v : Value} (h : (zft ci)[j]? = some t) (hv : v = zfv E I' L' R' k j t) (ho : ∀ j' t', j' ≠ j → zfv E I' L' R' k j' t' = zfv E I L R k j' t') : (zfs E I L R k ci).set j v = zfs E I' L' R' k ci := by
  subst hv
  apply List.ext_getElem?
  intro i
  by_cases hi : i = j
  · subst hi
    rw [List.getElem?_set_self', zfs_at h, zfs_at h]
    rfl
  · rw [List.getElem?_set_ne (fun z => hi z.symm)]
    simp only [zfs, List.getElem?_mapIdx]
    cases (zft ci)[i]? with
    | none => rfl
    | some q => simp [ho i q hi]
theorem zfs_len {E : zE} {I : zI} {L : zL} {R : zR} {k ci : Nat} : (zfs E I L R k ci).length = (zft ci).length := by simp [zfs]
section ZROWS
variable {E : zE} {md : zMD} {X : zX} {Qs : State → Prop} {Sh : zSh} {kc ks pc pc' : Nat} {ls : List (Option Value)} {st : List Value} {I : zI} {L : zL} {R : zR}
theorem z_iconst {n : Int} {v : Int32} (hd : zD md pc (.iconst n) 1 pc') (hv : Int32.ofInt n = v) (k : zZ E md X Qs Sh kc ks pc' ls (.int v :: st) I L R) : zZ E md X Qs Sh kc ks pc ls st I L R := by
  obtain ⟨hd, rfl⟩ := hd
  intro C hz H locs la hW hS hl
  exact lv_iconst C.1 C.2.1 hd hv (k C hz H locs la hW hS hl)
theorem z_bipush {n : Int} {v : Int32} (hd : zD md pc (.bipush n) 2 pc') (hv : (Int8.ofInt n).toInt32 = v) (k : zZ E md X Qs Sh kc ks pc' ls (.int v :: st) I L R) : zZ E md X Qs Sh kc ks pc ls st I L R := by
  obtain ⟨hd, rfl⟩ := hd
  intro C hz H locs la hW hS hl
  exact lv_bipush C.1 C.2.1 hd hv (k C hz H locs la hW hS hl)
theorem z_sipush {n : Int} {v : Int32} (hd : zD md pc (.sipush n) 3 pc') (hv : (Int16.ofInt n).toInt32 = v) (k : zZ E md X Qs Sh kc ks pc' ls (.int v :: st) I L R) : zZ E md X Qs Sh kc ks pc ls st I L R := by
  obtain ⟨hd, rfl⟩ := hd
  intro C hz H locs la hW hS hl
  exact lv_sipush C.1 C.2.1 hd hv (k C hz H locs la hW hS hl)
theorem z_lconst {n : Fin 2} {v : Int64} (hd : zD md pc (.lconst n) 1 pc') (hv : Int64.ofNat (n : Nat) = v) (k : zZ E md X Qs Sh kc ks pc' ls (.long v :: st) I L R) : zZ E md X Qs Sh kc ks pc ls st I L R := by
  obtain ⟨hd, rfl⟩ := hd
  intro C hz H locs la hW hS hl
  exact lv_lconst C.1 C.2.1 hd hv (k C hz H locs la hW hS hl)
theorem z_iload_n {n : Fin 4} {x : Int32} (hd : zD md pc (.iload_n n) 1 pc') (hx : ls[(n : Nat)]? = some (some (.int x))) (k : zZ E md X Qs Sh kc ks pc' ls (.int x :: st) I L R) : zZ E md X Qs Sh kc ks pc ls st I L R := by
  obtain ⟨hd, rfl⟩ := hd
  intro C hz H locs la hW hS hl
  exact lv_iload_n C.1 C.2.1 hd rfl (zl_at hl hx) (k C hz H locs la hW hS hl)
theorem z_iload {n : Nat} {x : Int32} (hd : zD md pc (.iload n) 2 pc') (hx : ls[n]? = some (some (.int x))) (k : zZ E md X Qs Sh kc ks pc' ls (.int x :: st) I L R) : zZ E md X Qs Sh kc ks pc ls st I L R := by
  obtain ⟨hd, rfl⟩ := hd
  intro C hz H locs la hW hS hl
  exact lv_iload C.1 C.2.1 hd (zl_at hl hx) (k C hz H locs la hW hS hl)
theorem z_lload_n {n : Fin 4} {x : Int64} (hd : zD md pc (.lload_n n) 1 pc') (hx : ls[(n : Nat)]? = some (some (.long x))) (k : zZ E md X Qs Sh kc ks pc' ls (.long x :: st) I L R) : zZ E md X Qs Sh kc ks pc ls st I L R := by
  obtain ⟨hd, rfl⟩ := hd
  intro C hz H locs la hW hS hl
  exact lv_lload_n C.1 C.2.1 hd rfl (zl_at hl hx) (k C hz H locs la hW hS hl)
theorem z_lload {n : Nat} {x : Int64} (hd : zD md pc (.lload n) 2 pc') (hx : ls[n]? = some (some (.long x))) (k : zZ E md X Qs Sh kc ks pc' ls (.long x :: st) I L R) : zZ E md X Qs Sh kc ks pc ls st I L R := by
  obtain ⟨hd, rfl⟩ := hd
  intro C hz H locs la hW hS hl
  exact lv_lload C.1 C.2.1 hd (zl_at hl hx) (k C hz H locs la hW hS hl)
theorem z_aload_n {n : Fin 4} {x : Nat} (hd : zD md pc (.aload_n n) 1 pc') (hx : ls[(n : Nat)]? = some (some (.ref x))) (k : zZ E md X Qs Sh kc ks pc' ls (.ref x :: st) I L R) : zZ E md X Qs Sh kc ks pc ls st I L R := by
  obtain ⟨hd, rfl⟩ := hd
  intro C hz H locs la hW hS hl
  exact lv_aload_n C.1 C.2.1 hd rfl (zl_at hl hx) (k C hz H locs la hW hS hl)
theorem z_aload {n : Nat} {x : Nat} (hd : zD md pc (.aload n) 2 pc') (hx : ls[n]? = some (some (.ref x))) (k : zZ E md X Qs Sh kc ks pc' ls (.ref x :: st) I L R) : zZ E md X Qs Sh kc ks pc ls st I L R := by
  obtain ⟨hd, rfl⟩ := hd
  intro C hz H locs la hW hS hl
  exact lv_aload C.1 C.2.1 hd (zl_at hl hx) (k C hz H locs la hW hS hl)
theorem z_istore_n {n : Fin 4} {x : Int32} (hd : zD md pc (.istore_n n) 1 pc') (hn : (n : Nat) < zmL md) (hp : ∀ j, (n : Nat) = j + 1 → zc1 (ls[j]?.getD none) = true) (k : zZ E md X Qs Sh kc ks pc' (ls.set (n : Nat) (some (.int x))) st I L R) : zZ E md X Qs Sh kc ks pc ls (.int x :: st) I L R := by
  obtain ⟨hd, rfl⟩ := hd
  intro C hz H locs la hW hS hl
  exact lv_istore_n C.1 C.2.1 hd rfl hl.2 hn rfl (fun la2 h2 => k C hz H locs la2 hW hS (zl_set1 (v := .int x) hl hp h2))
theorem z_istore {n : Nat} {x : Int32} (hd : zD md pc (.istore n) 2 pc') (hn : n < zmL md) (hp : ∀ j, n = j + 1 → zc1 (ls[j]?.getD none) = true) (k : zZ E md X Qs Sh kc ks pc' (ls.set n (some (.int x))) st I L R) : zZ E md X Qs Sh kc ks pc ls (.int x :: st) I L R := by
  obtain ⟨hd, rfl⟩ := hd
  intro C hz H locs la hW hS hl
  exact lv_istore C.1 C.2.1 hd hl.2 hn rfl (fun la2 h2 => k C hz H locs la2 hW hS (zl_set1 (v := .int x) hl hp h2))
theorem z_lstore_n {n : Fin 4} {x : Int64} (hd : zD md pc (.lstore_n n) 1 pc') (hn : (n : Nat) + 1 < zmL md) (hp : ∀ j, (n : Nat) = j + 1 → zc1 (ls[j]?.getD none) = true) (k : zZ E md X Qs Sh kc ks pc' ((ls.set (n : Nat) (some (.long x))).set ((n : Nat) + 1) none) st I L R) : zZ E md X Qs Sh kc ks pc ls (.long x :: st) I L R := by
  obtain ⟨hd, rfl⟩ := hd
  intro C hz H locs la hW hS hl
  exact lv_lstore_n C.1 C.2.1 hd rfl hl.2 hn rfl (fun la2 h2 => k C hz H locs la2 hW hS (zl_set2 (v := .long x) hl hp h2))
theorem z_lstore {n : Nat} {x : Int64} (hd : zD md pc (.lstore n) 2 pc') (hn : n + 1 < zmL md) (hp : ∀ j, n = j + 1 → zc1 (ls[j]?.getD none) = true) (k : zZ E md X Qs Sh kc ks pc' ((ls.set n (some (.long x))).set (n + 1) none) st I L R) : zZ E md X Qs Sh kc ks pc ls (.long x :: st) I L R := by
  obtain ⟨hd, rfl⟩ := hd
  intro C hz H locs la hW hS hl
  exact lv_lstore C.1 C.2.1 hd hl.2 hn rfl (fun la2 h2 => k C hz H locs la2 hW hS (zl_set2 (v := .long x) hl hp h2))
theorem z_astore_n {n : Fin 4} {x : Nat} (hd : zD md pc (.astore_n n) 1 pc') (hn : (n : Nat) < zmL md) (hp : ∀ j, (n : Nat) = j + 1 → zc1 (ls[j]?.getD none) = true) (k : zZ E md X Qs Sh kc ks pc' (ls.set (n : Nat) (some (.ref x))) st I L R) : zZ E md X Qs Sh kc ks pc ls (.ref x :: st) I L R := by
  obtain ⟨hd, rfl⟩ := hd
  intro C hz H locs la hW hS hl
  exact lv_astore_n C.1 C.2.1 hd rfl hl.2 hn rfl (fun la2 h2 => k C hz H locs la2 hW hS (zl_set1 (v := .ref x) hl hp h2))
theorem z_astore {n : Nat} {x : Nat} (hd : zD md pc (.astore n) 2 pc') (hn : n < zmL md) (hp : ∀ j, n = j + 1 → zc1 (ls[j]?.getD none) = true) (k : zZ E md X Qs Sh kc ks pc' (ls.set n (some (.ref x))) st I L R) : zZ E md X Qs Sh kc ks pc ls (.ref x :: st) I L R := by
  obtain ⟨hd, rfl⟩ := hd
  intro C hz H locs la hW hS hl
  exact lv_astore C.1 C.2.1 hd hl.2 hn rfl (fun la2 h2 => k C hz H locs la2 hW hS (zl_set1 (v := .ref x) hl hp h2))
theorem z_istore0 {o : Option Value} {t : List (Option Value)} {x : Int32} (hd : zD md pc (.istore_n 0) 1 pc') (k : zZ E md X Qs Sh kc ks pc' (some (.int x) :: t) st I L R) : zZ E md X Qs Sh kc ks pc (o :: t) (.int x :: st) I L R := by
  intro C hz H locs la hW hS hl
  have hn : 0 < zmL md := by have h := hl.1; simp at h; omega
  exact z_istore_n (n := 0) hd hn (fun j e => by cases e) k C hz H locs la hW hS hl
theorem z_istore1 {a0 o : Option Value} {t : List (Option Value)} {x : Int32} (hd : zD md pc (.istore_n 1) 1 pc') (hp : zc1 a0 = true) (k : zZ E md X Qs Sh kc ks pc' (a0 :: some (.int x) :: t) st I L R) : zZ E md X Qs Sh kc ks pc (a0 :: o :: t) (.int x :: st) I L R := by
  intro C hz H locs la hW hS hl
  have hn : 1 < zmL md := by have h := hl.1; simp at h; omega
  exact z_istore_n (n := 1) hd hn (fun j e => by cases e; exact hp) k C hz H locs la hW hS hl
theorem z_istore2 {a0 a1 o : Option Value} {t : List (Option Value)} {x : Int32} (hd : zD md pc (.istore_n 2) 1 pc') (hp : zc1 a1 = true) (k : zZ E md X Qs Sh kc ks pc' (a0 :: a1 :: some (.int x) :: t) st I L R) : zZ E md X Qs Sh kc ks pc (a0 :: a1 :: o :: t) (.int x :: st) I L R := by
  intro C hz H locs la hW hS hl
  have hn : 2 < zmL md := by have h := hl.1; simp at h; omega
  exact z_istore_n (n := 2) hd hn (fun j e => by cases e; exact hp) k C hz H locs la hW hS hl
theorem z_istore3 {a0 a1 a2 o : Option Value} {t : List (Option Value)} {x : Int32} (hd : zD md pc (.istore_n 3) 1 pc') (hp : zc1 a2 = true) (k : zZ E md X Qs Sh kc ks pc' (a0 :: a1 :: a2 :: some (.int x) :: t) st I L R) : zZ E md X Qs Sh kc ks pc (a0 :: a1 :: a2 :: o :: t) (.int x :: st) I L R := by
  intro C hz H locs la hW hS hl
  have hn : 3 < zmL md := by have h := hl.1; simp at h; omega
  exact z_istore_n (n := 3) hd hn (fun j e => by cases e; exact hp) k C hz H locs la hW hS hl
theorem z_istore4 {a0 a1 a2 a3 o : Option Value} {t : List (Option Value)} {x : Int32} (hd : zD md pc (.istore 4) 2 pc') (hp : zc1 a3 = true) (k : zZ E md X Qs Sh kc ks pc' (a0 :: a1 :: a2 :: a3 :: some (.int x) :: t) st I L R) : zZ E md X Qs Sh kc ks pc (a0 :: a1 :: a2 :: a3 :: o :: t) (.int x :: st) I L R := by
  intro C hz H locs la hW hS hl
  have hn : 4 < zmL md := by have h := hl.1; simp at h; omega
  exact z_istore (n := 4) hd hn (fun j e => by cases e; exact hp) k C hz H locs la hW hS hl
theorem z_istore5 {a0 a1 a2 a3 a4 o : Option Value} {t : List (Option Value)} {x : Int32} (hd : zD md pc (.istore 5) 2 pc') (hp : zc1 a4 = true) (k : zZ E md X Qs Sh kc ks pc' (a0 :: a1 :: a2 :: a3 :: a4 :: some (.int x) :: t) st I L R) : zZ E md X Qs Sh kc ks pc (a0 :: a1 :: a2 :: a3 :: a4 :: o :: t) (.int x :: st) I L R := by
  intro C hz H locs la hW hS hl
  have hn : 5 < zmL md := by have h := hl.1; simp at h; omega
  exact z_istore (n := 5) hd hn (fun j e => by cases e; exact hp) k C hz H locs la hW hS hl
theorem z_istore6 {a0 a1 a2 a3 a4 a5 o : Option Value} {t : List (Option Value)} {x : Int32} (hd : zD md pc (.istore 6) 2 pc') (hp : zc1 a5 = true) (k : zZ E md X Qs Sh kc ks pc' (a0 :: a1 :: a2 :: a3 :: a4 :: a5 :: some (.int x) :: t) st I L R) : zZ E md X Qs Sh kc ks pc (a0 :: a1 :: a2 :: a3 :: a4 :: a5 :: o :: t) (.int x :: st) I L R := by
  intro C hz H locs la hW hS hl
  have hn : 6 < zmL md := by have h := hl.1; simp at h; omega
  exact z_istore (n := 6) hd hn (fun j e => by cases e; exact hp) k C hz H locs la hW hS hl
theorem z_istore7 {a0 a1 a2 a3 a4 a5 a6 o : Option Value} {t : List (Option Value)} {x : Int32} (hd : zD md pc (.istore 7) 2 pc') (hp : zc1 a6 = true) (k : zZ E md X Qs Sh kc ks pc' (a0 :: a1 :: a2 :: a3 :: a4 :: a5 :: a6 :: some (.int x) :: t) st I L R) : zZ E md X Qs Sh kc ks pc (a0 :: a1 :: a2 :: a3 :: a4 :: a5 :: a6 :: o :: t) (.int x :: st) I L R := by
  intro C hz H locs la hW hS hl
  have hn : 7 < zmL md := by have h := hl.1; simp at h; omega
  exact z_istore (n := 7) hd hn (fun j e => by cases e; exact hp) k C hz H locs la hW hS hl
theorem z_istore8 {a0 a1 a2 a3 a4 a5 a6 a7 o : Option Value} {t : List (Option Value)} {x : Int32} (hd : zD md pc (.istore 8) 2 pc') (hp : zc1 a7 = true) (k : zZ E md X Qs Sh kc ks pc' (a0 :: a1 :: a2 :: a3 :: a4 :: a5 :: a6 :: a7 :: some (.int x) :: t) st I L R) : zZ E md X Qs Sh kc ks pc (a0 :: a1 :: a2 :: a3 :: a4 :: a5 :: a6 :: a7 :: o :: t) (.int x :: st) I L R := by
  intro C hz H locs la hW hS hl
  have hn : 8 < zmL md := by have h := hl.1; simp at h; omega
  exact z_istore (n := 8) hd hn (fun j e => by cases e; exact hp) k C hz H locs la hW hS hl
theorem z_istore9 {a0 a1 a2 a3 a4 a5 a6 a7 a8 o : Option Value} {t : List (Option Value)} {x : Int32} (hd : zD md pc (.istore 9) 2 pc') (hp : zc1 a8 = true) (k : zZ E md X Qs Sh kc ks pc' (a0 :: a1 :: a2 :: a3 :: a4 :: a5 :: a6 :: a7 :: a8 :: some (.int x) :: t) st I L R) : zZ E md X Qs Sh kc ks pc (a0 :: a1 :: a2 :: a3 :: a4 :: a5 :: a6 :: a7 :: a8 :: o :: t) (.int x :: st) I L R := by
  intro C hz H locs la hW hS hl
  have hn : 9 < zmL md := by have h := hl.1; simp at h; omega
  exact z_istore (n := 9) hd hn (fun j e => by cases e; exact hp) k C hz H locs la hW hS hl
theorem z_istore10 {a0 a1 a2 a3 a4 a5 a6 a7 a8 a9 o : Option Value} {t : List (Option Value)} {x : Int32} (hd : zD md pc (.istore 10) 2 pc') (hp : zc1 a9 = true) (k : zZ E md X Qs Sh kc ks pc' (a0 :: a1 :: a2 :: a3 :: a4 :: a5 :: a6 :: a7 :: a8 :: a9 :: some (.int x) :: t) st I L R) : zZ E md X Qs Sh kc ks pc (a0 :: a1 :: a2 :: a3 :: a4 :: a5 :: a6 :: a7 :: a8 :: a9 :: o :: t) (.int x :: st) I L R := by
  intro C hz H locs la hW hS hl
  have hn : 10 < zmL md := by have h := hl.1; simp at h; omega
  exact z_istore (n := 10) hd hn (fun j e => by cases e; exact hp) k C hz H locs la hW hS hl
theorem z_istore11 {a0 a1 a2 a3 a4 a5 a6 a7 a8 a9 a10 o : Option Value} {t : List (Option Value)} {x : Int32} (hd : zD md pc (.istore 11) 2 pc') (hp : zc1 a10 = true) (k : zZ E md X Qs Sh kc ks pc' (a0 :: a1 :: a2 :: a3 :: a4 :: a5 :: a6 :: a7 :: a8 :: a9 :: a10 :: some (.int x) :: t) st I L R) : zZ E md X Qs Sh kc ks pc (a0 :: a1 :: a2 :: a3 :: a4 :: a5 :: a6 :: a7 :: a8 :: a9 :: a10 :: o :: t) (.int x :: st) I L R := by
  intro C hz H locs la hW hS hl
  have hn : 11 < zmL md := by have h := hl.1; simp at h; omega
  exact z_istore (n := 11) hd hn (fun j e => by cases e; exact hp) k C hz H locs la hW hS hl
theorem z_istore12 {a0 a1 a2 a3 a4 a5 a6 a7 a8 a9 a10 a11 o : Option Value} {t : List (Option Value)} {x : Int32} (hd : zD md pc (.istore 12) 2 pc') (hp : zc1 a11 = true) (k : zZ E md X Qs Sh kc ks pc' (a0 :: a1 :: a2 :: a3 :: a4 :: a5 :: a6 :: a7 :: a8 :: a9 :: a10 :: a11 :: some (.int x) :: t) st I L R) : zZ E md X Qs Sh kc ks pc (a0 :: a1 :: a2 :: a3 :: a4 :: a5 :: a6 :: a7 :: a8 :: a9 :: a10 :: a11 :: o :: t) (.int x :: st) I L R := by
  intro C hz H locs la hW hS hl
  have hn : 12 < zmL md := by have h := hl.1; simp at h; omega
  exact z_istore (n := 12) hd hn (fun j e => by cases e; exact hp) k C hz H locs la hW hS hl
theorem z_istore13 {a0 a1 a2 a3 a4 a5 a6 a7 a8 a9 a10 a11 a12 o : Option Value} {t : List (Option Value)} {x : Int32} (hd : zD md pc (.istore 13) 2 pc') (hp : zc1 a12 = true) (k : zZ E md X Qs Sh kc ks pc' (a0 :: a1 :: a2 :: a3 :: a4 :: a5 :: a6 :: a7 :: a8 :: a9 :: a10 :: a11 :: a12 :: some (.int x) :: t) st I L R) : zZ E md X Qs Sh kc ks pc (a0 :: a1 :: a2 :: a3 :: a4 :: a5 :: a6 :: a7 :: a8 :: a9 :: a10 :: a11 :: a12 :: o :: t) (.int x :: st) I L R := by
  intro C hz H locs la hW hS hl
  have hn : 13 < zmL md := by have h := hl.1; simp at h; omega
  exact z_istore (n := 13) hd hn (fun j e => by cases e; exact hp) k C hz H locs la hW hS hl
theorem z_lstore0 {o o2 : Option Value} {t : List (Option Value)} {x : Int64} (hd : zD md pc (.lstore_n 0) 1 pc') (k : zZ E md X Qs Sh kc ks pc' (some (.long x) :: none :: t) st I L R) : zZ E md X Qs Sh kc ks pc (o :: o2 :: t) (.long x :: st) I L R := by
  intro C hz H locs la hW hS hl
  have hn : 1 < zmL md := by have h := hl.1; simp at h; omega
  exact z_lstore_n (n := 0) hd hn (fun j e => by cases e) k C hz H locs la hW hS hl
theorem z_lstore1 {a0 o o2 : Option Value} {t : List (Option Value)} {x : Int64} (hd : zD md pc (.lstore_n 1) 1 pc') (hp : zc1 a0 = true) (k : zZ E md X Qs Sh kc ks pc' (a0 :: some (.long x) :: none :: t) st I L R) : zZ E md X Qs Sh kc ks pc (a0 :: o :: o2 :: t) (.long x :: st) I L R := by
  intro C hz H locs la hW hS hl
  have hn : 2 < zmL md := by have h := hl.1; simp at h; omega
  exact z_lstore_n (n := 1) hd hn (fun j e => by cases e; exact hp) k C hz H locs la hW hS hl
theorem z_lstore2 {a0 a1 o o2 : Option Value} {t : List (Option Value)} {x : Int64} (hd : zD md pc (.lstore_n 2) 1 pc') (hp : zc1 a1 = true) (k : zZ E md X Qs Sh kc ks pc' (a0 :: a1 :: some (.long x) :: none :: t) st I L R) : zZ E md X Qs Sh kc ks pc (a0 :: a1 :: o :: o2 :: t) (.long x :: st) I L R := by
  intro C hz H locs la hW hS hl
  have hn : 3 < zmL md := by have h := hl.1; simp at h; omega
  exact z_lstore_n (n := 2) hd hn (fun j e => by cases e; exact hp) k C hz H locs la hW hS hl
theorem z_lstore3 {a0 a1 a2 o o2 : Option Value} {t : List (Option Value)} {x : Int64} (hd : zD md pc (.lstore_n 3) 1 pc') (hp : zc1 a2 = true) (k : zZ E md X Qs Sh kc ks pc' (a0 :: a1 :: a2 :: some (.long x) :: none :: t) st I L R) : zZ E md X Qs Sh kc ks pc (a0 :: a1 :: a2 :: o :: o2 :: t) (.long x :: st) I L R := by
  intro C hz H locs la hW hS hl
  have hn : 4 < zmL md := by have h := hl.1; simp at h; omega
  exact z_lstore_n (n := 3) hd hn (fun j e => by cases e; exact hp) k C hz H locs la hW hS hl
theorem z_lstore4 {a0 a1 a2 a3 o o2 : Option Value} {t : List (Option Value)} {x : Int64} (hd : zD md pc (.lstore 4) 2 pc') (hp : zc1 a3 = true) (k : zZ E md X Qs Sh kc ks pc' (a0 :: a1 :: a2 :: a3 :: some (.long x) :: none :: t) st I L R) : zZ E md X Qs Sh kc ks pc (a0 :: a1 :: a2 :: a3 :: o :: o2 :: t) (.long x :: st) I L R := by
  intro C hz H locs la hW hS hl
  have hn : 5 < zmL md := by have h := hl.1; simp at h; omega
  exact z_lstore (n := 4) hd hn (fun j e => by cases e; exact hp) k C hz H locs la hW hS hl
theorem z_lstore5 {a0 a1 a2 a3 a4 o o2 : Option Value} {t : List (Option Value)} {x : Int64} (hd : zD md pc (.lstore 5) 2 pc') (hp : zc1 a4 = true) (k : zZ E md X Qs Sh kc ks pc' (a0 :: a1 :: a2 :: a3 :: a4 :: some (.long x) :: none :: t) st I L R) : zZ E md X Qs Sh kc ks pc (a0 :: a1 :: a2 :: a3 :: a4 :: o :: o2 :: t) (.long x :: st) I L R := by
  intro C hz H locs la hW hS hl
  have hn : 6 < zmL md := by have h := hl.1; simp at h; omega
  exact z_lstore (n := 5) hd hn (fun j e => by cases e; exact hp) k C hz H locs la hW hS hl
theorem z_lstore6 {a0 a1 a2 a3 a4 a5 o o2 : Option Value} {t : List (Option Value)} {x : Int64} (hd : zD md pc (.lstore 6) 2 pc') (hp : zc1 a5 = true) (k : zZ E md X Qs Sh kc ks pc' (a0 :: a1 :: a2 :: a3 :: a4 :: a5 :: some (.long x) :: none :: t) st I L R) : zZ E md X Qs Sh kc ks pc (a0 :: a1 :: a2 :: a3 :: a4 :: a5 :: o :: o2 :: t) (.long x :: st) I L R := by
  intro C hz H locs la hW hS hl
  have hn : 7 < zmL md := by have h := hl.1; simp at h; omega
  exact z_lstore (n := 6) hd hn (fun j e => by cases e; exact hp) k C hz H locs la hW hS hl
theorem z_lstore7 {a0 a1 a2 a3 a4 a5 a6 o o2 : Option Value} {t : List (Option Value)} {x : Int64} (hd : zD md pc (.lstore 7) 2 pc') (hp : zc1 a6 = true) (k : zZ E md X Qs Sh kc ks pc' (a0 :: a1 :: a2 :: a3 :: a4 :: a5 :: a6 :: some (.long x) :: none :: t) st I L R) : zZ E md X Qs Sh kc ks pc (a0 :: a1 :: a2 :: a3 :: a4 :: a5 :: a6 :: o :: o2 :: t) (.long x :: st) I L R := by
  intro C hz H locs la hW hS hl
  have hn : 8 < zmL md := by have h := hl.1; simp at h; omega
  exact z_lstore (n := 7) hd hn (fun j e => by cases e; exact hp) k C hz H locs la hW hS hl
theorem z_lstore8 {a0 a1 a2 a3 a4 a5 a6 a7 o o2 : Option Value} {t : List (Option Value)} {x : Int64} (hd : zD md pc (.lstore 8) 2 pc') (hp : zc1 a7 = true) (k : zZ E md X Qs Sh kc ks pc' (a0 :: a1 :: a2 :: a3 :: a4 :: a5 :: a6 :: a7 :: some (.long x) :: none :: t) st I L R) : zZ E md X Qs Sh kc ks pc (a0 :: a1 :: a2 :: a3 :: a4 :: a5 :: a6 :: a7 :: o :: o2 :: t) (.long x :: st) I L R := by
  intro C hz H locs la hW hS hl
  have hn : 9 < zmL md := by have h := hl.1; simp at h; omega
  exact z_lstore (n := 8) hd hn (fun j e => by cases e; exact hp) k C hz H locs la hW hS hl
theorem z_lstore9 {a0 a1 a2 a3 a4 a5 a6 a7 a8 o o2 : Option Value} {t : List (Option Value)} {x : Int64} (hd : zD md pc (.lstore 9) 2 pc') (hp : zc1 a8 = true) (k : zZ E md X Qs Sh kc ks pc' (a0 :: a1 :: a2 :: a3 :: a4 :: a5 :: a6 :: a7 :: a8 :: some (.long x) :: none :: t) st I L R) : zZ E md X Qs Sh kc ks pc (a0 :: a1 :: a2 :: a3 :: a4 :: a5 :: a6 :: a7 :: a8 :: o :: o2 :: t) (.long x :: st) I L R := by
  intro C hz H locs la hW hS hl
  have hn : 10 < zmL md := by have h := hl.1; simp at h; omega
  exact z_lstore (n := 9) hd hn (fun j e => by cases e; exact hp) k C hz H locs la hW hS hl
theorem z_lstore10 {a0 a1 a2 a3 a4 a5 a6 a7 a8 a9 o o2 : Option Value} {t : List (Option Value)} {x : Int64} (hd : zD md pc (.lstore 10) 2 pc') (hp : zc1 a9 = true) (k : zZ E md X Qs Sh kc ks pc' (a0 :: a1 :: a2 :: a3 :: a4 :: a5 :: a6 :: a7 :: a8 :: a9 :: some (.long x) :: none :: t) st I L R) : zZ E md X Qs Sh kc ks pc (a0 :: a1 :: a2 :: a3 :: a4 :: a5 :: a6 :: a7 :: a8 :: a9 :: o :: o2 :: t) (.long x :: st) I L R := by
  intro C hz H locs la hW hS hl
  have hn : 11 < zmL md := by have h := hl.1; simp at h; omega
  exact z_lstore (n := 10) hd hn (fun j e => by cases e; exact hp) k C hz H locs la hW hS hl
theorem z_lstore11 {a0 a1 a2 a3 a4 a5 a6 a7 a8 a9 a10 o o2 : Option Value} {t : List (Option Value)} {x : Int64} (hd : zD md pc (.lstore 11) 2 pc') (hp : zc1 a10 = true) (k : zZ E md X Qs Sh kc ks pc' (a0 :: a1 :: a2 :: a3 :: a4 :: a5 :: a6 :: a7 :: a8 :: a9 :: a10 :: some (.long x) :: none :: t) st I L R) : zZ E md X Qs Sh kc ks pc (a0 :: a1 :: a2 :: a3 :: a4 :: a5 :: a6 :: a7 :: a8 :: a9 :: a10 :: o :: o2 :: t) (.long x :: st) I L R := by
  intro C hz H locs la hW hS hl
  have hn : 12 < zmL md := by have h := hl.1; simp at h; omega
  exact z_lstore (n := 11) hd hn (fun j e => by cases e; exact hp) k C hz H locs la hW hS hl
theorem z_lstore12 {a0 a1 a2 a3 a4 a5 a6 a7 a8 a9 a10 a11 o o2 : Option Value} {t : List (Option Value)} {x : Int64} (hd : zD md pc (.lstore 12) 2 pc') (hp : zc1 a11 = true) (k : zZ E md X Qs Sh kc ks pc' (a0 :: a1 :: a2 :: a3 :: a4 :: a5 :: a6 :: a7 :: a8 :: a9 :: a10 :: a11 :: some (.long x) :: none :: t) st I L R) : zZ E md X Qs Sh kc ks pc (a0 :: a1 :: a2 :: a3 :: a4 :: a5 :: a6 :: a7 :: a8 :: a9 :: a10 :: a11 :: o :: o2 :: t) (.long x :: st) I L R := by
  intro C hz H locs la hW hS hl
  have hn : 13 < zmL md := by have h := hl.1; simp at h; omega
  exact z_lstore (n := 12) hd hn (fun j e => by cases e; exact hp) k C hz H locs la hW hS hl
theorem z_lstore13 {a0 a1 a2 a3 a4 a5 a6 a7 a8 a9 a10 a11 a12 o o2 : Option Value} {t : List (Option Value)} {x : Int64} (hd : zD md pc (.lstore 13) 2 pc') (hp : zc1 a12 = true) (k : zZ E md X Qs Sh kc ks pc' (a0 :: a1 :: a2 :: a3 :: a4 :: a5 :: a6 :: a7 :: a8 :: a9 :: a10 :: a11 :: a12 :: some (.long x) :: none :: t) st I L R) : zZ E md X Qs Sh kc ks pc (a0 :: a1 :: a2 :: a3 :: a4 :: a5 :: a6 :: a7 :: a8 :: a9 :: a10 :: a11 :: a12 :: o :: o2 :: t) (.long x :: st) I L R := by
  intro C hz H locs la hW hS hl
  have hn : 14 < zmL md := by have h := hl.1; simp at h; omega
  exact z_lstore (n := 13) hd hn (fun j e => by cases e; exact hp) k C hz H locs la hW hS hl
theorem z_astore0 {o : Option Value} {t : List (Option Value)} {x : Nat} (hd : zD md pc (.astore_n 0) 1 pc') (k : zZ E md X Qs Sh kc ks pc' (some (.ref x) :: t) st I L R) : zZ E md X Qs Sh kc ks pc (o :: t) (.ref x :: st) I L R := by
  intro C hz H locs la hW hS hl
  have hn : 0 < zmL md := by have h := hl.1; simp at h; omega
  exact z_astore_n (n := 0) hd hn (fun j e => by cases e) k C hz H locs la hW hS hl
theorem z_astore1 {a0 o : Option Value} {t : List (Option Value)} {x : Nat} (hd : zD md pc (.astore_n 1) 1 pc') (hp : zc1 a0 = true) (k : zZ E md X Qs Sh kc ks pc' (a0 :: some (.ref x) :: t) st I L R) : zZ E md X Qs Sh kc ks pc (a0 :: o :: t) (.ref x :: st) I L R := by
  intro C hz H locs la hW hS hl
  have hn : 1 < zmL md := by have h := hl.1; simp at h; omega
  exact z_astore_n (n := 1) hd hn (fun j e => by cases e; exact hp) k C hz H locs la hW hS hl
theorem z_astore2 {a0 a1 o : Option Value} {t : List (Option Value)} {x : Nat} (hd : zD md pc (.astore_n 2) 1 pc') (hp : zc1 a1 = true) (k : zZ E md X Qs Sh kc ks pc' (a0 :: a1 :: some (.ref x) :: t) st I L R) : zZ E md X Qs Sh kc ks pc (a0 :: a1 :: o :: t) (.ref x :: st) I L R := by
  intro C hz H locs la hW hS hl
  have hn : 2 < zmL md := by have h := hl.1; simp at h; omega
  exact z_astore_n (n := 2) hd hn (fun j e => by cases e; exact hp) k C hz H locs la hW hS hl
theorem z_astore3 {a0 a1 a2 o : Option Value} {t : List (Option Value)} {x : Nat} (hd : zD md pc (.astore_n 3) 1 pc') (hp : zc1 a2 = true) (k : zZ E md X Qs Sh kc ks pc' (a0 :: a1 :: a2 :: some (.ref x) :: t) st I L R) : zZ E md X Qs Sh kc ks pc (a0 :: a1 :: a2 :: o :: t) (.ref x :: st) I L R := by
  intro C hz H locs la hW hS hl
  have hn : 3 < zmL md := by have h := hl.1; simp at h; omega
  exact z_astore_n (n := 3) hd hn (fun j e => by cases e; exact hp) k C hz H locs la hW hS hl
theorem z_astore4 {a0 a1 a2 a3 o : Option Value} {t : List (Option Value)} {x : Nat} (hd : zD md pc (.astore 4) 2 pc') (hp : zc1 a3 = true) (k : zZ E md X Qs Sh kc ks pc' (a0 :: a1 :: a2 :: a3 :: some (.ref x) :: t) st I L R) : zZ E md X Qs Sh kc ks pc (a0 :: a1 :: a2 :: a3 :: o :: t) (.ref x :: st) I L R := by
  intro C hz H locs la hW hS hl
  have hn : 4 < zmL md := by have h := hl.1; simp at h; omega
  exact z_astore (n := 4) hd hn (fun j e => by cases e; exact hp) k C hz H locs la hW hS hl
theorem z_astore5 {a0 a1 a2 a3 a4 o : Option Value} {t : List (Option Value)} {x : Nat} (hd : zD md pc (.astore 5) 2 pc') (hp : zc1 a4 = true) (k : zZ E md X Qs Sh kc ks pc' (a0 :: a1 :: a2 :: a3 :: a4 :: some (.ref x) :: t) st I L R) : zZ E md X Qs Sh kc ks pc (a0 :: a1 :: a2 :: a3 :: a4 :: o :: t) (.ref x :: st) I L R := by
  intro C hz H locs la hW hS hl
  have hn : 5 < zmL md := by have h := hl.1; simp at h; omega
  exact z_astore (n := 5) hd hn (fun j e => by cases e; exact hp) k C hz H locs la hW hS hl
theorem z_astore6 {a0 a1 a2 a3 a4 a5 o : Option Value} {t : List (Option Value)} {x : Nat} (hd : zD md pc (.astore 6) 2 pc') (hp : zc1 a5 = true) (k : zZ E md X Qs Sh kc ks pc' (a0 :: a1 :: a2 :: a3 :: a4 :: a5 :: some (.ref x) :: t) st I L R) : zZ E md X Qs Sh kc ks pc (a0 :: a1 :: a2 :: a3 :: a4 :: a5 :: o :: t) (.ref x :: st) I L R := by
  intro C hz H locs la hW hS hl
  have hn : 6 < zmL md := by have h := hl.1; simp at h; omega
  exact z_astore (n := 6) hd hn (fun j e => by cases e; exact hp) k C hz H locs la hW hS hl
theorem z_astore7 {a0 a1 a2 a3 a4 a5 a6 o : Option Value} {t : List (Option Value)} {x : Nat} (hd : zD md pc (.astore 7) 2 pc') (hp : zc1 a6 = true) (k : zZ E md X Qs Sh kc ks pc' (a0 :: a1 :: a2 :: a3 :: a4 :: a5 :: a6 :: some (.ref x) :: t) st I L R) : zZ E md X Qs Sh kc ks pc (a0 :: a1 :: a2 :: a3 :: a4 :: a5 :: a6 :: o :: t) (.ref x :: st) I L R := by
  intro C hz H locs la hW hS hl
  have hn : 7 < zmL md := by have h := hl.1; simp at h; omega
  exact z_astore (n := 7) hd hn (fun j e => by cases e; exact hp) k C hz H locs la hW hS hl
theorem z_astore8 {a0 a1 a2 a3 a4 a5 a6 a7 o : Option Value} {t : List (Option Value)} {x : Nat} (hd : zD md pc (.astore 8) 2 pc') (hp : zc1 a7 = true) (k : zZ E md X Qs Sh kc ks pc' (a0 :: a1 :: a2 :: a3 :: a4 :: a5 :: a6 :: a7 :: some (.ref x) :: t) st I L R) : zZ E md X Qs Sh kc ks pc (a0 :: a1 :: a2 :: a3 :: a4 :: a5 :: a6 :: a7 :: o :: t) (.ref x :: st) I L R := by
  intro C hz H locs la hW hS hl
  have hn : 8 < zmL md := by have h := hl.1; simp at h; omega
  exact z_astore (n := 8) hd hn (fun j e => by cases e; exact hp) k C hz H locs la hW hS hl
theorem z_astore9 {a0 a1 a2 a3 a4 a5 a6 a7 a8 o : Option Value} {t : List (Option Value)} {x : Nat} (hd : zD md pc (.astore 9) 2 pc') (hp : zc1 a8 = true) (k : zZ E md X Qs Sh kc ks pc' (a0 :: a1 :: a2 :: a3 :: a4 :: a5 :: a6 :: a7 :: a8 :: some (.ref x) :: t) st I L R) : zZ E md X Qs Sh kc ks pc (a0 :: a1 :: a2 :: a3 :: a4 :: a5 :: a6 :: a7 :: a8 :: o :: t) (.ref x :: st) I L R := by
  intro C hz H locs la hW hS hl
  have hn : 9 < zmL md := by have h := hl.1; simp at h; omega
  exact z_astore (n := 9) hd hn (fun j e => by cases e; exact hp) k C hz H locs la hW hS hl
theorem z_iinc0  {t : List (Option Value)} {n : Int} {x v : Int32} (hd : zD md pc (.iinc 0 n) 3 pc') (hv : Int32.ofInt n = v) (k : zZ E md X Qs Sh kc ks pc' (some (.int (x + v)) :: t) st I L R) : zZ E md X Qs Sh kc ks pc (some (.int x) :: t) st I L R := by
  obtain ⟨hd, rfl⟩ := hd
  subst hv
  intro C hz H locs la hW hS hl
  have hn : 0 < zmL md := by have h := hl.1; simp at h; omega
  have hm := List.getElem?_of_mem (zas_mem.mpr ⟨0, .int x, rfl, rfl⟩ : ((0 + 0, ztr E (.int x)) : Nat × Value) ∈ zas E 0 (some (.int x) :: t))
  obtain ⟨q, hq⟩ := hm
  exact lv_iinc C.1 C.2.1 hd hl.2 (k := q) (x := x) hq rfl hn rfl (fun la2 h2 => k C hz H locs la2 hW hS (zl_set1 (i := 0) (v := .int (x + Int32.ofInt n)) hl (fun j e => by cases e) h2))
theorem z_iinc1 {a0 : Option Value} {t : List (Option Value)} {n : Int} {x v : Int32} (hd : zD md pc (.iinc 1 n) 3 pc') (hv : Int32.ofInt n = v) (hp : zc1 a0 = true) (k : zZ E md X Qs Sh kc ks pc' (a0 :: some (.int (x + v)) :: t) st I L R) : zZ E md X Qs Sh kc ks pc (a0 :: some (.int x) :: t) st I L R := by
  obtain ⟨hd, rfl⟩ := hd
  subst hv
  intro C hz H locs la hW hS hl
  have hn : 1 < zmL md := by have h := hl.1; simp at h; omega
  have hm := List.getElem?_of_mem (zas_mem.mpr ⟨1, .int x, rfl, rfl⟩ : ((0 + 1, ztr E (.int x)) : Nat × Value) ∈ zas E 0 (a0 :: some (.int x) :: t))
  obtain ⟨q, hq⟩ := hm
  exact lv_iinc C.1 C.2.1 hd hl.2 (k := q) (x := x) hq rfl hn rfl (fun la2 h2 => k C hz H locs la2 hW hS (zl_set1 (i := 1) (v := .int (x + Int32.ofInt n)) hl (fun j e => by cases e; exact hp) h2))
theorem z_iinc2 {a0 a1 : Option Value} {t : List (Option Value)} {n : Int} {x v : Int32} (hd : zD md pc (.iinc 2 n) 3 pc') (hv : Int32.ofInt n = v) (hp : zc1 a1 = true) (k : zZ E md X Qs Sh kc ks pc' (a0 :: a1 :: some (.int (x + v)) :: t) st I L R) : zZ E md X Qs Sh kc ks pc (a0 :: a1 :: some (.int x) :: t) st I L R := by
  obtain ⟨hd, rfl⟩ := hd
  subst hv
  intro C hz H locs la hW hS hl
  have hn : 2 < zmL md := by have h := hl.1; simp at h; omega
  have hm := List.getElem?_of_mem (zas_mem.mpr ⟨2, .int x, rfl, rfl⟩ : ((0 + 2, ztr E (.int x)) : Nat × Value) ∈ zas E 0 (a0 :: a1 :: some (.int x) :: t))
  obtain ⟨q, hq⟩ := hm
  exact lv_iinc C.1 C.2.1 hd hl.2 (k := q) (x := x) hq rfl hn rfl (fun la2 h2 => k C hz H locs la2 hW hS (zl_set1 (i := 2) (v := .int (x + Int32.ofInt n)) hl (fun j e => by cases e; exact hp) h2))
theorem z_iinc3 {a0 a1 a2 : Option Value} {t : List (Option Value)} {n : Int} {x v : Int32} (hd : zD md pc (.iinc 3 n) 3 pc') (hv : Int32.ofInt n = v) (hp : zc1 a2 = true) (k : zZ E md X Qs Sh kc ks pc' (a0 :: a1 :: a2 :: some (.int (x + v)) :: t) st I L R) : zZ E md X Qs Sh kc ks pc (a0 :: a1 :: a2 :: some (.int x) :: t) st I L R := by
  obtain ⟨hd, rfl⟩ := hd
  subst hv
  intro C hz H locs la hW hS hl
  have hn : 3 < zmL md := by have h := hl.1; simp at h; omega
  have hm := List.getElem?_of_mem (zas_mem.mpr ⟨3, .int x, rfl, rfl⟩ : ((0 + 3, ztr E (.int x)) : Nat × Value) ∈ zas E 0 (a0 :: a1 :: a2 :: some (.int x) :: t))
  obtain ⟨q, hq⟩ := hm
  exact lv_iinc C.1 C.2.1 hd hl.2 (k := q) (x := x) hq rfl hn rfl (fun la2 h2 => k C hz H locs la2 hW hS (zl_set1 (i := 3) (v := .int (x + Int32.ofInt n)) hl (fun j e => by cases e; exact hp) h2))
theorem z_iinc4 {a0 a1 a2 a3 : Option Value} {t : List (Option Value)} {n : Int} {x v : Int32} (hd : zD md pc (.iinc 4 n) 3 pc') (hv : Int32.ofInt n = v) (hp : zc1 a3 = true) (k : zZ E md X Qs Sh kc ks pc' (a0 :: a1 :: a2 :: a3 :: some (.int (x + v)) :: t) st I L R) : zZ E md X Qs Sh kc ks pc (a0 :: a1 :: a2 :: a3 :: some (.int x) :: t) st I L R := by
  obtain ⟨hd, rfl⟩ := hd
  subst hv
  intro C hz H locs la hW hS hl
  have hn : 4 < zmL md := by have h := hl.1; simp at h; omega
  have hm := List.getElem?_of_mem (zas_mem.mpr ⟨4, .int x, rfl, rfl⟩ : ((0 + 4, ztr E (.int x)) : Nat × Value) ∈ zas E 0 (a0 :: a1 :: a2 :: a3 :: some (.int x) :: t))
  obtain ⟨q, hq⟩ := hm
  exact lv_iinc C.1 C.2.1 hd hl.2 (k := q) (x := x) hq rfl hn rfl (fun la2 h2 => k C hz H locs la2 hW hS (zl_set1 (i := 4) (v := .int (x + Int32.ofInt n)) hl (fun j e => by cases e; exact hp) h2))
theorem z_iinc5 {a0 a1 a2 a3 a4 : Option Value} {t : List (Option Value)} {n : Int} {x v : Int32} (hd : zD md pc (.iinc 5 n) 3 pc') (hv : Int32.ofInt n = v) (hp : zc1 a4 = true) (k : zZ E md X Qs Sh kc ks pc' (a0 :: a1 :: a2 :: a3 :: a4 :: some (.int (x + v)) :: t) st I L R) : zZ E md X Qs Sh kc ks pc (a0 :: a1 :: a2 :: a3 :: a4 :: some (.int x) :: t) st I L R := by
  obtain ⟨hd, rfl⟩ := hd
  subst hv
  intro C hz H locs la hW hS hl
  have hn : 5 < zmL md := by have h := hl.1; simp at h; omega
  have hm := List.getElem?_of_mem (zas_mem.mpr ⟨5, .int x, rfl, rfl⟩ : ((0 + 5, ztr E (.int x)) : Nat × Value) ∈ zas E 0 (a0 :: a1 :: a2 :: a3 :: a4 :: some (.int x) :: t))
  obtain ⟨q, hq⟩ := hm
  exact lv_iinc C.1 C.2.1 hd hl.2 (k := q) (x := x) hq rfl hn rfl (fun la2 h2 => k C hz H locs la2 hW hS (zl_set1 (i := 5) (v := .int (x + Int32.ofInt n)) hl (fun j e => by cases e; exact hp) h2))
theorem z_iinc6 {a0 a1 a2 a3 a4 a5 : Option Value} {t : List (Option Value)} {n : Int} {x v : Int32} (hd : zD md pc (.iinc 6 n) 3 pc') (hv : Int32.ofInt n = v) (hp : zc1 a5 = true) (k : zZ E md X Qs Sh kc ks pc' (a0 :: a1 :: a2 :: a3 :: a4 :: a5 :: some (.int (x + v)) :: t) st I L R) : zZ E md X Qs Sh kc ks pc (a0 :: a1 :: a2 :: a3 :: a4 :: a5 :: some (.int x) :: t) st I L R := by
  obtain ⟨hd, rfl⟩ := hd
  subst hv
  intro C hz H locs la hW hS hl
  have hn : 6 < zmL md := by have h := hl.1; simp at h; omega
  have hm := List.getElem?_of_mem (zas_mem.mpr ⟨6, .int x, rfl, rfl⟩ : ((0 + 6, ztr E (.int x)) : Nat × Value) ∈ zas E 0 (a0 :: a1 :: a2 :: a3 :: a4 :: a5 :: some (.int x) :: t))
  obtain ⟨q, hq⟩ := hm
  exact lv_iinc C.1 C.2.1 hd hl.2 (k := q) (x := x) hq rfl hn rfl (fun la2 h2 => k C hz H locs la2 hW hS (zl_set1 (i := 6) (v := .int (x + Int32.ofInt n)) hl (fun j e => by cases e; exact hp) h2))
theorem z_iinc7 {a0 a1 a2 a3 a4 a5 a6 : Option Value} {t : List (Option Value)} {n : Int} {x v : Int32} (hd : zD md pc (.iinc 7 n) 3 pc') (hv : Int32.ofInt n = v) (hp : zc1 a6 = true) (k : zZ E md X Qs Sh kc ks pc' (a0 :: a1 :: a2 :: a3 :: a4 :: a5 :: a6 :: some (.int (x + v)) :: t) st I L R) : zZ E md X Qs Sh kc ks pc (a0 :: a1 :: a2 :: a3 :: a4 :: a5 :: a6 :: some (.int x) :: t) st I L R := by
  obtain ⟨hd, rfl⟩ := hd
  subst hv
  intro C hz H locs la hW hS hl
  have hn : 7 < zmL md := by have h := hl.1; simp at h; omega
  have hm := List.getElem?_of_mem (zas_mem.mpr ⟨7, .int x, rfl, rfl⟩ : ((0 + 7, ztr E (.int x)) : Nat × Value) ∈ zas E 0 (a0 :: a1 :: a2 :: a3 :: a4 :: a5 :: a6 :: some (.int x) :: t))
  obtain ⟨q, hq⟩ := hm
  exact lv_iinc C.1 C.2.1 hd hl.2 (k := q) (x := x) hq rfl hn rfl (fun la2 h2 => k C hz H locs la2 hW hS (zl_set1 (i := 7) (v := .int (x + Int32.ofInt n)) hl (fun j e => by cases e; exact hp) h2))
theorem z_iinc8 {a0 a1 a2 a3 a4 a5 a6 a7 : Option Value} {t : List (Option Value)} {n : Int} {x v : Int32} (hd : zD md pc (.iinc 8 n) 3 pc') (hv : Int32.ofInt n = v) (hp : zc1 a7 = true) (k : zZ E md X Qs Sh kc ks pc' (a0 :: a1 :: a2 :: a3 :: a4 :: a5 :: a6 :: a7 :: some (.int (x + v)) :: t) st I L R) : zZ E md X Qs Sh kc ks pc (a0 :: a1 :: a2 :: a3 :: a4 :: a5 :: a6 :: a7 :: some (.int x) :: t) st I L R := by
  obtain ⟨hd, rfl⟩ := hd
  subst hv
  intro C hz H locs la hW hS hl
  have hn : 8 < zmL md := by have h := hl.1; simp at h; omega
  have hm := List.getElem?_of_mem (zas_mem.mpr ⟨8, .int x, rfl, rfl⟩ : ((0 + 8, ztr E (.int x)) : Nat × Value) ∈ zas E 0 (a0 :: a1 :: a2 :: a3 :: a4 :: a5 :: a6 :: a7 :: some (.int x) :: t))
  obtain ⟨q, hq⟩ := hm
  exact lv_iinc C.1 C.2.1 hd hl.2 (k := q) (x := x) hq rfl hn rfl (fun la2 h2 => k C hz H locs la2 hW hS (zl_set1 (i := 8) (v := .int (x + Int32.ofInt n)) hl (fun j e => by cases e; exact hp) h2))
theorem z_iinc9 {a0 a1 a2 a3 a4 a5 a6 a7 a8 : Option Value} {t : List (Option Value)} {n : Int} {x v : Int32} (hd : zD md pc (.iinc 9 n) 3 pc') (hv : Int32.ofInt n = v) (hp : zc1 a8 = true) (k : zZ E md X Qs Sh kc ks pc' (a0 :: a1 :: a2 :: a3 :: a4 :: a5 :: a6 :: a7 :: a8 :: some (.int (x + v)) :: t) st I L R) : zZ E md X Qs Sh kc ks pc (a0 :: a1 :: a2 :: a3 :: a4 :: a5 :: a6 :: a7 :: a8 :: some (.int x) :: t) st I L R := by
  obtain ⟨hd, rfl⟩ := hd
  subst hv
  intro C hz H locs la hW hS hl
  have hn : 9 < zmL md := by have h := hl.1; simp at h; omega
  have hm := List.getElem?_of_mem (zas_mem.mpr ⟨9, .int x, rfl, rfl⟩ : ((0 + 9, ztr E (.int x)) : Nat × Value) ∈ zas E 0 (a0 :: a1 :: a2 :: a3 :: a4 :: a5 :: a6 :: a7 :: a8 :: some (.int x) :: t))
  obtain ⟨q, hq⟩ := hm
  exact lv_iinc C.1 C.2.1 hd hl.2 (k := q) (x := x) hq rfl hn rfl (fun la2 h2 => k C hz H locs la2 hW hS (zl_set1 (i := 9) (v := .int (x + Int32.ofInt n)) hl (fun j e => by cases e; exact hp) h2))
theorem z_iinc10 {a0 a1 a2 a3 a4 a5 a6 a7 a8 a9 : Option Value} {t : List (Option Value)} {n : Int} {x v : Int32} (hd : zD md pc (.iinc 10 n) 3 pc') (hv : Int32.ofInt n = v) (hp : zc1 a9 = true) (k : zZ E md X Qs Sh kc ks pc' (a0 :: a1 :: a2 :: a3 :: a4 :: a5 :: a6 :: a7 :: a8 :: a9 :: some (.int (x + v)) :: t) st I L R) : zZ E md X Qs Sh kc ks pc (a0 :: a1 :: a2 :: a3 :: a4 :: a5 :: a6 :: a7 :: a8 :: a9 :: some (.int x) :: t) st I L R := by
  obtain ⟨hd, rfl⟩ := hd
  subst hv
  intro C hz H locs la hW hS hl
  have hn : 10 < zmL md := by have h := hl.1; simp at h; omega
  have hm := List.getElem?_of_mem (zas_mem.mpr ⟨10, .int x, rfl, rfl⟩ : ((0 + 10, ztr E (.int x)) : Nat × Value) ∈ zas E 0 (a0 :: a1 :: a2 :: a3 :: a4 :: a5 :: a6 :: a7 :: a8 :: a9 :: some (.int x) :: t))
  obtain ⟨q, hq⟩ := hm
  exact lv_iinc C.1 C.2.1 hd hl.2 (k := q) (x := x) hq rfl hn rfl (fun la2 h2 => k C hz H locs la2 hW hS (zl_set1 (i := 10) (v := .int (x + Int32.ofInt n)) hl (fun j e => by cases e; exact hp) h2))
theorem z_iinc11 {a0 a1 a2 a3 a4 a5 a6 a7 a8 a9 a10 : Option Value} {t : List (Option Value)} {n : Int} {x v : Int32} (hd : zD md pc (.iinc 11 n) 3 pc') (hv : Int32.ofInt n = v) (hp : zc1 a10 = true) (k : zZ E md X Qs Sh kc ks pc' (a0 :: a1 :: a2 :: a3 :: a4 :: a5 :: a6 :: a7 :: a8 :: a9 :: a10 :: some (.int (x + v)) :: t) st I L R) : zZ E md X Qs Sh kc ks pc (a0 :: a1 :: a2 :: a3 :: a4 :: a5 :: a6 :: a7 :: a8 :: a9 :: a10 :: some (.int x) :: t) st I L R := by
  obtain ⟨hd, rfl⟩ := hd
  subst hv
  intro C hz H locs la hW hS hl
  have hn : 11 < zmL md := by have h := hl.1; simp at h; omega
  have hm := List.getElem?_of_mem (zas_mem.mpr ⟨11, .int x, rfl, rfl⟩ : ((0 + 11, ztr E (.int x)) : Nat × Value) ∈ zas E 0 (a0 :: a1 :: a2 :: a3 :: a4 :: a5 :: a6 :: a7 :: a8 :: a9 :: a10 :: some (.int x) :: t))
  obtain ⟨q, hq⟩ := hm
  exact lv_iinc C.1 C.2.1 hd hl.2 (k := q) (x := x) hq rfl hn rfl (fun la2 h2 => k C hz H locs la2 hW hS (zl_set1 (i := 11) (v := .int (x + Int32.ofInt n)) hl (fun j e => by cases e; exact hp) h2))
theorem z_iinc12 {a0 a1 a2 a3 a4 a5 a6 a7 a8 a9 a10 a11 : Option Value} {t : List (Option Value)} {n : Int} {x v : Int32} (hd : zD md pc (.iinc 12 n) 3 pc') (hv : Int32.ofInt n = v) (hp : zc1 a11 = true) (k : zZ E md X Qs Sh kc ks pc' (a0 :: a1 :: a2 :: a3 :: a4 :: a5 :: a6 :: a7 :: a8 :: a9 :: a10 :: a11 :: some (.int (x + v)) :: t) st I L R) : zZ E md X Qs Sh kc ks pc (a0 :: a1 :: a2 :: a3 :: a4 :: a5 :: a6 :: a7 :: a8 :: a9 :: a10 :: a11 :: some (.int x) :: t) st I L R := by
  obtain ⟨hd, rfl⟩ := hd
  subst hv
  intro C hz H locs la hW hS hl
  have hn : 12 < zmL md := by have h := hl.1; simp at h; omega
  have hm := List.getElem?_of_mem (zas_mem.mpr ⟨12, .int x, rfl, rfl⟩ : ((0 + 12, ztr E (.int x)) : Nat × Value) ∈ zas E 0 (a0 :: a1 :: a2 :: a3 :: a4 :: a5 :: a6 :: a7 :: a8 :: a9 :: a10 :: a11 :: some (.int x) :: t))
  obtain ⟨q, hq⟩ := hm
  exact lv_iinc C.1 C.2.1 hd hl.2 (k := q) (x := x) hq rfl hn rfl (fun la2 h2 => k C hz H locs la2 hW hS (zl_set1 (i := 12) (v := .int (x + Int32.ofInt n)) hl (fun j e => by cases e; exact hp) h2))
theorem z_iinc13 {a0 a1 a2 a3 a4 a5 a6 a7 a8 a9 a10 a11 a12 : Option Value} {t : List (Option Value)} {n : Int} {x v : Int32} (hd : zD md pc (.iinc 13 n) 3 pc') (hv : Int32.ofInt n = v) (hp : zc1 a12 = true) (k : zZ E md X Qs Sh kc ks pc' (a0 :: a1 :: a2 :: a3 :: a4 :: a5 :: a6 :: a7 :: a8 :: a9 :: a10 :: a11 :: a12 :: some (.int (x + v)) :: t) st I L R) : zZ E md X Qs Sh kc ks pc (a0 :: a1 :: a2 :: a3 :: a4 :: a5 :: a6 :: a7 :: a8 :: a9 :: a10 :: a11 :: a12 :: some (.int x) :: t) st I L R := by
  obtain ⟨hd, rfl⟩ := hd
  subst hv
  intro C hz H locs la hW hS hl
  have hn : 13 < zmL md := by have h := hl.1; simp at h; omega
  have hm := List.getElem?_of_mem (zas_mem.mpr ⟨13, .int x, rfl, rfl⟩ : ((0 + 13, ztr E (.int x)) : Nat × Value) ∈ zas E 0 (a0 :: a1 :: a2 :: a3 :: a4 :: a5 :: a6 :: a7 :: a8 :: a9 :: a10 :: a11 :: a12 :: some (.int x) :: t))
  obtain ⟨q, hq⟩ := hm
  exact lv_iinc C.1 C.2.1 hd hl.2 (k := q) (x := x) hq rfl hn rfl (fun la2 h2 => k C hz H locs la2 hW hS (zl_set1 (i := 13) (v := .int (x + Int32.ofInt n)) hl (fun j e => by cases e; exact hp) h2))
theorem z_iadd {x y : Int32} (hd : zD md pc .iadd 1 pc') (k : zZ E md X Qs Sh kc ks pc' ls (.int (x + y) :: st) I L R) : zZ E md X Qs Sh kc ks pc ls (.int y :: .int x :: st) I L R := by
  obtain ⟨hd, rfl⟩ := hd
  intro C hz H locs la hW hS hl
  exact lv_iadd C.1 C.2.1 hd (k C hz H locs la hW hS hl)
theorem z_isub {x y : Int32} (hd : zD md pc .isub 1 pc') (k : zZ E md X Qs Sh kc ks pc' ls (.int (x - y) :: st) I L R) : zZ E md X Qs Sh kc ks pc ls (.int y :: .int x :: st) I L R := by
  obtain ⟨hd, rfl⟩ := hd
  intro C hz H locs la hW hS hl
  exact lv_isub C.1 C.2.1 hd (k C hz H locs la hW hS hl)
theorem z_imul {x y : Int32} (hd : zD md pc .imul 1 pc') (k : zZ E md X Qs Sh kc ks pc' ls (.int (x * y) :: st) I L R) : zZ E md X Qs Sh kc ks pc ls (.int y :: .int x :: st) I L R := by
  obtain ⟨hd, rfl⟩ := hd
  intro C hz H locs la hW hS hl
  exact lv_imul C.1 C.2.1 hd (k C hz H locs la hW hS hl)
theorem z_iand {x y : Int32} (hd : zD md pc .iand 1 pc') (k : zZ E md X Qs Sh kc ks pc' ls (.int (x &&& y) :: st) I L R) : zZ E md X Qs Sh kc ks pc ls (.int y :: .int x :: st) I L R := by
  obtain ⟨hd, rfl⟩ := hd
  intro C hz H locs la hW hS hl
  exact lv_iand C.1 C.2.1 hd (k C hz H locs la hW hS hl)
theorem z_ior {x y : Int32} (hd : zD md pc .ior 1 pc') (k : zZ E md X Qs Sh kc ks pc' ls (.int (x ||| y) :: st) I L R) : zZ E md X Qs Sh kc ks pc ls (.int y :: .int x :: st) I L R := by
  obtain ⟨hd, rfl⟩ := hd
  intro C hz H locs la hW hS hl
  exact lv_ior C.1 C.2.1 hd (k C hz H locs la hW hS hl)
theorem z_ixor {x y : Int32} (hd : zD md pc .ixor 1 pc') (k : zZ E md X Qs Sh kc ks pc' ls (.int (x ^^^ y) :: st) I L R) : zZ E md X Qs Sh kc ks pc ls (.int y :: .int x :: st) I L R := by
  obtain ⟨hd, rfl⟩ := hd
  intro C hz H locs la hW hS hl
  exact lv_ixor C.1 C.2.1 hd (k C hz H locs la hW hS hl)
theorem z_ishl {x y : Int32} (hd : zD md pc .ishl 1 pc') (k : zZ E md X Qs Sh kc ks pc' ls (.int (x <<< (y &&& 31)) :: st) I L R) : zZ E md X Qs Sh kc ks pc ls (.int y :: .int x :: st) I L R := by
  obtain ⟨hd, rfl⟩ := hd
  intro C hz H locs la hW hS hl
  exact lv_ishl C.1 C.2.1 hd (k C hz H locs la hW hS hl)
theorem z_ishr {x y : Int32} (hd : zD md pc .ishr 1 pc') (k : zZ E md X Qs Sh kc ks pc' ls (.int (x >>> (y &&& 31)) :: st) I L R) : zZ E md X Qs Sh kc ks pc ls (.int y :: .int x :: st) I L R := by
  obtain ⟨hd, rfl⟩ := hd
  intro C hz H locs la hW hS hl
  exact lv_ishr C.1 C.2.1 hd (k C hz H locs la hW hS hl)
theorem z_ladd {x y : Int64} (hd : zD md pc .ladd 1 pc') (k : zZ E md X Qs Sh kc ks pc' ls (.long (x + y) :: st) I L R) : zZ E md X Qs Sh kc ks pc ls (.long y :: .long x :: st) I L R := by
  obtain ⟨hd, rfl⟩ := hd
  intro C hz H locs la hW hS hl
  exact lv_ladd C.1 C.2.1 hd (k C hz H locs la hW hS hl)
theorem z_lsub {x y : Int64} (hd : zD md pc .lsub 1 pc') (k : zZ E md X Qs Sh kc ks pc' ls (.long (x - y) :: st) I L R) : zZ E md X Qs Sh kc ks pc ls (.long y :: .long x :: st) I L R := by
  obtain ⟨hd, rfl⟩ := hd
  intro C hz H locs la hW hS hl
  exact lv_lsub C.1 C.2.1 hd (k C hz H locs la hW hS hl)
theorem z_lmul {x y : Int64} (hd : zD md pc .lmul 1 pc') (k : zZ E md X Qs Sh kc ks pc' ls (.long (x * y) :: st) I L R) : zZ E md X Qs Sh kc ks pc ls (.long y :: .long x :: st) I L R := by
  obtain ⟨hd, rfl⟩ := hd
  intro C hz H locs la hW hS hl
  exact lv_lmul C.1 C.2.1 hd (k C hz H locs la hW hS hl)
theorem z_land {x y : Int64} (hd : zD md pc .land 1 pc') (k : zZ E md X Qs Sh kc ks pc' ls (.long (x &&& y) :: st) I L R) : zZ E md X Qs Sh kc ks pc ls (.long y :: .long x :: st) I L R := by
  obtain ⟨hd, rfl⟩ := hd
  intro C hz H locs la hW hS hl
  exact lv_land C.1 C.2.1 hd (k C hz H locs la hW hS hl)
theorem z_lor {x y : Int64} (hd : zD md pc .lor 1 pc') (k : zZ E md X Qs Sh kc ks pc' ls (.long (x ||| y) :: st) I L R) : zZ E md X Qs Sh kc ks pc ls (.long y :: .long x :: st) I L R := by
  obtain ⟨hd, rfl⟩ := hd
  intro C hz H locs la hW hS hl
  exact lv_lor C.1 C.2.1 hd (k C hz H locs la hW hS hl)
theorem z_idiv {x y : Int32} (hd : zD md pc .idiv 1 pc') (hne : ¬ y = 0) (k : zZ E md X Qs Sh kc ks pc' ls (.int (x / y) :: st) I L R) : zZ E md X Qs Sh kc ks pc ls (.int y :: .int x :: st) I L R := by
  obtain ⟨hd, rfl⟩ := hd
  intro C hz H locs la hW hS hl
  exact lv_idiv C.1 C.2.1 hd hne (k C hz H locs la hW hS hl)
theorem z_irem {x y : Int32} (hd : zD md pc .irem 1 pc') (hne : ¬ y = 0) (k : zZ E md X Qs Sh kc ks pc' ls (.int (x - x / y * y) :: st) I L R) : zZ E md X Qs Sh kc ks pc ls (.int y :: .int x :: st) I L R := by
  obtain ⟨hd, rfl⟩ := hd
  intro C hz H locs la hW hS hl
  exact lv_irem C.1 C.2.1 hd hne (k C hz H locs la hW hS hl)
theorem z_ineg {x : Int32} (hd : zD md pc .ineg 1 pc') (k : zZ E md X Qs Sh kc ks pc' ls (.int (-x) :: st) I L R) : zZ E md X Qs Sh kc ks pc ls (.int x :: st) I L R := by
  obtain ⟨hd, rfl⟩ := hd
  intro C hz H locs la hW hS hl
  exact lv_ineg C.1 C.2.1 hd (k C hz H locs la hW hS hl)
theorem z_i2l {x : Int32} (hd : zD md pc .i2l 1 pc') (k : zZ E md X Qs Sh kc ks pc' ls (.long x.toInt64 :: st) I L R) : zZ E md X Qs Sh kc ks pc ls (.int x :: st) I L R := by
  obtain ⟨hd, rfl⟩ := hd
  intro C hz H locs la hW hS hl
  exact lv_i2l C.1 C.2.1 hd rfl (k C hz H locs la hW hS hl)
theorem z_l2i {x : Int64} (hd : zD md pc .l2i 1 pc') (k : zZ E md X Qs Sh kc ks pc' ls (.int x.toInt32 :: st) I L R) : zZ E md X Qs Sh kc ks pc ls (.long x :: st) I L R := by
  obtain ⟨hd, rfl⟩ := hd
  intro C hz H locs la hW hS hl
  exact lv_l2i C.1 C.2.1 hd rfl (k C hz H locs la hW hS hl)
theorem z_i2b {x : Int32} (hd : zD md pc .i2b 1 pc') (k : zZ E md X Qs Sh kc ks pc' ls (.int x.toInt8.toInt32 :: st) I L R) : zZ E md X Qs Sh kc ks pc ls (.int x :: st) I L R := by
  obtain ⟨hd, rfl⟩ := hd
  intro C hz H locs la hW hS hl
  exact lv_i2b C.1 C.2.1 hd rfl (k C hz H locs la hW hS hl)
theorem z_i2s {x : Int32} (hd : zD md pc .i2s 1 pc') (k : zZ E md X Qs Sh kc ks pc' ls (.int x.toInt16.toInt32 :: st) I L R) : zZ E md X Qs Sh kc ks pc ls (.int x :: st) I L R := by
  obtain ⟨hd, rfl⟩ := hd
  intro C hz H locs la hW hS hl
  exact lv_i2s C.1 C.2.1 hd rfl (k C hz H locs la hW hS hl)
theorem z_i2c {x : Int32} (hd : zD md pc .i2c 1 pc') (k : zZ E md X Qs Sh kc ks pc' ls (.int (x.toUInt32 % 65536).toInt32 :: st) I L R) : zZ E md X Qs Sh kc ks pc ls (.int x :: st) I L R := by
  obtain ⟨hd, rfl⟩ := hd
  intro C hz H locs la hW hS hl
  exact lv_i2c C.1 C.2.1 hd rfl (k C hz H locs la hW hS hl)
theorem z_lshl {x : Int64} {y : Int32} (hd : zD md pc .lshl 1 pc') (k : zZ E md X Qs Sh kc ks pc' ls (.long (x <<< (y.toInt64 &&& 63)) :: st) I L R) : zZ E md X Qs Sh kc ks pc ls (.int y :: .long x :: st) I L R := by
  obtain ⟨hd, rfl⟩ := hd
  intro C hz H locs la hW hS hl
  exact lv_lshl C.1 C.2.1 hd rfl (k C hz H locs la hW hS hl)
theorem z_lshr {x : Int64} {y : Int32} (hd : zD md pc .lshr 1 pc') (k : zZ E md X Qs Sh kc ks pc' ls (.long (x >>> (y.toInt64 &&& 63)) :: st) I L R) : zZ E md X Qs Sh kc ks pc ls (.int y :: .long x :: st) I L R := by
  obtain ⟨hd, rfl⟩ := hd
  intro C hz H locs la hW hS hl
  exact lv_lshr C.1 C.2.1 hd rfl (k C hz H locs la hW hS hl)
theorem z_lcmp {x y : Int64} (hd : zD md pc .lcmp 1 pc') (k : zZ E md X Qs Sh kc ks pc' ls (.int (lg_cmp x y) :: st) I L R) : zZ E md X Qs Sh kc ks pc ls (.long y :: .long x :: st) I L R := by
  obtain ⟨hd, rfl⟩ := hd
  intro C hz H locs la hW hS hl
  exact W.lcmp C.1 C.2.1 hd (k C hz H locs la hW hS hl)
theorem z_dup {v : Value} (hd : zD md pc .dup 1 pc') (hv : v.category = 1) (k : zZ E md X Qs Sh kc ks pc' ls (v :: v :: st) I L R) : zZ E md X Qs Sh kc ks pc ls (v :: st) I L R := by
  obtain ⟨hd, rfl⟩ := hd
  intro C hz H locs la hW hS hl
  exact lv_dup C.1 C.2.1 hd (by rw [ztr_cat]; exact hv) (k C hz H locs la hW hS hl)
theorem z_pop {v : Value} (hd : zD md pc .pop 1 pc') (hv : v.category = 1) (k : zZ E md X Qs Sh kc ks pc' ls st I L R) : zZ E md X Qs Sh kc ks pc ls (v :: st) I L R := by
  obtain ⟨hd, rfl⟩ := hd
  intro C hz H locs la hW hS hl
  exact lv_pop C.1 C.2.1 hd (by rw [ztr_cat]; exact hv) (k C hz H locs la hW hS hl)
theorem z_dup2 {v w : Value} (hd : zD md pc .dup2 1 pc') (hv : v.category = 1) (hw : w.category = 1) (k : zZ E md X Qs Sh kc ks pc' ls (v :: w :: v :: w :: st) I L R) : zZ E md X Qs Sh kc ks pc ls (v :: w :: st) I L R := by
  obtain ⟨hd, rfl⟩ := hd
  intro C hz H locs la hW hS hl
  exact lv_dup2_11 C.1 C.2.1 hd (by rw [ztr_cat]; exact hv) (by rw [ztr_cat]; exact hw) (k C hz H locs la hW hS hl)
theorem z_dup_x1 {v w : Value} (hd : zD md pc .dup_x1 1 pc') (hv : v.category = 1) (hw : w.category = 1) (k : zZ E md X Qs Sh kc ks pc' ls (v :: w :: v :: st) I L R) : zZ E md X Qs Sh kc ks pc ls (v :: w :: st) I L R := by
  obtain ⟨hd, rfl⟩ := hd
  intro C hz H locs la hW hS hl
  exact lv_dup_x1 C.1 C.2.1 hd (by rw [ztr_cat]; exact hv) (by rw [ztr_cat]; exact hw) (k C hz H locs la hW hS hl)
theorem z_if_eq {tgt : Nat} {x : Int32} (hd : zDj md pc (.ifCond .eq) pc' tgt) (kt : x = 0 → zZ E md X Qs Sh kc ks tgt ls st I L R) (kf : ¬ (x = 0) → zZ E md X Qs Sh kc ks pc' ls st I L R) : zZ E md X Qs Sh kc ks pc ls (.int x :: st) I L R := by
  obtain ⟨off, hd, rfl, ht⟩ := hd
  intro C hz H locs la hW hS hl
  exact lv_if_eq C.1 C.2.1 hd ht (fun h => kt h C hz H locs la hW hS hl) (fun h => kf h C hz H locs la hW hS hl)
theorem z_icmp_eq {tgt : Nat} {x y : Int32} (hd : zDj md pc (.if_icmp .eq) pc' tgt) (kt : x = y → zZ E md X Qs Sh kc ks tgt ls st I L R) (kf : ¬ (x = y) → zZ E md X Qs Sh kc ks pc' ls st I L R) : zZ E md X Qs Sh kc ks pc ls (.int y :: .int x :: st) I L R := by
  obtain ⟨off, hd, rfl, ht⟩ := hd
  intro C hz H locs la hW hS hl
  exact lv_icmp_eq C.1 C.2.1 hd ht (fun h => kt h C hz H locs la hW hS hl) (fun h => kf h C hz H locs la hW hS hl)
theorem z_if_ne {tgt : Nat} {x : Int32} (hd : zDj md pc (.ifCond .ne) pc' tgt) (kt : ¬ x = 0 → zZ E md X Qs Sh kc ks tgt ls st I L R) (kf : x = 0 → zZ E md X Qs Sh kc ks pc' ls st I L R) : zZ E md X Qs Sh kc ks pc ls (.int x :: st) I L R := by
  obtain ⟨off, hd, rfl, ht⟩ := hd
  intro C hz H locs la hW hS hl
  exact lv_if_ne C.1 C.2.1 hd ht (fun h => kt h C hz H locs la hW hS hl) (fun h => kf h C hz H locs la hW hS hl)
theorem z_icmp_ne {tgt : Nat} {x y : Int32} (hd : zDj md pc (.if_icmp .ne) pc' tgt) (kt : ¬ x = y → zZ E md X Qs Sh kc ks tgt ls st I L R) (kf : x = y → zZ E md X Qs Sh kc ks pc' ls st I L R) : zZ E md X Qs Sh kc ks pc ls (.int y :: .int x :: st) I L R := by
  obtain ⟨off, hd, rfl, ht⟩ := hd
  intro C hz H locs la hW hS hl
  exact lv_icmp_ne C.1 C.2.1 hd ht (fun h => kt h C hz H locs la hW hS hl) (fun h => kf h C hz H locs la hW hS hl)
theorem z_if_lt {tgt : Nat} {x : Int32} (hd : zDj md pc (.ifCond .lt) pc' tgt) (kt : x < 0 → zZ E md X Qs Sh kc ks tgt ls st I L R) (kf : ¬ (x < 0) → zZ E md X Qs Sh kc ks pc' ls st I L R) : zZ E md X Qs Sh kc ks pc ls (.int x :: st) I L R := by
  obtain ⟨off, hd, rfl, ht⟩ := hd
  intro C hz H locs la hW hS hl
  exact lv_if_lt C.1 C.2.1 hd ht (fun h => kt h C hz H locs la hW hS hl) (fun h => kf h C hz H locs la hW hS hl)
theorem z_icmp_lt {tgt : Nat} {x y : Int32} (hd : zDj md pc (.if_icmp .lt) pc' tgt) (kt : x < y → zZ E md X Qs Sh kc ks tgt ls st I L R) (kf : ¬ (x < y) → zZ E md X Qs Sh kc ks pc' ls st I L R) : zZ E md X Qs Sh kc ks pc ls (.int y :: .int x :: st) I L R := by
  obtain ⟨off, hd, rfl, ht⟩ := hd
  intro C hz H locs la hW hS hl
  exact lv_icmp_lt C.1 C.2.1 hd ht (fun h => kt h C hz H locs la hW hS hl) (fun h => kf h C hz H locs la hW hS hl)
theorem z_if_ge {tgt : Nat} {x : Int32} (hd : zDj md pc (.ifCond .ge) pc' tgt) (kt : 0 ≤ x → zZ E md X Qs Sh kc ks tgt ls st I L R) (kf : ¬ (0 ≤ x) → zZ E md X Qs Sh kc ks pc' ls st I L R) : zZ E md X Qs Sh kc ks pc ls (.int x :: st) I L R := by
  obtain ⟨off, hd, rfl, ht⟩ := hd
  intro C hz H locs la hW hS hl
  exact lv_if_ge C.1 C.2.1 hd ht (fun h => kt h C hz H locs la hW hS hl) (fun h => kf h C hz H locs la hW hS hl)
theorem z_icmp_ge {tgt : Nat} {x y : Int32} (hd : zDj md pc (.if_icmp .ge) pc' tgt) (kt : y ≤ x → zZ E md X Qs Sh kc ks tgt ls st I L R) (kf : ¬ (y ≤ x) → zZ E md X Qs Sh kc ks pc' ls st I L R) : zZ E md X Qs Sh kc ks pc ls (.int y :: .int x :: st) I L R := by
  obtain ⟨off, hd, rfl, ht⟩ := hd
  intro C hz H locs la hW hS hl
  exact lv_icmp_ge C.1 C.2.1 hd ht (fun h => kt h C hz H locs la hW hS hl) (fun h => kf h C hz H locs la hW hS hl)
theorem z_if_gt {tgt : Nat} {x : Int32} (hd : zDj md pc (.ifCond .gt) pc' tgt) (kt : 0 < x → zZ E md X Qs Sh kc ks tgt ls st I L R) (kf : ¬ (0 < x) → zZ E md X Qs Sh kc ks pc' ls st I L R) : zZ E md X Qs Sh kc ks pc ls (.int x :: st) I L R := by
  obtain ⟨off, hd, rfl, ht⟩ := hd
  intro C hz H locs la hW hS hl
  exact lv_if_gt C.1 C.2.1 hd ht (fun h => kt h C hz H locs la hW hS hl) (fun h => kf h C hz H locs la hW hS hl)
theorem z_icmp_gt {tgt : Nat} {x y : Int32} (hd : zDj md pc (.if_icmp .gt) pc' tgt) (kt : y < x → zZ E md X Qs Sh kc ks tgt ls st I L R) (kf : ¬ (y < x) → zZ E md X Qs Sh kc ks pc' ls st I L R) : zZ E md X Qs Sh kc ks pc ls (.int y :: .int x :: st) I L R := by
  obtain ⟨off, hd, rfl, ht⟩ := hd
  intro C hz H locs la hW hS hl
  exact lv_icmp_gt C.1 C.2.1 hd ht (fun h => kt h C hz H locs la hW hS hl) (fun h => kf h C hz H locs la hW hS hl)
theorem z_if_le {tgt : Nat} {x : Int32} (hd : zDj md pc (.ifCond .le) pc' tgt) (kt : x ≤ 0 → zZ E md X Qs Sh kc ks tgt ls st I L R) (kf : ¬ (x ≤ 0) → zZ E md X Qs Sh kc ks pc' ls st I L R) : zZ E md X Qs Sh kc ks pc ls (.int x :: st) I L R := by
  obtain ⟨off, hd, rfl, ht⟩ := hd
  intro C hz H locs la hW hS hl
  exact lv_if_le C.1 C.2.1 hd ht (fun h => kt h C hz H locs la hW hS hl) (fun h => kf h C hz H locs la hW hS hl)
theorem z_icmp_le {tgt : Nat} {x y : Int32} (hd : zDj md pc (.if_icmp .le) pc' tgt) (kt : x ≤ y → zZ E md X Qs Sh kc ks tgt ls st I L R) (kf : ¬ (x ≤ y) → zZ E md X Qs Sh kc ks pc' ls st I L R) : zZ E md X Qs Sh kc ks pc ls (.int y :: .int x :: st) I L R := by
  obtain ⟨off, hd, rfl, ht⟩ := hd
  intro C hz H locs la hW hS hl
  exact lv_icmp_le C.1 C.2.1 hd ht (fun h => kt h C hz H locs la hW hS hl) (fun h => kf h C hz H locs la hW hS hl)
theorem z_goto {tgt : Nat} (hd : zDj md pc .goto pc' tgt) (k : zZ E md X Qs Sh kc ks tgt ls st I L R) : zZ E md X Qs Sh kc ks pc ls st I L R := by
  obtain ⟨off, hd, -, ht⟩ := hd
  intro C hz H locs la hW hS hl
  exact lv_goto C.1 C.2.1 hd ht (k C hz H locs la hW hS hl)
/-- a field's link: own class's entry idx is the slot j (kind t) of class ci -/
def zFd (own : String) (idx ci j t : Nat) : Prop := ∃ (C : String) (T : u_T) (N : Nat) (ty0 : Nat → FieldType), vwCl[ci]? = some (C, T, N) ∧ (∀ w ∈ u_ws C T N, w ∈ lw_g) ∧ (∀ k, k < N → parseFieldDescriptor (T k).2.2.1 = some (ty0 k)) ∧ (∀ a, a < N → ∀ b, b < N → a ≠ b → (T a).2.1 ≠ (T b).2.1) ∧ j < N ∧ (T j).1 = C ∧ Cond.fieldLink own idx C (T j).2.1 (T j).2.2.1 ∈ lw_g ∧ (zft ci)[j]? = some t ∧ N = (zft ci).length
/-- a field that may be written: it isn't final, its type -/
def zPt (ci j : Nat) (fin : Bool) (ty : FieldType) : Prop := ∀ (C : String) (T : u_T) (N : Nat), vwCl[ci]? = some (C, T, N) → (T j).2.2.2 = fin ∧ parseFieldDescriptor (T j).2.2.1 = some ty
theorem z_get {idx ci j t q : Nat} (hd : zD md pc (.getfield idx) 3 pc') (hf : zFd md.1.cls idx ci j t) (hs : Sh[q]? = some (0, ci)) {v : Value} (hv : zfv E I L R q j t = ztr E v) (hq : q < 1000000)
    (k : zZ E md X Qs Sh kc ks pc' ls (v :: st) I L R) : zZ E md X Qs Sh kc ks pc ls (.ref q :: st) I L R := by
  obtain ⟨hd, rfl⟩ := hd
  obtain ⟨Cn, T, N, ty0, hc, hcl, -, -, hj, hT, hlk, hft, -⟩ := hf
  intro C hz H locs la hW hS hl
  have hk := k C hz H locs la hW hS hl
  have he : (zw E Sh I L R)[q]? = some (zad E q, .inr (ci, zfs E I L R q ci)) := by rw [zw_at hs, zad_lt hq]; rfl
  refine va_get (D := eD E) (cl := vwCl) (tys := zTy E) (C := Cn) (T := T) (N := N) (own := md.1.cls) (ref := Cn) (a := zad E q) C.1 C.2.1 C.2.2.2.2.1 hcl C.2.2.2.1 C.2.2.2.2.2.2.2.2.1.1 hW.2 q he hc j hj (C.2.2.2.2.1 _ hlk) (fun x h => by rw [← hT]; exact h) (zfs_at hft) hd ?_
  rw [hv]
  exact hk
theorem z_getI {idx ci j q : Nat} (hd : zD md pc (.getfield idx) 3 pc') (hf : zFd md.1.cls idx ci j 0) (hs : Sh[q]? = some (0, ci)) (hq : q < 1000000)
    (k : zZ E md X Qs Sh kc ks pc' ls (.int (I q j) :: st) I L R) : zZ E md X Qs Sh kc ks pc ls (.ref q :: st) I L R := z_get hd hf hs rfl hq k
theorem z_getL {idx ci j q : Nat} (hd : zD md pc (.getfield idx) 3 pc') (hf : zFd md.1.cls idx ci j 1) (hs : Sh[q]? = some (0, ci)) (hq : q < 1000000)
    (k : zZ E md X Qs Sh kc ks pc' ls (.long (L q j) :: st) I L R) : zZ E md X Qs Sh kc ks pc ls (.ref q :: st) I L R := z_get hd hf hs rfl hq k
theorem z_getR {idx ci j q a : Nat} (hd : zD md pc (.getfield idx) 3 pc') (hf : zFd md.1.cls idx ci j 2) (hs : Sh[q]? = some (0, ci)) (hq : q < 1000000) (hr : R q j = some a)
    (k : zZ E md X Qs Sh kc ks pc' ls (.ref a :: st) I L R) : zZ E md X Qs Sh kc ks pc ls (.ref q :: st) I L R := z_get hd hf hs (by simp [zfv, hr, va_rf, ztr]) hq k
theorem z_put {idx ci j t q : Nat} {ty : FieldType} {v : Value} {I' : zI} {L' : zL} {R' : zR} (hd : zD md pc (.putfield idx) 3 pc') (hf : zFd md.1.cls idx ci j t) (hp : zPt ci j false ty) (hn : narrow ty (ztr E v) = ztr E v) (hfit : fits ty (ztr E v) = true) (hs : Sh[q]? = some (0, ci)) (hq : q < 1000000)
    (h1 : ∀ p, p ≠ q → I' p = I p) (h2 : ∀ p, p ≠ q → L' p = L p) (h3 : ∀ p, p ≠ q → R' p = R p) (hv : ztr E v = zfv E I' L' R' q j t) (ho : ∀ j' t', j' ≠ j → zfv E I' L' R' q j' t' = zfv E I L R q j' t')
    (k : zZ E md X Qs Sh kc ks pc' ls st I' L' R') : zZ E md X Qs Sh kc ks pc ls (v :: .ref q :: st) I L R := by
  obtain ⟨hd, rfl⟩ := hd
  obtain ⟨Cn, T, N, ty0, hc, hcl, hty, hnm, hj, hT, hlk, hft, hN⟩ := hf
  obtain ⟨hfin, hpt⟩ := hp Cn T N hc
  intro C hz H locs la hW hS hl
  have he : (zw E Sh I L R)[q]? = some (zad E q, .inr (ci, zfs E I L R q ci)) := by rw [zw_at hs, zad_lt hq]; rfl
  refine va_put (D := eD E) (cl := vwCl) (tys := zTy E) (C := Cn) (T := T) (N := N) (own := md.1.cls) (ref := Cn) (a := zad E q) (v := ztr E v) C.1 C.2.1 C.2.2.2.2.1 hcl ty0 hty hnm C.2.2.2.1 C.2.2.2.2.2.2.2.2.1.1 hW.2 (zw_D E Sh I L R) hS q he hc j hj (C.2.2.2.2.1 _ hlk) (fun x h => by rw [← hT]; exact h) hfin hpt hn hfit (by rw [zfs_len, ← hN]; exact hj) hd (fun H1 locs1 hP1 _ hS1 => k C hz H1 locs1 la ⟨hW.1, ?_⟩ hS1 hl)
  rw [zad_lt hq, zw_set hs h1 h2 h3 (show _ = ze E I' L' R' q (0, ci) from by
    show Sum.inr (ci, _) = Sum.inr (ci, _)
    rw [zfs_set hft hv ho])] at hP1
  exact hP1
theorem z_putF {idx ci j t q : Nat} {ty : FieldType} {v : Value} {I' : zI} {L' : zL} {R' : zR} (hd : zD md pc (.putfield idx) 3 pc') (hf : zFd md.1.cls idx ci j t) (hp : zPt ci j true ty) (hin2 : md.1.name = "<init>") (hcd : ∀ (C : String) (T : u_T) (N : Nat), vwCl[ci]? = some (C, T, N) → C = md.1.cls) (hn : narrow ty (ztr E v) = ztr E v) (hfit : fits ty (ztr E v) = true) (hs : Sh[q]? = some (0, ci)) (hq : q < 1000000)
    (h1 : ∀ p, p ≠ q → I' p = I p) (h2 : ∀ p, p ≠ q → L' p = L p) (h3 : ∀ p, p ≠ q → R' p = R p) (hv : ztr E v = zfv E I' L' R' q j t) (ho : ∀ j' t', j' ≠ j → zfv E I' L' R' q j' t' = zfv E I L R q j' t')
    (k : zZ E md X Qs Sh kc ks pc' ls st I' L' R') : zZ E md X Qs Sh kc ks pc ls (v :: .ref q :: st) I L R := by
  obtain ⟨hd, rfl⟩ := hd
  obtain ⟨Cn, T, N, ty0, hc, hcl, hty, hnm, hj, hT, hlk, hft, hN⟩ := hf
  obtain ⟨hfin, hpt⟩ := hp Cn T N hc
  intro C hz H locs la hW hS hl
  have he : (zw E Sh I L R)[q]? = some (zad E q, .inr (ci, zfs E I L R q ci)) := by rw [zw_at hs, zad_lt hq]; rfl
  refine va_putF (D := eD E) (cl := vwCl) (tys := zTy E) (C := Cn) (T := T) (N := N) (own := md.1.cls) (ref := Cn) (a := zad E q) (v := ztr E v) C.1 C.2.1 C.2.2.2.2.1 hcl ty0 hty hnm C.2.2.2.1 C.2.2.2.2.2.2.2.2.1.1 hW.2 (zw_D E Sh I L R) hS q he hc j hj (C.2.2.2.2.1 _ hlk) (fun x h => by rw [← hT]; exact h) hfin (C.2.2.2.2.2.2.2.1.trans hin2) (hT.trans (hcd Cn T N hc)) hpt hn hfit (by rw [zfs_len, ← hN]; exact hj) hd (fun H1 locs1 hP1 _ hS1 => k C hz H1 locs1 la ⟨hW.1, ?_⟩ hS1 hl)
  rw [zad_lt hq, zw_set hs h1 h2 h3 (show _ = ze E I' L' R' q (0, ci) from by
    show Sum.inr (ci, _) = Sum.inr (ci, _)
    rw [zfs_set hft hv ho])] at hP1
  exact hP1
theorem z_oI {q j : Nat} {x : Int32} : ∀ j' t', j' ≠ j → zfv E (zi I q j x) L R q j' t' = zfv E I L R q j' t' := by
  intro j' t' h
  unfold zfv
  split <;> simp [zi_eq, va_up, h]
theorem z_oL {q j : Nat} {x : Int64} : ∀ j' t', j' ≠ j → zfv E I (zj L q j x) R q j' t' = zfv E I L R q j' t' := by
  intro j' t' h
  unfold zfv
  split <;> simp [zj_eq, va_up, h]
theorem z_oR {q j : Nat} {x : Option Nat} : ∀ j' t', j' ≠ j → zfv E I L (zr R q j x) q j' t' = zfv E I L R q j' t' := by
  intro j' t' h
  unfold zfv
  split <;> simp [zr_eq, va_up, h]
theorem z_putI {idx ci j q : Nat} {x : Int32} (hd : zD md pc (.putfield idx) 3 pc') (hf : zFd md.1.cls idx ci j 0) (hp : zPt ci j false .int) (hs : Sh[q]? = some (0, ci)) (hq : q < 1000000)
    (k : zZ E md X Qs Sh kc ks pc' ls st (zi I q j x) L R) : zZ E md X Qs Sh kc ks pc ls (.int x :: .ref q :: st) I L R :=
  z_put hd hf hp rfl rfl hs hq (fun p h => zi_ne h) (fun _ _ => rfl) (fun _ _ => rfl) (by simp [zfv, zi_eq, va_up, ztr]) z_oI k
theorem z_putL {idx ci j q : Nat} {x : Int64} (hd : zD md pc (.putfield idx) 3 pc') (hf : zFd md.1.cls idx ci j 1) (hp : zPt ci j false .long) (hs : Sh[q]? = some (0, ci)) (hq : q < 1000000)
    (k : zZ E md X Qs Sh kc ks pc' ls st I (zj L q j x) R) : zZ E md X Qs Sh kc ks pc ls (.long x :: .ref q :: st) I L R :=
  z_put hd hf hp rfl rfl hs hq (fun _ _ => rfl) (fun p h => zj_ne h) (fun _ _ => rfl) (by simp [zfv, zj_eq, va_up, ztr]) z_oL k
theorem z_putR {idx ci j q a : Nat} {ty : FieldType} (hd : zD md pc (.putfield idx) 3 pc') (hf : zFd md.1.cls idx ci j 2) (hp : zPt ci j false ty) (hn : ∀ a, narrow ty (.ref a) = .ref a) (hfit : ∀ a, fits ty (.ref a) = true) (hs : Sh[q]? = some (0, ci)) (hq : q < 1000000)
    (k : zZ E md X Qs Sh kc ks pc' ls st I L (zr R q j (some a))) : zZ E md X Qs Sh kc ks pc ls (.ref a :: .ref q :: st) I L R :=
  z_put hd hf hp (hn _) (hfit _) hs hq (fun _ _ => rfl) (fun _ _ => rfl) (fun p h => zr_ne h) (by simp [zfv, zr_eq, va_up, ztr, va_rf]) z_oR k
theorem z_putFR {idx ci j q a : Nat} {ty : FieldType} (hd : zD md pc (.putfield idx) 3 pc') (hf : zFd md.1.cls idx ci j 2) (hp : zPt ci j true ty) (hin2 : md.1.name = "<init>") (hcd : ∀ (C : String) (T : u_T) (N : Nat), vwCl[ci]? = some (C, T, N) → C = md.1.cls) (hn : ∀ a, narrow ty (.ref a) = .ref a) (hfit : ∀ a, fits ty (.ref a) = true) (hs : Sh[q]? = some (0, ci)) (hq : q < 1000000)
    (k : zZ E md X Qs Sh kc ks pc' ls st I L (zr R q j (some a))) : zZ E md X Qs Sh kc ks pc ls (.ref a :: .ref q :: st) I L R :=
  z_putF hd hf hp hin2 hcd (hn _) (hfit _) hs hq (fun _ _ => rfl) (fun _ _ => rfl) (fun p h => zr_ne h) (by simp [zfv, zr_eq, va_up, ztr, va_rf]) z_oR k
theorem zA_at {q : Nat} {t : Nat × Nat} (hs : Sh[q]? = some t) (hq : q < 1000000) {e : va_E} (he : ze E I L R q t = e) : (zw E Sh I L R)[q]? = some (zad E q, e) := by rw [zw_at hs, zad_lt hq, he]
theorem z_iaload {n j q : Nat} {i : Int32} (hd : zD md pc .iaload 1 pc') (hs : Sh[q]? = some (2, n)) (hq : q < 1000000) (hx : zix i n j) (k : zZ E md X Qs Sh kc ks pc' ls (.int (I q j) :: st) I L R) : zZ E md X Qs Sh kc ks pc ls (.int i :: .ref q :: st) I L R := by
  obtain ⟨hd, rfl⟩ := hd
  intro C hz H locs la hW hS hl
  refine va_iald (D := eD E) (cl := vwCl) (tys := zTy E) (f := I q) C.1 C.2.1 C.2.2.2.2.2.2.2.2.1.1 hW.2 q 1 (zA_at hs hq rfl) rfl hx.inn hd ?_
  rw [hx.2.1]
  exact k C hz H locs la hW hS hl
theorem z_baload {n j q : Nat} {i : Int32} (hd : zD md pc .baload 1 pc') (hs : Sh[q]? = some (1, n)) (hq : q < 1000000) (hx : zix i n j) (k : zZ E md X Qs Sh kc ks pc' ls (.int (I q j) :: st) I L R) : zZ E md X Qs Sh kc ks pc ls (.int i :: .ref q :: st) I L R := by
  obtain ⟨hd, rfl⟩ := hd
  intro C hz H locs la hW hS hl
  refine va_bald (D := eD E) (cl := vwCl) (tys := zTy E) (f := I q) C.1 C.2.1 C.2.2.2.2.2.2.2.2.1.1 hW.2 q 0 (zA_at hs hq rfl) rfl hx.inn hd ?_
  rw [hx.2.1]
  exact k C hz H locs la hW hS hl
theorem z_zaload {n j q : Nat} {i : Int32} (hd : zD md pc .baload 1 pc') (hs : Sh[q]? = some (4, n)) (hq : q < 1000000) (hx : zix i n j) (k : zZ E md X Qs Sh kc ks pc' ls (.int (I q j) :: st) I L R) : zZ E md X Qs Sh kc ks pc ls (.int i :: .ref q :: st) I L R := by
  obtain ⟨hd, rfl⟩ := hd
  intro C hz H locs la hW hS hl
  refine va_zald (D := eD E) (cl := vwCl) (tys := zTy E) (f := I q) C.1 C.2.1 C.2.2.2.2.2.2.2.2.1.1 hW.2 q 3 (zA_at hs hq rfl) rfl hx.inn hd ?_
  rw [hx.2.1]
  exact k C hz H locs la hW hS hl
theorem z_laload {n j q : Nat} {i : Int32} (hd : zD md pc .laload 1 pc') (hs : Sh[q]? = some (3, n)) (hq : q < 1000000) (hx : zix i n j) (k : zZ E md X Qs Sh kc ks pc' ls (.long (L q j) :: st) I L R) : zZ E md X Qs Sh kc ks pc ls (.int i :: .ref q :: st) I L R := by
  obtain ⟨hd, rfl⟩ := hd
  intro C hz H locs la hW hS hl
  refine va_lald (D := eD E) (cl := vwCl) (tys := zTy E) (f := L q) C.1 C.2.1 C.2.2.2.2.2.2.2.2.1.1 hW.2 q 2 (zA_at hs hq rfl) rfl hx.inn hd ?_
  rw [hx.2.1]
  exact k C hz H locs la hW hS hl
theorem z_aaload5 {n j q a : Nat} {i : Int32} (hd : zD md pc .aaload 1 pc') (hs : Sh[q]? = some (5, n)) (hq : q < 1000000) (hx : zix i n j) (hr : R q j = some a) (k : zZ E md X Qs Sh kc ks pc' ls (.ref a :: st) I L R) : zZ E md X Qs Sh kc ks pc ls (.int i :: .ref q :: st) I L R := by
  obtain ⟨hd, rfl⟩ := hd
  intro C hz H locs la hW hS hl
  refine va_aldq (D := eD E) (cl := vwCl) (tys := zTy E) (f := fun j => (R q j).map (zad E)) C.1 C.2.1 C.2.2.2.2.2.2.2.2.1.1 hW.2 q 4 (zA_at hs hq rfl) rfl hx.inn hd ?_
  rw [hx.2.1, hr]
  exact k C hz H locs la hW hS hl
theorem z_aaload6 {n j q a : Nat} {i : Int32} (hd : zD md pc .aaload 1 pc') (hs : Sh[q]? = some (6, n)) (hq : q < 1000000) (hx : zix i n j) (hr : R q j = some a) (k : zZ E md X Qs Sh kc ks pc' ls (.ref a :: st) I L R) : zZ E md X Qs Sh kc ks pc ls (.int i :: .ref q :: st) I L R := by
  obtain ⟨hd, rfl⟩ := hd
  intro C hz H locs la hW hS hl
  refine va_aldq (D := eD E) (cl := vwCl) (tys := zTy E) (f := fun j => (R q j).map (zad E)) C.1 C.2.1 C.2.2.2.2.2.2.2.2.1.1 hW.2 q 5 (zA_at hs hq rfl) rfl hx.inn hd ?_
  rw [hx.2.1, hr]
  exact k C hz H locs la hW hS hl
theorem z_iastore {n j q : Nat} {i x : Int32} (hd : zD md pc .iastore 1 pc') (hs : Sh[q]? = some (2, n)) (hq : q < 1000000) (hx : zix i n j) (k : zZ E md X Qs Sh kc ks pc' ls st (zi I q j x) L R) : zZ E md X Qs Sh kc ks pc ls (.int x :: .int i :: .ref q :: st) I L R := by
  obtain ⟨hd, rfl⟩ := hd
  intro C hz H locs la hW hS hl
  refine va_iast (D := eD E) (cl := vwCl) (tys := zTy E) (f := I q) C.1 C.2.1 C.2.2.2.2.2.2.2.2.1.1 hW.2 (zw_D E Sh I L R) hS q 1 (zA_at hs hq rfl) rfl hx.inn hd (fun H1 locs1 hP1 _ hS1 => k C hz H1 locs1 la ⟨hW.1, ?_⟩ hS1 hl)
  rw [zad_lt hq, hx.2.1, zw_set (I' := zi I q j x) (L' := L) (R' := R) hs (fun p h => zi_ne h) (fun _ _ => rfl) (fun _ _ => rfl) (show _ = ze E (zi I q j x) L R q (2, n) from by
    show Sum.inl (eY E 2, n, Sum.inl (upd (I q) j x)) = Sum.inl (eY E 2, n, Sum.inl (zi I q j x q))
    rw [zi_eq]; rfl)] at hP1
  exact hP1
theorem z_bastore {n j q : Nat} {i x : Int32} (hd : zD md pc .bastore 1 pc') (hs : Sh[q]? = some (1, n)) (hq : q < 1000000) (hx : zix i n j) (k : zZ E md X Qs Sh kc ks pc' ls st (zi I q j (vp_nar .byte x)) L R) : zZ E md X Qs Sh kc ks pc ls (.int x :: .int i :: .ref q :: st) I L R := by
  obtain ⟨hd, rfl⟩ := hd
  intro C hz H locs la hW hS hl
  refine va_bast (D := eD E) (cl := vwCl) (tys := zTy E) (f := I q) C.1 C.2.1 C.2.2.2.2.2.2.2.2.1.1 hW.2 (zw_D E Sh I L R) hS q 0 (zA_at hs hq rfl) rfl hx.inn hd (fun H1 locs1 hP1 _ hS1 => k C hz H1 locs1 la ⟨hW.1, ?_⟩ hS1 hl)
  rw [zad_lt hq, hx.2.1, zw_set (I' := zi I q j (vp_nar .byte x)) (L' := L) (R' := R) hs (fun p h => zi_ne h) (fun _ _ => rfl) (fun _ _ => rfl) (show _ = ze E (zi I q j (vp_nar .byte x)) L R q (1, n) from by
    show Sum.inl (eY E 1, n, Sum.inl (upd (I q) j (vp_nar .byte x))) = Sum.inl (eY E 1, n, Sum.inl (zi I q j (vp_nar .byte x) q))
    rw [zi_eq]; rfl)] at hP1
  exact hP1
theorem z_zastore {n j q : Nat} {i x : Int32} (hd : zD md pc .bastore 1 pc') (hs : Sh[q]? = some (4, n)) (hq : q < 1000000) (hx : zix i n j) (k : zZ E md X Qs Sh kc ks pc' ls st (zi I q j (vp_nar .boolean x)) L R) : zZ E md X Qs Sh kc ks pc ls (.int x :: .int i :: .ref q :: st) I L R := by
  obtain ⟨hd, rfl⟩ := hd
  intro C hz H locs la hW hS hl
  refine va_zast (D := eD E) (cl := vwCl) (tys := zTy E) (f := I q) C.1 C.2.1 C.2.2.2.2.2.2.2.2.1.1 hW.2 (zw_D E Sh I L R) hS q 3 (zA_at hs hq rfl) rfl hx.inn hd (fun H1 locs1 hP1 _ hS1 => k C hz H1 locs1 la ⟨hW.1, ?_⟩ hS1 hl)
  rw [zad_lt hq, hx.2.1, zw_set (I' := zi I q j (vp_nar .boolean x)) (L' := L) (R' := R) hs (fun p h => zi_ne h) (fun _ _ => rfl) (fun _ _ => rfl) (show _ = ze E (zi I q j (vp_nar .boolean x)) L R q (4, n) from by
    show Sum.inl (eY E 4, n, Sum.inl (upd (I q) j (vp_nar .boolean x))) = Sum.inl (eY E 4, n, Sum.inl (zi I q j (vp_nar .boolean x) q))
    rw [zi_eq]; rfl)] at hP1
  exact hP1
theorem z_lastore {n j q : Nat} {i : Int32} {x : Int64} (hd : zD md pc .lastore 1 pc') (hs : Sh[q]? = some (3, n)) (hq : q < 1000000) (hx : zix i n j) (k : zZ E md X Qs Sh kc ks pc' ls st I (zj L q j x) R) : zZ E md X Qs Sh kc ks pc ls (.long x :: .int i :: .ref q :: st) I L R := by
  obtain ⟨hd, rfl⟩ := hd
  intro C hz H locs la hW hS hl
  refine va_last (D := eD E) (cl := vwCl) (tys := zTy E) (f := L q) C.1 C.2.1 C.2.2.2.2.2.2.2.2.1.1 hW.2 (zw_D E Sh I L R) hS q 2 (zA_at hs hq rfl) rfl hx.inn hd (fun H1 locs1 hP1 _ hS1 => k C hz H1 locs1 la ⟨hW.1, ?_⟩ hS1 hl)
  rw [zad_lt hq, hx.2.1, zw_set (I' := I) (L' := zj L q j x) (R' := R) hs (fun _ _ => rfl) (fun p h => zj_ne h) (fun _ _ => rfl) (show _ = ze E I (zj L q j x) R q (3, n) from by
    show Sum.inl (eY E 3, n, Sum.inr (Sum.inl (vp_updL (L q) j x))) = Sum.inl (eY E 3, n, Sum.inr (Sum.inl (zj L q j x q)))
    rw [zj_eq]; rfl)] at hP1
  exact hP1
theorem z_alenI {n q : Nat} (hd : zD md pc .arraylength 1 pc') (hs : Sh[q]? = some (2, n)) (hq : q < 1000000) (k : zZ E md X Qs Sh kc ks pc' ls (.int (nI n) :: st) I L R) : zZ E md X Qs Sh kc ks pc ls (.ref q :: st) I L R := by
  obtain ⟨hd, rfl⟩ := hd
  intro C hz H locs la hW hS hl
  exact va_alen (D := eD E) (cl := vwCl) (tys := zTy E) C.1 C.2.1 C.2.2.2.2.2.2.2.2.1.1 hW.2 q 1 (zA_at hs hq rfl) rfl (v := nI n) rfl hd (k C hz H locs la hW hS hl)
theorem z_alenL {n q : Nat} (hd : zD md pc .arraylength 1 pc') (hs : Sh[q]? = some (3, n)) (hq : q < 1000000) (k : zZ E md X Qs Sh kc ks pc' ls (.int (nI n) :: st) I L R) : zZ E md X Qs Sh kc ks pc ls (.ref q :: st) I L R := by
  obtain ⟨hd, rfl⟩ := hd
  intro C hz H locs la hW hS hl
  exact va_alen (D := eD E) (cl := vwCl) (tys := zTy E) C.1 C.2.1 C.2.2.2.2.2.2.2.2.1.1 hW.2 q 2 (zA_at hs hq rfl) rfl (v := nI n) rfl hd (k C hz H locs la hW hS hl)
theorem z_ldc2 {idx : Nat} {v : Int64} (hd : zD md pc (.ldc2_w idx) 3 pc') (hc : Cond.constantLong md.1.cls idx v ∈ lw_g) (k : zZ E md X Qs Sh kc ks pc' ls (.long v :: st) I L R) : zZ E md X Qs Sh kc ks pc ls st I L R := by
  obtain ⟨hd, rfl⟩ := hd
  intro C hz H locs la hW hS hl
  exact lv_ldc2 C.1 C.2.1 C.2.2.2.1 (C.2.2.2.2.1 _ hc) hd (k C hz H locs la hW hS hl)
theorem z_tabOut {dflt lo hi : Int} {offs : Array Int} {len tgt : Nat} {x : Int32} (hd : decode (zcc md) pc = .ok (.tableswitch dflt lo hi offs, len)) (h : x.toInt < lo ∨ hi < x.toInt) (ht : (pc : Int) + dflt = (tgt : Int)) (k : zZ E md X Qs Sh kc ks tgt ls st I L R) : zZ E md X Qs Sh kc ks pc ls (.int x :: st) I L R := by
  intro C hz H locs la hW hS hl
  exact lv_tableOut C.1 C.2.1 hd h ht (k C hz H locs la hW hS hl)
theorem z_tabIn {dflt lo hi off : Int} {offs : Array Int} {len tgt : Nat} {x : Int32} (hd : decode (zcc md) pc = .ok (.tableswitch dflt lo hi offs, len)) (h1 : ¬ x.toInt < lo) (h2 : ¬ hi < x.toInt) (ho : offs[(x.toInt - lo).toNat]? = some off) (ht : (pc : Int) + off = (tgt : Int)) (k : zZ E md X Qs Sh kc ks tgt ls st I L R) : zZ E md X Qs Sh kc ks pc ls (.int x :: st) I L R := by
  intro C hz H locs la hW hS hl
  exact lv_tableIn C.1 C.2.1 hd h1 h2 ho ht (k C hz H locs la hW hS hl)
theorem z_ldcS {idx i : Nat} {tx : String} (hd : zD md pc (.ldc idx) 2 pc') (hi : zStrs[i]? = some (idx, tx)) (hcls : md.1.cls = RX4) (hi2 : 1000000 + (i + 1) ≥ 1000000) (k : zZ E md X Qs Sh kc ks pc' ls (.ref (1000000 + (i + 1)) :: st) I L R) : zZ E md X Qs Sh kc ks pc ls st I L R := by
  obtain ⟨hd, rfl⟩ := hd
  intro C hz H locs la hW hS hl
  have hk := k C hz H locs la hW hS hl
  have hr := C.2.2.2.2.2.2.2.2.1.2.2.2 i _ hi
  rw [← hcls] at hr
  refine va_ldcS C.1 C.2.1 C.2.2.2.1 hr hd ?_
  have e : ztr E (.ref (1000000 + (i + 1))) = .ref (eF E (i + 1)) := by
    show Value.ref (zad E _) = _
    unfold zad
    rw [if_neg (by omega), Nat.add_sub_cancel_left]
  rw [List.map_cons, e] at hk
  exact hk
end ZROWS
