/-! THE LITTLE MACHINE: a world is a list of shapes (position k is the cell at base + k), and what its cells hold: ints, longs, references by position. -/
abbrev zE : Type := Launch × Nat × (Nat → Nat) × (Nat → Nat) × (Nat → ClassId) × (Nat → Nat → Nat) × (Nat → ClassId)
abbrev zMD : Type := MethodName × ByteArray × Nat × Option FieldType × Room × Nat × Nat
abbrev zX : Type := Program × Env × State × MethodId × Array Value × List Frame × Method × Code
abbrev zI : Type := Nat → Nat → Int32
abbrev zL : Type := Nat → Nat → Int64
abbrev zR : Type := Nat → Nat → Option Nat
abbrev zSh : Type := List (Nat × Nat)
abbrev eL (E : zE) : Launch := E.1
abbrev eB (E : zE) : Nat := E.2.1
abbrev eF (E : zE) : Nat → Nat := E.2.2.1
abbrev eV (E : zE) : Nat → Nat := E.2.2.2.1
abbrev eD (E : zE) : va_G := (E.2.2.2.2.1, E.2.2.2.2.2.1)
abbrev eY (E : zE) : Nat → ClassId := E.2.2.2.2.2.2
abbrev zA (E : zE) : Nat → Prop := fun q => eB E ≤ q
def zad (E : zE) (k : Nat) : Nat := if k < 1000000 then eB E + k else eF E (k - 1000000)
def ztr (E : zE) (v : Value) : Value := match v with
  | .ref k => .ref (zad E k)
  | w => w
theorem ztr_cat (E : zE) (v : Value) : (ztr E v).category = v.category := by cases v <;> rfl
def zft (ci : Nat) : List Nat := match ci with
  | 0 => [2, 2, 2, 2, 1, 1, 1]
  | 1 => [0, 0, 0, 0, 0, 2, 2, 0, 2, 2, 2, 2, 2]
  | 2 => [2, 2, 0, 0]
  | 3 => [2, 2, 2, 2, 0]
  | 4 => [2, 2, 2, 2, 0, 0, 0, 0, 0, 0, 0]
  | 5 => [2, 0, 0]
  | 6 => [2, 0]
  | 7 => [2, 2, 2, 2, 2, 2, 2, 2, 2, 2, 0]
  | 8 => [2, 2, 2, 2, 2, 2, 0, 2, 2, 2, 2, 2, 0, 2, 0, 0, 2, 0, 0, 0, 0, 0, 0, 0, 2, 2, 0, 0, 0, 0, 2, 2, 2, 2, 2, 0]
  | _ => []
def zfv (E : zE) (I : zI) (L : zL) (R : zR) (k j t : Nat) : Value := match t with
  | 0 => .int (I k j)
  | 1 => .long (L k j)
  | _ => va_rf ((R k j).map (zad E))
def zfs (E : zE) (I : zI) (L : zL) (R : zR) (k ci : Nat) : List Value := (zft ci).mapIdx (fun j t => zfv E I L R k j t)
def ze (E : zE) (I : zI) (L : zL) (R : zR) (k : Nat) (t : Nat × Nat) : va_E := match t.1 with
  | 0 => .inr (t.2, zfs E I L R k t.2)
  | 3 => .inl (eY E 3, t.2, .inr (.inl (L k)))
  | 5 => .inl (eY E 5, t.2, .inr (.inr (.inr (.inr (fun j => (R k j).map (zad E))))))
  | 6 => .inl (eY E 6, t.2, .inr (.inr (.inr (.inr (fun j => (R k j).map (zad E))))))
  | q => .inl (eY E q, t.2, .inl (I k))
def zw (E : zE) (Sh : zSh) (I : zI) (L : zL) (R : zR) : va_W := Sh.mapIdx (fun k t => (eB E + k, ze E I L R k t))
theorem zw_at {E : zE} {Sh : zSh} {I : zI} {L : zL} {R : zR} {k : Nat} {t : Nat × Nat} (h : Sh[k]? = some t) : (zw E Sh I L R)[k]? = some (eB E + k, ze E I L R k t) := by
  simp [zw, List.getElem?_mapIdx, h]
theorem zad_lt {E : zE} {k : Nat} (h : k < 1000000) : zad E k = eB E + k := if_pos h
/-- the fields' kinds are those of the class tables -/
def zTy (E : zE) : List (ClassId × FieldType) := [(eY E 1, .byte), (eY E 2, .int), (eY E 3, .long), (eY E 4, .boolean), (eY E 5, .object RX0), (eY E 6, .object RX5)]
def zNest : List (String × Nat × MethodName × String) := [("BucketSheet", 11, ⟨"BucketSheet$Tape", "<init>", "()V"⟩, "BucketSheet"), ("BucketSheet", 34, ⟨"BucketSheet$Charge", "<init>", "()V"⟩, "BucketSheet"), ("BucketSheet", 49, ⟨"BucketSheet$Picture", "<init>", "()V"⟩, "BucketSheet"), ("BucketSheet$Picture", 11, ⟨"BucketSheet$Charge", "<init>", "()V"⟩, "BucketSheet"), ("BucketSheet", 59, ⟨"BucketSheet$Gates", "<init>", "()V"⟩, "BucketSheet"), ("BucketSheet", 70, ⟨"BucketSheet$Sheet", "<init>", "()V"⟩, "BucketSheet"), ("BucketSheet$Charge", 69, ⟨"BucketSheet", "isWell", "(I)Z"⟩, "BucketSheet"), ("BucketSheet$Picture", 35, ⟨"BucketSheet", "binsOf", "(II)I"⟩, "BucketSheet"), ("BucketSheet$Picture", 63, ⟨"BucketSheet", "valueOf", "(ILBucketSheet$Plan;)I"⟩, "BucketSheet")]
def zStrs : List (Nat × String) := [(127, "row"), (129, "hot"), (130, "trap"), (131, "cap"), (133, "dark"), (135, "drain"), (137, "smear"), (139, "gain"), (141, "phases"), (143, "clock")]
def zSlen : List Nat := [3, 3, 4, 3, 4, 5, 5, 4, 6, 5]
def zSbyt : List (List Int32) := [[114, 111, 119], [104, 111, 116], [116, 114, 97, 112], [99, 97, 112], [100, 97, 114, 107], [100, 114, 97, 105, 110], [115, 109, 101, 97, 114], [103, 97, 105, 110], [112, 104, 97, 115, 101, 115], [99, 108, 111, 99, 107]]
/-- what holds of the tables, wherever the run is -/
def zKK (E : zE) (U : State) : Prop := va_K (eD E) vwCl (zTy E) U ∧ (∀ q ∈ zNest, va_Nw (.methodLinkNest q.1 q.2.1 q.2.2.1 q.2.2.2) U) ∧ (va_AO RX0 U ∧ va_AO RX5 U) ∧ ∀ (i : Nat) (q : Nat × String), zStrs[i]? = some q → vk_R RX4 q.1 q.2 (eF E (i + 1)) U
/-- what holds of old cells, wherever the run is -/
def zFo (E : zE) (U : State) (H : Heap) : Prop := vk_S 10 zSlen zSbyt (fun i => eF E (i + 1)) (fun i => eF E (i + 100)) (zA E) U H ∧ va_Z "java/lang/String" "COMPACT_STRINGS" "Z" (.int 1) (zA E) U H ∧ (va_Z "jdk/internal/util/Preconditions" "SIOOBE_FORMATTER" "Ljava/util/function/BiFunction;" .null (zA E) U H ∨ va_Z "jdk/internal/util/Preconditions" "SIOOBE_FORMATTER" "Ljava/util/function/BiFunction;" (.ref (eF E 200)) (zA E) U H)
theorem zKK.warm {E : zE} {s U : State} (hW : s.WarmedH U.vm) (h : zKK E s) : zKK E U :=
  ⟨va_K.moved hW.alike h.1, fun q hq => va_Nw.warmM hW (h.2.1 q hq), ⟨va_AO.moved hW.alike h.2.2.1.1, va_AO.moved hW.alike h.2.2.1.2⟩, fun i q hq => vk_R.warm hW (h.2.2.2 i q hq)⟩
theorem zKK.same {E : zE} {s U : State} (hv : U.vm = s.vm) (h : zKK E s) : zKK E U :=
  ⟨va_K.moved (u := s) (U := U) (by rw [hv]; exact Vm.Alike.refl s.vm) h.1, fun q hq => va_Nw.same rfl hv.symm (h.2.1 q hq), ⟨va_AO.moved (u := s) (by rw [hv]; exact Vm.Alike.refl s.vm) h.2.2.1.1, va_AO.moved (u := s) (by rw [hv]; exact Vm.Alike.refl s.vm) h.2.2.1.2⟩, fun i q hq => vk_R.same hv (h.2.2.2 i q hq)⟩
theorem zFo.moved {E : zE} {u U : State} {H : Heap} (hvm : u.vm.Alike U.vm) (h : zFo E u H) : zFo E U H :=
  ⟨vk_S.moved hvm h.1, va_Z.moved hvm h.2.1, h.2.2.elim (fun z => Or.inl (va_Z.moved hvm z)) (fun z => Or.inr (va_Z.moved hvm z))⟩
theorem zFo.kept {E : zE} {U : State} {H H1 : Heap} (h : zFo E U H) (hq : ∀ a : Nat, a < H.size → ¬ zA E a → H1[a]? = H[a]?) : zFo E U H1 :=
  ⟨vk_S.kept h.1 hq, h.2.1.kept hq, h.2.2.elim (fun z => Or.inl (z.kept hq)) (fun z => Or.inr (z.kept hq))⟩
/-- the world in the heap -/
def zWd (E : zE) (Sh : zSh) (I : zI) (L : zL) (R : zR) (H : Heap) : Prop := Sh.length ≤ 1000000 ∧ va_P (eD E) vwCl (zw E Sh I L R) H
theorem zw_D (E : zE) (Sh : zSh) (I : zI) (L : zL) (R : zR) : va_D (zA E) (zw E Sh I L R) := by
  have key : ∀ (k : Nat) (q : Nat × va_E), (zw E Sh I L R)[k]? = some q → q.1 = eB E + k := by
    intro k q h
    simp only [zw, List.getElem?_mapIdx, Option.map_eq_some_iff] at h
    obtain ⟨t, -, rfl⟩ := h
    rfl
  refine ⟨fun i j p q hi hj e => ?_, fun k q hk => ?_⟩
  · rw [key i p hi, key j q hj] at e
    omega
  · show eB E ≤ q.1
    rw [key k q hk]
    omega
/-- locals: what is known of each slot -/
def zas (E : zE) : Nat → List (Option Value) → List (Nat × Value)
  | _, [] => []
  | i, none :: t => zas E (i + 1) t
  | i, some v :: t => (i, ztr E v) :: zas E (i + 1) t
def zl (E : zE) (la : Array Slot) (n : Nat) (ls : List (Option Value)) : Prop := ls.length = n ∧ lv_has la n (zas E 0 ls)
theorem zas_mem {E : zE} : ∀ {ls : List (Option Value)} {j : Nat} {q : Nat × Value}, q ∈ zas E j ls ↔ ∃ (i : Nat) (v : Value), ls[i]? = some (some v) ∧ q = (j + i, ztr E v)
  | [], j, q => by simp [zas]
  | none :: t, j, q => by
    rw [show zas E j (none :: t) = zas E (j + 1) t from rfl, zas_mem]
    constructor
    · rintro ⟨i, v, h, rfl⟩
      exact ⟨i + 1, v, by simpa using h, by rw [show j + 1 + i = j + (i + 1) by omega]⟩
    · rintro ⟨i, v, h, rfl⟩
      cases i with
      | zero => simp at h
      | succ i => exact ⟨i, v, by simpa using h, by rw [show j + 1 + i = j + (i + 1) by omega]⟩
  | some w :: t, j, q => by
    rw [show zas E j (some w :: t) = (j, ztr E w) :: zas E (j + 1) t from rfl, List.mem_cons, zas_mem]
    constructor
    · rintro (rfl | ⟨i, v, h, rfl⟩)
      · exact ⟨0, w, rfl, rfl⟩
      · exact ⟨i + 1, v, by simpa using h, by rw [show j + 1 + i = j + (i + 1) by omega]⟩
    · rintro ⟨i, v, h, rfl⟩
      cases i with
      | zero => simp at h; subst h; exact Or.inl rfl
      | succ i => exact Or.inr ⟨i, v, by simpa using h, by rw [show j + 1 + i = j + (i + 1) by omega]⟩
theorem zl_at {E : zE} {la : Array Slot} {n : Nat} {ls : List (Option Value)} (h : zl E la n ls) {i : Nat} {v : Value} (hi : ls[i]? = some (some v)) : la[i]? = some (.val (ztr E v)) := by
  have := h.2.2.2 (i, ztr E v) (zas_mem.mpr ⟨i, v, hi, by simp⟩)
  exact this
def zc1 (v : Option Value) : Bool := match v with
  | some (.long _) => false
  | some (.double _) => false
  | _ => true
theorem zc1_cat {E : zE} {w : Value} (h : zc1 (some w) = true) : (ztr E w).category = 1 := by cases w <;> simp_all [zc1, ztr, Value.category]
theorem zl_set1 {E : zE} {la la' : Array Slot} {n i : Nat} {ls : List (Option Value)} {v : Value} (h : zl E la n ls) (hp : ∀ j, i = j + 1 → zc1 (ls[j]?.getD none) = true)
    (h' : lv_has la' n ((i, ztr E v) :: (zas E 0 ls).filter (fun q => !(q.1 == i) && !(q.1 + 1 == i && q.2.category == 2)))) : zl E la' n (ls.set i (some v)) := by
  refine ⟨by rw [List.length_set]; exact h.1, h'.1, h'.2.1, fun q hq => h'.2.2 q ?_⟩
  obtain ⟨j, w, hj, rfl⟩ := zas_mem.mp hq
  simp only [Nat.zero_add]
  by_cases e : j = i
  · subst e
    rw [List.getElem?_set_self' ] at hj
    cases hls : ls[j]? with
    | none => rw [hls] at hj; simp at hj
    | some y => rw [hls] at hj; simp at hj; subst hj; exact List.mem_cons_self
  · rw [List.getElem?_set_ne (fun z => e z.symm)] at hj
    refine List.mem_cons_of_mem _ (List.mem_filter.mpr ⟨zas_mem.mpr ⟨j, w, hj, by simp⟩, ?_⟩)
    by_cases e2 : j + 1 = i
    · have hz := hp j e2.symm
      rw [hj] at hz
      simp [e, zc1_cat (E := E) hz]
    · simp [e, e2]
theorem zl_set2 {E : zE} {la la' : Array Slot} {n i : Nat} {ls : List (Option Value)} {v : Value} (h : zl E la n ls) (hp : ∀ j, i = j + 1 → zc1 (ls[j]?.getD none) = true)
    (h' : lv_has la' n ((i, ztr E v) :: (zas E 0 ls).filter (fun q => !(q.1 == i) && (!(q.1 == i + 1) && !(q.1 + 1 == i && q.2.category == 2))))) : zl E la' n ((ls.set i (some v)).set (i + 1) none) := by
  refine ⟨by rw [List.length_set, List.length_set]; exact h.1, h'.1, h'.2.1, fun q hq => h'.2.2 q ?_⟩
  obtain ⟨j, w, hj, rfl⟩ := zas_mem.mp hq
  simp only [Nat.zero_add]
  by_cases e1 : j = i + 1
  · subst e1
    rw [List.getElem?_set_self'] at hj
    cases hls : (ls.set i (some v))[i + 1]? with
    | none => rw [hls] at hj; simp at hj
    | some y => rw [hls] at hj; simp at hj
  rw [List.getElem?_set_ne (fun z => e1 z.symm)] at hj
  by_cases e : j = i
  · subst e
    rw [List.getElem?_set_self' ] at hj
    cases hls : ls[j]? with
    | none => rw [hls] at hj; simp at hj
    | some y => rw [hls] at hj; simp at hj; subst hj; exact List.mem_cons_self
  · rw [List.getElem?_set_ne (fun z => e z.symm)] at hj
    refine List.mem_cons_of_mem _ (List.mem_filter.mpr ⟨zas_mem.mpr ⟨j, w, hj, by simp⟩, ?_⟩)
    by_cases e2 : j + 1 = i
    · have hz := hp j e2.symm
      rw [hj] at hz
      simp [e, e1, zc1_cat (E := E) hz]
    · simp [e, e1, e2]
