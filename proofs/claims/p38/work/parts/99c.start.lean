/-! THE START: what the claim gives, as the little machine wants it -/
abbrev tmS (i : Nat) : Term := .string RX4 (zStrs.getD i (0, "")).1
abbrev fl1 : List Cond := flatC (Jvm.Cond.and given_1 narrow_1)
theorem so_ex : ∀ i : Nat, i < 10 → Cond.exactly (tmS i) "java/lang/String" ∈ fl1 := by decide +kernel
theorem so_co : ∀ i : Nat, i < 10 → Cond.eq (.field (tmS i) "java/lang/String" "coder" "B") (.int 0) ∈ fl1 := by decide +kernel
theorem so_ar : ∀ i : Nat, i < 10 → Cond.arrayOf (.field (tmS i) "java/lang/String" "value" "[B") .byte ∈ fl1 := by decide +kernel
theorem so_le : ∀ i : Nat, i < 10 → Cond.eq (.length (.field (tmS i) "java/lang/String" "value" "[B")) (.int (Int32.ofNat (zSlen.getD i 0))) ∈ fl1 := by decide +kernel
theorem so_el : ∀ i : Nat, i < 10 → ∀ j : Nat, j < zSlen.getD i 0 → Cond.eq (.elem (.field (tmS i) "java/lang/String" "value" "[B") (.int (Int32.ofNat j))) (.int ((zSbyt.getD i []).getD j 0)) ∈ fl1 := by decide +kernel
theorem so_ne : ∀ i : Nat, i < 10 → ∀ j : Nat, j < 10 → i ≠ j → Cond.not (Cond.eq (tmS i) (tmS j)) ∈ fl1 ∨ Cond.not (Cond.eq (tmS j) (tmS i)) ∈ fl1 := by decide +kernel
theorem so_cs : Cond.eq (.static "java/lang/String" "COMPACT_STRINGS" "Z") (.int 1) ∈ fl1 := by decide +kernel
theorem so_sf : Cond.isRef (.static "jdk/internal/util/Preconditions" "SIOOBE_FORMATTER" "Ljava/util/function/BiFunction;") ∈ fl1 := by decide +kernel
theorem arr_of {s : State} {A : Array Value} {ty : FieldType} (h : (Cond.arrayClass ty).before A s = true) : ∃ cA : ClassId, ArrOfT s cA ty ∧ s.vm.findClass ("[" ++ ty.toString) = some cA := by
  obtain ⟨cA, kA, comp, h1, h2, h3⟩ := Cond.arrayClass_spec h
  exact ⟨cA, fun n z => ⟨fun k h => (by cases h), kA, h2, comp, h3⟩, h1⟩
theorem arr_ov {s : State} {A : Array Value} {C : String} (h : (Cond.arrayOver (.object C)).before A s = true) : ∃ cA : ClassId, ArrOfT s cA (.object C) ∧ va_RA s cA (.object C) := by
  obtain ⟨comp, cA, kA, h1, h2, h3, h4, h5⟩ := Cond.arrayOver_spec h
  exact ⟨cA, fun n z => ⟨fun k h => (by cases h), kA, h3, comp, h4⟩, kA, comp, h3, h4, h1, h5⟩
theorem vk_S_c {N : Nat} {len : List Nat} {byt : List (List Int32)} {adK adV adK' adV' : Nat → Nat} {A : Nat → Prop} {U : State} {H : Heap} (hK : ∀ i, i < N → adK' i = adK i) (hV : ∀ i, i < N → adV' i = adV i) (h : vk_S N len byt adK adV A U H) : vk_S N len byt adK' adV' A U H := by
  refine ⟨fun i hi => ?_, fun i j hi hj e => ?_⟩
  · rw [hK i hi, hV i hi]; exact h.1 i hi
  · rw [hK i hi, hK j hj] at e; exact h.2 i j hi hj e
set_option maxRecDepth 100000 in
set_option maxHeartbeats 4000000 in
theorem law_ctx {p : Program} {e : Env} {s : State} {m : MethodId} {below : List Frame} {meth : Method} {c : Code} (l : Launch) {b n : Nat} {xs : Nat → Int32} (C0 : lw_At p s m meth c b n xs) :
    ∃ E : zE, eL E = l ∧ eB E = s.heap.size ∧ zad E 1000000 = b ∧ zCtx E (m_L meth.name) (p, e, s, m, #[Value.ref b], below, meth, c) ∧ lwS E (p, e, s, m, #[Value.ref b], below, meth, c) n xs := by
  obtain ⟨hx, hb, hr, hml, hown, hts, hX, hbl, hlocks, hgv⟩ := C0
  have hg : ∀ w ∈ lw_g, w.before #[Value.ref b] s = true := fun w h => hts w (List.mem_filter.mp h).1
  obtain ⟨c0, i0, hK0⟩ := u_known (C := RX0) (T := TX0) (N := 7) (n := 7) hg in_X0 (hts _ (up_1 (List.mem_of_getElem? (i := 133) rfl)))
  obtain ⟨c1, i1, hK1⟩ := u_known (C := RX1) (T := TX1) (N := 13) (n := 13) hg in_X1 (hts _ (up_1 (List.mem_of_getElem? (i := 193) rfl)))
  obtain ⟨c2, i2, hK2⟩ := u_known (C := RX2) (T := TX2) (N := 4) (n := 4) hg in_X2 (hts _ (up_1 (List.mem_of_getElem? (i := 170) rfl)))
  obtain ⟨c3, i3, hK3⟩ := u_known (C := RX3) (T := TX3) (N := 5) (n := 5) hg in_X3 (hts _ (up_1 (List.mem_of_getElem? (i := 42) rfl)))
  obtain ⟨c4, i4, hK4⟩ := u_known (C := RX4) (T := TX4) (N := 11) (n := 11) hg in_X4 (hts _ (up_1 (List.mem_of_getElem? (i := 87) rfl)))
  obtain ⟨c5, i5, hK5⟩ := u_known (C := RX5) (T := TX5) (N := 3) (n := 3) hg in_X5 (hts _ (up_2 (List.mem_of_getElem? (i := 4) rfl)))
  obtain ⟨c6, i6, hK6⟩ := u_known (C := RX6) (T := TX6) (N := 2) (n := 2) hg in_X6 (hts _ (up_1 (List.mem_of_getElem? (i := 26) rfl)))
  obtain ⟨c7, i7, hK7⟩ := u_known (C := RX7) (T := TX7) (N := 11) (n := 11) hg in_X7 (hts _ (up_1 (List.mem_of_getElem? (i := 18) rfl)))
  obtain ⟨c8, i8, hK8⟩ := u_known (C := RX8) (T := TX8) (N := 36) (n := 36) hg in_X8 (hts _ (up_4 (List.mem_of_getElem? (i := 115) rfl)))
  obtain ⟨a1, b1, g1⟩ := arr_of (hts _ (up_1 (List.mem_of_getElem? (i := 40) rfl)))
  obtain ⟨a2, b2, g2⟩ := arr_of (hts _ (up_1 (List.mem_of_getElem? (i := 85) rfl)))
  obtain ⟨a3, b3, g3⟩ := arr_of (hts _ (up_2 (List.mem_of_getElem? (i := 1) rfl)))
  obtain ⟨a4, b4, g4⟩ := arr_of (hts _ (up_1 (List.mem_of_getElem? (i := 131) rfl)))
  obtain ⟨a5, b5, g5⟩ := arr_ov (hts _ (up_1 (List.mem_of_getElem? (i := 168) rfl)))
  obtain ⟨a6, b6, g6⟩ := arr_ov (hts _ (up_2 (List.mem_of_getElem? (i := 3) rfl)))
  have hs := flat_of_before _ hgv
  have hA : ∀ a : Nat, a < s.heap.size → ¬ (fun q : Nat => s.heap.size ≤ q) a := fun a h => Nat.not_le.mpr h
  obtain ⟨adK, adV, hSt, hev⟩ := vk_Sof (args := #[Value.ref b]) (s := s) (N := 10) (tm := tmS) (len := zSlen) (byt := zSbyt) (A := fun q : Nat => s.heap.size ≤ q) (by decide) (fun i h => hs _ (so_ex i h)) (fun i h => hs _ (so_co i h)) (fun i h => hs _ (so_ar i h)) (fun i h => hs _ (so_le i h)) (fun i h j hj => hs _ (so_el i h j hj)) (fun i j hi hj hne => (so_ne i hi j hj hne).elim (fun z => Or.inl (hs _ z)) (fun z => Or.inr (hs _ z))) hA
  have hZ1 : va_Z "java/lang/String" "COMPACT_STRINGS" "Z" (.int 1) (fun q : Nat => s.heap.size ≤ q) s s.heap := va_Zof (hts _ (up_2 (List.mem_of_getElem? (i := 135) rfl))) (hts _ (up_1 (List.mem_of_getElem? (i := 11) rfl))) (va_eqi (hs _ so_cs)) hA
  have hZ2 : va_Zq "jdk/internal/util/Preconditions" "SIOOBE_FORMATTER" "Ljava/util/function/BiFunction;" (fun q : Nat => s.heap.size ≤ q) s s.heap := va_Zqof (hts _ (up_2 (List.mem_of_getElem? (i := 151) rfl))) (hts _ (up_1 (List.mem_of_getElem? (i := 13) rfl))) (hs _ so_sf) hA
  have hNest : ∀ (i : Nat) (q : String × Nat × MethodName × String), zNest[i]? = some q → va_Nw (.methodLinkNest q.1 q.2.1 q.2.2.1 q.2.2.2) s := by
    intro i q hq
    exact match i, hq with
    | 0, hq => by cases hq; exact va_Nw.of rfl (hts _ (up_1 (List.mem_of_getElem? (i := 27) rfl)))
    | 1, hq => by cases hq; exact va_Nw.of rfl (hts _ (up_1 (List.mem_of_getElem? (i := 134) rfl)))
    | 2, hq => by cases hq; exact va_Nw.of rfl (hts _ (up_1 (List.mem_of_getElem? (i := 171) rfl)))
    | 3, hq => by cases hq; exact va_Nw.of rfl (hts _ (up_1 (List.mem_of_getElem? (i := 176) rfl)))
    | 4, hq => by cases hq; exact va_Nw.of rfl (hts _ (up_1 (List.mem_of_getElem? (i := 194) rfl)))
    | 5, hq => by cases hq; exact va_Nw.of rfl (hts _ (up_2 (List.mem_of_getElem? (i := 5) rfl)))
    | 6, hq => by cases hq; exact va_Nw.of rfl (hts _ (up_3 (List.mem_of_getElem? (i := 28) rfl)))
    | 7, hq => by cases hq; exact va_Nw.of rfl (hts _ (up_3 (List.mem_of_getElem? (i := 106) rfl)))
    | 8, hq => by cases hq; exact va_Nw.of rfl (hts _ (up_3 (List.mem_of_getElem? (i := 114) rfl)))
    | i + 9, hq => by simp [zNest] at hq
  have hStr : ∀ (i : Nat) (q : Nat × String), zStrs[i]? = some q → vk_R RX4 q.1 q.2 (adK i) s := by
    intro i q hq
    exact match i, hq with
    | 0, hq => by cases hq; exact vk_R.of (hts _ (up_2 (List.mem_of_getElem? (i := 112) rfl))) (hev 0 (by decide))
    | 1, hq => by cases hq; exact vk_R.of (hts _ (up_2 (List.mem_of_getElem? (i := 113) rfl))) (hev 1 (by decide))
    | 2, hq => by cases hq; exact vk_R.of (hts _ (up_2 (List.mem_of_getElem? (i := 114) rfl))) (hev 2 (by decide))
    | 3, hq => by cases hq; exact vk_R.of (hts _ (up_2 (List.mem_of_getElem? (i := 115) rfl))) (hev 3 (by decide))
    | 4, hq => by cases hq; exact vk_R.of (hts _ (up_2 (List.mem_of_getElem? (i := 116) rfl))) (hev 4 (by decide))
    | 5, hq => by cases hq; exact vk_R.of (hts _ (up_2 (List.mem_of_getElem? (i := 117) rfl))) (hev 5 (by decide))
    | 6, hq => by cases hq; exact vk_R.of (hts _ (up_2 (List.mem_of_getElem? (i := 118) rfl))) (hev 6 (by decide))
    | 7, hq => by cases hq; exact vk_R.of (hts _ (up_2 (List.mem_of_getElem? (i := 119) rfl))) (hev 7 (by decide))
    | 8, hq => by cases hq; exact vk_R.of (hts _ (up_2 (List.mem_of_getElem? (i := 120) rfl))) (hev 8 (by decide))
    | 9, hq => by cases hq; exact vk_R.of (hts _ (up_2 (List.mem_of_getElem? (i := 121) rfl))) (hev 9 (by decide))
    | i + 10, hq => by simp [zStrs] at hq
  have hAO : va_AO RX0 s ∧ va_AO RX5 s := ⟨va_AO.of (hts _ (up_1 (List.mem_of_getElem? (i := 168) rfl))), va_AO.of (hts _ (up_2 (List.mem_of_getElem? (i := 3) rfl)))⟩
  let dC : Nat → ClassId := fun k => match k with | 0 => c0 | 1 => c1 | 2 => c2 | 3 => c3 | 4 => c4 | 5 => c5 | 6 => c6 | 7 => c7 | _ => c8
  let dI : Nat → Nat → Nat := fun k => match k with | 0 => i0 | 1 => i1 | 2 => i2 | 3 => i3 | 4 => i4 | 5 => i5 | 6 => i6 | 7 => i7 | _ => i8
  let y : Nat → ClassId := fun k => match k with | 1 => a1 | 2 => a2 | 3 => a3 | 4 => a4 | 5 => a5 | _ => a6
  obtain ⟨tq, hZ3⟩ : ∃ tq : Nat, va_Z "jdk/internal/util/Preconditions" "SIOOBE_FORMATTER" "Ljava/util/function/BiFunction;" .null (fun q : Nat => s.heap.size ≤ q) s s.heap ∨ va_Z "jdk/internal/util/Preconditions" "SIOOBE_FORMATTER" "Ljava/util/function/BiFunction;" (.ref tq) (fun q : Nat => s.heap.size ≤ q) s s.heap := by
    rcases hZ2 with z | ⟨t, z⟩
    · exact ⟨0, Or.inl z⟩
    · exact ⟨t, Or.inr z⟩
  have h10 : ∀ (i : Nat) (q : Nat × String), zStrs[i]? = some q → i < 10 := fun i q h => (List.getElem?_eq_some_iff.mp h).1
  let ad : Nat → Nat := fun k => match k with | 0 => b | i + 1 => if i < 99 then adK i else if i < 199 then adV (i - 99) else tq
  have hStr' : ∀ (i : Nat) (q : Nat × String), zStrs[i]? = some q → vk_R RX4 q.1 q.2 (ad (i + 1)) s := fun i q h => by
    show vk_R RX4 q.1 q.2 (if i < 99 then adK i else if i < 199 then adV (i - 99) else tq) s
    rw [if_pos (by have := h10 i q h; omega)]
    exact hStr i q h
  have hSt' : vk_S 10 zSlen zSbyt (fun i => ad (i + 1)) (fun i => ad (i + 100)) (fun q : Nat => s.heap.size ≤ q) s s.heap := vk_S_c (fun i h => by
    show (if i < 99 then adK i else if i < 199 then adV (i - 99) else tq) = adK i
    rw [if_pos (by omega)]) (fun i h => by
    show (if i + 99 < 99 then adK (i + 99) else if i + 99 < 199 then adV (i + 99 - 99) else tq) = adV i
    rw [if_neg (by omega), if_pos (by omega), Nat.add_sub_cancel]) hSt
  have hK : va_K (dC, dI) vwCl [(y 1, .byte), (y 2, .int), (y 3, .long), (y 4, .boolean), (y 5, .object RX0), (y 6, .object RX5)] s := by
    refine ⟨fun k q hq => ?_, fun k q hq => ?_⟩
    · exact match k, hq with
      | 0, hq => by cases hq; exact hK0
      | 1, hq => by cases hq; exact hK1
      | 2, hq => by cases hq; exact hK2
      | 3, hq => by cases hq; exact hK3
      | 4, hq => by cases hq; exact hK4
      | 5, hq => by cases hq; exact hK5
      | 6, hq => by cases hq; exact hK6
      | 7, hq => by cases hq; exact hK7
      | 8, hq => by cases hq; exact hK8
      | k + 9, hq => by simp [vwCl] at hq
    · exact match k, hq with
      | 0, hq => by cases hq; exact ⟨b1, g1⟩
      | 1, hq => by cases hq; exact ⟨b2, g2⟩
      | 2, hq => by cases hq; exact ⟨b3, g3⟩
      | 3, hq => by cases hq; exact ⟨b4, g4⟩
      | 4, hq => by cases hq; exact ⟨b5, g5⟩
      | 5, hq => by cases hq; exact ⟨b6, g6⟩
      | k + 6, hq => by simp at hq
  refine ⟨(l, s.heap.size, ad, adV, dC, dI, y), rfl, rfl, ?_, ?_, hbl, rfl, hX⟩
  · rw [zad_s]
  · exact ⟨hx, hb, hml, hown, hg, hr, hlocks, rfl, ⟨hK, fun q hq => by obtain ⟨i, hi⟩ := List.getElem?_of_mem hq; exact hNest i q hi, hAO, hStr'⟩, ⟨hSt', hZ1, hZ3⟩, Nat.le_refl _⟩
