/-! constructors: cells are made one behind another, by zShF -/
def zZ0 (I : zI) (L : zL) (R : zR) (n : Nat) : Prop := ∀ k, n ≤ k → I k = (fun _ => 0) ∧ L k = (fun _ => 0) ∧ R k = (fun _ => none)
theorem zZ0.up {I : zI} {L : zL} {R : zR} {n m : Nat} (h : zZ0 I L R n) (hm : n ≤ m) : zZ0 I L R m := fun k hk => h k (Nat.le_trans hm hk)
theorem zZ0.r {I : zI} {L : zL} {R : zR} {n k j : Nat} {x : Option Nat} (h : zZ0 I L R n) (hk : k < n) : zZ0 I L (zr R k j x) n := fun q hq => ⟨(h q hq).1, (h q hq).2.1, by rw [zr_ne (by omega)]; exact (h q hq).2.2⟩
theorem zZ0.i {I : zI} {L : zL} {R : zR} {n k j : Nat} {x : Int32} (h : zZ0 I L R n) (hk : k < n) : zZ0 (zi I k j x) L R n := fun q hq => ⟨by rw [zi_ne (by omega)]; exact (h q hq).1, (h q hq).2.1, (h q hq).2.2⟩
theorem zZ0.v {I : zI} {L : zL} {R : zR} {n k : Nat} {f : Nat → Int32} (h : zZ0 I L R n) (hk : k < n) : zZ0 (va_up I k f) L R n := fun q hq => ⟨by rw [up_ne (by omega)]; exact (h q hq).1, (h q hq).2.1, (h q hq).2.2⟩
theorem take_s {n : Nat} {t : Nat × Nat} (h : zShF[n]? = some t) : zShF.take n ++ [t] = zShF.take (n + 1) := by rw [List.take_succ, h]; rfl
theorem take_l {n : Nat} {t : Nat × Nat} (h : zShF[n]? = some t) : (zShF.take n).length = n := by
  have := (List.getElem?_eq_some_iff.mp h).1
  rw [List.length_take]; omega
theorem z_sh {E : zE} {md : zMD} {X : zX} {Qs : State → Prop} {Sh Sh' : zSh} {kc ks pc : Nat} {ls : List (Option Value)} {st : List Value} {I : zI} {L : zL} {R : zR} (e : Sh = Sh') (h : zZ E md X Qs Sh' kc ks pc ls st I L R) : zZ E md X Qs Sh kc ks pc ls st I L R := e ▸ h
section ZMAKE
variable {E : zE} {md : zMD} {X : zX} {Qs : State → Prop} {kc ks pc pc' n : Nat} {ls : List (Option Value)} {st : List Value} {I : zI} {L : zL} {R : zR}
theorem n85 {t : Nat × Nat} (h : zShF[n]? = some t) : n < 1000000 := by
  have := (List.getElem?_eq_some_iff.mp h).1
  have : zShF.length = 85 := rfl
  omega
theorem z_newI0 {m : Int32} {N : Nat} (hd : zD md pc (.newarray .int) 2 pc') (hn0 : ¬ m < 0) (hN : m.toNatClampNeg = N) (hby : N * 4 ≤ 536870912) (hs : zShF[n]? = some (2, N)) (hz : zZ0 I L R n) (hroom : kc + 1 ≤ (zrm md).cells ∧ ks + N ≤ (zrm md).slots)
    (k : zZ E md X Qs (zShF.take (n + 1)) (kc + 1) (ks + N) pc' ls (.ref n :: st) I L R) : zZ E md X Qs (zShF.take n) kc ks pc ls (.int m :: st) I L R := by
  refine z_newI hd hn0 hN hby (by rw [take_l hs]; exact n85 hs) hroom ?_
  rw [take_s hs, take_l hs, show va_up I n (fun _ => 0) = I from by rw [← (hz n (Nat.le_refl n)).1, up_self]]
  exact k
theorem z_newB0 {m : Int32} {N : Nat} (hd : zD md pc (.newarray .byte) 2 pc') (hn0 : ¬ m < 0) (hN : m.toNatClampNeg = N) (hby : N * 1 ≤ 536870912) (hs : zShF[n]? = some (1, N)) (hz : zZ0 I L R n) (hroom : kc + 1 ≤ (zrm md).cells ∧ ks + N ≤ (zrm md).slots)
    (k : zZ E md X Qs (zShF.take (n + 1)) (kc + 1) (ks + N) pc' ls (.ref n :: st) I L R) : zZ E md X Qs (zShF.take n) kc ks pc ls (.int m :: st) I L R := by
  refine z_newB hd hn0 hN hby (by rw [take_l hs]; exact n85 hs) hroom ?_
  rw [take_s hs, take_l hs, show va_up I n (fun _ => 0) = I from by rw [← (hz n (Nat.le_refl n)).1, up_self]]
  exact k
theorem z_newZ0 {m : Int32} {N : Nat} (hd : zD md pc (.newarray .boolean) 2 pc') (hn0 : ¬ m < 0) (hN : m.toNatClampNeg = N) (hby : N * 1 ≤ 536870912) (hs : zShF[n]? = some (4, N)) (hz : zZ0 I L R n) (hroom : kc + 1 ≤ (zrm md).cells ∧ ks + N ≤ (zrm md).slots)
    (k : zZ E md X Qs (zShF.take (n + 1)) (kc + 1) (ks + N) pc' ls (.ref n :: st) I L R) : zZ E md X Qs (zShF.take n) kc ks pc ls (.int m :: st) I L R := by
  refine z_newZ hd hn0 hN hby (by rw [take_l hs]; exact n85 hs) hroom ?_
  rw [take_s hs, take_l hs, show va_up I n (fun _ => 0) = I from by rw [← (hz n (Nat.le_refl n)).1, up_self]]
  exact k
theorem z_newL0 {m : Int32} {N : Nat} (hd : zD md pc (.newarray .long) 2 pc') (hn0 : ¬ m < 0) (hN : m.toNatClampNeg = N) (hby : N * 8 ≤ 536870912) (hs : zShF[n]? = some (3, N)) (hz : zZ0 I L R n) (hroom : kc + 1 ≤ (zrm md).cells ∧ ks + N ≤ (zrm md).slots)
    (k : zZ E md X Qs (zShF.take (n + 1)) (kc + 1) (ks + N) pc' ls (.ref n :: st) I L R) : zZ E md X Qs (zShF.take n) kc ks pc ls (.int m :: st) I L R := by
  refine z_newL hd hn0 hN hby (by rw [take_l hs]; exact n85 hs) hroom ?_
  rw [take_s hs, take_l hs, show va_up L n (fun _ => 0) = L from by rw [← (hz n (Nat.le_refl n)).2.1, up_self]]
  exact k
theorem z_new0 {idx ci N : Nat} (hd : zD md pc (.new idx) 3 pc') (hc : zNw md idx ci N) (hs : zShF[n]? = some (0, ci)) (hz : zZ0 I L R n) (hroom : kc + 1 ≤ (zrm md).cells ∧ ks + N ≤ (zrm md).slots)
    (k : zZ E md X Qs (zShF.take (n + 1)) (kc + 1) (ks + N) pc' ls (.ref n :: st) I L R) : zZ E md X Qs (zShF.take n) kc ks pc ls st I L R := by
  refine z_new hd hc (by rw [take_l hs]; exact n85 hs) hroom ?_
  rw [take_s hs, take_l hs, show va_up I n (fun _ => 0) = I from by rw [← (hz n (Nat.le_refl n)).1, up_self], show va_up L n (fun _ => 0) = L from by rw [← (hz n (Nat.le_refl n)).2.1, up_self], show va_up R n (fun _ => none) = R from by rw [← (hz n (Nat.le_refl n)).2.2, up_self]]
  exact k
theorem z_anew0 {tag idx : Nat} {Cn : String} {m : Int32} {N : Nat} (htag : (tag = 4 ∧ Cn = RX0) ∨ (tag = 5 ∧ Cn = RX5)) (hd : zD md pc (.anewarray idx) 3 pc') (hlk : Cond.classLink md.1.cls idx Cn ∈ lw_g) (hn0 : ¬ m < 0) (hN : m.toNatClampNeg = N) (hby : N * 4 ≤ 536870912) (hs : zShF[n]? = some (tag + 1, N)) (hz : zZ0 I L R n) (hroom : kc + 1 ≤ (zrm md).cells ∧ ks + N ≤ (zrm md).slots)
    (k : zZ E md X Qs (zShF.take (n + 1)) (kc + 1) (ks + N) pc' ls (.ref n :: st) I L R) : zZ E md X Qs (zShF.take n) kc ks pc ls (.int m :: st) I L R := by
  refine z_anew htag hd hlk hn0 hN hby (by rw [take_l hs]; exact n85 hs) hroom ?_
  rw [take_s hs, take_l hs, show va_up R n (fun _ => none) = R from by rw [← (hz n (Nat.le_refl n)).2.2, up_self]]
  exact k
end ZMAKE
/-- a contract of a constructor: the cells that it makes, the references and ints that it sets -/
def zCk (E : zE) (md : zMD) (n n' : Nat) (args : List Value) (I : zI) (L : zL) (R : zR) (I' : zI) (R' : zR) : Prop := zCt E md (zShF.take n) args I L R (fun r Sh1 I1 L1 R1 => r = none ∧ Sh1 = zShF.take n' ∧ I1 = I' ∧ L1 = L ∧ R1 = R')
