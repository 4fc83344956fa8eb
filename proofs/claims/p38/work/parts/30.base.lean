/-! small rows for the walks -/
theorem zix_lit {i : Int32} {n : Nat} (j : Nat) (h : j < n ∧ i.toNatClampNeg = j ∧ ¬ i < 0) : zix i n j := h
section ZBY
variable {E : zE} {md : zMD} {X : zX} {Qs : State → Prop} {Sh : zSh} {kc ks pc pc' : Nat} {ls : List (Option Value)} {st : List Value} {I : zI} {L : zL} {R : zR}
theorem z_by (i : Int32) {x : Int32} (h1 : x = i → zZ E md X Qs Sh kc ks pc ls (.int x :: st) I L R) (h2 : ¬ x = i → zZ E md X Qs Sh kc ks pc ls (.int x :: st) I L R) : zZ E md X Qs Sh kc ks pc ls (.int x :: st) I L R := if h : x = i then h1 h else h2 h
/-- another name for the value on top -/
theorem z_top {v w : Value} (e : v = w) (h : zZ E md X Qs Sh kc ks pc ls (w :: st) I L R) : zZ E md X Qs Sh kc ks pc ls (v :: st) I L R := e ▸ h
theorem z_topi {x y : Int32} (e : x = y) (h : zZ E md X Qs Sh kc ks pc ls (.int y :: st) I L R) : zZ E md X Qs Sh kc ks pc ls (.int x :: st) I L R := e ▸ h
theorem z_ls {ls' : List (Option Value)} (e : ls = ls') (h : zZ E md X Qs Sh kc ks pc ls' st I L R) : zZ E md X Qs Sh kc ks pc ls st I L R := e ▸ h
theorem z_mem {I' : zI} {L' : zL} {R' : zR} (e1 : I = I') (e2 : L = L') (e3 : R = R') (h : zZ E md X Qs Sh kc ks pc ls st I' L' R') : zZ E md X Qs Sh kc ks pc ls st I L R := by subst e1; subst e2; subst e3; exact h
end ZBY
theorem sw_ne {x i : Int32} (h : ¬ x = i) : x.toInt ≠ i.toInt := fun e => h (Int32.toInt_inj.mp e)
theorem up_self {α : Type} (f : Nat → α) (k : Nat) : va_up f k (f k) = f := by
  funext j
  by_cases h : j = k
  · subst h; simp [va_up]
  · simp [va_up, h]
theorem up_eq {α : Type} (f : Nat → α) (k : Nat) (v : α) : va_up f k v k = v := if_pos rfl
theorem up_ne {α : Type} {f : Nat → α} {k j : Nat} {v : α} (h : j ≠ k) : va_up f k v j = f j := if_neg h
theorem up_up {α : Type} (f : Nat → α) (k : Nat) (v w : α) : va_up (va_up f k v) k w = va_up f k w := by
  funext j
  by_cases h : j = k <;> simp [va_up, h]
theorem up_comm {α : Type} (f : Nat → α) {k l : Nat} (v w : α) (h : k ≠ l) : va_up (va_up f k v) l w = va_up (va_up f l w) k v := by
  funext j
  by_cases h1 : j = k
  · subst h1; simp [va_up, h]
  · by_cases h2 : j = l
    · subst h2; simp [va_up, h1]
    · simp [va_up, h1, h2]
/-- a Charge at c, a Plan at p -/
def zCh (Sh : zSh) (R : zR) (c : Nat) : Prop := Sh[c]? = some (0, 0) ∧ Sh[c + 1]? = some (2, 48) ∧ Sh[c + 2]? = some (2, 48) ∧ Sh[c + 3]? = some (2, 48) ∧ Sh[c + 4]? = some (2, 8) ∧ R c 0 = some (c + 1) ∧ R c 1 = some (c + 2) ∧ R c 2 = some (c + 3) ∧ R c 3 = some (c + 4) ∧ c < 900000
def zPl (Sh : zSh) (R : zR) (p : Nat) : Prop := Sh[p]? = some (0, 3) ∧ Sh[p + 1]? = some (2, 7) ∧ Sh[p + 2]? = some (2, 48) ∧ Sh[p + 3]? = some (2, 48) ∧ Sh[p + 4]? = some (2, 12) ∧ R p 0 = some (p + 1) ∧ R p 1 = some (p + 2) ∧ R p 2 = some (p + 3) ∧ R p 3 = some (p + 4) ∧ p < 900000
/-- a place in a row, out of a test -/
theorem zix_of2 {x : Int32} {N : Nat} (h0 : ¬ x < 0) (h1 : ¬ nI N ≤ x) (hN : N < 2 ^ 31) : zix x N x.toNatClampNeg := by
  obtain ⟨j, hj, e, -, e2, -⟩ := pk_mu h0 h1 hN
  exact ⟨by rw [e2]; exact hj, rfl, h0⟩
