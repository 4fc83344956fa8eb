/-! the whole world: the class at 0, the reference at 64 -/
def zShF : zSh := [(0, 7), (0, 6), (1, 400), (0, 3), (2, 7), (2, 48), (2, 48), (2, 12), (0, 4), (0, 3), (2, 7), (2, 48), (2, 48), (2, 12), (2, 48), (4, 10), (0, 0), (2, 48), (2, 48), (2, 48), (2, 8), (5, 2), (4, 2), (0, 2), (0, 0), (2, 48), (2, 48), (2, 48), (2, 8), (2, 48), (0, 2), (0, 0), (2, 48), (2, 48), (2, 48), (2, 8), (2, 48), (0, 1), (2, 16), (2, 16), (2, 64), (2, 256), (2, 256), (3, 256), (3, 256), (6, 4), (0, 0), (2, 48), (2, 48), (2, 48), (2, 8), (0, 0), (2, 48), (2, 48), (2, 48), (2, 8), (0, 5), (2, 40), (0, 5), (2, 40), (0, 5), (2, 40), (0, 5), (2, 40), (0, 8), (2, 640), (3, 12), (4, 2), (2, 7), (2, 48), (2, 48), (2, 12), (2, 7), (2, 48), (2, 48), (2, 48), (2, 12), (2, 400), (2, 48), (2, 48), (3, 3216), (3, 3216), (2, 4), (2, 4), (2, 160)]
def xRef (k j : Nat) : Option Nat := match k, j with
  | 0, 0 => some 1
  | 0, 1 => some 3
  | 0, 2 => some 8
  | 0, 3 => some 16
  | 0, 4 => some 21
  | 0, 5 => some 22
  | 0, 6 => some 23
  | 0, 7 => some 30
  | 0, 8 => some 37
  | 0, 9 => some 45
  | 1, 0 => some 2
  | 3, 0 => some 4
  | 3, 1 => some 5
  | 3, 2 => some 6
  | 3, 3 => some 7
  | 8, 0 => some 1
  | 8, 1 => some 9
  | 8, 2 => some 14
  | 8, 3 => some 15
  | 9, 0 => some 10
  | 9, 1 => some 11
  | 9, 2 => some 12
  | 9, 3 => some 13
  | 16, 0 => some 17
  | 16, 1 => some 18
  | 16, 2 => some 19
  | 16, 3 => some 20
  | 21, 0 => some 46
  | 21, 1 => some 51
  | 23, 0 => some 24
  | 23, 1 => some 29
  | 24, 0 => some 25
  | 24, 1 => some 26
  | 24, 2 => some 27
  | 24, 3 => some 28
  | 30, 0 => some 31
  | 30, 1 => some 36
  | 31, 0 => some 32
  | 31, 1 => some 33
  | 31, 2 => some 34
  | 31, 3 => some 35
  | 37, 5 => some 38
  | 37, 6 => some 39
  | 37, 8 => some 40
  | 37, 9 => some 41
  | 37, 10 => some 42
  | 45, 0 => some 56
  | 45, 1 => some 58
  | 45, 2 => some 60
  | 45, 3 => some 62
  | 46, 0 => some 47
  | 46, 1 => some 48
  | 46, 2 => some 49
  | 46, 3 => some 50
  | 51, 0 => some 52
  | 51, 1 => some 53
  | 51, 2 => some 54
  | 51, 3 => some 55
  | 56, 0 => some 57
  | 58, 0 => some 59
  | 60, 0 => some 61
  | 62, 0 => some 63
  | 64, 0 => some 65
  | 64, 1 => some 66
  | 64, 2 => some 67
  | 64, 3 => some 68
  | 64, 4 => some 69
  | 64, 5 => some 70
  | 64, 7 => some 71
  | 64, 8 => some 72
  | 64, 9 => some 73
  | 64, 10 => some 74
  | 64, 11 => some 75
  | 64, 13 => some 76
  | 64, 16 => some 77
  | 64, 24 => some 78
  | 64, 25 => some 79
  | 64, 30 => some 80
  | 64, 31 => some 81
  | 64, 32 => some 82
  | 64, 33 => some 83
  | 64, 34 => some 84
  | _, _ => none
def zLx (R : zR) : Prop := ∀ k j a, xRef k j = some a → R k j = some a
theorem lC_16 {R : zR} (hR : zLx R) : zCh zShF R 16 := ⟨rfl, rfl, rfl, rfl, rfl, hR _ _ _ rfl, hR _ _ _ rfl, hR _ _ _ rfl, hR _ _ _ rfl, by decide⟩
theorem lC_24 {R : zR} (hR : zLx R) : zCh zShF R 24 := ⟨rfl, rfl, rfl, rfl, rfl, hR _ _ _ rfl, hR _ _ _ rfl, hR _ _ _ rfl, hR _ _ _ rfl, by decide⟩
theorem lC_31 {R : zR} (hR : zLx R) : zCh zShF R 31 := ⟨rfl, rfl, rfl, rfl, rfl, hR _ _ _ rfl, hR _ _ _ rfl, hR _ _ _ rfl, hR _ _ _ rfl, by decide⟩
theorem lC_46 {R : zR} (hR : zLx R) : zCh zShF R 46 := ⟨rfl, rfl, rfl, rfl, rfl, hR _ _ _ rfl, hR _ _ _ rfl, hR _ _ _ rfl, hR _ _ _ rfl, by decide⟩
theorem lC_51 {R : zR} (hR : zLx R) : zCh zShF R 51 := ⟨rfl, rfl, rfl, rfl, rfl, hR _ _ _ rfl, hR _ _ _ rfl, hR _ _ _ rfl, hR _ _ _ rfl, by decide⟩
theorem lP_3 {R : zR} (hR : zLx R) : zPl zShF R 3 := ⟨rfl, rfl, rfl, rfl, rfl, hR _ _ _ rfl, hR _ _ _ rfl, hR _ _ _ rfl, hR _ _ _ rfl, by decide⟩
theorem lP_9 {R : zR} (hR : zLx R) : zPl zShF R 9 := ⟨rfl, rfl, rfl, rfl, rfl, hR _ _ _ rfl, hR _ _ _ rfl, hR _ _ _ rfl, hR _ _ _ rfl, by decide⟩
theorem lT_1 {R : zR} (hR : zLx R) : zTa zShF R 1 := ⟨rfl, rfl, hR _ _ _ rfl, by decide⟩
theorem lS_56 {R : zR} (hR : zLx R) : zSe zShF R 56 := ⟨rfl, rfl, hR _ _ _ rfl, by decide⟩
theorem lS_58 {R : zR} (hR : zLx R) : zSe zShF R 58 := ⟨rfl, rfl, hR _ _ _ rfl, by decide⟩
theorem lS_60 {R : zR} (hR : zLx R) : zSe zShF R 60 := ⟨rfl, rfl, hR _ _ _ rfl, by decide⟩
theorem lS_62 {R : zR} (hR : zLx R) : zSe zShF R 62 := ⟨rfl, rfl, hR _ _ _ rfl, by decide⟩
theorem lQ_23 {R : zR} (hR : zLx R) : zPi zShF R 23 := ⟨rfl, lC_24 hR, rfl, hR _ _ _ rfl, hR _ _ _ rfl, by decide⟩
theorem lQ_30 {R : zR} (hR : zLx R) : zPi zShF R 30 := ⟨rfl, lC_31 hR, rfl, hR _ _ _ rfl, hR _ _ _ rfl, by decide⟩
theorem b0 {b : Bool} (h : b2i b = 0) : b = false := by cases b; rfl; exact absurd h (by decide)
theorem b1 {b : Bool} (h : ¬ b2i b = 0) : b = true := by cases b; exact absurd rfl h; rfl
theorem nat_of {x M : Int32} {n : Nat} (hM : M.toInt = n) (h : ¬ x < 0) (h5 : ¬ M < x) : x = nI x.toNatClampNeg ∧ x.toNatClampNeg ≤ n := by
  obtain ⟨j, hj, rfl⟩ := nI_of2 hM h (Int32.not_lt.mp h5)
  have h0 : (nI j).toInt = M.toInt ∨ True := Or.inr trivial
  rcases Nat.lt_or_ge j (2 ^ 31) with q | q
  · rw [nI_clamp q]; exact ⟨rfl, hj⟩
  · exfalso
    have := M.toInt_lt
    have := Int32.toInt_le M
    omega
theorem inV_nat {x hi : Int32} {n : Nat} (hM : hi.toInt = n) (h : inV 1 hi x = true) : x = nI x.toNatClampNeg ∧ 1 ≤ x.toNatClampNeg ∧ x.toNatClampNeg ≤ n := by
  simp only [inV, Bool.and_eq_true, Bool.not_eq_true', decide_eq_false_iff_not] at h
  have h0 : ¬ x < 0 := fun q => h.1 (Int32.lt_trans q (by decide))
  obtain ⟨e, h2⟩ := nat_of hM h0 h.2
  refine ⟨e, ?_, h2⟩
  rcases Nat.eq_zero_or_pos x.toNatClampNeg with q | q
  · exfalso; rw [q] at e; rw [e] at h; exact h.1 (by decide)
  · exact q
theorem in0_ix {x : Int32} {n : Nat} (h : in0 (nI n) x = true) (hn : n < 2 ^ 31) : zix x n x.toNatClampNeg := by
  simp only [in0, Bool.and_eq_true, Bool.not_eq_true', decide_eq_false_iff_not] at h
  exact zix_of2 h.1 h.2 hn
