/-! THE KINDS OF A BYTE AS THE REFERENCE ASKS FOR THEM -/
theorem tok_1 {x : Int32} (h : x < 0) : tokV x = 1 := by unfold tokV; rw [if_pos h]
theorem tok_n1 {x : Int32} (h : ¬ tokV x = 1) : ¬ x < 0 := fun z => h (tok_1 z)
theorem tok1_lt {x : Int32} (h : tokV x = 1) : x < 0 := by
  by_cases q : x < 0
  · exact q
  · exfalso
    unfold tokV at h
    rw [if_neg q] at h
    revert h
    by_cases a : ¬ x < 97 ∧ ¬ 122 < x
    · rw [if_pos a]; decide
    · rw [if_neg a]
      by_cases b : ¬ x < 48 ∧ ¬ 57 < x
      · rw [if_pos b]; decide
      · rw [if_neg b]
        by_cases c : x = 59
        · rw [if_pos c]; decide
        · rw [if_neg c]; decide
theorem inL_tok2 {x : Int32} (h0 : ¬ x < 0) : inL x.toInt64 97 122 = decide (tokV x = 2) := by
  have e1 : (x.toInt64 < 97) ↔ x < 97 := by rw [Int64.lt_iff_toInt_lt, Int32.lt_iff_toInt_lt, Int32.toInt_toInt64]; rfl
  have e2 : ((122 : Int64) < x.toInt64) ↔ 122 < x := by rw [Int64.lt_iff_toInt_lt, Int32.lt_iff_toInt_lt, Int32.toInt_toInt64]; rfl
  unfold inL tokV
  rw [if_neg h0]
  by_cases a : ¬ x < 97 ∧ ¬ 122 < x
  · rw [if_pos a]; simp [e1, e2, a]
  · rw [if_neg a]
    by_cases b : x < 97
    · by_cases c : ¬ x < 48 ∧ ¬ 57 < x
      · rw [if_pos c]; simp [e1, e2, b]
      · rw [if_neg c]; by_cases d : x = 59 <;> simp [e1, e2, b, d]
    · have c : 122 < x := Classical.not_not.mp (fun z => a ⟨b, z⟩)
      by_cases c2 : ¬ x < 48 ∧ ¬ 57 < x
      · rw [if_pos c2]; simp [e1, e2, b, c]
      · rw [if_neg c2]; by_cases d : x = 59 <;> simp [e1, e2, b, c, d]
theorem inL_tok3 {x : Int32} (h0 : ¬ x < 0) : inL x.toInt64 48 57 = decide (tokV x = 3) := by
  have e1 : (x.toInt64 < 48) ↔ x < 48 := by rw [Int64.lt_iff_toInt_lt, Int32.lt_iff_toInt_lt, Int32.toInt_toInt64]; rfl
  have e2 : ((57 : Int64) < x.toInt64) ↔ 57 < x := by rw [Int64.lt_iff_toInt_lt, Int32.lt_iff_toInt_lt, Int32.toInt_toInt64]; rfl
  unfold inL tokV
  rw [if_neg h0]
  by_cases a : ¬ x < 97 ∧ ¬ 122 < x
  · have b : 57 < x := Int32.lt_of_lt_of_le (by decide : (57 : Int32) < 97) (Int32.not_lt.mp a.1)
    rw [if_pos a]; simp [e1, e2, b]
  · rw [if_neg a]
    by_cases c : ¬ x < 48 ∧ ¬ 57 < x
    · rw [if_pos c]; simp [e1, e2, c]
    · rw [if_neg c]
      by_cases b : x < 48
      · by_cases d : x = 59 <;> simp [e1, e2, b, d]
      · have b2 : 57 < x := Classical.not_not.mp (fun z => c ⟨b, z⟩)
        by_cases d : x = 59 <;> simp [e1, e2, b, b2, d]
set_option maxRecDepth 100000 in
set_option maxHeartbeats 4000000 in
theorem ct_X8_next_f {E : zE} {I : zI} {L : zL} {R : zR} (hR : zLx R) (h22 : 0 < I 64 22) : zCf E m_X8_next zShF [.ref 64] I L R (none) (I) (L) (R) := by
  refine z_met (by decide) [some (.ref 64), none] rfl rfl (Nat.le_of_ble_eq_true rfl) (fun X => ?_)
  refine z_aload_n d_X8_next_0 rfl ?_
  refine z_getI d_X8_next_1 f_X8_107 (by first | rfl | assumption) (by omega) ?_
  refine z_if_le d_X8_next_4 (fun h_4 => absurd h_4 (Int32.not_le.mpr h22)) (fun h_4 => ?_)
  exact z_return d_X8_next_7 rfl ⟨rfl, rfl, rfl, rfl, rfl⟩
