/-! WHAT A NAME SPELLS, AS THE REFERENCE ASKS -/
def isB (g : Nat → Int32) (t s a : Nat) (n x1 x2 x3 x4 : Int32) : Bool := decide (nI (a - s) = n) && (decide (btA g t s = x1) && (decide (btA g t (s + 1) = x2) && (decide (btA g t (s + 2) = x3) && (decide (n < 4) || decide (btA g t (s + 3) = x4)))))
theorem b2i_t {b : Bool} : b2i b = 0 ↔ b = false := by cases b <;> decide
theorem b2i_f {b : Bool} : ¬ b2i b = 0 ↔ b = true := by cases b <;> decide
set_option maxRecDepth 100000 in
set_option maxHeartbeats 4000000 in
theorem ct_X8_is {E : zE} {I : zI} {L : zL} {R : zR} {t s a : Nat} {g : Nat → Int32} {n x1 x2 x3 x4 : Int32} (hR : zLx R) (h17 : I 64 17 = nI t) (ht : t ≤ 400) (h77 : ∀ j, j < t → I 77 j = g j) (h18 : I 64 18 = nI a) (h19 : I 64 19 = nI s) (hsa : s ≤ a) (hat : a ≤ t) : zCf E m_X8_is zShF [.ref 64, .int n, .int x1, .int x2, .int x3, .int x4] I L R (some (.int (b2i (isB g t s a n x1 x2 x3 x4)))) (I) (L) (R) := by
  refine z_met (by decide) [some (.ref 64), some (.int n), some (.int x1), some (.int x2), some (.int x3), some (.int x4)] rfl rfl (Nat.le_of_ble_eq_true rfl) (fun X => ?_)
  refine z_aload_n d_X8_is_0 rfl ?_
  refine z_getI d_X8_is_1 f_X8_116 (by first | rfl | assumption) (by omega) ?_
  refine z_aload_n d_X8_is_4 rfl ?_
  refine z_getI d_X8_is_5 f_X8_110 (by first | rfl | assumption) (by omega) ?_
  refine z_isub d_X8_is_8 ?_
  refine z_iload_n d_X8_is_9 rfl ?_
  rw [h18, h19, nI_subN hsa]
  refine z_icmp_ne d_X8_is_10 (fun h_10 => ?_) (fun h_10 => ?_)
  · have hz : isB g t s a n x1 x2 x3 x4 = false := by unfold isB; rw [decide_eq_false h_10]; rfl
    refine z_iconst d_X8_is_78 ki_0 ?_
    exact z_zreturn d_X8_is_79 rfl rfl ⟨by rw [hz]; rfl, rfl, rfl, rfl, rfl⟩
  · refine z_aload_n d_X8_is_13 rfl ?_
    refine z_aload_n d_X8_is_14 rfl ?_
    refine z_getI d_X8_is_15 f_X8_110 (by first | rfl | assumption) (by omega) ?_
    rw [h19]
    refine z_cVi d_X8_is_18 q_X8_is_119 (by first | rfl | assumption) (by omega) ⟨rfl, rfl⟩ ((ct_X8_look (t := t) (j := s) (g := g) hR h17 ht h77 (by omega))) rfl rfl rfl ⟨Nat.zero_le _, Nat.zero_le _⟩ ?_
    refine z_iload_n d_X8_is_21 rfl ?_
    refine z_icmp_ne d_X8_is_22 (fun h_22 => ?_) (fun h_22 => ?_)
    · have hz : isB g t s a n x1 x2 x3 x4 = false := by unfold isB; rw [decide_eq_false h_22]; simp
      refine z_iconst d_X8_is_78 ki_0 ?_
      exact z_zreturn d_X8_is_79 rfl rfl ⟨by rw [hz]; rfl, rfl, rfl, rfl, rfl⟩
    · refine z_aload_n d_X8_is_25 rfl ?_
      refine z_aload_n d_X8_is_26 rfl ?_
      refine z_getI d_X8_is_27 f_X8_110 (by first | rfl | assumption) (by omega) ?_
      refine z_iconst d_X8_is_30 ki_1 ?_
      refine z_iadd d_X8_is_31 ?_
      rw [h19, show (nI s + 1 : Int32) = nI (s + 1) from nI_add s 1]
      refine z_cVi d_X8_is_32 q_X8_is_119 (by first | rfl | assumption) (by omega) ⟨rfl, rfl⟩ ((ct_X8_look (t := t) (j := s + 1) (g := g) hR h17 ht h77 (by omega))) rfl rfl rfl ⟨Nat.zero_le _, Nat.zero_le _⟩ ?_
      refine z_iload_n d_X8_is_35 rfl ?_
      refine z_icmp_ne d_X8_is_36 (fun h_36 => ?_) (fun h_36 => ?_)
      · have hz : isB g t s a n x1 x2 x3 x4 = false := by unfold isB; rw [decide_eq_false h_36]; simp
        refine z_iconst d_X8_is_78 ki_0 ?_
        exact z_zreturn d_X8_is_79 rfl rfl ⟨by rw [hz]; rfl, rfl, rfl, rfl, rfl⟩
      · refine z_aload_n d_X8_is_39 rfl ?_
        refine z_aload_n d_X8_is_40 rfl ?_
        refine z_getI d_X8_is_41 f_X8_110 (by first | rfl | assumption) (by omega) ?_
        refine z_iconst d_X8_is_44 ki_2 ?_
        refine z_iadd d_X8_is_45 ?_
        rw [h19, show (nI s + 2 : Int32) = nI (s + 2) from nI_add s 2]
        refine z_cVi d_X8_is_46 q_X8_is_119 (by first | rfl | assumption) (by omega) ⟨rfl, rfl⟩ ((ct_X8_look (t := t) (j := s + 2) (g := g) hR h17 ht h77 (by omega))) rfl rfl rfl ⟨Nat.zero_le _, Nat.zero_le _⟩ ?_
        refine z_iload d_X8_is_49 rfl ?_
        refine z_icmp_ne d_X8_is_51 (fun h_51 => ?_) (fun h_51 => ?_)
        · have hz : isB g t s a n x1 x2 x3 x4 = false := by unfold isB; rw [decide_eq_false h_51]; simp
          refine z_iconst d_X8_is_78 ki_0 ?_
          exact z_zreturn d_X8_is_79 rfl rfl ⟨by rw [hz]; rfl, rfl, rfl, rfl, rfl⟩
        · refine z_iload_n d_X8_is_54 rfl ?_
          refine z_iconst d_X8_is_55 ki_4 ?_
          refine z_icmp_lt d_X8_is_56 (fun h_56 => ?_) (fun h_56 => ?_)
          · have hz : isB g t s a n x1 x2 x3 x4 = true := by unfold isB; rw [decide_eq_true h_10, decide_eq_true h_22, decide_eq_true h_36, decide_eq_true h_51, decide_eq_true h_56]; rfl
            refine z_iconst d_X8_is_74 ki_1 ?_
            refine z_goto d_X8_is_75 ?_
            exact z_zreturn d_X8_is_79 rfl rfl ⟨by rw [hz]; rfl, rfl, rfl, rfl, rfl⟩
          · refine z_aload_n d_X8_is_59 rfl ?_
            refine z_aload_n d_X8_is_60 rfl ?_
            refine z_getI d_X8_is_61 f_X8_110 (by first | rfl | assumption) (by omega) ?_
            refine z_iconst d_X8_is_64 ki_3 ?_
            refine z_iadd d_X8_is_65 ?_
            rw [h19, show (nI s + 3 : Int32) = nI (s + 3) from nI_add s 3]
            refine z_cVi d_X8_is_66 q_X8_is_119 (by first | rfl | assumption) (by omega) ⟨rfl, rfl⟩ ((ct_X8_look (t := t) (j := s + 3) (g := g) hR h17 ht h77 (by omega))) rfl rfl rfl ⟨Nat.zero_le _, Nat.zero_le _⟩ ?_
            refine z_iload d_X8_is_69 rfl ?_
            refine z_icmp_ne d_X8_is_71 (fun h_71 => ?_) (fun h_71 => ?_)
            · have hz : isB g t s a n x1 x2 x3 x4 = false := by unfold isB; rw [decide_eq_false h_71, decide_eq_false h_56]; simp
              refine z_iconst d_X8_is_78 ki_0 ?_
              exact z_zreturn d_X8_is_79 rfl rfl ⟨by rw [hz]; rfl, rfl, rfl, rfl, rfl⟩
            · have hz : isB g t s a n x1 x2 x3 x4 = true := by unfold isB; rw [decide_eq_true h_10, decide_eq_true h_22, decide_eq_true h_36, decide_eq_true h_51, decide_eq_true h_71]; simp
              refine z_iconst d_X8_is_74 ki_1 ?_
              refine z_goto d_X8_is_75 ?_
              exact z_zreturn d_X8_is_79 rfl rfl ⟨by rw [hz]; rfl, rfl, rfl, rfl, rfl⟩
def knR (k : Nat) : Int32 := if k < 10 then nI k else -4
theorem dl_n {a s : Nat} (h : a ≤ 400) (n : Nat) (m : Int32) (hn : n ≤ 6) (e : nI n = m) : decide (n = a - s) = decide (nI (a - s) = m) := by
  subst e
  by_cases q : n = a - s
  · rw [decide_eq_true q, decide_eq_true (by rw [q])]
  · rw [decide_eq_false q, decide_eq_false (fun z => q ((nI_eq (by omega) (by omega)).mp z).symm)]
theorem sp_0 {g : Nat → Int32} {t s a : Nat} (h : a ≤ 400) : spB g t s a 0 = isB g t s a 3 114 111 119 0 := by
  show (decide (3 = a - s) && (((true && decide (btA g t (s + 0) = 114)) && decide (btA g t (s + 1) = 111)) && decide (btA g t (s + 2) = 119))) = _
  rw [dl_n h 3 3 (by decide) rfl]; unfold isB; simp [Bool.and_assoc]
theorem sp_1 {g : Nat → Int32} {t s a : Nat} (h : a ≤ 400) : spB g t s a 1 = isB g t s a 3 104 111 116 0 := by
  show (decide (3 = a - s) && (((true && decide (btA g t (s + 0) = 104)) && decide (btA g t (s + 1) = 111)) && decide (btA g t (s + 2) = 116))) = _
  rw [dl_n h 3 3 (by decide) rfl]; unfold isB; simp [Bool.and_assoc]
theorem sp_2 {g : Nat → Int32} {t s a : Nat} (h : a ≤ 400) : spB g t s a 2 = isB g t s a 4 116 114 97 112 := by
  show (decide (4 = a - s) && ((((true && decide (btA g t (s + 0) = 116)) && decide (btA g t (s + 1) = 114)) && decide (btA g t (s + 2) = 97)) && decide (btA g t (s + 3) = 112))) = _
  rw [dl_n h 4 4 (by decide) rfl]; unfold isB; simp [Bool.and_assoc]
theorem sp_3 {g : Nat → Int32} {t s a : Nat} (h : a ≤ 400) : spB g t s a 3 = isB g t s a 3 99 97 112 0 := by
  show (decide (3 = a - s) && (((true && decide (btA g t (s + 0) = 99)) && decide (btA g t (s + 1) = 97)) && decide (btA g t (s + 2) = 112))) = _
  rw [dl_n h 3 3 (by decide) rfl]; unfold isB; simp [Bool.and_assoc]
theorem sp_4 {g : Nat → Int32} {t s a : Nat} (h : a ≤ 400) : spB g t s a 4 = isB g t s a 4 100 97 114 107 := by
  show (decide (4 = a - s) && ((((true && decide (btA g t (s + 0) = 100)) && decide (btA g t (s + 1) = 97)) && decide (btA g t (s + 2) = 114)) && decide (btA g t (s + 3) = 107))) = _
  rw [dl_n h 4 4 (by decide) rfl]; unfold isB; simp [Bool.and_assoc]
theorem sp_5 {g : Nat → Int32} {t s a : Nat} (h : a ≤ 400) : spB g t s a 5 = (isB g t s a 5 100 114 97 105 && decide (btA g t (s + 4) = 110)) := by
  show (decide (5 = a - s) && (((((true && decide (btA g t (s + 0) = 100)) && decide (btA g t (s + 1) = 114)) && decide (btA g t (s + 2) = 97)) && decide (btA g t (s + 3) = 105)) && decide (btA g t (s + 4) = 110))) = _
  rw [dl_n h 5 5 (by decide) rfl]; unfold isB; simp [Bool.and_assoc]
theorem sp_6 {g : Nat → Int32} {t s a : Nat} (h : a ≤ 400) : spB g t s a 6 = (isB g t s a 5 115 109 101 97 && decide (btA g t (s + 4) = 114)) := by
  show (decide (5 = a - s) && (((((true && decide (btA g t (s + 0) = 115)) && decide (btA g t (s + 1) = 109)) && decide (btA g t (s + 2) = 101)) && decide (btA g t (s + 3) = 97)) && decide (btA g t (s + 4) = 114))) = _
  rw [dl_n h 5 5 (by decide) rfl]; unfold isB; simp [Bool.and_assoc]
theorem sp_7 {g : Nat → Int32} {t s a : Nat} (h : a ≤ 400) : spB g t s a 7 = isB g t s a 4 103 97 105 110 := by
  show (decide (4 = a - s) && ((((true && decide (btA g t (s + 0) = 103)) && decide (btA g t (s + 1) = 97)) && decide (btA g t (s + 2) = 105)) && decide (btA g t (s + 3) = 110))) = _
  rw [dl_n h 4 4 (by decide) rfl]; unfold isB; simp [Bool.and_assoc]
theorem sp_8 {g : Nat → Int32} {t s a : Nat} (h : a ≤ 400) : spB g t s a 8 = (isB g t s a 6 112 104 97 115 && (decide (btA g t (s + 4) = 101) && decide (btA g t (s + 5) = 115))) := by
  show (decide (6 = a - s) && ((((((true && decide (btA g t (s + 0) = 112)) && decide (btA g t (s + 1) = 104)) && decide (btA g t (s + 2) = 97)) && decide (btA g t (s + 3) = 115)) && decide (btA g t (s + 4) = 101)) && decide (btA g t (s + 5) = 115))) = _
  rw [dl_n h 6 6 (by decide) rfl]; unfold isB; simp [Bool.and_assoc]
theorem sp_9 {g : Nat → Int32} {t s a : Nat} (h : a ≤ 400) : spB g t s a 9 = (isB g t s a 5 99 108 111 99 && decide (btA g t (s + 4) = 107)) := by
  show (decide (5 = a - s) && (((((true && decide (btA g t (s + 0) = 99)) && decide (btA g t (s + 1) = 108)) && decide (btA g t (s + 2) = 111)) && decide (btA g t (s + 3) = 99)) && decide (btA g t (s + 4) = 107))) = _
  rw [dl_n h 5 5 (by decide) rfl]; unfold isB; simp [Bool.and_assoc]
theorem kd_unf {g : Nat → Int32} {t s a : Nat} : kd g t s a = if spB g t s a 0 then 0 else if spB g t s a 1 then 1 else if spB g t s a 2 then 2 else if spB g t s a 3 then 3 else if spB g t s a 4 then 4 else if spB g t s a 5 then 5 else if spB g t s a 6 then 6 else if spB g t s a 7 then 7 else if spB g t s a 8 then 8 else if spB g t s a 9 then 9 else 10 := rfl
/-- the first that is so, one behind another -/
theorem kd_s {g : Nat → Int32} {t s a m : Nat} (h : ∀ k, k < m → spB g t s a k = false) (hm : m < 10) : (spB g t s a m = true → kd g t s a = m) ∧ (spB g t s a m = false → ∀ k, k < m + 1 → spB g t s a k = false) := by
  refine ⟨fun z => ?_, fun z k hk => ?_⟩
  · rw [kd_unf]
    rcases (show m = 0 ∨ m = 1 ∨ m = 2 ∨ m = 3 ∨ m = 4 ∨ m = 5 ∨ m = 6 ∨ m = 7 ∨ m = 8 ∨ m = 9 by omega) with rfl | rfl | rfl | rfl | rfl | rfl | rfl | rfl | rfl | rfl <;>
    simp [z, h 0, h 1, h 2, h 3, h 4, h 5, h 6, h 7, h 8]
  · by_cases q : k = m
    · rw [q]; exact z
    · exact h k (by omega)
theorem kd_10 {g : Nat → Int32} {t s a : Nat} (h : ∀ k, k < 10 → spB g t s a k = false) : kd g t s a = 10 := by
  rw [kd_unf]
  simp [h 0, h 1, h 2, h 3, h 4, h 5, h 6, h 7, h 8, h 9]
set_option maxRecDepth 100000 in
set_option maxHeartbeats 4000000 in
theorem ct_X8_nameNow {E : zE} {I : zI} {L : zL} {R : zR} {t s a : Nat} {g : Nat → Int32} (hR : zLx R) (h17 : I 64 17 = nI t) (ht : t ≤ 400) (h77 : ∀ j, j < t → I 77 j = g j) (h18 : I 64 18 = nI a) (h19 : I 64 19 = nI s) (hsa : s ≤ a) (hat : a ≤ t) : zCf E m_X8_nameNow zShF [.ref 64] I L R (some (.int (knR (kd g t s a)))) (I) (L) (R) := by
  have ha : a ≤ 400 := by omega
  have n0 : ∀ k, k < 0 → spB g t s a k = false := fun k h => absurd h (by omega)
  refine z_met (by decide) [some (.ref 64)] rfl rfl (Nat.le_of_ble_eq_true rfl) (fun X => ?_)
  refine z_aload_n d_X8_nameNow_0 rfl ?_
  refine z_iconst d_X8_nameNow_1 ki_3 ?_
  refine z_bipush d_X8_nameNow_2 kb_114 ?_
  refine z_bipush d_X8_nameNow_4 kb_111 ?_
  refine z_bipush d_X8_nameNow_6 kb_119 ?_
  refine z_iconst d_X8_nameNow_8 ki_0 ?_
  refine z_cVi d_X8_nameNow_9 q_X8_nameNow_123 (by first | rfl | assumption) (by omega) ⟨rfl, rfl⟩ ((ct_X8_is (t := t) (s := s) (a := a) (g := g) hR h17 ht h77 h18 h19 hsa hat)) rfl rfl rfl ⟨Nat.zero_le _, Nat.zero_le _⟩ ?_
  refine z_if_eq d_X8_nameNow_12 (fun h_12 => ?_) (fun h_12 => ?_)
  · have n1 := (kd_s n0 (by decide)).2 (by rw [sp_0 ha]; exact b2i_t.mp h_12)
    refine z_aload_n d_X8_nameNow_17 rfl ?_
    refine z_iconst d_X8_nameNow_18 ki_3 ?_
    refine z_bipush d_X8_nameNow_19 kb_104 ?_
    refine z_bipush d_X8_nameNow_21 kb_111 ?_
    refine z_bipush d_X8_nameNow_23 kb_116 ?_
    refine z_iconst d_X8_nameNow_25 ki_0 ?_
    refine z_cVi d_X8_nameNow_26 q_X8_nameNow_123 (by first | rfl | assumption) (by omega) ⟨rfl, rfl⟩ ((ct_X8_is (t := t) (s := s) (a := a) (g := g) hR h17 ht h77 h18 h19 hsa hat)) rfl rfl rfl ⟨Nat.zero_le _, Nat.zero_le _⟩ ?_
    refine z_if_eq d_X8_nameNow_29 (fun h_29 => ?_) (fun h_29 => ?_)
    · have n2 := (kd_s n1 (by decide)).2 (by rw [sp_1 ha]; exact b2i_t.mp h_29)
      refine z_aload_n d_X8_nameNow_34 rfl ?_
      refine z_iconst d_X8_nameNow_35 ki_4 ?_
      refine z_bipush d_X8_nameNow_36 kb_116 ?_
      refine z_bipush d_X8_nameNow_38 kb_114 ?_
      refine z_bipush d_X8_nameNow_40 kb_97 ?_
      refine z_bipush d_X8_nameNow_42 kb_112 ?_
      refine z_cVi d_X8_nameNow_44 q_X8_nameNow_123 (by first | rfl | assumption) (by omega) ⟨rfl, rfl⟩ ((ct_X8_is (t := t) (s := s) (a := a) (g := g) hR h17 ht h77 h18 h19 hsa hat)) rfl rfl rfl ⟨Nat.zero_le _, Nat.zero_le _⟩ ?_
      refine z_if_eq d_X8_nameNow_47 (fun h_47 => ?_) (fun h_47 => ?_)
      · have n3 := (kd_s n2 (by decide)).2 (by rw [sp_2 ha]; exact b2i_t.mp h_47)
        refine z_aload_n d_X8_nameNow_52 rfl ?_
        refine z_iconst d_X8_nameNow_53 ki_3 ?_
        refine z_bipush d_X8_nameNow_54 kb_99 ?_
        refine z_bipush d_X8_nameNow_56 kb_97 ?_
        refine z_bipush d_X8_nameNow_58 kb_112 ?_
        refine z_iconst d_X8_nameNow_60 ki_0 ?_
        refine z_cVi d_X8_nameNow_61 q_X8_nameNow_123 (by first | rfl | assumption) (by omega) ⟨rfl, rfl⟩ ((ct_X8_is (t := t) (s := s) (a := a) (g := g) hR h17 ht h77 h18 h19 hsa hat)) rfl rfl rfl ⟨Nat.zero_le _, Nat.zero_le _⟩ ?_
        refine z_if_eq d_X8_nameNow_64 (fun h_64 => ?_) (fun h_64 => ?_)
        · have n4 := (kd_s n3 (by decide)).2 (by rw [sp_3 ha]; exact b2i_t.mp h_64)
          refine z_aload_n d_X8_nameNow_69 rfl ?_
          refine z_iconst d_X8_nameNow_70 ki_4 ?_
          refine z_bipush d_X8_nameNow_71 kb_100 ?_
          refine z_bipush d_X8_nameNow_73 kb_97 ?_
          refine z_bipush d_X8_nameNow_75 kb_114 ?_
          refine z_bipush d_X8_nameNow_77 kb_107 ?_
          refine z_cVi d_X8_nameNow_79 q_X8_nameNow_123 (by first | rfl | assumption) (by omega) ⟨rfl, rfl⟩ ((ct_X8_is (t := t) (s := s) (a := a) (g := g) hR h17 ht h77 h18 h19 hsa hat)) rfl rfl rfl ⟨Nat.zero_le _, Nat.zero_le _⟩ ?_
          refine z_if_eq d_X8_nameNow_82 (fun h_82 => ?_) (fun h_82 => ?_)
          · have n5 := (kd_s n4 (by decide)).2 (by rw [sp_4 ha]; exact b2i_t.mp h_82)
            refine z_aload_n d_X8_nameNow_87 rfl ?_
            refine z_iconst d_X8_nameNow_88 ki_5 ?_
            refine z_bipush d_X8_nameNow_89 kb_100 ?_
            refine z_bipush d_X8_nameNow_91 kb_114 ?_
            refine z_bipush d_X8_nameNow_93 kb_97 ?_
            refine z_bipush d_X8_nameNow_95 kb_105 ?_
            refine z_cVi d_X8_nameNow_97 q_X8_nameNow_123 (by first | rfl | assumption) (by omega) ⟨rfl, rfl⟩ ((ct_X8_is (t := t) (s := s) (a := a) (g := g) hR h17 ht h77 h18 h19 hsa hat)) rfl rfl rfl ⟨Nat.zero_le _, Nat.zero_le _⟩ ?_
            refine z_if_eq d_X8_nameNow_100 (fun h_100 => ?_) (fun h_100 => ?_)
            · have n6 := (kd_s n5 (by decide)).2 (by rw [sp_5 ha, b2i_t.mp h_100]; rfl)
              refine z_aload_n d_X8_nameNow_120 rfl ?_
              refine z_iconst d_X8_nameNow_121 ki_5 ?_
              refine z_bipush d_X8_nameNow_122 kb_115 ?_
              refine z_bipush d_X8_nameNow_124 kb_109 ?_
              refine z_bipush d_X8_nameNow_126 kb_101 ?_
              refine z_bipush d_X8_nameNow_128 kb_97 ?_
              refine z_cVi d_X8_nameNow_130 q_X8_nameNow_123 (by first | rfl | assumption) (by omega) ⟨rfl, rfl⟩ ((ct_X8_is (t := t) (s := s) (a := a) (g := g) hR h17 ht h77 h18 h19 hsa hat)) rfl rfl rfl ⟨Nat.zero_le _, Nat.zero_le _⟩ ?_
              refine z_if_eq d_X8_nameNow_133 (fun h_133 => ?_) (fun h_133 => ?_)
              · have n7 := (kd_s n6 (by decide)).2 (by rw [sp_6 ha, b2i_t.mp h_133]; rfl)
                refine z_aload_n d_X8_nameNow_154 rfl ?_
                refine z_iconst d_X8_nameNow_155 ki_4 ?_
                refine z_bipush d_X8_nameNow_156 kb_103 ?_
                refine z_bipush d_X8_nameNow_158 kb_97 ?_
                refine z_bipush d_X8_nameNow_160 kb_105 ?_
                refine z_bipush d_X8_nameNow_162 kb_110 ?_
                refine z_cVi d_X8_nameNow_164 q_X8_nameNow_123 (by first | rfl | assumption) (by omega) ⟨rfl, rfl⟩ ((ct_X8_is (t := t) (s := s) (a := a) (g := g) hR h17 ht h77 h18 h19 hsa hat)) rfl rfl rfl ⟨Nat.zero_le _, Nat.zero_le _⟩ ?_
                refine z_if_eq d_X8_nameNow_167 (fun h_167 => ?_) (fun h_167 => ?_)
                · have n8 := (kd_s n7 (by decide)).2 (by rw [sp_7 ha]; exact b2i_t.mp h_167)
                  refine z_aload_n d_X8_nameNow_173 rfl ?_
                  refine z_bipush d_X8_nameNow_174 kb_6 ?_
                  refine z_bipush d_X8_nameNow_176 kb_112 ?_
                  refine z_bipush d_X8_nameNow_178 kb_104 ?_
                  refine z_bipush d_X8_nameNow_180 kb_97 ?_
                  refine z_bipush d_X8_nameNow_182 kb_115 ?_
                  refine z_cVi d_X8_nameNow_184 q_X8_nameNow_123 (by first | rfl | assumption) (by omega) ⟨rfl, rfl⟩ ((ct_X8_is (t := t) (s := s) (a := a) (g := g) hR h17 ht h77 h18 h19 hsa hat)) rfl rfl rfl ⟨Nat.zero_le _, Nat.zero_le _⟩ ?_
                  refine z_if_eq d_X8_nameNow_187 (fun h_187 => ?_) (fun h_187 => ?_)
                  · have n9 := (kd_s n8 (by decide)).2 (by rw [sp_8 ha, b2i_t.mp h_187]; rfl)
                    refine z_aload_n d_X8_nameNow_223 rfl ?_
                    refine z_iconst d_X8_nameNow_224 ki_5 ?_
                    refine z_bipush d_X8_nameNow_225 kb_99 ?_
                    refine z_bipush d_X8_nameNow_227 kb_108 ?_
                    refine z_bipush d_X8_nameNow_229 kb_111 ?_
                    refine z_bipush d_X8_nameNow_231 kb_99 ?_
                    refine z_cVi d_X8_nameNow_233 q_X8_nameNow_123 (by first | rfl | assumption) (by omega) ⟨rfl, rfl⟩ ((ct_X8_is (t := t) (s := s) (a := a) (g := g) hR h17 ht h77 h18 h19 hsa hat)) rfl rfl rfl ⟨Nat.zero_le _, Nat.zero_le _⟩ ?_
                    refine z_if_eq d_X8_nameNow_236 (fun h_236 => ?_) (fun h_236 => ?_)
                    · have e := kd_10 ((kd_s n9 (by decide)).2 (by rw [sp_9 ha, b2i_t.mp h_236]; rfl))
                      refine z_bipush d_X8_nameNow_259 kb_m4 ?_
                      exact z_ireturn d_X8_nameNow_261 rfl ⟨by rw [e]; rfl, rfl, rfl, rfl, rfl⟩
                    · refine z_aload_n d_X8_nameNow_239 rfl ?_
                      refine z_aload_n d_X8_nameNow_240 rfl ?_
                      refine z_getI d_X8_nameNow_241 f_X8_110 (by first | rfl | assumption) (by omega) ?_
                      refine z_iconst d_X8_nameNow_244 ki_4 ?_
                      refine z_iadd d_X8_nameNow_245 ?_
                      rw [h19, show (nI s + 4 : Int32) = nI (s + 4) from nI_add s 4]
                      refine z_cVi d_X8_nameNow_246 q_X8_nameNow_119 (by first | rfl | assumption) (by omega) ⟨rfl, rfl⟩ ((ct_X8_look (t := t) (j := s + 4) (g := g) hR h17 ht h77 (by omega))) rfl rfl rfl ⟨Nat.zero_le _, Nat.zero_le _⟩ ?_
                      refine z_bipush d_X8_nameNow_249 kb_107 ?_
                      refine z_icmp_ne d_X8_nameNow_251 (fun h_251 => ?_) (fun h_251 => ?_)
                      · have e := kd_10 ((kd_s n9 (by decide)).2 (by rw [sp_9 ha, decide_eq_false h_251, Bool.and_false]))
                        refine z_bipush d_X8_nameNow_259 kb_m4 ?_
                        exact z_ireturn d_X8_nameNow_261 rfl ⟨by rw [e]; rfl, rfl, rfl, rfl, rfl⟩
                      · have e := (kd_s n9 (by decide)).1 (by rw [sp_9 ha, b2i_f.mp h_236, decide_eq_true h_251]; rfl)
                        refine z_bipush d_X8_nameNow_254 kb_9 ?_
                        refine z_goto d_X8_nameNow_256 ?_
                        exact z_ireturn d_X8_nameNow_261 rfl ⟨by rw [e]; rfl, rfl, rfl, rfl, rfl⟩
                  · refine z_aload_n d_X8_nameNow_190 rfl ?_
                    refine z_aload_n d_X8_nameNow_191 rfl ?_
                    refine z_getI d_X8_nameNow_192 f_X8_110 (by first | rfl | assumption) (by omega) ?_
                    refine z_iconst d_X8_nameNow_195 ki_4 ?_
                    refine z_iadd d_X8_nameNow_196 ?_
                    rw [h19, show (nI s + 4 : Int32) = nI (s + 4) from nI_add s 4]
                    refine z_cVi d_X8_nameNow_197 q_X8_nameNow_119 (by first | rfl | assumption) (by omega) ⟨rfl, rfl⟩ ((ct_X8_look (t := t) (j := s + 4) (g := g) hR h17 ht h77 (by omega))) rfl rfl rfl ⟨Nat.zero_le _, Nat.zero_le _⟩ ?_
                    refine z_bipush d_X8_nameNow_200 kb_101 ?_
                    refine z_icmp_ne d_X8_nameNow_202 (fun h_202 => ?_) (fun h_202 => ?_)
                    · have n9 := (kd_s n8 (by decide)).2 (by rw [sp_8 ha, decide_eq_false h_202, Bool.false_and, Bool.and_false])
                      refine z_aload_n d_X8_nameNow_223 rfl ?_
                      refine z_iconst d_X8_nameNow_224 ki_5 ?_
                      refine z_bipush d_X8_nameNow_225 kb_99 ?_
                      refine z_bipush d_X8_nameNow_227 kb_108 ?_
                      refine z_bipush d_X8_nameNow_229 kb_111 ?_
                      refine z_bipush d_X8_nameNow_231 kb_99 ?_
                      refine z_cVi d_X8_nameNow_233 q_X8_nameNow_123 (by first | rfl | assumption) (by omega) ⟨rfl, rfl⟩ ((ct_X8_is (t := t) (s := s) (a := a) (g := g) hR h17 ht h77 h18 h19 hsa hat)) rfl rfl rfl ⟨Nat.zero_le _, Nat.zero_le _⟩ ?_
                      refine z_if_eq d_X8_nameNow_236 (fun h_236 => ?_) (fun h_236 => ?_)
                      · have e := kd_10 ((kd_s n9 (by decide)).2 (by rw [sp_9 ha, b2i_t.mp h_236]; rfl))
                        refine z_bipush d_X8_nameNow_259 kb_m4 ?_
                        exact z_ireturn d_X8_nameNow_261 rfl ⟨by rw [e]; rfl, rfl, rfl, rfl, rfl⟩
                      · refine z_aload_n d_X8_nameNow_239 rfl ?_
                        refine z_aload_n d_X8_nameNow_240 rfl ?_
                        refine z_getI d_X8_nameNow_241 f_X8_110 (by first | rfl | assumption) (by omega) ?_
                        refine z_iconst d_X8_nameNow_244 ki_4 ?_
                        refine z_iadd d_X8_nameNow_245 ?_
                        rw [h19, show (nI s + 4 : Int32) = nI (s + 4) from nI_add s 4]
                        refine z_cVi d_X8_nameNow_246 q_X8_nameNow_119 (by first | rfl | assumption) (by omega) ⟨rfl, rfl⟩ ((ct_X8_look (t := t) (j := s + 4) (g := g) hR h17 ht h77 (by omega))) rfl rfl rfl ⟨Nat.zero_le _, Nat.zero_le _⟩ ?_
                        refine z_bipush d_X8_nameNow_249 kb_107 ?_
                        refine z_icmp_ne d_X8_nameNow_251 (fun h_251 => ?_) (fun h_251 => ?_)
                        · have e := kd_10 ((kd_s n9 (by decide)).2 (by rw [sp_9 ha, decide_eq_false h_251, Bool.and_false]))
                          refine z_bipush d_X8_nameNow_259 kb_m4 ?_
                          exact z_ireturn d_X8_nameNow_261 rfl ⟨by rw [e]; rfl, rfl, rfl, rfl, rfl⟩
                        · have e := (kd_s n9 (by decide)).1 (by rw [sp_9 ha, b2i_f.mp h_236, decide_eq_true h_251]; rfl)
                          refine z_bipush d_X8_nameNow_254 kb_9 ?_
                          refine z_goto d_X8_nameNow_256 ?_
                          exact z_ireturn d_X8_nameNow_261 rfl ⟨by rw [e]; rfl, rfl, rfl, rfl, rfl⟩
                    · refine z_aload_n d_X8_nameNow_205 rfl ?_
                      refine z_aload_n d_X8_nameNow_206 rfl ?_
                      refine z_getI d_X8_nameNow_207 f_X8_110 (by first | rfl | assumption) (by omega) ?_
                      refine z_iconst d_X8_nameNow_210 ki_5 ?_
                      refine z_iadd d_X8_nameNow_211 ?_
                      rw [h19, show (nI s + 5 : Int32) = nI (s + 5) from nI_add s 5]
                      refine z_cVi d_X8_nameNow_212 q_X8_nameNow_119 (by first | rfl | assumption) (by omega) ⟨rfl, rfl⟩ ((ct_X8_look (t := t) (j := s + 5) (g := g) hR h17 ht h77 (by omega))) rfl rfl rfl ⟨Nat.zero_le _, Nat.zero_le _⟩ ?_
                      refine z_bipush d_X8_nameNow_215 kb_115 ?_
                      refine z_icmp_ne d_X8_nameNow_217 (fun h_217 => ?_) (fun h_217 => ?_)
                      · have n9 := (kd_s n8 (by decide)).2 (by rw [sp_8 ha, decide_eq_false h_217, Bool.and_false, Bool.and_false])
                        refine z_aload_n d_X8_nameNow_223 rfl ?_
                        refine z_iconst d_X8_nameNow_224 ki_5 ?_
                        refine z_bipush d_X8_nameNow_225 kb_99 ?_
                        refine z_bipush d_X8_nameNow_227 kb_108 ?_
                        refine z_bipush d_X8_nameNow_229 kb_111 ?_
                        refine z_bipush d_X8_nameNow_231 kb_99 ?_
                        refine z_cVi d_X8_nameNow_233 q_X8_nameNow_123 (by first | rfl | assumption) (by omega) ⟨rfl, rfl⟩ ((ct_X8_is (t := t) (s := s) (a := a) (g := g) hR h17 ht h77 h18 h19 hsa hat)) rfl rfl rfl ⟨Nat.zero_le _, Nat.zero_le _⟩ ?_
                        refine z_if_eq d_X8_nameNow_236 (fun h_236 => ?_) (fun h_236 => ?_)
                        · have e := kd_10 ((kd_s n9 (by decide)).2 (by rw [sp_9 ha, b2i_t.mp h_236]; rfl))
                          refine z_bipush d_X8_nameNow_259 kb_m4 ?_
                          exact z_ireturn d_X8_nameNow_261 rfl ⟨by rw [e]; rfl, rfl, rfl, rfl, rfl⟩
                        · refine z_aload_n d_X8_nameNow_239 rfl ?_
                          refine z_aload_n d_X8_nameNow_240 rfl ?_
                          refine z_getI d_X8_nameNow_241 f_X8_110 (by first | rfl | assumption) (by omega) ?_
                          refine z_iconst d_X8_nameNow_244 ki_4 ?_
                          refine z_iadd d_X8_nameNow_245 ?_
                          rw [h19, show (nI s + 4 : Int32) = nI (s + 4) from nI_add s 4]
                          refine z_cVi d_X8_nameNow_246 q_X8_nameNow_119 (by first | rfl | assumption) (by omega) ⟨rfl, rfl⟩ ((ct_X8_look (t := t) (j := s + 4) (g := g) hR h17 ht h77 (by omega))) rfl rfl rfl ⟨Nat.zero_le _, Nat.zero_le _⟩ ?_
                          refine z_bipush d_X8_nameNow_249 kb_107 ?_
                          refine z_icmp_ne d_X8_nameNow_251 (fun h_251 => ?_) (fun h_251 => ?_)
                          · have e := kd_10 ((kd_s n9 (by decide)).2 (by rw [sp_9 ha, decide_eq_false h_251, Bool.and_false]))
                            refine z_bipush d_X8_nameNow_259 kb_m4 ?_
                            exact z_ireturn d_X8_nameNow_261 rfl ⟨by rw [e]; rfl, rfl, rfl, rfl, rfl⟩
                          · have e := (kd_s n9 (by decide)).1 (by rw [sp_9 ha, b2i_f.mp h_236, decide_eq_true h_251]; rfl)
                            refine z_bipush d_X8_nameNow_254 kb_9 ?_
                            refine z_goto d_X8_nameNow_256 ?_
                            exact z_ireturn d_X8_nameNow_261 rfl ⟨by rw [e]; rfl, rfl, rfl, rfl, rfl⟩
                      · have e := (kd_s n8 (by decide)).1 (by rw [sp_8 ha, b2i_f.mp h_187, decide_eq_true h_202, decide_eq_true h_217]; rfl)
                        refine z_bipush d_X8_nameNow_220 kb_8 ?_
                        exact z_ireturn d_X8_nameNow_222 rfl ⟨by rw [e]; rfl, rfl, rfl, rfl, rfl⟩
                · have e := (kd_s n7 (by decide)).1 (by rw [sp_7 ha]; exact b2i_f.mp h_167)
                  refine z_bipush d_X8_nameNow_170 kb_7 ?_
                  exact z_ireturn d_X8_nameNow_172 rfl ⟨by rw [e]; rfl, rfl, rfl, rfl, rfl⟩
              · refine z_aload_n d_X8_nameNow_136 rfl ?_
                refine z_aload_n d_X8_nameNow_137 rfl ?_
                refine z_getI d_X8_nameNow_138 f_X8_110 (by first | rfl | assumption) (by omega) ?_
                refine z_iconst d_X8_nameNow_141 ki_4 ?_
                refine z_iadd d_X8_nameNow_142 ?_
                rw [h19, show (nI s + 4 : Int32) = nI (s + 4) from nI_add s 4]
                refine z_cVi d_X8_nameNow_143 q_X8_nameNow_119 (by first | rfl | assumption) (by omega) ⟨rfl, rfl⟩ ((ct_X8_look (t := t) (j := s + 4) (g := g) hR h17 ht h77 (by omega))) rfl rfl rfl ⟨Nat.zero_le _, Nat.zero_le _⟩ ?_
                refine z_bipush d_X8_nameNow_146 kb_114 ?_
                refine z_icmp_ne d_X8_nameNow_148 (fun h_148 => ?_) (fun h_148 => ?_)
                · have n7 := (kd_s n6 (by decide)).2 (by rw [sp_6 ha, decide_eq_false h_148, Bool.and_false])
                  refine z_aload_n d_X8_nameNow_154 rfl ?_
                  refine z_iconst d_X8_nameNow_155 ki_4 ?_
                  refine z_bipush d_X8_nameNow_156 kb_103 ?_
                  refine z_bipush d_X8_nameNow_158 kb_97 ?_
                  refine z_bipush d_X8_nameNow_160 kb_105 ?_
                  refine z_bipush d_X8_nameNow_162 kb_110 ?_
                  refine z_cVi d_X8_nameNow_164 q_X8_nameNow_123 (by first | rfl | assumption) (by omega) ⟨rfl, rfl⟩ ((ct_X8_is (t := t) (s := s) (a := a) (g := g) hR h17 ht h77 h18 h19 hsa hat)) rfl rfl rfl ⟨Nat.zero_le _, Nat.zero_le _⟩ ?_
                  refine z_if_eq d_X8_nameNow_167 (fun h_167 => ?_) (fun h_167 => ?_)
                  · have n8 := (kd_s n7 (by decide)).2 (by rw [sp_7 ha]; exact b2i_t.mp h_167)
                    refine z_aload_n d_X8_nameNow_173 rfl ?_
                    refine z_bipush d_X8_nameNow_174 kb_6 ?_
                    refine z_bipush d_X8_nameNow_176 kb_112 ?_
                    refine z_bipush d_X8_nameNow_178 kb_104 ?_
                    refine z_bipush d_X8_nameNow_180 kb_97 ?_
                    refine z_bipush d_X8_nameNow_182 kb_115 ?_
                    refine z_cVi d_X8_nameNow_184 q_X8_nameNow_123 (by first | rfl | assumption) (by omega) ⟨rfl, rfl⟩ ((ct_X8_is (t := t) (s := s) (a := a) (g := g) hR h17 ht h77 h18 h19 hsa hat)) rfl rfl rfl ⟨Nat.zero_le _, Nat.zero_le _⟩ ?_
                    refine z_if_eq d_X8_nameNow_187 (fun h_187 => ?_) (fun h_187 => ?_)
                    · have n9 := (kd_s n8 (by decide)).2 (by rw [sp_8 ha, b2i_t.mp h_187]; rfl)
                      refine z_aload_n d_X8_nameNow_223 rfl ?_
                      refine z_iconst d_X8_nameNow_224 ki_5 ?_
                      refine z_bipush d_X8_nameNow_225 kb_99 ?_
                      refine z_bipush d_X8_nameNow_227 kb_108 ?_
                      refine z_bipush d_X8_nameNow_229 kb_111 ?_
                      refine z_bipush d_X8_nameNow_231 kb_99 ?_
                      refine z_cVi d_X8_nameNow_233 q_X8_nameNow_123 (by first | rfl | assumption) (by omega) ⟨rfl, rfl⟩ ((ct_X8_is (t := t) (s := s) (a := a) (g := g) hR h17 ht h77 h18 h19 hsa hat)) rfl rfl rfl ⟨Nat.zero_le _, Nat.zero_le _⟩ ?_
                      refine z_if_eq d_X8_nameNow_236 (fun h_236 => ?_) (fun h_236 => ?_)
                      · have e := kd_10 ((kd_s n9 (by decide)).2 (by rw [sp_9 ha, b2i_t.mp h_236]; rfl))
                        refine z_bipush d_X8_nameNow_259 kb_m4 ?_
                        exact z_ireturn d_X8_nameNow_261 rfl ⟨by rw [e]; rfl, rfl, rfl, rfl, rfl⟩
                      · refine z_aload_n d_X8_nameNow_239 rfl ?_
                        refine z_aload_n d_X8_nameNow_240 rfl ?_
                        refine z_getI d_X8_nameNow_241 f_X8_110 (by first | rfl | assumption) (by omega) ?_
                        refine z_iconst d_X8_nameNow_244 ki_4 ?_
                        refine z_iadd d_X8_nameNow_245 ?_
                        rw [h19, show (nI s + 4 : Int32) = nI (s + 4) from nI_add s 4]
                        refine z_cVi d_X8_nameNow_246 q_X8_nameNow_119 (by first | rfl | assumption) (by omega) ⟨rfl, rfl⟩ ((ct_X8_look (t := t) (j := s + 4) (g := g) hR h17 ht h77 (by omega))) rfl rfl rfl ⟨Nat.zero_le _, Nat.zero_le _⟩ ?_
                        refine z_bipush d_X8_nameNow_249 kb_107 ?_
                        refine z_icmp_ne d_X8_nameNow_251 (fun h_251 => ?_) (fun h_251 => ?_)
                        · have e := kd_10 ((kd_s n9 (by decide)).2 (by rw [sp_9 ha, decide_eq_false h_251, Bool.and_false]))
                          refine z_bipush d_X8_nameNow_259 kb_m4 ?_
                          exact z_ireturn d_X8_nameNow_261 rfl ⟨by rw [e]; rfl, rfl, rfl, rfl, rfl⟩
                        · have e := (kd_s n9 (by decide)).1 (by rw [sp_9 ha, b2i_f.mp h_236, decide_eq_true h_251]; rfl)
                          refine z_bipush d_X8_nameNow_254 kb_9 ?_
                          refine z_goto d_X8_nameNow_256 ?_
                          exact z_ireturn d_X8_nameNow_261 rfl ⟨by rw [e]; rfl, rfl, rfl, rfl, rfl⟩
                    · refine z_aload_n d_X8_nameNow_190 rfl ?_
                      refine z_aload_n d_X8_nameNow_191 rfl ?_
                      refine z_getI d_X8_nameNow_192 f_X8_110 (by first | rfl | assumption) (by omega) ?_
                      refine z_iconst d_X8_nameNow_195 ki_4 ?_
                      refine z_iadd d_X8_nameNow_196 ?_
                      rw [h19, show (nI s + 4 : Int32) = nI (s + 4) from nI_add s 4]
                      refine z_cVi d_X8_nameNow_197 q_X8_nameNow_119 (by first | rfl | assumption) (by omega) ⟨rfl, rfl⟩ ((ct_X8_look (t := t) (j := s + 4) (g := g) hR h17 ht h77 (by omega))) rfl rfl rfl ⟨Nat.zero_le _, Nat.zero_le _⟩ ?_
                      refine z_bipush d_X8_nameNow_200 kb_101 ?_
                      refine z_icmp_ne d_X8_nameNow_202 (fun h_202 => ?_) (fun h_202 => ?_)
                      · have n9 := (kd_s n8 (by decide)).2 (by rw [sp_8 ha, decide_eq_false h_202, Bool.false_and, Bool.and_false])
                        refine z_aload_n d_X8_nameNow_223 rfl ?_
                        refine z_iconst d_X8_nameNow_224 ki_5 ?_
                        refine z_bipush d_X8_nameNow_225 kb_99 ?_
                        refine z_bipush d_X8_nameNow_227 kb_108 ?_
                        refine z_bipush d_X8_nameNow_229 kb_111 ?_
                        refine z_bipush d_X8_nameNow_231 kb_99 ?_
                        refine z_cVi d_X8_nameNow_233 q_X8_nameNow_123 (by first | rfl | assumption) (by omega) ⟨rfl, rfl⟩ ((ct_X8_is (t := t) (s := s) (a := a) (g := g) hR h17 ht h77 h18 h19 hsa hat)) rfl rfl rfl ⟨Nat.zero_le _, Nat.zero_le _⟩ ?_
                        refine z_if_eq d_X8_nameNow_236 (fun h_236 => ?_) (fun h_236 => ?_)
                        · have e := kd_10 ((kd_s n9 (by decide)).2 (by rw [sp_9 ha, b2i_t.mp h_236]; rfl))
                          refine z_bipush d_X8_nameNow_259 kb_m4 ?_
                          exact z_ireturn d_X8_nameNow_261 rfl ⟨by rw [e]; rfl, rfl, rfl, rfl, rfl⟩
                        · refine z_aload_n d_X8_nameNow_239 rfl ?_
                          refine z_aload_n d_X8_nameNow_240 rfl ?_
                          refine z_getI d_X8_nameNow_241 f_X8_110 (by first | rfl | assumption) (by omega) ?_
                          refine z_iconst d_X8_nameNow_244 ki_4 ?_
                          refine z_iadd d_X8_nameNow_245 ?_
                          rw [h19, show (nI s + 4 : Int32) = nI (s + 4) from nI_add s 4]
                          refine z_cVi d_X8_nameNow_246 q_X8_nameNow_119 (by first | rfl | assumption) (by omega) ⟨rfl, rfl⟩ ((ct_X8_look (t := t) (j := s + 4) (g := g) hR h17 ht h77 (by omega))) rfl rfl rfl ⟨Nat.zero_le _, Nat.zero_le _⟩ ?_
                          refine z_bipush d_X8_nameNow_249 kb_107 ?_
                          refine z_icmp_ne d_X8_nameNow_251 (fun h_251 => ?_) (fun h_251 => ?_)
                          · have e := kd_10 ((kd_s n9 (by decide)).2 (by rw [sp_9 ha, decide_eq_false h_251, Bool.and_false]))
                            refine z_bipush d_X8_nameNow_259 kb_m4 ?_
                            exact z_ireturn d_X8_nameNow_261 rfl ⟨by rw [e]; rfl, rfl, rfl, rfl, rfl⟩
                          · have e := (kd_s n9 (by decide)).1 (by rw [sp_9 ha, b2i_f.mp h_236, decide_eq_true h_251]; rfl)
                            refine z_bipush d_X8_nameNow_254 kb_9 ?_
                            refine z_goto d_X8_nameNow_256 ?_
                            exact z_ireturn d_X8_nameNow_261 rfl ⟨by rw [e]; rfl, rfl, rfl, rfl, rfl⟩
                      · refine z_aload_n d_X8_nameNow_205 rfl ?_
                        refine z_aload_n d_X8_nameNow_206 rfl ?_
                        refine z_getI d_X8_nameNow_207 f_X8_110 (by first | rfl | assumption) (by omega) ?_
                        refine z_iconst d_X8_nameNow_210 ki_5 ?_
                        refine z_iadd d_X8_nameNow_211 ?_
                        rw [h19, show (nI s + 5 : Int32) = nI (s + 5) from nI_add s 5]
                        refine z_cVi d_X8_nameNow_212 q_X8_nameNow_119 (by first | rfl | assumption) (by omega) ⟨rfl, rfl⟩ ((ct_X8_look (t := t) (j := s + 5) (g := g) hR h17 ht h77 (by omega))) rfl rfl rfl ⟨Nat.zero_le _, Nat.zero_le _⟩ ?_
                        refine z_bipush d_X8_nameNow_215 kb_115 ?_
                        refine z_icmp_ne d_X8_nameNow_217 (fun h_217 => ?_) (fun h_217 => ?_)
                        · have n9 := (kd_s n8 (by decide)).2 (by rw [sp_8 ha, decide_eq_false h_217, Bool.and_false, Bool.and_false])
                          refine z_aload_n d_X8_nameNow_223 rfl ?_
                          refine z_iconst d_X8_nameNow_224 ki_5 ?_
                          refine z_bipush d_X8_nameNow_225 kb_99 ?_
                          refine z_bipush d_X8_nameNow_227 kb_108 ?_
                          refine z_bipush d_X8_nameNow_229 kb_111 ?_
                          refine z_bipush d_X8_nameNow_231 kb_99 ?_
                          refine z_cVi d_X8_nameNow_233 q_X8_nameNow_123 (by first | rfl | assumption) (by omega) ⟨rfl, rfl⟩ ((ct_X8_is (t := t) (s := s) (a := a) (g := g) hR h17 ht h77 h18 h19 hsa hat)) rfl rfl rfl ⟨Nat.zero_le _, Nat.zero_le _⟩ ?_
                          refine z_if_eq d_X8_nameNow_236 (fun h_236 => ?_) (fun h_236 => ?_)
                          · have e := kd_10 ((kd_s n9 (by decide)).2 (by rw [sp_9 ha, b2i_t.mp h_236]; rfl))
                            refine z_bipush d_X8_nameNow_259 kb_m4 ?_
                            exact z_ireturn d_X8_nameNow_261 rfl ⟨by rw [e]; rfl, rfl, rfl, rfl, rfl⟩
                          · refine z_aload_n d_X8_nameNow_239 rfl ?_
                            refine z_aload_n d_X8_nameNow_240 rfl ?_
                            refine z_getI d_X8_nameNow_241 f_X8_110 (by first | rfl | assumption) (by omega) ?_
                            refine z_iconst d_X8_nameNow_244 ki_4 ?_
                            refine z_iadd d_X8_nameNow_245 ?_
                            rw [h19, show (nI s + 4 : Int32) = nI (s + 4) from nI_add s 4]
                            refine z_cVi d_X8_nameNow_246 q_X8_nameNow_119 (by first | rfl | assumption) (by omega) ⟨rfl, rfl⟩ ((ct_X8_look (t := t) (j := s + 4) (g := g) hR h17 ht h77 (by omega))) rfl rfl rfl ⟨Nat.zero_le _, Nat.zero_le _⟩ ?_
                            refine z_bipush d_X8_nameNow_249 kb_107 ?_
                            refine z_icmp_ne d_X8_nameNow_251 (fun h_251 => ?_) (fun h_251 => ?_)
                            · have e := kd_10 ((kd_s n9 (by decide)).2 (by rw [sp_9 ha, decide_eq_false h_251, Bool.and_false]))
                              refine z_bipush d_X8_nameNow_259 kb_m4 ?_
                              exact z_ireturn d_X8_nameNow_261 rfl ⟨by rw [e]; rfl, rfl, rfl, rfl, rfl⟩
                            · have e := (kd_s n9 (by decide)).1 (by rw [sp_9 ha, b2i_f.mp h_236, decide_eq_true h_251]; rfl)
                              refine z_bipush d_X8_nameNow_254 kb_9 ?_
                              refine z_goto d_X8_nameNow_256 ?_
                              exact z_ireturn d_X8_nameNow_261 rfl ⟨by rw [e]; rfl, rfl, rfl, rfl, rfl⟩
                        · have e := (kd_s n8 (by decide)).1 (by rw [sp_8 ha, b2i_f.mp h_187, decide_eq_true h_202, decide_eq_true h_217]; rfl)
                          refine z_bipush d_X8_nameNow_220 kb_8 ?_
                          exact z_ireturn d_X8_nameNow_222 rfl ⟨by rw [e]; rfl, rfl, rfl, rfl, rfl⟩
                  · have e := (kd_s n7 (by decide)).1 (by rw [sp_7 ha]; exact b2i_f.mp h_167)
                    refine z_bipush d_X8_nameNow_170 kb_7 ?_
                    exact z_ireturn d_X8_nameNow_172 rfl ⟨by rw [e]; rfl, rfl, rfl, rfl, rfl⟩
                · have e := (kd_s n6 (by decide)).1 (by rw [sp_6 ha, b2i_f.mp h_133, decide_eq_true h_148]; rfl)
                  refine z_bipush d_X8_nameNow_151 kb_6 ?_
                  exact z_ireturn d_X8_nameNow_153 rfl ⟨by rw [e]; rfl, rfl, rfl, rfl, rfl⟩
            · refine z_aload_n d_X8_nameNow_103 rfl ?_
              refine z_aload_n d_X8_nameNow_104 rfl ?_
              refine z_getI d_X8_nameNow_105 f_X8_110 (by first | rfl | assumption) (by omega) ?_
              refine z_iconst d_X8_nameNow_108 ki_4 ?_
              refine z_iadd d_X8_nameNow_109 ?_
              rw [h19, show (nI s + 4 : Int32) = nI (s + 4) from nI_add s 4]
              refine z_cVi d_X8_nameNow_110 q_X8_nameNow_119 (by first | rfl | assumption) (by omega) ⟨rfl, rfl⟩ ((ct_X8_look (t := t) (j := s + 4) (g := g) hR h17 ht h77 (by omega))) rfl rfl rfl ⟨Nat.zero_le _, Nat.zero_le _⟩ ?_
              refine z_bipush d_X8_nameNow_113 kb_110 ?_
              refine z_icmp_ne d_X8_nameNow_115 (fun h_115 => ?_) (fun h_115 => ?_)
              · have n6 := (kd_s n5 (by decide)).2 (by rw [sp_5 ha, decide_eq_false h_115, Bool.and_false])
                refine z_aload_n d_X8_nameNow_120 rfl ?_
                refine z_iconst d_X8_nameNow_121 ki_5 ?_
                refine z_bipush d_X8_nameNow_122 kb_115 ?_
                refine z_bipush d_X8_nameNow_124 kb_109 ?_
                refine z_bipush d_X8_nameNow_126 kb_101 ?_
                refine z_bipush d_X8_nameNow_128 kb_97 ?_
                refine z_cVi d_X8_nameNow_130 q_X8_nameNow_123 (by first | rfl | assumption) (by omega) ⟨rfl, rfl⟩ ((ct_X8_is (t := t) (s := s) (a := a) (g := g) hR h17 ht h77 h18 h19 hsa hat)) rfl rfl rfl ⟨Nat.zero_le _, Nat.zero_le _⟩ ?_
                refine z_if_eq d_X8_nameNow_133 (fun h_133 => ?_) (fun h_133 => ?_)
                · have n7 := (kd_s n6 (by decide)).2 (by rw [sp_6 ha, b2i_t.mp h_133]; rfl)
                  refine z_aload_n d_X8_nameNow_154 rfl ?_
                  refine z_iconst d_X8_nameNow_155 ki_4 ?_
                  refine z_bipush d_X8_nameNow_156 kb_103 ?_
                  refine z_bipush d_X8_nameNow_158 kb_97 ?_
                  refine z_bipush d_X8_nameNow_160 kb_105 ?_
                  refine z_bipush d_X8_nameNow_162 kb_110 ?_
                  refine z_cVi d_X8_nameNow_164 q_X8_nameNow_123 (by first | rfl | assumption) (by omega) ⟨rfl, rfl⟩ ((ct_X8_is (t := t) (s := s) (a := a) (g := g) hR h17 ht h77 h18 h19 hsa hat)) rfl rfl rfl ⟨Nat.zero_le _, Nat.zero_le _⟩ ?_
                  refine z_if_eq d_X8_nameNow_167 (fun h_167 => ?_) (fun h_167 => ?_)
                  · have n8 := (kd_s n7 (by decide)).2 (by rw [sp_7 ha]; exact b2i_t.mp h_167)
                    refine z_aload_n d_X8_nameNow_173 rfl ?_
                    refine z_bipush d_X8_nameNow_174 kb_6 ?_
                    refine z_bipush d_X8_nameNow_176 kb_112 ?_
                    refine z_bipush d_X8_nameNow_178 kb_104 ?_
                    refine z_bipush d_X8_nameNow_180 kb_97 ?_
                    refine z_bipush d_X8_nameNow_182 kb_115 ?_
                    refine z_cVi d_X8_nameNow_184 q_X8_nameNow_123 (by first | rfl | assumption) (by omega) ⟨rfl, rfl⟩ ((ct_X8_is (t := t) (s := s) (a := a) (g := g) hR h17 ht h77 h18 h19 hsa hat)) rfl rfl rfl ⟨Nat.zero_le _, Nat.zero_le _⟩ ?_
                    refine z_if_eq d_X8_nameNow_187 (fun h_187 => ?_) (fun h_187 => ?_)
                    · have n9 := (kd_s n8 (by decide)).2 (by rw [sp_8 ha, b2i_t.mp h_187]; rfl)
                      refine z_aload_n d_X8_nameNow_223 rfl ?_
                      refine z_iconst d_X8_nameNow_224 ki_5 ?_
                      refine z_bipush d_X8_nameNow_225 kb_99 ?_
                      refine z_bipush d_X8_nameNow_227 kb_108 ?_
                      refine z_bipush d_X8_nameNow_229 kb_111 ?_
                      refine z_bipush d_X8_nameNow_231 kb_99 ?_
                      refine z_cVi d_X8_nameNow_233 q_X8_nameNow_123 (by first | rfl | assumption) (by omega) ⟨rfl, rfl⟩ ((ct_X8_is (t := t) (s := s) (a := a) (g := g) hR h17 ht h77 h18 h19 hsa hat)) rfl rfl rfl ⟨Nat.zero_le _, Nat.zero_le _⟩ ?_
                      refine z_if_eq d_X8_nameNow_236 (fun h_236 => ?_) (fun h_236 => ?_)
                      · have e := kd_10 ((kd_s n9 (by decide)).2 (by rw [sp_9 ha, b2i_t.mp h_236]; rfl))
                        refine z_bipush d_X8_nameNow_259 kb_m4 ?_
                        exact z_ireturn d_X8_nameNow_261 rfl ⟨by rw [e]; rfl, rfl, rfl, rfl, rfl⟩
                      · refine z_aload_n d_X8_nameNow_239 rfl ?_
                        refine z_aload_n d_X8_nameNow_240 rfl ?_
                        refine z_getI d_X8_nameNow_241 f_X8_110 (by first | rfl | assumption) (by omega) ?_
                        refine z_iconst d_X8_nameNow_244 ki_4 ?_
                        refine z_iadd d_X8_nameNow_245 ?_
                        rw [h19, show (nI s + 4 : Int32) = nI (s + 4) from nI_add s 4]
                        refine z_cVi d_X8_nameNow_246 q_X8_nameNow_119 (by first | rfl | assumption) (by omega) ⟨rfl, rfl⟩ ((ct_X8_look (t := t) (j := s + 4) (g := g) hR h17 ht h77 (by omega))) rfl rfl rfl ⟨Nat.zero_le _, Nat.zero_le _⟩ ?_
                        refine z_bipush d_X8_nameNow_249 kb_107 ?_
                        refine z_icmp_ne d_X8_nameNow_251 (fun h_251 => ?_) (fun h_251 => ?_)
                        · have e := kd_10 ((kd_s n9 (by decide)).2 (by rw [sp_9 ha, decide_eq_false h_251, Bool.and_false]))
                          refine z_bipush d_X8_nameNow_259 kb_m4 ?_
                          exact z_ireturn d_X8_nameNow_261 rfl ⟨by rw [e]; rfl, rfl, rfl, rfl, rfl⟩
                        · have e := (kd_s n9 (by decide)).1 (by rw [sp_9 ha, b2i_f.mp h_236, decide_eq_true h_251]; rfl)
                          refine z_bipush d_X8_nameNow_254 kb_9 ?_
                          refine z_goto d_X8_nameNow_256 ?_
                          exact z_ireturn d_X8_nameNow_261 rfl ⟨by rw [e]; rfl, rfl, rfl, rfl, rfl⟩
                    · refine z_aload_n d_X8_nameNow_190 rfl ?_
                      refine z_aload_n d_X8_nameNow_191 rfl ?_
                      refine z_getI d_X8_nameNow_192 f_X8_110 (by first | rfl | assumption) (by omega) ?_
                      refine z_iconst d_X8_nameNow_195 ki_4 ?_
                      refine z_iadd d_X8_nameNow_196 ?_
                      rw [h19, show (nI s + 4 : Int32) = nI (s + 4) from nI_add s 4]
                      refine z_cVi d_X8_nameNow_197 q_X8_nameNow_119 (by first | rfl | assumption) (by omega) ⟨rfl, rfl⟩ ((ct_X8_look (t := t) (j := s + 4) (g := g) hR h17 ht h77 (by omega))) rfl rfl rfl ⟨Nat.zero_le _, Nat.zero_le _⟩ ?_
                      refine z_bipush d_X8_nameNow_200 kb_101 ?_
                      refine z_icmp_ne d_X8_nameNow_202 (fun h_202 => ?_) (fun h_202 => ?_)
                      · have n9 := (kd_s n8 (by decide)).2 (by rw [sp_8 ha, decide_eq_false h_202, Bool.false_and, Bool.and_false])
                        refine z_aload_n d_X8_nameNow_223 rfl ?_
                        refine z_iconst d_X8_nameNow_224 ki_5 ?_
                        refine z_bipush d_X8_nameNow_225 kb_99 ?_
                        refine z_bipush d_X8_nameNow_227 kb_108 ?_
                        refine z_bipush d_X8_nameNow_229 kb_111 ?_
                        refine z_bipush d_X8_nameNow_231 kb_99 ?_
                        refine z_cVi d_X8_nameNow_233 q_X8_nameNow_123 (by first | rfl | assumption) (by omega) ⟨rfl, rfl⟩ ((ct_X8_is (t := t) (s := s) (a := a) (g := g) hR h17 ht h77 h18 h19 hsa hat)) rfl rfl rfl ⟨Nat.zero_le _, Nat.zero_le _⟩ ?_
                        refine z_if_eq d_X8_nameNow_236 (fun h_236 => ?_) (fun h_236 => ?_)
                        · have e := kd_10 ((kd_s n9 (by decide)).2 (by rw [sp_9 ha, b2i_t.mp h_236]; rfl))
                          refine z_bipush d_X8_nameNow_259 kb_m4 ?_
                          exact z_ireturn d_X8_nameNow_261 rfl ⟨by rw [e]; rfl, rfl, rfl, rfl, rfl⟩
                        · refine z_aload_n d_X8_nameNow_239 rfl ?_
                          refine z_aload_n d_X8_nameNow_240 rfl ?_
                          refine z_getI d_X8_nameNow_241 f_X8_110 (by first | rfl | assumption) (by omega) ?_
                          refine z_iconst d_X8_nameNow_244 ki_4 ?_
                          refine z_iadd d_X8_nameNow_245 ?_
                          rw [h19, show (nI s + 4 : Int32) = nI (s + 4) from nI_add s 4]
                          refine z_cVi d_X8_nameNow_246 q_X8_nameNow_119 (by first | rfl | assumption) (by omega) ⟨rfl, rfl⟩ ((ct_X8_look (t := t) (j := s + 4) (g := g) hR h17 ht h77 (by omega))) rfl rfl rfl ⟨Nat.zero_le _, Nat.zero_le _⟩ ?_
                          refine z_bipush d_X8_nameNow_249 kb_107 ?_
                          refine z_icmp_ne d_X8_nameNow_251 (fun h_251 => ?_) (fun h_251 => ?_)
                          · have e := kd_10 ((kd_s n9 (by decide)).2 (by rw [sp_9 ha, decide_eq_false h_251, Bool.and_false]))
                            refine z_bipush d_X8_nameNow_259 kb_m4 ?_
                            exact z_ireturn d_X8_nameNow_261 rfl ⟨by rw [e]; rfl, rfl, rfl, rfl, rfl⟩
                          · have e := (kd_s n9 (by decide)).1 (by rw [sp_9 ha, b2i_f.mp h_236, decide_eq_true h_251]; rfl)
                            refine z_bipush d_X8_nameNow_254 kb_9 ?_
                            refine z_goto d_X8_nameNow_256 ?_
                            exact z_ireturn d_X8_nameNow_261 rfl ⟨by rw [e]; rfl, rfl, rfl, rfl, rfl⟩
                      · refine z_aload_n d_X8_nameNow_205 rfl ?_
                        refine z_aload_n d_X8_nameNow_206 rfl ?_
                        refine z_getI d_X8_nameNow_207 f_X8_110 (by first | rfl | assumption) (by omega) ?_
                        refine z_iconst d_X8_nameNow_210 ki_5 ?_
                        refine z_iadd d_X8_nameNow_211 ?_
                        rw [h19, show (nI s + 5 : Int32) = nI (s + 5) from nI_add s 5]
                        refine z_cVi d_X8_nameNow_212 q_X8_nameNow_119 (by first | rfl | assumption) (by omega) ⟨rfl, rfl⟩ ((ct_X8_look (t := t) (j := s + 5) (g := g) hR h17 ht h77 (by omega))) rfl rfl rfl ⟨Nat.zero_le _, Nat.zero_le _⟩ ?_
                        refine z_bipush d_X8_nameNow_215 kb_115 ?_
                        refine z_icmp_ne d_X8_nameNow_217 (fun h_217 => ?_) (fun h_217 => ?_)
                        · have n9 := (kd_s n8 (by decide)).2 (by rw [sp_8 ha, decide_eq_false h_217, Bool.and_false, Bool.and_false])
                          refine z_aload_n d_X8_nameNow_223 rfl ?_
                          refine z_iconst d_X8_nameNow_224 ki_5 ?_
                          refine z_bipush d_X8_nameNow_225 kb_99 ?_
                          refine z_bipush d_X8_nameNow_227 kb_108 ?_
                          refine z_bipush d_X8_nameNow_229 kb_111 ?_
                          refine z_bipush d_X8_nameNow_231 kb_99 ?_
                          refine z_cVi d_X8_nameNow_233 q_X8_nameNow_123 (by first | rfl | assumption) (by omega) ⟨rfl, rfl⟩ ((ct_X8_is (t := t) (s := s) (a := a) (g := g) hR h17 ht h77 h18 h19 hsa hat)) rfl rfl rfl ⟨Nat.zero_le _, Nat.zero_le _⟩ ?_
                          refine z_if_eq d_X8_nameNow_236 (fun h_236 => ?_) (fun h_236 => ?_)
                          · have e := kd_10 ((kd_s n9 (by decide)).2 (by rw [sp_9 ha, b2i_t.mp h_236]; rfl))
                            refine z_bipush d_X8_nameNow_259 kb_m4 ?_
                            exact z_ireturn d_X8_nameNow_261 rfl ⟨by rw [e]; rfl, rfl, rfl, rfl, rfl⟩
                          · refine z_aload_n d_X8_nameNow_239 rfl ?_
                            refine z_aload_n d_X8_nameNow_240 rfl ?_
                            refine z_getI d_X8_nameNow_241 f_X8_110 (by first | rfl | assumption) (by omega) ?_
                            refine z_iconst d_X8_nameNow_244 ki_4 ?_
                            refine z_iadd d_X8_nameNow_245 ?_
                            rw [h19, show (nI s + 4 : Int32) = nI (s + 4) from nI_add s 4]
                            refine z_cVi d_X8_nameNow_246 q_X8_nameNow_119 (by first | rfl | assumption) (by omega) ⟨rfl, rfl⟩ ((ct_X8_look (t := t) (j := s + 4) (g := g) hR h17 ht h77 (by omega))) rfl rfl rfl ⟨Nat.zero_le _, Nat.zero_le _⟩ ?_
                            refine z_bipush d_X8_nameNow_249 kb_107 ?_
                            refine z_icmp_ne d_X8_nameNow_251 (fun h_251 => ?_) (fun h_251 => ?_)
                            · have e := kd_10 ((kd_s n9 (by decide)).2 (by rw [sp_9 ha, decide_eq_false h_251, Bool.and_false]))
                              refine z_bipush d_X8_nameNow_259 kb_m4 ?_
                              exact z_ireturn d_X8_nameNow_261 rfl ⟨by rw [e]; rfl, rfl, rfl, rfl, rfl⟩
                            · have e := (kd_s n9 (by decide)).1 (by rw [sp_9 ha, b2i_f.mp h_236, decide_eq_true h_251]; rfl)
                              refine z_bipush d_X8_nameNow_254 kb_9 ?_
                              refine z_goto d_X8_nameNow_256 ?_
                              exact z_ireturn d_X8_nameNow_261 rfl ⟨by rw [e]; rfl, rfl, rfl, rfl, rfl⟩
                        · have e := (kd_s n8 (by decide)).1 (by rw [sp_8 ha, b2i_f.mp h_187, decide_eq_true h_202, decide_eq_true h_217]; rfl)
                          refine z_bipush d_X8_nameNow_220 kb_8 ?_
                          exact z_ireturn d_X8_nameNow_222 rfl ⟨by rw [e]; rfl, rfl, rfl, rfl, rfl⟩
                  · have e := (kd_s n7 (by decide)).1 (by rw [sp_7 ha]; exact b2i_f.mp h_167)
                    refine z_bipush d_X8_nameNow_170 kb_7 ?_
                    exact z_ireturn d_X8_nameNow_172 rfl ⟨by rw [e]; rfl, rfl, rfl, rfl, rfl⟩
                · refine z_aload_n d_X8_nameNow_136 rfl ?_
                  refine z_aload_n d_X8_nameNow_137 rfl ?_
                  refine z_getI d_X8_nameNow_138 f_X8_110 (by first | rfl | assumption) (by omega) ?_
                  refine z_iconst d_X8_nameNow_141 ki_4 ?_
                  refine z_iadd d_X8_nameNow_142 ?_
                  rw [h19, show (nI s + 4 : Int32) = nI (s + 4) from nI_add s 4]
                  refine z_cVi d_X8_nameNow_143 q_X8_nameNow_119 (by first | rfl | assumption) (by omega) ⟨rfl, rfl⟩ ((ct_X8_look (t := t) (j := s + 4) (g := g) hR h17 ht h77 (by omega))) rfl rfl rfl ⟨Nat.zero_le _, Nat.zero_le _⟩ ?_
                  refine z_bipush d_X8_nameNow_146 kb_114 ?_
                  refine z_icmp_ne d_X8_nameNow_148 (fun h_148 => ?_) (fun h_148 => ?_)
                  · have n7 := (kd_s n6 (by decide)).2 (by rw [sp_6 ha, decide_eq_false h_148, Bool.and_false])
                    refine z_aload_n d_X8_nameNow_154 rfl ?_
                    refine z_iconst d_X8_nameNow_155 ki_4 ?_
                    refine z_bipush d_X8_nameNow_156 kb_103 ?_
                    refine z_bipush d_X8_nameNow_158 kb_97 ?_
                    refine z_bipush d_X8_nameNow_160 kb_105 ?_
                    refine z_bipush d_X8_nameNow_162 kb_110 ?_
                    refine z_cVi d_X8_nameNow_164 q_X8_nameNow_123 (by first | rfl | assumption) (by omega) ⟨rfl, rfl⟩ ((ct_X8_is (t := t) (s := s) (a := a) (g := g) hR h17 ht h77 h18 h19 hsa hat)) rfl rfl rfl ⟨Nat.zero_le _, Nat.zero_le _⟩ ?_
                    refine z_if_eq d_X8_nameNow_167 (fun h_167 => ?_) (fun h_167 => ?_)
                    · have n8 := (kd_s n7 (by decide)).2 (by rw [sp_7 ha]; exact b2i_t.mp h_167)
                      refine z_aload_n d_X8_nameNow_173 rfl ?_
                      refine z_bipush d_X8_nameNow_174 kb_6 ?_
                      refine z_bipush d_X8_nameNow_176 kb_112 ?_
                      refine z_bipush d_X8_nameNow_178 kb_104 ?_
                      refine z_bipush d_X8_nameNow_180 kb_97 ?_
                      refine z_bipush d_X8_nameNow_182 kb_115 ?_
                      refine z_cVi d_X8_nameNow_184 q_X8_nameNow_123 (by first | rfl | assumption) (by omega) ⟨rfl, rfl⟩ ((ct_X8_is (t := t) (s := s) (a := a) (g := g) hR h17 ht h77 h18 h19 hsa hat)) rfl rfl rfl ⟨Nat.zero_le _, Nat.zero_le _⟩ ?_
                      refine z_if_eq d_X8_nameNow_187 (fun h_187 => ?_) (fun h_187 => ?_)
                      · have n9 := (kd_s n8 (by decide)).2 (by rw [sp_8 ha, b2i_t.mp h_187]; rfl)
                        refine z_aload_n d_X8_nameNow_223 rfl ?_
                        refine z_iconst d_X8_nameNow_224 ki_5 ?_
                        refine z_bipush d_X8_nameNow_225 kb_99 ?_
                        refine z_bipush d_X8_nameNow_227 kb_108 ?_
                        refine z_bipush d_X8_nameNow_229 kb_111 ?_
                        refine z_bipush d_X8_nameNow_231 kb_99 ?_
                        refine z_cVi d_X8_nameNow_233 q_X8_nameNow_123 (by first | rfl | assumption) (by omega) ⟨rfl, rfl⟩ ((ct_X8_is (t := t) (s := s) (a := a) (g := g) hR h17 ht h77 h18 h19 hsa hat)) rfl rfl rfl ⟨Nat.zero_le _, Nat.zero_le _⟩ ?_
                        refine z_if_eq d_X8_nameNow_236 (fun h_236 => ?_) (fun h_236 => ?_)
                        · have e := kd_10 ((kd_s n9 (by decide)).2 (by rw [sp_9 ha, b2i_t.mp h_236]; rfl))
                          refine z_bipush d_X8_nameNow_259 kb_m4 ?_
                          exact z_ireturn d_X8_nameNow_261 rfl ⟨by rw [e]; rfl, rfl, rfl, rfl, rfl⟩
                        · refine z_aload_n d_X8_nameNow_239 rfl ?_
                          refine z_aload_n d_X8_nameNow_240 rfl ?_
                          refine z_getI d_X8_nameNow_241 f_X8_110 (by first | rfl | assumption) (by omega) ?_
                          refine z_iconst d_X8_nameNow_244 ki_4 ?_
                          refine z_iadd d_X8_nameNow_245 ?_
                          rw [h19, show (nI s + 4 : Int32) = nI (s + 4) from nI_add s 4]
                          refine z_cVi d_X8_nameNow_246 q_X8_nameNow_119 (by first | rfl | assumption) (by omega) ⟨rfl, rfl⟩ ((ct_X8_look (t := t) (j := s + 4) (g := g) hR h17 ht h77 (by omega))) rfl rfl rfl ⟨Nat.zero_le _, Nat.zero_le _⟩ ?_
                          refine z_bipush d_X8_nameNow_249 kb_107 ?_
                          refine z_icmp_ne d_X8_nameNow_251 (fun h_251 => ?_) (fun h_251 => ?_)
                          · have e := kd_10 ((kd_s n9 (by decide)).2 (by rw [sp_9 ha, decide_eq_false h_251, Bool.and_false]))
                            refine z_bipush d_X8_nameNow_259 kb_m4 ?_
                            exact z_ireturn d_X8_nameNow_261 rfl ⟨by rw [e]; rfl, rfl, rfl, rfl, rfl⟩
                          · have e := (kd_s n9 (by decide)).1 (by rw [sp_9 ha, b2i_f.mp h_236, decide_eq_true h_251]; rfl)
                            refine z_bipush d_X8_nameNow_254 kb_9 ?_
                            refine z_goto d_X8_nameNow_256 ?_
                            exact z_ireturn d_X8_nameNow_261 rfl ⟨by rw [e]; rfl, rfl, rfl, rfl, rfl⟩
                      · refine z_aload_n d_X8_nameNow_190 rfl ?_
                        refine z_aload_n d_X8_nameNow_191 rfl ?_
                        refine z_getI d_X8_nameNow_192 f_X8_110 (by first | rfl | assumption) (by omega) ?_
                        refine z_iconst d_X8_nameNow_195 ki_4 ?_
                        refine z_iadd d_X8_nameNow_196 ?_
                        rw [h19, show (nI s + 4 : Int32) = nI (s + 4) from nI_add s 4]
                        refine z_cVi d_X8_nameNow_197 q_X8_nameNow_119 (by first | rfl | assumption) (by omega) ⟨rfl, rfl⟩ ((ct_X8_look (t := t) (j := s + 4) (g := g) hR h17 ht h77 (by omega))) rfl rfl rfl ⟨Nat.zero_le _, Nat.zero_le _⟩ ?_
                        refine z_bipush d_X8_nameNow_200 kb_101 ?_
                        refine z_icmp_ne d_X8_nameNow_202 (fun h_202 => ?_) (fun h_202 => ?_)
                        · have n9 := (kd_s n8 (by decide)).2 (by rw [sp_8 ha, decide_eq_false h_202, Bool.false_and, Bool.and_false])
                          refine z_aload_n d_X8_nameNow_223 rfl ?_
                          refine z_iconst d_X8_nameNow_224 ki_5 ?_
                          refine z_bipush d_X8_nameNow_225 kb_99 ?_
                          refine z_bipush d_X8_nameNow_227 kb_108 ?_
                          refine z_bipush d_X8_nameNow_229 kb_111 ?_
                          refine z_bipush d_X8_nameNow_231 kb_99 ?_
                          refine z_cVi d_X8_nameNow_233 q_X8_nameNow_123 (by first | rfl | assumption) (by omega) ⟨rfl, rfl⟩ ((ct_X8_is (t := t) (s := s) (a := a) (g := g) hR h17 ht h77 h18 h19 hsa hat)) rfl rfl rfl ⟨Nat.zero_le _, Nat.zero_le _⟩ ?_
                          refine z_if_eq d_X8_nameNow_236 (fun h_236 => ?_) (fun h_236 => ?_)
                          · have e := kd_10 ((kd_s n9 (by decide)).2 (by rw [sp_9 ha, b2i_t.mp h_236]; rfl))
                            refine z_bipush d_X8_nameNow_259 kb_m4 ?_
                            exact z_ireturn d_X8_nameNow_261 rfl ⟨by rw [e]; rfl, rfl, rfl, rfl, rfl⟩
                          · refine z_aload_n d_X8_nameNow_239 rfl ?_
                            refine z_aload_n d_X8_nameNow_240 rfl ?_
                            refine z_getI d_X8_nameNow_241 f_X8_110 (by first | rfl | assumption) (by omega) ?_
                            refine z_iconst d_X8_nameNow_244 ki_4 ?_
                            refine z_iadd d_X8_nameNow_245 ?_
                            rw [h19, show (nI s + 4 : Int32) = nI (s + 4) from nI_add s 4]
                            refine z_cVi d_X8_nameNow_246 q_X8_nameNow_119 (by first | rfl | assumption) (by omega) ⟨rfl, rfl⟩ ((ct_X8_look (t := t) (j := s + 4) (g := g) hR h17 ht h77 (by omega))) rfl rfl rfl ⟨Nat.zero_le _, Nat.zero_le _⟩ ?_
                            refine z_bipush d_X8_nameNow_249 kb_107 ?_
                            refine z_icmp_ne d_X8_nameNow_251 (fun h_251 => ?_) (fun h_251 => ?_)
                            · have e := kd_10 ((kd_s n9 (by decide)).2 (by rw [sp_9 ha, decide_eq_false h_251, Bool.and_false]))
                              refine z_bipush d_X8_nameNow_259 kb_m4 ?_
                              exact z_ireturn d_X8_nameNow_261 rfl ⟨by rw [e]; rfl, rfl, rfl, rfl, rfl⟩
                            · have e := (kd_s n9 (by decide)).1 (by rw [sp_9 ha, b2i_f.mp h_236, decide_eq_true h_251]; rfl)
                              refine z_bipush d_X8_nameNow_254 kb_9 ?_
                              refine z_goto d_X8_nameNow_256 ?_
                              exact z_ireturn d_X8_nameNow_261 rfl ⟨by rw [e]; rfl, rfl, rfl, rfl, rfl⟩
                        · refine z_aload_n d_X8_nameNow_205 rfl ?_
                          refine z_aload_n d_X8_nameNow_206 rfl ?_
                          refine z_getI d_X8_nameNow_207 f_X8_110 (by first | rfl | assumption) (by omega) ?_
                          refine z_iconst d_X8_nameNow_210 ki_5 ?_
                          refine z_iadd d_X8_nameNow_211 ?_
                          rw [h19, show (nI s + 5 : Int32) = nI (s + 5) from nI_add s 5]
                          refine z_cVi d_X8_nameNow_212 q_X8_nameNow_119 (by first | rfl | assumption) (by omega) ⟨rfl, rfl⟩ ((ct_X8_look (t := t) (j := s + 5) (g := g) hR h17 ht h77 (by omega))) rfl rfl rfl ⟨Nat.zero_le _, Nat.zero_le _⟩ ?_
                          refine z_bipush d_X8_nameNow_215 kb_115 ?_
                          refine z_icmp_ne d_X8_nameNow_217 (fun h_217 => ?_) (fun h_217 => ?_)
                          · have n9 := (kd_s n8 (by decide)).2 (by rw [sp_8 ha, decide_eq_false h_217, Bool.and_false, Bool.and_false])
                            refine z_aload_n d_X8_nameNow_223 rfl ?_
                            refine z_iconst d_X8_nameNow_224 ki_5 ?_
                            refine z_bipush d_X8_nameNow_225 kb_99 ?_
                            refine z_bipush d_X8_nameNow_227 kb_108 ?_
                            refine z_bipush d_X8_nameNow_229 kb_111 ?_
                            refine z_bipush d_X8_nameNow_231 kb_99 ?_
                            refine z_cVi d_X8_nameNow_233 q_X8_nameNow_123 (by first | rfl | assumption) (by omega) ⟨rfl, rfl⟩ ((ct_X8_is (t := t) (s := s) (a := a) (g := g) hR h17 ht h77 h18 h19 hsa hat)) rfl rfl rfl ⟨Nat.zero_le _, Nat.zero_le _⟩ ?_
                            refine z_if_eq d_X8_nameNow_236 (fun h_236 => ?_) (fun h_236 => ?_)
                            · have e := kd_10 ((kd_s n9 (by decide)).2 (by rw [sp_9 ha, b2i_t.mp h_236]; rfl))
                              refine z_bipush d_X8_nameNow_259 kb_m4 ?_
                              exact z_ireturn d_X8_nameNow_261 rfl ⟨by rw [e]; rfl, rfl, rfl, rfl, rfl⟩
                            · refine z_aload_n d_X8_nameNow_239 rfl ?_
                              refine z_aload_n d_X8_nameNow_240 rfl ?_
                              refine z_getI d_X8_nameNow_241 f_X8_110 (by first | rfl | assumption) (by omega) ?_
                              refine z_iconst d_X8_nameNow_244 ki_4 ?_
                              refine z_iadd d_X8_nameNow_245 ?_
                              rw [h19, show (nI s + 4 : Int32) = nI (s + 4) from nI_add s 4]
                              refine z_cVi d_X8_nameNow_246 q_X8_nameNow_119 (by first | rfl | assumption) (by omega) ⟨rfl, rfl⟩ ((ct_X8_look (t := t) (j := s + 4) (g := g) hR h17 ht h77 (by omega))) rfl rfl rfl ⟨Nat.zero_le _, Nat.zero_le _⟩ ?_
                              refine z_bipush d_X8_nameNow_249 kb_107 ?_
                              refine z_icmp_ne d_X8_nameNow_251 (fun h_251 => ?_) (fun h_251 => ?_)
                              · have e := kd_10 ((kd_s n9 (by decide)).2 (by rw [sp_9 ha, decide_eq_false h_251, Bool.and_false]))
                                refine z_bipush d_X8_nameNow_259 kb_m4 ?_
                                exact z_ireturn d_X8_nameNow_261 rfl ⟨by rw [e]; rfl, rfl, rfl, rfl, rfl⟩
                              · have e := (kd_s n9 (by decide)).1 (by rw [sp_9 ha, b2i_f.mp h_236, decide_eq_true h_251]; rfl)
                                refine z_bipush d_X8_nameNow_254 kb_9 ?_
                                refine z_goto d_X8_nameNow_256 ?_
                                exact z_ireturn d_X8_nameNow_261 rfl ⟨by rw [e]; rfl, rfl, rfl, rfl, rfl⟩
                          · have e := (kd_s n8 (by decide)).1 (by rw [sp_8 ha, b2i_f.mp h_187, decide_eq_true h_202, decide_eq_true h_217]; rfl)
                            refine z_bipush d_X8_nameNow_220 kb_8 ?_
                            exact z_ireturn d_X8_nameNow_222 rfl ⟨by rw [e]; rfl, rfl, rfl, rfl, rfl⟩
                    · have e := (kd_s n7 (by decide)).1 (by rw [sp_7 ha]; exact b2i_f.mp h_167)
                      refine z_bipush d_X8_nameNow_170 kb_7 ?_
                      exact z_ireturn d_X8_nameNow_172 rfl ⟨by rw [e]; rfl, rfl, rfl, rfl, rfl⟩
                  · have e := (kd_s n6 (by decide)).1 (by rw [sp_6 ha, b2i_f.mp h_133, decide_eq_true h_148]; rfl)
                    refine z_bipush d_X8_nameNow_151 kb_6 ?_
                    exact z_ireturn d_X8_nameNow_153 rfl ⟨by rw [e]; rfl, rfl, rfl, rfl, rfl⟩
              · have e := (kd_s n5 (by decide)).1 (by rw [sp_5 ha, b2i_f.mp h_100, decide_eq_true h_115]; rfl)
                refine z_iconst d_X8_nameNow_118 ki_5 ?_
                exact z_ireturn d_X8_nameNow_119 rfl ⟨by rw [e]; rfl, rfl, rfl, rfl, rfl⟩
          · have e := (kd_s n4 (by decide)).1 (by rw [sp_4 ha]; exact b2i_f.mp h_82)
            refine z_iconst d_X8_nameNow_85 ki_4 ?_
            exact z_ireturn d_X8_nameNow_86 rfl ⟨by rw [e]; rfl, rfl, rfl, rfl, rfl⟩
        · have e := (kd_s n3 (by decide)).1 (by rw [sp_3 ha]; exact b2i_f.mp h_64)
          refine z_iconst d_X8_nameNow_67 ki_3 ?_
          exact z_ireturn d_X8_nameNow_68 rfl ⟨by rw [e]; rfl, rfl, rfl, rfl, rfl⟩
      · have e := (kd_s n2 (by decide)).1 (by rw [sp_2 ha]; exact b2i_f.mp h_47)
        refine z_iconst d_X8_nameNow_50 ki_2 ?_
        exact z_ireturn d_X8_nameNow_51 rfl ⟨by rw [e]; rfl, rfl, rfl, rfl, rfl⟩
    · have e := (kd_s n1 (by decide)).1 (by rw [sp_1 ha]; exact b2i_f.mp h_29)
      refine z_iconst d_X8_nameNow_32 ki_1 ?_
      exact z_ireturn d_X8_nameNow_33 rfl ⟨by rw [e]; rfl, rfl, rfl, rfl, rfl⟩
  · have e := (kd_s n0 (by decide)).1 (by rw [sp_0 ha]; exact b2i_f.mp h_12)
    refine z_iconst d_X8_nameNow_15 ki_0 ?_
    exact z_ireturn d_X8_nameNow_16 rfl ⟨by rw [e]; rfl, rfl, rfl, rfl, rfl⟩
