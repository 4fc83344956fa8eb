set_option maxRecDepth 100000 in
set_option maxHeartbeats 4000000 in
theorem ct_X1_fare {E : zE} {I : zI} {L : zL} {R : zR} {P a b : Nat} {s : Int} (hR : zLx R) (hP : P = 3 ∨ P = 4) (hI : I 37 0 = nI P) (ha : a < 16) (hb : b < 16) (h1 : -150 ≤ s) (h2 : s ≤ 150) : zCf E m_X1_fare zShF [.ref 37, .int (nI a), .int (iI s), .int (nI b)] I L R (some (.int (nI (farV P a s b).1))) (ldI I (farV P a s b).2) (L) (R) := by
  have hl := lstL_b P a P s
  generalize hlv : lstL P a P s = l at hl
  have hn : ∃ n : Nat, n = (l - s + 1).toNat := ⟨_, rfl⟩
  obtain ⟨n, hn⟩ := hn
  have hfr := frS_b P b s n
  have hfar : farV P a s b = (if (frS P b s n).1 = 1 then (if b = 2 ^ P - 1 then (3, none) else (0, some (fstL P b P (frS P b s n).2))) else if (frS P b s n).1 = 0 then (1, none) else (2, none)) := by rw [hn, ← hlv]; rfl
  rw [hfar]
  refine z_met (by decide) [some (.ref 37), some (.int (nI a)), some (.int (iI s)), some (.int (nI b)), none, none, none, none] rfl rfl (Nat.le_of_ble_eq_true rfl) (fun X => ?_)
  refine z_aload_n d_X1_fare_0 rfl ?_
  refine z_iload_n d_X1_fare_1 rfl ?_
  refine z_iload_n d_X1_fare_2 rfl ?_
  refine z_cVi d_X1_fare_3 q_X1_fare_57 (by first | rfl | assumption) (by omega) ⟨rfl, rfl⟩ (ct_X1_lastOfRegion hR hP hI (by omega) (by omega) (by omega)) rfl rfl rfl ⟨Nat.zero_le _, Nat.zero_le _⟩ ?_
  rw [hlv]
  refine z_istore4 d_X1_fare_6 rfl ?_
  refine z_iconst d_X1_fare_8 ki_0 ?_
  refine z_istore5 d_X1_fare_9 rfl ?_
  refine z_iload_n d_X1_fare_11 rfl ?_
  refine z_istore6 d_X1_fare_12 rfl ?_
  refine z_iload_n d_X1_fare_14 rfl ?_
  refine z_istore7 d_X1_fare_15 rfl ?_
  have loop : ∀ (Qs : State → Prop), (∀ o : Option Value, zZ E m_X1_fare X Qs zShF 0 0 65 [some (.ref 37), some (.int (nI a)), some (.int (iI s)), some (.int (nI b)), some (.int (iI l)), some (.int (nI (frS P b s n).1)), some (.int (iI (frS P b s n).2)), o] [] I L R) → ∀ k, k ≤ n → zZ E m_X1_fare X Qs zShF 0 0 17 [some (.ref 37), some (.int (nI a)), some (.int (iI s)), some (.int (nI b)), some (.int (iI l)), some (.int (nI (frS P b s k).1)), some (.int (iI (frS P b s k).2)), some (.int (iI (s + k)))] [] I L R := by
    intro Qs hx
    refine up_rec (fun k hk ih => ?_)
    have hfk := frS_b P b s k
    refine z_iload d_X1_fare_17 rfl ?_
    refine z_iload d_X1_fare_19 rfl ?_
    refine z_icmp_gt d_X1_fare_21 (fun h_21 => ?_) (fun h_21 => ?_)
    · have h9 := (iI_lt (a := l) (b := s + k) (by omega) (by omega) (by omega) (by omega)).mp h_21
      obtain rfl : k = n := by omega
      exact hx _
    · have hkl : k < n := by
        have : ¬ l < s + k := fun q => h_21 ((iI_lt (by omega) (by omega) (by omega) (by omega)).mpr q)
        omega
      refine z_aload_n d_X1_fare_24 rfl ?_
      refine z_iload_n d_X1_fare_25 rfl ?_
      refine z_iload d_X1_fare_26 rfl ?_
      refine z_cVi d_X1_fare_28 q_X1_fare_50 (by first | rfl | assumption) (by omega) ⟨rfl, rfl⟩ (ct_X1_isHigh hR hP hI hb (by omega) (by omega)) rfl rfl rfl ⟨Nat.zero_le _, Nat.zero_le _⟩ ?_
      refine z_if_eq d_X1_fare_31 (fun h_31 => ?_) (fun h_31 => ?_)
      · refine z_iinc7 d_X1_fare_59 ki_1 rfl ?_
        refine z_goto d_X1_fare_62 ?_
        have h := ih hkl
        rw [frS] at h
        rw [show iI (s + k) + 1 = iI (s + ((k + 1 : Nat) : Int)) from by rw [show ((1 : Int32)) = iI 1 from rfl, iI_add]; congr 1; omega]
        first
          | (rw [if_neg (fun q => by rw [b0 h_31] at q; exact absurd q.1 (by decide))] at h; exact h)
          | (rw [if_pos ⟨b1 h_31, Or.inl (by have := (iI_eq (by omega) (by omega) (by omega) (by omega)).mp h_37; omega)⟩] at h; rw [nI_1]; exact h)
          | (rw [if_neg (fun q => by rcases q.2 with q2 | q2; exact h_37 (by rw [q2]; congr 1; omega); rw [b1 h_49] at q2; exact absurd q2 (by decide))] at h; exact h)
          | (rw [if_pos ⟨b1 h_31, Or.inr (b0 h_49)⟩] at h; rw [nI_1]; exact h)
      · refine z_iload d_X1_fare_34 rfl ?_
        refine z_iload_n d_X1_fare_36 rfl ?_
        refine z_icmp_eq d_X1_fare_37 (fun h_37 => ?_) (fun h_37 => ?_)
        · refine z_iinc5 d_X1_fare_52 ki_1 rfl ?_
          refine z_iload d_X1_fare_55 rfl ?_
          refine z_istore6 d_X1_fare_57 rfl ?_
          refine z_iinc7 d_X1_fare_59 ki_1 rfl ?_
          refine z_goto d_X1_fare_62 ?_
          have h := ih hkl
          rw [frS] at h
          rw [show iI (s + k) + 1 = iI (s + ((k + 1 : Nat) : Int)) from by rw [show ((1 : Int32)) = iI 1 from rfl, iI_add]; congr 1; omega]
          first
            | (rw [if_neg (fun q => by rw [b0 h_31] at q; exact absurd q.1 (by decide))] at h; exact h)
            | (rw [if_pos ⟨b1 h_31, Or.inl (by have := (iI_eq (by omega) (by omega) (by omega) (by omega)).mp h_37; omega)⟩] at h; rw [nI_1]; exact h)
            | (rw [if_neg (fun q => by rcases q.2 with q2 | q2; exact h_37 (by rw [q2]; congr 1; omega); rw [b1 h_49] at q2; exact absurd q2 (by decide))] at h; exact h)
            | (rw [if_pos ⟨b1 h_31, Or.inr (b0 h_49)⟩] at h; rw [nI_1]; exact h)
        · refine z_aload_n d_X1_fare_40 rfl ?_
          refine z_iload_n d_X1_fare_41 rfl ?_
          refine z_iload d_X1_fare_42 rfl ?_
          refine z_iconst d_X1_fare_44 ki_1 ?_
          refine z_isub d_X1_fare_45 ?_
          refine z_topi (y := iI (s + k - 1)) (iI_sub (s + k) 1) ?_
          refine z_cVi d_X1_fare_46 q_X1_fare_50 (by first | rfl | assumption) (by omega) ⟨rfl, rfl⟩ (ct_X1_isHigh hR hP hI hb (by omega) (by omega)) rfl rfl rfl ⟨Nat.zero_le _, Nat.zero_le _⟩ ?_
          refine z_if_ne d_X1_fare_49 (fun h_49 => ?_) (fun h_49 => ?_)
          · refine z_iinc7 d_X1_fare_59 ki_1 rfl ?_
            refine z_goto d_X1_fare_62 ?_
            have h := ih hkl
            rw [frS] at h
            rw [show iI (s + k) + 1 = iI (s + ((k + 1 : Nat) : Int)) from by rw [show ((1 : Int32)) = iI 1 from rfl, iI_add]; congr 1; omega]
            first
              | (rw [if_neg (fun q => by rw [b0 h_31] at q; exact absurd q.1 (by decide))] at h; exact h)
              | (rw [if_pos ⟨b1 h_31, Or.inl (by have := (iI_eq (by omega) (by omega) (by omega) (by omega)).mp h_37; omega)⟩] at h; rw [nI_1]; exact h)
              | (rw [if_neg (fun q => by rcases q.2 with q2 | q2; exact h_37 (by rw [q2]; congr 1; omega); rw [b1 h_49] at q2; exact absurd q2 (by decide))] at h; exact h)
              | (rw [if_pos ⟨b1 h_31, Or.inr (b0 h_49)⟩] at h; rw [nI_1]; exact h)
          · refine z_iinc5 d_X1_fare_52 ki_1 rfl ?_
            refine z_iload d_X1_fare_55 rfl ?_
            refine z_istore6 d_X1_fare_57 rfl ?_
            refine z_iinc7 d_X1_fare_59 ki_1 rfl ?_
            refine z_goto d_X1_fare_62 ?_
            have h := ih hkl
            rw [frS] at h
            rw [show iI (s + k) + 1 = iI (s + ((k + 1 : Nat) : Int)) from by rw [show ((1 : Int32)) = iI 1 from rfl, iI_add]; congr 1; omega]
            first
              | (rw [if_neg (fun q => by rw [b0 h_31] at q; exact absurd q.1 (by decide))] at h; exact h)
              | (rw [if_pos ⟨b1 h_31, Or.inl (by have := (iI_eq (by omega) (by omega) (by omega) (by omega)).mp h_37; omega)⟩] at h; rw [nI_1]; exact h)
              | (rw [if_neg (fun q => by rcases q.2 with q2 | q2; exact h_37 (by rw [q2]; congr 1; omega); rw [b1 h_49] at q2; exact absurd q2 (by decide))] at h; exact h)
              | (rw [if_pos ⟨b1 h_31, Or.inr (b0 h_49)⟩] at h; rw [nI_1]; exact h)
  refine z_ls (by simp [frS]; rfl) (loop _ (fun o => ?_) 0 (Nat.zero_le n))
  generalize frS P b s n = t at *
  refine z_iload d_X1_fare_65 rfl ?_
  refine z_iconst d_X1_fare_67 ki_1 ?_
  refine z_icmp_eq d_X1_fare_68 (fun h_68 => ?_) (fun h_68 => ?_)
  · have ht1 : t.1 = 1 := (nI_eq (a := t.1) (b := 1) (by omega) (by decide)).mp h_68
    refine z_iload_n d_X1_fare_82 rfl ?_
    refine z_aload_n d_X1_fare_83 rfl ?_
    refine z_cVi d_X1_fare_84 q_X1_fare_60 (by first | rfl | assumption) (by omega) ⟨rfl, rfl⟩ (ct_X1_allHigh hR hP (by first | assumption | simp [*])) rfl rfl rfl ⟨Nat.zero_le _, Nat.zero_le _⟩ ?_
    refine z_icmp_ne d_X1_fare_87 (fun h_87 => ?_) (fun h_87 => ?_)
    · have hb1 : ¬ b = 2 ^ P - 1 := fun q => h_87 (by rw [q])
      refine z_aload_n d_X1_fare_92 rfl ?_
      refine z_aload_n d_X1_fare_93 rfl ?_
      refine z_iload_n d_X1_fare_94 rfl ?_
      refine z_iload d_X1_fare_95 rfl ?_
      refine z_cVi d_X1_fare_97 q_X1_fare_64 (by first | rfl | assumption) (by omega) ⟨rfl, rfl⟩ (ct_X1_firstOfRegion hR hP hI hb (by omega) (by omega)) rfl rfl rfl ⟨Nat.zero_le _, Nat.zero_le _⟩ ?_
      refine z_putI d_X1_fare_100 f_X1_67 p_X1_1 (by first | rfl | assumption) (by omega) ?_
      refine z_iconst d_X1_fare_103 ki_0 ?_
      exact z_ireturn d_X1_fare_104 rfl ⟨by rw [if_pos ht1, if_neg hb1]; rfl, rfl, by rw [if_pos ht1, if_neg hb1]; rfl, rfl, rfl⟩
    · have hb1 : b = 2 ^ P - 1 := (nI_eq (by omega) (by rcases hP with rfl | rfl <;> decide)).mp h_87
      refine z_iconst d_X1_fare_90 ki_3 ?_
      exact z_ireturn d_X1_fare_91 rfl ⟨by rw [if_pos ht1, if_pos hb1]; rfl, rfl, by rw [if_pos ht1, if_pos hb1]; rfl, rfl, rfl⟩
  · have ht1 : ¬ t.1 = 1 := fun q => h_68 (by rw [q]; rfl)
    refine z_iload d_X1_fare_71 rfl ?_
    refine z_if_ne d_X1_fare_73 (fun h_73 => ?_) (fun h_73 => ?_)
    · refine z_iconst d_X1_fare_80 ki_2 ?_
      exact z_ireturn d_X1_fare_81 rfl ⟨by rw [if_neg ht1]; first | (rw [if_pos (show t.1 = 0 from (nI_eq (a := t.1) (b := 0) (by omega) (by decide)).mp h_73)]; rfl) | (rw [if_neg (show ¬ t.1 = 0 from fun q => h_73 (by rw [q]; rfl))]; rfl), rfl, by rw [if_neg ht1]; split <;> rfl, rfl, rfl⟩
    · refine z_iconst d_X1_fare_76 ki_1 ?_
      refine z_goto d_X1_fare_77 ?_
      exact z_ireturn d_X1_fare_81 rfl ⟨by rw [if_neg ht1]; first | (rw [if_pos (show t.1 = 0 from (nI_eq (a := t.1) (b := 0) (by omega) (by decide)).mp h_73)]; rfl) | (rw [if_neg (show ¬ t.1 = 0 from fun q => h_73 (by rw [q]; rfl))]; rfl), rfl, by rw [if_neg ht1]; split <;> rfl, rfl, rfl⟩
