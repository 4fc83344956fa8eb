/-! A RULE'S LINE, AS THE REFERENCE READS IT -/
theorem cM_72 {t j q : Nat} {K : zI} {x : Int32} {d : zCu} (hq : q ≠ 64) (hc : cM t K d) : cM t (zi K q j x) d := by
  have e : zi K q j x 64 = K 64 := zi_ne hq.symm
  rcases d with p | ⟨a, k, s, v⟩
  · exact ⟨by rw [e]; exact hc.1, by rw [e]; exact hc.2⟩
  · obtain ⟨c1, c2, c3, c4, c5, c6⟩ := hc
    exact ⟨by rw [e]; exact c1, by rw [e]; exact c2, by rw [e]; exact c3, by rw [e]; exact c4, fun z => by rw [e]; exact c5 z, c6⟩
section ZMQ
variable {t : Nat} {g : Nat → Int32} {I J K : zI} {c : zCu} {D : zDr}
theorem mqR {D' : zDr} {i : Nat} {x y : Int32} {c' : zCu} (h : qMd t I J c D) (hf : fr64 J K) (hc : cM t K c') (hr : isR c' → isR c) (hx : isR c' → x = y) (hD' : D' = (va_up (drRu D) i y, drHo D, drTr D, drLi D, drN D, drW D, drR D, drS D)) : qMd t I (zi K 72 i x) c' D' := by
  obtain ⟨h1, h2, ⟨n, hn, hn2⟩, h4⟩ := qMd_64 h hf hc hr
  have e64 : zi K 72 i x 64 = K 64 := zi_ne (by decide)
  refine ⟨⟨fun k hk => by rw [zi_ne (by omega)]; exact h1.1 k hk, fun s hs => by rw [e64]; exact h1.2 s hs⟩, cM_72 (by decide) h2, ⟨n, hn, by rw [e64]; exact hn2⟩, fun z => ?_⟩
  obtain ⟨d1, d2, d3, d4, ⟨d5, d6⟩, d7, m, hm, d8, d9⟩ := h4 z
  have ex := hx z
  subst ex
  rw [hD']
  refine ⟨fun j hj => ?_, fun j hj => ?_, fun j hj => ?_, fun j hj => ?_, ⟨?_, fun j hj => ?_⟩, ?_, m, hm, ?_, d9⟩
  · rw [zi_eq]
    show va_up (K 72) i x j = va_up (drRu D) i x j
    by_cases q : j = i
    · rw [q, up_eq, up_eq]
    · rw [va_up_ne _ _ q, va_up_ne _ _ q]; exact d1 j hj
  · rw [zi_ne (by decide)]; exact d2 j hj
  · rw [zi_ne (by decide)]; exact d3 j hj
  · rw [zi_ne (by decide)]; exact d4 j hj
  · rw [e64]; exact d5
  · rw [zi_ne (by decide)]; exact d6 j hj
  · rw [e64]; exact d7
  · rw [e64]; exact d8
theorem mq0 (h : qMd t I J (nxC g t c) D) (hD : dM J D) (hw : rwM t g J (drR D) c 8 K) : qMd t I (zi K 64 14 (nI (drR D + 1))) (bd g t 0 c D).1 (bd g t 0 c D).2 := by
  obtain ⟨h1, h2, ⟨n, hn, hn2⟩, -⟩ := h
  obtain ⟨w1, w2, w3, w4⟩ := hw
  obtain ⟨d1, d2, d3, d4, ⟨d5, d6⟩, d7, m, hm, d8, d9⟩ := hD
  have e : ∀ s, s ≠ 14 → zi K 64 14 (nI (drR D + 1)) 64 s = K 64 s := fun s hs => by rw [zi_eq, va_up_ne _ _ hs]
  refine ⟨⟨fun k hk => by rw [zi_ne (by omega), w1 k (by omega) (by omega)]; exact h1.1 k hk, fun s hs => by rw [e s (by omega), w2 s (by omega)]; exact h1.2 s hs⟩, ?_, ⟨n, hn, by rw [e 12 (by decide), w2 12 (by decide)]; exact hn2⟩, fun hr => ⟨fun j hj => ?_, fun j hj => ?_, fun j hj => ?_, fun j hj => ?_, ⟨?_, fun j hj => ?_⟩, ?_, m, hm, ?_, d9⟩⟩
  · show cM t _ (nxC g t (itC g t 0 99 c 8))
    generalize nxC g t (itC g t 0 99 c 8) = d at w3
    rcases d with p | ⟨a, k, s, v⟩
    · exact ⟨by rw [e 22 (by decide)]; exact w3.1, by rw [e 23 (by decide)]; exact w3.2⟩
    · obtain ⟨c1, c2, c3, c4, c5, c6⟩ := w3
      exact ⟨by rw [e 22 (by decide)]; exact c1, by rw [e 18 (by decide)]; exact c2, by rw [e 20 (by decide)]; exact c3, by rw [e 19 (by decide)]; exact c4, fun z => by rw [e 21 (by decide)]; exact c5 z, c6⟩
  · rw [zi_ne (by decide), w1 72 (by decide) (by decide)]; exact d1 j hj
  · rw [zi_ne (by decide), w1 74 (by decide) (by decide)]; exact d2 j hj
  · rw [zi_ne (by decide), w1 75 (by decide) (by decide)]; exact d3 j hj
  · rw [zi_ne (by decide), w4 (isR_nx hr) j hj, d4 j hj]; rfl
  · rw [e 12 (by decide), w2 12 (by decide)]; exact d5
  · rw [zi_ne (by decide), w1 76 (by decide) (by decide)]; exact d6 j hj
  · rw [zi_eq, up_eq]; rfl
  · rw [e 15 (by decide), w2 15 (by decide)]; exact d8
theorem mq1 (h : qMd t I J (nxC g t c) D) (hD : dM J D) (hw : qWl t g J 74 99 c K) : qMd t I K (bd g t 1 c D).1 (bd g t 1 c D).2 := by
  obtain ⟨h1, h2, ⟨n, hn, hn2⟩, -⟩ := h
  obtain ⟨w1, w2, w3, w4⟩ := hw
  obtain ⟨d1, d2, d3, d4, ⟨d5, d6⟩, d7, m, hm, d8, d9⟩ := hD
  have e : ptC g t (J 74) 99 c = ptC g t (drHo D) 99 c := ptC_e d2
  rw [e] at w3 w4
  refine ⟨⟨fun k hk => by rw [w1 k (by omega) (by omega)]; exact h1.1 k hk, fun s hs => by rw [w2 s (by omega)]; exact h1.2 s hs⟩, w3, ⟨n, hn, by rw [w2 12 (by decide)]; exact hn2⟩, fun hr => ⟨fun j hj => ?_, fun j hj => ?_, fun j hj => ?_, fun j hj => ?_, ⟨?_, fun j hj => ?_⟩, ?_, m, hm, ?_, d9⟩⟩
  · rw [w1 72 (by decide) (by decide)]; exact d1 j hj
  · rw [w4 hr j, d2 j hj]; rfl
  · rw [w1 75 (by decide) (by decide)]; exact d3 j hj
  · rw [w1 73 (by decide) (by decide)]; exact d4 j hj
  · rw [w2 12 (by decide)]; exact d5
  · rw [w1 76 (by decide) (by decide)]; exact d6 j hj
  · rw [w2 14 (by decide)]; exact d7
  · rw [w2 15 (by decide)]; exact d8
theorem mq2 (h : qMd t I J (nxC g t c) D) (hD : dM J D) (hw : qWl t g J 75 50 c K) : qMd t I K (bd g t 2 c D).1 (bd g t 2 c D).2 := by
  obtain ⟨h1, h2, ⟨n, hn, hn2⟩, -⟩ := h
  obtain ⟨w1, w2, w3, w4⟩ := hw
  obtain ⟨d1, d2, d3, d4, ⟨d5, d6⟩, d7, m, hm, d8, d9⟩ := hD
  have e : ptC g t (J 75) 50 c = ptC g t (drTr D) 50 c := ptC_e d3
  rw [e] at w3 w4
  refine ⟨⟨fun k hk => by rw [w1 k (by omega) (by omega)]; exact h1.1 k hk, fun s hs => by rw [w2 s (by omega)]; exact h1.2 s hs⟩, w3, ⟨n, hn, by rw [w2 12 (by decide)]; exact hn2⟩, fun hr => ⟨fun j hj => ?_, fun j hj => ?_, fun j hj => ?_, fun j hj => ?_, ⟨?_, fun j hj => ?_⟩, ?_, m, hm, ?_, d9⟩⟩
  · rw [w1 72 (by decide) (by decide)]; exact d1 j hj
  · rw [w1 74 (by decide) (by decide)]; exact d2 j hj
  · rw [w4 hr j, d3 j hj]; rfl
  · rw [w1 73 (by decide) (by decide)]; exact d4 j hj
  · rw [w2 12 (by decide)]; exact d5
  · rw [w1 76 (by decide) (by decide)]; exact d6 j hj
  · rw [w2 14 (by decide)]; exact d7
  · rw [w2 15 (by decide)]; exact d8
theorem mq9 (h : qMd t I J (nxC g t c) D) (hD : dM J D) (hw : qCk t g J c K) : qMd t I K (bd g t 9 c D).1 (bd g t 9 c D).2 := by
  obtain ⟨h1, h2, -, -⟩ := h
  obtain ⟨⟨w1, w2⟩, w3, w5, w4⟩ := hw
  obtain ⟨d1, d2, d3, d4, ⟨d5, d6⟩, d7, m, hm, d8, d9⟩ := hD
  refine ⟨⟨fun k hk => by rw [w1 k (by omega) (by omega)]; exact h1.1 k hk, fun s hs => by rw [w2 s (by omega)]; exact h1.2 s hs⟩, w3, w5, fun hr => ⟨fun j hj => ?_, fun j hj => ?_, fun j hj => ?_, fun j hj => ?_, w4 hr, ?_, m, hm, ?_, d9⟩⟩
  · rw [w1 72 (by decide) (by decide)]; exact d1 j hj
  · rw [w1 74 (by decide) (by decide)]; exact d2 j hj
  · rw [w1 75 (by decide) (by decide)]; exact d3 j hj
  · rw [w1 73 (by decide) (by decide)]; exact d4 j hj
  · rw [w2 14 (by decide)]; exact d7
  · rw [w2 15 (by decide)]; exact d8
end ZMQ
set_option maxRecDepth 100000 in
set_option maxHeartbeats 4000000 in
theorem ct_X8_readRule {E : zE} {I : zI} {L : zL} {R : zR} {t K : Nat} {g : Nat → Int32} {c : zCu} {D : zDr} {I00 : zI} (hR : zLx R) (h17 : I 64 17 = nI t) (ht : t ≤ 400) (h77 : ∀ j, j < t → I 77 j = g j) (hgn : ∀ j, j < t → ¬ g j < 0) (hq : qMd t I00 I (nxC g t c) D) (hD : dM I D) (hg : gdC t c) (hK3 : 3 ≤ K) (hK : K < 10) : zCt E m_X8_readRule zShF [.ref 64, .int (nI K)] I L R (fun r1 Sh1 I1 L1 R1 => r1 = none ∧ Sh1 = zShF ∧ L1 = L ∧ R1 = R ∧ qMd t I00 I1 (bd g t K c D).1 (bd g t K c D).2) := by
  have hc := hq.2.1
  have hg1 := gd_nx ht hgn hg
  refine z_met (by decide) [some (.ref 64), some (.int (nI K))] rfl rfl (Nat.le_of_ble_eq_true rfl) (fun X => ?_)
  refine z_iload_n d_X8_readRule_0 rfl ?_
  refine z_by (3) (fun e_1_0 => ?_) (fun e_1_0 => ?_)
  · refine z_tabIn (off := 39) (tgt := 40) d_X8_readRule_1 (by rw [e_1_0]; decide) (by rw [e_1_0]; decide) (by rw [e_1_0]; rfl) (by decide) ?_
    obtain rfl : K = 3 := (nI_eq (a := K) (b := 3) (by omega) (by decide)).mp e_1_0
    refine z_aload_n d_X8_readRule_40 rfl ?_
    refine z_getR d_X8_readRule_41 f_X8_33 (by first | rfl | assumption) (by omega) (by first | exact hR _ _ _ rfl | rfl | assumption) ?_
    refine z_iconst d_X8_readRule_44 ki_0 ?_
    refine z_aload_n d_X8_readRule_45 rfl ?_
    refine z_iconst d_X8_readRule_46 ki_1 ?_
    refine z_sipush d_X8_readRule_47 ks_999 ?_
    refine z_rV d_X8_readRule_50 q_X8_readRule_152 (by first | rfl | assumption) (by omega) ⟨rfl, rfl⟩ (ct_X8_readNumber hR h17 ht h77 hc hg1) rfl rfl rfl ⟨Nat.zero_le _, Nat.zero_le _⟩ (fun r_50 Sh_50 I_50 L_50 R_50 hq_50 => ?_)
    obtain ⟨x, rfl, rfl, rfl, rfl, hf, hc1, hx⟩ := hq_50
    have hqb := mqR (i := 0) (D' := (bd g t 3 c D).2) (c' := (bd g t 3 c D).1) hq hf hc1 (fun z => isR_ch (isR_nx z)) (fun z => hx (isR_nx z)) rfl
    refine z_iastore d_X8_readRule_53 (by first | rfl | assumption) (by omega) (zix_lit 0 (by decide)) ?_
    refine z_goto d_X8_readRule_54 ?_
    exact z_return d_X8_readRule_148 rfl ⟨rfl, rfl, rfl, rfl, hqb⟩
  refine z_by (4) (fun e_1_1 => ?_) (fun e_1_1 => ?_)
  · refine z_tabIn (off := 56) (tgt := 57) d_X8_readRule_1 (by rw [e_1_1]; decide) (by rw [e_1_1]; decide) (by rw [e_1_1]; rfl) (by decide) ?_
    obtain rfl : K = 4 := (nI_eq (a := K) (b := 4) (by omega) (by decide)).mp e_1_1
    refine z_aload_n d_X8_readRule_57 rfl ?_
    refine z_getR d_X8_readRule_58 f_X8_33 (by first | rfl | assumption) (by omega) (by first | exact hR _ _ _ rfl | rfl | assumption) ?_
    refine z_iconst d_X8_readRule_61 ki_1 ?_
    refine z_aload_n d_X8_readRule_62 rfl ?_
    refine z_iconst d_X8_readRule_63 ki_0 ?_
    refine z_bipush d_X8_readRule_64 kb_9 ?_
    refine z_rV d_X8_readRule_66 q_X8_readRule_152 (by first | rfl | assumption) (by omega) ⟨rfl, rfl⟩ (ct_X8_readNumber hR h17 ht h77 hc hg1) rfl rfl rfl ⟨Nat.zero_le _, Nat.zero_le _⟩ (fun r_66 Sh_66 I_66 L_66 R_66 hq_66 => ?_)
    obtain ⟨x, rfl, rfl, rfl, rfl, hf, hc1, hx⟩ := hq_66
    have hqb := mqR (i := 1) (D' := (bd g t 4 c D).2) (c' := (bd g t 4 c D).1) hq hf hc1 (fun z => isR_ch (isR_nx z)) (fun z => hx (isR_nx z)) rfl
    refine z_iastore d_X8_readRule_69 (by first | rfl | assumption) (by omega) (zix_lit 1 (by decide)) ?_
    refine z_goto d_X8_readRule_70 ?_
    exact z_return d_X8_readRule_148 rfl ⟨rfl, rfl, rfl, rfl, hqb⟩
  refine z_by (5) (fun e_1_2 => ?_) (fun e_1_2 => ?_)
  · refine z_tabIn (off := 72) (tgt := 73) d_X8_readRule_1 (by rw [e_1_2]; decide) (by rw [e_1_2]; decide) (by rw [e_1_2]; rfl) (by decide) ?_
    obtain rfl : K = 5 := (nI_eq (a := K) (b := 5) (by omega) (by decide)).mp e_1_2
    have hqb := mqR (i := 2) (x := 1) (D' := (bd g t 5 c D).2) (c' := (bd g t 5 c D).1) hq (fr64_rf I) hc (fun z => z) (fun _ => rfl) rfl
    refine z_aload_n d_X8_readRule_73 rfl ?_
    refine z_getR d_X8_readRule_74 f_X8_33 (by first | rfl | assumption) (by omega) (by first | exact hR _ _ _ rfl | rfl | assumption) ?_
    refine z_iconst d_X8_readRule_77 ki_2 ?_
    refine z_iconst d_X8_readRule_78 ki_1 ?_
    refine z_iastore d_X8_readRule_79 (by first | rfl | assumption) (by omega) (zix_lit 2 (by decide)) ?_
    refine z_goto d_X8_readRule_80 ?_
    exact z_return d_X8_readRule_148 rfl ⟨rfl, rfl, rfl, rfl, hqb⟩
  refine z_by (6) (fun e_1_3 => ?_) (fun e_1_3 => ?_)
  · refine z_tabIn (off := 82) (tgt := 83) d_X8_readRule_1 (by rw [e_1_3]; decide) (by rw [e_1_3]; decide) (by rw [e_1_3]; rfl) (by decide) ?_
    obtain rfl : K = 6 := (nI_eq (a := K) (b := 6) (by omega) (by decide)).mp e_1_3
    refine z_aload_n d_X8_readRule_83 rfl ?_
    refine z_getR d_X8_readRule_84 f_X8_33 (by first | rfl | assumption) (by omega) (by first | exact hR _ _ _ rfl | rfl | assumption) ?_
    refine z_iconst d_X8_readRule_87 ki_3 ?_
    refine z_aload_n d_X8_readRule_88 rfl ?_
    refine z_iconst d_X8_readRule_89 ki_0 ?_
    refine z_bipush d_X8_readRule_90 kb_9 ?_
    refine z_rV d_X8_readRule_92 q_X8_readRule_152 (by first | rfl | assumption) (by omega) ⟨rfl, rfl⟩ (ct_X8_readNumber hR h17 ht h77 hc hg1) rfl rfl rfl ⟨Nat.zero_le _, Nat.zero_le _⟩ (fun r_92 Sh_92 I_92 L_92 R_92 hq_92 => ?_)
    obtain ⟨x, rfl, rfl, rfl, rfl, hf, hc1, hx⟩ := hq_92
    have hqb := mqR (i := 3) (D' := (bd g t 6 c D).2) (c' := (bd g t 6 c D).1) hq hf hc1 (fun z => isR_ch (isR_nx z)) (fun z => hx (isR_nx z)) rfl
    refine z_iastore d_X8_readRule_95 (by first | rfl | assumption) (by omega) (zix_lit 3 (by decide)) ?_
    refine z_goto d_X8_readRule_96 ?_
    exact z_return d_X8_readRule_148 rfl ⟨rfl, rfl, rfl, rfl, hqb⟩
  refine z_by (7) (fun e_1_4 => ?_) (fun e_1_4 => ?_)
  · refine z_tabIn (off := 98) (tgt := 99) d_X8_readRule_1 (by rw [e_1_4]; decide) (by rw [e_1_4]; decide) (by rw [e_1_4]; rfl) (by decide) ?_
    obtain rfl : K = 7 := (nI_eq (a := K) (b := 7) (by omega) (by decide)).mp e_1_4
    refine z_aload_n d_X8_readRule_99 rfl ?_
    refine z_getR d_X8_readRule_100 f_X8_33 (by first | rfl | assumption) (by omega) (by first | exact hR _ _ _ rfl | rfl | assumption) ?_
    refine z_iconst d_X8_readRule_103 ki_4 ?_
    refine z_aload_n d_X8_readRule_104 rfl ?_
    refine z_iconst d_X8_readRule_105 ki_1 ?_
    refine z_bipush d_X8_readRule_106 kb_9 ?_
    refine z_rV d_X8_readRule_108 q_X8_readRule_152 (by first | rfl | assumption) (by omega) ⟨rfl, rfl⟩ (ct_X8_readNumber hR h17 ht h77 hc hg1) rfl rfl rfl ⟨Nat.zero_le _, Nat.zero_le _⟩ (fun r_108 Sh_108 I_108 L_108 R_108 hq_108 => ?_)
    obtain ⟨x, rfl, rfl, rfl, rfl, hf, hc1, hx⟩ := hq_108
    have hqa := mqR (i := 4) (c' := nxC g t (nmC g t 1 9 c)) (D' := (va_up (drRu D) 4 (cv (nmC g t 1 9 c)), drHo D, drTr D, drLi D, drN D, drW D, drR D, drS D)) hq hf hc1 (fun z => isR_ch (isR_nx z)) (fun z => hx (isR_nx z)) rfl
    obtain ⟨hJ17, hJ77⟩ := h17_c hf h17 h77
    refine z_iastore d_X8_readRule_111 (by first | rfl | assumption) (by omega) (zix_lit 4 (by decide)) ?_
    refine z_aload_n d_X8_readRule_112 rfl ?_
    refine z_getR d_X8_readRule_113 f_X8_33 (by first | rfl | assumption) (by omega) (by first | exact hR _ _ _ rfl | rfl | assumption) ?_
    refine z_iconst d_X8_readRule_116 ki_5 ?_
    refine z_aload_n d_X8_readRule_117 rfl ?_
    refine z_iconst d_X8_readRule_118 ki_1 ?_
    refine z_bipush d_X8_readRule_119 kb_99 ?_
    refine z_rV d_X8_readRule_121 q_X8_readRule_152 (by first | rfl | assumption) (by omega) ⟨rfl, rfl⟩ (ct_X8_readNumber (t := t) (g := g) (c := nxC g t (nmC g t 1 9 c)) hR (show zi I_108 72 4 x 64 17 = nI t from hJ17) ht (fun j hj => by rw [zi_ne (by decide)]; exact hJ77 j hj) hqa.2.1 (gd_nx ht hgn (gd_ch hg1))) rfl rfl rfl ⟨Nat.zero_le _, Nat.zero_le _⟩ (fun r_121 Sh_121 I_121 L_121 R_121 hq_121 => ?_)
    obtain ⟨y, rfl, rfl, rfl, rfl, hf2, hc2, hy⟩ := hq_121
    have hqb := mqR (i := 5) (D' := (bd g t 7 c D).2) (c' := (bd g t 7 c D).1) hqa hf2 hc2 (fun z => isR_ch (isR_nx z)) (fun z => hy (isR_nx z)) rfl
    refine z_iastore d_X8_readRule_124 (by first | rfl | assumption) (by omega) (zix_lit 5 (by decide)) ?_
    refine z_goto d_X8_readRule_125 ?_
    exact z_return d_X8_readRule_148 rfl ⟨rfl, rfl, rfl, rfl, hqb⟩
  refine z_by (8) (fun e_1_5 => ?_) (fun e_1_5 => ?_)
  · refine z_tabIn (off := 127) (tgt := 128) d_X8_readRule_1 (by rw [e_1_5]; decide) (by rw [e_1_5]; decide) (by rw [e_1_5]; rfl) (by decide) ?_
    obtain rfl : K = 8 := (nI_eq (a := K) (b := 8) (by omega) (by decide)).mp e_1_5
    refine z_aload_n d_X8_readRule_128 rfl ?_
    refine z_getR d_X8_readRule_129 f_X8_33 (by first | rfl | assumption) (by omega) (by first | exact hR _ _ _ rfl | rfl | assumption) ?_
    refine z_bipush d_X8_readRule_132 kb_6 ?_
    refine z_aload_n d_X8_readRule_134 rfl ?_
    refine z_iconst d_X8_readRule_135 ki_3 ?_
    refine z_iconst d_X8_readRule_136 ki_4 ?_
    refine z_rV d_X8_readRule_137 q_X8_readRule_152 (by first | rfl | assumption) (by omega) ⟨rfl, rfl⟩ (ct_X8_readNumber hR h17 ht h77 hc hg1) rfl rfl rfl ⟨Nat.zero_le _, Nat.zero_le _⟩ (fun r_137 Sh_137 I_137 L_137 R_137 hq_137 => ?_)
    obtain ⟨x, rfl, rfl, rfl, rfl, hf, hc1, hx⟩ := hq_137
    have hqb := mqR (i := 6) (D' := (bd g t 8 c D).2) (c' := (bd g t 8 c D).1) hq hf hc1 (fun z => isR_ch (isR_nx z)) (fun z => hx (isR_nx z)) rfl
    refine z_iastore d_X8_readRule_140 (by first | rfl | assumption) (by omega) (zix_lit 6 (by decide)) ?_
    refine z_goto d_X8_readRule_141 ?_
    exact z_return d_X8_readRule_148 rfl ⟨rfl, rfl, rfl, rfl, hqb⟩
  refine z_tabOut (tgt := 144) d_X8_readRule_1 (by have n_0 := sw_ne e_1_0; have n_1 := sw_ne e_1_1; have n_2 := sw_ne e_1_2; have n_3 := sw_ne e_1_3; have n_4 := sw_ne e_1_4; have n_5 := sw_ne e_1_5; replace n_0 : _ ≠ (3 : Int) := n_0; replace n_1 : _ ≠ (4 : Int) := n_1; replace n_2 : _ ≠ (5 : Int) := n_2; replace n_3 : _ ≠ (6 : Int) := n_3; replace n_4 : _ ≠ (7 : Int) := n_4; replace n_5 : _ ≠ (8 : Int) := n_5; omega) (by decide) ?_
  obtain rfl : K = 9 := by
    have n3 : K ≠ 3 := fun z => e_1_0 (by rw [z]; rfl)
    have n4 : K ≠ 4 := fun z => e_1_1 (by rw [z]; rfl)
    have n5 : K ≠ 5 := fun z => e_1_2 (by rw [z]; rfl)
    have n6 : K ≠ 6 := fun z => e_1_3 (by rw [z]; rfl)
    have n7 : K ≠ 7 := fun z => e_1_4 (by rw [z]; rfl)
    have n8 : K ≠ 8 := fun z => e_1_5 (by rw [z]; rfl)
    omega
  refine z_aload_n d_X8_readRule_144 rfl ?_
  refine z_rV d_X8_readRule_145 q_X8_readRule_156 (by first | rfl | assumption) (by omega) ⟨rfl, rfl⟩ (ct_X8_readClock hR h17 ht h77 hgn hc hg) rfl rfl rfl ⟨Nat.zero_le _, Nat.zero_le _⟩ (fun r_145 Sh_145 I_145 L_145 R_145 hq_145 => ?_)
  obtain ⟨rfl, rfl, rfl, rfl, hw⟩ := hq_145
  have hqb := mq9 hq hD hw
  exact z_return d_X8_readRule_148 rfl ⟨rfl, rfl, rfl, rfl, hqb⟩
