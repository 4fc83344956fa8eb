/-! STRINGS: their cells are old ones, at places 1000001.. (the ten texts), 1000100.. (their bytes) -/
theorem zad_f (E : zE) (j : Nat) : zad E (1000000 + j) = eF E j := by
  unfold zad
  rw [if_neg (by omega), Nat.add_sub_cancel_left]
def zch (i k : Nat) : Int32 := (zSbyt.getD i []).getD k 0
section ZSTR
variable {E : zE} {md : zMD} {X : zX} {Qs : State → Prop} {Sh : zSh} {kc ks pc pc' : Nat} {ls : List (Option Value)} {st : List Value} {I : zI} {L : zL} {R : zR} {Q : Option Value → zSh → zI → zL → zR → Prop}
theorem z_gsV {idx i : Nat} (hd : zD md pc (.getfield idx) 3 pc') (hf : Cond.fieldLink md.1.cls idx "java/lang/String" "value" "[B" ∈ lw_g) (hi : i < 10) (k : zZ E md X Qs Sh kc ks pc' ls (.ref (1000000 + (i + 100)) :: st) I L R) : zZ E md X Qs Sh kc ks pc ls (.ref (1000000 + (i + 1)) :: st) I L R := by
  obtain ⟨hd, rfl⟩ := hd
  intro C hz H locs la hW hS hl
  have hk := k C hz H locs la hW hS hl
  have e1 : ((Value.ref (1000000 + (i + 1)) :: st).map (ztr E)) = .ref (eF E (i + 1)) :: st.map (ztr E) := by rw [← zad_f]; rfl
  have e2 : ((Value.ref (1000000 + (i + 100)) :: st).map (ztr E)) = .ref (eF E (i + 100)) :: st.map (ztr E) := by rw [← zad_f]; rfl
  rw [e2] at hk
  rw [e1]
  exact vk_getf C.1 C.2.1 (C.2.2.2.2.2.2.2.2.2.1.1.1 i hi).2.2.1 hS C.2.2.2.1 (C.2.2.2.2.1 _ hf) (fun x h => h) hd hk
theorem z_gsC {idx i : Nat} (hd : zD md pc (.getfield idx) 3 pc') (hf : Cond.fieldLink md.1.cls idx "java/lang/String" "coder" "B" ∈ lw_g) (hi : i < 10) (k : zZ E md X Qs Sh kc ks pc' ls (.int 0 :: st) I L R) : zZ E md X Qs Sh kc ks pc ls (.ref (1000000 + (i + 1)) :: st) I L R := by
  obtain ⟨hd, rfl⟩ := hd
  intro C hz H locs la hW hS hl
  have hk := k C hz H locs la hW hS hl
  have e1 : ((Value.ref (1000000 + (i + 1)) :: st).map (ztr E)) = .ref (eF E (i + 1)) :: st.map (ztr E) := by rw [← zad_f]; rfl
  rw [e1]
  exact vk_getf C.1 C.2.1 (C.2.2.2.2.2.2.2.2.2.1.1.1 i hi).2.1 hS C.2.2.2.1 (C.2.2.2.2.1 _ hf) (fun x h => h) hd hk
theorem z_tlS {i : Nat} (hd : zD md pc .arraylength 1 pc') (hi : i < 10) (k : zZ E md X Qs Sh kc ks pc' ls (.int (nI (zSlen.getD i 0)) :: st) I L R) : zZ E md X Qs Sh kc ks pc ls (.ref (1000000 + (i + 100)) :: st) I L R := by
  obtain ⟨hd, rfl⟩ := hd
  intro C hz H locs la hW hS hl
  have hk := k C hz H locs la hW hS hl
  have e2 : ((Value.ref (1000000 + (i + 100)) :: st).map (ztr E)) = .ref (eF E (i + 100)) :: st.map (ztr E) := by rw [← zad_f]; rfl
  rw [e2]
  exact va_tlen C.1 C.2.1 (C.2.2.2.2.2.2.2.2.2.1.1.1 i hi).2.2.2 hS rfl hd hk
theorem z_tbS {i : Nat} {x : Int32} (hd : zD md pc .baload 1 pc') (hi : i < 10) (hin : vp_in x (zSlen.getD i 0)) (k : zZ E md X Qs Sh kc ks pc' ls (.int (zch i x.toNatClampNeg) :: st) I L R) : zZ E md X Qs Sh kc ks pc ls (.int x :: .ref (1000000 + (i + 100)) :: st) I L R := by
  obtain ⟨hd, rfl⟩ := hd
  intro C hz H locs la hW hS hl
  have hk := k C hz H locs la hW hS hl
  have e2 : ((Value.int x :: .ref (1000000 + (i + 100)) :: st).map (ztr E)) = .int x :: .ref (eF E (i + 100)) :: st.map (ztr E) := by rw [← zad_f]; rfl
  rw [e2]
  exact va_tb C.1 C.2.1 (C.2.2.2.2.2.2.2.2.2.1.1.1 i hi).2.2.2 hS hin rfl hd hk
theorem z_gcs {idx : Nat} (hd : zD md pc (.getstatic idx) 3 pc') (hf : Cond.fieldLink md.1.cls idx "java/lang/String" "COMPACT_STRINGS" "Z" ∈ lw_g) (k : zZ E md X Qs Sh kc ks pc' ls (.int 1 :: st) I L R) : zZ E md X Qs Sh kc ks pc ls st I L R := by
  obtain ⟨hd, rfl⟩ := hd
  intro C hz H locs la hW hS hl
  exact va_gets C.1 C.2.1 C.2.2.2.2.2.2.2.2.2.1.2.1 hS C.2.2.2.1 (C.2.2.2.2.1 _ hf) (fun x h => h) hd (k C hz H locs la hW hS hl)
theorem z_gsf {idx : Nat} (hd : zD md pc (.getstatic idx) 3 pc') (hf : Cond.fieldLink md.1.cls idx "jdk/internal/util/Preconditions" "SIOOBE_FORMATTER" "Ljava/util/function/BiFunction;" ∈ lw_g) (k : ∀ v : Value, (v = .null ∨ v = .ref (1000000 + 200)) → zZ E md X Qs Sh kc ks pc' ls (v :: st) I L R) : zZ E md X Qs Sh kc ks pc ls st I L R := by
  obtain ⟨hd, rfl⟩ := hd
  intro C hz H locs la hW hS hl
  rcases C.2.2.2.2.2.2.2.2.2.1.2.2 with z | z
  · exact va_gets C.1 C.2.1 z hS C.2.2.2.1 (C.2.2.2.2.1 _ hf) (fun x h => h) hd (k .null (Or.inl rfl) C hz H locs la hW hS hl)
  · have hk := k (.ref (1000000 + 200)) (Or.inr rfl) C hz H locs la hW hS hl
    have e2 : ((Value.ref (1000000 + 200) :: st).map (ztr E)) = .ref (eF E 200) :: st.map (ztr E) := by rw [← zad_f]; rfl
    rw [e2] at hk
    exact va_gets C.1 C.2.1 z hS C.2.2.2.1 (C.2.2.2.2.1 _ hf) (fun x h => h) hd hk
theorem z_nreturn {v : Int32} {ty : FieldType} (hd : decode (zcc md) pc = .ok (.ireturn, 1)) (hr : zret md = some ty) (hn : narrow ty (.int v) = .int v) (hq : Q (some (.int v)) Sh I L R) : zZ E md X (zQs E md X Q) Sh (zmc md) (zms md) pc ls [.int v] I L R := by
  intro C hz H locs la hW hS hl
  exact W.zret C.1 C.2.1 (C.2.2.2.2.2.1.trans hr) hn (z_fin hq hz hW hS) hS.2.2 hd C.2.2.2.2.2.2.1
theorem z_callVs {idx i n : Nat} {mdc : zMD} {As stk : List Value} (hd : zD md pc (.invokevirtual idx) 3 pc') (hc : zCvs md idx mdc n) (hi : i < 10) (hct : zCt E mdc Sh (.ref (1000000 + (i + 1)) :: As) I L R Q) (hst : stk = As.reverse ++ .ref (1000000 + (i + 1)) :: st) (hn : As.length = n) (hw : Nat.ble (zcat st) 8 = true) (hroom : kc + zmc mdc ≤ (zrm md).cells ∧ ks + zms mdc ≤ (zrm md).slots)
    (kk : ∀ (r : Option Value) (Sh' : zSh) (I' : zI) (L' : zL) (R' : zR), Q r Sh' I' L' R' → zZ E md X Qs Sh' (kc + zmc mdc) (ks + zms mdc) pc' ls (r.toList ++ st) I' L' R') : zZ E md X Qs Sh kc ks pc ls stk I L R := by
  obtain ⟨hd, rfl⟩ := hd
  obtain ⟨⟨hcode, hini, hnm, ⟨hrc, hrs⟩, hR⟩, hlk, hin, hsel⟩ := hc
  subst hst
  intro C hz H locs la hW hS hl
  refine z_run (mdc := mdc) (Q := Q) (a := (Value.ref (zad E (1000000 + (i + 1))) :: As.map (ztr E)).toArray) (rest := st.map (ztr E)) C.2.2.2.2.2.2.2.2.2.2 hz hW hS (fun hsz => ?_) (fun r Sh' I' L' R' H1 locs1 hq1 hz1 hW1 hS1 => ?_)
  · refine va_runV (C := "java/lang/String") (As := As.map (ztr E)) (b := zad E (1000000 + (i + 1))) (nL := zmL md) ⟨C.1, C.2.1, C.2.2.1, C.2.2.2.1, C.2.2.2.2.1⟩ hct ⟨callB_of n C.2.2.2.2.1 (zgood hcode) rfl hrc hrs (C.2.2.2.2.1 _ hini) (C.2.2.2.2.1 _ hlk) hnm hR, C.2.2.2.2.1 _ hin, C.2.2.2.2.1 _ hsel⟩ ⟨zPc_blind, by rw [zad_f]; have hv := vk_recv (i := i) C.2.2.2.2.2.2.2.2.2.1.1 hi hS; exact hv, z_pre C hsz hW hS⟩ rfl (by simpa using hn) hl.2.1 ?_ ?_ hd hroom
    · show ((As.reverse ++ .ref (1000000 + (i + 1)) :: st).map (ztr E)) = _
      simp [List.map_append, List.map_reverse, ztr]
    · show 2 * 0 + ((st.map (ztr E)).map fun v => v.category).sum ≤ 8
      rw [zcat_map, Nat.mul_zero, Nat.zero_add]
      exact Nat.le_of_ble_eq_true hw
  · have := kk r Sh' I' L' R' hq1 C hz1 H1 locs1 la hW1 hS1 hl
    cases r <;> exact this
theorem z_cVsi {idx i n : Nat} {mdc : zMD} {As stk : List Value} {I' : zI} {L' : zL} {R' : zR} {x : Int32} (hd : zD md pc (.invokevirtual idx) 3 pc') (hc : zCvs md idx mdc n) (hi : i < 10) (h0 : zmc mdc = 0 ∧ zms mdc = 0) (hct : zCf E mdc Sh (.ref (1000000 + (i + 1)) :: As) I L R (some (.int x)) I' L' R') (hst : stk = As.reverse ++ .ref (1000000 + (i + 1)) :: st) (hn : As.length = n) (hw : Nat.ble (zcat st) 8 = true) (hroom : kc ≤ (zrm md).cells ∧ ks ≤ (zrm md).slots)
    (k : zZ E md X Qs Sh kc ks pc' ls (.int x :: st) I' L' R') : zZ E md X Qs Sh kc ks pc ls stk I L R :=
  z_callVs hd hc hi hct hst hn hw (by rw [h0.1, h0.2]; exact hroom) (fun r Sh1 I1 L1 R1 h => by obtain ⟨rfl, rfl, rfl, rfl, rfl⟩ := h; rw [h0.1, h0.2]; exact k)
end ZSTR
theorem zch_c : ∀ i, i < 10 → ∀ k, k < zSlen.getD i 0 → ((zch i k &&& 255).toUInt32 % 65536).toInt32 = zch i k := by decide
theorem zsl_s : ∀ i, i < 10 → nI (zSlen.getD i 0) >>> ((0 : Int32) &&& 31) = nI (zSlen.getD i 0) := by decide
theorem zsl_b : ∀ i, i < 10 → zSlen.getD i 0 ≤ 6 := by decide
theorem zch_n {i k : Nat} (hi : i < 10) (hk : k < zSlen.getD i 0) : narrow .char (.int (zch i k)) = .int (zch i k) := by
  have h := zch_c i hi k hk
  have e : zch i k &&& 255 = zch i k := (show ∀ i, i < 10 → ∀ k, k < zSlen.getD i 0 → zch i k &&& 255 = zch i k by decide) i hi k hk
  rw [e] at h
  show Value.int _ = _
  exact congrArg Value.int h
set_option maxRecDepth 100000 in
set_option maxHeartbeats 4000000 in
theorem ct_J0_coder_7d493 {E : zE} {Sh : zSh} {I : zI} {L : zL} {R : zR} {i : Nat} (hi : i < 10) : zCf E m_J0_coder_7d493 Sh [.ref (1000000 + (i + 1))] I L R (some (.int 0)) (I) (L) (R) := by
  refine z_metF (by decide +kernel) [some (.ref (1000000 + (i + 1)))] rfl rfl (Nat.le_of_ble_eq_true rfl) (fun X => ?_)
  refine z_gcs d_J0_coder_7d493_0 w_ss ?_
  refine z_if_eq d_J0_coder_7d493_3 (fun h_3 => absurd h_3 (by decide)) (fun h_3 => ?_)
  refine z_aload_n d_J0_coder_7d493_6 rfl ?_
  refine z_gsC d_J0_coder_7d493_7 w_sc hi ?_
  refine z_goto d_J0_coder_7d493_10 ?_
  exact z_nreturn d_J0_coder_7d493_14 rfl rfl ⟨rfl, rfl, rfl, rfl, rfl⟩
set_option maxRecDepth 100000 in
set_option maxHeartbeats 4000000 in
theorem ct_J0_isLatin1_aae02 {E : zE} {Sh : zSh} {I : zI} {L : zL} {R : zR} {i : Nat} (hi : i < 10) : zCf E m_J0_isLatin1_aae02 Sh [.ref (1000000 + (i + 1))] I L R (some (.int 1)) (I) (L) (R) := by
  refine z_metF (by decide +kernel) [some (.ref (1000000 + (i + 1)))] rfl rfl (Nat.le_of_ble_eq_true rfl) (fun X => ?_)
  refine z_gcs d_J0_isLatin1_aae02_0 w_ss ?_
  refine z_if_eq d_J0_isLatin1_aae02_3 (fun h_3 => absurd h_3 (by decide)) (fun h_3 => ?_)
  refine z_aload_n d_J0_isLatin1_aae02_6 rfl ?_
  refine z_gsC d_J0_isLatin1_aae02_7 w_sc hi ?_
  refine z_if_ne d_J0_isLatin1_aae02_10 (fun h_10 => absurd rfl h_10) (fun h_10 => ?_)
  refine z_iconst d_J0_isLatin1_aae02_13 ki_1 ?_
  refine z_goto d_J0_isLatin1_aae02_14 ?_
  exact z_zreturn d_J0_isLatin1_aae02_18 rfl rfl ⟨rfl, rfl, rfl, rfl, rfl⟩
set_option maxRecDepth 100000 in
set_option maxHeartbeats 4000000 in
theorem ct_J0_length_8abf5 {E : zE} {Sh : zSh} {I : zI} {L : zL} {R : zR} {i : Nat} (hi : i < 10) : zCf E m_J0_length_8abf5 Sh [.ref (1000000 + (i + 1))] I L R (some (.int (nI (zSlen.getD i 0)))) (I) (L) (R) := by
  refine z_metF (by decide +kernel) [some (.ref (1000000 + (i + 1)))] rfl rfl (Nat.le_of_ble_eq_true rfl) (fun X => ?_)
  refine z_aload_n d_J0_length_8abf5_0 rfl ?_
  refine z_gsV d_J0_length_8abf5_1 w_sv hi ?_
  refine z_tlS d_J0_length_8abf5_4 hi ?_
  refine z_aload_n d_J0_length_8abf5_5 rfl ?_
  refine z_cVsi d_J0_length_8abf5_6 q_J0_length_8abf5_335 hi ⟨rfl, rfl⟩ (ct_J0_coder_7d493 hi) rfl rfl rfl ⟨Nat.zero_le _, Nat.zero_le _⟩ ?_
  refine z_ishr d_J0_length_8abf5_9 ?_
  exact z_ireturn d_J0_length_8abf5_10 rfl ⟨by rw [zsl_s i hi], rfl, rfl, rfl, rfl⟩
set_option maxRecDepth 100000 in
set_option maxHeartbeats 4000000 in
theorem ct_J3_n {E : zE} {Sh : zSh} {I : zI} {L : zL} {R : zR} {a b : Int32} (ha : ¬ a < 0) (hb : a < b) : zCf E m_J3_checkIndex_8e157 Sh [.int a, .int b, .null] I L R (some (.int a)) (I) (L) (R) := by
  refine z_metF (by decide +kernel) [some (.int a), some (.int b), some (.null)] rfl rfl (Nat.le_of_ble_eq_true rfl) (fun X => ?_)
  refine z_iload_n d_J3_checkIndex_8e157_0 rfl ?_
  refine z_if_lt d_J3_checkIndex_8e157_1 (fun h_1 => absurd h_1 ha) (fun h_1 => ?_)
  refine z_iload_n d_J3_checkIndex_8e157_4 rfl ?_
  refine z_iload_n d_J3_checkIndex_8e157_5 rfl ?_
  refine z_icmp_lt d_J3_checkIndex_8e157_6 (fun h_6 => ?_) (fun h_6 => absurd hb h_6)
  refine z_iload_n d_J3_checkIndex_8e157_16 rfl ?_
  exact z_ireturn d_J3_checkIndex_8e157_17 rfl ⟨rfl, rfl, rfl, rfl, rfl⟩
set_option maxRecDepth 100000 in
set_option maxHeartbeats 4000000 in
theorem ct_J3_r {E : zE} {Sh : zSh} {I : zI} {L : zL} {R : zR} {a b : Int32} {p : Nat} (ha : ¬ a < 0) (hb : a < b) : zCf E m_J3_checkIndex_8e157 Sh [.int a, .int b, .ref p] I L R (some (.int a)) (I) (L) (R) := by
  refine z_metF (by decide +kernel) [some (.int a), some (.int b), some (.ref p)] rfl rfl (Nat.le_of_ble_eq_true rfl) (fun X => ?_)
  refine z_iload_n d_J3_checkIndex_8e157_0 rfl ?_
  refine z_if_lt d_J3_checkIndex_8e157_1 (fun h_1 => absurd h_1 ha) (fun h_1 => ?_)
  refine z_iload_n d_J3_checkIndex_8e157_4 rfl ?_
  refine z_iload_n d_J3_checkIndex_8e157_5 rfl ?_
  refine z_icmp_lt d_J3_checkIndex_8e157_6 (fun h_6 => ?_) (fun h_6 => absurd hb h_6)
  refine z_iload_n d_J3_checkIndex_8e157_16 rfl ?_
  exact z_ireturn d_J3_checkIndex_8e157_17 rfl ⟨rfl, rfl, rfl, rfl, rfl⟩
theorem ct_J3 {E : zE} {Sh : zSh} {I : zI} {L : zL} {R : zR} {a b : Int32} {v : Value} (ha : ¬ a < 0) (hb : a < b) (hv : v = .null ∨ v = .ref (1000000 + 200)) : zCf E m_J3_checkIndex_8e157 Sh [.int a, .int b, v] I L R (some (.int a)) I L R := by
  rcases hv with rfl | rfl
  · exact ct_J3_n ha hb
  · exact ct_J3_r ha hb
set_option maxRecDepth 100000 in
set_option maxHeartbeats 4000000 in
theorem ct_J0_checkIndex_df160 {E : zE} {Sh : zSh} {I : zI} {L : zL} {R : zR} {a b : Int32} (ha : ¬ a < 0) (hb : a < b) : zCf E m_J0_checkIndex_df160 Sh [.int a, .int b] I L R (none) (I) (L) (R) := by
  refine z_metF (by decide +kernel) [some (.int a), some (.int b)] rfl rfl (Nat.le_of_ble_eq_true rfl) (fun X => ?_)
  refine z_iload_n d_J0_checkIndex_df160_0 rfl ?_
  refine z_iload_n d_J0_checkIndex_df160_1 rfl ?_
  refine z_gsf d_J0_checkIndex_df160_2 w_sf (fun v hv => ?_)
  refine z_cSi d_J0_checkIndex_df160_5 q_J0_checkIndex_df160_1059 ⟨rfl, rfl⟩ (ct_J3 ha hb hv) rfl rfl rfl ⟨Nat.zero_le _, Nat.zero_le _⟩ ?_
  refine z_pop d_J0_checkIndex_df160_8 rfl ?_
  exact z_return d_J0_checkIndex_df160_9 rfl ⟨rfl, rfl, rfl, rfl, rfl⟩
set_option maxRecDepth 100000 in
set_option maxHeartbeats 4000000 in
theorem ct_J1_charAt_3b067 {E : zE} {Sh : zSh} {I : zI} {L : zL} {R : zR} {i k : Nat} (hi : i < 10) (hk : k < zSlen.getD i 0) : zCf E m_J1_charAt_3b067 Sh [.ref (1000000 + (i + 100)), .int (nI k)] I L R (some (.int (zch i k))) (I) (L) (R) := by
  have hl := zsl_b i hi
  refine z_metF (by decide +kernel) [some (.ref (1000000 + (i + 100))), some (.int (nI k))] rfl rfl (Nat.le_of_ble_eq_true rfl) (fun X => ?_)
  refine z_iload_n d_J1_charAt_3b067_0 rfl ?_
  refine z_aload_n d_J1_charAt_3b067_1 rfl ?_
  refine z_tlS d_J1_charAt_3b067_2 hi ?_
  refine z_cSv d_J1_charAt_3b067_3 q_J1_charAt_3b067_9 ⟨rfl, rfl⟩ (ct_J0_checkIndex_df160 (nI_pos (by omega)) (nI_lt hk (by omega))) rfl rfl rfl ⟨Nat.zero_le _, Nat.zero_le _⟩ ?_
  refine z_aload_n d_J1_charAt_3b067_6 rfl ?_
  refine z_iload_n d_J1_charAt_3b067_7 rfl ?_
  refine z_tbS d_J1_charAt_3b067_8 hi (vp_in_nI hk (by omega)) ?_
  refine z_sipush d_J1_charAt_3b067_9 ks_255 ?_
  refine z_iand d_J1_charAt_3b067_12 ?_
  refine z_i2c d_J1_charAt_3b067_13 ?_
  rw [nI_clamp (by omega), zch_c i hi k hk]
  exact z_nreturn d_J1_charAt_3b067_14 rfl (zch_n hi hk) ⟨rfl, rfl, rfl, rfl, rfl⟩
set_option maxRecDepth 100000 in
set_option maxHeartbeats 4000000 in
theorem ct_J0_charAt_5068e {E : zE} {Sh : zSh} {I : zI} {L : zL} {R : zR} {i k : Nat} (hi : i < 10) (hk : k < zSlen.getD i 0) : zCf E m_J0_charAt_5068e Sh [.ref (1000000 + (i + 1)), .int (nI k)] I L R (some (.int (zch i k))) (I) (L) (R) := by
  refine z_metF (by decide +kernel) [some (.ref (1000000 + (i + 1))), some (.int (nI k))] rfl rfl (Nat.le_of_ble_eq_true rfl) (fun X => ?_)
  refine z_aload_n d_J0_charAt_5068e_0 rfl ?_
  refine z_cVsi d_J0_charAt_5068e_1 q_J0_charAt_5068e_492 hi ⟨rfl, rfl⟩ (ct_J0_isLatin1_aae02 hi) rfl rfl rfl ⟨Nat.zero_le _, Nat.zero_le _⟩ ?_
  refine z_if_eq d_J0_charAt_5068e_4 (fun h_4 => absurd h_4 (by decide)) (fun h_4 => ?_)
  refine z_aload_n d_J0_charAt_5068e_7 rfl ?_
  refine z_gsV d_J0_charAt_5068e_8 w_sv hi ?_
  refine z_iload_n d_J0_charAt_5068e_11 rfl ?_
  refine z_cSi d_J0_charAt_5068e_12 q_J0_charAt_5068e_495 ⟨rfl, rfl⟩ (ct_J1_charAt_3b067 hi hk) rfl rfl rfl ⟨Nat.zero_le _, Nat.zero_le _⟩ ?_
  exact z_nreturn d_J0_charAt_5068e_15 rfl (zch_n hi hk) ⟨rfl, rfl, rfl, rfl, rfl⟩
def nmX (x : Int32) : Nat := if x = 0 then 0 else if x = 1 then 1 else if x = 2 then 2 else if x = 3 then 3 else if x = 4 then 4 else if x = 5 then 5 else if x = 6 then 6 else if x = 7 then 7 else if x = 8 then 8 else 9
theorem nmX_n : ∀ k, k < 10 → nmX (nI k) = k := by decide
set_option maxRecDepth 100000 in
set_option maxHeartbeats 4000000 in
theorem ct_X4_nameOf {E : zE} {Sh : zSh} {I : zI} {L : zL} {R : zR} {x : Int32} : zCf E m_X4_nameOf Sh [.int x] I L R (some (.ref (1000000 + (nmX x + 1)))) (I) (L) (R) := by
  refine z_met (by decide) [some (.int x)] rfl rfl (Nat.le_of_ble_eq_true rfl) (fun X => ?_)
  refine z_iload_n d_X4_nameOf_0 rfl ?_
  refine z_by (0) (fun e_1_0 => ?_) (fun e_1_0 => ?_)
  · refine z_tabIn (off := 51) (tgt := 52) d_X4_nameOf_1 (by rw [e_1_0]; decide) (by rw [e_1_0]; decide) (by rw [e_1_0]; rfl) (by decide) ?_
    refine z_ldcS (i := 0) d_X4_nameOf_52 rfl rfl (by decide) ?_
    exact z_areturn d_X4_nameOf_54 rfl ⟨by simp [nmX, *], rfl, rfl, rfl, rfl⟩
  refine z_by (1) (fun e_1_1 => ?_) (fun e_1_1 => ?_)
  · refine z_tabIn (off := 54) (tgt := 55) d_X4_nameOf_1 (by rw [e_1_1]; decide) (by rw [e_1_1]; decide) (by rw [e_1_1]; rfl) (by decide) ?_
    refine z_ldcS (i := 1) d_X4_nameOf_55 rfl rfl (by decide) ?_
    exact z_areturn d_X4_nameOf_57 rfl ⟨by simp [nmX, *], rfl, rfl, rfl, rfl⟩
  refine z_by (2) (fun e_1_2 => ?_) (fun e_1_2 => ?_)
  · refine z_tabIn (off := 57) (tgt := 58) d_X4_nameOf_1 (by rw [e_1_2]; decide) (by rw [e_1_2]; decide) (by rw [e_1_2]; rfl) (by decide) ?_
    refine z_ldcS (i := 2) d_X4_nameOf_58 rfl rfl (by decide) ?_
    exact z_areturn d_X4_nameOf_60 rfl ⟨by simp [nmX, *], rfl, rfl, rfl, rfl⟩
  refine z_by (3) (fun e_1_3 => ?_) (fun e_1_3 => ?_)
  · refine z_tabIn (off := 60) (tgt := 61) d_X4_nameOf_1 (by rw [e_1_3]; decide) (by rw [e_1_3]; decide) (by rw [e_1_3]; rfl) (by decide) ?_
    refine z_ldcS (i := 3) d_X4_nameOf_61 rfl rfl (by decide) ?_
    exact z_areturn d_X4_nameOf_63 rfl ⟨by simp [nmX, *], rfl, rfl, rfl, rfl⟩
  refine z_by (4) (fun e_1_4 => ?_) (fun e_1_4 => ?_)
  · refine z_tabIn (off := 63) (tgt := 64) d_X4_nameOf_1 (by rw [e_1_4]; decide) (by rw [e_1_4]; decide) (by rw [e_1_4]; rfl) (by decide) ?_
    refine z_ldcS (i := 4) d_X4_nameOf_64 rfl rfl (by decide) ?_
    exact z_areturn d_X4_nameOf_66 rfl ⟨by simp [nmX, *], rfl, rfl, rfl, rfl⟩
  refine z_by (5) (fun e_1_5 => ?_) (fun e_1_5 => ?_)
  · refine z_tabIn (off := 66) (tgt := 67) d_X4_nameOf_1 (by rw [e_1_5]; decide) (by rw [e_1_5]; decide) (by rw [e_1_5]; rfl) (by decide) ?_
    refine z_ldcS (i := 5) d_X4_nameOf_67 rfl rfl (by decide) ?_
    exact z_areturn d_X4_nameOf_69 rfl ⟨by simp [nmX, *], rfl, rfl, rfl, rfl⟩
  refine z_by (6) (fun e_1_6 => ?_) (fun e_1_6 => ?_)
  · refine z_tabIn (off := 69) (tgt := 70) d_X4_nameOf_1 (by rw [e_1_6]; decide) (by rw [e_1_6]; decide) (by rw [e_1_6]; rfl) (by decide) ?_
    refine z_ldcS (i := 6) d_X4_nameOf_70 rfl rfl (by decide) ?_
    exact z_areturn d_X4_nameOf_72 rfl ⟨by simp [nmX, *], rfl, rfl, rfl, rfl⟩
  refine z_by (7) (fun e_1_7 => ?_) (fun e_1_7 => ?_)
  · refine z_tabIn (off := 72) (tgt := 73) d_X4_nameOf_1 (by rw [e_1_7]; decide) (by rw [e_1_7]; decide) (by rw [e_1_7]; rfl) (by decide) ?_
    refine z_ldcS (i := 7) d_X4_nameOf_73 rfl rfl (by decide) ?_
    exact z_areturn d_X4_nameOf_75 rfl ⟨by simp [nmX, *], rfl, rfl, rfl, rfl⟩
  refine z_by (8) (fun e_1_8 => ?_) (fun e_1_8 => ?_)
  · refine z_tabIn (off := 75) (tgt := 76) d_X4_nameOf_1 (by rw [e_1_8]; decide) (by rw [e_1_8]; decide) (by rw [e_1_8]; rfl) (by decide) ?_
    refine z_ldcS (i := 8) d_X4_nameOf_76 rfl rfl (by decide) ?_
    exact z_areturn d_X4_nameOf_78 rfl ⟨by simp [nmX, *], rfl, rfl, rfl, rfl⟩
  refine z_tabOut (tgt := 79) d_X4_nameOf_1 (by have n_0 := sw_ne e_1_0; have n_1 := sw_ne e_1_1; have n_2 := sw_ne e_1_2; have n_3 := sw_ne e_1_3; have n_4 := sw_ne e_1_4; have n_5 := sw_ne e_1_5; have n_6 := sw_ne e_1_6; have n_7 := sw_ne e_1_7; have n_8 := sw_ne e_1_8; replace n_0 : _ ≠ (0 : Int) := n_0; replace n_1 : _ ≠ (1 : Int) := n_1; replace n_2 : _ ≠ (2 : Int) := n_2; replace n_3 : _ ≠ (3 : Int) := n_3; replace n_4 : _ ≠ (4 : Int) := n_4; replace n_5 : _ ≠ (5 : Int) := n_5; replace n_6 : _ ≠ (6 : Int) := n_6; replace n_7 : _ ≠ (7 : Int) := n_7; replace n_8 : _ ≠ (8 : Int) := n_8; omega) (by decide) ?_
  refine z_ldcS (i := 9) d_X4_nameOf_79 rfl rfl (by decide) ?_
  exact z_areturn d_X4_nameOf_81 rfl ⟨by simp [nmX, *], rfl, rfl, rfl, rfl⟩
/-! WHAT A NAME SPELLS -/
def eqF (g : Nat → Int32) (t s k : Nat) : Nat → Bool
  | 0 => true
  | n + 1 => eqF g t s k n && decide (btA g t (s + n) = zch k n)
def spB (g : Nat → Int32) (t s a k : Nat) : Bool := decide (zSlen.getD k 0 = a - s) && eqF g t s k (zSlen.getD k 0)
theorem eqF_le {g : Nat → Int32} {t s k : Nat} : ∀ {n i : Nat}, i ≤ n → eqF g t s k n = true → eqF g t s k i = true
  | 0, i, h, e => by rw [show i = 0 by omega]; exact e
  | n + 1, i, h, e => by
    by_cases q : i = n + 1
    · rw [q]; exact e
    · have : eqF g t s k n = true := by
        have e2 : (eqF g t s k n && decide (btA g t (s + n) = zch k n)) = true := e
        exact (Bool.and_eq_true _ _ ▸ e2).1
      exact eqF_le (by omega) this
set_option maxRecDepth 100000 in
set_option maxHeartbeats 4000000 in
theorem ct_X4_spells {E : zE} {I : zI} {L : zL} {R : zR} {t s a k : Nat} (hR : zLx R) (h1 : I 1 1 = nI t) (ht : t ≤ 400) (h4 : I 8 4 = nI a) (h6 : I 8 6 = nI s) (hsa : s ≤ a) (hat : a ≤ t) (hk : k < 10) : zCf E m_X4_spells zShF [.ref 8, .ref (1000000 + (k + 1))] I L R (some (.int (b2i (spB (gB I) t s a k)))) (I) (L) (R) := by
  have hl := zsl_b k hk
  refine z_met (by decide) [some (.ref 8), some (.ref (1000000 + (k + 1))), none] rfl rfl (Nat.le_of_ble_eq_true rfl) (fun X => ?_)
  refine z_aload_n d_X4_spells_0 rfl ?_
  refine z_cVsi d_X4_spells_1 q_X4_spells_145 hk ⟨rfl, rfl⟩ (ct_J0_length_8abf5 hk) rfl rfl rfl ⟨Nat.zero_le _, Nat.zero_le _⟩ ?_
  refine z_aload_n d_X4_spells_4 rfl ?_
  refine z_getI d_X4_spells_5 f_X4_61 (by first | rfl | assumption) (by omega) ?_
  refine z_aload_n d_X4_spells_8 rfl ?_
  refine z_getI d_X4_spells_9 f_X4_73 (by first | rfl | assumption) (by omega) ?_
  refine z_isub d_X4_spells_12 ?_
  rw [h4, h6, nI_subN hsa]
  refine z_icmp_eq d_X4_spells_13 (fun h_13 => ?_) (fun h_13 => ?_)
  · have heq : zSlen.getD k 0 = a - s := (nI_eq (by omega) (by omega)).mp h_13
    refine z_iconst d_X4_spells_18 ki_0 ?_
    refine z_istore2 d_X4_spells_19 rfl ?_
    have loop : ∀ (Qs : State → Prop), (eqF (gB I) t s k (zSlen.getD k 0) = true → zZ E m_X4_spells X Qs zShF 0 0 57 [some (.ref 8), some (.ref (1000000 + (k + 1))), some (.int (nI (zSlen.getD k 0)))] [] I L R) → (∀ i, eqF (gB I) t s k (zSlen.getD k 0) = false → zZ E m_X4_spells X Qs zShF 0 0 49 [some (.ref 8), some (.ref (1000000 + (k + 1))), some (.int (nI i))] [] I L R) → ∀ i, i ≤ zSlen.getD k 0 → eqF (gB I) t s k i = true → zZ E m_X4_spells X Qs zShF 0 0 20 [some (.ref 8), some (.ref (1000000 + (k + 1))), some (.int (nI i))] [] I L R := by
      intro Qs hx hy
      refine up_rec (fun i hi' ih he => ?_)
      refine z_iload_n d_X4_spells_20 rfl ?_
      refine z_aload_n d_X4_spells_21 rfl ?_
      refine z_cVsi d_X4_spells_22 q_X4_spells_145 hk ⟨rfl, rfl⟩ (ct_J0_length_8abf5 hk) rfl rfl rfl ⟨Nat.zero_le _, Nat.zero_le _⟩ ?_
      refine z_icmp_ge d_X4_spells_25 (fun h_25 => ?_) (fun h_25 => ?_)
      · obtain rfl := eq_of_ge (n := zSlen.getD k 0) (by omega) hi' h_25
        exact hx he
      · have hlt := lt_of_nge (n := zSlen.getD k 0) (by omega) h_25 (by omega)
        refine z_aload_n d_X4_spells_28 rfl ?_
        refine z_getR d_X4_spells_29 f_X4_26 (by first | rfl | assumption) (by omega) (by first | exact hR _ _ _ rfl | rfl | assumption) ?_
        refine z_aload_n d_X4_spells_32 rfl ?_
        refine z_getI d_X4_spells_33 f_X4_73 (by first | rfl | assumption) (by omega) ?_
        refine z_iload_n d_X4_spells_36 rfl ?_
        refine z_iadd d_X4_spells_37 ?_
        rw [h6, nI_add]
        refine z_cVi d_X4_spells_38 q_X4_spells_67 (by first | rfl | assumption) (by omega) ⟨rfl, rfl⟩ (ct_byte (t := t) (j := s + i) hR h1 ht (by omega)) rfl rfl rfl ⟨Nat.zero_le _, Nat.zero_le _⟩ ?_
        refine z_aload_n d_X4_spells_41 rfl ?_
        refine z_iload_n d_X4_spells_42 rfl ?_
        refine z_cVsi d_X4_spells_43 q_X4_spells_150 hk ⟨rfl, rfl⟩ (ct_J0_charAt_5068e hk hlt) rfl rfl rfl ⟨Nat.zero_le _, Nat.zero_le _⟩ ?_
        refine z_icmp_eq d_X4_spells_46 (fun h_46 => ?_) (fun h_46 => ?_)
        · refine z_iinc2 d_X4_spells_51 ki_1 rfl ?_
          refine z_goto d_X4_spells_54 ?_
          rw [nI_1]
          exact ih hlt (by show (eqF (gB I) t s k i && decide (btA (gB I) t (s + i) = zch k i)) = true; rw [he, decide_eq_true (show btA (gB I) t (s + i) = zch k i from h_46)]; rfl)
        · refine hy i ?_
          cases hz : eqF (gB I) t s k (zSlen.getD k 0) with
          | false => rfl
          | true =>
            have e2 : (eqF (gB I) t s k i && decide (btA (gB I) t (s + i) = zch k i)) = true := eqF_le (n := zSlen.getD k 0) (i := i + 1) hlt hz
            exact absurd (of_decide_eq_true (Bool.and_eq_true _ _ ▸ e2).2) h_46
    refine loop _ (fun hT => ?_) (fun i hF => ?_) 0 (Nat.zero_le _) rfl
    · refine z_iconst d_X4_spells_57 ki_1 ?_
      exact z_zreturn d_X4_spells_58 rfl rfl ⟨by unfold spB; rw [hT, decide_eq_true heq]; rfl, rfl, rfl, rfl, rfl⟩
    · refine z_iconst d_X4_spells_49 ki_0 ?_
      exact z_zreturn d_X4_spells_50 rfl rfl ⟨by unfold spB; rw [hF, Bool.and_false]; rfl, rfl, rfl, rfl, rfl⟩
  · have hne : spB (gB I) t s a k = false := by
      unfold spB
      rw [decide_eq_false (fun z => h_13 (congrArg nI z))]
      rfl
    refine z_iconst d_X4_spells_16 ki_0 ?_
    exact z_zreturn d_X4_spells_17 rfl rfl ⟨by rw [hne]; rfl, rfl, rfl, rfl, rfl⟩
def fdF (p : Nat → Bool) : Nat → Nat → Nat
  | 0, k => k
  | n + 1, k => if p k then k else fdF p n (k + 1)
def kd (g : Nat → Int32) (t s a : Nat) : Nat := fdF (spB g t s a) 10 0
theorem fdF_le (p : Nat → Bool) : ∀ n k, fdF p n k ≤ k + n
  | 0, k => Nat.le_refl _
  | n + 1, k => by
    unfold fdF
    by_cases h : p k = true
    · rw [if_pos h]; omega
    · rw [if_neg h]; have := fdF_le p n (k + 1); omega
theorem kd_le {g : Nat → Int32} {t s a : Nat} : kd g t s a ≤ 10 := fdF_le _ 10 0
def kdX (k : Nat) : Int32 := if k < 10 then nI k else -1
set_option maxRecDepth 100000 in
set_option maxHeartbeats 4000000 in
theorem ct_kH0 {E : zE} {I : zI} {L : zL} {R : zR} (hR : zLx R) (h5 : ¬ I 8 5 = 2) : zCf E m_X4_kindHere zShF [.ref 8] I L R (some (.int (-1))) (I) (L) (R) := by
  refine z_met (by decide) [some (.ref 8), none] rfl rfl (Nat.le_of_ble_eq_true rfl) (fun X => ?_)
  refine z_aload_n d_X4_kindHere_0 rfl ?_
  refine z_getI d_X4_kindHere_1 f_X4_40 (by first | rfl | assumption) (by omega) ?_
  refine z_iconst d_X4_kindHere_4 ki_2 ?_
  refine z_icmp_eq d_X4_kindHere_5 (fun h_5 => absurd h_5 h5) (fun h_5 => ?_)
  refine z_iconst d_X4_kindHere_8 ki_m1 ?_
  exact z_ireturn d_X4_kindHere_9 rfl ⟨rfl, rfl, rfl, rfl, rfl⟩
set_option maxRecDepth 100000 in
set_option maxHeartbeats 4000000 in
theorem ct_kH1 {E : zE} {I : zI} {L : zL} {R : zR} {t s a : Nat} (hR : zLx R) (h5 : I 8 5 = 2) (h1 : I 1 1 = nI t) (ht : t ≤ 400) (h4 : I 8 4 = nI a) (h6 : I 8 6 = nI s) (hsa : s ≤ a) (hat : a ≤ t) : zCf E m_X4_kindHere zShF [.ref 8] I L R (some (.int (kdX (kd (gB I) t s a)))) (I) (L) (R) := by
  refine z_met (by decide) [some (.ref 8), none] rfl rfl (Nat.le_of_ble_eq_true rfl) (fun X => ?_)
  refine z_aload_n d_X4_kindHere_0 rfl ?_
  refine z_getI d_X4_kindHere_1 f_X4_40 (by first | rfl | assumption) (by omega) ?_
  refine z_iconst d_X4_kindHere_4 ki_2 ?_
  refine z_icmp_eq d_X4_kindHere_5 (fun h_5 => ?_) (fun h_5 => absurd h5 h_5)
  refine z_iconst d_X4_kindHere_10 ki_0 ?_
  refine z_istore1 d_X4_kindHere_11 rfl ?_
  have loop : ∀ (Qs : State → Prop), (kd (gB I) t s a = 10 → zZ E m_X4_kindHere X Qs zShF 0 0 37 [some (.ref 8), some (.int (nI 10))] [] I L R) → (∀ k, k < 10 → kd (gB I) t s a = k → zZ E m_X4_kindHere X Qs zShF 0 0 29 [some (.ref 8), some (.int (nI k))] [] I L R) → ∀ k, k ≤ 10 → fdF (spB (gB I) t s a) (10 - k) k = kd (gB I) t s a → zZ E m_X4_kindHere X Qs zShF 0 0 12 [some (.ref 8), some (.int (nI k))] [] I L R := by
    intro Qs hx hy
    refine up_rec (fun k hi' ih he => ?_)
    refine z_iload_n d_X4_kindHere_12 rfl ?_
    refine z_bipush d_X4_kindHere_13 kb_10 ?_
    refine z_icmp_ge d_X4_kindHere_15 (fun h_15 => ?_) (fun h_15 => ?_)
    · obtain rfl := eq_of_ge (n := 10) (by decide) hi' h_15
      exact hx he.symm
    · have hlt := lt_of_nge (n := 10) (by decide) h_15 (by omega)
      have e0 : fdF (spB (gB I) t s a) (10 - k) k = if spB (gB I) t s a k then k else fdF (spB (gB I) t s a) (10 - (k + 1)) (k + 1) := by rw [show 10 - k = 10 - (k + 1) + 1 by omega]; rfl
      refine z_aload_n d_X4_kindHere_18 rfl ?_
      refine z_iload_n d_X4_kindHere_19 rfl ?_
      refine z_cSr d_X4_kindHere_20 q_X4_kindHere_119 ⟨rfl, rfl⟩ (ct_X4_nameOf) rfl rfl rfl ⟨Nat.zero_le _, Nat.zero_le _⟩ ?_
      rw [nmX_n k hlt]
      refine z_cVi d_X4_kindHere_23 q_X4_kindHere_123 (by first | rfl | assumption) (by omega) ⟨rfl, rfl⟩ (ct_X4_spells hR h1 ht h4 h6 hsa hat hlt) rfl rfl rfl ⟨Nat.zero_le _, Nat.zero_le _⟩ ?_
      refine z_if_eq d_X4_kindHere_26 (fun h_26 => ?_) (fun h_26 => ?_)
      · have hs : spB (gB I) t s a k = false := by
          cases q : spB (gB I) t s a k with
          | false => rfl
          | true => rw [q] at h_26; exact absurd h_26 (by decide)
        refine z_iinc1 d_X4_kindHere_31 ki_1 rfl ?_
        refine z_goto d_X4_kindHere_34 ?_
        rw [nI_1]
        refine ih hlt ?_
        rw [← he, e0, hs, if_neg (by decide)]
      · have hs : spB (gB I) t s a k = true := by
          cases q : spB (gB I) t s a k with
          | true => rfl
          | false => rw [q] at h_26; exact absurd rfl h_26
        rw [hs, if_pos rfl, he] at e0
        exact hy k hlt e0
  refine loop _ (fun hT => ?_) (fun k hk hF => ?_) 0 (Nat.zero_le _) rfl
  · refine z_iconst d_X4_kindHere_37 ki_m1 ?_
    exact z_ireturn d_X4_kindHere_38 rfl ⟨by rw [hT]; rfl, rfl, rfl, rfl, rfl⟩
  · refine z_iload_n d_X4_kindHere_29 rfl ?_
    exact z_ireturn d_X4_kindHere_30 rfl ⟨by rw [hF]; unfold kdX; rw [if_pos hk], rfl, rfl, rfl, rfl⟩
