/-! STRINGS: links -/
def zCvs (md : zMD) (idx : Nat) (mdc : zMD) (n : Nat) : Prop := zCb md mdc n ∧ Cond.methodLink md.1.cls idx mdc.1 ∈ lw_g ∧ Cond.instanceMethod mdc.1 ∈ lw_g ∧ Cond.selects "java/lang/String" mdc.1 mdc.1 ∈ lw_g
set_option maxRecDepth 20000 in
theorem q_X4_spells_145 : zCvs m_X4_spells 145 m_J0_length_8abf5 0 := ⟨⟨cc_J0_length_8abf5.1, cc_J0_length_8abf5.2.1, cc_J0_length_8abf5.2.2.1, cc_J0_length_8abf5.2.2.2, ⟨by decide, by decide⟩⟩, in_g (up_2 (List.mem_of_getElem? (i := 126) rfl)) rfl, in_g (up_2 (List.mem_of_getElem? (i := 127) rfl)) rfl, in_g (up_2 (List.mem_of_getElem? (i := 128) rfl)) rfl⟩
set_option maxRecDepth 20000 in
theorem q_X4_spells_150 : zCvs m_X4_spells 150 m_J0_charAt_5068e 1 := ⟨⟨cc_J0_charAt_5068e.1, cc_J0_charAt_5068e.2.1, cc_J0_charAt_5068e.2.2.1, cc_J0_charAt_5068e.2.2.2, ⟨by decide, by decide⟩⟩, in_g (up_2 (List.mem_of_getElem? (i := 136) rfl)) rfl, in_g (up_2 (List.mem_of_getElem? (i := 137) rfl)) rfl, in_g (up_2 (List.mem_of_getElem? (i := 138) rfl)) rfl⟩
set_option maxRecDepth 20000 in
theorem q_J0_length_8abf5_335 : zCvs m_J0_length_8abf5 335 m_J0_coder_7d493 0 := ⟨⟨cc_J0_coder_7d493.1, cc_J0_coder_7d493.2.1, cc_J0_coder_7d493.2.2.1, cc_J0_coder_7d493.2.2.2, ⟨by decide, by decide⟩⟩, in_g (up_2 (List.mem_of_getElem? (i := 130) rfl)) rfl, in_g (up_2 (List.mem_of_getElem? (i := 131) rfl)) rfl, in_g (up_2 (List.mem_of_getElem? (i := 132) rfl)) rfl⟩
set_option maxRecDepth 20000 in
theorem q_J0_charAt_5068e_492 : zCvs m_J0_charAt_5068e 492 m_J0_isLatin1_aae02 0 := ⟨⟨cc_J0_isLatin1_aae02.1, cc_J0_isLatin1_aae02.2.1, cc_J0_isLatin1_aae02.2.2.1, cc_J0_isLatin1_aae02.2.2.2, ⟨by decide, by decide⟩⟩, in_g (up_2 (List.mem_of_getElem? (i := 140) rfl)) rfl, in_g (up_2 (List.mem_of_getElem? (i := 141) rfl)) rfl, in_g (up_2 (List.mem_of_getElem? (i := 142) rfl)) rfl⟩
set_option maxRecDepth 20000 in
theorem w_sv : Cond.fieldLink "java/lang/String" 9 "java/lang/String" "value" "[B" ∈ lw_g := in_g (up_6 (List.mem_of_getElem? (i := 102) rfl)) rfl
set_option maxRecDepth 20000 in
theorem w_sc : Cond.fieldLink "java/lang/String" 15 "java/lang/String" "coder" "B" ∈ lw_g := in_g (up_6 (List.mem_of_getElem? (i := 103) rfl)) rfl
set_option maxRecDepth 20000 in
theorem w_ss : Cond.fieldLink "java/lang/String" 38 "java/lang/String" "COMPACT_STRINGS" "Z" ∈ lw_g := in_g (up_2 (List.mem_of_getElem? (i := 134) rfl)) rfl
set_option maxRecDepth 20000 in
theorem w_sf : Cond.fieldLink "java/lang/String" 1053 "jdk/internal/util/Preconditions" "SIOOBE_FORMATTER" "Ljava/util/function/BiFunction;" ∈ lw_g := in_g (up_2 (List.mem_of_getElem? (i := 150) rfl)) rfl
