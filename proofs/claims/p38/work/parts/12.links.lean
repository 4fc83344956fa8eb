set_option maxRecDepth 20000 in
theorem q_X0_init_3 : Cond.methodLink m_X0_init.1.cls 3 objectInit ∈ lw_g := in_g (up_1 (List.mem_of_getElem? (i := 137) rfl)) rfl
set_option maxRecDepth 20000 in
theorem q_X0_takeFrom_24 : zAc m_X0_takeFrom 24 := in_g (up_3 (List.mem_of_getElem? (i := 104) rfl)) rfl
set_option maxRecDepth 20000 in
theorem q_X0_drainAll_40 : zCs m_X0_drainAll 40 m_J7_fill_53178 2 := ⟨⟨cc_J7_fill_53178.1, cc_J7_fill_53178.2.1, cc_J7_fill_53178.2.2.1, cc_J7_fill_53178.2.2.2, ⟨by decide, by decide⟩⟩, in_g (up_2 (List.mem_of_getElem? (i := 217) rfl)) rfl, in_g (up_1 (List.mem_of_getElem? (i := 52) rfl)) rfl⟩
set_option maxRecDepth 20000 in
theorem q_X0_fillFor_54 : zCv m_X0_fillFor 54 m_X0_bring 0 2 := ⟨⟨cc_X0_bring.1, cc_X0_bring.2.1, cc_X0_bring.2.2.1, cc_X0_bring.2.2.2, ⟨by decide, by decide⟩⟩, in_g (up_3 (List.mem_of_getElem? (i := 12) rfl)) rfl, in_g (up_3 (List.mem_of_getElem? (i := 14) rfl)) rfl, ⟨_, _, _, rfl, in_g (List.mem_append_left _ (List.mem_of_getElem? (l := k2_sels lw_privs) (i := 15) rfl)) rfl⟩⟩
set_option maxRecDepth 20000 in
theorem q_X0_fillFor_58 : zCv m_X0_fillFor 58 m_X0_runOver 0 1 := ⟨⟨cc_X0_runOver.1, cc_X0_runOver.2.1, cc_X0_runOver.2.2.1, cc_X0_runOver.2.2.2, ⟨by decide, by decide⟩⟩, in_g (up_3 (List.mem_of_getElem? (i := 16) rfl)) rfl, in_g (up_3 (List.mem_of_getElem? (i := 18) rfl)) rfl, ⟨_, _, _, rfl, in_g (List.mem_append_left _ (List.mem_of_getElem? (l := k2_sels lw_privs) (i := 16) rfl)) rfl⟩⟩
set_option maxRecDepth 20000 in
theorem q_X0_runOver_62 : zCv m_X0_runOver 62 m_X0_spread 0 3 := ⟨⟨cc_X0_spread.1, cc_X0_spread.2.1, cc_X0_spread.2.2.1, cc_X0_spread.2.2.2, ⟨by decide, by decide⟩⟩, in_g (up_3 (List.mem_of_getElem? (i := 20) rfl)) rfl, in_g (up_3 (List.mem_of_getElem? (i := 22) rfl)) rfl, ⟨_, _, _, rfl, in_g (List.mem_append_left _ (List.mem_of_getElem? (l := k2_sels lw_privs) (i := 17) rfl)) rfl⟩⟩
set_option maxRecDepth 20000 in
theorem q_X0_spread_66 : zCv m_X0_spread 66 m_X0_pourInto 0 3 := ⟨⟨cc_X0_pourInto.1, cc_X0_pourInto.2.1, cc_X0_pourInto.2.2.1, cc_X0_pourInto.2.2.2, ⟨by decide, by decide⟩⟩, in_g (up_3 (List.mem_of_getElem? (i := 24) rfl)) rfl, in_g (up_3 (List.mem_of_getElem? (i := 26) rfl)) rfl, ⟨_, _, _, rfl, in_g (List.mem_append_left _ (List.mem_of_getElem? (l := k2_sels lw_privs) (i := 18) rfl)) rfl⟩⟩
set_option maxRecDepth 20000 in
theorem q_X0_pourInto_69 : zCsn m_X0_pourInto 69 m_X7_isWell 1 "BucketSheet" := ⟨⟨cc_X7_isWell.1, cc_X7_isWell.2.1, cc_X7_isWell.2.2.1, cc_X7_isWell.2.2.2, ⟨by decide, by decide⟩⟩, List.mem_of_getElem? (i := 6) rfl, in_g (up_2 (List.mem_of_getElem? (i := 232) rfl)) rfl⟩
set_option maxRecDepth 20000 in
theorem q_X0_pourInto_73 : zMa m_X0_pourInto 73 Lib.Math.min.name Lib.Math.min.code 2 := ⟨in_g (up_3 (List.mem_of_getElem? (i := 29) rfl)) rfl, in_g (up_3 (List.mem_of_getElem? (i := 30) rfl)) rfl, in_g (up_1 (List.mem_of_getElem? (i := 16) rfl)) rfl, in_g (up_3 (List.mem_of_getElem? (i := 31) rfl)) rfl⟩
set_option maxRecDepth 20000 in
theorem q_X0_handDown_79 : zCv m_X0_handDown 79 m_X0_rowsDown 0 1 := ⟨⟨cc_X0_rowsDown.1, cc_X0_rowsDown.2.1, cc_X0_rowsDown.2.2.1, cc_X0_rowsDown.2.2.2, ⟨by decide, by decide⟩⟩, in_g (up_3 (List.mem_of_getElem? (i := 43) rfl)) rfl, in_g (up_3 (List.mem_of_getElem? (i := 45) rfl)) rfl, ⟨_, _, _, rfl, in_g (List.mem_append_left _ (List.mem_of_getElem? (l := k2_sels lw_privs) (i := 19) rfl)) rfl⟩⟩
set_option maxRecDepth 20000 in
theorem q_X0_handDown_83 : zCv m_X0_handDown 83 m_X0_trapAll 0 1 := ⟨⟨cc_X0_trapAll.1, cc_X0_trapAll.2.1, cc_X0_trapAll.2.2.1, cc_X0_trapAll.2.2.2, ⟨by decide, by decide⟩⟩, in_g (up_3 (List.mem_of_getElem? (i := 47) rfl)) rfl, in_g (up_3 (List.mem_of_getElem? (i := 49) rfl)) rfl, ⟨_, _, _, rfl, in_g (List.mem_append_left _ (List.mem_of_getElem? (l := k2_sels lw_privs) (i := 20) rfl)) rfl⟩⟩
set_option maxRecDepth 20000 in
theorem q_X0_handDown_54 : zCv m_X0_handDown 54 m_X0_bring 0 2 := ⟨⟨cc_X0_bring.1, cc_X0_bring.2.1, cc_X0_bring.2.2.1, cc_X0_bring.2.2.2, ⟨by decide, by decide⟩⟩, in_g (up_3 (List.mem_of_getElem? (i := 12) rfl)) rfl, in_g (up_3 (List.mem_of_getElem? (i := 14) rfl)) rfl, ⟨_, _, _, rfl, in_g (List.mem_append_left _ (List.mem_of_getElem? (l := k2_sels lw_privs) (i := 15) rfl)) rfl⟩⟩
set_option maxRecDepth 20000 in
theorem q_X0_handDown_58 : zCv m_X0_handDown 58 m_X0_runOver 0 1 := ⟨⟨cc_X0_runOver.1, cc_X0_runOver.2.1, cc_X0_runOver.2.2.1, cc_X0_runOver.2.2.2, ⟨by decide, by decide⟩⟩, in_g (up_3 (List.mem_of_getElem? (i := 16) rfl)) rfl, in_g (up_3 (List.mem_of_getElem? (i := 18) rfl)) rfl, ⟨_, _, _, rfl, in_g (List.mem_append_left _ (List.mem_of_getElem? (l := k2_sels lw_privs) (i := 16) rfl)) rfl⟩⟩
set_option maxRecDepth 20000 in
theorem q_X0_rowsDown_73 : zMa m_X0_rowsDown 73 Lib.Math.min.name Lib.Math.min.code 2 := ⟨in_g (up_3 (List.mem_of_getElem? (i := 29) rfl)) rfl, in_g (up_3 (List.mem_of_getElem? (i := 30) rfl)) rfl, in_g (up_1 (List.mem_of_getElem? (i := 16) rfl)) rfl, in_g (up_3 (List.mem_of_getElem? (i := 31) rfl)) rfl⟩
set_option maxRecDepth 20000 in
theorem q_X0_trapAll_73 : zMa m_X0_trapAll 73 Lib.Math.min.name Lib.Math.min.code 2 := ⟨in_g (up_3 (List.mem_of_getElem? (i := 29) rfl)) rfl, in_g (up_3 (List.mem_of_getElem? (i := 30) rfl)) rfl, in_g (up_1 (List.mem_of_getElem? (i := 16) rfl)) rfl, in_g (up_3 (List.mem_of_getElem? (i := 31) rfl)) rfl⟩
set_option maxRecDepth 20000 in
theorem q_X1_init_5 : Cond.methodLink m_X1_init.1.cls 5 objectInit ∈ lw_g := in_g (up_1 (List.mem_of_getElem? (i := 197) rfl)) rfl
set_option maxRecDepth 20000 in
theorem q_X1_bePhases_38 : zCv m_X1_bePhases 38 m_X1_listRegions 1 0 := ⟨⟨cc_X1_listRegions.1, cc_X1_listRegions.2.1, cc_X1_listRegions.2.2.1, cc_X1_listRegions.2.2.2, ⟨by decide, by decide⟩⟩, in_g (up_3 (List.mem_of_getElem? (i := 211) rfl)) rfl, in_g (up_3 (List.mem_of_getElem? (i := 213) rfl)) rfl, ⟨_, _, _, rfl, in_g (List.mem_append_left _ (List.mem_of_getElem? (l := k2_sels lw_privs) (i := 27) rfl)) rfl⟩⟩
set_option maxRecDepth 20000 in
theorem q_X1_bePhases_41 : zCv m_X1_bePhases 41 m_X1_listGoing 1 0 := ⟨⟨cc_X1_listGoing.1, cc_X1_listGoing.2.1, cc_X1_listGoing.2.2.1, cc_X1_listGoing.2.2.2, ⟨by decide, by decide⟩⟩, in_g (up_3 (List.mem_of_getElem? (i := 230) rfl)) rfl, in_g (up_3 (List.mem_of_getElem? (i := 232) rfl)) rfl, ⟨_, _, _, rfl, in_g (List.mem_append_left _ (List.mem_of_getElem? (l := k2_sels lw_privs) (i := 31) rfl)) rfl⟩⟩
set_option maxRecDepth 20000 in
theorem q_X1_isHigh_44 : zCs m_X1_isHigh 44 m_J9_floorMod_7cf53 2 := ⟨⟨cc_J9_floorMod_7cf53.1, cc_J9_floorMod_7cf53.2.1, cc_J9_floorMod_7cf53.2.2.1, cc_J9_floorMod_7cf53.2.2.2, ⟨by decide, by decide⟩⟩, in_g (up_3 (List.mem_of_getElem? (i := 227) rfl)) rfl, in_g (up_3 (List.mem_of_getElem? (i := 228) rfl)) rfl⟩
set_option maxRecDepth 20000 in
theorem q_X1_beginsAt_50 : zCv m_X1_beginsAt 50 m_X1_isHigh 1 2 := ⟨⟨cc_X1_isHigh.1, cc_X1_isHigh.2.1, cc_X1_isHigh.2.2.1, cc_X1_isHigh.2.2.2, ⟨by decide, by decide⟩⟩, in_g (up_3 (List.mem_of_getElem? (i := 223) rfl)) rfl, in_g (up_3 (List.mem_of_getElem? (i := 225) rfl)) rfl, ⟨_, _, _, rfl, in_g (List.mem_append_left _ (List.mem_of_getElem? (l := k2_sels lw_privs) (i := 30) rfl)) rfl⟩⟩
set_option maxRecDepth 20000 in
theorem q_X1_isGood_54 : zCv m_X1_isGood 54 m_X1_beginsAt 1 2 := ⟨⟨cc_X1_beginsAt.1, cc_X1_beginsAt.2.1, cc_X1_beginsAt.2.2.1, cc_X1_beginsAt.2.2.2, ⟨by decide, by decide⟩⟩, in_g (up_3 (List.mem_of_getElem? (i := 219) rfl)) rfl, in_g (up_3 (List.mem_of_getElem? (i := 221) rfl)) rfl, ⟨_, _, _, rfl, in_g (List.mem_append_left _ (List.mem_of_getElem? (l := k2_sels lw_privs) (i := 29) rfl)) rfl⟩⟩
set_option maxRecDepth 20000 in
theorem q_X1_startOf_54 : zCv m_X1_startOf 54 m_X1_beginsAt 1 2 := ⟨⟨cc_X1_beginsAt.1, cc_X1_beginsAt.2.1, cc_X1_beginsAt.2.2.1, cc_X1_beginsAt.2.2.2, ⟨by decide, by decide⟩⟩, in_g (up_3 (List.mem_of_getElem? (i := 219) rfl)) rfl, in_g (up_3 (List.mem_of_getElem? (i := 221) rfl)) rfl, ⟨_, _, _, rfl, in_g (List.mem_append_left _ (List.mem_of_getElem? (l := k2_sels lw_privs) (i := 29) rfl)) rfl⟩⟩
set_option maxRecDepth 20000 in
theorem q_X1_firstOfRegion_50 : zCv m_X1_firstOfRegion 50 m_X1_isHigh 1 2 := ⟨⟨cc_X1_isHigh.1, cc_X1_isHigh.2.1, cc_X1_isHigh.2.2.1, cc_X1_isHigh.2.2.2, ⟨by decide, by decide⟩⟩, in_g (up_3 (List.mem_of_getElem? (i := 223) rfl)) rfl, in_g (up_3 (List.mem_of_getElem? (i := 225) rfl)) rfl, ⟨_, _, _, rfl, in_g (List.mem_append_left _ (List.mem_of_getElem? (l := k2_sels lw_privs) (i := 30) rfl)) rfl⟩⟩
set_option maxRecDepth 20000 in
theorem q_X1_lastOfRegion_50 : zCv m_X1_lastOfRegion 50 m_X1_isHigh 1 2 := ⟨⟨cc_X1_isHigh.1, cc_X1_isHigh.2.1, cc_X1_isHigh.2.2.1, cc_X1_isHigh.2.2.2, ⟨by decide, by decide⟩⟩, in_g (up_3 (List.mem_of_getElem? (i := 223) rfl)) rfl, in_g (up_3 (List.mem_of_getElem? (i := 225) rfl)) rfl, ⟨_, _, _, rfl, in_g (List.mem_append_left _ (List.mem_of_getElem? (l := k2_sels lw_privs) (i := 30) rfl)) rfl⟩⟩
set_option maxRecDepth 20000 in
theorem q_X1_fare_57 : zCv m_X1_fare 57 m_X1_lastOfRegion 1 2 := ⟨⟨cc_X1_lastOfRegion.1, cc_X1_lastOfRegion.2.1, cc_X1_lastOfRegion.2.2.1, cc_X1_lastOfRegion.2.2.2, ⟨by decide, by decide⟩⟩, in_g (up_3 (List.mem_of_getElem? (i := 239) rfl)) rfl, in_g (up_4 (List.mem_of_getElem? (i := 1) rfl)) rfl, ⟨_, _, _, rfl, in_g (List.mem_append_left _ (List.mem_of_getElem? (l := k2_sels lw_privs) (i := 32) rfl)) rfl⟩⟩
set_option maxRecDepth 20000 in
theorem q_X1_fare_50 : zCv m_X1_fare 50 m_X1_isHigh 1 2 := ⟨⟨cc_X1_isHigh.1, cc_X1_isHigh.2.1, cc_X1_isHigh.2.2.1, cc_X1_isHigh.2.2.2, ⟨by decide, by decide⟩⟩, in_g (up_3 (List.mem_of_getElem? (i := 223) rfl)) rfl, in_g (up_3 (List.mem_of_getElem? (i := 225) rfl)) rfl, ⟨_, _, _, rfl, in_g (List.mem_append_left _ (List.mem_of_getElem? (l := k2_sels lw_privs) (i := 30) rfl)) rfl⟩⟩
set_option maxRecDepth 20000 in
theorem q_X1_fare_60 : zCv m_X1_fare 60 m_X1_allHigh 1 0 := ⟨⟨cc_X1_allHigh.1, cc_X1_allHigh.2.1, cc_X1_allHigh.2.2.1, cc_X1_allHigh.2.2.2, ⟨by decide, by decide⟩⟩, in_g (up_3 (List.mem_of_getElem? (i := 215) rfl)) rfl, in_g (up_3 (List.mem_of_getElem? (i := 217) rfl)) rfl, ⟨_, _, _, rfl, in_g (List.mem_append_left _ (List.mem_of_getElem? (l := k2_sels lw_privs) (i := 28) rfl)) rfl⟩⟩
set_option maxRecDepth 20000 in
theorem q_X1_fare_64 : zCv m_X1_fare 64 m_X1_firstOfRegion 1 2 := ⟨⟨cc_X1_firstOfRegion.1, cc_X1_firstOfRegion.2.1, cc_X1_firstOfRegion.2.2.1, cc_X1_firstOfRegion.2.2.2, ⟨by decide, by decide⟩⟩, in_g (up_4 (List.mem_of_getElem? (i := 3) rfl)) rfl, in_g (up_4 (List.mem_of_getElem? (i := 5) rfl)) rfl, ⟨_, _, _, rfl, in_g (List.mem_append_left _ (List.mem_of_getElem? (l := k2_sels lw_privs) (i := 33) rfl)) rfl⟩⟩
set_option maxRecDepth 20000 in
theorem q_X1_goRound_75 : zMa m_X1_goRound 75 Lib.Math.min.name Lib.Math.min.code 2 := ⟨in_g (up_4 (List.mem_of_getElem? (i := 22) rfl)) rfl, in_g (up_3 (List.mem_of_getElem? (i := 30) rfl)) rfl, in_g (up_1 (List.mem_of_getElem? (i := 16) rfl)) rfl, in_g (up_3 (List.mem_of_getElem? (i := 31) rfl)) rfl⟩
set_option maxRecDepth 20000 in
theorem q_X1_goRound_81 : zCv m_X1_goRound 81 m_X1_startOf 1 1 := ⟨⟨cc_X1_startOf.1, cc_X1_startOf.2.1, cc_X1_startOf.2.2.1, cc_X1_startOf.2.2.2, ⟨by decide, by decide⟩⟩, in_g (up_4 (List.mem_of_getElem? (i := 23) rfl)) rfl, in_g (up_4 (List.mem_of_getElem? (i := 24) rfl)) rfl, ⟨_, _, _, rfl, in_g (up_4 (List.mem_of_getElem? (i := 25) rfl)) rfl⟩⟩
set_option maxRecDepth 20000 in
theorem q_X1_goRound_88 : zCv m_X1_goRound 88 m_X1_fare 1 3 := ⟨⟨cc_X1_fare.1, cc_X1_fare.2.1, cc_X1_fare.2.2.1, cc_X1_fare.2.2.2, ⟨by decide, by decide⟩⟩, in_g (up_3 (List.mem_of_getElem? (i := 235) rfl)) rfl, in_g (up_3 (List.mem_of_getElem? (i := 236) rfl)) rfl, ⟨_, _, _, rfl, in_g (up_3 (List.mem_of_getElem? (i := 237) rfl)) rfl⟩⟩
set_option maxRecDepth 20000 in
theorem q_X1_goRound_95 : zCv m_X1_goRound 95 m_X1_wellsIn 1 1 := ⟨⟨cc_X1_wellsIn.1, cc_X1_wellsIn.2.1, cc_X1_wellsIn.2.2.1, cc_X1_wellsIn.2.2.2, ⟨by decide, by decide⟩⟩, in_g (up_4 (List.mem_of_getElem? (i := 7) rfl)) rfl, in_g (up_4 (List.mem_of_getElem? (i := 9) rfl)) rfl, ⟨_, _, _, rfl, in_g (List.mem_append_left _ (List.mem_of_getElem? (l := k2_sels lw_privs) (i := 34) rfl)) rfl⟩⟩
set_option maxRecDepth 20000 in
theorem q_X1_wellsIn_101 : zCs m_X1_wellsIn 101 m_J9_floorDiv_7cf53 2 := ⟨⟨cc_J9_floorDiv_7cf53.1, cc_J9_floorDiv_7cf53.2.1, cc_J9_floorDiv_7cf53.2.2.1, cc_J9_floorDiv_7cf53.2.2.2, ⟨by decide, by decide⟩⟩, in_g (up_4 (List.mem_of_getElem? (i := 11) rfl)) rfl, in_g (up_4 (List.mem_of_getElem? (i := 12) rfl)) rfl⟩
set_option maxRecDepth 20000 in
theorem q_X1_listRegions_60 : zCv m_X1_listRegions 60 m_X1_allHigh 1 0 := ⟨⟨cc_X1_allHigh.1, cc_X1_allHigh.2.1, cc_X1_allHigh.2.2.1, cc_X1_allHigh.2.2.2, ⟨by decide, by decide⟩⟩, in_g (up_3 (List.mem_of_getElem? (i := 215) rfl)) rfl, in_g (up_3 (List.mem_of_getElem? (i := 217) rfl)) rfl, ⟨_, _, _, rfl, in_g (List.mem_append_left _ (List.mem_of_getElem? (l := k2_sels lw_privs) (i := 28) rfl)) rfl⟩⟩
set_option maxRecDepth 20000 in
theorem q_X1_listRegions_54 : zCv m_X1_listRegions 54 m_X1_beginsAt 1 2 := ⟨⟨cc_X1_beginsAt.1, cc_X1_beginsAt.2.1, cc_X1_beginsAt.2.2.1, cc_X1_beginsAt.2.2.2, ⟨by decide, by decide⟩⟩, in_g (up_3 (List.mem_of_getElem? (i := 219) rfl)) rfl, in_g (up_3 (List.mem_of_getElem? (i := 221) rfl)) rfl, ⟨_, _, _, rfl, in_g (List.mem_append_left _ (List.mem_of_getElem? (l := k2_sels lw_privs) (i := 29) rfl)) rfl⟩⟩
set_option maxRecDepth 20000 in
theorem q_X1_listGoing_107 : zCs m_X1_listGoing 107 m_J7_fill_53178 2 := ⟨⟨cc_J7_fill_53178.1, cc_J7_fill_53178.2.1, cc_J7_fill_53178.2.2.1, cc_J7_fill_53178.2.2.2, ⟨by decide, by decide⟩⟩, in_g (up_3 (List.mem_of_getElem? (i := 234) rfl)) rfl, in_g (up_1 (List.mem_of_getElem? (i := 52) rfl)) rfl⟩
set_option maxRecDepth 20000 in
theorem q_X1_listGoing_60 : zCv m_X1_listGoing 60 m_X1_allHigh 1 0 := ⟨⟨cc_X1_allHigh.1, cc_X1_allHigh.2.1, cc_X1_allHigh.2.2.1, cc_X1_allHigh.2.2.2, ⟨by decide, by decide⟩⟩, in_g (up_3 (List.mem_of_getElem? (i := 215) rfl)) rfl, in_g (up_3 (List.mem_of_getElem? (i := 217) rfl)) rfl, ⟨_, _, _, rfl, in_g (List.mem_append_left _ (List.mem_of_getElem? (l := k2_sels lw_privs) (i := 28) rfl)) rfl⟩⟩
set_option maxRecDepth 20000 in
theorem q_X1_listGoing_88 : zCv m_X1_listGoing 88 m_X1_fare 1 3 := ⟨⟨cc_X1_fare.1, cc_X1_fare.2.1, cc_X1_fare.2.2.1, cc_X1_fare.2.2.2, ⟨by decide, by decide⟩⟩, in_g (up_3 (List.mem_of_getElem? (i := 235) rfl)) rfl, in_g (up_3 (List.mem_of_getElem? (i := 236) rfl)) rfl, ⟨_, _, _, rfl, in_g (up_3 (List.mem_of_getElem? (i := 237) rfl)) rfl⟩⟩
set_option maxRecDepth 20000 in
theorem q_X1_listGoing_95 : zCv m_X1_listGoing 95 m_X1_wellsIn 1 1 := ⟨⟨cc_X1_wellsIn.1, cc_X1_wellsIn.2.1, cc_X1_wellsIn.2.2.1, cc_X1_wellsIn.2.2.2, ⟨by decide, by decide⟩⟩, in_g (up_4 (List.mem_of_getElem? (i := 7) rfl)) rfl, in_g (up_4 (List.mem_of_getElem? (i := 9) rfl)) rfl, ⟨_, _, _, rfl, in_g (List.mem_append_left _ (List.mem_of_getElem? (l := k2_sels lw_privs) (i := 34) rfl)) rfl⟩⟩
set_option maxRecDepth 20000 in
theorem q_X1_waysRound_113 : zCv m_X1_waysRound 113 m_X1_isGood 1 1 := ⟨⟨cc_X1_isGood.1, cc_X1_isGood.2.1, cc_X1_isGood.2.2.1, cc_X1_isGood.2.2.2, ⟨by decide, by decide⟩⟩, in_g (up_4 (List.mem_of_getElem? (i := 41) rfl)) rfl, in_g (up_4 (List.mem_of_getElem? (i := 15) rfl)) rfl, ⟨_, _, _, rfl, in_g (up_4 (List.mem_of_getElem? (i := 16) rfl)) rfl⟩⟩
set_option maxRecDepth 20000 in
theorem q_X1_waysRound_81 : zCv m_X1_waysRound 81 m_X1_startOf 1 1 := ⟨⟨cc_X1_startOf.1, cc_X1_startOf.2.1, cc_X1_startOf.2.2.1, cc_X1_startOf.2.2.2, ⟨by decide, by decide⟩⟩, in_g (up_4 (List.mem_of_getElem? (i := 23) rfl)) rfl, in_g (up_4 (List.mem_of_getElem? (i := 24) rfl)) rfl, ⟨_, _, _, rfl, in_g (up_4 (List.mem_of_getElem? (i := 25) rfl)) rfl⟩⟩
set_option maxRecDepth 20000 in
theorem q_X1_waysRound_117 : zCs m_X1_waysRound 117 m_J7_fill_d0a16 2 := ⟨⟨cc_J7_fill_d0a16.1, cc_J7_fill_d0a16.2.1, cc_J7_fill_d0a16.2.2.1, cc_J7_fill_d0a16.2.2.2, ⟨by decide, by decide⟩⟩, in_g (up_4 (List.mem_of_getElem? (i := 42) rfl)) rfl, in_g (up_4 (List.mem_of_getElem? (i := 43) rfl)) rfl⟩
set_option maxRecDepth 20000 in
theorem q_X1_waysRound_120 : zCv m_X1_waysRound 120 m_X1_goOnByAWord 1 0 := ⟨⟨cc_X1_goOnByAWord.1, cc_X1_goOnByAWord.2.1, cc_X1_goOnByAWord.2.2.1, cc_X1_goOnByAWord.2.2.2, ⟨by decide, by decide⟩⟩, in_g (up_4 (List.mem_of_getElem? (i := 45) rfl)) rfl, in_g (up_4 (List.mem_of_getElem? (i := 47) rfl)) rfl, ⟨_, _, _, rfl, in_g (List.mem_append_left _ (List.mem_of_getElem? (l := k2_sels lw_privs) (i := 35) rfl)) rfl⟩⟩
set_option maxRecDepth 20000 in
theorem q_X1_goOnByAWord_117 : zCs m_X1_goOnByAWord 117 m_J7_fill_d0a16 2 := ⟨⟨cc_J7_fill_d0a16.1, cc_J7_fill_d0a16.2.1, cc_J7_fill_d0a16.2.2.1, cc_J7_fill_d0a16.2.2.2, ⟨by decide, by decide⟩⟩, in_g (up_4 (List.mem_of_getElem? (i := 42) rfl)) rfl, in_g (up_4 (List.mem_of_getElem? (i := 43) rfl)) rfl⟩
set_option maxRecDepth 20000 in
theorem q_X1_goOnByAWord_60 : zCv m_X1_goOnByAWord 60 m_X1_allHigh 1 0 := ⟨⟨cc_X1_allHigh.1, cc_X1_allHigh.2.1, cc_X1_allHigh.2.2.1, cc_X1_allHigh.2.2.2, ⟨by decide, by decide⟩⟩, in_g (up_3 (List.mem_of_getElem? (i := 215) rfl)) rfl, in_g (up_3 (List.mem_of_getElem? (i := 217) rfl)) rfl, ⟨_, _, _, rfl, in_g (List.mem_append_left _ (List.mem_of_getElem? (l := k2_sels lw_privs) (i := 28) rfl)) rfl⟩⟩
set_option maxRecDepth 20000 in
theorem q_X1_goOnByAWord_123 : zCv m_X1_goOnByAWord 123 m_X1_addWays 1 3 := ⟨⟨cc_X1_addWays.1, cc_X1_addWays.2.1, cc_X1_addWays.2.2.1, cc_X1_addWays.2.2.2, ⟨by decide, by decide⟩⟩, in_g (up_4 (List.mem_of_getElem? (i := 49) rfl)) rfl, in_g (up_4 (List.mem_of_getElem? (i := 51) rfl)) rfl, ⟨_, _, _, rfl, in_g (List.mem_append_left _ (List.mem_of_getElem? (l := k2_sels lw_privs) (i := 36) rfl)) rfl⟩⟩
set_option maxRecDepth 20000 in
theorem q_X1_addWays_127 : zMa m_X1_addWays 127 Lib.Math.max.name Lib.Math.max.code 2 := ⟨in_g (up_4 (List.mem_of_getElem? (i := 53) rfl)) rfl, in_g (up_3 (List.mem_of_getElem? (i := 63) rfl)) rfl, in_g (up_1 (List.mem_of_getElem? (i := 16) rfl)) rfl, in_g (up_3 (List.mem_of_getElem? (i := 64) rfl)) rfl⟩
set_option maxRecDepth 20000 in
theorem q_X2_init_3 : Cond.methodLink m_X2_init.1.cls 3 objectInit ∈ lw_g := in_g (up_1 (List.mem_of_getElem? (i := 174) rfl)) rfl
set_option maxRecDepth 20000 in
theorem q_X2_init_11 : zCin m_X2_init 11 m_X0_init 0 "BucketSheet" := ⟨⟨cc_X0_init.1, cc_X0_init.2.1, cc_X0_init.2.2.1, cc_X0_init.2.2.2, ⟨by decide, by decide⟩⟩, List.mem_of_getElem? (i := 3) rfl, in_g (up_1 (List.mem_of_getElem? (i := 135) rfl)) rfl, rfl, rfl⟩
set_option maxRecDepth 20000 in
theorem q_X2_make_22 : zCv m_X2_make 22 m_X0_takeFrom 0 1 := ⟨⟨cc_X0_takeFrom.1, cc_X0_takeFrom.2.1, cc_X0_takeFrom.2.2.1, cc_X0_takeFrom.2.2.2, ⟨by decide, by decide⟩⟩, in_g (up_3 (List.mem_of_getElem? (i := 100) rfl)) rfl, in_g (up_3 (List.mem_of_getElem? (i := 101) rfl)) rfl, ⟨_, _, _, rfl, in_g (up_3 (List.mem_of_getElem? (i := 102) rfl)) rfl⟩⟩
set_option maxRecDepth 20000 in
theorem q_X2_make_29 : zCs m_X2_make 29 m_J7_fill_53178 2 := ⟨⟨cc_J7_fill_53178.1, cc_J7_fill_53178.2.1, cc_J7_fill_53178.2.2.1, cc_J7_fill_53178.2.2.2, ⟨by decide, by decide⟩⟩, in_g (up_3 (List.mem_of_getElem? (i := 105) rfl)) rfl, in_g (up_1 (List.mem_of_getElem? (i := 52) rfl)) rfl⟩
set_option maxRecDepth 20000 in
theorem q_X2_make_35 : zCsn m_X2_make 35 m_X7_binsOf 2 "BucketSheet" := ⟨⟨cc_X7_binsOf.1, cc_X7_binsOf.2.1, cc_X7_binsOf.2.2.1, cc_X7_binsOf.2.2.2, ⟨by decide, by decide⟩⟩, List.mem_of_getElem? (i := 7) rfl, in_g (up_3 (List.mem_of_getElem? (i := 94) rfl)) rfl⟩
set_option maxRecDepth 20000 in
theorem q_X2_make_39 : zMa m_X2_make 39 Lib.Math.min.name Lib.Math.min.code 2 := ⟨in_g (up_3 (List.mem_of_getElem? (i := 107) rfl)) rfl, in_g (up_3 (List.mem_of_getElem? (i := 30) rfl)) rfl, in_g (up_1 (List.mem_of_getElem? (i := 16) rfl)) rfl, in_g (up_3 (List.mem_of_getElem? (i := 31) rfl)) rfl⟩
set_option maxRecDepth 20000 in
theorem q_X2_make_51 : zCv m_X2_make 51 m_X0_handDown 0 2 := ⟨⟨cc_X0_handDown.1, cc_X0_handDown.2.1, cc_X0_handDown.2.2.1, cc_X0_handDown.2.2.2, ⟨by decide, by decide⟩⟩, in_g (up_3 (List.mem_of_getElem? (i := 108) rfl)) rfl, in_g (up_3 (List.mem_of_getElem? (i := 40) rfl)) rfl, ⟨_, _, _, rfl, in_g (up_3 (List.mem_of_getElem? (i := 41) rfl)) rfl⟩⟩
set_option maxRecDepth 20000 in
theorem q_X2_make_55 : zCv m_X2_make 55 m_X2_readRowOf 2 3 := ⟨⟨cc_X2_readRowOf.1, cc_X2_readRowOf.2.1, cc_X2_readRowOf.2.2.1, cc_X2_readRowOf.2.2.2, ⟨by decide, by decide⟩⟩, in_g (up_3 (List.mem_of_getElem? (i := 109) rfl)) rfl, in_g (up_3 (List.mem_of_getElem? (i := 111) rfl)) rfl, ⟨_, _, _, rfl, in_g (List.mem_append_left _ (List.mem_of_getElem? (l := k2_sels lw_privs) (i := 22) rfl)) rfl⟩⟩
set_option maxRecDepth 20000 in
theorem q_X2_readRowOf_59 : zCv m_X2_readRowOf 59 m_X0_readOne 0 0 := ⟨⟨cc_X0_readOne.1, cc_X0_readOne.2.1, cc_X0_readOne.2.2.1, cc_X0_readOne.2.2.2, ⟨by decide, by decide⟩⟩, in_g (up_3 (List.mem_of_getElem? (i := 113) rfl)) rfl, in_g (up_3 (List.mem_of_getElem? (i := 56) rfl)) rfl, ⟨_, _, _, rfl, in_g (up_3 (List.mem_of_getElem? (i := 57) rfl)) rfl⟩⟩
set_option maxRecDepth 20000 in
theorem q_X2_readRowOf_63 : zCsn m_X2_readRowOf 63 m_X7_valueOf 2 "BucketSheet" := ⟨⟨cc_X7_valueOf.1, cc_X7_valueOf.2.1, cc_X7_valueOf.2.2.1, cc_X7_valueOf.2.2.2, ⟨by decide, by decide⟩⟩, List.mem_of_getElem? (i := 8) rfl, in_g (up_3 (List.mem_of_getElem? (i := 60) rfl)) rfl⟩
set_option maxRecDepth 20000 in
theorem q_X2_greatest_67 : zCv m_X2_greatest 67 m_X2_valueIn 2 1 := ⟨⟨cc_X2_valueIn.1, cc_X2_valueIn.2.1, cc_X2_valueIn.2.2.1, cc_X2_valueIn.2.2.2, ⟨by decide, by decide⟩⟩, in_g (up_3 (List.mem_of_getElem? (i := 123) rfl)) rfl, in_g (up_3 (List.mem_of_getElem? (i := 125) rfl)) rfl, ⟨_, _, _, rfl, in_g (List.mem_append_left _ (List.mem_of_getElem? (l := k2_sels lw_privs) (i := 23) rfl)) rfl⟩⟩
set_option maxRecDepth 20000 in
theorem q_X2_greatest_71 : zMa m_X2_greatest 71 Lib.Math.max.name Lib.Math.max.code 2 := ⟨in_g (up_3 (List.mem_of_getElem? (i := 127) rfl)) rfl, in_g (up_3 (List.mem_of_getElem? (i := 63) rfl)) rfl, in_g (up_1 (List.mem_of_getElem? (i := 16) rfl)) rfl, in_g (up_3 (List.mem_of_getElem? (i := 64) rfl)) rfl⟩
set_option maxRecDepth 20000 in
theorem q_X2_least_67 : zCv m_X2_least 67 m_X2_valueIn 2 1 := ⟨⟨cc_X2_valueIn.1, cc_X2_valueIn.2.1, cc_X2_valueIn.2.2.1, cc_X2_valueIn.2.2.2, ⟨by decide, by decide⟩⟩, in_g (up_3 (List.mem_of_getElem? (i := 123) rfl)) rfl, in_g (up_3 (List.mem_of_getElem? (i := 125) rfl)) rfl, ⟨_, _, _, rfl, in_g (List.mem_append_left _ (List.mem_of_getElem? (l := k2_sels lw_privs) (i := 23) rfl)) rfl⟩⟩
set_option maxRecDepth 20000 in
theorem q_X2_least_39 : zMa m_X2_least 39 Lib.Math.min.name Lib.Math.min.code 2 := ⟨in_g (up_3 (List.mem_of_getElem? (i := 107) rfl)) rfl, in_g (up_3 (List.mem_of_getElem? (i := 30) rfl)) rfl, in_g (up_1 (List.mem_of_getElem? (i := 16) rfl)) rfl, in_g (up_3 (List.mem_of_getElem? (i := 31) rfl)) rfl⟩
set_option maxRecDepth 20000 in
theorem q_X2_summed_67 : zCv m_X2_summed 67 m_X2_valueIn 2 1 := ⟨⟨cc_X2_valueIn.1, cc_X2_valueIn.2.1, cc_X2_valueIn.2.2.1, cc_X2_valueIn.2.2.2, ⟨by decide, by decide⟩⟩, in_g (up_3 (List.mem_of_getElem? (i := 123) rfl)) rfl, in_g (up_3 (List.mem_of_getElem? (i := 125) rfl)) rfl, ⟨_, _, _, rfl, in_g (List.mem_append_left _ (List.mem_of_getElem? (l := k2_sels lw_privs) (i := 23) rfl)) rfl⟩⟩
set_option maxRecDepth 20000 in
theorem q_X2_brightest_67 : zCv m_X2_brightest 67 m_X2_valueIn 2 1 := ⟨⟨cc_X2_valueIn.1, cc_X2_valueIn.2.1, cc_X2_valueIn.2.2.1, cc_X2_valueIn.2.2.2, ⟨by decide, by decide⟩⟩, in_g (up_3 (List.mem_of_getElem? (i := 123) rfl)) rfl, in_g (up_3 (List.mem_of_getElem? (i := 125) rfl)) rfl, ⟨_, _, _, rfl, in_g (List.mem_append_left _ (List.mem_of_getElem? (l := k2_sels lw_privs) (i := 23) rfl)) rfl⟩⟩
set_option maxRecDepth 20000 in
theorem q_X3_init_3 : Cond.methodLink m_X3_init.1.cls 3 objectInit ∈ lw_g := in_g (up_1 (List.mem_of_getElem? (i := 46) rfl)) rfl
set_option maxRecDepth 20000 in
theorem q_X3_init_24 : zCv m_X3_init 24 m_X3_beAsAtFirst 3 0 := ⟨⟨cc_X3_beAsAtFirst.1, cc_X3_beAsAtFirst.2.1, cc_X3_beAsAtFirst.2.2.1, cc_X3_beAsAtFirst.2.2.2, ⟨by decide, by decide⟩⟩, in_g (up_1 (List.mem_of_getElem? (i := 47) rfl)) rfl, in_g (up_1 (List.mem_of_getElem? (i := 48) rfl)) rfl, ⟨_, _, _, rfl, in_g (up_1 (List.mem_of_getElem? (i := 49) rfl)) rfl⟩⟩
set_option maxRecDepth 20000 in
theorem q_X3_beAsAtFirst_27 : zCs m_X3_beAsAtFirst 27 m_J7_fill_53178 2 := ⟨⟨cc_J7_fill_53178.1, cc_J7_fill_53178.2.1, cc_J7_fill_53178.2.2.1, cc_J7_fill_53178.2.2.2, ⟨by decide, by decide⟩⟩, in_g (up_1 (List.mem_of_getElem? (i := 51) rfl)) rfl, in_g (up_1 (List.mem_of_getElem? (i := 52) rfl)) rfl⟩
set_option maxRecDepth 20000 in
theorem q_X3_takeFrom_37 : zAc m_X3_takeFrom 37 := in_g (up_2 (List.mem_of_getElem? (i := 210) rfl)) rfl
set_option maxRecDepth 20000 in
theorem q_X4_init_3 : Cond.methodLink m_X4_init.1.cls 3 objectInit ∈ lw_g := in_g (up_1 (List.mem_of_getElem? (i := 91) rfl)) rfl
set_option maxRecDepth 20000 in
theorem q_X4_init_11 : zCi m_X4_init 11 m_X3_init 0 := ⟨⟨cc_X3_init.1, cc_X3_init.2.1, cc_X3_init.2.2.1, cc_X3_init.2.2.2, ⟨by decide, by decide⟩⟩, in_g (up_1 (List.mem_of_getElem? (i := 93) rfl)) rfl, in_g (up_1 (List.mem_of_getElem? (i := 44) rfl)) rfl, rfl, rfl⟩
set_option maxRecDepth 20000 in
theorem q_X4_readAll_30 : zCv m_X4_readAll 30 m_X4_begin 4 0 := ⟨⟨cc_X4_begin.1, cc_X4_begin.2.1, cc_X4_begin.2.2.1, cc_X4_begin.2.2.2, ⟨by decide, by decide⟩⟩, in_g (up_2 (List.mem_of_getElem? (i := 76) rfl)) rfl, in_g (up_2 (List.mem_of_getElem? (i := 78) rfl)) rfl, ⟨_, _, _, rfl, in_g (List.mem_append_left _ (List.mem_of_getElem? (l := k2_sels lw_privs) (i := 0) rfl)) rfl⟩⟩
set_option maxRecDepth 20000 in
theorem q_X4_readAll_33 : zCv m_X4_readAll 33 m_X4_fetch 4 0 := ⟨⟨cc_X4_fetch.1, cc_X4_fetch.2.1, cc_X4_fetch.2.2.1, cc_X4_fetch.2.2.2, ⟨by decide, by decide⟩⟩, in_g (up_2 (List.mem_of_getElem? (i := 82) rfl)) rfl, in_g (up_2 (List.mem_of_getElem? (i := 84) rfl)) rfl, ⟨_, _, _, rfl, in_g (List.mem_append_left _ (List.mem_of_getElem? (l := k2_sels lw_privs) (i := 1) rfl)) rfl⟩⟩
set_option maxRecDepth 20000 in
theorem q_X4_readAll_43 : zCv m_X4_readAll 43 m_X4_readLine 4 0 := ⟨⟨cc_X4_readLine.1, cc_X4_readLine.2.1, cc_X4_readLine.2.2.1, cc_X4_readLine.2.2.2, ⟨by decide, by decide⟩⟩, in_g (up_2 (List.mem_of_getElem? (i := 101) rfl)) rfl, in_g (up_2 (List.mem_of_getElem? (i := 103) rfl)) rfl, ⟨_, _, _, rfl, in_g (List.mem_append_left _ (List.mem_of_getElem? (l := k2_sels lw_privs) (i := 4) rfl)) rfl⟩⟩
set_option maxRecDepth 20000 in
theorem q_X4_readAll_46 : zCv m_X4_readAll 46 m_X4_lookAtWords 4 0 := ⟨⟨cc_X4_lookAtWords.1, cc_X4_lookAtWords.2.1, cc_X4_lookAtWords.2.2.1, cc_X4_lookAtWords.2.2.2, ⟨by decide, by decide⟩⟩, in_g (up_2 (List.mem_of_getElem? (i := 198) rfl)) rfl, in_g (up_2 (List.mem_of_getElem? (i := 200) rfl)) rfl, ⟨_, _, _, rfl, in_g (List.mem_append_left _ (List.mem_of_getElem? (l := k2_sels lw_privs) (i := 13) rfl)) rfl⟩⟩
set_option maxRecDepth 20000 in
theorem q_X4_begin_52 : zCv m_X4_begin 52 m_X3_beAsAtFirst 3 0 := ⟨⟨cc_X3_beAsAtFirst.1, cc_X3_beAsAtFirst.2.1, cc_X3_beAsAtFirst.2.2.1, cc_X3_beAsAtFirst.2.2.2, ⟨by decide, by decide⟩⟩, in_g (up_2 (List.mem_of_getElem? (i := 80) rfl)) rfl, in_g (up_1 (List.mem_of_getElem? (i := 48) rfl)) rfl, ⟨_, _, _, rfl, in_g (up_1 (List.mem_of_getElem? (i := 49) rfl)) rfl⟩⟩
set_option maxRecDepth 20000 in
theorem q_X4_begin_55 : zCs m_X4_begin 55 m_J7_fill_53178 2 := ⟨⟨cc_J7_fill_53178.1, cc_J7_fill_53178.2.1, cc_J7_fill_53178.2.2.1, cc_J7_fill_53178.2.2.2, ⟨by decide, by decide⟩⟩, in_g (up_2 (List.mem_of_getElem? (i := 81) rfl)) rfl, in_g (up_1 (List.mem_of_getElem? (i := 52) rfl)) rfl⟩
set_option maxRecDepth 20000 in
theorem q_X4_fetch_67 : zCv m_X4_fetch 67 m_X6_byteAt 6 1 := ⟨⟨cc_X6_byteAt.1, cc_X6_byteAt.2.1, cc_X6_byteAt.2.2.1, cc_X6_byteAt.2.2.2, ⟨by decide, by decide⟩⟩, in_g (up_2 (List.mem_of_getElem? (i := 86) rfl)) rfl, in_g (up_2 (List.mem_of_getElem? (i := 87) rfl)) rfl, ⟨_, _, _, rfl, in_g (up_2 (List.mem_of_getElem? (i := 88) rfl)) rfl⟩⟩
set_option maxRecDepth 20000 in
theorem q_X4_fetch_79 : zCs m_X4_fetch 79 m_X4_tokenOf 1 := ⟨⟨cc_X4_tokenOf.1, cc_X4_tokenOf.2.1, cc_X4_tokenOf.2.2.1, cc_X4_tokenOf.2.2.2, ⟨by decide, by decide⟩⟩, in_g (up_2 (List.mem_of_getElem? (i := 90) rfl)) rfl, in_g (up_2 (List.mem_of_getElem? (i := 91) rfl)) rfl⟩
set_option maxRecDepth 20000 in
theorem q_X4_fetch_82 : zCv m_X4_fetch 82 m_X4_takeAlike 4 0 := ⟨⟨cc_X4_takeAlike.1, cc_X4_takeAlike.2.1, cc_X4_takeAlike.2.2.1, cc_X4_takeAlike.2.2.2, ⟨by decide, by decide⟩⟩, in_g (up_2 (List.mem_of_getElem? (i := 93) rfl)) rfl, in_g (up_2 (List.mem_of_getElem? (i := 95) rfl)) rfl, ⟨_, _, _, rfl, in_g (List.mem_append_left _ (List.mem_of_getElem? (l := k2_sels lw_privs) (i := 2) rfl)) rfl⟩⟩
set_option maxRecDepth 20000 in
theorem q_X4_fetch_85 : zCv m_X4_fetch 85 m_X4_fail 4 2 := ⟨⟨cc_X4_fail.1, cc_X4_fail.2.1, cc_X4_fail.2.2.1, cc_X4_fail.2.2.2, ⟨by decide, by decide⟩⟩, in_g (up_2 (List.mem_of_getElem? (i := 97) rfl)) rfl, in_g (up_2 (List.mem_of_getElem? (i := 99) rfl)) rfl, ⟨_, _, _, rfl, in_g (List.mem_append_left _ (List.mem_of_getElem? (l := k2_sels lw_privs) (i := 3) rfl)) rfl⟩⟩
set_option maxRecDepth 20000 in
theorem q_X4_takeAlike_67 : zCv m_X4_takeAlike 67 m_X6_byteAt 6 1 := ⟨⟨cc_X6_byteAt.1, cc_X6_byteAt.2.1, cc_X6_byteAt.2.2.1, cc_X6_byteAt.2.2.2, ⟨by decide, by decide⟩⟩, in_g (up_2 (List.mem_of_getElem? (i := 86) rfl)) rfl, in_g (up_2 (List.mem_of_getElem? (i := 87) rfl)) rfl, ⟨_, _, _, rfl, in_g (up_2 (List.mem_of_getElem? (i := 88) rfl)) rfl⟩⟩
set_option maxRecDepth 20000 in
theorem q_X4_takeAlike_79 : zCs m_X4_takeAlike 79 m_X4_tokenOf 1 := ⟨⟨cc_X4_tokenOf.1, cc_X4_tokenOf.2.1, cc_X4_tokenOf.2.2.1, cc_X4_tokenOf.2.2.2, ⟨by decide, by decide⟩⟩, in_g (up_2 (List.mem_of_getElem? (i := 90) rfl)) rfl, in_g (up_2 (List.mem_of_getElem? (i := 91) rfl)) rfl⟩
set_option maxRecDepth 20000 in
theorem q_X4_readLine_89 : zCv m_X4_readLine 89 m_X4_kindHere 4 0 := ⟨⟨cc_X4_kindHere.1, cc_X4_kindHere.2.1, cc_X4_kindHere.2.2.1, cc_X4_kindHere.2.2.2, ⟨by decide, by decide⟩⟩, in_g (up_2 (List.mem_of_getElem? (i := 105) rfl)) rfl, in_g (up_2 (List.mem_of_getElem? (i := 107) rfl)) rfl, ⟨_, _, _, rfl, in_g (List.mem_append_left _ (List.mem_of_getElem? (l := k2_sels lw_privs) (i := 5) rfl)) rfl⟩⟩
set_option maxRecDepth 20000 in
theorem q_X4_readLine_93 : zCv m_X4_readLine 93 m_X4_mayBegin 4 1 := ⟨⟨cc_X4_mayBegin.1, cc_X4_mayBegin.2.1, cc_X4_mayBegin.2.2.1, cc_X4_mayBegin.2.2.2, ⟨by decide, by decide⟩⟩, in_g (up_2 (List.mem_of_getElem? (i := 174) rfl)) rfl, in_g (up_2 (List.mem_of_getElem? (i := 176) rfl)) rfl, ⟨_, _, _, rfl, in_g (List.mem_append_left _ (List.mem_of_getElem? (l := k2_sels lw_privs) (i := 7) rfl)) rfl⟩⟩
set_option maxRecDepth 20000 in
theorem q_X4_readLine_97 : zCv m_X4_readLine 97 m_X4_readRow 4 0 := ⟨⟨cc_X4_readRow.1, cc_X4_readRow.2.1, cc_X4_readRow.2.2.1, cc_X4_readRow.2.2.2, ⟨by decide, by decide⟩⟩, in_g (up_2 (List.mem_of_getElem? (i := 178) rfl)) rfl, in_g (up_2 (List.mem_of_getElem? (i := 180) rfl)) rfl, ⟨_, _, _, rfl, in_g (List.mem_append_left _ (List.mem_of_getElem? (l := k2_sels lw_privs) (i := 8) rfl)) rfl⟩⟩
set_option maxRecDepth 20000 in
theorem q_X4_readLine_103 : zCv m_X4_readLine 103 m_X4_readPart 4 2 := ⟨⟨cc_X4_readPart.1, cc_X4_readPart.2.1, cc_X4_readPart.2.2.1, cc_X4_readPart.2.2.2, ⟨by decide, by decide⟩⟩, in_g (up_2 (List.mem_of_getElem? (i := 190) rfl)) rfl, in_g (up_2 (List.mem_of_getElem? (i := 192) rfl)) rfl, ⟨_, _, _, rfl, in_g (List.mem_append_left _ (List.mem_of_getElem? (l := k2_sels lw_privs) (i := 11) rfl)) rfl⟩⟩
set_option maxRecDepth 20000 in
theorem q_X4_readLine_112 : zCv m_X4_readLine 112 m_X4_number 4 2 := ⟨⟨cc_X4_number.1, cc_X4_number.2.1, cc_X4_number.2.2.1, cc_X4_number.2.2.2, ⟨by decide, by decide⟩⟩, in_g (up_2 (List.mem_of_getElem? (i := 182) rfl)) rfl, in_g (up_2 (List.mem_of_getElem? (i := 184) rfl)) rfl, ⟨_, _, _, rfl, in_g (List.mem_append_left _ (List.mem_of_getElem? (l := k2_sels lw_privs) (i := 9) rfl)) rfl⟩⟩
set_option maxRecDepth 20000 in
theorem q_X4_readLine_116 : zCv m_X4_readLine 116 m_X4_readRound 4 0 := ⟨⟨cc_X4_readRound.1, cc_X4_readRound.2.1, cc_X4_readRound.2.2.1, cc_X4_readRound.2.2.2, ⟨by decide, by decide⟩⟩, in_g (up_2 (List.mem_of_getElem? (i := 194) rfl)) rfl, in_g (up_2 (List.mem_of_getElem? (i := 196) rfl)) rfl, ⟨_, _, _, rfl, in_g (List.mem_append_left _ (List.mem_of_getElem? (l := k2_sels lw_privs) (i := 12) rfl)) rfl⟩⟩
set_option maxRecDepth 20000 in
theorem q_X4_readLine_33 : zCv m_X4_readLine 33 m_X4_fetch 4 0 := ⟨⟨cc_X4_fetch.1, cc_X4_fetch.2.1, cc_X4_fetch.2.2.1, cc_X4_fetch.2.2.2, ⟨by decide, by decide⟩⟩, in_g (up_2 (List.mem_of_getElem? (i := 82) rfl)) rfl, in_g (up_2 (List.mem_of_getElem? (i := 84) rfl)) rfl, ⟨_, _, _, rfl, in_g (List.mem_append_left _ (List.mem_of_getElem? (l := k2_sels lw_privs) (i := 1) rfl)) rfl⟩⟩
set_option maxRecDepth 20000 in
theorem q_X4_readLine_85 : zCv m_X4_readLine 85 m_X4_fail 4 2 := ⟨⟨cc_X4_fail.1, cc_X4_fail.2.1, cc_X4_fail.2.2.1, cc_X4_fail.2.2.2, ⟨by decide, by decide⟩⟩, in_g (up_2 (List.mem_of_getElem? (i := 97) rfl)) rfl, in_g (up_2 (List.mem_of_getElem? (i := 99) rfl)) rfl, ⟨_, _, _, rfl, in_g (List.mem_append_left _ (List.mem_of_getElem? (l := k2_sels lw_privs) (i := 3) rfl)) rfl⟩⟩
set_option maxRecDepth 20000 in
theorem q_X4_mayBegin_85 : zCv m_X4_mayBegin 85 m_X4_fail 4 2 := ⟨⟨cc_X4_fail.1, cc_X4_fail.2.1, cc_X4_fail.2.2.1, cc_X4_fail.2.2.2, ⟨by decide, by decide⟩⟩, in_g (up_2 (List.mem_of_getElem? (i := 97) rfl)) rfl, in_g (up_2 (List.mem_of_getElem? (i := 99) rfl)) rfl, ⟨_, _, _, rfl, in_g (List.mem_append_left _ (List.mem_of_getElem? (l := k2_sels lw_privs) (i := 3) rfl)) rfl⟩⟩
set_option maxRecDepth 20000 in
theorem q_X4_kindHere_119 : zCs m_X4_kindHere 119 m_X4_nameOf 1 := ⟨⟨cc_X4_nameOf.1, cc_X4_nameOf.2.1, cc_X4_nameOf.2.2.1, cc_X4_nameOf.2.2.2, ⟨by decide, by decide⟩⟩, in_g (up_2 (List.mem_of_getElem? (i := 109) rfl)) rfl, in_g (up_2 (List.mem_of_getElem? (i := 110) rfl)) rfl⟩
set_option maxRecDepth 20000 in
theorem q_X4_kindHere_123 : zCv m_X4_kindHere 123 m_X4_spells 4 1 := ⟨⟨cc_X4_spells.1, cc_X4_spells.2.1, cc_X4_spells.2.2.1, cc_X4_spells.2.2.2, ⟨by decide, by decide⟩⟩, in_g (up_2 (List.mem_of_getElem? (i := 122) rfl)) rfl, in_g (up_2 (List.mem_of_getElem? (i := 124) rfl)) rfl, ⟨_, _, _, rfl, in_g (List.mem_append_left _ (List.mem_of_getElem? (l := k2_sels lw_privs) (i := 6) rfl)) rfl⟩⟩
set_option maxRecDepth 20000 in
theorem q_X4_spells_67 : zCv m_X4_spells 67 m_X6_byteAt 6 1 := ⟨⟨cc_X6_byteAt.1, cc_X6_byteAt.2.1, cc_X6_byteAt.2.2.1, cc_X6_byteAt.2.2.2, ⟨by decide, by decide⟩⟩, in_g (up_2 (List.mem_of_getElem? (i := 86) rfl)) rfl, in_g (up_2 (List.mem_of_getElem? (i := 87) rfl)) rfl, ⟨_, _, _, rfl, in_g (up_2 (List.mem_of_getElem? (i := 88) rfl)) rfl⟩⟩
set_option maxRecDepth 20000 in
theorem q_X4_readRow_112 : zCv m_X4_readRow 112 m_X4_number 4 2 := ⟨⟨cc_X4_number.1, cc_X4_number.2.1, cc_X4_number.2.2.1, cc_X4_number.2.2.2, ⟨by decide, by decide⟩⟩, in_g (up_2 (List.mem_of_getElem? (i := 182) rfl)) rfl, in_g (up_2 (List.mem_of_getElem? (i := 184) rfl)) rfl, ⟨_, _, _, rfl, in_g (List.mem_append_left _ (List.mem_of_getElem? (l := k2_sels lw_privs) (i := 9) rfl)) rfl⟩⟩
set_option maxRecDepth 20000 in
theorem q_X4_readPart_112 : zCv m_X4_readPart 112 m_X4_number 4 2 := ⟨⟨cc_X4_number.1, cc_X4_number.2.1, cc_X4_number.2.2.1, cc_X4_number.2.2.2, ⟨by decide, by decide⟩⟩, in_g (up_2 (List.mem_of_getElem? (i := 182) rfl)) rfl, in_g (up_2 (List.mem_of_getElem? (i := 184) rfl)) rfl, ⟨_, _, _, rfl, in_g (List.mem_append_left _ (List.mem_of_getElem? (l := k2_sels lw_privs) (i := 9) rfl)) rfl⟩⟩
set_option maxRecDepth 20000 in
theorem q_X4_readPart_85 : zCv m_X4_readPart 85 m_X4_fail 4 2 := ⟨⟨cc_X4_fail.1, cc_X4_fail.2.1, cc_X4_fail.2.2.1, cc_X4_fail.2.2.2, ⟨by decide, by decide⟩⟩, in_g (up_2 (List.mem_of_getElem? (i := 97) rfl)) rfl, in_g (up_2 (List.mem_of_getElem? (i := 99) rfl)) rfl, ⟨_, _, _, rfl, in_g (List.mem_append_left _ (List.mem_of_getElem? (l := k2_sels lw_privs) (i := 3) rfl)) rfl⟩⟩
set_option maxRecDepth 20000 in
theorem q_X4_readRound_33 : zCv m_X4_readRound 33 m_X4_fetch 4 0 := ⟨⟨cc_X4_fetch.1, cc_X4_fetch.2.1, cc_X4_fetch.2.2.1, cc_X4_fetch.2.2.2, ⟨by decide, by decide⟩⟩, in_g (up_2 (List.mem_of_getElem? (i := 82) rfl)) rfl, in_g (up_2 (List.mem_of_getElem? (i := 84) rfl)) rfl, ⟨_, _, _, rfl, in_g (List.mem_append_left _ (List.mem_of_getElem? (l := k2_sels lw_privs) (i := 1) rfl)) rfl⟩⟩
set_option maxRecDepth 20000 in
theorem q_X4_readRound_154 : zCv m_X4_readRound 154 m_X4_numberHere 4 2 := ⟨⟨cc_X4_numberHere.1, cc_X4_numberHere.2.1, cc_X4_numberHere.2.2.1, cc_X4_numberHere.2.2.2, ⟨by decide, by decide⟩⟩, in_g (up_2 (List.mem_of_getElem? (i := 186) rfl)) rfl, in_g (up_2 (List.mem_of_getElem? (i := 188) rfl)) rfl, ⟨_, _, _, rfl, in_g (List.mem_append_left _ (List.mem_of_getElem? (l := k2_sels lw_privs) (i := 10) rfl)) rfl⟩⟩
set_option maxRecDepth 20000 in
theorem q_X4_readRound_85 : zCv m_X4_readRound 85 m_X4_fail 4 2 := ⟨⟨cc_X4_fail.1, cc_X4_fail.2.1, cc_X4_fail.2.2.1, cc_X4_fail.2.2.2, ⟨by decide, by decide⟩⟩, in_g (up_2 (List.mem_of_getElem? (i := 97) rfl)) rfl, in_g (up_2 (List.mem_of_getElem? (i := 99) rfl)) rfl, ⟨_, _, _, rfl, in_g (List.mem_append_left _ (List.mem_of_getElem? (l := k2_sels lw_privs) (i := 3) rfl)) rfl⟩⟩
set_option maxRecDepth 20000 in
theorem q_X4_number_33 : zCv m_X4_number 33 m_X4_fetch 4 0 := ⟨⟨cc_X4_fetch.1, cc_X4_fetch.2.1, cc_X4_fetch.2.2.1, cc_X4_fetch.2.2.2, ⟨by decide, by decide⟩⟩, in_g (up_2 (List.mem_of_getElem? (i := 82) rfl)) rfl, in_g (up_2 (List.mem_of_getElem? (i := 84) rfl)) rfl, ⟨_, _, _, rfl, in_g (List.mem_append_left _ (List.mem_of_getElem? (l := k2_sels lw_privs) (i := 1) rfl)) rfl⟩⟩
set_option maxRecDepth 20000 in
theorem q_X4_number_154 : zCv m_X4_number 154 m_X4_numberHere 4 2 := ⟨⟨cc_X4_numberHere.1, cc_X4_numberHere.2.1, cc_X4_numberHere.2.2.1, cc_X4_numberHere.2.2.2, ⟨by decide, by decide⟩⟩, in_g (up_2 (List.mem_of_getElem? (i := 186) rfl)) rfl, in_g (up_2 (List.mem_of_getElem? (i := 188) rfl)) rfl, ⟨_, _, _, rfl, in_g (List.mem_append_left _ (List.mem_of_getElem? (l := k2_sels lw_privs) (i := 10) rfl)) rfl⟩⟩
set_option maxRecDepth 20000 in
theorem q_X4_numberHere_85 : zCv m_X4_numberHere 85 m_X4_fail 4 2 := ⟨⟨cc_X4_fail.1, cc_X4_fail.2.1, cc_X4_fail.2.2.1, cc_X4_fail.2.2.2, ⟨by decide, by decide⟩⟩, in_g (up_2 (List.mem_of_getElem? (i := 97) rfl)) rfl, in_g (up_2 (List.mem_of_getElem? (i := 99) rfl)) rfl, ⟨_, _, _, rfl, in_g (List.mem_append_left _ (List.mem_of_getElem? (l := k2_sels lw_privs) (i := 3) rfl)) rfl⟩⟩
set_option maxRecDepth 20000 in
theorem q_X4_lookAtWords_85 : zCv m_X4_lookAtWords 85 m_X4_fail 4 2 := ⟨⟨cc_X4_fail.1, cc_X4_fail.2.1, cc_X4_fail.2.2.1, cc_X4_fail.2.2.2, ⟨by decide, by decide⟩⟩, in_g (up_2 (List.mem_of_getElem? (i := 97) rfl)) rfl, in_g (up_2 (List.mem_of_getElem? (i := 99) rfl)) rfl, ⟨_, _, _, rfl, in_g (List.mem_append_left _ (List.mem_of_getElem? (l := k2_sels lw_privs) (i := 3) rfl)) rfl⟩⟩
set_option maxRecDepth 20000 in
theorem q_X5_init_3 : Cond.methodLink m_X5_init.1.cls 3 objectInit ∈ lw_g := in_g (up_2 (List.mem_of_getElem? (i := 8) rfl)) rfl
set_option maxRecDepth 20000 in
theorem q_X5_renew_19 : zCs m_X5_renew 19 m_J7_fill_53178 2 := ⟨⟨cc_J7_fill_53178.1, cc_J7_fill_53178.2.1, cc_J7_fill_53178.2.2.1, cc_J7_fill_53178.2.2.2, ⟨by decide, by decide⟩⟩, in_g (up_4 (List.mem_of_getElem? (i := 81) rfl)) rfl, in_g (up_1 (List.mem_of_getElem? (i := 52) rfl)) rfl⟩
set_option maxRecDepth 20000 in
theorem q_X5_pairFaultAt_28 : zCv m_X5_pairFaultAt 28 m_X5_faultAt 5 2 := ⟨⟨cc_X5_faultAt.1, cc_X5_faultAt.2.1, cc_X5_faultAt.2.2.1, cc_X5_faultAt.2.2.2, ⟨by decide, by decide⟩⟩, in_g (up_4 (List.mem_of_getElem? (i := 102) rfl)) rfl, in_g (up_4 (List.mem_of_getElem? (i := 87) rfl)) rfl, ⟨_, _, _, rfl, in_g (up_4 (List.mem_of_getElem? (i := 88) rfl)) rfl⟩⟩
set_option maxRecDepth 20000 in
theorem q_X6_init_3 : Cond.methodLink m_X6_init.1.cls 3 objectInit ∈ lw_g := in_g (up_1 (List.mem_of_getElem? (i := 30) rfl)) rfl
set_option maxRecDepth 20000 in
theorem q_X7_init_3 : Cond.methodLink m_X7_init.1.cls 3 objectInit ∈ lw_g := in_g (up_1 (List.mem_of_getElem? (i := 22) rfl)) rfl
set_option maxRecDepth 20000 in
theorem q_X7_init_11 : zCin m_X7_init 11 m_X6_init 0 "BucketSheet" := ⟨⟨cc_X6_init.1, cc_X6_init.2.1, cc_X6_init.2.2.1, cc_X6_init.2.2.2, ⟨by decide, by decide⟩⟩, List.mem_of_getElem? (i := 0) rfl, in_g (up_1 (List.mem_of_getElem? (i := 28) rfl)) rfl, rfl, rfl⟩
set_option maxRecDepth 20000 in
theorem q_X7_init_18 : zCi m_X7_init 18 m_X3_init 0 := ⟨⟨cc_X3_init.1, cc_X3_init.2.1, cc_X3_init.2.2.1, cc_X3_init.2.2.2, ⟨by decide, by decide⟩⟩, in_g (up_1 (List.mem_of_getElem? (i := 43) rfl)) rfl, in_g (up_1 (List.mem_of_getElem? (i := 44) rfl)) rfl, rfl, rfl⟩
set_option maxRecDepth 20000 in
theorem q_X7_init_25 : zCi m_X7_init 25 m_X4_init 1 := ⟨⟨cc_X4_init.1, cc_X4_init.2.1, cc_X4_init.2.2.1, cc_X4_init.2.2.2, ⟨by decide, by decide⟩⟩, in_g (up_1 (List.mem_of_getElem? (i := 88) rfl)) rfl, in_g (up_1 (List.mem_of_getElem? (i := 89) rfl)) rfl, rfl, rfl⟩
set_option maxRecDepth 20000 in
theorem q_X7_init_34 : zCin m_X7_init 34 m_X0_init 0 "BucketSheet" := ⟨⟨cc_X0_init.1, cc_X0_init.2.1, cc_X0_init.2.2.1, cc_X0_init.2.2.2, ⟨by decide, by decide⟩⟩, List.mem_of_getElem? (i := 1) rfl, in_g (up_1 (List.mem_of_getElem? (i := 135) rfl)) rfl, rfl, rfl⟩
set_option maxRecDepth 20000 in
theorem q_X7_init_49 : zCin m_X7_init 49 m_X2_init 0 "BucketSheet" := ⟨⟨cc_X2_init.1, cc_X2_init.2.1, cc_X2_init.2.2.1, cc_X2_init.2.2.2, ⟨by decide, by decide⟩⟩, List.mem_of_getElem? (i := 2) rfl, in_g (up_1 (List.mem_of_getElem? (i := 172) rfl)) rfl, rfl, rfl⟩
set_option maxRecDepth 20000 in
theorem q_X7_init_59 : zCin m_X7_init 59 m_X1_init 0 "BucketSheet" := ⟨⟨cc_X1_init.1, cc_X1_init.2.1, cc_X1_init.2.2.1, cc_X1_init.2.2.2, ⟨by decide, by decide⟩⟩, List.mem_of_getElem? (i := 4) rfl, in_g (up_1 (List.mem_of_getElem? (i := 195) rfl)) rfl, rfl, rfl⟩
set_option maxRecDepth 20000 in
theorem q_X7_init_70 : zCin m_X7_init 70 m_X5_init 0 "BucketSheet" := ⟨⟨cc_X5_init.1, cc_X5_init.2.1, cc_X5_init.2.2.1, cc_X5_init.2.2.2, ⟨by decide, by decide⟩⟩, List.mem_of_getElem? (i := 5) rfl, in_g (up_2 (List.mem_of_getElem? (i := 6) rfl)) rfl, rfl, rfl⟩
set_option maxRecDepth 20000 in
theorem q_X7_feed_71 : zCv m_X7_feed 71 m_X6_append 6 1 := ⟨⟨cc_X6_append.1, cc_X6_append.2.1, cc_X6_append.2.2.1, cc_X6_append.2.2.2, ⟨by decide, by decide⟩⟩, in_g (up_2 (List.mem_of_getElem? (i := 60) rfl)) rfl, in_g (up_2 (List.mem_of_getElem? (i := 61) rfl)) rfl, ⟨_, _, _, rfl, in_g (up_2 (List.mem_of_getElem? (i := 62) rfl)) rfl⟩⟩
set_option maxRecDepth 20000 in
theorem q_X7_text_79 : zCv m_X7_text 79 m_X4_readAll 4 0 := ⟨⟨cc_X4_readAll.1, cc_X4_readAll.2.1, cc_X4_readAll.2.2.1, cc_X4_readAll.2.2.2, ⟨by decide, by decide⟩⟩, in_g (up_2 (List.mem_of_getElem? (i := 72) rfl)) rfl, in_g (up_2 (List.mem_of_getElem? (i := 73) rfl)) rfl, ⟨_, _, _, rfl, in_g (up_2 (List.mem_of_getElem? (i := 74) rfl)) rfl⟩⟩
set_option maxRecDepth 20000 in
theorem q_X7_text_86 : zCv m_X7_text 86 m_X7_tellAll 7 0 := ⟨⟨cc_X7_tellAll.1, cc_X7_tellAll.2.1, cc_X7_tellAll.2.2.1, cc_X7_tellAll.2.2.2, ⟨by decide, by decide⟩⟩, in_g (up_2 (List.mem_of_getElem? (i := 202) rfl)) rfl, in_g (up_2 (List.mem_of_getElem? (i := 204) rfl)) rfl, ⟨_, _, _, rfl, in_g (List.mem_append_left _ (List.mem_of_getElem? (l := k2_sels lw_privs) (i := 14) rfl)) rfl⟩⟩
set_option maxRecDepth 20000 in
theorem q_X7_well_93 : zCs m_X7_well 93 m_X7_isWell 1 := ⟨⟨cc_X7_isWell.1, cc_X7_isWell.2.1, cc_X7_isWell.2.2.1, cc_X7_isWell.2.2.2, ⟨by decide, by decide⟩⟩, in_g (up_2 (List.mem_of_getElem? (i := 231) rfl)) rfl, in_g (up_2 (List.mem_of_getElem? (i := 232) rfl)) rfl⟩
set_option maxRecDepth 20000 in
theorem q_X7_light_112 : zCs m_X7_light 112 m_X7_isLighting 2 := ⟨⟨cc_X7_isLighting.1, cc_X7_isLighting.2.1, cc_X7_isLighting.2.2.1, cc_X7_isLighting.2.2.2, ⟨by decide, by decide⟩⟩, in_g (up_2 (List.mem_of_getElem? (i := 238) rfl)) rfl, in_g (up_2 (List.mem_of_getElem? (i := 239) rfl)) rfl⟩
set_option maxRecDepth 20000 in
theorem q_X7_expose_116 : zCs m_X7_expose 116 m_X7_isTicks 1 := ⟨⟨cc_X7_isTicks.1, cc_X7_isTicks.2.1, cc_X7_isTicks.2.2.1, cc_X7_isTicks.2.2.2, ⟨by decide, by decide⟩⟩, in_g (up_3 (List.mem_of_getElem? (i := 5) rfl)) rfl, in_g (up_3 (List.mem_of_getElem? (i := 6) rfl)) rfl⟩
set_option maxRecDepth 20000 in
theorem q_X7_expose_119 : zCv m_X7_expose 119 m_X0_fillFor 0 2 := ⟨⟨cc_X0_fillFor.1, cc_X0_fillFor.2.1, cc_X0_fillFor.2.2.1, cc_X0_fillFor.2.2.2, ⟨by decide, by decide⟩⟩, in_g (up_3 (List.mem_of_getElem? (i := 8) rfl)) rfl, in_g (up_3 (List.mem_of_getElem? (i := 9) rfl)) rfl, ⟨_, _, _, rfl, in_g (up_3 (List.mem_of_getElem? (i := 10) rfl)) rfl⟩⟩
set_option maxRecDepth 20000 in
theorem q_X7_expose_123 : zCs m_X7_expose 123 m_X7_sumOf 1 := ⟨⟨cc_X7_sumOf.1, cc_X7_sumOf.2.1, cc_X7_sumOf.2.2.1, cc_X7_sumOf.2.2.2, ⟨by decide, by decide⟩⟩, in_g (up_3 (List.mem_of_getElem? (i := 32) rfl)) rfl, in_g (up_3 (List.mem_of_getElem? (i := 33) rfl)) rfl⟩
set_option maxRecDepth 20000 in
theorem q_X7_down_127 : zCv m_X7_down 127 m_X0_handDown 0 2 := ⟨⟨cc_X0_handDown.1, cc_X0_handDown.2.1, cc_X0_handDown.2.2.1, cc_X0_handDown.2.2.2, ⟨by decide, by decide⟩⟩, in_g (up_3 (List.mem_of_getElem? (i := 39) rfl)) rfl, in_g (up_3 (List.mem_of_getElem? (i := 40) rfl)) rfl, ⟨_, _, _, rfl, in_g (up_3 (List.mem_of_getElem? (i := 41) rfl)) rfl⟩⟩
set_option maxRecDepth 20000 in
theorem q_X7_down_123 : zCs m_X7_down 123 m_X7_sumOf 1 := ⟨⟨cc_X7_sumOf.1, cc_X7_sumOf.2.1, cc_X7_sumOf.2.2.1, cc_X7_sumOf.2.2.2, ⟨by decide, by decide⟩⟩, in_g (up_3 (List.mem_of_getElem? (i := 32) rfl)) rfl, in_g (up_3 (List.mem_of_getElem? (i := 33) rfl)) rfl⟩
set_option maxRecDepth 20000 in
theorem q_X7_read_134 : zCv m_X7_read 134 m_X0_readOne 0 0 := ⟨⟨cc_X0_readOne.1, cc_X0_readOne.2.1, cc_X0_readOne.2.2.1, cc_X0_readOne.2.2.2, ⟨by decide, by decide⟩⟩, in_g (up_3 (List.mem_of_getElem? (i := 55) rfl)) rfl, in_g (up_3 (List.mem_of_getElem? (i := 56) rfl)) rfl, ⟨_, _, _, rfl, in_g (up_3 (List.mem_of_getElem? (i := 57) rfl)) rfl⟩⟩
set_option maxRecDepth 20000 in
theorem q_X7_read_137 : zCs m_X7_read 137 m_X7_valueOf 2 := ⟨⟨cc_X7_valueOf.1, cc_X7_valueOf.2.1, cc_X7_valueOf.2.2.1, cc_X7_valueOf.2.2.2, ⟨by decide, by decide⟩⟩, in_g (up_3 (List.mem_of_getElem? (i := 59) rfl)) rfl, in_g (up_3 (List.mem_of_getElem? (i := 60) rfl)) rfl⟩
set_option maxRecDepth 20000 in
theorem q_X7_line_141 : zCs m_X7_line 141 m_X7_isColumn 1 := ⟨⟨cc_X7_isColumn.1, cc_X7_isColumn.2.1, cc_X7_isColumn.2.2.1, cc_X7_isColumn.2.2.2, ⟨by decide, by decide⟩⟩, in_g (up_3 (List.mem_of_getElem? (i := 70) rfl)) rfl, in_g (up_3 (List.mem_of_getElem? (i := 71) rfl)) rfl⟩
set_option maxRecDepth 20000 in
theorem q_X7_now_123 : zCs m_X7_now 123 m_X7_sumOf 1 := ⟨⟨cc_X7_sumOf.1, cc_X7_sumOf.2.1, cc_X7_sumOf.2.2.1, cc_X7_sumOf.2.2.2, ⟨by decide, by decide⟩⟩, in_g (up_3 (List.mem_of_getElem? (i := 32) rfl)) rfl, in_g (up_3 (List.mem_of_getElem? (i := 33) rfl)) rfl⟩
set_option maxRecDepth 20000 in
theorem q_X7_now_151 : zCv m_X7_now 151 m_X7_fullWells 7 0 := ⟨⟨cc_X7_fullWells.1, cc_X7_fullWells.2.1, cc_X7_fullWells.2.2.1, cc_X7_fullWells.2.2.2, ⟨by decide, by decide⟩⟩, in_g (up_3 (List.mem_of_getElem? (i := 77) rfl)) rfl, in_g (up_3 (List.mem_of_getElem? (i := 79) rfl)) rfl, ⟨_, _, _, rfl, in_g (List.mem_append_left _ (List.mem_of_getElem? (l := k2_sels lw_privs) (i := 21) rfl)) rfl⟩⟩
set_option maxRecDepth 20000 in
theorem q_X7_clear_123 : zCs m_X7_clear 123 m_X7_sumOf 1 := ⟨⟨cc_X7_sumOf.1, cc_X7_sumOf.2.1, cc_X7_sumOf.2.2.1, cc_X7_sumOf.2.2.2, ⟨by decide, by decide⟩⟩, in_g (up_3 (List.mem_of_getElem? (i := 32) rfl)) rfl, in_g (up_3 (List.mem_of_getElem? (i := 33) rfl)) rfl⟩
set_option maxRecDepth 20000 in
theorem q_X7_clear_159 : zCv m_X7_clear 159 m_X0_drainAll 0 0 := ⟨⟨cc_X0_drainAll.1, cc_X0_drainAll.2.1, cc_X0_drainAll.2.2.1, cc_X0_drainAll.2.2.2, ⟨by decide, by decide⟩⟩, in_g (up_2 (List.mem_of_getElem? (i := 213) rfl)) rfl, in_g (up_2 (List.mem_of_getElem? (i := 214) rfl)) rfl, ⟨_, _, _, rfl, in_g (up_2 (List.mem_of_getElem? (i := 215) rfl)) rfl⟩⟩
set_option maxRecDepth 20000 in
theorem q_X7_picture_162 : zCs m_X7_picture 162 m_X7_isBin 1 := ⟨⟨cc_X7_isBin.1, cc_X7_isBin.2.1, cc_X7_isBin.2.2.1, cc_X7_isBin.2.2.2, ⟨by decide, by decide⟩⟩, in_g (up_3 (List.mem_of_getElem? (i := 90) rfl)) rfl, in_g (up_3 (List.mem_of_getElem? (i := 91) rfl)) rfl⟩
set_option maxRecDepth 20000 in
theorem q_X7_picture_165 : zCs m_X7_picture 165 m_X7_binsOf 2 := ⟨⟨cc_X7_binsOf.1, cc_X7_binsOf.2.1, cc_X7_binsOf.2.2.1, cc_X7_binsOf.2.2.2, ⟨by decide, by decide⟩⟩, in_g (up_3 (List.mem_of_getElem? (i := 93) rfl)) rfl, in_g (up_3 (List.mem_of_getElem? (i := 94) rfl)) rfl⟩
set_option maxRecDepth 20000 in
theorem q_X7_picture_169 : zCv m_X7_picture 169 m_X2_make 2 5 := ⟨⟨cc_X2_make.1, cc_X2_make.2.1, cc_X2_make.2.2.1, cc_X2_make.2.2.2, ⟨by decide, by decide⟩⟩, in_g (up_3 (List.mem_of_getElem? (i := 96) rfl)) rfl, in_g (up_3 (List.mem_of_getElem? (i := 97) rfl)) rfl, ⟨_, _, _, rfl, in_g (up_3 (List.mem_of_getElem? (i := 98) rfl)) rfl⟩⟩
set_option maxRecDepth 20000 in
theorem q_X7_shades_162 : zCs m_X7_shades 162 m_X7_isBin 1 := ⟨⟨cc_X7_isBin.1, cc_X7_isBin.2.1, cc_X7_isBin.2.2.1, cc_X7_isBin.2.2.2, ⟨by decide, by decide⟩⟩, in_g (up_3 (List.mem_of_getElem? (i := 90) rfl)) rfl, in_g (up_3 (List.mem_of_getElem? (i := 91) rfl)) rfl⟩
set_option maxRecDepth 20000 in
theorem q_X7_shades_169 : zCv m_X7_shades 169 m_X2_make 2 5 := ⟨⟨cc_X2_make.1, cc_X2_make.2.1, cc_X2_make.2.2.1, cc_X2_make.2.2.2, ⟨by decide, by decide⟩⟩, in_g (up_3 (List.mem_of_getElem? (i := 96) rfl)) rfl, in_g (up_3 (List.mem_of_getElem? (i := 97) rfl)) rfl, ⟨_, _, _, rfl, in_g (up_3 (List.mem_of_getElem? (i := 98) rfl)) rfl⟩⟩
set_option maxRecDepth 20000 in
theorem q_X7_shades_176 : zCv m_X7_shades 176 m_X2_greatest 2 0 := ⟨⟨cc_X2_greatest.1, cc_X2_greatest.2.1, cc_X2_greatest.2.2.1, cc_X2_greatest.2.2.2, ⟨by decide, by decide⟩⟩, in_g (up_3 (List.mem_of_getElem? (i := 119) rfl)) rfl, in_g (up_3 (List.mem_of_getElem? (i := 120) rfl)) rfl, ⟨_, _, _, rfl, in_g (up_3 (List.mem_of_getElem? (i := 121) rfl)) rfl⟩⟩
set_option maxRecDepth 20000 in
theorem q_X7_shades_179 : zCv m_X7_shades 179 m_X2_least 2 0 := ⟨⟨cc_X2_least.1, cc_X2_least.2.1, cc_X2_least.2.2.1, cc_X2_least.2.2.2, ⟨by decide, by decide⟩⟩, in_g (up_3 (List.mem_of_getElem? (i := 128) rfl)) rfl, in_g (up_3 (List.mem_of_getElem? (i := 129) rfl)) rfl, ⟨_, _, _, rfl, in_g (up_3 (List.mem_of_getElem? (i := 130) rfl)) rfl⟩⟩
set_option maxRecDepth 20000 in
theorem q_X7_shades_182 : zCv m_X7_shades 182 m_X2_summed 2 0 := ⟨⟨cc_X2_summed.1, cc_X2_summed.2.1, cc_X2_summed.2.2.1, cc_X2_summed.2.2.2, ⟨by decide, by decide⟩⟩, in_g (up_3 (List.mem_of_getElem? (i := 132) rfl)) rfl, in_g (up_3 (List.mem_of_getElem? (i := 133) rfl)) rfl, ⟨_, _, _, rfl, in_g (up_3 (List.mem_of_getElem? (i := 134) rfl)) rfl⟩⟩
set_option maxRecDepth 20000 in
theorem q_X7_shades_185 : zCv m_X7_shades 185 m_X2_brightest 2 0 := ⟨⟨cc_X2_brightest.1, cc_X2_brightest.2.1, cc_X2_brightest.2.2.1, cc_X2_brightest.2.2.2, ⟨by decide, by decide⟩⟩, in_g (up_3 (List.mem_of_getElem? (i := 136) rfl)) rfl, in_g (up_3 (List.mem_of_getElem? (i := 137) rfl)) rfl, ⟨_, _, _, rfl, in_g (up_3 (List.mem_of_getElem? (i := 138) rfl)) rfl⟩⟩
set_option maxRecDepth 20000 in
theorem q_X7_late_141 : zCs m_X7_late 141 m_X7_isColumn 1 := ⟨⟨cc_X7_isColumn.1, cc_X7_isColumn.2.1, cc_X7_isColumn.2.2.1, cc_X7_isColumn.2.2.2, ⟨by decide, by decide⟩⟩, in_g (up_3 (List.mem_of_getElem? (i := 70) rfl)) rfl, in_g (up_3 (List.mem_of_getElem? (i := 71) rfl)) rfl⟩
set_option maxRecDepth 20000 in
theorem q_X7_late_169 : zCv m_X7_late 169 m_X2_make 2 5 := ⟨⟨cc_X2_make.1, cc_X2_make.2.1, cc_X2_make.2.2.1, cc_X2_make.2.2.2, ⟨by decide, by decide⟩⟩, in_g (up_3 (List.mem_of_getElem? (i := 96) rfl)) rfl, in_g (up_3 (List.mem_of_getElem? (i := 97) rfl)) rfl, ⟨_, _, _, rfl, in_g (up_3 (List.mem_of_getElem? (i := 98) rfl)) rfl⟩⟩
set_option maxRecDepth 20000 in
theorem q_X7_late_127 : zCv m_X7_late 127 m_X0_handDown 0 2 := ⟨⟨cc_X0_handDown.1, cc_X0_handDown.2.1, cc_X0_handDown.2.2.1, cc_X0_handDown.2.2.2, ⟨by decide, by decide⟩⟩, in_g (up_3 (List.mem_of_getElem? (i := 39) rfl)) rfl, in_g (up_3 (List.mem_of_getElem? (i := 40) rfl)) rfl, ⟨_, _, _, rfl, in_g (up_3 (List.mem_of_getElem? (i := 41) rfl)) rfl⟩⟩
set_option maxRecDepth 20000 in
theorem q_X7_smear_93 : zCs m_X7_smear 93 m_X7_isWell 1 := ⟨⟨cc_X7_isWell.1, cc_X7_isWell.2.1, cc_X7_isWell.2.2.1, cc_X7_isWell.2.2.2, ⟨by decide, by decide⟩⟩, in_g (up_2 (List.mem_of_getElem? (i := 231) rfl)) rfl, in_g (up_2 (List.mem_of_getElem? (i := 232) rfl)) rfl⟩
set_option maxRecDepth 20000 in
theorem q_X7_spoiled_169 : zCv m_X7_spoiled 169 m_X2_make 2 5 := ⟨⟨cc_X2_make.1, cc_X2_make.2.1, cc_X2_make.2.2.1, cc_X2_make.2.2.2, ⟨by decide, by decide⟩⟩, in_g (up_3 (List.mem_of_getElem? (i := 96) rfl)) rfl, in_g (up_3 (List.mem_of_getElem? (i := 97) rfl)) rfl, ⟨_, _, _, rfl, in_g (up_3 (List.mem_of_getElem? (i := 98) rfl)) rfl⟩⟩
set_option maxRecDepth 20000 in
theorem q_X7_spoiled_191 : zMa m_X7_spoiled 191 Lib.Math.abs.name Lib.Math.abs.code 1 := ⟨in_g (up_3 (List.mem_of_getElem? (i := 152) rfl)) rfl, in_g (up_3 (List.mem_of_getElem? (i := 153) rfl)) rfl, in_g (up_1 (List.mem_of_getElem? (i := 16) rfl)) rfl, in_g (up_3 (List.mem_of_getElem? (i := 154) rfl)) rfl⟩
set_option maxRecDepth 20000 in
theorem q_X7_spoiled_197 : zMa m_X7_spoiled 197 Lib.Math.max.name Lib.Math.max.code 2 := ⟨in_g (up_3 (List.mem_of_getElem? (i := 62) rfl)) rfl, in_g (up_3 (List.mem_of_getElem? (i := 63) rfl)) rfl, in_g (up_1 (List.mem_of_getElem? (i := 16) rfl)) rfl, in_g (up_3 (List.mem_of_getElem? (i := 64) rfl)) rfl⟩
set_option maxRecDepth 20000 in
theorem q_X7_full_93 : zCs m_X7_full 93 m_X7_isWell 1 := ⟨⟨cc_X7_isWell.1, cc_X7_isWell.2.1, cc_X7_isWell.2.2.1, cc_X7_isWell.2.2.2, ⟨by decide, by decide⟩⟩, in_g (up_2 (List.mem_of_getElem? (i := 231) rfl)) rfl, in_g (up_2 (List.mem_of_getElem? (i := 232) rfl)) rfl⟩
set_option maxRecDepth 20000 in
theorem q_X7_full_200 : zCv m_X7_full 200 m_X7_comesInTick 7 1 := ⟨⟨cc_X7_comesInTick.1, cc_X7_comesInTick.2.1, cc_X7_comesInTick.2.2.1, cc_X7_comesInTick.2.2.2, ⟨by decide, by decide⟩⟩, in_g (up_3 (List.mem_of_getElem? (i := 159) rfl)) rfl, in_g (up_3 (List.mem_of_getElem? (i := 161) rfl)) rfl, ⟨_, _, _, rfl, in_g (List.mem_append_left _ (List.mem_of_getElem? (l := k2_sels lw_privs) (i := 24) rfl)) rfl⟩⟩
set_option maxRecDepth 20000 in
theorem q_X7_full_165 : zCs m_X7_full 165 m_X7_binsOf 2 := ⟨⟨cc_X7_binsOf.1, cc_X7_binsOf.2.1, cc_X7_binsOf.2.2.1, cc_X7_binsOf.2.2.2, ⟨by decide, by decide⟩⟩, in_g (up_3 (List.mem_of_getElem? (i := 93) rfl)) rfl, in_g (up_3 (List.mem_of_getElem? (i := 94) rfl)) rfl⟩
set_option maxRecDepth 20000 in
theorem q_X7_longest_200 : zCv m_X7_longest 200 m_X7_comesInTick 7 1 := ⟨⟨cc_X7_comesInTick.1, cc_X7_comesInTick.2.1, cc_X7_comesInTick.2.2.1, cc_X7_comesInTick.2.2.2, ⟨by decide, by decide⟩⟩, in_g (up_3 (List.mem_of_getElem? (i := 159) rfl)) rfl, in_g (up_3 (List.mem_of_getElem? (i := 161) rfl)) rfl, ⟨_, _, _, rfl, in_g (List.mem_append_left _ (List.mem_of_getElem? (l := k2_sels lw_privs) (i := 24) rfl)) rfl⟩⟩
set_option maxRecDepth 20000 in
theorem q_X7_longest_197 : zMa m_X7_longest 197 Lib.Math.max.name Lib.Math.max.code 2 := ⟨in_g (up_3 (List.mem_of_getElem? (i := 62) rfl)) rfl, in_g (up_3 (List.mem_of_getElem? (i := 63) rfl)) rfl, in_g (up_1 (List.mem_of_getElem? (i := 16) rfl)) rfl, in_g (up_3 (List.mem_of_getElem? (i := 64) rfl)) rfl⟩
set_option maxRecDepth 20000 in
theorem q_X7_longest_203 : zMa m_X7_longest 203 Lib.Math.min.name Lib.Math.min.code 2 := ⟨in_g (up_3 (List.mem_of_getElem? (i := 65) rfl)) rfl, in_g (up_3 (List.mem_of_getElem? (i := 30) rfl)) rfl, in_g (up_1 (List.mem_of_getElem? (i := 16) rfl)) rfl, in_g (up_3 (List.mem_of_getElem? (i := 31) rfl)) rfl⟩
set_option maxRecDepth 20000 in
theorem q_X7_enough_200 : zCv m_X7_enough 200 m_X7_comesInTick 7 1 := ⟨⟨cc_X7_comesInTick.1, cc_X7_comesInTick.2.1, cc_X7_comesInTick.2.2.1, cc_X7_comesInTick.2.2.2, ⟨by decide, by decide⟩⟩, in_g (up_3 (List.mem_of_getElem? (i := 159) rfl)) rfl, in_g (up_3 (List.mem_of_getElem? (i := 161) rfl)) rfl, ⟨_, _, _, rfl, in_g (List.mem_append_left _ (List.mem_of_getElem? (l := k2_sels lw_privs) (i := 24) rfl)) rfl⟩⟩
set_option maxRecDepth 20000 in
theorem q_X7_enough_165 : zCs m_X7_enough 165 m_X7_binsOf 2 := ⟨⟨cc_X7_binsOf.1, cc_X7_binsOf.2.1, cc_X7_binsOf.2.2.1, cc_X7_binsOf.2.2.2, ⟨by decide, by decide⟩⟩, in_g (up_3 (List.mem_of_getElem? (i := 93) rfl)) rfl, in_g (up_3 (List.mem_of_getElem? (i := 94) rfl)) rfl⟩
set_option maxRecDepth 20000 in
theorem q_X7_enough_197 : zMa m_X7_enough 197 Lib.Math.max.name Lib.Math.max.code 2 := ⟨in_g (up_3 (List.mem_of_getElem? (i := 62) rfl)) rfl, in_g (up_3 (List.mem_of_getElem? (i := 63) rfl)) rfl, in_g (up_1 (List.mem_of_getElem? (i := 16) rfl)) rfl, in_g (up_3 (List.mem_of_getElem? (i := 64) rfl)) rfl⟩
set_option maxRecDepth 20000 in
theorem q_X7_enough_206 : zCv m_X7_enough 206 m_X7_longest 7 0 := ⟨⟨cc_X7_longest.1, cc_X7_longest.2.1, cc_X7_longest.2.2.1, cc_X7_longest.2.2.2, ⟨by decide, by decide⟩⟩, in_g (up_3 (List.mem_of_getElem? (i := 171) rfl)) rfl, in_g (up_3 (List.mem_of_getElem? (i := 164) rfl)) rfl, ⟨_, _, _, rfl, in_g (up_3 (List.mem_of_getElem? (i := 165) rfl)) rfl⟩⟩
set_option maxRecDepth 20000 in
theorem q_X7_hots_116 : zCs m_X7_hots 116 m_X7_isTicks 1 := ⟨⟨cc_X7_isTicks.1, cc_X7_isTicks.2.1, cc_X7_isTicks.2.2.1, cc_X7_isTicks.2.2.2, ⟨by decide, by decide⟩⟩, in_g (up_3 (List.mem_of_getElem? (i := 5) rfl)) rfl, in_g (up_3 (List.mem_of_getElem? (i := 6) rfl)) rfl⟩
set_option maxRecDepth 20000 in
theorem q_X7_mended_93 : zCs m_X7_mended 93 m_X7_isWell 1 := ⟨⟨cc_X7_isWell.1, cc_X7_isWell.2.1, cc_X7_isWell.2.2.1, cc_X7_isWell.2.2.2, ⟨by decide, by decide⟩⟩, in_g (up_2 (List.mem_of_getElem? (i := 231) rfl)) rfl, in_g (up_2 (List.mem_of_getElem? (i := 232) rfl)) rfl⟩
set_option maxRecDepth 20000 in
theorem q_X7_mended_209 : zCs m_X7_mended 209 m_X7_besideOf 3 := ⟨⟨cc_X7_besideOf.1, cc_X7_besideOf.2.1, cc_X7_besideOf.2.2.1, cc_X7_besideOf.2.2.2, ⟨by decide, by decide⟩⟩, in_g (up_3 (List.mem_of_getElem? (i := 180) rfl)) rfl, in_g (up_3 (List.mem_of_getElem? (i := 181) rfl)) rfl⟩
set_option maxRecDepth 20000 in
theorem q_X7_word_213 : zCv m_X7_word 213 m_X7_isWord 7 1 := ⟨⟨cc_X7_isWord.1, cc_X7_isWord.2.1, cc_X7_isWord.2.2.1, cc_X7_isWord.2.2.2, ⟨by decide, by decide⟩⟩, in_g (up_3 (List.mem_of_getElem? (i := 187) rfl)) rfl, in_g (up_3 (List.mem_of_getElem? (i := 189) rfl)) rfl, ⟨_, _, _, rfl, in_g (List.mem_append_left _ (List.mem_of_getElem? (l := k2_sels lw_privs) (i := 25) rfl)) rfl⟩⟩
set_option maxRecDepth 20000 in
theorem q_X7_clock_222 : zCv m_X7_clock 222 m_X1_bePhases 1 1 := ⟨⟨cc_X1_bePhases.1, cc_X1_bePhases.2.1, cc_X1_bePhases.2.2.1, cc_X1_bePhases.2.2.2, ⟨by decide, by decide⟩⟩, in_g (up_3 (List.mem_of_getElem? (i := 207) rfl)) rfl, in_g (up_3 (List.mem_of_getElem? (i := 208) rfl)) rfl, ⟨_, _, _, rfl, in_g (up_3 (List.mem_of_getElem? (i := 209) rfl)) rfl⟩⟩
set_option maxRecDepth 20000 in
theorem q_X7_clock_226 : zCv m_X7_clock 226 m_X1_isGood 1 1 := ⟨⟨cc_X1_isGood.1, cc_X1_isGood.2.1, cc_X1_isGood.2.2.1, cc_X1_isGood.2.2.2, ⟨by decide, by decide⟩⟩, in_g (up_4 (List.mem_of_getElem? (i := 14) rfl)) rfl, in_g (up_4 (List.mem_of_getElem? (i := 15) rfl)) rfl, ⟨_, _, _, rfl, in_g (up_4 (List.mem_of_getElem? (i := 16) rfl)) rfl⟩⟩
set_option maxRecDepth 20000 in
theorem q_X7_clock_229 : zCv m_X7_clock 229 m_X1_goRound 1 1 := ⟨⟨cc_X1_goRound.1, cc_X1_goRound.2.1, cc_X1_goRound.2.2.1, cc_X1_goRound.2.2.2, ⟨by decide, by decide⟩⟩, in_g (up_4 (List.mem_of_getElem? (i := 18) rfl)) rfl, in_g (up_4 (List.mem_of_getElem? (i := 19) rfl)) rfl, ⟨_, _, _, rfl, in_g (up_4 (List.mem_of_getElem? (i := 20) rfl)) rfl⟩⟩
set_option maxRecDepth 20000 in
theorem q_X7_goes_213 : zCv m_X7_goes 213 m_X7_isWord 7 1 := ⟨⟨cc_X7_isWord.1, cc_X7_isWord.2.1, cc_X7_isWord.2.2.1, cc_X7_isWord.2.2.2, ⟨by decide, by decide⟩⟩, in_g (up_3 (List.mem_of_getElem? (i := 187) rfl)) rfl, in_g (up_3 (List.mem_of_getElem? (i := 189) rfl)) rfl, ⟨_, _, _, rfl, in_g (List.mem_append_left _ (List.mem_of_getElem? (l := k2_sels lw_privs) (i := 25) rfl)) rfl⟩⟩
set_option maxRecDepth 20000 in
theorem q_X7_goes_222 : zCv m_X7_goes 222 m_X1_bePhases 1 1 := ⟨⟨cc_X1_bePhases.1, cc_X1_bePhases.2.1, cc_X1_bePhases.2.2.1, cc_X1_bePhases.2.2.2, ⟨by decide, by decide⟩⟩, in_g (up_3 (List.mem_of_getElem? (i := 207) rfl)) rfl, in_g (up_3 (List.mem_of_getElem? (i := 208) rfl)) rfl, ⟨_, _, _, rfl, in_g (up_3 (List.mem_of_getElem? (i := 209) rfl)) rfl⟩⟩
set_option maxRecDepth 20000 in
theorem q_X7_goes_226 : zCv m_X7_goes 226 m_X1_isGood 1 1 := ⟨⟨cc_X1_isGood.1, cc_X1_isGood.2.1, cc_X1_isGood.2.2.1, cc_X1_isGood.2.2.2, ⟨by decide, by decide⟩⟩, in_g (up_4 (List.mem_of_getElem? (i := 14) rfl)) rfl, in_g (up_4 (List.mem_of_getElem? (i := 15) rfl)) rfl, ⟨_, _, _, rfl, in_g (up_4 (List.mem_of_getElem? (i := 16) rfl)) rfl⟩⟩
set_option maxRecDepth 20000 in
theorem q_X7_goes_242 : zCv m_X7_goes 242 m_X1_startOf 1 1 := ⟨⟨cc_X1_startOf.1, cc_X1_startOf.2.1, cc_X1_startOf.2.2.1, cc_X1_startOf.2.2.2, ⟨by decide, by decide⟩⟩, in_g (up_4 (List.mem_of_getElem? (i := 31) rfl)) rfl, in_g (up_4 (List.mem_of_getElem? (i := 24) rfl)) rfl, ⟨_, _, _, rfl, in_g (up_4 (List.mem_of_getElem? (i := 25) rfl)) rfl⟩⟩
set_option maxRecDepth 20000 in
theorem q_X7_goes_245 : zCv m_X7_goes 245 m_X1_fare 1 3 := ⟨⟨cc_X1_fare.1, cc_X1_fare.2.1, cc_X1_fare.2.2.1, cc_X1_fare.2.2.2, ⟨by decide, by decide⟩⟩, in_g (up_4 (List.mem_of_getElem? (i := 32) rfl)) rfl, in_g (up_3 (List.mem_of_getElem? (i := 236) rfl)) rfl, ⟨_, _, _, rfl, in_g (up_3 (List.mem_of_getElem? (i := 237) rfl)) rfl⟩⟩
set_option maxRecDepth 20000 in
theorem q_X7_fewest_222 : zCv m_X7_fewest 222 m_X1_bePhases 1 1 := ⟨⟨cc_X1_bePhases.1, cc_X1_bePhases.2.1, cc_X1_bePhases.2.2.1, cc_X1_bePhases.2.2.2, ⟨by decide, by decide⟩⟩, in_g (up_3 (List.mem_of_getElem? (i := 207) rfl)) rfl, in_g (up_3 (List.mem_of_getElem? (i := 208) rfl)) rfl, ⟨_, _, _, rfl, in_g (up_3 (List.mem_of_getElem? (i := 209) rfl)) rfl⟩⟩
set_option maxRecDepth 20000 in
theorem q_X7_fewest_248 : zCv m_X7_fewest 248 m_X7_mostWord 7 0 := ⟨⟨cc_X7_mostWord.1, cc_X7_mostWord.2.1, cc_X7_mostWord.2.2.1, cc_X7_mostWord.2.2.2, ⟨by decide, by decide⟩⟩, in_g (up_3 (List.mem_of_getElem? (i := 191) rfl)) rfl, in_g (up_3 (List.mem_of_getElem? (i := 193) rfl)) rfl, ⟨_, _, _, rfl, in_g (List.mem_append_left _ (List.mem_of_getElem? (l := k2_sels lw_privs) (i := 26) rfl)) rfl⟩⟩
set_option maxRecDepth 20000 in
theorem q_X7_fewest_251 : zCv m_X7_fewest 251 m_X1_waysRound 1 3 := ⟨⟨cc_X1_waysRound.1, cc_X1_waysRound.2.1, cc_X1_waysRound.2.2.1, cc_X1_waysRound.2.2.2, ⟨by decide, by decide⟩⟩, in_g (up_4 (List.mem_of_getElem? (i := 37) rfl)) rfl, in_g (up_4 (List.mem_of_getElem? (i := 38) rfl)) rfl, ⟨_, _, _, rfl, in_g (up_4 (List.mem_of_getElem? (i := 39) rfl)) rfl⟩⟩
set_option maxRecDepth 20000 in
theorem q_X7_rounds_213 : zCv m_X7_rounds 213 m_X7_isWord 7 1 := ⟨⟨cc_X7_isWord.1, cc_X7_isWord.2.1, cc_X7_isWord.2.2.1, cc_X7_isWord.2.2.2, ⟨by decide, by decide⟩⟩, in_g (up_3 (List.mem_of_getElem? (i := 187) rfl)) rfl, in_g (up_3 (List.mem_of_getElem? (i := 189) rfl)) rfl, ⟨_, _, _, rfl, in_g (List.mem_append_left _ (List.mem_of_getElem? (l := k2_sels lw_privs) (i := 25) rfl)) rfl⟩⟩
set_option maxRecDepth 20000 in
theorem q_X7_rounds_222 : zCv m_X7_rounds 222 m_X1_bePhases 1 1 := ⟨⟨cc_X1_bePhases.1, cc_X1_bePhases.2.1, cc_X1_bePhases.2.2.1, cc_X1_bePhases.2.2.2, ⟨by decide, by decide⟩⟩, in_g (up_3 (List.mem_of_getElem? (i := 207) rfl)) rfl, in_g (up_3 (List.mem_of_getElem? (i := 208) rfl)) rfl, ⟨_, _, _, rfl, in_g (up_3 (List.mem_of_getElem? (i := 209) rfl)) rfl⟩⟩
set_option maxRecDepth 20000 in
theorem q_X7_rounds_251 : zCv m_X7_rounds 251 m_X1_waysRound 1 3 := ⟨⟨cc_X1_waysRound.1, cc_X1_waysRound.2.1, cc_X1_waysRound.2.2.1, cc_X1_waysRound.2.2.2, ⟨by decide, by decide⟩⟩, in_g (up_4 (List.mem_of_getElem? (i := 37) rfl)) rfl, in_g (up_4 (List.mem_of_getElem? (i := 38) rfl)) rfl, ⟨_, _, _, rfl, in_g (up_4 (List.mem_of_getElem? (i := 39) rfl)) rfl⟩⟩
set_option maxRecDepth 20000 in
theorem q_X7_keep_255 : zCv m_X7_keep 255 m_X0_takeFrom 0 1 := ⟨⟨cc_X0_takeFrom.1, cc_X0_takeFrom.2.1, cc_X0_takeFrom.2.2.1, cc_X0_takeFrom.2.2.2, ⟨by decide, by decide⟩⟩, in_g (up_4 (List.mem_of_getElem? (i := 62) rfl)) rfl, in_g (up_3 (List.mem_of_getElem? (i := 101) rfl)) rfl, ⟨_, _, _, rfl, in_g (up_3 (List.mem_of_getElem? (i := 102) rfl)) rfl⟩⟩
set_option maxRecDepth 20000 in
theorem q_X7_back_255 : zCv m_X7_back 255 m_X0_takeFrom 0 1 := ⟨⟨cc_X0_takeFrom.1, cc_X0_takeFrom.2.1, cc_X0_takeFrom.2.2.1, cc_X0_takeFrom.2.2.2, ⟨by decide, by decide⟩⟩, in_g (up_4 (List.mem_of_getElem? (i := 62) rfl)) rfl, in_g (up_3 (List.mem_of_getElem? (i := 101) rfl)) rfl, ⟨_, _, _, rfl, in_g (up_3 (List.mem_of_getElem? (i := 102) rfl)) rfl⟩⟩
set_option maxRecDepth 20000 in
theorem q_X7_back_123 : zCs m_X7_back 123 m_X7_sumOf 1 := ⟨⟨cc_X7_sumOf.1, cc_X7_sumOf.2.1, cc_X7_sumOf.2.2.1, cc_X7_sumOf.2.2.2, ⟨by decide, by decide⟩⟩, in_g (up_3 (List.mem_of_getElem? (i := 32) rfl)) rfl, in_g (up_3 (List.mem_of_getElem? (i := 33) rfl)) rfl⟩
set_option maxRecDepth 20000 in
theorem q_X7_sheet_259 : zCs m_X7_sheet 259 m_X7_isSheet 1 := ⟨⟨cc_X7_isSheet.1, cc_X7_isSheet.2.1, cc_X7_isSheet.2.2.1, cc_X7_isSheet.2.2.2, ⟨by decide, by decide⟩⟩, in_g (up_4 (List.mem_of_getElem? (i := 71) rfl)) rfl, in_g (up_4 (List.mem_of_getElem? (i := 72) rfl)) rfl⟩
set_option maxRecDepth 20000 in
theorem q_X7_sheet_262 : zCs m_X7_sheet 262 m_X7_isLane 1 := ⟨⟨cc_X7_isLane.1, cc_X7_isLane.2.1, cc_X7_isLane.2.2.1, cc_X7_isLane.2.2.2, ⟨by decide, by decide⟩⟩, in_g (up_4 (List.mem_of_getElem? (i := 74) rfl)) rfl, in_g (up_4 (List.mem_of_getElem? (i := 75) rfl)) rfl⟩
set_option maxRecDepth 20000 in
theorem q_X7_sheet_265 : zCv m_X7_sheet 265 m_X5_renew 5 2 := ⟨⟨cc_X5_renew.1, cc_X5_renew.2.1, cc_X5_renew.2.2.1, cc_X5_renew.2.2.2, ⟨by decide, by decide⟩⟩, in_g (up_4 (List.mem_of_getElem? (i := 77) rfl)) rfl, in_g (up_4 (List.mem_of_getElem? (i := 78) rfl)) rfl, ⟨_, _, _, rfl, in_g (up_4 (List.mem_of_getElem? (i := 79) rfl)) rfl⟩⟩
set_option maxRecDepth 20000 in
theorem q_X7_lay_259 : zCs m_X7_lay 259 m_X7_isSheet 1 := ⟨⟨cc_X7_isSheet.1, cc_X7_isSheet.2.1, cc_X7_isSheet.2.2.1, cc_X7_isSheet.2.2.2, ⟨by decide, by decide⟩⟩, in_g (up_4 (List.mem_of_getElem? (i := 71) rfl)) rfl, in_g (up_4 (List.mem_of_getElem? (i := 72) rfl)) rfl⟩
set_option maxRecDepth 20000 in
theorem q_X7_lay_272 : zCv m_X7_lay 272 m_X5_faultAt 5 2 := ⟨⟨cc_X5_faultAt.1, cc_X5_faultAt.2.1, cc_X5_faultAt.2.2.1, cc_X5_faultAt.2.2.2, ⟨by decide, by decide⟩⟩, in_g (up_4 (List.mem_of_getElem? (i := 86) rfl)) rfl, in_g (up_4 (List.mem_of_getElem? (i := 87) rfl)) rfl, ⟨_, _, _, rfl, in_g (up_4 (List.mem_of_getElem? (i := 88) rfl)) rfl⟩⟩
set_option maxRecDepth 20000 in
theorem q_X7_lay_275 : zCv m_X7_lay 275 m_X5_put 5 2 := ⟨⟨cc_X5_put.1, cc_X5_put.2.1, cc_X5_put.2.2.1, cc_X5_put.2.2.2, ⟨by decide, by decide⟩⟩, in_g (up_4 (List.mem_of_getElem? (i := 90) rfl)) rfl, in_g (up_4 (List.mem_of_getElem? (i := 91) rfl)) rfl, ⟨_, _, _, rfl, in_g (up_4 (List.mem_of_getElem? (i := 92) rfl)) rfl⟩⟩
set_option maxRecDepth 20000 in
theorem q_X7_reads_259 : zCs m_X7_reads 259 m_X7_isSheet 1 := ⟨⟨cc_X7_isSheet.1, cc_X7_isSheet.2.1, cc_X7_isSheet.2.2.1, cc_X7_isSheet.2.2.2, ⟨by decide, by decide⟩⟩, in_g (up_4 (List.mem_of_getElem? (i := 71) rfl)) rfl, in_g (up_4 (List.mem_of_getElem? (i := 72) rfl)) rfl⟩
set_option maxRecDepth 20000 in
theorem q_X7_reads_262 : zCs m_X7_reads 262 m_X7_isLane 1 := ⟨⟨cc_X7_isLane.1, cc_X7_isLane.2.1, cc_X7_isLane.2.2.1, cc_X7_isLane.2.2.2, ⟨by decide, by decide⟩⟩, in_g (up_4 (List.mem_of_getElem? (i := 74) rfl)) rfl, in_g (up_4 (List.mem_of_getElem? (i := 75) rfl)) rfl⟩
set_option maxRecDepth 20000 in
theorem q_X7_reads_278 : zCv m_X7_reads 278 m_X5_pairFaultAt 5 2 := ⟨⟨cc_X5_pairFaultAt.1, cc_X5_pairFaultAt.2.1, cc_X5_pairFaultAt.2.2.1, cc_X5_pairFaultAt.2.2.2, ⟨by decide, by decide⟩⟩, in_g (up_4 (List.mem_of_getElem? (i := 98) rfl)) rfl, in_g (up_4 (List.mem_of_getElem? (i := 99) rfl)) rfl, ⟨_, _, _, rfl, in_g (up_4 (List.mem_of_getElem? (i := 100) rfl)) rfl⟩⟩
set_option maxRecDepth 20000 in
theorem q_X7_reads_112 : zCs m_X7_reads 112 m_X7_isLighting 2 := ⟨⟨cc_X7_isLighting.1, cc_X7_isLighting.2.1, cc_X7_isLighting.2.2.1, cc_X7_isLighting.2.2.2, ⟨by decide, by decide⟩⟩, in_g (up_2 (List.mem_of_getElem? (i := 238) rfl)) rfl, in_g (up_2 (List.mem_of_getElem? (i := 239) rfl)) rfl⟩
set_option maxRecDepth 20000 in
theorem q_X7_count_287 : zCs m_X7_count 287 m_X7_howManyAbove0 1 := ⟨⟨cc_X7_howManyAbove0.1, cc_X7_howManyAbove0.2.1, cc_X7_howManyAbove0.2.2.1, cc_X7_howManyAbove0.2.2.2, ⟨by decide, by decide⟩⟩, in_g (up_4 (List.mem_of_getElem? (i := 111) rfl)) rfl, in_g (up_4 (List.mem_of_getElem? (i := 112) rfl)) rfl⟩
set_option maxRecDepth 20000 in
theorem q_X7_isLighting_93 : zCs m_X7_isLighting 93 m_X7_isWell 1 := ⟨⟨cc_X7_isWell.1, cc_X7_isWell.2.1, cc_X7_isWell.2.2.1, cc_X7_isWell.2.2.2, ⟨by decide, by decide⟩⟩, in_g (up_2 (List.mem_of_getElem? (i := 231) rfl)) rfl, in_g (up_2 (List.mem_of_getElem? (i := 232) rfl)) rfl⟩
set_option maxRecDepth 20000 in
theorem q_X7_isWord_248 : zCv m_X7_isWord 248 m_X7_mostWord 7 0 := ⟨⟨cc_X7_mostWord.1, cc_X7_mostWord.2.1, cc_X7_mostWord.2.2.1, cc_X7_mostWord.2.2.2, ⟨by decide, by decide⟩⟩, in_g (up_3 (List.mem_of_getElem? (i := 191) rfl)) rfl, in_g (up_3 (List.mem_of_getElem? (i := 193) rfl)) rfl, ⟨_, _, _, rfl, in_g (List.mem_append_left _ (List.mem_of_getElem? (l := k2_sels lw_privs) (i := 26) rfl)) rfl⟩⟩
set_option maxRecDepth 20000 in
theorem q_X7_valueOf_197 : zMa m_X7_valueOf 197 Lib.Math.max.name Lib.Math.max.code 2 := ⟨in_g (up_3 (List.mem_of_getElem? (i := 62) rfl)) rfl, in_g (up_3 (List.mem_of_getElem? (i := 63) rfl)) rfl, in_g (up_1 (List.mem_of_getElem? (i := 16) rfl)) rfl, in_g (up_3 (List.mem_of_getElem? (i := 64) rfl)) rfl⟩
set_option maxRecDepth 20000 in
theorem q_X7_valueOf_203 : zMa m_X7_valueOf 203 Lib.Math.min.name Lib.Math.min.code 2 := ⟨in_g (up_3 (List.mem_of_getElem? (i := 65) rfl)) rfl, in_g (up_3 (List.mem_of_getElem? (i := 30) rfl)) rfl, in_g (up_1 (List.mem_of_getElem? (i := 16) rfl)) rfl, in_g (up_3 (List.mem_of_getElem? (i := 31) rfl)) rfl⟩
set_option maxRecDepth 20000 in
theorem q_X7_tellAll_294 : zCv m_X7_tellAll 294 m_X3_takeFrom 3 1 := ⟨⟨cc_X3_takeFrom.1, cc_X3_takeFrom.2.1, cc_X3_takeFrom.2.2.1, cc_X3_takeFrom.2.2.2, ⟨by decide, by decide⟩⟩, in_g (up_2 (List.mem_of_getElem? (i := 206) rfl)) rfl, in_g (up_2 (List.mem_of_getElem? (i := 207) rfl)) rfl, ⟨_, _, _, rfl, in_g (up_2 (List.mem_of_getElem? (i := 208) rfl)) rfl⟩⟩
set_option maxRecDepth 20000 in
theorem q_X7_tellAll_159 : zCv m_X7_tellAll 159 m_X0_drainAll 0 0 := ⟨⟨cc_X0_drainAll.1, cc_X0_drainAll.2.1, cc_X0_drainAll.2.2.1, cc_X0_drainAll.2.2.2, ⟨by decide, by decide⟩⟩, in_g (up_2 (List.mem_of_getElem? (i := 213) rfl)) rfl, in_g (up_2 (List.mem_of_getElem? (i := 214) rfl)) rfl, ⟨_, _, _, rfl, in_g (up_2 (List.mem_of_getElem? (i := 215) rfl)) rfl⟩⟩
set_option maxRecDepth 20000 in
theorem q_X7_tellAll_299 : zAc m_X7_tellAll 299 := in_g (up_2 (List.mem_of_getElem? (i := 218) rfl)) rfl
set_option maxRecDepth 20000 in
theorem q_X8_init_1 : Cond.methodLink m_X8_init.1.cls 1 objectInit ∈ lw_g := in_g (up_4 (List.mem_of_getElem? (i := 119) rfl)) rfl
set_option maxRecDepth 20000 in
theorem q_X8_init_72 : zCv m_X8_init 72 m_X8_firstDraft 8 0 := ⟨⟨cc_X8_firstDraft.1, cc_X8_firstDraft.2.1, cc_X8_firstDraft.2.2.1, cc_X8_firstDraft.2.2.2, ⟨by decide, by decide⟩⟩, in_g (up_4 (List.mem_of_getElem? (i := 120) rfl)) rfl, in_g (up_4 (List.mem_of_getElem? (i := 122) rfl)) rfl, ⟨_, _, _, rfl, in_g (List.mem_append_left _ (List.mem_of_getElem? (l := k2_sels lw_privs) (i := 37) rfl)) rfl⟩⟩
set_option maxRecDepth 20000 in
theorem q_X8_init_75 : zCv m_X8_init 75 m_X8_keepDraft 8 0 := ⟨⟨cc_X8_keepDraft.1, cc_X8_keepDraft.2.1, cc_X8_keepDraft.2.2.1, cc_X8_keepDraft.2.2.2, ⟨by decide, by decide⟩⟩, in_g (up_4 (List.mem_of_getElem? (i := 124) rfl)) rfl, in_g (up_4 (List.mem_of_getElem? (i := 126) rfl)) rfl, ⟨_, _, _, rfl, in_g (List.mem_append_left _ (List.mem_of_getElem? (l := k2_sels lw_privs) (i := 38) rfl)) rfl⟩⟩
set_option maxRecDepth 20000 in
theorem q_X8_keepDraft_92 : zCs m_X8_keepDraft 92 m_X8_in 3 := ⟨⟨cc_X8_in.1, cc_X8_in.2.1, cc_X8_in.2.2.1, cc_X8_in.2.2.2, ⟨by decide, by decide⟩⟩, in_g (up_4 (List.mem_of_getElem? (i := 130) rfl)) rfl, in_g (up_4 (List.mem_of_getElem? (i := 131) rfl)) rfl⟩
set_option maxRecDepth 20000 in
theorem q_X8_keepDraft_96 : zCv m_X8_keepDraft 96 m_X8_clearSums 8 0 := ⟨⟨cc_X8_clearSums.1, cc_X8_clearSums.2.1, cc_X8_clearSums.2.2.1, cc_X8_clearSums.2.2.2, ⟨by decide, by decide⟩⟩, in_g (up_4 (List.mem_of_getElem? (i := 133) rfl)) rfl, in_g (up_4 (List.mem_of_getElem? (i := 135) rfl)) rfl, ⟨_, _, _, rfl, in_g (List.mem_append_left _ (List.mem_of_getElem? (l := k2_sels lw_privs) (i := 39) rfl)) rfl⟩⟩
set_option maxRecDepth 20000 in
theorem q_X8_end_92 : zCs m_X8_end 92 m_X8_in 3 := ⟨⟨cc_X8_in.1, cc_X8_in.2.1, cc_X8_in.2.2.1, cc_X8_in.2.2.2, ⟨by decide, by decide⟩⟩, in_g (up_4 (List.mem_of_getElem? (i := 130) rfl)) rfl, in_g (up_4 (List.mem_of_getElem? (i := 131) rfl)) rfl⟩
set_option maxRecDepth 20000 in
theorem q_X8_is_119 : zCv m_X8_is 119 m_X8_look 8 1 := ⟨⟨cc_X8_look.1, cc_X8_look.2.1, cc_X8_look.2.2.1, cc_X8_look.2.2.2, ⟨by decide, by decide⟩⟩, in_g (up_5 (List.mem_of_getElem? (i := 23) rfl)) rfl, in_g (up_5 (List.mem_of_getElem? (i := 25) rfl)) rfl, ⟨_, _, _, rfl, in_g (List.mem_append_left _ (List.mem_of_getElem? (l := k2_sels lw_privs) (i := 41) rfl)) rfl⟩⟩
set_option maxRecDepth 20000 in
theorem q_X8_nameNow_123 : zCv m_X8_nameNow 123 m_X8_is 8 5 := ⟨⟨cc_X8_is.1, cc_X8_is.2.1, cc_X8_is.2.2.1, cc_X8_is.2.2.2, ⟨by decide, by decide⟩⟩, in_g (up_5 (List.mem_of_getElem? (i := 43) rfl)) rfl, in_g (up_5 (List.mem_of_getElem? (i := 45) rfl)) rfl, ⟨_, _, _, rfl, in_g (List.mem_append_left _ (List.mem_of_getElem? (l := k2_sels lw_privs) (i := 45) rfl)) rfl⟩⟩
set_option maxRecDepth 20000 in
theorem q_X8_nameNow_119 : zCv m_X8_nameNow 119 m_X8_look 8 1 := ⟨⟨cc_X8_look.1, cc_X8_look.2.1, cc_X8_look.2.2.1, cc_X8_look.2.2.2, ⟨by decide, by decide⟩⟩, in_g (up_5 (List.mem_of_getElem? (i := 23) rfl)) rfl, in_g (up_5 (List.mem_of_getElem? (i := 25) rfl)) rfl, ⟨_, _, _, rfl, in_g (List.mem_append_left _ (List.mem_of_getElem? (l := k2_sels lw_privs) (i := 41) rfl)) rfl⟩⟩
set_option maxRecDepth 20000 in
theorem q_X8_next_119 : zCv m_X8_next 119 m_X8_look 8 1 := ⟨⟨cc_X8_look.1, cc_X8_look.2.1, cc_X8_look.2.2.1, cc_X8_look.2.2.2, ⟨by decide, by decide⟩⟩, in_g (up_5 (List.mem_of_getElem? (i := 23) rfl)) rfl, in_g (up_5 (List.mem_of_getElem? (i := 25) rfl)) rfl, ⟨_, _, _, rfl, in_g (List.mem_append_left _ (List.mem_of_getElem? (l := k2_sels lw_privs) (i := 41) rfl)) rfl⟩⟩
set_option maxRecDepth 20000 in
theorem q_X8_next_92 : zCs m_X8_next 92 m_X8_in 3 := ⟨⟨cc_X8_in.1, cc_X8_in.2.1, cc_X8_in.2.2.1, cc_X8_in.2.2.2, ⟨by decide, by decide⟩⟩, in_g (up_4 (List.mem_of_getElem? (i := 130) rfl)) rfl, in_g (up_4 (List.mem_of_getElem? (i := 131) rfl)) rfl⟩
set_option maxRecDepth 20000 in
theorem q_X8_next_141 : zCv m_X8_next 141 m_X8_needs 8 2 := ⟨⟨cc_X8_needs.1, cc_X8_needs.2.1, cc_X8_needs.2.2.1, cc_X8_needs.2.2.2, ⟨by decide, by decide⟩⟩, in_g (up_5 (List.mem_of_getElem? (i := 31) rfl)) rfl, in_g (up_5 (List.mem_of_getElem? (i := 33) rfl)) rfl, ⟨_, _, _, rfl, in_g (List.mem_append_left _ (List.mem_of_getElem? (l := k2_sels lw_privs) (i := 42) rfl)) rfl⟩⟩
set_option maxRecDepth 20000 in
theorem q_X8_isNumber_141 : zCv m_X8_isNumber 141 m_X8_needs 8 2 := ⟨⟨cc_X8_needs.1, cc_X8_needs.2.1, cc_X8_needs.2.2.1, cc_X8_needs.2.2.2, ⟨by decide, by decide⟩⟩, in_g (up_5 (List.mem_of_getElem? (i := 31) rfl)) rfl, in_g (up_5 (List.mem_of_getElem? (i := 33) rfl)) rfl, ⟨_, _, _, rfl, in_g (List.mem_append_left _ (List.mem_of_getElem? (l := k2_sels lw_privs) (i := 42) rfl)) rfl⟩⟩
set_option maxRecDepth 20000 in
theorem q_X8_isNumber_92 : zCs m_X8_isNumber 92 m_X8_in 3 := ⟨⟨cc_X8_in.1, cc_X8_in.2.1, cc_X8_in.2.2.1, cc_X8_in.2.2.2, ⟨by decide, by decide⟩⟩, in_g (up_4 (List.mem_of_getElem? (i := 130) rfl)) rfl, in_g (up_4 (List.mem_of_getElem? (i := 131) rfl)) rfl⟩
set_option maxRecDepth 20000 in
theorem q_X8_readNumber_145 : zCv m_X8_readNumber 145 m_X8_isNumber 8 2 := ⟨⟨cc_X8_isNumber.1, cc_X8_isNumber.2.1, cc_X8_isNumber.2.2.1, cc_X8_isNumber.2.2.2, ⟨by decide, by decide⟩⟩, in_g (up_5 (List.mem_of_getElem? (i := 56) rfl)) rfl, in_g (up_5 (List.mem_of_getElem? (i := 58) rfl)) rfl, ⟨_, _, _, rfl, in_g (List.mem_append_left _ (List.mem_of_getElem? (l := k2_sels lw_privs) (i := 48) rfl)) rfl⟩⟩
set_option maxRecDepth 20000 in
theorem q_X8_readNumber_149 : zCv m_X8_readNumber 149 m_X8_next 8 0 := ⟨⟨cc_X8_next.1, cc_X8_next.2.1, cc_X8_next.2.2.1, cc_X8_next.2.2.2, ⟨by decide, by decide⟩⟩, in_g (up_5 (List.mem_of_getElem? (i := 19) rfl)) rfl, in_g (up_5 (List.mem_of_getElem? (i := 21) rfl)) rfl, ⟨_, _, _, rfl, in_g (List.mem_append_left _ (List.mem_of_getElem? (l := k2_sels lw_privs) (i := 40) rfl)) rfl⟩⟩
set_option maxRecDepth 20000 in
theorem q_X8_readRow_152 : zCv m_X8_readRow 152 m_X8_readNumber 8 2 := ⟨⟨cc_X8_readNumber.1, cc_X8_readNumber.2.1, cc_X8_readNumber.2.2.1, cc_X8_readNumber.2.2.2, ⟨by decide, by decide⟩⟩, in_g (up_5 (List.mem_of_getElem? (i := 52) rfl)) rfl, in_g (up_5 (List.mem_of_getElem? (i := 54) rfl)) rfl, ⟨_, _, _, rfl, in_g (List.mem_append_left _ (List.mem_of_getElem? (l := k2_sels lw_privs) (i := 47) rfl)) rfl⟩⟩
set_option maxRecDepth 20000 in
theorem q_X8_readWell_145 : zCv m_X8_readWell 145 m_X8_isNumber 8 2 := ⟨⟨cc_X8_isNumber.1, cc_X8_isNumber.2.1, cc_X8_isNumber.2.2.1, cc_X8_isNumber.2.2.2, ⟨by decide, by decide⟩⟩, in_g (up_5 (List.mem_of_getElem? (i := 56) rfl)) rfl, in_g (up_5 (List.mem_of_getElem? (i := 58) rfl)) rfl, ⟨_, _, _, rfl, in_g (List.mem_append_left _ (List.mem_of_getElem? (l := k2_sels lw_privs) (i := 48) rfl)) rfl⟩⟩
set_option maxRecDepth 20000 in
theorem q_X8_readWell_141 : zCv m_X8_readWell 141 m_X8_needs 8 2 := ⟨⟨cc_X8_needs.1, cc_X8_needs.2.1, cc_X8_needs.2.2.1, cc_X8_needs.2.2.2, ⟨by decide, by decide⟩⟩, in_g (up_5 (List.mem_of_getElem? (i := 31) rfl)) rfl, in_g (up_5 (List.mem_of_getElem? (i := 33) rfl)) rfl, ⟨_, _, _, rfl, in_g (List.mem_append_left _ (List.mem_of_getElem? (l := k2_sels lw_privs) (i := 42) rfl)) rfl⟩⟩
set_option maxRecDepth 20000 in
theorem q_X8_readWell_149 : zCv m_X8_readWell 149 m_X8_next 8 0 := ⟨⟨cc_X8_next.1, cc_X8_next.2.1, cc_X8_next.2.2.1, cc_X8_next.2.2.2, ⟨by decide, by decide⟩⟩, in_g (up_5 (List.mem_of_getElem? (i := 19) rfl)) rfl, in_g (up_5 (List.mem_of_getElem? (i := 21) rfl)) rfl, ⟨_, _, _, rfl, in_g (List.mem_append_left _ (List.mem_of_getElem? (l := k2_sels lw_privs) (i := 40) rfl)) rfl⟩⟩
set_option maxRecDepth 20000 in
theorem q_X8_readWell_152 : zCv m_X8_readWell 152 m_X8_readNumber 8 2 := ⟨⟨cc_X8_readNumber.1, cc_X8_readNumber.2.1, cc_X8_readNumber.2.2.1, cc_X8_readNumber.2.2.2, ⟨by decide, by decide⟩⟩, in_g (up_5 (List.mem_of_getElem? (i := 52) rfl)) rfl, in_g (up_5 (List.mem_of_getElem? (i := 54) rfl)) rfl, ⟨_, _, _, rfl, in_g (List.mem_append_left _ (List.mem_of_getElem? (l := k2_sels lw_privs) (i := 47) rfl)) rfl⟩⟩
set_option maxRecDepth 20000 in
theorem q_X8_readClock_152 : zCv m_X8_readClock 152 m_X8_readNumber 8 2 := ⟨⟨cc_X8_readNumber.1, cc_X8_readNumber.2.1, cc_X8_readNumber.2.2.1, cc_X8_readNumber.2.2.2, ⟨by decide, by decide⟩⟩, in_g (up_5 (List.mem_of_getElem? (i := 52) rfl)) rfl, in_g (up_5 (List.mem_of_getElem? (i := 54) rfl)) rfl, ⟨_, _, _, rfl, in_g (List.mem_append_left _ (List.mem_of_getElem? (l := k2_sels lw_privs) (i := 47) rfl)) rfl⟩⟩
set_option maxRecDepth 20000 in
theorem q_X8_readClock_141 : zCv m_X8_readClock 141 m_X8_needs 8 2 := ⟨⟨cc_X8_needs.1, cc_X8_needs.2.1, cc_X8_needs.2.2.1, cc_X8_needs.2.2.2, ⟨by decide, by decide⟩⟩, in_g (up_5 (List.mem_of_getElem? (i := 31) rfl)) rfl, in_g (up_5 (List.mem_of_getElem? (i := 33) rfl)) rfl, ⟨_, _, _, rfl, in_g (List.mem_append_left _ (List.mem_of_getElem? (l := k2_sels lw_privs) (i := 42) rfl)) rfl⟩⟩
set_option maxRecDepth 20000 in
theorem q_X8_readRule_152 : zCv m_X8_readRule 152 m_X8_readNumber 8 2 := ⟨⟨cc_X8_readNumber.1, cc_X8_readNumber.2.1, cc_X8_readNumber.2.2.1, cc_X8_readNumber.2.2.2, ⟨by decide, by decide⟩⟩, in_g (up_5 (List.mem_of_getElem? (i := 52) rfl)) rfl, in_g (up_5 (List.mem_of_getElem? (i := 54) rfl)) rfl, ⟨_, _, _, rfl, in_g (List.mem_append_left _ (List.mem_of_getElem? (l := k2_sels lw_privs) (i := 47) rfl)) rfl⟩⟩
set_option maxRecDepth 20000 in
theorem q_X8_readRule_156 : zCv m_X8_readRule 156 m_X8_readClock 8 0 := ⟨⟨cc_X8_readClock.1, cc_X8_readClock.2.1, cc_X8_readClock.2.2.1, cc_X8_readClock.2.2.2, ⟨by decide, by decide⟩⟩, in_g (up_5 (List.mem_of_getElem? (i := 68) rfl)) rfl, in_g (up_5 (List.mem_of_getElem? (i := 70) rfl)) rfl, ⟨_, _, _, rfl, in_g (List.mem_append_left _ (List.mem_of_getElem? (l := k2_sels lw_privs) (i := 51) rfl)) rfl⟩⟩
set_option maxRecDepth 20000 in
theorem q_X8_readLine_159 : zCv m_X8_readLine 159 m_X8_nameNow 8 0 := ⟨⟨cc_X8_nameNow.1, cc_X8_nameNow.2.1, cc_X8_nameNow.2.2.1, cc_X8_nameNow.2.2.2, ⟨by decide, by decide⟩⟩, in_g (up_5 (List.mem_of_getElem? (i := 39) rfl)) rfl, in_g (up_5 (List.mem_of_getElem? (i := 41) rfl)) rfl, ⟨_, _, _, rfl, in_g (List.mem_append_left _ (List.mem_of_getElem? (l := k2_sels lw_privs) (i := 44) rfl)) rfl⟩⟩
set_option maxRecDepth 20000 in
theorem q_X8_readLine_92 : zCs m_X8_readLine 92 m_X8_in 3 := ⟨⟨cc_X8_in.1, cc_X8_in.2.1, cc_X8_in.2.2.1, cc_X8_in.2.2.2, ⟨by decide, by decide⟩⟩, in_g (up_4 (List.mem_of_getElem? (i := 130) rfl)) rfl, in_g (up_4 (List.mem_of_getElem? (i := 131) rfl)) rfl⟩
set_option maxRecDepth 20000 in
theorem q_X8_readLine_141 : zCv m_X8_readLine 141 m_X8_needs 8 2 := ⟨⟨cc_X8_needs.1, cc_X8_needs.2.1, cc_X8_needs.2.2.1, cc_X8_needs.2.2.2, ⟨by decide, by decide⟩⟩, in_g (up_5 (List.mem_of_getElem? (i := 31) rfl)) rfl, in_g (up_5 (List.mem_of_getElem? (i := 33) rfl)) rfl, ⟨_, _, _, rfl, in_g (List.mem_append_left _ (List.mem_of_getElem? (l := k2_sels lw_privs) (i := 42) rfl)) rfl⟩⟩
set_option maxRecDepth 20000 in
theorem q_X8_readLine_149 : zCv m_X8_readLine 149 m_X8_next 8 0 := ⟨⟨cc_X8_next.1, cc_X8_next.2.1, cc_X8_next.2.2.1, cc_X8_next.2.2.2, ⟨by decide, by decide⟩⟩, in_g (up_5 (List.mem_of_getElem? (i := 19) rfl)) rfl, in_g (up_5 (List.mem_of_getElem? (i := 21) rfl)) rfl, ⟨_, _, _, rfl, in_g (List.mem_append_left _ (List.mem_of_getElem? (l := k2_sels lw_privs) (i := 40) rfl)) rfl⟩⟩
set_option maxRecDepth 20000 in
theorem q_X8_readLine_165 : zCv m_X8_readLine 165 m_X8_readRow 8 0 := ⟨⟨cc_X8_readRow.1, cc_X8_readRow.2.1, cc_X8_readRow.2.2.1, cc_X8_readRow.2.2.2, ⟨by decide, by decide⟩⟩, in_g (up_5 (List.mem_of_getElem? (i := 48) rfl)) rfl, in_g (up_5 (List.mem_of_getElem? (i := 50) rfl)) rfl, ⟨_, _, _, rfl, in_g (List.mem_append_left _ (List.mem_of_getElem? (l := k2_sels lw_privs) (i := 46) rfl)) rfl⟩⟩
set_option maxRecDepth 20000 in
theorem q_X8_readLine_168 : zCv m_X8_readLine 168 m_X8_readWell 8 1 := ⟨⟨cc_X8_readWell.1, cc_X8_readWell.2.1, cc_X8_readWell.2.2.1, cc_X8_readWell.2.2.2, ⟨by decide, by decide⟩⟩, in_g (up_5 (List.mem_of_getElem? (i := 60) rfl)) rfl, in_g (up_5 (List.mem_of_getElem? (i := 62) rfl)) rfl, ⟨_, _, _, rfl, in_g (List.mem_append_left _ (List.mem_of_getElem? (l := k2_sels lw_privs) (i := 49) rfl)) rfl⟩⟩
set_option maxRecDepth 20000 in
theorem q_X8_readLine_172 : zCv m_X8_readLine 172 m_X8_readRule 8 1 := ⟨⟨cc_X8_readRule.1, cc_X8_readRule.2.1, cc_X8_readRule.2.2.1, cc_X8_readRule.2.2.2, ⟨by decide, by decide⟩⟩, in_g (up_5 (List.mem_of_getElem? (i := 64) rfl)) rfl, in_g (up_5 (List.mem_of_getElem? (i := 66) rfl)) rfl, ⟨_, _, _, rfl, in_g (List.mem_append_left _ (List.mem_of_getElem? (l := k2_sels lw_privs) (i := 50) rfl)) rfl⟩⟩
set_option maxRecDepth 20000 in
theorem q_X8_text_72 : zCv m_X8_text 72 m_X8_firstDraft 8 0 := ⟨⟨cc_X8_firstDraft.1, cc_X8_firstDraft.2.1, cc_X8_firstDraft.2.2.1, cc_X8_firstDraft.2.2.2, ⟨by decide, by decide⟩⟩, in_g (up_4 (List.mem_of_getElem? (i := 120) rfl)) rfl, in_g (up_4 (List.mem_of_getElem? (i := 122) rfl)) rfl, ⟨_, _, _, rfl, in_g (List.mem_append_left _ (List.mem_of_getElem? (l := k2_sels lw_privs) (i := 37) rfl)) rfl⟩⟩
set_option maxRecDepth 20000 in
theorem q_X8_text_149 : zCv m_X8_text 149 m_X8_next 8 0 := ⟨⟨cc_X8_next.1, cc_X8_next.2.1, cc_X8_next.2.2.1, cc_X8_next.2.2.2, ⟨by decide, by decide⟩⟩, in_g (up_5 (List.mem_of_getElem? (i := 19) rfl)) rfl, in_g (up_5 (List.mem_of_getElem? (i := 21) rfl)) rfl, ⟨_, _, _, rfl, in_g (List.mem_append_left _ (List.mem_of_getElem? (l := k2_sels lw_privs) (i := 40) rfl)) rfl⟩⟩
set_option maxRecDepth 20000 in
theorem q_X8_text_176 : zCv m_X8_text 176 m_X8_readLine 8 0 := ⟨⟨cc_X8_readLine.1, cc_X8_readLine.2.1, cc_X8_readLine.2.2.1, cc_X8_readLine.2.2.2, ⟨by decide, by decide⟩⟩, in_g (up_5 (List.mem_of_getElem? (i := 35) rfl)) rfl, in_g (up_5 (List.mem_of_getElem? (i := 37) rfl)) rfl, ⟨_, _, _, rfl, in_g (List.mem_append_left _ (List.mem_of_getElem? (l := k2_sels lw_privs) (i := 43) rfl)) rfl⟩⟩
set_option maxRecDepth 20000 in
theorem q_X8_text_141 : zCv m_X8_text 141 m_X8_needs 8 2 := ⟨⟨cc_X8_needs.1, cc_X8_needs.2.1, cc_X8_needs.2.2.1, cc_X8_needs.2.2.2, ⟨by decide, by decide⟩⟩, in_g (up_5 (List.mem_of_getElem? (i := 31) rfl)) rfl, in_g (up_5 (List.mem_of_getElem? (i := 33) rfl)) rfl, ⟨_, _, _, rfl, in_g (List.mem_append_left _ (List.mem_of_getElem? (l := k2_sels lw_privs) (i := 42) rfl)) rfl⟩⟩
set_option maxRecDepth 20000 in
theorem q_X8_text_75 : zCv m_X8_text 75 m_X8_keepDraft 8 0 := ⟨⟨cc_X8_keepDraft.1, cc_X8_keepDraft.2.1, cc_X8_keepDraft.2.2.1, cc_X8_keepDraft.2.2.2, ⟨by decide, by decide⟩⟩, in_g (up_4 (List.mem_of_getElem? (i := 124) rfl)) rfl, in_g (up_4 (List.mem_of_getElem? (i := 126) rfl)) rfl, ⟨_, _, _, rfl, in_g (List.mem_append_left _ (List.mem_of_getElem? (l := k2_sels lw_privs) (i := 38) rfl)) rfl⟩⟩
set_option maxRecDepth 20000 in
theorem q_X8_rule_92 : zCs m_X8_rule 92 m_X8_in 3 := ⟨⟨cc_X8_in.1, cc_X8_in.2.1, cc_X8_in.2.2.1, cc_X8_in.2.2.2, ⟨by decide, by decide⟩⟩, in_g (up_4 (List.mem_of_getElem? (i := 130) rfl)) rfl, in_g (up_4 (List.mem_of_getElem? (i := 131) rfl)) rfl⟩
set_option maxRecDepth 20000 in
theorem q_X8_isWell_92 : zCs m_X8_isWell 92 m_X8_in 3 := ⟨⟨cc_X8_in.1, cc_X8_in.2.1, cc_X8_in.2.2.1, cc_X8_in.2.2.2, ⟨by decide, by decide⟩⟩, in_g (up_4 (List.mem_of_getElem? (i := 130) rfl)) rfl, in_g (up_4 (List.mem_of_getElem? (i := 131) rfl)) rfl⟩
set_option maxRecDepth 20000 in
theorem q_X8_well_183 : zCs m_X8_well 183 m_X8_isWell 1 := ⟨⟨cc_X8_isWell.1, cc_X8_isWell.2.1, cc_X8_isWell.2.2.1, cc_X8_isWell.2.2.2, ⟨by decide, by decide⟩⟩, in_g (up_5 (List.mem_of_getElem? (i := 85) rfl)) rfl, in_g (up_5 (List.mem_of_getElem? (i := 86) rfl)) rfl⟩
set_option maxRecDepth 20000 in
theorem q_X8_well_92 : zCs m_X8_well 92 m_X8_in 3 := ⟨⟨cc_X8_in.1, cc_X8_in.2.1, cc_X8_in.2.2.1, cc_X8_in.2.2.2, ⟨by decide, by decide⟩⟩, in_g (up_4 (List.mem_of_getElem? (i := 130) rfl)) rfl, in_g (up_4 (List.mem_of_getElem? (i := 131) rfl)) rfl⟩
set_option maxRecDepth 20000 in
theorem q_X8_light_183 : zCs m_X8_light 183 m_X8_isWell 1 := ⟨⟨cc_X8_isWell.1, cc_X8_isWell.2.1, cc_X8_isWell.2.2.1, cc_X8_isWell.2.2.2, ⟨by decide, by decide⟩⟩, in_g (up_5 (List.mem_of_getElem? (i := 85) rfl)) rfl, in_g (up_5 (List.mem_of_getElem? (i := 86) rfl)) rfl⟩
set_option maxRecDepth 20000 in
theorem q_X8_light_92 : zCs m_X8_light 92 m_X8_in 3 := ⟨⟨cc_X8_in.1, cc_X8_in.2.1, cc_X8_in.2.2.1, cc_X8_in.2.2.2, ⟨by decide, by decide⟩⟩, in_g (up_4 (List.mem_of_getElem? (i := 130) rfl)) rfl, in_g (up_4 (List.mem_of_getElem? (i := 131) rfl)) rfl⟩
set_option maxRecDepth 20000 in
theorem q_X8_flows_183 : zCs m_X8_flows 183 m_X8_isWell 1 := ⟨⟨cc_X8_isWell.1, cc_X8_isWell.2.1, cc_X8_isWell.2.2.1, cc_X8_isWell.2.2.2, ⟨by decide, by decide⟩⟩, in_g (up_5 (List.mem_of_getElem? (i := 85) rfl)) rfl, in_g (up_5 (List.mem_of_getElem? (i := 86) rfl)) rfl⟩
set_option maxRecDepth 20000 in
theorem q_X8_flows_191 : zCs m_X8_flows 191 m_X8_less 2 := ⟨⟨cc_X8_less.1, cc_X8_less.2.1, cc_X8_less.2.2.1, cc_X8_less.2.2.2, ⟨by decide, by decide⟩⟩, in_g (up_5 (List.mem_of_getElem? (i := 120) rfl)) rfl, in_g (up_5 (List.mem_of_getElem? (i := 121) rfl)) rfl⟩
set_option maxRecDepth 20000 in
theorem q_X8_runsOver_194 : zCv m_X8_runsOver 194 m_X8_flows 8 3 := ⟨⟨cc_X8_flows.1, cc_X8_flows.2.1, cc_X8_flows.2.2.1, cc_X8_flows.2.2.2, ⟨by decide, by decide⟩⟩, in_g (up_5 (List.mem_of_getElem? (i := 116) rfl)) rfl, in_g (up_5 (List.mem_of_getElem? (i := 118) rfl)) rfl, ⟨_, _, _, rfl, in_g (List.mem_append_left _ (List.mem_of_getElem? (l := k2_sels lw_privs) (i := 56) rfl)) rfl⟩⟩
set_option maxRecDepth 20000 in
theorem q_X8_runsOver_198 : zCv m_X8_runsOver 198 m_X8_adds 8 3 := ⟨⟨cc_X8_adds.1, cc_X8_adds.2.1, cc_X8_adds.2.2.1, cc_X8_adds.2.2.2, ⟨by decide, by decide⟩⟩, in_g (up_5 (List.mem_of_getElem? (i := 108) rfl)) rfl, in_g (up_5 (List.mem_of_getElem? (i := 110) rfl)) rfl, ⟨_, _, _, rfl, in_g (List.mem_append_left _ (List.mem_of_getElem? (l := k2_sels lw_privs) (i := 54) rfl)) rfl⟩⟩
set_option maxRecDepth 20000 in
theorem q_X8_comes_198 : zCv m_X8_comes 198 m_X8_adds 8 3 := ⟨⟨cc_X8_adds.1, cc_X8_adds.2.1, cc_X8_adds.2.2.1, cc_X8_adds.2.2.2, ⟨by decide, by decide⟩⟩, in_g (up_5 (List.mem_of_getElem? (i := 108) rfl)) rfl, in_g (up_5 (List.mem_of_getElem? (i := 110) rfl)) rfl, ⟨_, _, _, rfl, in_g (List.mem_append_left _ (List.mem_of_getElem? (l := k2_sels lw_privs) (i := 54) rfl)) rfl⟩⟩
set_option maxRecDepth 20000 in
theorem q_X8_expose_92 : zCs m_X8_expose 92 m_X8_in 3 := ⟨⟨cc_X8_in.1, cc_X8_in.2.1, cc_X8_in.2.2.1, cc_X8_in.2.2.2, ⟨by decide, by decide⟩⟩, in_g (up_4 (List.mem_of_getElem? (i := 130) rfl)) rfl, in_g (up_4 (List.mem_of_getElem? (i := 131) rfl)) rfl⟩
set_option maxRecDepth 20000 in
theorem q_X8_expose_204 : zCv m_X8_expose 204 m_X8_rateOf 8 1 := ⟨⟨cc_X8_rateOf.1, cc_X8_rateOf.2.1, cc_X8_rateOf.2.2.1, cc_X8_rateOf.2.2.2, ⟨by decide, by decide⟩⟩, in_g (up_5 (List.mem_of_getElem? (i := 100) rfl)) rfl, in_g (up_5 (List.mem_of_getElem? (i := 102) rfl)) rfl, ⟨_, _, _, rfl, in_g (List.mem_append_left _ (List.mem_of_getElem? (l := k2_sels lw_privs) (i := 52) rfl)) rfl⟩⟩
set_option maxRecDepth 20000 in
theorem q_X8_expose_207 : zCv m_X8_expose 207 m_X8_comes 8 3 := ⟨⟨cc_X8_comes.1, cc_X8_comes.2.1, cc_X8_comes.2.2.1, cc_X8_comes.2.2.2, ⟨by decide, by decide⟩⟩, in_g (up_5 (List.mem_of_getElem? (i := 104) rfl)) rfl, in_g (up_5 (List.mem_of_getElem? (i := 106) rfl)) rfl, ⟨_, _, _, rfl, in_g (List.mem_append_left _ (List.mem_of_getElem? (l := k2_sels lw_privs) (i := 53) rfl)) rfl⟩⟩
set_option maxRecDepth 20000 in
theorem q_X8_expose_210 : zCv m_X8_expose 210 m_X8_runsOver 8 1 := ⟨⟨cc_X8_runsOver.1, cc_X8_runsOver.2.1, cc_X8_runsOver.2.2.1, cc_X8_runsOver.2.2.2, ⟨by decide, by decide⟩⟩, in_g (up_5 (List.mem_of_getElem? (i := 112) rfl)) rfl, in_g (up_5 (List.mem_of_getElem? (i := 114) rfl)) rfl, ⟨_, _, _, rfl, in_g (List.mem_append_left _ (List.mem_of_getElem? (l := k2_sels lw_privs) (i := 55) rfl)) rfl⟩⟩
set_option maxRecDepth 20000 in
theorem q_X8_expose_213 : zCv m_X8_expose 213 m_X8_sumOf 8 2 := ⟨⟨cc_X8_sumOf.1, cc_X8_sumOf.2.1, cc_X8_sumOf.2.2.1, cc_X8_sumOf.2.2.2, ⟨by decide, by decide⟩⟩, in_g (up_5 (List.mem_of_getElem? (i := 123) rfl)) rfl, in_g (up_5 (List.mem_of_getElem? (i := 125) rfl)) rfl, ⟨_, _, _, rfl, in_g (List.mem_append_left _ (List.mem_of_getElem? (l := k2_sels lw_privs) (i := 57) rfl)) rfl⟩⟩
set_option maxRecDepth 20000 in
theorem q_X8_toLine_198 : zCv m_X8_toLine 198 m_X8_adds 8 3 := ⟨⟨cc_X8_adds.1, cc_X8_adds.2.1, cc_X8_adds.2.2.1, cc_X8_adds.2.2.2, ⟨by decide, by decide⟩⟩, in_g (up_5 (List.mem_of_getElem? (i := 108) rfl)) rfl, in_g (up_5 (List.mem_of_getElem? (i := 110) rfl)) rfl, ⟨_, _, _, rfl, in_g (List.mem_append_left _ (List.mem_of_getElem? (l := k2_sels lw_privs) (i := 54) rfl)) rfl⟩⟩
set_option maxRecDepth 20000 in
theorem q_X8_traps_191 : zCs m_X8_traps 191 m_X8_less 2 := ⟨⟨cc_X8_less.1, cc_X8_less.2.1, cc_X8_less.2.2.1, cc_X8_less.2.2.2, ⟨by decide, by decide⟩⟩, in_g (up_5 (List.mem_of_getElem? (i := 120) rfl)) rfl, in_g (up_5 (List.mem_of_getElem? (i := 121) rfl)) rfl⟩
set_option maxRecDepth 20000 in
theorem q_X8_handsDown_216 : zCv m_X8_handsDown 216 m_X8_toLine 8 3 := ⟨⟨cc_X8_toLine.1, cc_X8_toLine.2.1, cc_X8_toLine.2.2.1, cc_X8_toLine.2.2.2, ⟨by decide, by decide⟩⟩, in_g (up_5 (List.mem_of_getElem? (i := 135) rfl)) rfl, in_g (up_5 (List.mem_of_getElem? (i := 137) rfl)) rfl, ⟨_, _, _, rfl, in_g (List.mem_append_left _ (List.mem_of_getElem? (l := k2_sels lw_privs) (i := 59) rfl)) rfl⟩⟩
set_option maxRecDepth 20000 in
theorem q_X8_handsDown_219 : zCv m_X8_handsDown 219 m_X8_traps 8 2 := ⟨⟨cc_X8_traps.1, cc_X8_traps.2.1, cc_X8_traps.2.2.1, cc_X8_traps.2.2.2, ⟨by decide, by decide⟩⟩, in_g (up_5 (List.mem_of_getElem? (i := 139) rfl)) rfl, in_g (up_5 (List.mem_of_getElem? (i := 141) rfl)) rfl, ⟨_, _, _, rfl, in_g (List.mem_append_left _ (List.mem_of_getElem? (l := k2_sels lw_privs) (i := 60) rfl)) rfl⟩⟩
set_option maxRecDepth 20000 in
theorem q_X8_handsDown_207 : zCv m_X8_handsDown 207 m_X8_comes 8 3 := ⟨⟨cc_X8_comes.1, cc_X8_comes.2.1, cc_X8_comes.2.2.1, cc_X8_comes.2.2.2, ⟨by decide, by decide⟩⟩, in_g (up_5 (List.mem_of_getElem? (i := 104) rfl)) rfl, in_g (up_5 (List.mem_of_getElem? (i := 106) rfl)) rfl, ⟨_, _, _, rfl, in_g (List.mem_append_left _ (List.mem_of_getElem? (l := k2_sels lw_privs) (i := 53) rfl)) rfl⟩⟩
set_option maxRecDepth 20000 in
theorem q_X8_handsDown_210 : zCv m_X8_handsDown 210 m_X8_runsOver 8 1 := ⟨⟨cc_X8_runsOver.1, cc_X8_runsOver.2.1, cc_X8_runsOver.2.2.1, cc_X8_runsOver.2.2.2, ⟨by decide, by decide⟩⟩, in_g (up_5 (List.mem_of_getElem? (i := 112) rfl)) rfl, in_g (up_5 (List.mem_of_getElem? (i := 114) rfl)) rfl, ⟨_, _, _, rfl, in_g (List.mem_append_left _ (List.mem_of_getElem? (l := k2_sels lw_privs) (i := 55) rfl)) rfl⟩⟩
set_option maxRecDepth 20000 in
theorem q_X8_lineSum_213 : zCv m_X8_lineSum 213 m_X8_sumOf 8 2 := ⟨⟨cc_X8_sumOf.1, cc_X8_sumOf.2.1, cc_X8_sumOf.2.2.1, cc_X8_sumOf.2.2.2, ⟨by decide, by decide⟩⟩, in_g (up_5 (List.mem_of_getElem? (i := 123) rfl)) rfl, in_g (up_5 (List.mem_of_getElem? (i := 125) rfl)) rfl, ⟨_, _, _, rfl, in_g (List.mem_append_left _ (List.mem_of_getElem? (l := k2_sels lw_privs) (i := 57) rfl)) rfl⟩⟩
set_option maxRecDepth 20000 in
theorem q_X8_down_222 : zCv m_X8_down 222 m_X8_handsDown 8 3 := ⟨⟨cc_X8_handsDown.1, cc_X8_handsDown.2.1, cc_X8_handsDown.2.2.1, cc_X8_handsDown.2.2.2, ⟨by decide, by decide⟩⟩, in_g (up_5 (List.mem_of_getElem? (i := 131) rfl)) rfl, in_g (up_5 (List.mem_of_getElem? (i := 133) rfl)) rfl, ⟨_, _, _, rfl, in_g (List.mem_append_left _ (List.mem_of_getElem? (l := k2_sels lw_privs) (i := 58) rfl)) rfl⟩⟩
set_option maxRecDepth 20000 in
theorem q_X8_down_226 : zCv m_X8_down 226 m_X8_lineSum 8 1 := ⟨⟨cc_X8_lineSum.1, cc_X8_lineSum.2.1, cc_X8_lineSum.2.2.1, cc_X8_lineSum.2.2.2, ⟨by decide, by decide⟩⟩, in_g (up_5 (List.mem_of_getElem? (i := 143) rfl)) rfl, in_g (up_5 (List.mem_of_getElem? (i := 145) rfl)) rfl, ⟨_, _, _, rfl, in_g (List.mem_append_left _ (List.mem_of_getElem? (l := k2_sels lw_privs) (i := 61) rfl)) rfl⟩⟩
set_option maxRecDepth 20000 in
theorem q_X8_takes_198 : zCv m_X8_takes 198 m_X8_adds 8 3 := ⟨⟨cc_X8_adds.1, cc_X8_adds.2.1, cc_X8_adds.2.2.1, cc_X8_adds.2.2.2, ⟨by decide, by decide⟩⟩, in_g (up_5 (List.mem_of_getElem? (i := 108) rfl)) rfl, in_g (up_5 (List.mem_of_getElem? (i := 110) rfl)) rfl, ⟨_, _, _, rfl, in_g (List.mem_append_left _ (List.mem_of_getElem? (l := k2_sels lw_privs) (i := 54) rfl)) rfl⟩⟩
set_option maxRecDepth 20000 in
theorem q_X8_shadeOf_191 : zCs m_X8_shadeOf 191 m_X8_less 2 := ⟨⟨cc_X8_less.1, cc_X8_less.2.1, cc_X8_less.2.2.1, cc_X8_less.2.2.2, ⟨by decide, by decide⟩⟩, in_g (up_5 (List.mem_of_getElem? (i := 120) rfl)) rfl, in_g (up_5 (List.mem_of_getElem? (i := 121) rfl)) rfl⟩
set_option maxRecDepth 20000 in
theorem q_X8_read_229 : zCv m_X8_read 229 m_X8_takes 8 1 := ⟨⟨cc_X8_takes.1, cc_X8_takes.2.1, cc_X8_takes.2.2.1, cc_X8_takes.2.2.2, ⟨by decide, by decide⟩⟩, in_g (up_5 (List.mem_of_getElem? (i := 151) rfl)) rfl, in_g (up_5 (List.mem_of_getElem? (i := 153) rfl)) rfl, ⟨_, _, _, rfl, in_g (List.mem_append_left _ (List.mem_of_getElem? (l := k2_sels lw_privs) (i := 62) rfl)) rfl⟩⟩
set_option maxRecDepth 20000 in
theorem q_X8_read_232 : zCv m_X8_read 232 m_X8_shadeOf 8 1 := ⟨⟨cc_X8_shadeOf.1, cc_X8_shadeOf.2.1, cc_X8_shadeOf.2.2.1, cc_X8_shadeOf.2.2.2, ⟨by decide, by decide⟩⟩, in_g (up_5 (List.mem_of_getElem? (i := 155) rfl)) rfl, in_g (up_5 (List.mem_of_getElem? (i := 157) rfl)) rfl, ⟨_, _, _, rfl, in_g (List.mem_append_left _ (List.mem_of_getElem? (l := k2_sels lw_privs) (i := 63) rfl)) rfl⟩⟩
set_option maxRecDepth 20000 in
theorem q_X8_line_92 : zCs m_X8_line 92 m_X8_in 3 := ⟨⟨cc_X8_in.1, cc_X8_in.2.1, cc_X8_in.2.2.1, cc_X8_in.2.2.2, ⟨by decide, by decide⟩⟩, in_g (up_4 (List.mem_of_getElem? (i := 130) rfl)) rfl, in_g (up_4 (List.mem_of_getElem? (i := 131) rfl)) rfl⟩
set_option maxRecDepth 20000 in
theorem q_X8_now_237 : zCs m_X8_now 237 m_X8_flag 1 := ⟨⟨cc_X8_flag.1, cc_X8_flag.2.1, cc_X8_flag.2.2.1, cc_X8_flag.2.2.2, ⟨by decide, by decide⟩⟩, in_g (up_5 (List.mem_of_getElem? (i := 168) rfl)) rfl, in_g (up_5 (List.mem_of_getElem? (i := 169) rfl)) rfl⟩
set_option maxRecDepth 20000 in
theorem q_X8_now_213 : zCv m_X8_now 213 m_X8_sumOf 8 2 := ⟨⟨cc_X8_sumOf.1, cc_X8_sumOf.2.1, cc_X8_sumOf.2.2.1, cc_X8_sumOf.2.2.2, ⟨by decide, by decide⟩⟩, in_g (up_5 (List.mem_of_getElem? (i := 123) rfl)) rfl, in_g (up_5 (List.mem_of_getElem? (i := 125) rfl)) rfl, ⟨_, _, _, rfl, in_g (List.mem_append_left _ (List.mem_of_getElem? (l := k2_sels lw_privs) (i := 57) rfl)) rfl⟩⟩
set_option maxRecDepth 20000 in
theorem q_X8_now_226 : zCv m_X8_now 226 m_X8_lineSum 8 1 := ⟨⟨cc_X8_lineSum.1, cc_X8_lineSum.2.1, cc_X8_lineSum.2.2.1, cc_X8_lineSum.2.2.2, ⟨by decide, by decide⟩⟩, in_g (up_5 (List.mem_of_getElem? (i := 143) rfl)) rfl, in_g (up_5 (List.mem_of_getElem? (i := 145) rfl)) rfl, ⟨_, _, _, rfl, in_g (List.mem_append_left _ (List.mem_of_getElem? (l := k2_sels lw_privs) (i := 61) rfl)) rfl⟩⟩
set_option maxRecDepth 20000 in
theorem q_X8_clear_213 : zCv m_X8_clear 213 m_X8_sumOf 8 2 := ⟨⟨cc_X8_sumOf.1, cc_X8_sumOf.2.1, cc_X8_sumOf.2.2.1, cc_X8_sumOf.2.2.2, ⟨by decide, by decide⟩⟩, in_g (up_5 (List.mem_of_getElem? (i := 123) rfl)) rfl, in_g (up_5 (List.mem_of_getElem? (i := 125) rfl)) rfl, ⟨_, _, _, rfl, in_g (List.mem_append_left _ (List.mem_of_getElem? (l := k2_sels lw_privs) (i := 57) rfl)) rfl⟩⟩
set_option maxRecDepth 20000 in
theorem q_X8_clear_92 : zCs m_X8_clear 92 m_X8_in 3 := ⟨⟨cc_X8_in.1, cc_X8_in.2.1, cc_X8_in.2.2.1, cc_X8_in.2.2.2, ⟨by decide, by decide⟩⟩, in_g (up_4 (List.mem_of_getElem? (i := 130) rfl)) rfl, in_g (up_4 (List.mem_of_getElem? (i := 131) rfl)) rfl⟩
set_option maxRecDepth 20000 in
theorem q_X8_clear_96 : zCv m_X8_clear 96 m_X8_clearSums 8 0 := ⟨⟨cc_X8_clearSums.1, cc_X8_clearSums.2.1, cc_X8_clearSums.2.2.1, cc_X8_clearSums.2.2.2, ⟨by decide, by decide⟩⟩, in_g (up_4 (List.mem_of_getElem? (i := 133) rfl)) rfl, in_g (up_4 (List.mem_of_getElem? (i := 135) rfl)) rfl, ⟨_, _, _, rfl, in_g (List.mem_append_left _ (List.mem_of_getElem? (l := k2_sels lw_privs) (i := 39) rfl)) rfl⟩⟩
set_option maxRecDepth 20000 in
theorem q_X8_shoots_243 : zCv m_X8_shoots 243 m_X8_copies 8 2 := ⟨⟨cc_X8_copies.1, cc_X8_copies.2.1, cc_X8_copies.2.2.1, cc_X8_copies.2.2.2, ⟨by decide, by decide⟩⟩, in_g (up_5 (List.mem_of_getElem? (i := 188) rfl)) rfl, in_g (up_5 (List.mem_of_getElem? (i := 190) rfl)) rfl, ⟨_, _, _, rfl, in_g (List.mem_append_left _ (List.mem_of_getElem? (l := k2_sels lw_privs) (i := 65) rfl)) rfl⟩⟩
set_option maxRecDepth 20000 in
theorem q_X8_shoots_222 : zCv m_X8_shoots 222 m_X8_handsDown 8 3 := ⟨⟨cc_X8_handsDown.1, cc_X8_handsDown.2.1, cc_X8_handsDown.2.2.1, cc_X8_handsDown.2.2.2, ⟨by decide, by decide⟩⟩, in_g (up_5 (List.mem_of_getElem? (i := 131) rfl)) rfl, in_g (up_5 (List.mem_of_getElem? (i := 133) rfl)) rfl, ⟨_, _, _, rfl, in_g (List.mem_append_left _ (List.mem_of_getElem? (l := k2_sels lw_privs) (i := 58) rfl)) rfl⟩⟩
set_option maxRecDepth 20000 in
theorem q_X8_shoots_229 : zCv m_X8_shoots 229 m_X8_takes 8 1 := ⟨⟨cc_X8_takes.1, cc_X8_takes.2.1, cc_X8_takes.2.2.1, cc_X8_takes.2.2.2, ⟨by decide, by decide⟩⟩, in_g (up_5 (List.mem_of_getElem? (i := 151) rfl)) rfl, in_g (up_5 (List.mem_of_getElem? (i := 153) rfl)) rfl, ⟨_, _, _, rfl, in_g (List.mem_append_left _ (List.mem_of_getElem? (l := k2_sels lw_privs) (i := 62) rfl)) rfl⟩⟩
set_option maxRecDepth 20000 in
theorem q_X8_shoots_232 : zCv m_X8_shoots 232 m_X8_shadeOf 8 1 := ⟨⟨cc_X8_shadeOf.1, cc_X8_shadeOf.2.1, cc_X8_shadeOf.2.2.1, cc_X8_shadeOf.2.2.2, ⟨by decide, by decide⟩⟩, in_g (up_5 (List.mem_of_getElem? (i := 155) rfl)) rfl, in_g (up_5 (List.mem_of_getElem? (i := 157) rfl)) rfl, ⟨_, _, _, rfl, in_g (List.mem_append_left _ (List.mem_of_getElem? (l := k2_sels lw_privs) (i := 63) rfl)) rfl⟩⟩
set_option maxRecDepth 20000 in
theorem q_X8_isPicture_92 : zCs m_X8_isPicture 92 m_X8_in 3 := ⟨⟨cc_X8_in.1, cc_X8_in.2.1, cc_X8_in.2.2.1, cc_X8_in.2.2.2, ⟨by decide, by decide⟩⟩, in_g (up_4 (List.mem_of_getElem? (i := 130) rfl)) rfl, in_g (up_4 (List.mem_of_getElem? (i := 131) rfl)) rfl⟩
set_option maxRecDepth 20000 in
theorem q_X8_picture_254 : zCs m_X8_picture 254 m_X8_isPicture 2 := ⟨⟨cc_X8_isPicture.1, cc_X8_isPicture.2.1, cc_X8_isPicture.2.2.1, cc_X8_isPicture.2.2.2, ⟨by decide, by decide⟩⟩, in_g (up_5 (List.mem_of_getElem? (i := 180) rfl)) rfl, in_g (up_5 (List.mem_of_getElem? (i := 181) rfl)) rfl⟩
set_option maxRecDepth 20000 in
theorem q_X8_picture_92 : zCs m_X8_picture 92 m_X8_in 3 := ⟨⟨cc_X8_in.1, cc_X8_in.2.1, cc_X8_in.2.2.1, cc_X8_in.2.2.2, ⟨by decide, by decide⟩⟩, in_g (up_4 (List.mem_of_getElem? (i := 130) rfl)) rfl, in_g (up_4 (List.mem_of_getElem? (i := 131) rfl)) rfl⟩
set_option maxRecDepth 20000 in
theorem q_X8_picture_258 : zCv m_X8_picture 258 m_X8_shoots 8 4 := ⟨⟨cc_X8_shoots.1, cc_X8_shoots.2.1, cc_X8_shoots.2.2.1, cc_X8_shoots.2.2.2, ⟨by decide, by decide⟩⟩, in_g (up_5 (List.mem_of_getElem? (i := 184) rfl)) rfl, in_g (up_5 (List.mem_of_getElem? (i := 186) rfl)) rfl, ⟨_, _, _, rfl, in_g (List.mem_append_left _ (List.mem_of_getElem? (l := k2_sels lw_privs) (i := 64) rfl)) rfl⟩⟩
set_option maxRecDepth 20000 in
theorem q_X8_shades_254 : zCs m_X8_shades 254 m_X8_isPicture 2 := ⟨⟨cc_X8_isPicture.1, cc_X8_isPicture.2.1, cc_X8_isPicture.2.2.1, cc_X8_isPicture.2.2.2, ⟨by decide, by decide⟩⟩, in_g (up_5 (List.mem_of_getElem? (i := 180) rfl)) rfl, in_g (up_5 (List.mem_of_getElem? (i := 181) rfl)) rfl⟩
set_option maxRecDepth 20000 in
theorem q_X8_shades_92 : zCs m_X8_shades 92 m_X8_in 3 := ⟨⟨cc_X8_in.1, cc_X8_in.2.1, cc_X8_in.2.2.1, cc_X8_in.2.2.2, ⟨by decide, by decide⟩⟩, in_g (up_4 (List.mem_of_getElem? (i := 130) rfl)) rfl, in_g (up_4 (List.mem_of_getElem? (i := 131) rfl)) rfl⟩
set_option maxRecDepth 20000 in
theorem q_X8_shades_258 : zCv m_X8_shades 258 m_X8_shoots 8 4 := ⟨⟨cc_X8_shoots.1, cc_X8_shoots.2.1, cc_X8_shoots.2.2.1, cc_X8_shoots.2.2.2, ⟨by decide, by decide⟩⟩, in_g (up_5 (List.mem_of_getElem? (i := 184) rfl)) rfl, in_g (up_5 (List.mem_of_getElem? (i := 186) rfl)) rfl, ⟨_, _, _, rfl, in_g (List.mem_append_left _ (List.mem_of_getElem? (l := k2_sels lw_privs) (i := 64) rfl)) rfl⟩⟩
set_option maxRecDepth 20000 in
theorem q_X8_shades_191 : zCs m_X8_shades 191 m_X8_less 2 := ⟨⟨cc_X8_less.1, cc_X8_less.2.1, cc_X8_less.2.2.1, cc_X8_less.2.2.2, ⟨by decide, by decide⟩⟩, in_g (up_5 (List.mem_of_getElem? (i := 120) rfl)) rfl, in_g (up_5 (List.mem_of_getElem? (i := 121) rfl)) rfl⟩
set_option maxRecDepth 20000 in
theorem q_X8_shades_237 : zCs m_X8_shades 237 m_X8_flag 1 := ⟨⟨cc_X8_flag.1, cc_X8_flag.2.1, cc_X8_flag.2.2.1, cc_X8_flag.2.2.2, ⟨by decide, by decide⟩⟩, in_g (up_5 (List.mem_of_getElem? (i := 168) rfl)) rfl, in_g (up_5 (List.mem_of_getElem? (i := 169) rfl)) rfl⟩
set_option maxRecDepth 20000 in
theorem q_X8_late_92 : zCs m_X8_late 92 m_X8_in 3 := ⟨⟨cc_X8_in.1, cc_X8_in.2.1, cc_X8_in.2.2.1, cc_X8_in.2.2.2, ⟨by decide, by decide⟩⟩, in_g (up_4 (List.mem_of_getElem? (i := 130) rfl)) rfl, in_g (up_4 (List.mem_of_getElem? (i := 131) rfl)) rfl⟩
set_option maxRecDepth 20000 in
theorem q_X8_late_258 : zCv m_X8_late 258 m_X8_shoots 8 4 := ⟨⟨cc_X8_shoots.1, cc_X8_shoots.2.1, cc_X8_shoots.2.2.1, cc_X8_shoots.2.2.2, ⟨by decide, by decide⟩⟩, in_g (up_5 (List.mem_of_getElem? (i := 184) rfl)) rfl, in_g (up_5 (List.mem_of_getElem? (i := 186) rfl)) rfl, ⟨_, _, _, rfl, in_g (List.mem_append_left _ (List.mem_of_getElem? (l := k2_sels lw_privs) (i := 64) rfl)) rfl⟩⟩
set_option maxRecDepth 20000 in
theorem q_X8_late_222 : zCv m_X8_late 222 m_X8_handsDown 8 3 := ⟨⟨cc_X8_handsDown.1, cc_X8_handsDown.2.1, cc_X8_handsDown.2.2.1, cc_X8_handsDown.2.2.2, ⟨by decide, by decide⟩⟩, in_g (up_5 (List.mem_of_getElem? (i := 131) rfl)) rfl, in_g (up_5 (List.mem_of_getElem? (i := 133) rfl)) rfl, ⟨_, _, _, rfl, in_g (List.mem_append_left _ (List.mem_of_getElem? (l := k2_sels lw_privs) (i := 58) rfl)) rfl⟩⟩
set_option maxRecDepth 20000 in
theorem q_X8_smear_183 : zCs m_X8_smear 183 m_X8_isWell 1 := ⟨⟨cc_X8_isWell.1, cc_X8_isWell.2.1, cc_X8_isWell.2.2.1, cc_X8_isWell.2.2.2, ⟨by decide, by decide⟩⟩, in_g (up_5 (List.mem_of_getElem? (i := 85) rfl)) rfl, in_g (up_5 (List.mem_of_getElem? (i := 86) rfl)) rfl⟩
set_option maxRecDepth 20000 in
theorem q_X8_spoiled_92 : zCs m_X8_spoiled 92 m_X8_in 3 := ⟨⟨cc_X8_in.1, cc_X8_in.2.1, cc_X8_in.2.2.1, cc_X8_in.2.2.2, ⟨by decide, by decide⟩⟩, in_g (up_4 (List.mem_of_getElem? (i := 130) rfl)) rfl, in_g (up_4 (List.mem_of_getElem? (i := 131) rfl)) rfl⟩
set_option maxRecDepth 20000 in
theorem q_X8_spoiled_258 : zCv m_X8_spoiled 258 m_X8_shoots 8 4 := ⟨⟨cc_X8_shoots.1, cc_X8_shoots.2.1, cc_X8_shoots.2.2.1, cc_X8_shoots.2.2.2, ⟨by decide, by decide⟩⟩, in_g (up_5 (List.mem_of_getElem? (i := 184) rfl)) rfl, in_g (up_5 (List.mem_of_getElem? (i := 186) rfl)) rfl, ⟨_, _, _, rfl, in_g (List.mem_append_left _ (List.mem_of_getElem? (l := k2_sels lw_privs) (i := 64) rfl)) rfl⟩⟩
set_option maxRecDepth 20000 in
theorem q_X8_spoiled_237 : zCs m_X8_spoiled 237 m_X8_flag 1 := ⟨⟨cc_X8_flag.1, cc_X8_flag.2.1, cc_X8_flag.2.2.1, cc_X8_flag.2.2.2, ⟨by decide, by decide⟩⟩, in_g (up_5 (List.mem_of_getElem? (i := 168) rfl)) rfl, in_g (up_5 (List.mem_of_getElem? (i := 169) rfl)) rfl⟩
set_option maxRecDepth 20000 in
theorem q_X8_full_183 : zCs m_X8_full 183 m_X8_isWell 1 := ⟨⟨cc_X8_isWell.1, cc_X8_isWell.2.1, cc_X8_isWell.2.2.1, cc_X8_isWell.2.2.2, ⟨by decide, by decide⟩⟩, in_g (up_5 (List.mem_of_getElem? (i := 85) rfl)) rfl, in_g (up_5 (List.mem_of_getElem? (i := 86) rfl)) rfl⟩
set_option maxRecDepth 20000 in
theorem q_X8_full_204 : zCv m_X8_full 204 m_X8_rateOf 8 1 := ⟨⟨cc_X8_rateOf.1, cc_X8_rateOf.2.1, cc_X8_rateOf.2.2.1, cc_X8_rateOf.2.2.2, ⟨by decide, by decide⟩⟩, in_g (up_5 (List.mem_of_getElem? (i := 100) rfl)) rfl, in_g (up_5 (List.mem_of_getElem? (i := 102) rfl)) rfl, ⟨_, _, _, rfl, in_g (List.mem_append_left _ (List.mem_of_getElem? (l := k2_sels lw_privs) (i := 52) rfl)) rfl⟩⟩
set_option maxRecDepth 20000 in
theorem q_X8_longest_204 : zCv m_X8_longest 204 m_X8_rateOf 8 1 := ⟨⟨cc_X8_rateOf.1, cc_X8_rateOf.2.1, cc_X8_rateOf.2.2.1, cc_X8_rateOf.2.2.2, ⟨by decide, by decide⟩⟩, in_g (up_5 (List.mem_of_getElem? (i := 100) rfl)) rfl, in_g (up_5 (List.mem_of_getElem? (i := 102) rfl)) rfl, ⟨_, _, _, rfl, in_g (List.mem_append_left _ (List.mem_of_getElem? (l := k2_sels lw_privs) (i := 52) rfl)) rfl⟩⟩
set_option maxRecDepth 20000 in
theorem q_X8_longest_191 : zCs m_X8_longest 191 m_X8_less 2 := ⟨⟨cc_X8_less.1, cc_X8_less.2.1, cc_X8_less.2.2.1, cc_X8_less.2.2.2, ⟨by decide, by decide⟩⟩, in_g (up_5 (List.mem_of_getElem? (i := 120) rfl)) rfl, in_g (up_5 (List.mem_of_getElem? (i := 121) rfl)) rfl⟩
set_option maxRecDepth 20000 in
theorem q_X8_enough_92 : zCs m_X8_enough 92 m_X8_in 3 := ⟨⟨cc_X8_in.1, cc_X8_in.2.1, cc_X8_in.2.2.1, cc_X8_in.2.2.2, ⟨by decide, by decide⟩⟩, in_g (up_4 (List.mem_of_getElem? (i := 130) rfl)) rfl, in_g (up_4 (List.mem_of_getElem? (i := 131) rfl)) rfl⟩
set_option maxRecDepth 20000 in
theorem q_X8_enough_262 : zCv m_X8_enough 262 m_X8_longest 8 0 := ⟨⟨cc_X8_longest.1, cc_X8_longest.2.1, cc_X8_longest.2.2.1, cc_X8_longest.2.2.2, ⟨by decide, by decide⟩⟩, in_g (up_5 (List.mem_of_getElem? (i := 220) rfl)) rfl, in_g (up_5 (List.mem_of_getElem? (i := 213) rfl)) rfl, ⟨_, _, _, rfl, in_g (up_5 (List.mem_of_getElem? (i := 214) rfl)) rfl⟩⟩
set_option maxRecDepth 20000 in
theorem q_X8_enough_204 : zCv m_X8_enough 204 m_X8_rateOf 8 1 := ⟨⟨cc_X8_rateOf.1, cc_X8_rateOf.2.1, cc_X8_rateOf.2.2.1, cc_X8_rateOf.2.2.2, ⟨by decide, by decide⟩⟩, in_g (up_5 (List.mem_of_getElem? (i := 100) rfl)) rfl, in_g (up_5 (List.mem_of_getElem? (i := 102) rfl)) rfl, ⟨_, _, _, rfl, in_g (List.mem_append_left _ (List.mem_of_getElem? (l := k2_sels lw_privs) (i := 52) rfl)) rfl⟩⟩
set_option maxRecDepth 20000 in
theorem q_X8_hots_92 : zCs m_X8_hots 92 m_X8_in 3 := ⟨⟨cc_X8_in.1, cc_X8_in.2.1, cc_X8_in.2.2.1, cc_X8_in.2.2.2, ⟨by decide, by decide⟩⟩, in_g (up_4 (List.mem_of_getElem? (i := 130) rfl)) rfl, in_g (up_4 (List.mem_of_getElem? (i := 131) rfl)) rfl⟩
set_option maxRecDepth 20000 in
theorem q_X8_mended_183 : zCs m_X8_mended 183 m_X8_isWell 1 := ⟨⟨cc_X8_isWell.1, cc_X8_isWell.2.1, cc_X8_isWell.2.2.1, cc_X8_isWell.2.2.2, ⟨by decide, by decide⟩⟩, in_g (up_5 (List.mem_of_getElem? (i := 85) rfl)) rfl, in_g (up_5 (List.mem_of_getElem? (i := 86) rfl)) rfl⟩
set_option maxRecDepth 20000 in
theorem q_X8_isWord_267 : zCv m_X8_isWord 267 m_X8_full_ 8 0 := ⟨⟨cc_X8_full_.1, cc_X8_full_.2.1, cc_X8_full_.2.2.1, cc_X8_full_.2.2.2, ⟨by decide, by decide⟩⟩, in_g (up_5 (List.mem_of_getElem? (i := 238) rfl)) rfl, in_g (up_6 (List.mem_of_getElem? (i := 0) rfl)) rfl, ⟨_, _, _, rfl, in_g (List.mem_append_left _ (List.mem_of_getElem? (l := k2_sels lw_privs) (i := 67) rfl)) rfl⟩⟩
set_option maxRecDepth 20000 in
theorem q_X8_isWord_92 : zCs m_X8_isWord 92 m_X8_in 3 := ⟨⟨cc_X8_in.1, cc_X8_in.2.1, cc_X8_in.2.2.1, cc_X8_in.2.2.2, ⟨by decide, by decide⟩⟩, in_g (up_4 (List.mem_of_getElem? (i := 130) rfl)) rfl, in_g (up_4 (List.mem_of_getElem? (i := 131) rfl)) rfl⟩
set_option maxRecDepth 20000 in
theorem q_X8_isGood_270 : zCv m_X8_isGood 270 m_X8_isHigh 8 2 := ⟨⟨cc_X8_isHigh.1, cc_X8_isHigh.2.1, cc_X8_isHigh.2.2.1, cc_X8_isHigh.2.2.2, ⟨by decide, by decide⟩⟩, in_g (up_6 (List.mem_of_getElem? (i := 19) rfl)) rfl, in_g (up_6 (List.mem_of_getElem? (i := 21) rfl)) rfl, ⟨_, _, _, rfl, in_g (List.mem_append_left _ (List.mem_of_getElem? (l := k2_sels lw_privs) (i := 69) rfl)) rfl⟩⟩
set_option maxRecDepth 20000 in
theorem q_X8_isGood_237 : zCs m_X8_isGood 237 m_X8_flag 1 := ⟨⟨cc_X8_flag.1, cc_X8_flag.2.1, cc_X8_flag.2.2.1, cc_X8_flag.2.2.2, ⟨by decide, by decide⟩⟩, in_g (up_5 (List.mem_of_getElem? (i := 168) rfl)) rfl, in_g (up_5 (List.mem_of_getElem? (i := 169) rfl)) rfl⟩
set_option maxRecDepth 20000 in
theorem q_X8_beginOf_270 : zCv m_X8_beginOf 270 m_X8_isHigh 8 2 := ⟨⟨cc_X8_isHigh.1, cc_X8_isHigh.2.1, cc_X8_isHigh.2.2.1, cc_X8_isHigh.2.2.2, ⟨by decide, by decide⟩⟩, in_g (up_6 (List.mem_of_getElem? (i := 19) rfl)) rfl, in_g (up_6 (List.mem_of_getElem? (i := 21) rfl)) rfl, ⟨_, _, _, rfl, in_g (List.mem_append_left _ (List.mem_of_getElem? (l := k2_sels lw_privs) (i := 69) rfl)) rfl⟩⟩
set_option maxRecDepth 20000 in
theorem q_X8_findMeets_270 : zCv m_X8_findMeets 270 m_X8_isHigh 8 2 := ⟨⟨cc_X8_isHigh.1, cc_X8_isHigh.2.1, cc_X8_isHigh.2.2.1, cc_X8_isHigh.2.2.2, ⟨by decide, by decide⟩⟩, in_g (up_6 (List.mem_of_getElem? (i := 19) rfl)) rfl, in_g (up_6 (List.mem_of_getElem? (i := 21) rfl)) rfl, ⟨_, _, _, rfl, in_g (List.mem_append_left _ (List.mem_of_getElem? (l := k2_sels lw_privs) (i := 69) rfl)) rfl⟩⟩
set_option maxRecDepth 20000 in
theorem q_X8_findMeets_279 : zCv m_X8_findMeets 279 m_X8_beginOf 8 2 := ⟨⟨cc_X8_beginOf.1, cc_X8_beginOf.2.1, cc_X8_beginOf.2.2.1, cc_X8_beginOf.2.2.2, ⟨by decide, by decide⟩⟩, in_g (up_6 (List.mem_of_getElem? (i := 35) rfl)) rfl, in_g (up_6 (List.mem_of_getElem? (i := 37) rfl)) rfl, ⟨_, _, _, rfl, in_g (List.mem_append_left _ (List.mem_of_getElem? (l := k2_sels lw_privs) (i := 73) rfl)) rfl⟩⟩
set_option maxRecDepth 20000 in
theorem q_X8_wrong_267 : zCv m_X8_wrong 267 m_X8_full_ 8 0 := ⟨⟨cc_X8_full_.1, cc_X8_full_.2.1, cc_X8_full_.2.2.1, cc_X8_full_.2.2.2, ⟨by decide, by decide⟩⟩, in_g (up_5 (List.mem_of_getElem? (i := 238) rfl)) rfl, in_g (up_6 (List.mem_of_getElem? (i := 0) rfl)) rfl, ⟨_, _, _, rfl, in_g (List.mem_append_left _ (List.mem_of_getElem? (l := k2_sels lw_privs) (i := 67) rfl)) rfl⟩⟩
set_option maxRecDepth 20000 in
theorem q_X8_wrong_282 : zCv m_X8_wrong 282 m_X8_findMeets 8 3 := ⟨⟨cc_X8_findMeets.1, cc_X8_findMeets.2.1, cc_X8_findMeets.2.2.1, cc_X8_findMeets.2.2.2, ⟨by decide, by decide⟩⟩, in_g (up_6 (List.mem_of_getElem? (i := 31) rfl)) rfl, in_g (up_6 (List.mem_of_getElem? (i := 33) rfl)) rfl, ⟨_, _, _, rfl, in_g (List.mem_append_left _ (List.mem_of_getElem? (l := k2_sels lw_privs) (i := 72) rfl)) rfl⟩⟩
set_option maxRecDepth 20000 in
theorem q_X8_goesTo_282 : zCv m_X8_goesTo 282 m_X8_findMeets 8 3 := ⟨⟨cc_X8_findMeets.1, cc_X8_findMeets.2.1, cc_X8_findMeets.2.2.1, cc_X8_findMeets.2.2.2, ⟨by decide, by decide⟩⟩, in_g (up_6 (List.mem_of_getElem? (i := 31) rfl)) rfl, in_g (up_6 (List.mem_of_getElem? (i := 33) rfl)) rfl, ⟨_, _, _, rfl, in_g (List.mem_append_left _ (List.mem_of_getElem? (l := k2_sels lw_privs) (i := 72) rfl)) rfl⟩⟩
set_option maxRecDepth 20000 in
theorem q_X8_word_285 : zCv m_X8_word 285 m_X8_isWord 8 1 := ⟨⟨cc_X8_isWord.1, cc_X8_isWord.2.1, cc_X8_isWord.2.2.1, cc_X8_isWord.2.2.2, ⟨by decide, by decide⟩⟩, in_g (up_5 (List.mem_of_getElem? (i := 234) rfl)) rfl, in_g (up_5 (List.mem_of_getElem? (i := 236) rfl)) rfl, ⟨_, _, _, rfl, in_g (List.mem_append_left _ (List.mem_of_getElem? (l := k2_sels lw_privs) (i := 66) rfl)) rfl⟩⟩
set_option maxRecDepth 20000 in
theorem q_X8_words_92 : zCs m_X8_words 92 m_X8_in 3 := ⟨⟨cc_X8_in.1, cc_X8_in.2.1, cc_X8_in.2.2.1, cc_X8_in.2.2.2, ⟨by decide, by decide⟩⟩, in_g (up_4 (List.mem_of_getElem? (i := 130) rfl)) rfl, in_g (up_4 (List.mem_of_getElem? (i := 131) rfl)) rfl⟩
set_option maxRecDepth 20000 in
theorem q_X8_firstBegin_270 : zCv m_X8_firstBegin 270 m_X8_isHigh 8 2 := ⟨⟨cc_X8_isHigh.1, cc_X8_isHigh.2.1, cc_X8_isHigh.2.2.1, cc_X8_isHigh.2.2.2, ⟨by decide, by decide⟩⟩, in_g (up_6 (List.mem_of_getElem? (i := 19) rfl)) rfl, in_g (up_6 (List.mem_of_getElem? (i := 21) rfl)) rfl, ⟨_, _, _, rfl, in_g (List.mem_append_left _ (List.mem_of_getElem? (l := k2_sels lw_privs) (i := 69) rfl)) rfl⟩⟩
set_option maxRecDepth 20000 in
theorem q_X8_clock_92 : zCs m_X8_clock 92 m_X8_in 3 := ⟨⟨cc_X8_in.1, cc_X8_in.2.1, cc_X8_in.2.2.1, cc_X8_in.2.2.2, ⟨by decide, by decide⟩⟩, in_g (up_4 (List.mem_of_getElem? (i := 130) rfl)) rfl, in_g (up_4 (List.mem_of_getElem? (i := 131) rfl)) rfl⟩
set_option maxRecDepth 20000 in
theorem q_X8_clock_290 : zCv m_X8_clock 290 m_X8_isGood 8 1 := ⟨⟨cc_X8_isGood.1, cc_X8_isGood.2.1, cc_X8_isGood.2.2.1, cc_X8_isGood.2.2.2, ⟨by decide, by decide⟩⟩, in_g (up_6 (List.mem_of_getElem? (i := 15) rfl)) rfl, in_g (up_6 (List.mem_of_getElem? (i := 17) rfl)) rfl, ⟨_, _, _, rfl, in_g (List.mem_append_left _ (List.mem_of_getElem? (l := k2_sels lw_privs) (i := 68) rfl)) rfl⟩⟩
set_option maxRecDepth 20000 in
theorem q_X8_clock_293 : zCv m_X8_clock 293 m_X8_firstBegin 8 1 := ⟨⟨cc_X8_firstBegin.1, cc_X8_firstBegin.2.1, cc_X8_firstBegin.2.2.1, cc_X8_firstBegin.2.2.2, ⟨by decide, by decide⟩⟩, in_g (up_6 (List.mem_of_getElem? (i := 23) rfl)) rfl, in_g (up_6 (List.mem_of_getElem? (i := 25) rfl)) rfl, ⟨_, _, _, rfl, in_g (List.mem_append_left _ (List.mem_of_getElem? (l := k2_sels lw_privs) (i := 70) rfl)) rfl⟩⟩
set_option maxRecDepth 20000 in
theorem q_X8_clock_296 : zCv m_X8_clock 296 m_X8_wrong 8 3 := ⟨⟨cc_X8_wrong.1, cc_X8_wrong.2.1, cc_X8_wrong.2.2.1, cc_X8_wrong.2.2.2, ⟨by decide, by decide⟩⟩, in_g (up_6 (List.mem_of_getElem? (i := 27) rfl)) rfl, in_g (up_6 (List.mem_of_getElem? (i := 29) rfl)) rfl, ⟨_, _, _, rfl, in_g (List.mem_append_left _ (List.mem_of_getElem? (l := k2_sels lw_privs) (i := 71) rfl)) rfl⟩⟩
set_option maxRecDepth 20000 in
theorem q_X8_clock_299 : zCv m_X8_clock 299 m_X8_goesTo 8 3 := ⟨⟨cc_X8_goesTo.1, cc_X8_goesTo.2.1, cc_X8_goesTo.2.2.1, cc_X8_goesTo.2.2.2, ⟨by decide, by decide⟩⟩, in_g (up_6 (List.mem_of_getElem? (i := 39) rfl)) rfl, in_g (up_6 (List.mem_of_getElem? (i := 41) rfl)) rfl, ⟨_, _, _, rfl, in_g (List.mem_append_left _ (List.mem_of_getElem? (l := k2_sels lw_privs) (i := 74) rfl)) rfl⟩⟩
set_option maxRecDepth 20000 in
theorem q_X8_clock_302 : zCv m_X8_clock 302 m_X8_wells 8 1 := ⟨⟨cc_X8_wells.1, cc_X8_wells.2.1, cc_X8_wells.2.2.1, cc_X8_wells.2.2.2, ⟨by decide, by decide⟩⟩, in_g (up_6 (List.mem_of_getElem? (i := 43) rfl)) rfl, in_g (up_6 (List.mem_of_getElem? (i := 45) rfl)) rfl, ⟨_, _, _, rfl, in_g (List.mem_append_left _ (List.mem_of_getElem? (l := k2_sels lw_privs) (i := 75) rfl)) rfl⟩⟩
set_option maxRecDepth 20000 in
theorem q_X8_goes_285 : zCv m_X8_goes 285 m_X8_isWord 8 1 := ⟨⟨cc_X8_isWord.1, cc_X8_isWord.2.1, cc_X8_isWord.2.2.1, cc_X8_isWord.2.2.2, ⟨by decide, by decide⟩⟩, in_g (up_5 (List.mem_of_getElem? (i := 234) rfl)) rfl, in_g (up_5 (List.mem_of_getElem? (i := 236) rfl)) rfl, ⟨_, _, _, rfl, in_g (List.mem_append_left _ (List.mem_of_getElem? (l := k2_sels lw_privs) (i := 66) rfl)) rfl⟩⟩
set_option maxRecDepth 20000 in
theorem q_X8_goes_290 : zCv m_X8_goes 290 m_X8_isGood 8 1 := ⟨⟨cc_X8_isGood.1, cc_X8_isGood.2.1, cc_X8_isGood.2.2.1, cc_X8_isGood.2.2.2, ⟨by decide, by decide⟩⟩, in_g (up_6 (List.mem_of_getElem? (i := 15) rfl)) rfl, in_g (up_6 (List.mem_of_getElem? (i := 17) rfl)) rfl, ⟨_, _, _, rfl, in_g (List.mem_append_left _ (List.mem_of_getElem? (l := k2_sels lw_privs) (i := 68) rfl)) rfl⟩⟩
set_option maxRecDepth 20000 in
theorem q_X8_goes_293 : zCv m_X8_goes 293 m_X8_firstBegin 8 1 := ⟨⟨cc_X8_firstBegin.1, cc_X8_firstBegin.2.1, cc_X8_firstBegin.2.2.1, cc_X8_firstBegin.2.2.2, ⟨by decide, by decide⟩⟩, in_g (up_6 (List.mem_of_getElem? (i := 23) rfl)) rfl, in_g (up_6 (List.mem_of_getElem? (i := 25) rfl)) rfl, ⟨_, _, _, rfl, in_g (List.mem_append_left _ (List.mem_of_getElem? (l := k2_sels lw_privs) (i := 70) rfl)) rfl⟩⟩
set_option maxRecDepth 20000 in
theorem q_X8_goes_296 : zCv m_X8_goes 296 m_X8_wrong 8 3 := ⟨⟨cc_X8_wrong.1, cc_X8_wrong.2.1, cc_X8_wrong.2.2.1, cc_X8_wrong.2.2.2, ⟨by decide, by decide⟩⟩, in_g (up_6 (List.mem_of_getElem? (i := 27) rfl)) rfl, in_g (up_6 (List.mem_of_getElem? (i := 29) rfl)) rfl, ⟨_, _, _, rfl, in_g (List.mem_append_left _ (List.mem_of_getElem? (l := k2_sels lw_privs) (i := 71) rfl)) rfl⟩⟩
set_option maxRecDepth 20000 in
theorem q_X8_leads_267 : zCv m_X8_leads 267 m_X8_full_ 8 0 := ⟨⟨cc_X8_full_.1, cc_X8_full_.2.1, cc_X8_full_.2.2.1, cc_X8_full_.2.2.2, ⟨by decide, by decide⟩⟩, in_g (up_5 (List.mem_of_getElem? (i := 238) rfl)) rfl, in_g (up_6 (List.mem_of_getElem? (i := 0) rfl)) rfl, ⟨_, _, _, rfl, in_g (List.mem_append_left _ (List.mem_of_getElem? (l := k2_sels lw_privs) (i := 67) rfl)) rfl⟩⟩
set_option maxRecDepth 20000 in
theorem q_X8_leads_296 : zCv m_X8_leads 296 m_X8_wrong 8 3 := ⟨⟨cc_X8_wrong.1, cc_X8_wrong.2.1, cc_X8_wrong.2.2.1, cc_X8_wrong.2.2.2, ⟨by decide, by decide⟩⟩, in_g (up_6 (List.mem_of_getElem? (i := 27) rfl)) rfl, in_g (up_6 (List.mem_of_getElem? (i := 29) rfl)) rfl, ⟨_, _, _, rfl, in_g (List.mem_append_left _ (List.mem_of_getElem? (l := k2_sels lw_privs) (i := 71) rfl)) rfl⟩⟩
set_option maxRecDepth 20000 in
theorem q_X8_leads_299 : zCv m_X8_leads 299 m_X8_goesTo 8 3 := ⟨⟨cc_X8_goesTo.1, cc_X8_goesTo.2.1, cc_X8_goesTo.2.2.1, cc_X8_goesTo.2.2.2, ⟨by decide, by decide⟩⟩, in_g (up_6 (List.mem_of_getElem? (i := 39) rfl)) rfl, in_g (up_6 (List.mem_of_getElem? (i := 41) rfl)) rfl, ⟨_, _, _, rfl, in_g (List.mem_append_left _ (List.mem_of_getElem? (l := k2_sels lw_privs) (i := 74) rfl)) rfl⟩⟩
set_option maxRecDepth 20000 in
theorem q_X8_roundsOf_293 : zCv m_X8_roundsOf 293 m_X8_firstBegin 8 1 := ⟨⟨cc_X8_firstBegin.1, cc_X8_firstBegin.2.1, cc_X8_firstBegin.2.2.1, cc_X8_firstBegin.2.2.2, ⟨by decide, by decide⟩⟩, in_g (up_6 (List.mem_of_getElem? (i := 23) rfl)) rfl, in_g (up_6 (List.mem_of_getElem? (i := 25) rfl)) rfl, ⟨_, _, _, rfl, in_g (List.mem_append_left _ (List.mem_of_getElem? (l := k2_sels lw_privs) (i := 70) rfl)) rfl⟩⟩
set_option maxRecDepth 20000 in
theorem q_X8_roundsOf_305 : zCv m_X8_roundsOf 305 m_X8_leads 8 1 := ⟨⟨cc_X8_leads.1, cc_X8_leads.2.1, cc_X8_leads.2.2.1, cc_X8_leads.2.2.2, ⟨by decide, by decide⟩⟩, in_g (up_6 (List.mem_of_getElem? (i := 59) rfl)) rfl, in_g (up_6 (List.mem_of_getElem? (i := 61) rfl)) rfl, ⟨_, _, _, rfl, in_g (List.mem_append_left _ (List.mem_of_getElem? (l := k2_sels lw_privs) (i := 77) rfl)) rfl⟩⟩
set_option maxRecDepth 20000 in
theorem q_X8_roundsOf_302 : zCv m_X8_roundsOf 302 m_X8_wells 8 1 := ⟨⟨cc_X8_wells.1, cc_X8_wells.2.1, cc_X8_wells.2.2.1, cc_X8_wells.2.2.2, ⟨by decide, by decide⟩⟩, in_g (up_6 (List.mem_of_getElem? (i := 43) rfl)) rfl, in_g (up_6 (List.mem_of_getElem? (i := 45) rfl)) rfl, ⟨_, _, _, rfl, in_g (List.mem_append_left _ (List.mem_of_getElem? (l := k2_sels lw_privs) (i := 75) rfl)) rfl⟩⟩
set_option maxRecDepth 20000 in
theorem q_X8_fewest_92 : zCs m_X8_fewest 92 m_X8_in 3 := ⟨⟨cc_X8_in.1, cc_X8_in.2.1, cc_X8_in.2.2.1, cc_X8_in.2.2.2, ⟨by decide, by decide⟩⟩, in_g (up_4 (List.mem_of_getElem? (i := 130) rfl)) rfl, in_g (up_4 (List.mem_of_getElem? (i := 131) rfl)) rfl⟩
set_option maxRecDepth 20000 in
theorem q_X8_fewest_267 : zCv m_X8_fewest 267 m_X8_full_ 8 0 := ⟨⟨cc_X8_full_.1, cc_X8_full_.2.1, cc_X8_full_.2.2.1, cc_X8_full_.2.2.2, ⟨by decide, by decide⟩⟩, in_g (up_5 (List.mem_of_getElem? (i := 238) rfl)) rfl, in_g (up_6 (List.mem_of_getElem? (i := 0) rfl)) rfl, ⟨_, _, _, rfl, in_g (List.mem_append_left _ (List.mem_of_getElem? (l := k2_sels lw_privs) (i := 67) rfl)) rfl⟩⟩
set_option maxRecDepth 20000 in
theorem q_X8_fewest_290 : zCv m_X8_fewest 290 m_X8_isGood 8 1 := ⟨⟨cc_X8_isGood.1, cc_X8_isGood.2.1, cc_X8_isGood.2.2.1, cc_X8_isGood.2.2.2, ⟨by decide, by decide⟩⟩, in_g (up_6 (List.mem_of_getElem? (i := 15) rfl)) rfl, in_g (up_6 (List.mem_of_getElem? (i := 17) rfl)) rfl, ⟨_, _, _, rfl, in_g (List.mem_append_left _ (List.mem_of_getElem? (l := k2_sels lw_privs) (i := 68) rfl)) rfl⟩⟩
set_option maxRecDepth 20000 in
theorem q_X8_fewest_308 : zCv m_X8_fewest 308 m_X8_roundsOf 8 3 := ⟨⟨cc_X8_roundsOf.1, cc_X8_roundsOf.2.1, cc_X8_roundsOf.2.2.1, cc_X8_roundsOf.2.2.2, ⟨by decide, by decide⟩⟩, in_g (up_6 (List.mem_of_getElem? (i := 55) rfl)) rfl, in_g (up_6 (List.mem_of_getElem? (i := 57) rfl)) rfl, ⟨_, _, _, rfl, in_g (List.mem_append_left _ (List.mem_of_getElem? (l := k2_sels lw_privs) (i := 76) rfl)) rfl⟩⟩
set_option maxRecDepth 20000 in
theorem q_X8_rounds_285 : zCv m_X8_rounds 285 m_X8_isWord 8 1 := ⟨⟨cc_X8_isWord.1, cc_X8_isWord.2.1, cc_X8_isWord.2.2.1, cc_X8_isWord.2.2.2, ⟨by decide, by decide⟩⟩, in_g (up_5 (List.mem_of_getElem? (i := 234) rfl)) rfl, in_g (up_5 (List.mem_of_getElem? (i := 236) rfl)) rfl, ⟨_, _, _, rfl, in_g (List.mem_append_left _ (List.mem_of_getElem? (l := k2_sels lw_privs) (i := 66) rfl)) rfl⟩⟩
set_option maxRecDepth 20000 in
theorem q_X8_rounds_92 : zCs m_X8_rounds 92 m_X8_in 3 := ⟨⟨cc_X8_in.1, cc_X8_in.2.1, cc_X8_in.2.2.1, cc_X8_in.2.2.2, ⟨by decide, by decide⟩⟩, in_g (up_4 (List.mem_of_getElem? (i := 130) rfl)) rfl, in_g (up_4 (List.mem_of_getElem? (i := 131) rfl)) rfl⟩
set_option maxRecDepth 20000 in
theorem q_X8_rounds_290 : zCv m_X8_rounds 290 m_X8_isGood 8 1 := ⟨⟨cc_X8_isGood.1, cc_X8_isGood.2.1, cc_X8_isGood.2.2.1, cc_X8_isGood.2.2.2, ⟨by decide, by decide⟩⟩, in_g (up_6 (List.mem_of_getElem? (i := 15) rfl)) rfl, in_g (up_6 (List.mem_of_getElem? (i := 17) rfl)) rfl, ⟨_, _, _, rfl, in_g (List.mem_append_left _ (List.mem_of_getElem? (l := k2_sels lw_privs) (i := 68) rfl)) rfl⟩⟩
set_option maxRecDepth 20000 in
theorem q_X8_rounds_308 : zCv m_X8_rounds 308 m_X8_roundsOf 8 3 := ⟨⟨cc_X8_roundsOf.1, cc_X8_roundsOf.2.1, cc_X8_roundsOf.2.2.1, cc_X8_roundsOf.2.2.2, ⟨by decide, by decide⟩⟩, in_g (up_6 (List.mem_of_getElem? (i := 55) rfl)) rfl, in_g (up_6 (List.mem_of_getElem? (i := 57) rfl)) rfl, ⟨_, _, _, rfl, in_g (List.mem_append_left _ (List.mem_of_getElem? (l := k2_sels lw_privs) (i := 76) rfl)) rfl⟩⟩
set_option maxRecDepth 20000 in
theorem q_X8_keep_92 : zCs m_X8_keep 92 m_X8_in 3 := ⟨⟨cc_X8_in.1, cc_X8_in.2.1, cc_X8_in.2.2.1, cc_X8_in.2.2.2, ⟨by decide, by decide⟩⟩, in_g (up_4 (List.mem_of_getElem? (i := 130) rfl)) rfl, in_g (up_4 (List.mem_of_getElem? (i := 131) rfl)) rfl⟩
set_option maxRecDepth 20000 in
theorem q_X8_keep_237 : zCs m_X8_keep 237 m_X8_flag 1 := ⟨⟨cc_X8_flag.1, cc_X8_flag.2.1, cc_X8_flag.2.2.1, cc_X8_flag.2.2.2, ⟨by decide, by decide⟩⟩, in_g (up_5 (List.mem_of_getElem? (i := 168) rfl)) rfl, in_g (up_5 (List.mem_of_getElem? (i := 169) rfl)) rfl⟩
set_option maxRecDepth 20000 in
theorem q_X8_keep_243 : zCv m_X8_keep 243 m_X8_copies 8 2 := ⟨⟨cc_X8_copies.1, cc_X8_copies.2.1, cc_X8_copies.2.2.1, cc_X8_copies.2.2.2, ⟨by decide, by decide⟩⟩, in_g (up_5 (List.mem_of_getElem? (i := 188) rfl)) rfl, in_g (up_5 (List.mem_of_getElem? (i := 190) rfl)) rfl, ⟨_, _, _, rfl, in_g (List.mem_append_left _ (List.mem_of_getElem? (l := k2_sels lw_privs) (i := 65) rfl)) rfl⟩⟩
set_option maxRecDepth 20000 in
theorem q_X8_back_92 : zCs m_X8_back 92 m_X8_in 3 := ⟨⟨cc_X8_in.1, cc_X8_in.2.1, cc_X8_in.2.2.1, cc_X8_in.2.2.2, ⟨by decide, by decide⟩⟩, in_g (up_4 (List.mem_of_getElem? (i := 130) rfl)) rfl, in_g (up_4 (List.mem_of_getElem? (i := 131) rfl)) rfl⟩
set_option maxRecDepth 20000 in
theorem q_X8_back_243 : zCv m_X8_back 243 m_X8_copies 8 2 := ⟨⟨cc_X8_copies.1, cc_X8_copies.2.1, cc_X8_copies.2.2.1, cc_X8_copies.2.2.2, ⟨by decide, by decide⟩⟩, in_g (up_5 (List.mem_of_getElem? (i := 188) rfl)) rfl, in_g (up_5 (List.mem_of_getElem? (i := 190) rfl)) rfl, ⟨_, _, _, rfl, in_g (List.mem_append_left _ (List.mem_of_getElem? (l := k2_sels lw_privs) (i := 65) rfl)) rfl⟩⟩
set_option maxRecDepth 20000 in
theorem q_X8_back_213 : zCv m_X8_back 213 m_X8_sumOf 8 2 := ⟨⟨cc_X8_sumOf.1, cc_X8_sumOf.2.1, cc_X8_sumOf.2.2.1, cc_X8_sumOf.2.2.2, ⟨by decide, by decide⟩⟩, in_g (up_5 (List.mem_of_getElem? (i := 123) rfl)) rfl, in_g (up_5 (List.mem_of_getElem? (i := 125) rfl)) rfl, ⟨_, _, _, rfl, in_g (List.mem_append_left _ (List.mem_of_getElem? (l := k2_sels lw_privs) (i := 57) rfl)) rfl⟩⟩
set_option maxRecDepth 20000 in
theorem q_X8_isSheet_92 : zCs m_X8_isSheet 92 m_X8_in 3 := ⟨⟨cc_X8_in.1, cc_X8_in.2.1, cc_X8_in.2.2.1, cc_X8_in.2.2.2, ⟨by decide, by decide⟩⟩, in_g (up_4 (List.mem_of_getElem? (i := 130) rfl)) rfl, in_g (up_4 (List.mem_of_getElem? (i := 131) rfl)) rfl⟩
set_option maxRecDepth 20000 in
theorem q_X8_sheet_316 : zCs m_X8_sheet 316 m_X8_isSheet 2 := ⟨⟨cc_X8_isSheet.1, cc_X8_isSheet.2.1, cc_X8_isSheet.2.2.1, cc_X8_isSheet.2.2.2, ⟨by decide, by decide⟩⟩, in_g (up_6 (List.mem_of_getElem? (i := 81) rfl)) rfl, in_g (up_6 (List.mem_of_getElem? (i := 82) rfl)) rfl⟩
set_option maxRecDepth 20000 in
theorem q_X8_lay_316 : zCs m_X8_lay 316 m_X8_isSheet 2 := ⟨⟨cc_X8_isSheet.1, cc_X8_isSheet.2.1, cc_X8_isSheet.2.2.1, cc_X8_isSheet.2.2.2, ⟨by decide, by decide⟩⟩, in_g (up_6 (List.mem_of_getElem? (i := 81) rfl)) rfl, in_g (up_6 (List.mem_of_getElem? (i := 82) rfl)) rfl⟩
set_option maxRecDepth 20000 in
theorem q_X8_lay_92 : zCs m_X8_lay 92 m_X8_in 3 := ⟨⟨cc_X8_in.1, cc_X8_in.2.1, cc_X8_in.2.2.1, cc_X8_in.2.2.2, ⟨by decide, by decide⟩⟩, in_g (up_4 (List.mem_of_getElem? (i := 130) rfl)) rfl, in_g (up_4 (List.mem_of_getElem? (i := 131) rfl)) rfl⟩
set_option maxRecDepth 20000 in
theorem q_X8_reads_316 : zCs m_X8_reads 316 m_X8_isSheet 2 := ⟨⟨cc_X8_isSheet.1, cc_X8_isSheet.2.1, cc_X8_isSheet.2.2.1, cc_X8_isSheet.2.2.2, ⟨by decide, by decide⟩⟩, in_g (up_6 (List.mem_of_getElem? (i := 81) rfl)) rfl, in_g (up_6 (List.mem_of_getElem? (i := 82) rfl)) rfl⟩
set_option maxRecDepth 20000 in
theorem q_X8_reads_92 : zCs m_X8_reads 92 m_X8_in 3 := ⟨⟨cc_X8_in.1, cc_X8_in.2.1, cc_X8_in.2.2.1, cc_X8_in.2.2.2, ⟨by decide, by decide⟩⟩, in_g (up_4 (List.mem_of_getElem? (i := 130) rfl)) rfl, in_g (up_4 (List.mem_of_getElem? (i := 131) rfl)) rfl⟩
set_option maxRecDepth 20000 in
theorem q_X8_reads_183 : zCs m_X8_reads 183 m_X8_isWell 1 := ⟨⟨cc_X8_isWell.1, cc_X8_isWell.2.1, cc_X8_isWell.2.2.1, cc_X8_isWell.2.2.2, ⟨by decide, by decide⟩⟩, in_g (up_5 (List.mem_of_getElem? (i := 85) rfl)) rfl, in_g (up_5 (List.mem_of_getElem? (i := 86) rfl)) rfl⟩
set_option maxRecDepth 20000 in
theorem q_X8_count_237 : zCs m_X8_count 237 m_X8_flag 1 := ⟨⟨cc_X8_flag.1, cc_X8_flag.2.1, cc_X8_flag.2.2.1, cc_X8_flag.2.2.2, ⟨by decide, by decide⟩⟩, in_g (up_5 (List.mem_of_getElem? (i := 168) rfl)) rfl, in_g (up_5 (List.mem_of_getElem? (i := 169) rfl)) rfl⟩
set_option maxRecDepth 20000 in
theorem q_J0_charAt_5068e_495 : zCs m_J0_charAt_5068e 495 m_J1_charAt_3b067 2 := ⟨⟨cc_J1_charAt_3b067.1, cc_J1_charAt_3b067.2.1, cc_J1_charAt_3b067.2.2.1, cc_J1_charAt_3b067.2.2.2, ⟨by decide, by decide⟩⟩, in_g (up_2 (List.mem_of_getElem? (i := 144) rfl)) rfl, in_g (up_2 (List.mem_of_getElem? (i := 145) rfl)) rfl⟩
set_option maxRecDepth 20000 in
theorem q_J0_charAt_5068e_498 : zCs m_J0_charAt_5068e 498 m_J2_charAt_3b067 2 := ⟨⟨cc_J2_charAt_3b067.1, cc_J2_charAt_3b067.2.1, cc_J2_charAt_3b067.2.2.1, cc_J2_charAt_3b067.2.2.2, ⟨by decide, by decide⟩⟩, in_g (up_2 (List.mem_of_getElem? (i := 155) rfl)) rfl, in_g (up_2 (List.mem_of_getElem? (i := 156) rfl)) rfl⟩
set_option maxRecDepth 20000 in
theorem q_J0_checkIndex_df160_1059 : zCs m_J0_checkIndex_df160 1059 m_J3_checkIndex_8e157 3 := ⟨⟨cc_J3_checkIndex_8e157.1, cc_J3_checkIndex_8e157.2.1, cc_J3_checkIndex_8e157.2.2.1, cc_J3_checkIndex_8e157.2.2.2, ⟨by decide, by decide⟩⟩, in_g (up_2 (List.mem_of_getElem? (i := 152) rfl)) rfl, in_g (up_2 (List.mem_of_getElem? (i := 153) rfl)) rfl⟩
set_option maxRecDepth 20000 in
theorem q_J1_charAt_3b067_9 : zCs m_J1_charAt_3b067 9 m_J0_checkIndex_df160 2 := ⟨⟨cc_J0_checkIndex_df160.1, cc_J0_checkIndex_df160.2.1, cc_J0_checkIndex_df160.2.2.1, cc_J0_checkIndex_df160.2.2.2, ⟨by decide, by decide⟩⟩, in_g (up_2 (List.mem_of_getElem? (i := 147) rfl)) rfl, in_g (up_2 (List.mem_of_getElem? (i := 148) rfl)) rfl⟩
set_option maxRecDepth 20000 in
theorem q_J2_getChar_3b067_48 : zCs m_J2_getChar_3b067 48 m_J2_length_9d52b 1 := ⟨⟨cc_J2_length_9d52b.1, cc_J2_length_9d52b.2.1, cc_J2_length_9d52b.2.2.1, cc_J2_length_9d52b.2.2.2, ⟨by decide, by decide⟩⟩, in_g (up_2 (List.mem_of_getElem? (i := 161) rfl)) rfl, in_g (up_2 (List.mem_of_getElem? (i := 162) rfl)) rfl⟩
set_option maxRecDepth 20000 in
theorem q_J2_charAt_3b067_67 : zCs m_J2_charAt_3b067 67 m_J2_checkIndex_2214a 2 := ⟨⟨cc_J2_checkIndex_2214a.1, cc_J2_checkIndex_2214a.2.1, cc_J2_checkIndex_2214a.2.2.1, cc_J2_checkIndex_2214a.2.2.2, ⟨by decide, by decide⟩⟩, in_g (up_2 (List.mem_of_getElem? (i := 158) rfl)) rfl, in_g (up_2 (List.mem_of_getElem? (i := 159) rfl)) rfl⟩
set_option maxRecDepth 20000 in
theorem q_J2_charAt_3b067_71 : zCs m_J2_charAt_3b067 71 m_J2_getChar_3b067 2 := ⟨⟨cc_J2_getChar_3b067.1, cc_J2_getChar_3b067.2.1, cc_J2_getChar_3b067.2.2.1, cc_J2_getChar_3b067.2.2.2, ⟨by decide, by decide⟩⟩, in_g (up_2 (List.mem_of_getElem? (i := 165) rfl)) rfl, in_g (up_2 (List.mem_of_getElem? (i := 166) rfl)) rfl⟩
set_option maxRecDepth 20000 in
theorem q_J2_checkIndex_2214a_48 : zCs m_J2_checkIndex_2214a 48 m_J2_length_9d52b 1 := ⟨⟨cc_J2_length_9d52b.1, cc_J2_length_9d52b.2.1, cc_J2_length_9d52b.2.2.1, cc_J2_length_9d52b.2.2.2, ⟨by decide, by decide⟩⟩, in_g (up_2 (List.mem_of_getElem? (i := 161) rfl)) rfl, in_g (up_2 (List.mem_of_getElem? (i := 162) rfl)) rfl⟩
set_option maxRecDepth 20000 in
theorem q_J2_checkIndex_2214a_414 : zCs m_J2_checkIndex_2214a 414 m_J0_checkIndex_df160 2 := ⟨⟨cc_J0_checkIndex_df160.1, cc_J0_checkIndex_df160.2.1, cc_J0_checkIndex_df160.2.2.1, cc_J0_checkIndex_df160.2.2.2, ⟨by decide, by decide⟩⟩, in_g (up_2 (List.mem_of_getElem? (i := 164) rfl)) rfl, in_g (up_2 (List.mem_of_getElem? (i := 148) rfl)) rfl⟩
