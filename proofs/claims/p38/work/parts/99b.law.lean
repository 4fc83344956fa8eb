/-! THE LAW: one turn of its loop, over the little machine -/
section ZSCR
variable {E : zE} {md : zMD} {X : zX} {Qs : State → Prop} {Sh : zSh} {kc ks pc pc' : Nat} {ls : List (Option Value)} {st : List Value} {I : zI} {L : zL} {R : zR} {n : Nat} {xs : Nat → Int32}
/-- the script as the law finds it: an old cell -/
def lwS (E : zE) (X : zX) (n : Nat) (xs : Nat → Int32) : Prop := eF E 0 < eB E ∧ eB E = (xS X).heap.size ∧ va_X (eF E 0) n xs (xS X) (xS X).heap
theorem zad_s (E : zE) : zad E 1000000 = eF E 0 := by unfold zad; rw [if_neg (by decide)]
theorem z_sld {i : Int32} (hd : zD md pc .iaload 1 pc') (hs : lwS E X n xs) (hin : vp_in i n) (k : zZ E md X Qs Sh kc ks pc' ls (.int (xs i.toNatClampNeg) :: st) I L R) : zZ E md X Qs Sh kc ks pc ls (.int i :: .ref 1000000 :: st) I L R := by
  obtain ⟨hd, rfl⟩ := hd
  obtain ⟨hlt, hsz, hX⟩ := hs
  intro C hz H locs la hW hS hl
  have hk := k C hz H locs la hW hS hl
  have e : ((Value.int i :: .ref 1000000 :: st).map (ztr E)) = .int i :: .ref (eF E 0) :: st.map (ztr E) := by
    rw [← zad_s]; rfl
  rw [e]
  exact va_sld C.1 C.2.1 hX (by omega) (Nat.not_le.mpr hlt) hS hin hd hk
theorem z_slen (hd : zD md pc .arraylength 1 pc') (hs : lwS E X n xs) (k : zZ E md X Qs Sh kc ks pc' ls (.int (nI n) :: st) I L R) : zZ E md X Qs Sh kc ks pc ls (.ref 1000000 :: st) I L R := by
  obtain ⟨hd, rfl⟩ := hd
  obtain ⟨hlt, hsz, hX⟩ := hs
  intro C hz H locs la hW hS hl
  have hk := k C hz H locs la hW hS hl
  have e : ((Value.ref 1000000 :: st).map (ztr E)) = .ref (eF E 0) :: st.map (ztr E) := by
    rw [← zad_s]; rfl
  rw [e]
  exact va_slen C.1 C.2.1 hX (by omega) (Nat.not_le.mpr hlt) hS hd hk
theorem z_pop2 {x : Int64} (hd : zD md pc .pop2 1 pc') (k : zZ E md X Qs Sh kc ks pc' ls st I L R) : zZ E md X Qs Sh kc ks pc ls (.long x :: st) I L R := by
  obtain ⟨hd, rfl⟩ := hd
  intro C hz H locs la hW hS hl
  exact lv_pop2_2 C.1 C.2.1 hd rfl (k C hz H locs la hW hS hl)
end ZSCR
theorem lgc_rf (x : Int64) : lg_cmp x x = 0 := by
  unfold lg_cmp
  simp
theorem ixL {n i : Nat} (hi : i + 5 ≤ n) (hn : n < 2 ^ 31) : vp_in (nI i) n ∧ vp_in (nI i + 1) n ∧ vp_in (nI i + 2) n ∧ vp_in (nI i + 3) n ∧ vp_in (nI i + 4) n :=
  ⟨vp_in_nI (by omega) hn, by rw [show (nI i + 1 : Int32) = nI (i + 1) from nI_add i 1]; exact vp_in_nI (by omega) hn, by rw [show (nI i + 2 : Int32) = nI (i + 2) from nI_add i 2]; exact vp_in_nI (by omega) hn, by rw [show (nI i + 3 : Int32) = nI (i + 3) from nI_add i 3]; exact vp_in_nI (by omega) hn, by rw [show (nI i + 4 : Int32) = nI (i + 4) from nI_add i 4]; exact vp_in_nI (by omega) hn⟩
theorem hdC {n i : Nat} (hi : i < 2 ^ 31) (hn : n < 2 ^ 31) : (nI n - 5 < nI i) ↔ n < i + 5 := by
  have e5 : (5 : Int32).toInt = 5 := by decide
  have e : (nI n - 5).toInt = (n : Int) - 5 := by rw [i_sub (by rw [nI_toInt hn, e5]; omega) (by rw [nI_toInt hn, e5]; omega), nI_toInt hn, e5]
  rw [Int32.lt_iff_toInt_lt, e, nI_toInt hi]
  omega
abbrev lwl (v : Int32) : List (Option Value) := [some (.ref 1000000), some (.ref 0), some (.ref 64), some (.int v)]
section ZLAW
variable {E : zE} {nm : String} {X : zX} {Qs : State → Prop} {kc ks : Nat} {I : zI} {L : zL} {R : zR} {n i : Nat} {xs : Nat → Int32} {Inv : zI → zL → zR → Prop}
theorem lc_0 (hs : lwS E X n xs) (hi : i + 5 ≤ n) (hn : n < 2 ^ 31) (hroom : kc ≤ (zrm (m_L nm)).cells ∧ ks ≤ (zrm (m_L nm)).slots) (hA : zAw E m_X7_feed m_X8_feed [.long (((xs (nI i + 1).toNatClampNeg).toInt64 <<< ((32 : Int32).toInt64 &&& 63)) ||| ((xs (nI i + 2).toNatClampNeg).toInt64 &&& 4294967295))] I L R Inv)
    (k : ∀ I1 L1 R1, Inv I1 L1 R1 → zZ E (m_L nm) X Qs zShF kc ks 1177 (lwl (nI i)) [] I1 L1 R1) : zZ E (m_L nm) X Qs zShF kc ks 196 (lwl (nI i)) [] I L R := by
  unfold zAw at hA
  refine z_aload_n d_L_196 rfl ?_
  refine z_aload_n d_L_197 rfl ?_
  refine z_iload_n d_L_198 rfl ?_
  refine z_iconst d_L_199 ki_1 ?_
  refine z_iadd d_L_200 ?_
  refine z_sld d_L_201 hs (ixL hi hn).2.1 ?_
  refine z_i2l d_L_202 ?_
  refine z_bipush d_L_203 kb_32 ?_
  refine z_lshl d_L_205 ?_
  refine z_aload_n d_L_206 rfl ?_
  refine z_iload_n d_L_207 rfl ?_
  refine z_iconst d_L_208 ki_2 ?_
  refine z_iadd d_L_209 ?_
  refine z_sld d_L_210 hs (ixL hi hn).2.2.1 ?_
  refine z_i2l d_L_211 ?_
  refine z_ldc2 d_L_212 l_L_13 ?_
  refine z_land d_L_215 ?_
  refine z_lor d_L_216 ?_
  refine z_rV d_L_217 q_L_15 rfl (by decide) ⟨rfl, rfl⟩ hA rfl rfl rfl hroom (fun r1 Sh1 I1 L1 R1 h1 => ?_)
  obtain ⟨rfl, v, rfl, h2⟩ := h1
  show zZ E (m_L nm) X Qs zShF kc ks 220 (lwl (nI i)) [.int v] I1 L1 R1
  refine z_pop d_L_220 rfl ?_
  refine z_aload_n d_L_221 rfl ?_
  refine z_aload_n d_L_222 rfl ?_
  refine z_iload_n d_L_223 rfl ?_
  refine z_iconst d_L_224 ki_1 ?_
  refine z_iadd d_L_225 ?_
  refine z_sld d_L_226 hs (ixL hi hn).2.1 ?_
  refine z_i2l d_L_227 ?_
  refine z_bipush d_L_228 kb_32 ?_
  refine z_lshl d_L_230 ?_
  refine z_aload_n d_L_231 rfl ?_
  refine z_iload_n d_L_232 rfl ?_
  refine z_iconst d_L_233 ki_2 ?_
  refine z_iadd d_L_234 ?_
  refine z_sld d_L_235 hs (ixL hi hn).2.2.1 ?_
  refine z_i2l d_L_236 ?_
  refine z_ldc2 d_L_237 l_L_13 ?_
  refine z_land d_L_240 ?_
  refine z_lor d_L_241 ?_
  refine z_rV d_L_242 q_L_19 rfl (by decide) ⟨rfl, rfl⟩ h2 rfl rfl rfl hroom (fun r3 Sh3 I3 L3 R3 h3 => ?_)
  obtain ⟨rfl, ⟨v2, rfl⟩, h3⟩ := h3
  show zZ E (m_L nm) X Qs zShF kc ks 245 (lwl (nI i)) [.int v2] I3 L3 R3
  refine z_pop d_L_245 rfl ?_
  refine z_goto d_L_246 ?_
  exact k _ _ _ h3
theorem lc_1 (hs : lwS E X n xs) (hi : i + 5 ≤ n) (hn : n < 2 ^ 31) (hroom : kc ≤ (zrm (m_L nm)).cells ∧ ks ≤ (zrm (m_L nm)).slots) (hA : zAw E m_X7_end m_X8_end [.int (xs (nI i + 1).toNatClampNeg)] I L R Inv)
    (k : ∀ I1 L1 R1, Inv I1 L1 R1 → zZ E (m_L nm) X Qs zShF kc ks 1177 (lwl (nI i)) [] I1 L1 R1) : zZ E (m_L nm) X Qs zShF kc ks 249 (lwl (nI i)) [] I L R := by
  unfold zAw at hA
  refine z_aload_n d_L_249 rfl ?_
  refine z_aload_n d_L_250 rfl ?_
  refine z_iload_n d_L_251 rfl ?_
  refine z_iconst d_L_252 ki_1 ?_
  refine z_iadd d_L_253 ?_
  refine z_sld d_L_254 hs (ixL hi hn).2.1 ?_
  refine z_rV d_L_255 q_L_20 rfl (by decide) ⟨rfl, rfl⟩ hA rfl rfl rfl hroom (fun r1 Sh1 I1 L1 R1 h1 => ?_)
  obtain ⟨rfl, v, rfl, h2⟩ := h1
  show zZ E (m_L nm) X Qs zShF kc ks 258 (lwl (nI i)) [.int v] I1 L1 R1
  refine z_pop d_L_258 rfl ?_
  refine z_aload_n d_L_259 rfl ?_
  refine z_aload_n d_L_260 rfl ?_
  refine z_iload_n d_L_261 rfl ?_
  refine z_iconst d_L_262 ki_1 ?_
  refine z_iadd d_L_263 ?_
  refine z_sld d_L_264 hs (ixL hi hn).2.1 ?_
  refine z_rV d_L_265 q_L_24 rfl (by decide) ⟨rfl, rfl⟩ h2 rfl rfl rfl hroom (fun r3 Sh3 I3 L3 R3 h3 => ?_)
  obtain ⟨rfl, ⟨v2, rfl⟩, h3⟩ := h3
  show zZ E (m_L nm) X Qs zShF kc ks 268 (lwl (nI i)) [.int v2] I3 L3 R3
  refine z_pop d_L_268 rfl ?_
  refine z_goto d_L_269 ?_
  exact k _ _ _ h3
theorem lc_2 (hs : lwS E X n xs) (hi : i + 5 ≤ n) (hn : n < 2 ^ 31) (hroom : kc ≤ (zrm (m_L nm)).cells ∧ ks ≤ (zrm (m_L nm)).slots) (hA : zAw E m_X7_text m_X8_text [] I L R Inv)
    (k : ∀ I1 L1 R1, Inv I1 L1 R1 → zZ E (m_L nm) X Qs zShF kc ks 1177 (lwl (nI i)) [] I1 L1 R1) : zZ E (m_L nm) X Qs zShF kc ks 272 (lwl (nI i)) [] I L R := by
  unfold zAw at hA
  refine z_aload_n d_L_272 rfl ?_
  refine z_rV d_L_273 q_L_25 rfl (by decide) ⟨rfl, rfl⟩ hA rfl rfl rfl hroom (fun r1 Sh1 I1 L1 R1 h1 => ?_)
  obtain ⟨rfl, v, rfl, h2⟩ := h1
  show zZ E (m_L nm) X Qs zShF kc ks 276 (lwl (nI i)) [.int v] I1 L1 R1
  refine z_pop d_L_276 rfl ?_
  refine z_aload_n d_L_277 rfl ?_
  refine z_rV d_L_278 q_L_29 rfl (by decide) ⟨rfl, rfl⟩ h2 rfl rfl rfl hroom (fun r3 Sh3 I3 L3 R3 h3 => ?_)
  obtain ⟨rfl, ⟨v2, rfl⟩, h3⟩ := h3
  show zZ E (m_L nm) X Qs zShF kc ks 281 (lwl (nI i)) [.int v2] I3 L3 R3
  refine z_pop d_L_281 rfl ?_
  refine z_goto d_L_282 ?_
  exact k _ _ _ h3
theorem lc_3 (hs : lwS E X n xs) (hi : i + 5 ≤ n) (hn : n < 2 ^ 31) (hroom : kc ≤ (zrm (m_L nm)).cells ∧ ks ≤ (zrm (m_L nm)).slots) (hA : zAw E m_X7_fault m_X8_fault [] I L R Inv)
    (k : ∀ I1 L1 R1, Inv I1 L1 R1 → zZ E (m_L nm) X Qs zShF kc ks 1177 (lwl (nI i)) [] I1 L1 R1) : zZ E (m_L nm) X Qs zShF kc ks 285 (lwl (nI i)) [] I L R := by
  unfold zAw at hA
  refine z_aload_n d_L_285 rfl ?_
  refine z_rV d_L_286 q_L_30 rfl (by decide) ⟨rfl, rfl⟩ hA rfl rfl rfl hroom (fun r1 Sh1 I1 L1 R1 h1 => ?_)
  obtain ⟨rfl, v, rfl, h2⟩ := h1
  show zZ E (m_L nm) X Qs zShF kc ks 289 (lwl (nI i)) [.int v] I1 L1 R1
  refine z_pop d_L_289 rfl ?_
  refine z_aload_n d_L_290 rfl ?_
  refine z_rV d_L_291 q_L_33 rfl (by decide) ⟨rfl, rfl⟩ h2 rfl rfl rfl hroom (fun r3 Sh3 I3 L3 R3 h3 => ?_)
  obtain ⟨rfl, ⟨v2, rfl⟩, h3⟩ := h3
  show zZ E (m_L nm) X Qs zShF kc ks 294 (lwl (nI i)) [.int v2] I3 L3 R3
  refine z_pop d_L_294 rfl ?_
  refine z_goto d_L_295 ?_
  exact k _ _ _ h3
theorem lc_4 (hs : lwS E X n xs) (hi : i + 5 ≤ n) (hn : n < 2 ^ 31) (hroom : kc ≤ (zrm (m_L nm)).cells ∧ ks ≤ (zrm (m_L nm)).slots) (hA : zAw E m_X7_rule m_X8_rule [.int (xs (nI i + 1).toNatClampNeg)] I L R Inv)
    (k : ∀ I1 L1 R1, Inv I1 L1 R1 → zZ E (m_L nm) X Qs zShF kc ks 1177 (lwl (nI i)) [] I1 L1 R1) : zZ E (m_L nm) X Qs zShF kc ks 298 (lwl (nI i)) [] I L R := by
  unfold zAw at hA
  refine z_aload_n d_L_298 rfl ?_
  refine z_aload_n d_L_299 rfl ?_
  refine z_iload_n d_L_300 rfl ?_
  refine z_iconst d_L_301 ki_1 ?_
  refine z_iadd d_L_302 ?_
  refine z_sld d_L_303 hs (ixL hi hn).2.1 ?_
  refine z_rV d_L_304 q_L_34 rfl (by decide) ⟨rfl, rfl⟩ hA rfl rfl rfl hroom (fun r1 Sh1 I1 L1 R1 h1 => ?_)
  obtain ⟨rfl, v, rfl, h2⟩ := h1
  show zZ E (m_L nm) X Qs zShF kc ks 307 (lwl (nI i)) [.int v] I1 L1 R1
  refine z_pop d_L_307 rfl ?_
  refine z_aload_n d_L_308 rfl ?_
  refine z_aload_n d_L_309 rfl ?_
  refine z_iload_n d_L_310 rfl ?_
  refine z_iconst d_L_311 ki_1 ?_
  refine z_iadd d_L_312 ?_
  refine z_sld d_L_313 hs (ixL hi hn).2.1 ?_
  refine z_rV d_L_314 q_L_37 rfl (by decide) ⟨rfl, rfl⟩ h2 rfl rfl rfl hroom (fun r3 Sh3 I3 L3 R3 h3 => ?_)
  obtain ⟨rfl, ⟨v2, rfl⟩, h3⟩ := h3
  show zZ E (m_L nm) X Qs zShF kc ks 317 (lwl (nI i)) [.int v2] I3 L3 R3
  refine z_pop d_L_317 rfl ?_
  refine z_goto d_L_318 ?_
  exact k _ _ _ h3
theorem lc_5 (hs : lwS E X n xs) (hi : i + 5 ≤ n) (hn : n < 2 ^ 31) (hroom : kc ≤ (zrm (m_L nm)).cells ∧ ks ≤ (zrm (m_L nm)).slots) (hA : zAw E m_X7_well m_X8_well [.int (xs (nI i + 1).toNatClampNeg), .int (xs (nI i + 2).toNatClampNeg)] I L R Inv)
    (k : ∀ I1 L1 R1, Inv I1 L1 R1 → zZ E (m_L nm) X Qs zShF kc ks 1177 (lwl (nI i)) [] I1 L1 R1) : zZ E (m_L nm) X Qs zShF kc ks 321 (lwl (nI i)) [] I L R := by
  unfold zAw at hA
  refine z_aload_n d_L_321 rfl ?_
  refine z_aload_n d_L_322 rfl ?_
  refine z_iload_n d_L_323 rfl ?_
  refine z_iconst d_L_324 ki_1 ?_
  refine z_iadd d_L_325 ?_
  refine z_sld d_L_326 hs (ixL hi hn).2.1 ?_
  refine z_aload_n d_L_327 rfl ?_
  refine z_iload_n d_L_328 rfl ?_
  refine z_iconst d_L_329 ki_2 ?_
  refine z_iadd d_L_330 ?_
  refine z_sld d_L_331 hs (ixL hi hn).2.2.1 ?_
  refine z_rV d_L_332 q_L_38 rfl (by decide) ⟨rfl, rfl⟩ hA rfl rfl rfl hroom (fun r1 Sh1 I1 L1 R1 h1 => ?_)
  obtain ⟨rfl, v, rfl, h2⟩ := h1
  show zZ E (m_L nm) X Qs zShF kc ks 335 (lwl (nI i)) [.int v] I1 L1 R1
  refine z_pop d_L_335 rfl ?_
  refine z_aload_n d_L_336 rfl ?_
  refine z_aload_n d_L_337 rfl ?_
  refine z_iload_n d_L_338 rfl ?_
  refine z_iconst d_L_339 ki_1 ?_
  refine z_iadd d_L_340 ?_
  refine z_sld d_L_341 hs (ixL hi hn).2.1 ?_
  refine z_aload_n d_L_342 rfl ?_
  refine z_iload_n d_L_343 rfl ?_
  refine z_iconst d_L_344 ki_2 ?_
  refine z_iadd d_L_345 ?_
  refine z_sld d_L_346 hs (ixL hi hn).2.2.1 ?_
  refine z_rV d_L_347 q_L_42 rfl (by decide) ⟨rfl, rfl⟩ h2 rfl rfl rfl hroom (fun r3 Sh3 I3 L3 R3 h3 => ?_)
  obtain ⟨rfl, ⟨v2, rfl⟩, h3⟩ := h3
  show zZ E (m_L nm) X Qs zShF kc ks 350 (lwl (nI i)) [.int v2] I3 L3 R3
  refine z_pop d_L_350 rfl ?_
  refine z_goto d_L_351 ?_
  exact k _ _ _ h3
theorem lc_6 (hs : lwS E X n xs) (hi : i + 5 ≤ n) (hn : n < 2 ^ 31) (hroom : kc ≤ (zrm (m_L nm)).cells ∧ ks ≤ (zrm (m_L nm)).slots) (hA : zAw E m_X7_light m_X8_light [.int (xs (nI i + 1).toNatClampNeg), .int (xs (nI i + 2).toNatClampNeg)] I L R Inv)
    (k : ∀ I1 L1 R1, Inv I1 L1 R1 → zZ E (m_L nm) X Qs zShF kc ks 1177 (lwl (nI i)) [] I1 L1 R1) : zZ E (m_L nm) X Qs zShF kc ks 354 (lwl (nI i)) [] I L R := by
  unfold zAw at hA
  refine z_aload_n d_L_354 rfl ?_
  refine z_aload_n d_L_355 rfl ?_
  refine z_iload_n d_L_356 rfl ?_
  refine z_iconst d_L_357 ki_1 ?_
  refine z_iadd d_L_358 ?_
  refine z_sld d_L_359 hs (ixL hi hn).2.1 ?_
  refine z_aload_n d_L_360 rfl ?_
  refine z_iload_n d_L_361 rfl ?_
  refine z_iconst d_L_362 ki_2 ?_
  refine z_iadd d_L_363 ?_
  refine z_sld d_L_364 hs (ixL hi hn).2.2.1 ?_
  refine z_rV d_L_365 q_L_43 rfl (by decide) ⟨rfl, rfl⟩ hA rfl rfl rfl hroom (fun r1 Sh1 I1 L1 R1 h1 => ?_)
  obtain ⟨rfl, v, rfl, h2⟩ := h1
  show zZ E (m_L nm) X Qs zShF kc ks 368 (lwl (nI i)) [.int v] I1 L1 R1
  refine z_pop d_L_368 rfl ?_
  refine z_aload_n d_L_369 rfl ?_
  refine z_aload_n d_L_370 rfl ?_
  refine z_iload_n d_L_371 rfl ?_
  refine z_iconst d_L_372 ki_1 ?_
  refine z_iadd d_L_373 ?_
  refine z_sld d_L_374 hs (ixL hi hn).2.1 ?_
  refine z_aload_n d_L_375 rfl ?_
  refine z_iload_n d_L_376 rfl ?_
  refine z_iconst d_L_377 ki_2 ?_
  refine z_iadd d_L_378 ?_
  refine z_sld d_L_379 hs (ixL hi hn).2.2.1 ?_
  refine z_rV d_L_380 q_L_46 rfl (by decide) ⟨rfl, rfl⟩ h2 rfl rfl rfl hroom (fun r3 Sh3 I3 L3 R3 h3 => ?_)
  obtain ⟨rfl, ⟨v2, rfl⟩, h3⟩ := h3
  show zZ E (m_L nm) X Qs zShF kc ks 383 (lwl (nI i)) [.int v2] I3 L3 R3
  refine z_pop d_L_383 rfl ?_
  refine z_goto d_L_384 ?_
  exact k _ _ _ h3
theorem lc_7 (hs : lwS E X n xs) (hi : i + 5 ≤ n) (hn : n < 2 ^ 31) (hroom : kc ≤ (zrm (m_L nm)).cells ∧ ks ≤ (zrm (m_L nm)).slots) (hA : zAw E m_X7_expose m_X8_expose [.int (xs (nI i + 1).toNatClampNeg)] I L R Inv)
    (k : ∀ I1 L1 R1, Inv I1 L1 R1 → zZ E (m_L nm) X Qs zShF kc ks 1177 (lwl (nI i)) [] I1 L1 R1) : zZ E (m_L nm) X Qs zShF kc ks 387 (lwl (nI i)) [] I L R := by
  unfold zAw at hA
  refine z_aload_n d_L_387 rfl ?_
  refine z_aload_n d_L_388 rfl ?_
  refine z_iload_n d_L_389 rfl ?_
  refine z_iconst d_L_390 ki_1 ?_
  refine z_iadd d_L_391 ?_
  refine z_sld d_L_392 hs (ixL hi hn).2.1 ?_
  refine z_rV d_L_393 q_L_47 rfl (by decide) ⟨rfl, rfl⟩ hA rfl rfl rfl hroom (fun r1 Sh1 I1 L1 R1 h1 => ?_)
  obtain ⟨rfl, v, rfl, h2⟩ := h1
  show zZ E (m_L nm) X Qs zShF kc ks 396 (lwl (nI i)) [.int v] I1 L1 R1
  refine z_pop d_L_396 rfl ?_
  refine z_aload_n d_L_397 rfl ?_
  refine z_aload_n d_L_398 rfl ?_
  refine z_iload_n d_L_399 rfl ?_
  refine z_iconst d_L_400 ki_1 ?_
  refine z_iadd d_L_401 ?_
  refine z_sld d_L_402 hs (ixL hi hn).2.1 ?_
  refine z_rV d_L_403 q_L_50 rfl (by decide) ⟨rfl, rfl⟩ h2 rfl rfl rfl hroom (fun r3 Sh3 I3 L3 R3 h3 => ?_)
  obtain ⟨rfl, ⟨v2, rfl⟩, h3⟩ := h3
  show zZ E (m_L nm) X Qs zShF kc ks 406 (lwl (nI i)) [.int v2] I3 L3 R3
  refine z_pop d_L_406 rfl ?_
  refine z_goto d_L_407 ?_
  exact k _ _ _ h3
theorem lc_8 (hs : lwS E X n xs) (hi : i + 5 ≤ n) (hn : n < 2 ^ 31) (hroom : kc ≤ (zrm (m_L nm)).cells ∧ ks ≤ (zrm (m_L nm)).slots) (hA : zAw E m_X7_down m_X8_down [] I L R Inv)
    (k : ∀ I1 L1 R1, Inv I1 L1 R1 → zZ E (m_L nm) X Qs zShF kc ks 1177 (lwl (nI i)) [] I1 L1 R1) : zZ E (m_L nm) X Qs zShF kc ks 410 (lwl (nI i)) [] I L R := by
  unfold zAw at hA
  refine z_aload_n d_L_410 rfl ?_
  refine z_rV d_L_411 q_L_51 rfl (by decide) ⟨rfl, rfl⟩ hA rfl rfl rfl hroom (fun r1 Sh1 I1 L1 R1 h1 => ?_)
  obtain ⟨rfl, v, rfl, h2⟩ := h1
  show zZ E (m_L nm) X Qs zShF kc ks 414 (lwl (nI i)) [.int v] I1 L1 R1
  refine z_pop d_L_414 rfl ?_
  refine z_aload_n d_L_415 rfl ?_
  refine z_rV d_L_416 q_L_54 rfl (by decide) ⟨rfl, rfl⟩ h2 rfl rfl rfl hroom (fun r3 Sh3 I3 L3 R3 h3 => ?_)
  obtain ⟨rfl, ⟨v2, rfl⟩, h3⟩ := h3
  show zZ E (m_L nm) X Qs zShF kc ks 419 (lwl (nI i)) [.int v2] I3 L3 R3
  refine z_pop d_L_419 rfl ?_
  refine z_goto d_L_420 ?_
  exact k _ _ _ h3
theorem lc_9 (hs : lwS E X n xs) (hi : i + 5 ≤ n) (hn : n < 2 ^ 31) (hroom : kc ≤ (zrm (m_L nm)).cells ∧ ks ≤ (zrm (m_L nm)).slots) (hA : zAw E m_X7_read m_X8_read [] I L R Inv)
    (k : ∀ I1 L1 R1, Inv I1 L1 R1 → zZ E (m_L nm) X Qs zShF kc ks 1177 (lwl (nI i)) [] I1 L1 R1) : zZ E (m_L nm) X Qs zShF kc ks 423 (lwl (nI i)) [] I L R := by
  unfold zAw at hA
  refine z_aload_n d_L_423 rfl ?_
  refine z_rV d_L_424 q_L_55 rfl (by decide) ⟨rfl, rfl⟩ hA rfl rfl rfl hroom (fun r1 Sh1 I1 L1 R1 h1 => ?_)
  obtain ⟨rfl, v, rfl, h2⟩ := h1
  show zZ E (m_L nm) X Qs zShF kc ks 427 (lwl (nI i)) [.int v] I1 L1 R1
  refine z_pop d_L_427 rfl ?_
  refine z_aload_n d_L_428 rfl ?_
  refine z_rV d_L_429 q_L_58 rfl (by decide) ⟨rfl, rfl⟩ h2 rfl rfl rfl hroom (fun r3 Sh3 I3 L3 R3 h3 => ?_)
  obtain ⟨rfl, ⟨v2, rfl⟩, h3⟩ := h3
  show zZ E (m_L nm) X Qs zShF kc ks 432 (lwl (nI i)) [.int v2] I3 L3 R3
  refine z_pop d_L_432 rfl ?_
  refine z_goto d_L_433 ?_
  exact k _ _ _ h3
theorem lc_10 (hs : lwS E X n xs) (hi : i + 5 ≤ n) (hn : n < 2 ^ 31) (hroom : kc ≤ (zrm (m_L nm)).cells ∧ ks ≤ (zrm (m_L nm)).slots) (hA : zAw E m_X7_line m_X8_line [.int (xs (nI i + 1).toNatClampNeg)] I L R Inv)
    (k : ∀ I1 L1 R1, Inv I1 L1 R1 → zZ E (m_L nm) X Qs zShF kc ks 1177 (lwl (nI i)) [] I1 L1 R1) : zZ E (m_L nm) X Qs zShF kc ks 436 (lwl (nI i)) [] I L R := by
  unfold zAw at hA
  refine z_aload_n d_L_436 rfl ?_
  refine z_aload_n d_L_437 rfl ?_
  refine z_iload_n d_L_438 rfl ?_
  refine z_iconst d_L_439 ki_1 ?_
  refine z_iadd d_L_440 ?_
  refine z_sld d_L_441 hs (ixL hi hn).2.1 ?_
  refine z_rV d_L_442 q_L_59 rfl (by decide) ⟨rfl, rfl⟩ hA rfl rfl rfl hroom (fun r1 Sh1 I1 L1 R1 h1 => ?_)
  obtain ⟨rfl, v, rfl, h2⟩ := h1
  show zZ E (m_L nm) X Qs zShF kc ks 445 (lwl (nI i)) [.int v] I1 L1 R1
  refine z_pop d_L_445 rfl ?_
  refine z_aload_n d_L_446 rfl ?_
  refine z_aload_n d_L_447 rfl ?_
  refine z_iload_n d_L_448 rfl ?_
  refine z_iconst d_L_449 ki_1 ?_
  refine z_iadd d_L_450 ?_
  refine z_sld d_L_451 hs (ixL hi hn).2.1 ?_
  refine z_rV d_L_452 q_L_62 rfl (by decide) ⟨rfl, rfl⟩ h2 rfl rfl rfl hroom (fun r3 Sh3 I3 L3 R3 h3 => ?_)
  obtain ⟨rfl, ⟨v2, rfl⟩, h3⟩ := h3
  show zZ E (m_L nm) X Qs zShF kc ks 455 (lwl (nI i)) [.int v2] I3 L3 R3
  refine z_pop d_L_455 rfl ?_
  refine z_goto d_L_456 ?_
  exact k _ _ _ h3
theorem lc_11 (hs : lwS E X n xs) (hi : i + 5 ≤ n) (hn : n < 2 ^ 31) (hroom : kc ≤ (zrm (m_L nm)).cells ∧ ks ≤ (zrm (m_L nm)).slots) (hA : zAl E m_X7_now m_X8_now [.int (xs (nI i + 1).toNatClampNeg)] I L R Inv)
    (k : ∀ I1 L1 R1, Inv I1 L1 R1 → zZ E (m_L nm) X Qs zShF kc ks 1177 (lwl (nI i)) [] I1 L1 R1) : zZ E (m_L nm) X Qs zShF kc ks 459 (lwl (nI i)) [] I L R := by
  unfold zAl at hA
  refine z_aload_n d_L_459 rfl ?_
  refine z_aload_n d_L_460 rfl ?_
  refine z_iload_n d_L_461 rfl ?_
  refine z_iconst d_L_462 ki_1 ?_
  refine z_iadd d_L_463 ?_
  refine z_sld d_L_464 hs (ixL hi hn).2.1 ?_
  refine z_rV d_L_465 q_L_63 rfl (by decide) ⟨rfl, rfl⟩ hA rfl rfl rfl hroom (fun r1 Sh1 I1 L1 R1 h1 => ?_)
  obtain ⟨rfl, v, rfl, h2⟩ := h1
  show zZ E (m_L nm) X Qs zShF kc ks 468 (lwl (nI i)) [.long v] I1 L1 R1
  refine z_pop2 d_L_468 ?_
  refine z_aload_n d_L_469 rfl ?_
  refine z_aload_n d_L_470 rfl ?_
  refine z_iload_n d_L_471 rfl ?_
  refine z_iconst d_L_472 ki_1 ?_
  refine z_iadd d_L_473 ?_
  refine z_sld d_L_474 hs (ixL hi hn).2.1 ?_
  refine z_rV d_L_475 q_L_67 rfl (by decide) ⟨rfl, rfl⟩ h2 rfl rfl rfl hroom (fun r3 Sh3 I3 L3 R3 h3 => ?_)
  obtain ⟨rfl, rfl, h3⟩ := h3
  show zZ E (m_L nm) X Qs zShF kc ks 478 (lwl (nI i)) [.long v] I3 L3 R3
  refine z_pop2 d_L_478 ?_
  refine z_goto d_L_479 ?_
  exact k _ _ _ h3
theorem lc_12 (hs : lwS E X n xs) (hi : i + 5 ≤ n) (hn : n < 2 ^ 31) (hroom : kc ≤ (zrm (m_L nm)).cells ∧ ks ≤ (zrm (m_L nm)).slots) (hA : zAw E m_X7_clear m_X8_clear [] I L R Inv)
    (k : ∀ I1 L1 R1, Inv I1 L1 R1 → zZ E (m_L nm) X Qs zShF kc ks 1177 (lwl (nI i)) [] I1 L1 R1) : zZ E (m_L nm) X Qs zShF kc ks 482 (lwl (nI i)) [] I L R := by
  unfold zAw at hA
  refine z_aload_n d_L_482 rfl ?_
  refine z_rV d_L_483 q_L_68 rfl (by decide) ⟨rfl, rfl⟩ hA rfl rfl rfl hroom (fun r1 Sh1 I1 L1 R1 h1 => ?_)
  obtain ⟨rfl, v, rfl, h2⟩ := h1
  show zZ E (m_L nm) X Qs zShF kc ks 486 (lwl (nI i)) [.int v] I1 L1 R1
  refine z_pop d_L_486 rfl ?_
  refine z_aload_n d_L_487 rfl ?_
  refine z_rV d_L_488 q_L_71 rfl (by decide) ⟨rfl, rfl⟩ h2 rfl rfl rfl hroom (fun r3 Sh3 I3 L3 R3 h3 => ?_)
  obtain ⟨rfl, ⟨v2, rfl⟩, h3⟩ := h3
  show zZ E (m_L nm) X Qs zShF kc ks 491 (lwl (nI i)) [.int v2] I3 L3 R3
  refine z_pop d_L_491 rfl ?_
  refine z_goto d_L_492 ?_
  exact k _ _ _ h3
theorem lc_13 (hs : lwS E X n xs) (hi : i + 5 ≤ n) (hn : n < 2 ^ 31) (hroom : kc ≤ (zrm (m_L nm)).cells ∧ ks ≤ (zrm (m_L nm)).slots) (hA : zAw E m_X7_picture m_X8_picture [.int (xs (nI i + 1).toNatClampNeg), .int (xs (nI i + 2).toNatClampNeg), .int (xs (nI i + 3).toNatClampNeg), .int (xs (nI i + 4).toNatClampNeg)] I L R Inv)
    (k : ∀ I1 L1 R1, Inv I1 L1 R1 → zZ E (m_L nm) X Qs zShF kc ks 1177 (lwl (nI i)) [] I1 L1 R1) : zZ E (m_L nm) X Qs zShF kc ks 495 (lwl (nI i)) [] I L R := by
  unfold zAw at hA
  refine z_aload_n d_L_495 rfl ?_
  refine z_aload_n d_L_496 rfl ?_
  refine z_iload_n d_L_497 rfl ?_
  refine z_iconst d_L_498 ki_1 ?_
  refine z_iadd d_L_499 ?_
  refine z_sld d_L_500 hs (ixL hi hn).2.1 ?_
  refine z_aload_n d_L_501 rfl ?_
  refine z_iload_n d_L_502 rfl ?_
  refine z_iconst d_L_503 ki_2 ?_
  refine z_iadd d_L_504 ?_
  refine z_sld d_L_505 hs (ixL hi hn).2.2.1 ?_
  refine z_aload_n d_L_506 rfl ?_
  refine z_iload_n d_L_507 rfl ?_
  refine z_iconst d_L_508 ki_3 ?_
  refine z_iadd d_L_509 ?_
  refine z_sld d_L_510 hs (ixL hi hn).2.2.2.1 ?_
  refine z_aload_n d_L_511 rfl ?_
  refine z_iload_n d_L_512 rfl ?_
  refine z_iconst d_L_513 ki_4 ?_
  refine z_iadd d_L_514 ?_
  refine z_sld d_L_515 hs (ixL hi hn).2.2.2.2 ?_
  refine z_rV d_L_516 q_L_72 rfl (by decide) ⟨rfl, rfl⟩ hA rfl rfl rfl hroom (fun r1 Sh1 I1 L1 R1 h1 => ?_)
  obtain ⟨rfl, v, rfl, h2⟩ := h1
  show zZ E (m_L nm) X Qs zShF kc ks 519 (lwl (nI i)) [.int v] I1 L1 R1
  refine z_pop d_L_519 rfl ?_
  refine z_aload_n d_L_520 rfl ?_
  refine z_aload_n d_L_521 rfl ?_
  refine z_iload_n d_L_522 rfl ?_
  refine z_iconst d_L_523 ki_1 ?_
  refine z_iadd d_L_524 ?_
  refine z_sld d_L_525 hs (ixL hi hn).2.1 ?_
  refine z_aload_n d_L_526 rfl ?_
  refine z_iload_n d_L_527 rfl ?_
  refine z_iconst d_L_528 ki_2 ?_
  refine z_iadd d_L_529 ?_
  refine z_sld d_L_530 hs (ixL hi hn).2.2.1 ?_
  refine z_aload_n d_L_531 rfl ?_
  refine z_iload_n d_L_532 rfl ?_
  refine z_iconst d_L_533 ki_3 ?_
  refine z_iadd d_L_534 ?_
  refine z_sld d_L_535 hs (ixL hi hn).2.2.2.1 ?_
  refine z_aload_n d_L_536 rfl ?_
  refine z_iload_n d_L_537 rfl ?_
  refine z_iconst d_L_538 ki_4 ?_
  refine z_iadd d_L_539 ?_
  refine z_sld d_L_540 hs (ixL hi hn).2.2.2.2 ?_
  refine z_rV d_L_541 q_L_76 rfl (by decide) ⟨rfl, rfl⟩ h2 rfl rfl rfl hroom (fun r3 Sh3 I3 L3 R3 h3 => ?_)
  obtain ⟨rfl, ⟨v2, rfl⟩, h3⟩ := h3
  show zZ E (m_L nm) X Qs zShF kc ks 544 (lwl (nI i)) [.int v2] I3 L3 R3
  refine z_pop d_L_544 rfl ?_
  refine z_goto d_L_545 ?_
  exact k _ _ _ h3
theorem lc_14 (hs : lwS E X n xs) (hi : i + 5 ≤ n) (hn : n < 2 ^ 31) (hroom : kc ≤ (zrm (m_L nm)).cells ∧ ks ≤ (zrm (m_L nm)).slots) (hA : zAw E m_X7_shades m_X8_shades [.int (xs (nI i + 1).toNatClampNeg), .int (xs (nI i + 2).toNatClampNeg), .int (xs (nI i + 3).toNatClampNeg)] I L R Inv)
    (k : ∀ I1 L1 R1, Inv I1 L1 R1 → zZ E (m_L nm) X Qs zShF kc ks 1177 (lwl (nI i)) [] I1 L1 R1) : zZ E (m_L nm) X Qs zShF kc ks 548 (lwl (nI i)) [] I L R := by
  unfold zAw at hA
  refine z_aload_n d_L_548 rfl ?_
  refine z_aload_n d_L_549 rfl ?_
  refine z_iload_n d_L_550 rfl ?_
  refine z_iconst d_L_551 ki_1 ?_
  refine z_iadd d_L_552 ?_
  refine z_sld d_L_553 hs (ixL hi hn).2.1 ?_
  refine z_aload_n d_L_554 rfl ?_
  refine z_iload_n d_L_555 rfl ?_
  refine z_iconst d_L_556 ki_2 ?_
  refine z_iadd d_L_557 ?_
  refine z_sld d_L_558 hs (ixL hi hn).2.2.1 ?_
  refine z_aload_n d_L_559 rfl ?_
  refine z_iload_n d_L_560 rfl ?_
  refine z_iconst d_L_561 ki_3 ?_
  refine z_iadd d_L_562 ?_
  refine z_sld d_L_563 hs (ixL hi hn).2.2.2.1 ?_
  refine z_rV d_L_564 q_L_77 rfl (by decide) ⟨rfl, rfl⟩ hA rfl rfl rfl hroom (fun r1 Sh1 I1 L1 R1 h1 => ?_)
  obtain ⟨rfl, v, rfl, h2⟩ := h1
  show zZ E (m_L nm) X Qs zShF kc ks 567 (lwl (nI i)) [.int v] I1 L1 R1
  refine z_pop d_L_567 rfl ?_
  refine z_aload_n d_L_568 rfl ?_
  refine z_aload_n d_L_569 rfl ?_
  refine z_iload_n d_L_570 rfl ?_
  refine z_iconst d_L_571 ki_1 ?_
  refine z_iadd d_L_572 ?_
  refine z_sld d_L_573 hs (ixL hi hn).2.1 ?_
  refine z_aload_n d_L_574 rfl ?_
  refine z_iload_n d_L_575 rfl ?_
  refine z_iconst d_L_576 ki_2 ?_
  refine z_iadd d_L_577 ?_
  refine z_sld d_L_578 hs (ixL hi hn).2.2.1 ?_
  refine z_aload_n d_L_579 rfl ?_
  refine z_iload_n d_L_580 rfl ?_
  refine z_iconst d_L_581 ki_3 ?_
  refine z_iadd d_L_582 ?_
  refine z_sld d_L_583 hs (ixL hi hn).2.2.2.1 ?_
  refine z_rV d_L_584 q_L_81 rfl (by decide) ⟨rfl, rfl⟩ h2 rfl rfl rfl hroom (fun r3 Sh3 I3 L3 R3 h3 => ?_)
  obtain ⟨rfl, ⟨v2, rfl⟩, h3⟩ := h3
  show zZ E (m_L nm) X Qs zShF kc ks 587 (lwl (nI i)) [.int v2] I3 L3 R3
  refine z_pop d_L_587 rfl ?_
  refine z_goto d_L_588 ?_
  exact k _ _ _ h3
theorem lc_15 (hs : lwS E X n xs) (hi : i + 5 ≤ n) (hn : n < 2 ^ 31) (hroom : kc ≤ (zrm (m_L nm)).cells ∧ ks ≤ (zrm (m_L nm)).slots) (hA : zAw E m_X7_late m_X8_late [.int (xs (nI i + 1).toNatClampNeg)] I L R Inv)
    (k : ∀ I1 L1 R1, Inv I1 L1 R1 → zZ E (m_L nm) X Qs zShF kc ks 1177 (lwl (nI i)) [] I1 L1 R1) : zZ E (m_L nm) X Qs zShF kc ks 591 (lwl (nI i)) [] I L R := by
  unfold zAw at hA
  refine z_aload_n d_L_591 rfl ?_
  refine z_aload_n d_L_592 rfl ?_
  refine z_iload_n d_L_593 rfl ?_
  refine z_iconst d_L_594 ki_1 ?_
  refine z_iadd d_L_595 ?_
  refine z_sld d_L_596 hs (ixL hi hn).2.1 ?_
  refine z_rV d_L_597 q_L_82 rfl (by decide) ⟨rfl, rfl⟩ hA rfl rfl rfl hroom (fun r1 Sh1 I1 L1 R1 h1 => ?_)
  obtain ⟨rfl, v, rfl, h2⟩ := h1
  show zZ E (m_L nm) X Qs zShF kc ks 600 (lwl (nI i)) [.int v] I1 L1 R1
  refine z_pop d_L_600 rfl ?_
  refine z_aload_n d_L_601 rfl ?_
  refine z_aload_n d_L_602 rfl ?_
  refine z_iload_n d_L_603 rfl ?_
  refine z_iconst d_L_604 ki_1 ?_
  refine z_iadd d_L_605 ?_
  refine z_sld d_L_606 hs (ixL hi hn).2.1 ?_
  refine z_rV d_L_607 q_L_85 rfl (by decide) ⟨rfl, rfl⟩ h2 rfl rfl rfl hroom (fun r3 Sh3 I3 L3 R3 h3 => ?_)
  obtain ⟨rfl, ⟨v2, rfl⟩, h3⟩ := h3
  show zZ E (m_L nm) X Qs zShF kc ks 610 (lwl (nI i)) [.int v2] I3 L3 R3
  refine z_pop d_L_610 rfl ?_
  refine z_goto d_L_611 ?_
  exact k _ _ _ h3
theorem lc_16 (hs : lwS E X n xs) (hi : i + 5 ≤ n) (hn : n < 2 ^ 31) (hroom : kc ≤ (zrm (m_L nm)).cells ∧ ks ≤ (zrm (m_L nm)).slots) (hA : zAw E m_X7_smear m_X8_smear [.int (xs (nI i + 1).toNatClampNeg)] I L R Inv)
    (k : ∀ I1 L1 R1, Inv I1 L1 R1 → zZ E (m_L nm) X Qs zShF kc ks 1177 (lwl (nI i)) [] I1 L1 R1) : zZ E (m_L nm) X Qs zShF kc ks 614 (lwl (nI i)) [] I L R := by
  unfold zAw at hA
  refine z_aload_n d_L_614 rfl ?_
  refine z_aload_n d_L_615 rfl ?_
  refine z_iload_n d_L_616 rfl ?_
  refine z_iconst d_L_617 ki_1 ?_
  refine z_iadd d_L_618 ?_
  refine z_sld d_L_619 hs (ixL hi hn).2.1 ?_
  refine z_rV d_L_620 q_L_86 rfl (by decide) ⟨rfl, rfl⟩ hA rfl rfl rfl hroom (fun r1 Sh1 I1 L1 R1 h1 => ?_)
  obtain ⟨rfl, v, rfl, h2⟩ := h1
  show zZ E (m_L nm) X Qs zShF kc ks 623 (lwl (nI i)) [.int v] I1 L1 R1
  refine z_pop d_L_623 rfl ?_
  refine z_aload_n d_L_624 rfl ?_
  refine z_aload_n d_L_625 rfl ?_
  refine z_iload_n d_L_626 rfl ?_
  refine z_iconst d_L_627 ki_1 ?_
  refine z_iadd d_L_628 ?_
  refine z_sld d_L_629 hs (ixL hi hn).2.1 ?_
  refine z_rV d_L_630 q_L_89 rfl (by decide) ⟨rfl, rfl⟩ h2 rfl rfl rfl hroom (fun r3 Sh3 I3 L3 R3 h3 => ?_)
  obtain ⟨rfl, ⟨v2, rfl⟩, h3⟩ := h3
  show zZ E (m_L nm) X Qs zShF kc ks 633 (lwl (nI i)) [.int v2] I3 L3 R3
  refine z_pop d_L_633 rfl ?_
  refine z_goto d_L_634 ?_
  exact k _ _ _ h3
theorem lc_17 (hs : lwS E X n xs) (hi : i + 5 ≤ n) (hn : n < 2 ^ 31) (hroom : kc ≤ (zrm (m_L nm)).cells ∧ ks ≤ (zrm (m_L nm)).slots) (hA : zAw E m_X7_spoiled m_X8_spoiled [.int (xs (nI i + 1).toNatClampNeg)] I L R Inv)
    (k : ∀ I1 L1 R1, Inv I1 L1 R1 → zZ E (m_L nm) X Qs zShF kc ks 1177 (lwl (nI i)) [] I1 L1 R1) : zZ E (m_L nm) X Qs zShF kc ks 637 (lwl (nI i)) [] I L R := by
  unfold zAw at hA
  refine z_aload_n d_L_637 rfl ?_
  refine z_aload_n d_L_638 rfl ?_
  refine z_iload_n d_L_639 rfl ?_
  refine z_iconst d_L_640 ki_1 ?_
  refine z_iadd d_L_641 ?_
  refine z_sld d_L_642 hs (ixL hi hn).2.1 ?_
  refine z_rV d_L_643 q_L_90 rfl (by decide) ⟨rfl, rfl⟩ hA rfl rfl rfl hroom (fun r1 Sh1 I1 L1 R1 h1 => ?_)
  obtain ⟨rfl, v, rfl, h2⟩ := h1
  show zZ E (m_L nm) X Qs zShF kc ks 646 (lwl (nI i)) [.int v] I1 L1 R1
  refine z_pop d_L_646 rfl ?_
  refine z_aload_n d_L_647 rfl ?_
  refine z_aload_n d_L_648 rfl ?_
  refine z_iload_n d_L_649 rfl ?_
  refine z_iconst d_L_650 ki_1 ?_
  refine z_iadd d_L_651 ?_
  refine z_sld d_L_652 hs (ixL hi hn).2.1 ?_
  refine z_rV d_L_653 q_L_93 rfl (by decide) ⟨rfl, rfl⟩ h2 rfl rfl rfl hroom (fun r3 Sh3 I3 L3 R3 h3 => ?_)
  obtain ⟨rfl, ⟨v2, rfl⟩, h3⟩ := h3
  show zZ E (m_L nm) X Qs zShF kc ks 656 (lwl (nI i)) [.int v2] I3 L3 R3
  refine z_pop d_L_656 rfl ?_
  refine z_goto d_L_657 ?_
  exact k _ _ _ h3
theorem lc_18 (hs : lwS E X n xs) (hi : i + 5 ≤ n) (hn : n < 2 ^ 31) (hroom : kc ≤ (zrm (m_L nm)).cells ∧ ks ≤ (zrm (m_L nm)).slots) (hA : zAw E m_X7_full m_X8_full [.int (xs (nI i + 1).toNatClampNeg)] I L R Inv)
    (k : ∀ I1 L1 R1, Inv I1 L1 R1 → zZ E (m_L nm) X Qs zShF kc ks 1177 (lwl (nI i)) [] I1 L1 R1) : zZ E (m_L nm) X Qs zShF kc ks 660 (lwl (nI i)) [] I L R := by
  unfold zAw at hA
  refine z_aload_n d_L_660 rfl ?_
  refine z_aload_n d_L_661 rfl ?_
  refine z_iload_n d_L_662 rfl ?_
  refine z_iconst d_L_663 ki_1 ?_
  refine z_iadd d_L_664 ?_
  refine z_sld d_L_665 hs (ixL hi hn).2.1 ?_
  refine z_rV d_L_666 q_L_94 rfl (by decide) ⟨rfl, rfl⟩ hA rfl rfl rfl hroom (fun r1 Sh1 I1 L1 R1 h1 => ?_)
  obtain ⟨rfl, v, rfl, h2⟩ := h1
  show zZ E (m_L nm) X Qs zShF kc ks 669 (lwl (nI i)) [.int v] I1 L1 R1
  refine z_pop d_L_669 rfl ?_
  refine z_aload_n d_L_670 rfl ?_
  refine z_aload_n d_L_671 rfl ?_
  refine z_iload_n d_L_672 rfl ?_
  refine z_iconst d_L_673 ki_1 ?_
  refine z_iadd d_L_674 ?_
  refine z_sld d_L_675 hs (ixL hi hn).2.1 ?_
  refine z_rV d_L_676 q_L_97 rfl (by decide) ⟨rfl, rfl⟩ h2 rfl rfl rfl hroom (fun r3 Sh3 I3 L3 R3 h3 => ?_)
  obtain ⟨rfl, ⟨v2, rfl⟩, h3⟩ := h3
  show zZ E (m_L nm) X Qs zShF kc ks 679 (lwl (nI i)) [.int v2] I3 L3 R3
  refine z_pop d_L_679 rfl ?_
  refine z_goto d_L_680 ?_
  exact k _ _ _ h3
theorem lc_19 (hs : lwS E X n xs) (hi : i + 5 ≤ n) (hn : n < 2 ^ 31) (hroom : kc ≤ (zrm (m_L nm)).cells ∧ ks ≤ (zrm (m_L nm)).slots) (hA : zAw E m_X7_longest m_X8_longest [] I L R Inv)
    (k : ∀ I1 L1 R1, Inv I1 L1 R1 → zZ E (m_L nm) X Qs zShF kc ks 1177 (lwl (nI i)) [] I1 L1 R1) : zZ E (m_L nm) X Qs zShF kc ks 683 (lwl (nI i)) [] I L R := by
  unfold zAw at hA
  refine z_aload_n d_L_683 rfl ?_
  refine z_rV d_L_684 q_L_98 rfl (by decide) ⟨rfl, rfl⟩ hA rfl rfl rfl hroom (fun r1 Sh1 I1 L1 R1 h1 => ?_)
  obtain ⟨rfl, v, rfl, h2⟩ := h1
  show zZ E (m_L nm) X Qs zShF kc ks 687 (lwl (nI i)) [.int v] I1 L1 R1
  refine z_pop d_L_687 rfl ?_
  refine z_aload_n d_L_688 rfl ?_
  refine z_rV d_L_689 q_L_101 rfl (by decide) ⟨rfl, rfl⟩ h2 rfl rfl rfl hroom (fun r3 Sh3 I3 L3 R3 h3 => ?_)
  obtain ⟨rfl, ⟨v2, rfl⟩, h3⟩ := h3
  show zZ E (m_L nm) X Qs zShF kc ks 692 (lwl (nI i)) [.int v2] I3 L3 R3
  refine z_pop d_L_692 rfl ?_
  refine z_goto d_L_693 ?_
  exact k _ _ _ h3
theorem lc_20 (hs : lwS E X n xs) (hi : i + 5 ≤ n) (hn : n < 2 ^ 31) (hroom : kc ≤ (zrm (m_L nm)).cells ∧ ks ≤ (zrm (m_L nm)).slots) (hA : zAw E m_X7_enough m_X8_enough [.int (xs (nI i + 1).toNatClampNeg)] I L R Inv)
    (k : ∀ I1 L1 R1, Inv I1 L1 R1 → zZ E (m_L nm) X Qs zShF kc ks 1177 (lwl (nI i)) [] I1 L1 R1) : zZ E (m_L nm) X Qs zShF kc ks 696 (lwl (nI i)) [] I L R := by
  unfold zAw at hA
  refine z_aload_n d_L_696 rfl ?_
  refine z_aload_n d_L_697 rfl ?_
  refine z_iload_n d_L_698 rfl ?_
  refine z_iconst d_L_699 ki_1 ?_
  refine z_iadd d_L_700 ?_
  refine z_sld d_L_701 hs (ixL hi hn).2.1 ?_
  refine z_rV d_L_702 q_L_102 rfl (by decide) ⟨rfl, rfl⟩ hA rfl rfl rfl hroom (fun r1 Sh1 I1 L1 R1 h1 => ?_)
  obtain ⟨rfl, v, rfl, h2⟩ := h1
  show zZ E (m_L nm) X Qs zShF kc ks 705 (lwl (nI i)) [.int v] I1 L1 R1
  refine z_pop d_L_705 rfl ?_
  refine z_aload_n d_L_706 rfl ?_
  refine z_aload_n d_L_707 rfl ?_
  refine z_iload_n d_L_708 rfl ?_
  refine z_iconst d_L_709 ki_1 ?_
  refine z_iadd d_L_710 ?_
  refine z_sld d_L_711 hs (ixL hi hn).2.1 ?_
  refine z_rV d_L_712 q_L_105 rfl (by decide) ⟨rfl, rfl⟩ h2 rfl rfl rfl hroom (fun r3 Sh3 I3 L3 R3 h3 => ?_)
  obtain ⟨rfl, ⟨v2, rfl⟩, h3⟩ := h3
  show zZ E (m_L nm) X Qs zShF kc ks 715 (lwl (nI i)) [.int v2] I3 L3 R3
  refine z_pop d_L_715 rfl ?_
  refine z_goto d_L_716 ?_
  exact k _ _ _ h3
theorem lc_21 (hs : lwS E X n xs) (hi : i + 5 ≤ n) (hn : n < 2 ^ 31) (hroom : kc ≤ (zrm (m_L nm)).cells ∧ ks ≤ (zrm (m_L nm)).slots) (hA : zAl E m_X7_hots m_X8_hots [.int (xs (nI i + 1).toNatClampNeg), .int (xs (nI i + 2).toNatClampNeg)] I L R Inv)
    (k : ∀ I1 L1 R1, Inv I1 L1 R1 → zZ E (m_L nm) X Qs zShF kc ks 1177 (lwl (nI i)) [] I1 L1 R1) : zZ E (m_L nm) X Qs zShF kc ks 719 (lwl (nI i)) [] I L R := by
  unfold zAl at hA
  refine z_aload_n d_L_719 rfl ?_
  refine z_aload_n d_L_720 rfl ?_
  refine z_iload_n d_L_721 rfl ?_
  refine z_iconst d_L_722 ki_1 ?_
  refine z_iadd d_L_723 ?_
  refine z_sld d_L_724 hs (ixL hi hn).2.1 ?_
  refine z_aload_n d_L_725 rfl ?_
  refine z_iload_n d_L_726 rfl ?_
  refine z_iconst d_L_727 ki_2 ?_
  refine z_iadd d_L_728 ?_
  refine z_sld d_L_729 hs (ixL hi hn).2.2.1 ?_
  refine z_rV d_L_730 q_L_106 rfl (by decide) ⟨rfl, rfl⟩ hA rfl rfl rfl hroom (fun r1 Sh1 I1 L1 R1 h1 => ?_)
  obtain ⟨rfl, v, rfl, h2⟩ := h1
  show zZ E (m_L nm) X Qs zShF kc ks 733 (lwl (nI i)) [.long v] I1 L1 R1
  refine z_pop2 d_L_733 ?_
  refine z_aload_n d_L_734 rfl ?_
  refine z_aload_n d_L_735 rfl ?_
  refine z_iload_n d_L_736 rfl ?_
  refine z_iconst d_L_737 ki_1 ?_
  refine z_iadd d_L_738 ?_
  refine z_sld d_L_739 hs (ixL hi hn).2.1 ?_
  refine z_aload_n d_L_740 rfl ?_
  refine z_iload_n d_L_741 rfl ?_
  refine z_iconst d_L_742 ki_2 ?_
  refine z_iadd d_L_743 ?_
  refine z_sld d_L_744 hs (ixL hi hn).2.2.1 ?_
  refine z_rV d_L_745 q_L_110 rfl (by decide) ⟨rfl, rfl⟩ h2 rfl rfl rfl hroom (fun r3 Sh3 I3 L3 R3 h3 => ?_)
  obtain ⟨rfl, rfl, h3⟩ := h3
  show zZ E (m_L nm) X Qs zShF kc ks 748 (lwl (nI i)) [.long v] I3 L3 R3
  refine z_pop2 d_L_748 ?_
  refine z_goto d_L_749 ?_
  exact k _ _ _ h3
theorem lc_22 (hs : lwS E X n xs) (hi : i + 5 ≤ n) (hn : n < 2 ^ 31) (hroom : kc ≤ (zrm (m_L nm)).cells ∧ ks ≤ (zrm (m_L nm)).slots) (hA : zAw E m_X7_mended m_X8_mended [.int (xs (nI i + 1).toNatClampNeg)] I L R Inv)
    (k : ∀ I1 L1 R1, Inv I1 L1 R1 → zZ E (m_L nm) X Qs zShF kc ks 1177 (lwl (nI i)) [] I1 L1 R1) : zZ E (m_L nm) X Qs zShF kc ks 752 (lwl (nI i)) [] I L R := by
  unfold zAw at hA
  refine z_aload_n d_L_752 rfl ?_
  refine z_aload_n d_L_753 rfl ?_
  refine z_iload_n d_L_754 rfl ?_
  refine z_iconst d_L_755 ki_1 ?_
  refine z_iadd d_L_756 ?_
  refine z_sld d_L_757 hs (ixL hi hn).2.1 ?_
  refine z_rV d_L_758 q_L_111 rfl (by decide) ⟨rfl, rfl⟩ hA rfl rfl rfl hroom (fun r1 Sh1 I1 L1 R1 h1 => ?_)
  obtain ⟨rfl, v, rfl, h2⟩ := h1
  show zZ E (m_L nm) X Qs zShF kc ks 761 (lwl (nI i)) [.int v] I1 L1 R1
  refine z_pop d_L_761 rfl ?_
  refine z_aload_n d_L_762 rfl ?_
  refine z_aload_n d_L_763 rfl ?_
  refine z_iload_n d_L_764 rfl ?_
  refine z_iconst d_L_765 ki_1 ?_
  refine z_iadd d_L_766 ?_
  refine z_sld d_L_767 hs (ixL hi hn).2.1 ?_
  refine z_rV d_L_768 q_L_114 rfl (by decide) ⟨rfl, rfl⟩ h2 rfl rfl rfl hroom (fun r3 Sh3 I3 L3 R3 h3 => ?_)
  obtain ⟨rfl, ⟨v2, rfl⟩, h3⟩ := h3
  show zZ E (m_L nm) X Qs zShF kc ks 771 (lwl (nI i)) [.int v2] I3 L3 R3
  refine z_pop d_L_771 rfl ?_
  refine z_goto d_L_772 ?_
  exact k _ _ _ h3
theorem lc_23 (hs : lwS E X n xs) (hi : i + 5 ≤ n) (hn : n < 2 ^ 31) (hroom : kc ≤ (zrm (m_L nm)).cells ∧ ks ≤ (zrm (m_L nm)).slots) (hA : zAw E m_X7_word m_X8_word [.int (xs (nI i + 1).toNatClampNeg)] I L R Inv)
    (k : ∀ I1 L1 R1, Inv I1 L1 R1 → zZ E (m_L nm) X Qs zShF kc ks 1177 (lwl (nI i)) [] I1 L1 R1) : zZ E (m_L nm) X Qs zShF kc ks 775 (lwl (nI i)) [] I L R := by
  unfold zAw at hA
  refine z_aload_n d_L_775 rfl ?_
  refine z_aload_n d_L_776 rfl ?_
  refine z_iload_n d_L_777 rfl ?_
  refine z_iconst d_L_778 ki_1 ?_
  refine z_iadd d_L_779 ?_
  refine z_sld d_L_780 hs (ixL hi hn).2.1 ?_
  refine z_rV d_L_781 q_L_115 rfl (by decide) ⟨rfl, rfl⟩ hA rfl rfl rfl hroom (fun r1 Sh1 I1 L1 R1 h1 => ?_)
  obtain ⟨rfl, v, rfl, h2⟩ := h1
  show zZ E (m_L nm) X Qs zShF kc ks 784 (lwl (nI i)) [.int v] I1 L1 R1
  refine z_pop d_L_784 rfl ?_
  refine z_aload_n d_L_785 rfl ?_
  refine z_aload_n d_L_786 rfl ?_
  refine z_iload_n d_L_787 rfl ?_
  refine z_iconst d_L_788 ki_1 ?_
  refine z_iadd d_L_789 ?_
  refine z_sld d_L_790 hs (ixL hi hn).2.1 ?_
  refine z_rV d_L_791 q_L_118 rfl (by decide) ⟨rfl, rfl⟩ h2 rfl rfl rfl hroom (fun r3 Sh3 I3 L3 R3 h3 => ?_)
  obtain ⟨rfl, ⟨v2, rfl⟩, h3⟩ := h3
  show zZ E (m_L nm) X Qs zShF kc ks 794 (lwl (nI i)) [.int v2] I3 L3 R3
  refine z_pop d_L_794 rfl ?_
  refine z_goto d_L_795 ?_
  exact k _ _ _ h3
theorem lc_24 (hs : lwS E X n xs) (hi : i + 5 ≤ n) (hn : n < 2 ^ 31) (hroom : kc ≤ (zrm (m_L nm)).cells ∧ ks ≤ (zrm (m_L nm)).slots) (hA : zAw E m_X7_still m_X8_still [] I L R Inv)
    (k : ∀ I1 L1 R1, Inv I1 L1 R1 → zZ E (m_L nm) X Qs zShF kc ks 1177 (lwl (nI i)) [] I1 L1 R1) : zZ E (m_L nm) X Qs zShF kc ks 798 (lwl (nI i)) [] I L R := by
  unfold zAw at hA
  refine z_aload_n d_L_798 rfl ?_
  refine z_rV d_L_799 q_L_119 rfl (by decide) ⟨rfl, rfl⟩ hA rfl rfl rfl hroom (fun r1 Sh1 I1 L1 R1 h1 => ?_)
  obtain ⟨rfl, v, rfl, h2⟩ := h1
  show zZ E (m_L nm) X Qs zShF kc ks 802 (lwl (nI i)) [.int v] I1 L1 R1
  refine z_pop d_L_802 rfl ?_
  refine z_aload_n d_L_803 rfl ?_
  refine z_rV d_L_804 q_L_122 rfl (by decide) ⟨rfl, rfl⟩ h2 rfl rfl rfl hroom (fun r3 Sh3 I3 L3 R3 h3 => ?_)
  obtain ⟨rfl, ⟨v2, rfl⟩, h3⟩ := h3
  show zZ E (m_L nm) X Qs zShF kc ks 807 (lwl (nI i)) [.int v2] I3 L3 R3
  refine z_pop d_L_807 rfl ?_
  refine z_goto d_L_808 ?_
  exact k _ _ _ h3
theorem lc_25 (hs : lwS E X n xs) (hi : i + 5 ≤ n) (hn : n < 2 ^ 31) (hroom : kc ≤ (zrm (m_L nm)).cells ∧ ks ≤ (zrm (m_L nm)).slots) (hA : zAw E m_X7_words m_X8_words [.int (xs (nI i + 1).toNatClampNeg)] I L R Inv)
    (k : ∀ I1 L1 R1, Inv I1 L1 R1 → zZ E (m_L nm) X Qs zShF kc ks 1177 (lwl (nI i)) [] I1 L1 R1) : zZ E (m_L nm) X Qs zShF kc ks 811 (lwl (nI i)) [] I L R := by
  unfold zAw at hA
  refine z_aload_n d_L_811 rfl ?_
  refine z_aload_n d_L_812 rfl ?_
  refine z_iload_n d_L_813 rfl ?_
  refine z_iconst d_L_814 ki_1 ?_
  refine z_iadd d_L_815 ?_
  refine z_sld d_L_816 hs (ixL hi hn).2.1 ?_
  refine z_rV d_L_817 q_L_123 rfl (by decide) ⟨rfl, rfl⟩ hA rfl rfl rfl hroom (fun r1 Sh1 I1 L1 R1 h1 => ?_)
  obtain ⟨rfl, v, rfl, h2⟩ := h1
  show zZ E (m_L nm) X Qs zShF kc ks 820 (lwl (nI i)) [.int v] I1 L1 R1
  refine z_pop d_L_820 rfl ?_
  refine z_aload_n d_L_821 rfl ?_
  refine z_aload_n d_L_822 rfl ?_
  refine z_iload_n d_L_823 rfl ?_
  refine z_iconst d_L_824 ki_1 ?_
  refine z_iadd d_L_825 ?_
  refine z_sld d_L_826 hs (ixL hi hn).2.1 ?_
  refine z_rV d_L_827 q_L_126 rfl (by decide) ⟨rfl, rfl⟩ h2 rfl rfl rfl hroom (fun r3 Sh3 I3 L3 R3 h3 => ?_)
  obtain ⟨rfl, ⟨v2, rfl⟩, h3⟩ := h3
  show zZ E (m_L nm) X Qs zShF kc ks 830 (lwl (nI i)) [.int v2] I3 L3 R3
  refine z_pop d_L_830 rfl ?_
  refine z_goto d_L_831 ?_
  exact k _ _ _ h3
theorem lc_26 (hs : lwS E X n xs) (hi : i + 5 ≤ n) (hn : n < 2 ^ 31) (hroom : kc ≤ (zrm (m_L nm)).cells ∧ ks ≤ (zrm (m_L nm)).slots) (hA : zAw E m_X7_clock m_X8_clock [.int (xs (nI i + 1).toNatClampNeg)] I L R Inv)
    (k : ∀ I1 L1 R1, Inv I1 L1 R1 → zZ E (m_L nm) X Qs zShF kc ks 1177 (lwl (nI i)) [] I1 L1 R1) : zZ E (m_L nm) X Qs zShF kc ks 834 (lwl (nI i)) [] I L R := by
  unfold zAw at hA
  refine z_aload_n d_L_834 rfl ?_
  refine z_aload_n d_L_835 rfl ?_
  refine z_iload_n d_L_836 rfl ?_
  refine z_iconst d_L_837 ki_1 ?_
  refine z_iadd d_L_838 ?_
  refine z_sld d_L_839 hs (ixL hi hn).2.1 ?_
  refine z_rV d_L_840 q_L_127 rfl (by decide) ⟨rfl, rfl⟩ hA rfl rfl rfl hroom (fun r1 Sh1 I1 L1 R1 h1 => ?_)
  obtain ⟨rfl, v, rfl, h2⟩ := h1
  show zZ E (m_L nm) X Qs zShF kc ks 843 (lwl (nI i)) [.int v] I1 L1 R1
  refine z_pop d_L_843 rfl ?_
  refine z_aload_n d_L_844 rfl ?_
  refine z_aload_n d_L_845 rfl ?_
  refine z_iload_n d_L_846 rfl ?_
  refine z_iconst d_L_847 ki_1 ?_
  refine z_iadd d_L_848 ?_
  refine z_sld d_L_849 hs (ixL hi hn).2.1 ?_
  refine z_rV d_L_850 q_L_130 rfl (by decide) ⟨rfl, rfl⟩ h2 rfl rfl rfl hroom (fun r3 Sh3 I3 L3 R3 h3 => ?_)
  obtain ⟨rfl, ⟨v2, rfl⟩, h3⟩ := h3
  show zZ E (m_L nm) X Qs zShF kc ks 853 (lwl (nI i)) [.int v2] I3 L3 R3
  refine z_pop d_L_853 rfl ?_
  refine z_goto d_L_854 ?_
  exact k _ _ _ h3
theorem lc_27 (hs : lwS E X n xs) (hi : i + 5 ≤ n) (hn : n < 2 ^ 31) (hroom : kc ≤ (zrm (m_L nm)).cells ∧ ks ≤ (zrm (m_L nm)).slots) (hA : zAw E m_X7_goes m_X8_goes [.int (xs (nI i + 1).toNatClampNeg), .int (xs (nI i + 2).toNatClampNeg)] I L R Inv)
    (k : ∀ I1 L1 R1, Inv I1 L1 R1 → zZ E (m_L nm) X Qs zShF kc ks 1177 (lwl (nI i)) [] I1 L1 R1) : zZ E (m_L nm) X Qs zShF kc ks 857 (lwl (nI i)) [] I L R := by
  unfold zAw at hA
  refine z_aload_n d_L_857 rfl ?_
  refine z_aload_n d_L_858 rfl ?_
  refine z_iload_n d_L_859 rfl ?_
  refine z_iconst d_L_860 ki_1 ?_
  refine z_iadd d_L_861 ?_
  refine z_sld d_L_862 hs (ixL hi hn).2.1 ?_
  refine z_aload_n d_L_863 rfl ?_
  refine z_iload_n d_L_864 rfl ?_
  refine z_iconst d_L_865 ki_2 ?_
  refine z_iadd d_L_866 ?_
  refine z_sld d_L_867 hs (ixL hi hn).2.2.1 ?_
  refine z_rV d_L_868 q_L_131 rfl (by decide) ⟨rfl, rfl⟩ hA rfl rfl rfl hroom (fun r1 Sh1 I1 L1 R1 h1 => ?_)
  obtain ⟨rfl, v, rfl, h2⟩ := h1
  show zZ E (m_L nm) X Qs zShF kc ks 871 (lwl (nI i)) [.int v] I1 L1 R1
  refine z_pop d_L_871 rfl ?_
  refine z_aload_n d_L_872 rfl ?_
  refine z_aload_n d_L_873 rfl ?_
  refine z_iload_n d_L_874 rfl ?_
  refine z_iconst d_L_875 ki_1 ?_
  refine z_iadd d_L_876 ?_
  refine z_sld d_L_877 hs (ixL hi hn).2.1 ?_
  refine z_aload_n d_L_878 rfl ?_
  refine z_iload_n d_L_879 rfl ?_
  refine z_iconst d_L_880 ki_2 ?_
  refine z_iadd d_L_881 ?_
  refine z_sld d_L_882 hs (ixL hi hn).2.2.1 ?_
  refine z_rV d_L_883 q_L_134 rfl (by decide) ⟨rfl, rfl⟩ h2 rfl rfl rfl hroom (fun r3 Sh3 I3 L3 R3 h3 => ?_)
  obtain ⟨rfl, ⟨v2, rfl⟩, h3⟩ := h3
  show zZ E (m_L nm) X Qs zShF kc ks 886 (lwl (nI i)) [.int v2] I3 L3 R3
  refine z_pop d_L_886 rfl ?_
  refine z_goto d_L_887 ?_
  exact k _ _ _ h3
theorem lc_28 (hs : lwS E X n xs) (hi : i + 5 ≤ n) (hn : n < 2 ^ 31) (hroom : kc ≤ (zrm (m_L nm)).cells ∧ ks ≤ (zrm (m_L nm)).slots) (hA : zAw E m_X7_fewest m_X8_fewest [.int (xs (nI i + 1).toNatClampNeg)] I L R Inv)
    (k : ∀ I1 L1 R1, Inv I1 L1 R1 → zZ E (m_L nm) X Qs zShF kc ks 1177 (lwl (nI i)) [] I1 L1 R1) : zZ E (m_L nm) X Qs zShF kc ks 890 (lwl (nI i)) [] I L R := by
  unfold zAw at hA
  refine z_aload_n d_L_890 rfl ?_
  refine z_aload_n d_L_891 rfl ?_
  refine z_iload_n d_L_892 rfl ?_
  refine z_iconst d_L_893 ki_1 ?_
  refine z_iadd d_L_894 ?_
  refine z_sld d_L_895 hs (ixL hi hn).2.1 ?_
  refine z_rV d_L_896 q_L_135 rfl (by decide) ⟨rfl, rfl⟩ hA rfl rfl rfl hroom (fun r1 Sh1 I1 L1 R1 h1 => ?_)
  obtain ⟨rfl, v, rfl, h2⟩ := h1
  show zZ E (m_L nm) X Qs zShF kc ks 899 (lwl (nI i)) [.int v] I1 L1 R1
  refine z_pop d_L_899 rfl ?_
  refine z_aload_n d_L_900 rfl ?_
  refine z_aload_n d_L_901 rfl ?_
  refine z_iload_n d_L_902 rfl ?_
  refine z_iconst d_L_903 ki_1 ?_
  refine z_iadd d_L_904 ?_
  refine z_sld d_L_905 hs (ixL hi hn).2.1 ?_
  refine z_rV d_L_906 q_L_138 rfl (by decide) ⟨rfl, rfl⟩ h2 rfl rfl rfl hroom (fun r3 Sh3 I3 L3 R3 h3 => ?_)
  obtain ⟨rfl, ⟨v2, rfl⟩, h3⟩ := h3
  show zZ E (m_L nm) X Qs zShF kc ks 909 (lwl (nI i)) [.int v2] I3 L3 R3
  refine z_pop d_L_909 rfl ?_
  refine z_goto d_L_910 ?_
  exact k _ _ _ h3
theorem lc_29 (hs : lwS E X n xs) (hi : i + 5 ≤ n) (hn : n < 2 ^ 31) (hroom : kc ≤ (zrm (m_L nm)).cells ∧ ks ≤ (zrm (m_L nm)).slots) (hA : zAl E m_X7_rounds m_X8_rounds [.int (xs (nI i + 1).toNatClampNeg), .int (xs (nI i + 2).toNatClampNeg), .int (xs (nI i + 3).toNatClampNeg)] I L R Inv)
    (k : ∀ I1 L1 R1, Inv I1 L1 R1 → zZ E (m_L nm) X Qs zShF kc ks 1177 (lwl (nI i)) [] I1 L1 R1) : zZ E (m_L nm) X Qs zShF kc ks 913 (lwl (nI i)) [] I L R := by
  unfold zAl at hA
  refine z_aload_n d_L_913 rfl ?_
  refine z_aload_n d_L_914 rfl ?_
  refine z_iload_n d_L_915 rfl ?_
  refine z_iconst d_L_916 ki_1 ?_
  refine z_iadd d_L_917 ?_
  refine z_sld d_L_918 hs (ixL hi hn).2.1 ?_
  refine z_aload_n d_L_919 rfl ?_
  refine z_iload_n d_L_920 rfl ?_
  refine z_iconst d_L_921 ki_2 ?_
  refine z_iadd d_L_922 ?_
  refine z_sld d_L_923 hs (ixL hi hn).2.2.1 ?_
  refine z_aload_n d_L_924 rfl ?_
  refine z_iload_n d_L_925 rfl ?_
  refine z_iconst d_L_926 ki_3 ?_
  refine z_iadd d_L_927 ?_
  refine z_sld d_L_928 hs (ixL hi hn).2.2.2.1 ?_
  refine z_rV d_L_929 q_L_139 rfl (by decide) ⟨rfl, rfl⟩ hA rfl rfl rfl hroom (fun r1 Sh1 I1 L1 R1 h1 => ?_)
  obtain ⟨rfl, v, rfl, h2⟩ := h1
  show zZ E (m_L nm) X Qs zShF kc ks 932 (lwl (nI i)) [.long v] I1 L1 R1
  refine z_pop2 d_L_932 ?_
  refine z_aload_n d_L_933 rfl ?_
  refine z_aload_n d_L_934 rfl ?_
  refine z_iload_n d_L_935 rfl ?_
  refine z_iconst d_L_936 ki_1 ?_
  refine z_iadd d_L_937 ?_
  refine z_sld d_L_938 hs (ixL hi hn).2.1 ?_
  refine z_aload_n d_L_939 rfl ?_
  refine z_iload_n d_L_940 rfl ?_
  refine z_iconst d_L_941 ki_2 ?_
  refine z_iadd d_L_942 ?_
  refine z_sld d_L_943 hs (ixL hi hn).2.2.1 ?_
  refine z_aload_n d_L_944 rfl ?_
  refine z_iload_n d_L_945 rfl ?_
  refine z_iconst d_L_946 ki_3 ?_
  refine z_iadd d_L_947 ?_
  refine z_sld d_L_948 hs (ixL hi hn).2.2.2.1 ?_
  refine z_rV d_L_949 q_L_143 rfl (by decide) ⟨rfl, rfl⟩ h2 rfl rfl rfl hroom (fun r3 Sh3 I3 L3 R3 h3 => ?_)
  obtain ⟨rfl, rfl, h3⟩ := h3
  show zZ E (m_L nm) X Qs zShF kc ks 952 (lwl (nI i)) [.long v] I3 L3 R3
  refine z_pop2 d_L_952 ?_
  refine z_goto d_L_953 ?_
  exact k _ _ _ h3
theorem lc_30 (hs : lwS E X n xs) (hi : i + 5 ≤ n) (hn : n < 2 ^ 31) (hroom : kc ≤ (zrm (m_L nm)).cells ∧ ks ≤ (zrm (m_L nm)).slots) (hA : zAw E m_X7_keep m_X8_keep [.int (xs (nI i + 1).toNatClampNeg)] I L R Inv)
    (k : ∀ I1 L1 R1, Inv I1 L1 R1 → zZ E (m_L nm) X Qs zShF kc ks 1177 (lwl (nI i)) [] I1 L1 R1) : zZ E (m_L nm) X Qs zShF kc ks 956 (lwl (nI i)) [] I L R := by
  unfold zAw at hA
  refine z_aload_n d_L_956 rfl ?_
  refine z_aload_n d_L_957 rfl ?_
  refine z_iload_n d_L_958 rfl ?_
  refine z_iconst d_L_959 ki_1 ?_
  refine z_iadd d_L_960 ?_
  refine z_sld d_L_961 hs (ixL hi hn).2.1 ?_
  refine z_rV d_L_962 q_L_144 rfl (by decide) ⟨rfl, rfl⟩ hA rfl rfl rfl hroom (fun r1 Sh1 I1 L1 R1 h1 => ?_)
  obtain ⟨rfl, v, rfl, h2⟩ := h1
  show zZ E (m_L nm) X Qs zShF kc ks 965 (lwl (nI i)) [.int v] I1 L1 R1
  refine z_pop d_L_965 rfl ?_
  refine z_aload_n d_L_966 rfl ?_
  refine z_aload_n d_L_967 rfl ?_
  refine z_iload_n d_L_968 rfl ?_
  refine z_iconst d_L_969 ki_1 ?_
  refine z_iadd d_L_970 ?_
  refine z_sld d_L_971 hs (ixL hi hn).2.1 ?_
  refine z_rV d_L_972 q_L_147 rfl (by decide) ⟨rfl, rfl⟩ h2 rfl rfl rfl hroom (fun r3 Sh3 I3 L3 R3 h3 => ?_)
  obtain ⟨rfl, ⟨v2, rfl⟩, h3⟩ := h3
  show zZ E (m_L nm) X Qs zShF kc ks 975 (lwl (nI i)) [.int v2] I3 L3 R3
  refine z_pop d_L_975 rfl ?_
  refine z_goto d_L_976 ?_
  exact k _ _ _ h3
theorem lc_31 (hs : lwS E X n xs) (hi : i + 5 ≤ n) (hn : n < 2 ^ 31) (hroom : kc ≤ (zrm (m_L nm)).cells ∧ ks ≤ (zrm (m_L nm)).slots) (hA : zAw E m_X7_back m_X8_back [.int (xs (nI i + 1).toNatClampNeg)] I L R Inv)
    (k : ∀ I1 L1 R1, Inv I1 L1 R1 → zZ E (m_L nm) X Qs zShF kc ks 1177 (lwl (nI i)) [] I1 L1 R1) : zZ E (m_L nm) X Qs zShF kc ks 979 (lwl (nI i)) [] I L R := by
  unfold zAw at hA
  refine z_aload_n d_L_979 rfl ?_
  refine z_aload_n d_L_980 rfl ?_
  refine z_iload_n d_L_981 rfl ?_
  refine z_iconst d_L_982 ki_1 ?_
  refine z_iadd d_L_983 ?_
  refine z_sld d_L_984 hs (ixL hi hn).2.1 ?_
  refine z_rV d_L_985 q_L_148 rfl (by decide) ⟨rfl, rfl⟩ hA rfl rfl rfl hroom (fun r1 Sh1 I1 L1 R1 h1 => ?_)
  obtain ⟨rfl, v, rfl, h2⟩ := h1
  show zZ E (m_L nm) X Qs zShF kc ks 988 (lwl (nI i)) [.int v] I1 L1 R1
  refine z_pop d_L_988 rfl ?_
  refine z_aload_n d_L_989 rfl ?_
  refine z_aload_n d_L_990 rfl ?_
  refine z_iload_n d_L_991 rfl ?_
  refine z_iconst d_L_992 ki_1 ?_
  refine z_iadd d_L_993 ?_
  refine z_sld d_L_994 hs (ixL hi hn).2.1 ?_
  refine z_rV d_L_995 q_L_151 rfl (by decide) ⟨rfl, rfl⟩ h2 rfl rfl rfl hroom (fun r3 Sh3 I3 L3 R3 h3 => ?_)
  obtain ⟨rfl, ⟨v2, rfl⟩, h3⟩ := h3
  show zZ E (m_L nm) X Qs zShF kc ks 998 (lwl (nI i)) [.int v2] I3 L3 R3
  refine z_pop d_L_998 rfl ?_
  refine z_goto d_L_999 ?_
  exact k _ _ _ h3
theorem lc_32 (hs : lwS E X n xs) (hi : i + 5 ≤ n) (hn : n < 2 ^ 31) (hroom : kc ≤ (zrm (m_L nm)).cells ∧ ks ≤ (zrm (m_L nm)).slots) (hA : zAw E m_X7_sheet m_X8_sheet [.int (xs (nI i + 1).toNatClampNeg), .int (xs (nI i + 2).toNatClampNeg), .int (xs (nI i + 3).toNatClampNeg)] I L R Inv)
    (k : ∀ I1 L1 R1, Inv I1 L1 R1 → zZ E (m_L nm) X Qs zShF kc ks 1177 (lwl (nI i)) [] I1 L1 R1) : zZ E (m_L nm) X Qs zShF kc ks 1002 (lwl (nI i)) [] I L R := by
  unfold zAw at hA
  refine z_aload_n d_L_1002 rfl ?_
  refine z_aload_n d_L_1003 rfl ?_
  refine z_iload_n d_L_1004 rfl ?_
  refine z_iconst d_L_1005 ki_1 ?_
  refine z_iadd d_L_1006 ?_
  refine z_sld d_L_1007 hs (ixL hi hn).2.1 ?_
  refine z_aload_n d_L_1008 rfl ?_
  refine z_iload_n d_L_1009 rfl ?_
  refine z_iconst d_L_1010 ki_2 ?_
  refine z_iadd d_L_1011 ?_
  refine z_sld d_L_1012 hs (ixL hi hn).2.2.1 ?_
  refine z_aload_n d_L_1013 rfl ?_
  refine z_iload_n d_L_1014 rfl ?_
  refine z_iconst d_L_1015 ki_3 ?_
  refine z_iadd d_L_1016 ?_
  refine z_sld d_L_1017 hs (ixL hi hn).2.2.2.1 ?_
  refine z_rV d_L_1018 q_L_152 rfl (by decide) ⟨rfl, rfl⟩ hA rfl rfl rfl hroom (fun r1 Sh1 I1 L1 R1 h1 => ?_)
  obtain ⟨rfl, v, rfl, h2⟩ := h1
  show zZ E (m_L nm) X Qs zShF kc ks 1021 (lwl (nI i)) [.int v] I1 L1 R1
  refine z_pop d_L_1021 rfl ?_
  refine z_aload_n d_L_1022 rfl ?_
  refine z_aload_n d_L_1023 rfl ?_
  refine z_iload_n d_L_1024 rfl ?_
  refine z_iconst d_L_1025 ki_1 ?_
  refine z_iadd d_L_1026 ?_
  refine z_sld d_L_1027 hs (ixL hi hn).2.1 ?_
  refine z_aload_n d_L_1028 rfl ?_
  refine z_iload_n d_L_1029 rfl ?_
  refine z_iconst d_L_1030 ki_2 ?_
  refine z_iadd d_L_1031 ?_
  refine z_sld d_L_1032 hs (ixL hi hn).2.2.1 ?_
  refine z_aload_n d_L_1033 rfl ?_
  refine z_iload_n d_L_1034 rfl ?_
  refine z_iconst d_L_1035 ki_3 ?_
  refine z_iadd d_L_1036 ?_
  refine z_sld d_L_1037 hs (ixL hi hn).2.2.2.1 ?_
  refine z_rV d_L_1038 q_L_155 rfl (by decide) ⟨rfl, rfl⟩ h2 rfl rfl rfl hroom (fun r3 Sh3 I3 L3 R3 h3 => ?_)
  obtain ⟨rfl, ⟨v2, rfl⟩, h3⟩ := h3
  show zZ E (m_L nm) X Qs zShF kc ks 1041 (lwl (nI i)) [.int v2] I3 L3 R3
  refine z_pop d_L_1041 rfl ?_
  refine z_goto d_L_1042 ?_
  exact k _ _ _ h3
theorem lc_33 (hs : lwS E X n xs) (hi : i + 5 ≤ n) (hn : n < 2 ^ 31) (hroom : kc ≤ (zrm (m_L nm)).cells ∧ ks ≤ (zrm (m_L nm)).slots) (hA : zAw E m_X7_lay m_X8_lay [.int (xs (nI i + 1).toNatClampNeg), .int (xs (nI i + 2).toNatClampNeg), .int (xs (nI i + 3).toNatClampNeg)] I L R Inv)
    (k : ∀ I1 L1 R1, Inv I1 L1 R1 → zZ E (m_L nm) X Qs zShF kc ks 1177 (lwl (nI i)) [] I1 L1 R1) : zZ E (m_L nm) X Qs zShF kc ks 1045 (lwl (nI i)) [] I L R := by
  unfold zAw at hA
  refine z_aload_n d_L_1045 rfl ?_
  refine z_aload_n d_L_1046 rfl ?_
  refine z_iload_n d_L_1047 rfl ?_
  refine z_iconst d_L_1048 ki_1 ?_
  refine z_iadd d_L_1049 ?_
  refine z_sld d_L_1050 hs (ixL hi hn).2.1 ?_
  refine z_aload_n d_L_1051 rfl ?_
  refine z_iload_n d_L_1052 rfl ?_
  refine z_iconst d_L_1053 ki_2 ?_
  refine z_iadd d_L_1054 ?_
  refine z_sld d_L_1055 hs (ixL hi hn).2.2.1 ?_
  refine z_aload_n d_L_1056 rfl ?_
  refine z_iload_n d_L_1057 rfl ?_
  refine z_iconst d_L_1058 ki_3 ?_
  refine z_iadd d_L_1059 ?_
  refine z_sld d_L_1060 hs (ixL hi hn).2.2.2.1 ?_
  refine z_rV d_L_1061 q_L_156 rfl (by decide) ⟨rfl, rfl⟩ hA rfl rfl rfl hroom (fun r1 Sh1 I1 L1 R1 h1 => ?_)
  obtain ⟨rfl, v, rfl, h2⟩ := h1
  show zZ E (m_L nm) X Qs zShF kc ks 1064 (lwl (nI i)) [.int v] I1 L1 R1
  refine z_pop d_L_1064 rfl ?_
  refine z_aload_n d_L_1065 rfl ?_
  refine z_aload_n d_L_1066 rfl ?_
  refine z_iload_n d_L_1067 rfl ?_
  refine z_iconst d_L_1068 ki_1 ?_
  refine z_iadd d_L_1069 ?_
  refine z_sld d_L_1070 hs (ixL hi hn).2.1 ?_
  refine z_aload_n d_L_1071 rfl ?_
  refine z_iload_n d_L_1072 rfl ?_
  refine z_iconst d_L_1073 ki_2 ?_
  refine z_iadd d_L_1074 ?_
  refine z_sld d_L_1075 hs (ixL hi hn).2.2.1 ?_
  refine z_aload_n d_L_1076 rfl ?_
  refine z_iload_n d_L_1077 rfl ?_
  refine z_iconst d_L_1078 ki_3 ?_
  refine z_iadd d_L_1079 ?_
  refine z_sld d_L_1080 hs (ixL hi hn).2.2.2.1 ?_
  refine z_rV d_L_1081 q_L_159 rfl (by decide) ⟨rfl, rfl⟩ h2 rfl rfl rfl hroom (fun r3 Sh3 I3 L3 R3 h3 => ?_)
  obtain ⟨rfl, ⟨v2, rfl⟩, h3⟩ := h3
  show zZ E (m_L nm) X Qs zShF kc ks 1084 (lwl (nI i)) [.int v2] I3 L3 R3
  refine z_pop d_L_1084 rfl ?_
  refine z_goto d_L_1085 ?_
  exact k _ _ _ h3
theorem lc_34 (hs : lwS E X n xs) (hi : i + 5 ≤ n) (hn : n < 2 ^ 31) (hroom : kc ≤ (zrm (m_L nm)).cells ∧ ks ≤ (zrm (m_L nm)).slots) (hA : zAw E m_X7_reads m_X8_reads [.int (xs (nI i + 1).toNatClampNeg), .int (xs (nI i + 2).toNatClampNeg), .int (xs (nI i + 3).toNatClampNeg), .int (xs (nI i + 4).toNatClampNeg)] I L R Inv)
    (k : ∀ I1 L1 R1, Inv I1 L1 R1 → zZ E (m_L nm) X Qs zShF kc ks 1177 (lwl (nI i)) [] I1 L1 R1) : zZ E (m_L nm) X Qs zShF kc ks 1088 (lwl (nI i)) [] I L R := by
  unfold zAw at hA
  refine z_aload_n d_L_1088 rfl ?_
  refine z_aload_n d_L_1089 rfl ?_
  refine z_iload_n d_L_1090 rfl ?_
  refine z_iconst d_L_1091 ki_1 ?_
  refine z_iadd d_L_1092 ?_
  refine z_sld d_L_1093 hs (ixL hi hn).2.1 ?_
  refine z_aload_n d_L_1094 rfl ?_
  refine z_iload_n d_L_1095 rfl ?_
  refine z_iconst d_L_1096 ki_2 ?_
  refine z_iadd d_L_1097 ?_
  refine z_sld d_L_1098 hs (ixL hi hn).2.2.1 ?_
  refine z_aload_n d_L_1099 rfl ?_
  refine z_iload_n d_L_1100 rfl ?_
  refine z_iconst d_L_1101 ki_3 ?_
  refine z_iadd d_L_1102 ?_
  refine z_sld d_L_1103 hs (ixL hi hn).2.2.2.1 ?_
  refine z_aload_n d_L_1104 rfl ?_
  refine z_iload_n d_L_1105 rfl ?_
  refine z_iconst d_L_1106 ki_4 ?_
  refine z_iadd d_L_1107 ?_
  refine z_sld d_L_1108 hs (ixL hi hn).2.2.2.2 ?_
  refine z_rV d_L_1109 q_L_160 rfl (by decide) ⟨rfl, rfl⟩ hA rfl rfl rfl hroom (fun r1 Sh1 I1 L1 R1 h1 => ?_)
  obtain ⟨rfl, v, rfl, h2⟩ := h1
  show zZ E (m_L nm) X Qs zShF kc ks 1112 (lwl (nI i)) [.int v] I1 L1 R1
  refine z_pop d_L_1112 rfl ?_
  refine z_aload_n d_L_1113 rfl ?_
  refine z_aload_n d_L_1114 rfl ?_
  refine z_iload_n d_L_1115 rfl ?_
  refine z_iconst d_L_1116 ki_1 ?_
  refine z_iadd d_L_1117 ?_
  refine z_sld d_L_1118 hs (ixL hi hn).2.1 ?_
  refine z_aload_n d_L_1119 rfl ?_
  refine z_iload_n d_L_1120 rfl ?_
  refine z_iconst d_L_1121 ki_2 ?_
  refine z_iadd d_L_1122 ?_
  refine z_sld d_L_1123 hs (ixL hi hn).2.2.1 ?_
  refine z_aload_n d_L_1124 rfl ?_
  refine z_iload_n d_L_1125 rfl ?_
  refine z_iconst d_L_1126 ki_3 ?_
  refine z_iadd d_L_1127 ?_
  refine z_sld d_L_1128 hs (ixL hi hn).2.2.2.1 ?_
  refine z_aload_n d_L_1129 rfl ?_
  refine z_iload_n d_L_1130 rfl ?_
  refine z_iconst d_L_1131 ki_4 ?_
  refine z_iadd d_L_1132 ?_
  refine z_sld d_L_1133 hs (ixL hi hn).2.2.2.2 ?_
  refine z_rV d_L_1134 q_L_163 rfl (by decide) ⟨rfl, rfl⟩ h2 rfl rfl rfl hroom (fun r3 Sh3 I3 L3 R3 h3 => ?_)
  obtain ⟨rfl, ⟨v2, rfl⟩, h3⟩ := h3
  show zZ E (m_L nm) X Qs zShF kc ks 1137 (lwl (nI i)) [.int v2] I3 L3 R3
  refine z_pop d_L_1137 rfl ?_
  refine z_goto d_L_1138 ?_
  exact k _ _ _ h3
theorem lc_35 (hs : lwS E X n xs) (hi : i + 5 ≤ n) (hn : n < 2 ^ 31) (hroom : kc ≤ (zrm (m_L nm)).cells ∧ ks ≤ (zrm (m_L nm)).slots) (hA : zAw E m_X7_torn m_X8_torn [] I L R Inv)
    (k : ∀ I1 L1 R1, Inv I1 L1 R1 → zZ E (m_L nm) X Qs zShF kc ks 1177 (lwl (nI i)) [] I1 L1 R1) : zZ E (m_L nm) X Qs zShF kc ks 1141 (lwl (nI i)) [] I L R := by
  unfold zAw at hA
  refine z_aload_n d_L_1141 rfl ?_
  refine z_rV d_L_1142 q_L_164 rfl (by decide) ⟨rfl, rfl⟩ hA rfl rfl rfl hroom (fun r1 Sh1 I1 L1 R1 h1 => ?_)
  obtain ⟨rfl, v, rfl, h2⟩ := h1
  show zZ E (m_L nm) X Qs zShF kc ks 1145 (lwl (nI i)) [.int v] I1 L1 R1
  refine z_pop d_L_1145 rfl ?_
  refine z_aload_n d_L_1146 rfl ?_
  refine z_rV d_L_1147 q_L_167 rfl (by decide) ⟨rfl, rfl⟩ h2 rfl rfl rfl hroom (fun r3 Sh3 I3 L3 R3 h3 => ?_)
  obtain ⟨rfl, ⟨v2, rfl⟩, h3⟩ := h3
  show zZ E (m_L nm) X Qs zShF kc ks 1150 (lwl (nI i)) [.int v2] I3 L3 R3
  refine z_pop d_L_1150 rfl ?_
  refine z_goto d_L_1151 ?_
  exact k _ _ _ h3
theorem lc_36 (hs : lwS E X n xs) (hi : i + 5 ≤ n) (hn : n < 2 ^ 31) (hroom : kc ≤ (zrm (m_L nm)).cells ∧ ks ≤ (zrm (m_L nm)).slots) (hA : zAi E m_X7_count m_X8_count [.int (xs (nI i + 1).toNatClampNeg)] I L R Inv)
    (k : ∀ I1 L1 R1, Inv I1 L1 R1 → zZ E (m_L nm) X Qs zShF kc ks 1177 (lwl (nI i)) [] I1 L1 R1) : zZ E (m_L nm) X Qs zShF kc ks 1154 (lwl (nI i)) [] I L R := by
  unfold zAi at hA
  refine z_aload_n d_L_1154 rfl ?_
  refine z_aload_n d_L_1155 rfl ?_
  refine z_iload_n d_L_1156 rfl ?_
  refine z_iconst d_L_1157 ki_1 ?_
  refine z_iadd d_L_1158 ?_
  refine z_sld d_L_1159 hs (ixL hi hn).2.1 ?_
  refine z_rV d_L_1160 q_L_168 rfl (by decide) ⟨rfl, rfl⟩ hA rfl rfl rfl hroom (fun r1 Sh1 I1 L1 R1 h1 => ?_)
  obtain ⟨rfl, v, rfl, h2⟩ := h1
  show zZ E (m_L nm) X Qs zShF kc ks 1163 (lwl (nI i)) [.int v] I1 L1 R1
  refine z_aload_n d_L_1163 rfl ?_
  refine z_aload_n d_L_1164 rfl ?_
  refine z_iload_n d_L_1165 rfl ?_
  refine z_iconst d_L_1166 ki_1 ?_
  refine z_iadd d_L_1167 ?_
  refine z_sld d_L_1168 hs (ixL hi hn).2.1 ?_
  refine z_rV d_L_1169 q_L_171 rfl (by decide) ⟨rfl, rfl⟩ h2 rfl rfl rfl hroom (fun r3 Sh3 I3 L3 R3 h3 => ?_)
  obtain ⟨rfl, rfl, h3⟩ := h3
  show zZ E (m_L nm) X Qs zShF kc ks 1172 (lwl (nI i)) [.int v, .int v] I3 L3 R3
  refine z_icmp_eq d_L_1172 (fun _ => ?_) (fun h => absurd rfl h)
  exact k _ _ _ h3
theorem law_once (hs : lwS E X n xs) (hi : i + 5 ≤ n) (hn : n < 2 ^ 31) (hroom : kc ≤ (zrm (m_L nm)).cells ∧ ks ≤ (zrm (m_L nm)).slots)
    (A0 : ∀ a : Int64, zAw E m_X7_feed m_X8_feed [.long a] I L R Inv)
    (A1 : ∀ a : Int32, zAw E m_X7_end m_X8_end [.int a] I L R Inv)
    (A2 : zAw E m_X7_text m_X8_text [] I L R Inv)
    (A3 : zAw E m_X7_fault m_X8_fault [] I L R Inv)
    (A4 : ∀ a : Int32, zAw E m_X7_rule m_X8_rule [.int a] I L R Inv)
    (A5 : ∀ a b : Int32, zAw E m_X7_well m_X8_well [.int a, .int b] I L R Inv)
    (A6 : ∀ a b : Int32, zAw E m_X7_light m_X8_light [.int a, .int b] I L R Inv)
    (A7 : ∀ a : Int32, zAw E m_X7_expose m_X8_expose [.int a] I L R Inv)
    (A8 : zAw E m_X7_down m_X8_down [] I L R Inv)
    (A9 : zAw E m_X7_read m_X8_read [] I L R Inv)
    (A10 : ∀ a : Int32, zAw E m_X7_line m_X8_line [.int a] I L R Inv)
    (A11 : ∀ a : Int32, zAl E m_X7_now m_X8_now [.int a] I L R Inv)
    (A12 : zAw E m_X7_clear m_X8_clear [] I L R Inv)
    (A13 : ∀ a b c d : Int32, zAw E m_X7_picture m_X8_picture [.int a, .int b, .int c, .int d] I L R Inv)
    (A14 : ∀ a b c : Int32, zAw E m_X7_shades m_X8_shades [.int a, .int b, .int c] I L R Inv)
    (A15 : ∀ a : Int32, zAw E m_X7_late m_X8_late [.int a] I L R Inv)
    (A16 : ∀ a : Int32, zAw E m_X7_smear m_X8_smear [.int a] I L R Inv)
    (A17 : ∀ a : Int32, zAw E m_X7_spoiled m_X8_spoiled [.int a] I L R Inv)
    (A18 : ∀ a : Int32, zAw E m_X7_full m_X8_full [.int a] I L R Inv)
    (A19 : zAw E m_X7_longest m_X8_longest [] I L R Inv)
    (A20 : ∀ a : Int32, zAw E m_X7_enough m_X8_enough [.int a] I L R Inv)
    (A21 : ∀ a b : Int32, zAl E m_X7_hots m_X8_hots [.int a, .int b] I L R Inv)
    (A22 : ∀ a : Int32, zAw E m_X7_mended m_X8_mended [.int a] I L R Inv)
    (A23 : ∀ a : Int32, zAw E m_X7_word m_X8_word [.int a] I L R Inv)
    (A24 : zAw E m_X7_still m_X8_still [] I L R Inv)
    (A25 : ∀ a : Int32, zAw E m_X7_words m_X8_words [.int a] I L R Inv)
    (A26 : ∀ a : Int32, zAw E m_X7_clock m_X8_clock [.int a] I L R Inv)
    (A27 : ∀ a b : Int32, zAw E m_X7_goes m_X8_goes [.int a, .int b] I L R Inv)
    (A28 : ∀ a : Int32, zAw E m_X7_fewest m_X8_fewest [.int a] I L R Inv)
    (A29 : ∀ a b c : Int32, zAl E m_X7_rounds m_X8_rounds [.int a, .int b, .int c] I L R Inv)
    (A30 : ∀ a : Int32, zAw E m_X7_keep m_X8_keep [.int a] I L R Inv)
    (A31 : ∀ a : Int32, zAw E m_X7_back m_X8_back [.int a] I L R Inv)
    (A32 : ∀ a b c : Int32, zAw E m_X7_sheet m_X8_sheet [.int a, .int b, .int c] I L R Inv)
    (A33 : ∀ a b c : Int32, zAw E m_X7_lay m_X8_lay [.int a, .int b, .int c] I L R Inv)
    (A34 : ∀ a b c d : Int32, zAw E m_X7_reads m_X8_reads [.int a, .int b, .int c, .int d] I L R Inv)
    (A35 : zAw E m_X7_torn m_X8_torn [] I L R Inv)
    (A36 : ∀ a : Int32, zAi E m_X7_count m_X8_count [.int a] I L R Inv)
    (k0 : zZ E (m_L nm) X Qs zShF kc ks 1177 (lwl (nI i)) [] I L R)
    (k : ∀ I1 L1 R1, Inv I1 L1 R1 → zZ E (m_L nm) X Qs zShF kc ks 1177 (lwl (nI i)) [] I1 L1 R1) : zZ E (m_L nm) X Qs zShF kc ks 26 (lwl (nI i)) [] I L R := by
  refine z_aload_n d_L_26 rfl ?_
  refine z_iload_n d_L_27 rfl ?_
  refine z_sld d_L_28 hs (ixL hi hn).1 ?_
  refine z_bipush d_L_29 kb_63 ?_
  refine z_iand d_L_31 ?_
  obtain ⟨j, hj, e⟩ := pk_andE (xs (nI i).toNatClampNeg) (m := 63) 6 (by decide)
  rw [e]
  by_cases h36 : 36 < j
  · exact z_tabOut d_L_32 (Or.inr (by rw [nI_toInt (by omega)]; omega)) rfl k0
  · rcases (show j = 0 ∨ j = 1 ∨ j = 2 ∨ j = 3 ∨ j = 4 ∨ j = 5 ∨ j = 6 ∨ j = 7 ∨ j = 8 ∨ j = 9 ∨ j = 10 ∨ j = 11 ∨ j = 12 ∨ j = 13 ∨ j = 14 ∨ j = 15 ∨ j = 16 ∨ j = 17 ∨ j = 18 ∨ j = 19 ∨ j = 20 ∨ j = 21 ∨ j = 22 ∨ j = 23 ∨ j = 24 ∨ j = 25 ∨ j = 26 ∨ j = 27 ∨ j = 28 ∨ j = 29 ∨ j = 30 ∨ j = 31 ∨ j = 32 ∨ j = 33 ∨ j = 34 ∨ j = 35 ∨ j = 36 by omega) with rfl | rfl | rfl | rfl | rfl | rfl | rfl | rfl | rfl | rfl | rfl | rfl | rfl | rfl | rfl | rfl | rfl | rfl | rfl | rfl | rfl | rfl | rfl | rfl | rfl | rfl | rfl | rfl | rfl | rfl | rfl | rfl | rfl | rfl | rfl | rfl | rfl
    · exact z_tabIn d_L_32 (by decide) (by decide) rfl rfl (lc_0 hs hi hn hroom (A0 _) k)
    · exact z_tabIn d_L_32 (by decide) (by decide) rfl rfl (lc_1 hs hi hn hroom (A1 _) k)
    · exact z_tabIn d_L_32 (by decide) (by decide) rfl rfl (lc_2 hs hi hn hroom (A2) k)
    · exact z_tabIn d_L_32 (by decide) (by decide) rfl rfl (lc_3 hs hi hn hroom (A3) k)
    · exact z_tabIn d_L_32 (by decide) (by decide) rfl rfl (lc_4 hs hi hn hroom (A4 _) k)
    · exact z_tabIn d_L_32 (by decide) (by decide) rfl rfl (lc_5 hs hi hn hroom (A5 _ _) k)
    · exact z_tabIn d_L_32 (by decide) (by decide) rfl rfl (lc_6 hs hi hn hroom (A6 _ _) k)
    · exact z_tabIn d_L_32 (by decide) (by decide) rfl rfl (lc_7 hs hi hn hroom (A7 _) k)
    · exact z_tabIn d_L_32 (by decide) (by decide) rfl rfl (lc_8 hs hi hn hroom (A8) k)
    · exact z_tabIn d_L_32 (by decide) (by decide) rfl rfl (lc_9 hs hi hn hroom (A9) k)
    · exact z_tabIn d_L_32 (by decide) (by decide) rfl rfl (lc_10 hs hi hn hroom (A10 _) k)
    · exact z_tabIn d_L_32 (by decide) (by decide) rfl rfl (lc_11 hs hi hn hroom (A11 _) k)
    · exact z_tabIn d_L_32 (by decide) (by decide) rfl rfl (lc_12 hs hi hn hroom (A12) k)
    · exact z_tabIn d_L_32 (by decide) (by decide) rfl rfl (lc_13 hs hi hn hroom (A13 _ _ _ _) k)
    · exact z_tabIn d_L_32 (by decide) (by decide) rfl rfl (lc_14 hs hi hn hroom (A14 _ _ _) k)
    · exact z_tabIn d_L_32 (by decide) (by decide) rfl rfl (lc_15 hs hi hn hroom (A15 _) k)
    · exact z_tabIn d_L_32 (by decide) (by decide) rfl rfl (lc_16 hs hi hn hroom (A16 _) k)
    · exact z_tabIn d_L_32 (by decide) (by decide) rfl rfl (lc_17 hs hi hn hroom (A17 _) k)
    · exact z_tabIn d_L_32 (by decide) (by decide) rfl rfl (lc_18 hs hi hn hroom (A18 _) k)
    · exact z_tabIn d_L_32 (by decide) (by decide) rfl rfl (lc_19 hs hi hn hroom (A19) k)
    · exact z_tabIn d_L_32 (by decide) (by decide) rfl rfl (lc_20 hs hi hn hroom (A20 _) k)
    · exact z_tabIn d_L_32 (by decide) (by decide) rfl rfl (lc_21 hs hi hn hroom (A21 _ _) k)
    · exact z_tabIn d_L_32 (by decide) (by decide) rfl rfl (lc_22 hs hi hn hroom (A22 _) k)
    · exact z_tabIn d_L_32 (by decide) (by decide) rfl rfl (lc_23 hs hi hn hroom (A23 _) k)
    · exact z_tabIn d_L_32 (by decide) (by decide) rfl rfl (lc_24 hs hi hn hroom (A24) k)
    · exact z_tabIn d_L_32 (by decide) (by decide) rfl rfl (lc_25 hs hi hn hroom (A25 _) k)
    · exact z_tabIn d_L_32 (by decide) (by decide) rfl rfl (lc_26 hs hi hn hroom (A26 _) k)
    · exact z_tabIn d_L_32 (by decide) (by decide) rfl rfl (lc_27 hs hi hn hroom (A27 _ _) k)
    · exact z_tabIn d_L_32 (by decide) (by decide) rfl rfl (lc_28 hs hi hn hroom (A28 _) k)
    · exact z_tabIn d_L_32 (by decide) (by decide) rfl rfl (lc_29 hs hi hn hroom (A29 _ _ _) k)
    · exact z_tabIn d_L_32 (by decide) (by decide) rfl rfl (lc_30 hs hi hn hroom (A30 _) k)
    · exact z_tabIn d_L_32 (by decide) (by decide) rfl rfl (lc_31 hs hi hn hroom (A31 _) k)
    · exact z_tabIn d_L_32 (by decide) (by decide) rfl rfl (lc_32 hs hi hn hroom (A32 _ _ _) k)
    · exact z_tabIn d_L_32 (by decide) (by decide) rfl rfl (lc_33 hs hi hn hroom (A33 _ _ _) k)
    · exact z_tabIn d_L_32 (by decide) (by decide) rfl rfl (lc_34 hs hi hn hroom (A34 _ _ _ _) k)
    · exact z_tabIn d_L_32 (by decide) (by decide) rfl rfl (lc_35 hs hi hn hroom (A35) k)
    · exact z_tabIn d_L_32 (by decide) (by decide) rfl rfl (lc_36 hs hi hn hroom (A36 _) k)
end ZLAW
