/-! THE LAW'S BODY -/
section ZBODY
variable {E : zE} {nm : String} {X : zX} {Qs : State → Prop} {kc ks : Nat} {I : zI} {L : zL} {R : zR} {n i : Nat} {xs : Nat → Int32}
/-- the loop's head -/
theorem law_head (hs : lwS E X n xs) (hi : i < 2 ^ 31) (hn : n < 2 ^ 31) (k1 : i + 5 ≤ n → zZ E (m_L nm) X Qs zShF kc ks 26 (lwl (nI i)) [] I L R) (k2 : zZ E (m_L nm) X Qs zShF kc ks 1184 (lwl (nI i)) [.int 1] I L R) : zZ E (m_L nm) X Qs zShF kc ks 18 (lwl (nI i)) [] I L R := by
  refine z_iload_n d_L_18 rfl ?_
  refine z_aload_n d_L_19 rfl ?_
  refine z_slen d_L_20 hs ?_
  refine z_iconst d_L_21 ki_5 ?_
  refine z_isub d_L_22 ?_
  refine z_icmp_gt d_L_23 (fun h => ?_) (fun h => ?_)
  · exact z_iconst d_L_1183 ki_1 k2
  · exact k1 (Nat.not_lt.mp (fun z => h ((hdC hi hn).mpr z)))
/-- the loop's end -/
theorem law_next (k : zZ E (m_L nm) X Qs zShF kc ks 18 (lwl (nI (i + 5))) [] I L R) : zZ E (m_L nm) X Qs zShF kc ks 1177 (lwl (nI i)) [] I L R := by
  refine z_iinc3 d_L_1177 ki_5 rfl ?_
  refine z_goto d_L_1180 ?_
  rw [show (nI i + 5 : Int32) = nI (i + 5) from nI_add i 5]
  exact k
/-- both objects made -/
theorem law_made (k : zZ E (m_L nm) X Qs zShF 85 10998 18 (lwl (nI 0)) [] IF LF RF) : zZ E (m_L nm) X Qs [] 0 0 0 [some (.ref 1000000), none, none, none] [] I0 L0 R0 := by
  refine z_new d_L_0 nw_L_7 (by decide) ⟨Nat.le_of_ble_eq_true rfl, Nat.le_of_ble_eq_true rfl⟩ ?_
  refine z_dup d_L_3 rfl ?_
  refine z_callI d_L_4 q_L_9 (ct_X7_init_0 z0_A) rfl rfl rfl ⟨Nat.le_of_ble_eq_true rfl, Nat.le_of_ble_eq_true rfl⟩ (fun r Sh1 I1 L1 R1 h => ?_)
  obtain ⟨rfl, rfl, rfl, rfl, rfl⟩ := h
  refine z_astore1 d_L_7 rfl ?_
  refine z_new d_L_8 nw_L_10 (by decide) ⟨Nat.le_of_ble_eq_true rfl, Nat.le_of_ble_eq_true rfl⟩ ?_
  refine z_dup d_L_11 rfl ?_
  refine z_callI d_L_12 q_L_12 (ct_X8_init z0_B x_B) rfl rfl rfl ⟨Nat.le_of_ble_eq_true rfl, Nat.le_of_ble_eq_true rfl⟩ (fun r Sh1 I1 L1 R1 h => ?_)
  obtain ⟨rfl, rfl, rfl, rfl, rfl⟩ := h
  refine z_astore2 d_L_15 rfl ?_
  refine z_iconst d_L_16 ki_0 ?_
  refine z_istore3 d_L_17 rfl ?_
  exact k
end ZBODY
theorem zAw_of {E : zE} {mc mr : zMD} {args : List Value} {I : zI} {L : zL} {R : zR} {A B : zI → zL → zR → Prop} (hAB : ∀ I L R, A I L R → B I L R) (h : zAi E mc mr args I L R A) : zAw E mc mr args I L R B :=
  zCt_mono h (fun _ _ _ _ _ q => ⟨q.1, q.2.choose, q.2.choose_spec.1, zCt_mono q.2.choose_spec.2 (fun _ _ _ _ _ z => ⟨z.1, ⟨_, z.2.1⟩, hAB _ _ _ z.2.2⟩)⟩)
theorem to_s : ∀ (I : zI) (L : zL) (R : zR), Rel I L R → Rel I L R := fun _ _ _ h => h
theorem to_t : ∀ (I : zI) (L : zL) (R : zR), Rel I L R → True := fun _ _ _ _ => trivial
theorem whole_start {p : Program} {e : Env} {s : State} {m : MethodId} {below : List Frame} {meth : Method} {c : Code} (l : Launch) (hflags : l.flags = flags0) {b L : Nat} {xs : Nat → Int32} (hL : L ≤ 2560) (C0 : lw_At p s m meth c b L xs) : W p l e room_1 s m #[Value.ref b] below meth c s.heap [] 0 0 (lw_Z below #[Value.ref b] s) (entryFrame m ([Value.ref b] : List Value).toArray 4) := by
  obtain ⟨E, hEl, hEb, hE0, hC, hs⟩ := law_ctx (e := e) (below := below) l C0
  have hl := lv_entry ([.ref b]) (n := 4) (Nat.le_of_ble_eq_true rfl)
  rw [lg_entry_eq]
  generalize (lg_sl ([.ref b]) ++ List.replicate (4 - (lg_sl ([.ref b])).length) Slot.unset).toArray = la at hl ⊢
  have key : zZ E (m_L meth.name) (p, e, s, m, #[Value.ref b], below, meth, c) (lw_Z below #[Value.ref b] s) [] 0 0 0 [some (.ref 1000000), none, none, none] [] I0 L0 R0 := by
    have hend : ∀ (i : Nat) (I : zI) (M : zL) (R : zR), zZ E (m_L meth.name) (p, e, s, m, #[Value.ref b], below, meth, c) (lw_Z below #[Value.ref b] s) zShF 85 10998 1184 (lwl (nI i)) [.int 1] I M R := by
      intro i I M R C hz H locs la hW hS hl
      refine va_forget (fun q hq => ?_) (W.widen (k := 600000) (n := 7302250) (by omega) (by omega) ?_)
      · have := hS.2.2 q hq
        rw [← hEb]
        exact this
      · exact lw_ret C.1 C.2.1 C.2.2.2.2.2.1 C.2.2.2.2.2.2.1 d_L_1184
    have loop : ∀ (k i : Nat), L < i + 5 * k + 5 → i ≤ L + 5 → ∀ (I : zI) (M : zL) (R : zR), Rel I M R → zZ E (m_L meth.name) (p, e, s, m, #[Value.ref b], below, meth, c) (lw_Z below #[Value.ref b] s) zShF 85 10998 18 (lwl (nI i)) [] I M R := by
      intro k
      induction k with
      | zero =>
        intro i hi h2 I M R hr
        exact law_head hs (by omega) (by omega) (fun h5 => absurd h5 (by omega)) (hend i I M R)
      | succ k ih =>
        intro i hi h2 I M R hr
        refine law_head hs (by omega) (by omega) (fun h5 => ?_) (hend i I M R)
        have go : ∀ (I1 : zI) (M1 : zL) (R1 : zR), Rel I1 M1 R1 → zZ E (m_L meth.name) (p, e, s, m, #[Value.ref b], below, meth, c) (lw_Z below #[Value.ref b] s) zShF 85 10998 1177 (lwl (nI i)) [] I1 M1 R1 := fun I1 M1 R1 h1 => law_next (ih (i + 5) (by omega) (by omega) I1 M1 R1 h1)
        exact law_once (Inv := Rel) hs h5 (by omega) ⟨Nat.le_of_ble_eq_true rfl, Nat.le_of_ble_eq_true rfl⟩
          (fun _ => zAw_of to_s (st_feed hr))
          (fun _ => zAw_of to_s (st_end hr))
          (zAw_of to_s (st_text hr))
          (st_fault hr)
          (fun _ => zAw_of to_s (st_rule hr))
          (fun _ _ => zAw_of to_s (st_well hr))
          (fun _ _ => zAw_of to_s (st_light hr))
          (fun _ => zAw_of to_s (st_expose hr))
          (zAw_of to_s (st_down hr))
          (zAw_of to_s (st_read hr))
          (fun _ => zAw_of to_s (st_line hr))
          (fun _ => st_now hr)
          (zAw_of to_s (st_clear hr))
          (fun _ _ _ _ => zAw_of to_s (st_picture hr))
          (fun _ _ _ => zAw_of to_s (st_shades hr))
          (fun _ => zAw_of to_s (st_late hr))
          (fun _ => zAw_of to_s (st_smear hr))
          (fun _ => zAw_of to_s (st_spoiled hr))
          (fun _ => zAw_of to_s (st_full hr))
          (zAw_of to_s (st_longest hr))
          (fun _ => zAw_of to_s (st_enough hr))
          (fun _ _ => st_hots hr)
          (fun _ => zAw_of to_s (st_mended hr))
          (fun _ => zAw_of to_s (st_word hr))
          (zAw_of to_s (st_still hr))
          (fun _ => zAw_of to_s (st_words hr))
          (fun _ => zAw_of to_s (st_clock hr))
          (fun _ _ => zAw_of to_s (st_goes hr))
          (fun _ => zAw_of to_s (st_fewest hr))
          (fun _ _ _ => st_rounds hr)
          (fun _ => zAw_of to_s (st_keep hr))
          (fun _ => zAw_of to_s (st_back hr))
          (fun _ _ _ => zAw_of to_s (st_sheet hr))
          (fun _ _ _ => zAw_of to_s (st_lay hr))
          (fun _ _ _ _ => zAw_of to_s (st_reads hr))
          (zAw_of to_s (st_torn hr))
          (fun _ => st_count hr)
          (go I M R hr) go
    exact law_made (loop L 0 (by omega) (by omega) _ _ _ rel_F)
  have := key hC (by show s.heap.size + 0 = eB E + 0; rw [hEb]) s.heap [] la ⟨by decide, fun k q h => by simp [zw] at h⟩ va_S.rf ⟨rfl, by
    show lv_has la 4 [(0, .ref (zad E 1000000))]
    rw [hE0]; exact hl⟩
  rw [hEl] at this
  exact this
