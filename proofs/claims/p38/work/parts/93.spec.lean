theorem p2i (f : Int32) {i : Nat} (hi : i ≤ 20) : (f + 2 * nI i).toInt = f.toInt + 2 * i ∨ ((f + 2 * nI i).toInt < 0 ∧ 40 < f.toInt + 2 * i) := by
  have h1 := f.toInt_lt
  have h2 := Int32.le_toInt f
  have e1 : (2 * nI i : Int32).toInt = 2 * i := by rw [show (2 : Int32) * nI i = nI (2 * i) from pk_mul 2 i, nI_toInt (by omega)]; omega
  by_cases c : f.toInt + 2 * i < 2 ^ 31
  · left
    rw [i_add (by rw [e1]; omega) (by rw [e1]; omega), e1]
  · right
    refine ⟨?_, by omega⟩
    rw [Int32.toInt_add, e1]
    have e : (f.toInt + 2 * (i : Int)).bmod (2 ^ 32) = f.toInt + 2 * i - 2 ^ 32 := by
      have e3 := Int.sub_bmod_right (f.toInt + 2 * (i : Int)) (2 ^ 32)
      rw [← e3]
      exact Int.bmod_eq_of_le (by omega) (by omega)
    rw [e]
    omega
theorem rd_pf {ln sz len lane0 lane f : Int32} {i : Nat} (hi : i ≤ 20) (hs : (len = -1 ∧ ln = -4) ∨ ∃ l n : Nat, l < 3 ∧ n ≤ 40 ∧ len = nI n ∧ sz = nI n ∧ lane0 = nI l ∧ ln = nI l) : pfV len lane0 lane (f + 2 * nI i) = rsR (fun c => rfR ln sz lane (pxL f i c)) 2 := by
  have hrs : ∀ g : Nat → Int32, rsR g 2 = if g 0 = 0 then g 1 else g 0 := fun g => by simp only [rsR, if_true]
  rw [hrs]
  rcases hs with ⟨rfl, rfl⟩ | ⟨l, n, hl, hn, rfl, rfl, rfl, rfl⟩
  · have e1 : ∀ p, fltV (-1) lane0 lane p = 1 := fun p => by unfold fltV; rw [if_neg (by decide)]
    unfold pfV
    rw [e1, e1]
    have e2 : ∀ p, rfR (-4) sz lane p = 1 := fun p => by unfold rfR; rw [if_pos rfl]
    rw [e2, e2]
  · have h4 : ¬ nI l = -4 := by
      intro q
      have := congrArg Int32.toInt q
      rw [nI_toInt (by omega), show (-4 : Int32).toInt = -4 from rfl] at this
      omega
    have e0 : (0 : Int32) ≤ nI n := by rw [t_le, t_0, nI_toInt (by omega)]; omega
    by_cases c : lane = nI l
    · subst c
      have f1 : ∀ p, fltV (nI n) (nI l) (nI l) p = if p < 0 then 2 else if p < nI n then 0 else 2 := fun p => by unfold fltV; rw [if_pos e0, if_pos rfl]
      have f2 : ∀ p, rfR (nI l) (nI n) (nI l) p = if p < 0 then 2 else if p < (nI n).toInt64 then 0 else 2 := fun p => by unfold rfR; rw [if_neg h4, if_pos rfl]
      have g0 := pxL_int f hi (show 0 ≤ 1 by decide)
      have g1 := pxL_int f hi (show 1 ≤ 1 by decide)
      have k1 : (nI n).toInt64.toInt = n := by rw [Int32.toInt_toInt64, nI_toInt (by omega)]
      have z64 : (0 : Int64).toInt = 0 := rfl
      unfold pfV
      rw [f1, f1, f2, f2]
      rcases p2i f hi with q | ⟨q1, q2⟩
      · by_cases r : 0 ≤ f.toInt + 2 * i ∧ f.toInt + 2 * i < n
        · have a1 : ¬ f + 2 * nI i < 0 := by rw [t_lt, t_0]; omega
          have a2 : f + 2 * nI i < nI n := by rw [t_lt, nI_toInt (by omega)]; omega
          have b1 : ¬ pxL f i 0 < 0 := by rw [Int64.lt_iff_toInt_lt, z64, g0]; omega
          have b2 : pxL f i 0 < (nI n).toInt64 := by rw [Int64.lt_iff_toInt_lt, k1, g0]; omega
          have e1 : (f + 2 * nI i + 1).toInt = f.toInt + 2 * i + 1 := by rw [t_add (by omega) (by omega) (by decide) (by decide), q]; rfl
          rw [if_neg a1, if_pos a2, if_neg b1, if_pos b2, if_pos rfl, if_pos rfl]
          have c1 : ¬ f + 2 * nI i + 1 < 0 := by rw [t_lt, t_0]; omega
          have d1 : ¬ pxL f i 1 < 0 := by rw [Int64.lt_iff_toInt_lt, z64, g1]; omega
          rw [if_neg c1, if_neg d1]
          by_cases r2 : f.toInt + 2 * i + 1 < n
          · rw [if_pos (by rw [t_lt, nI_toInt (by omega)]; omega), if_pos (by rw [Int64.lt_iff_toInt_lt, k1, g1]; omega)]
          · rw [if_neg (by rw [t_lt, nI_toInt (by omega)]; omega), if_neg (by rw [Int64.lt_iff_toInt_lt, k1, g1]; omega)]
        · have a : (if f + 2 * nI i < 0 then (2 : Int32) else if f + 2 * nI i < nI n then 0 else 2) = 2 := by
            by_cases a1 : f + 2 * nI i < 0
            · rw [if_pos a1]
            · rw [if_neg a1, if_neg (by rw [t_lt, nI_toInt (by omega)]; rw [t_lt, t_0] at a1; omega)]
          have b : (if pxL f i 0 < 0 then (2 : Int32) else if pxL f i 0 < (nI n).toInt64 then 0 else 2) = 2 := by
            by_cases b1 : pxL f i 0 < 0
            · rw [if_pos b1]
            · rw [if_neg b1, if_neg (by rw [Int64.lt_iff_toInt_lt, k1, g0]; rw [Int64.lt_iff_toInt_lt, z64, g0] at b1; omega)]
          rw [a, b, if_neg (by decide), if_neg (by decide)]
      · have a1 : f + 2 * nI i < 0 := by rw [t_lt, t_0]; omega
        have b1 : ¬ pxL f i 0 < 0 := by rw [Int64.lt_iff_toInt_lt, z64, g0]; omega
        have b2 : ¬ pxL f i 0 < (nI n).toInt64 := by rw [Int64.lt_iff_toInt_lt, k1, g0]; omega
        rw [if_pos a1, if_neg b1, if_neg b2, if_neg (by decide), if_neg (by decide)]
    · have f1 : ∀ p, fltV (nI n) (nI l) lane p = 3 := fun p => by unfold fltV; rw [if_pos e0, if_neg c]
      have f2 : ∀ p, rfR (nI l) (nI n) lane p = 3 := fun p => by unfold rfR; rw [if_neg h4, if_neg (fun q => c q.symm)]
      unfold pfV
      rw [f1, f1, f2, f2]
theorem rd_ix {sz ln lane f : Int32} {i : Nat} (hi : i ≤ 20) (hsz : sz.toInt ≤ 40) (h : rsR (fun c => rfR ln sz lane (pxL f i c)) 2 = 0) : (f + 2 * nI i).toNatClampNeg = (f.toInt + 2 * i).toNat ∧ (f + 2 * nI i + 1).toNatClampNeg = (f.toInt + 2 * i).toNat + 1 ∧ 0 ≤ f.toInt + 2 * i ∧ f.toInt + 2 * i + 1 < 40 := by
  have h2 := rs_2 h
  have a := rf_b (c := 0) hi (by decide) h2.1
  have b := rf_b (c := 1) hi (by decide) h2.2
  have q : (f + 2 * nI i).toInt = f.toInt + 2 * i := by
    rcases p2i f hi with q | ⟨-, q2⟩
    · exact q
    · omega
  have q1 : (f + 2 * nI i + 1).toInt = f.toInt + 2 * i + 1 := by rw [t_add (by omega) (by omega) (by decide) (by decide), q]; rfl
  refine ⟨?_, ?_, by omega, by omega⟩
  · have e := cl_of (x := f + 2 * nI i) (n := 40) (by omega) (by omega) (by decide)
    have := congrArg Int32.toInt e.2
    rw [nI_toInt (by omega), q] at this
    omega
  · have e := cl_of (x := f + 2 * nI i + 1) (n := 40) (by omega) (by omega) (by decide)
    have := congrArg Int32.toInt e.2
    rw [nI_toInt (by omega), q1] at this
    omega
theorem rd_eq {pf : Int32 → Int32} {ok : Int32 → Bool} {pg : Nat → Int32} {og : Nat → Bool} {f : Int32} (hp : ∀ i, i ≤ 20 → pf (f + 2 * nI i) = pg i) (ho : ∀ i, i ≤ 20 → pg i = 0 → ok (f + 2 * nI i) = og i) : ∀ m i, m + i ≤ 20 → rdS pf ok f m i = rdG pg og m i
  | 0, i, _ => rfl
  | m + 1, i, h => by
    rw [rdS, rdG, hp i (by omega)]
    by_cases c : pg i = 0
    · rw [if_pos c, if_pos c, ho i (by omega) c, rd_eq hp ho m (i + 1) (by omega)]
    · rw [if_neg c, if_neg c]
section ZSTEP5
variable {E : zE} {I : zI} {L : zL} {R : zR}
theorem st_reads (h : Rel I L R) {k lane f n : Int32} : zAi E m_X7_reads m_X8_reads [.int k, .int lane, .int f, .int n] I L R Rel := by
  by_cases c : inV 0 3 k = true ∧ inV 0 2 lane = true ∧ inV 0 20 n = true
  · obtain ⟨c1, c2, c3⟩ := c
    have c1' := inV_iff.mp c1
    have c3' := inV_iff.mp c3
    rw [t_0, show (3 : Int32).toInt = 3 from rfl] at c1'
    rw [t_0, show (20 : Int32).toInt = 20 from rfl] at c3'
    have hk0 := cl_of (n := 4) c1'.1 (by omega) (by decide)
    have hn0 := cl_of (n := 21) c3'.1 (by omega) (by decide)
    generalize k.toNatClampNeg = m at hk0
    generalize n.toNatClampNeg = nn at hn0
    obtain ⟨hm, rfl⟩ := hk0
    obtain ⟨hn, rfl⟩ := hn0
    have hs := h.2.2.2.2.2.2.1 m hm
    have hlen : I (56 + 2 * m) 2 ≤ 40 := by
      rcases hs.2 with ⟨a, -⟩ | ⟨l, n, -, a2, a3, -, -, -, -⟩
      · rw [a]; decide
      · rw [a3, t_le, nI_toInt (by omega), show (40 : Int32).toInt = 40 from rfl]; omega
    have hs2 : (I (56 + 2 * m) 2 = -1 ∧ I 82 m = -4) ∨ ∃ l n : Nat, l < 3 ∧ n ≤ 40 ∧ I (56 + 2 * m) 2 = nI n ∧ I 83 m = nI n ∧ I (56 + 2 * m) 1 = nI l ∧ I 82 m = nI l := by
      rcases hs.2 with a | ⟨l, n, a1, a2, a3, a4, a5, a6, -⟩
      · exact Or.inl a
      · exact Or.inr ⟨l, n, a1, a2, a3, a4, a5, a6⟩
    have hx := ct_X7_reads (E := E) (I := I) (L := L) (lane := lane) (f := f) h.rf hm (by rw [in03]; exact c2) (show nn ≤ 20 by omega) hlen
    have hpf : ∀ i, i ≤ 20 → pfV (I (56 + 2 * m) 2) (I (56 + 2 * m) 1) lane (f + 2 * nI i) = rsR (fun c => rfR (I 82 m) (I 83 m) lane (pxL f i c)) 2 := fun i hi => rd_pf hi hs2
    have hce : ∀ i, i ≤ 20 → rsR (fun c => rfR (I 82 m) (I 83 m) lane (pxL f i c)) 2 = 0 → I 84 (px m f i) = I (56 + 2 * m + 1) (f + 2 * nI i).toNatClampNeg ∧ I 84 (px m f i + 1) = I (56 + 2 * m + 1) (f + 2 * nI i + 1).toNatClampNeg := by
      intro i hi h0
      obtain ⟨d1, d2, d3, d4⟩ := rd_ix hi hs.1.2 h0
      have hcell : ∀ j, j < 40 → I 84 (40 * m + j) = I (56 + 2 * m + 1) j := by
        rcases hs.2 with ⟨-, b⟩ | ⟨l, n, -, -, -, -, -, -, a7⟩
        · exfalso
          have h2 := (rs_2 h0).1
          unfold rfR at h2
          rw [if_pos b] at h2
          exact absurd h2 (by decide)
        · exact a7
      have e1 : px m f i = 40 * m + (f.toInt + 2 * i).toNat := by unfold px; omega
      rw [e1, d1, d2, show 40 * m + (f.toInt + 2 * (i : Int)).toNat + 1 = 40 * m + ((f.toInt + 2 * i).toNat + 1) by omega]
      exact ⟨hcell _ (by omega), hcell _ (by omega)⟩
    have hok : ∀ i, i ≤ 20 → rsR (fun c => rfR (I 82 m) (I 83 m) lane (pxL f i c)) 2 = 0 → okV (I (56 + 2 * m + 1)) (f + 2 * nI i) = okR (I 84) m f i := by
      intro i hi h0
      obtain ⟨d1, d2⟩ := hce i hi h0
      unfold okV okR
      rw [d1, d2]
      rfl
    have hrr := rd_eq hpf hok nn 0 (by omega)
    rw [hrr] at hx
    by_cases cr : (rdG (fun i => rsR (fun c => rfR (I 82 m) (I 83 m) lane (pxL f i c)) 2) (okR (I 84) m f) nn 0).2.2 = true
    · rw [if_pos cr, if_pos cr] at hx
      have hy := ct_X8_reads (E := E) (I := I) (L := L) (lane := lane) (f := f) h.rf hm c2 (show nn ≤ 20 by omega) hs.1.2
      rw [if_pos cr, if_pos cr] at hy
      exact mk_i hx hy rfl h
    · rw [if_neg cr, if_neg cr] at hx
      generalize hJ : zi (va_up I 17 (liV (I (56 + 2 * m + 1)) f (I 17) (rdG (fun i => rsR (fun c => rfR (I 82 m) (I 83 m) lane (pxL f i c)) 2) (okR (I 84) m f) nn 0).2.1)) 0 10 (rdG (fun i => rsR (fun c => rfR (I 82 m) (I 83 m) lane (pxL f i c)) 2) (okR (I 84) m f) nn 0).1 = J at hx
      have e : ∀ q, q ≠ 0 → q ≠ 17 → J q = I q := fun q h1 h2 => by rw [← hJ, zi_ne h1, up_ne h2]
      have hy := ct_X8_reads (E := E) (I := J) (L := L) (lane := lane) (f := f) h.rf hm c2 (show nn ≤ 20 by omega) (by rw [e 83 (by decide) (by decide)]; exact hs.1.2)
      rw [e 82 (by decide) (by decide), e 83 (by decide) (by decide), e 84 (by decide) (by decide), e 65 (by decide) (by decide), if_neg cr, if_neg cr] at hy
      refine mk_i hx hy rfl ?_
      have hro : ∀ j, j < (rdG (fun i => rsR (fun c => rfR (I 82 m) (I 83 m) lane (pxL f i c)) 2) (okR (I 84) m f) nn 0).2.1 → rsR (fun c => rfR (I 82 m) (I 83 m) lane (pxL f j c)) 2 = 0 ∧ okR (I 84) m f j = true := fun j hj => rdG_ok nn 0 j (Nat.zero_le j) hj
      have hrl := rdG_le (pf := fun i => rsR (fun c => rfR (I 82 m) (I 83 m) lane (pxL f i c)) 2) (ok := okR (I 84) m f) nn 0
      generalize (rdG (fun i => rsR (fun c => rfR (I 82 m) (I 83 m) lane (pxL f i c)) 2) (okR (I 84) m f) nn 0).1 = x at hJ ⊢
      generalize (rdG (fun i => rsR (fun c => rfR (I 82 m) (I 83 m) lane (pxL f i c)) 2) (okR (I 84) m f) nn 0).2.1 = W at hJ hro hrl ⊢
      have hli : ∀ u, u ≤ W → (∀ j, j < 48 → liR (I 84) m f (I 65) u (104 + j) = liV (I (56 + 2 * m + 1)) f (I 17) u j ∧ 0 ≤ (liV (I (56 + 2 * m + 1)) f (I 17) u j).toInt ∧ (liV (I (56 + 2 * m + 1)) f (I 17) u j).toInt ≤ 99) ∧ (∀ a, (a < 104 ∨ 152 ≤ a) → liR (I 84) m f (I 65) u a = I 65 a) := by
        intro u
        induction u with
        | zero => intro _; exact ⟨fun j hj => ⟨h.l hj, h.li hj⟩, fun _ _ => rfl⟩
        | succ u ih =>
          intro hu
          obtain ⟨i1, i2⟩ := ih (by omega)
          obtain ⟨z0, z1⟩ := hro u (by omega)
          obtain ⟨d1, d2⟩ := hce u (by omega) z0
          have z2 : isW (I 84 (px m f u)) = true ∧ inV 0 99 (I 84 (px m f u + 1)) = true := by unfold okR at z1; simpa using z1
          have zw := isW_nI z2.1
          have zv := inV_iff.mp z2.2
          rw [t_0, show (99 : Int32).toInt = 99 from rfl] at zv
          rw [liR, liV, ← d1, ← d2]
          refine ⟨fun j hj => ?_, fun a ha => ?_⟩
          · by_cases q : j = (I 84 (px m f u)).toNatClampNeg
            · subst q; rw [up_eq, up_eq]; exact ⟨rfl, zv⟩
            · rw [up_ne (by omega), up_ne q]; exact i1 j hj
          · rw [up_ne (by omega)]; exact i2 a ha
      obtain ⟨l1, l2⟩ := hli W (Nat.le_refl _)
      have hR1 : Rel (zi (zi I 0 10 x) 64 35 x) L R := by
        refine Rel_t h (fun q h0 h1 h2 h3 h4 h5 h6 h7 h8 => by rw [zi_ne h3, zi_ne h0]) (by rw [zi_at2 (by decide), zi_ne (by decide)]) ?_ (rlS_all h.2.2.2.2.2.2.1 (fun q hq => by rw [zi_ne (by omega), zi_ne (by omega)])) (by rw [zi_at, zi_ne (by decide), zi_at])
        obtain ⟨t, ht⟩ := h.2.2.2.2.2.1
        exact ⟨t, rlT_c (by rw [zi_ne (by decide), zi_ne (by decide)]) (by rw [zi_at2 (by decide), zi_ne (by decide)]) (by rw [zi_ne (by decide), zi_ne (by decide)]) (by rw [zi_ne (by decide), zi_ne (by decide)]) ht⟩
      generalize hli' : liV (I (56 + 2 * m + 1)) f (I 17) W = lv at hJ l1
      generalize liR (I 84) m f (I 65) W = lr at l1 l2
      have eK : ∀ q, q ≠ 17 → q ≠ 65 → va_up (zi J 64 35 x) 65 lr q = zi (zi I 0 10 x) 64 35 x q := by
        intro q h1 h2
        rw [up_ne h2]
        by_cases q0 : q = 64
        · subst q0; rw [zi_eq, zi_eq, e 64 (by decide) (by decide), zi_ne (by decide)]
        · rw [zi_ne q0, zi_ne q0, ← hJ]
          by_cases q1 : q = 0
          · subst q1; rw [zi_eq, zi_eq, up_ne (by decide)]
          · rw [zi_ne q1, zi_ne q1, up_ne h1]
      have e17 : va_up (zi J 64 35 x) 65 lr 17 = lv := by rw [up_ne (by decide), zi_ne (by decide), ← hJ, zi_ne (by decide), up_eq]
      have eb : ∀ q, q ≠ 0 → q ≠ 64 → zi (zi I 0 10 x) 64 35 x q = I q := fun q h1 h2 => by rw [zi_ne h2, zi_ne h1]
      have hq : qOf (va_up (zi J 64 35 x) 65 lr) L 16 = (lv, I 18, I 19, I 20, L 16 4, L 16 5, L 16 6) := by
        unfold qOf
        rw [e17, eK 18 (by decide) (by decide), eK 19 (by decide) (by decide), eK 20 (by decide) (by decide), eb 18 (by decide) (by decide), eb 19 (by decide) (by decide), eb 20 (by decide) (by decide)]
      refine Rel_q hR1 (fun q hq => eK q (by omega) (by omega)) ⟨by rw [eK 64 (by decide) (by decide)], by rw [eK 64 (by decide) (by decide)], by rw [eK 64 (by decide) (by decide)]⟩ (fun a h1 h2 => by rw [up_eq, l2 a (by omega), eb 65 (by decide) (by decide)]) (fun _ _ => rfl) (fun _ _ _ => rfl) ⟨?_, ?_⟩ (rlG_c hR1.1 (fun q h1 h2 => eK q (by omega) (by omega)))
      · rw [hq]
        obtain ⟨a1, a2, a3, a4, a5, a6, a7⟩ := h.q
        refine ⟨fun i hi => ?_, fun i hi => ?_, fun i hi => ?_, fun i hi => ?_, a5, a6, a7⟩
        · rw [up_eq, l2 _ (by omega)]; exact a1 i hi
        · rw [up_eq, l2 _ (by omega)]; exact a2 i hi
        · rw [up_eq, l2 _ (by omega)]; exact a3 i hi
        · rw [up_eq, show 160 * 0 + 104 + i = 104 + i by omega]; exact (l1 i hi).1
      · rw [hq, eK 4 (by decide) (by decide), eK 6 (by decide) (by decide), eb 4 (by decide) (by decide), eb 6 (by decide) (by decide)]
        exact ⟨fun i hi => ⟨(h.b.1 i hi).1, (h.b.1 i hi).2.1, (l1 i hi).2⟩, h.b.2⟩
  · have d : inV 0 3 k = false ∨ inV 0 2 lane = false ∨ inV 0 20 n = false := by
      by_cases q1 : inV 0 3 k = true
      · by_cases q2 : inV 0 2 lane = true
        · exact Or.inr (Or.inr (b_f (fun q3 => c ⟨q1, q2, q3⟩)))
        · exact Or.inr (Or.inl (b_f q2))
      · exact Or.inl (b_f q1)
    exact mk_i (ct_X7_reads_bad h.rf (by rw [in04, in03]; exact d)) (ct_X8_reads_bad h.rf d) rfl h
end ZSTEP5
