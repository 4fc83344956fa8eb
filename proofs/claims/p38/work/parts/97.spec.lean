/-! BOTH OBJECTS, FRESH -/
def I0 : zI := fun _ _ => 0
def L0 : zL := fun _ _ => 0
def R0 : zR := fun _ _ => none
def IA : zI := va_up I0 0 (fun _ => 0)
def LA : zL := va_up L0 0 (fun _ => 0)
def RA : zR := va_up R0 0 (fun _ => none)
def IB : zI := va_up (iX IA) 64 (fun _ => 0)
def LB : zL := va_up LA 64 (fun _ => 0)
def RB : zR := va_up (rX RA) 64 (fun _ => none)
def IF : zI := kdI (fdD (va_up IB 82 (zfill (IB 82) 4 (-4))))
def LF : zL := kdL LB
def RF : zR := rY RB
theorem z0_A : zZ0 IA LA RA 1 := fun k hk => ⟨va_up_ne _ _ (by omega), va_up_ne _ _ (by omega), va_up_ne _ _ (by omega)⟩
theorem z0_X {I : zI} {L : zL} {R : zR} (hz : zZ0 I L R 1) : zZ0 (iX I) L (rX R) 64 := by
  unfold iX rX
  repeat (first | exact hz.up (by decide) | refine zZ0.p ?_ (by decide) | refine zZ0.r ?_ (by decide) | refine zZ0.i ?_ (by decide) | refine zZ0.v ?_ (by decide))
theorem z0_B : zZ0 IB LB RB 65 := fun k hk => by
  obtain ⟨h1, h2, h3⟩ := z0_X z0_A k (by omega)
  exact ⟨(va_up_ne _ _ (by omega)).trans h1, (va_up_ne _ _ (by omega)).trans h2, (va_up_ne _ _ (by omega)).trans h3⟩
set_option maxRecDepth 20000 in
theorem x_B : ∀ k j a, k ≠ 64 → xRef k j = some a → RB k j = some a := by
  intro k j a hk h
  unfold xRef at h
  split at h <;> first | (cases h; decide +kernel) | (exact absurd rfl hk) | (cases h)
set_option maxRecDepth 20000 in
theorem x_F : zLx RF := by
  intro k j a h
  unfold xRef at h
  split at h <;> first | (cases h; decide +kernel) | (cases h)
theorem rel_F : Rel IF LF RF := by
  refine ⟨⟨x_F, ⟨43, 44, by decide +kernel, by decide +kernel, Or.inl ⟨rfl, rfl⟩⟩, fun P hP e => ?_⟩, ⟨3, 0, fun _ => 0, Or.inl rfl, ?_, by decide +kernel, by decide +kernel, by decide, fun j hj => absurd hj (by omega)⟩, ?_, ⟨?_, ?_⟩, ⟨Or.inl ⟨by decide +kernel, by decide +kernel⟩, Or.inl ⟨by decide +kernel, by decide +kernel⟩⟩, ⟨0, by decide +kernel, by decide +kernel, by decide, fun j hj => absurd hj (by omega)⟩, ?_, by decide +kernel⟩
  · rw [show IF 37 0 = 0 by decide +kernel] at e
    rcases hP with rfl | rfl <;> exact absurd e (by decide)
  · unfold rlP; decide +kernel
  · unfold rlH; decide +kernel
  · unfold sR; decide +kernel
  · unfold qB; decide +kernel
  · have h : ∀ k, k < 4 → (0 ≤ (IF 83 k).toInt ∧ (IF 83 k).toInt ≤ 40) ∧ (IF (56 + 2 * k) 2 = -1 ∧ IF 82 k = -4) := by decide +kernel
    exact fun k hk => ⟨(h k hk).1, Or.inl (h k hk).2⟩
theorem fault_F : IF 8 10 = 0 ∧ IF 64 22 = 0 ∧ IF 1 1 = 0 ∧ IF 64 17 = 0 := by decide +kernel
