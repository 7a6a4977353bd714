/-! the relation: at the start -/
theorem rel_0 : RelS k0S v0V := by
  refine ⟨fun j hj => ?_, fun i hi => ?_, fun b hb => ?_, fun b hb => ?_, fun j c hj hc => ?_⟩
  · rcases (by omega : j = 0 ∨ j = 1 ∨ j = 2 ∨ j = 3 ∨ j = 4 ∨ j = 5 ∨ j = 6 ∨ j = 7 ∨ j = 8) with rfl | rfl | rfl | rfl | rfl | rfl | rfl | rfl | rfl <;> decide +kernel
  · have h2 : v0V 2 = 1 := by decide +kernel
    have hi0 : i = 0 := by omega
    subst hi0
    decide +kernel
  · rcases (by omega : b = 0 ∨ b = 1 ∨ b = 2 ∨ b = 3) with rfl | rfl | rfl | rfl <;> decide +kernel
  · rcases (by omega : b = 0 ∨ b = 1 ∨ b = 2 ∨ b = 3) with rfl | rfl | rfl | rfl <;> decide +kernel
  · have h6 : v0V 6 = 0 := by decide +kernel
    omega
theorem hnd_0 : 0 ≤ hnd k0S := by decide +kernel
theorem TOK_0 : TOK k0S (fun _ => k0S) 0 0 (fun _ => 0) 0 := ⟨⟨SOK_k0S, hnd_0⟩, fun _ _ => ⟨SOK_k0S, hnd_0⟩, by decide, by decide, by decide, fun i hi => absurd hi (Nat.not_lt_zero i)⟩
