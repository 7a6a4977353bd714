/-! the relation of the class's state and the reference's row of numbers -/
def RelS (k : Nat → Nat → Int) (v : Nat → Int) : Prop := (∀ j, j < 9 → k 0 j = v j) ∧ (∀ i : Nat, (i : Int) < v 2 → k 1 i = vR v i) ∧ (∀ b : Nat, b < 4 → k 3 b = vW v b) ∧ (∀ b : Nat, b < 4 → k 4 b = vH v b) ∧ ∀ j w : Nat, (j : Int) < v 6 → w < 3 → k 2 ((k 0 9 - (j : Int)) % 16 * 3 + (w : Int)).toNat = v (27 + (3 * j + w))
theorem rel_ok {k : Nat → Nat → Int} {v : Nat → Int} (h : RelS k v) (hk : SOK k) : MOK v := by
  obtain ⟨r0, r1, r3, r4, -⟩ := h
  obtain ⟨h1, h2, h3, h4, h5, h6, h7, h8, h9⟩ := hk
  rw [r0 2 (by decide)] at h1 h4
  rw [r0 3 (by decide)] at h2
  rw [r0 1 (by decide)] at h3
  rw [r0 0 (by decide)] at h7
  rw [r0 6 (by decide)] at h9
  exact ⟨h1, h2, h3, fun i hi => by rw [← r1 i hi]; exact h4 i hi, fun b hb => by rw [← r3 b hb]; exact h5 b hb, fun b hb => by rw [← r4 b hb]; exact h6 b hb, h7, h9⟩
theorem rel_st {k : Nat → Nat → Int} {v : Nat → Int} (h : RelS k v) (b : Int) : strn (k 1) (k 0 2).toNat (k 0 3) b = strV v b := by
  rw [h.1 2 (by decide), h.1 3 (by decide)]
  exact strn_congr fun i hi => h.2.1 i (by omega)
theorem rel_hng {k : Nat → Nat → Int} {v : Nat → Int} (h : RelS k v) : hng (k 1) (k 0 2).toNat (k 0 3) (k 4) 4 = hanV v := by
  rw [h.1 2 (by decide), h.1 3 (by decide)]
  exact hng_congr (fun i hi => h.2.1 i (by omega)) (fun b hb => h.2.2.2.1 b hb) 4 (Nat.le_refl _)
theorem rel_hnd {k : Nat → Nat → Int} {v : Nat → Int} (h : RelS k v) : hnd k = hndV v := by
  show k 0 0 - hng (k 1) (k 0 2).toNat (k 0 3) (k 4) 4 = v 0 - hanV v
  rw [rel_hng h, h.1 0 (by decide)]
theorem rel_lea {k : Nat → Nat → Int} {v : Nat → Int} (h : RelS k v) (d : Bool) {b : Int} (hb : 0 ≤ b ∧ b < 4) : lea (k 1) (k 0 1) d (k 0 2).toNat (k 0 3) b (k 3 b.toNat) = leaV v d b := by
  rw [h.1 1 (by decide), h.1 2 (by decide), h.1 3 (by decide), h.2.2.1 b.toNat (by omega)]
  exact lea_congr fun i hi => h.2.1 i (by omega)
theorem rel_frc {k : Nat → Nat → Int} {v : Nat → Int} (h : RelS k v) (d : Bool) {b : Nat} (hb : b < 4) : rck k d 5 b = frcV v d b := by
  show cpy 4 (frc k d) (k 5) b = _
  unfold cpy
  rw [if_pos hb]
  exact rel_lea h d (b := (b : Int)) (by omega)
theorem rel_rck {k : Nat → Nat → Int} {v : Nat → Int} (h : RelS k v) (d : Bool) : RelS (rck k d) v := h
theorem rel_mn {k : Nat → Nat → Int} {v : Nat → Int} (h : RelS k v) {up : Bool} (h5 : ∀ b : Nat, b < 4 → k 5 b = frcV v up b) (hand : Int) : mnx up hand k = mnV up hand v := by
  cases up
  · exact nxs_congr h5 (fun b hb => by rw [h.2.2.2.1 b hb])
  · exact nxr_congr h5 (fun b hb => by rw [h.2.2.2.1 b hb])
theorem rel_mwy {k : Nat → Nat → Int} {v : Nat → Int} (h : RelS k v) (b left : Int) (up : Bool) : mwy k b left up = mwy (kV v) b left up := by
  have hs : mst k b = mst (kV v) b := rel_st h b
  unfold mwy
  rw [hs]
  by_cases hc : (0 ≤ b ∧ b < 4) ∧ 0 < mst (kV v) b
  · rw [if_pos hc, if_pos hc, show k 4 b.toNat = kV v 4 b.toNat from h.2.2.2.1 b.toNat (by omega)]
  · rw [if_neg hc, if_neg hc]
theorem ent_27 {up : Bool} {v : Nat → Int} {b way rope : Int} : entV up v b way rope 27 = b ∧ entV up v b way rope 28 = way ∧ entV up v b way rope 29 = rope := by
  refine ⟨?_, ?_, ?_⟩ <;> cases up <;> rfl
theorem ent_hi {up : Bool} {v : Nat → Int} {b way rope : Int} {j : Nat} (h1 : 30 ≤ j) (h2 : j < 75) : entV up v b way rope j = v (j - 3) := by
  have h7 : j ≠ (if up = true then 4 else 5) := by cases up <;> simp <;> omega
  simp only [entV, en1, va_up, shE]
  rw [if_neg h7, if_neg (by omega), if_neg (by omega), if_neg (by omega), if_neg (by omega), if_pos ⟨by omega, h2⟩]
theorem ent_4 {v : Nat → Int} {b way rope : Int} : entV true v b way rope 4 = v 4 + 1 ∧ entV true v b way rope 5 = v 5 ∧ entV false v b way rope 4 = v 4 ∧ entV false v b way rope 5 = v 5 + 1 := ⟨rfl, rfl, rfl, rfl⟩
