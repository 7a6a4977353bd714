/-! the hand's rope behind moves -/
theorem hng_mv {f ht : Nat → Int} {n : Nat} {E b d : Int} (hb : 0 ≤ b ∧ b < 4) : hng f n E (va_up ht b.toNat (ht b.toNat + d)) 4 = hng f n E ht 4 - d * strn f n E b := by
  rcases (by omega : b = 0 ∨ b = 1 ∨ b = 2 ∨ b = 3) with rfl | rfl | rfl | rfl
  · have q : strn f n E 0 * (10000 - (ht 0 + d)) = strn f n E 0 * (10000 - ht 0) - d * strn f n E 0 := by
      rw [show 10000 - (ht 0 + d) = (10000 - ht 0) - d by omega, Int.mul_sub, Int.mul_comm (strn f n E 0) d]
    have e0 : va_up ht ((0 : Int)).toNat (ht ((0 : Int)).toNat + d) 0 = ht 0 + d := rfl
    have e1 : va_up ht ((0 : Int)).toNat (ht ((0 : Int)).toNat + d) 1 = ht 1 := rfl
    have e2 : va_up ht ((0 : Int)).toNat (ht ((0 : Int)).toNat + d) 2 = ht 2 := rfl
    have e3 : va_up ht ((0 : Int)).toNat (ht ((0 : Int)).toNat + d) 3 = ht 3 := rfl
    rw [hng_4, hng_4, e0, e1, e2, e3, q]
    omega
  · have q : strn f n E 1 * (10000 - (ht 1 + d)) = strn f n E 1 * (10000 - ht 1) - d * strn f n E 1 := by
      rw [show 10000 - (ht 1 + d) = (10000 - ht 1) - d by omega, Int.mul_sub, Int.mul_comm (strn f n E 1) d]
    have e0 : va_up ht ((1 : Int)).toNat (ht ((1 : Int)).toNat + d) 0 = ht 0 := rfl
    have e1 : va_up ht ((1 : Int)).toNat (ht ((1 : Int)).toNat + d) 1 = ht 1 + d := rfl
    have e2 : va_up ht ((1 : Int)).toNat (ht ((1 : Int)).toNat + d) 2 = ht 2 := rfl
    have e3 : va_up ht ((1 : Int)).toNat (ht ((1 : Int)).toNat + d) 3 = ht 3 := rfl
    rw [hng_4, hng_4, e0, e1, e2, e3, q]
    omega
  · have q : strn f n E 2 * (10000 - (ht 2 + d)) = strn f n E 2 * (10000 - ht 2) - d * strn f n E 2 := by
      rw [show 10000 - (ht 2 + d) = (10000 - ht 2) - d by omega, Int.mul_sub, Int.mul_comm (strn f n E 2) d]
    have e0 : va_up ht ((2 : Int)).toNat (ht ((2 : Int)).toNat + d) 0 = ht 0 := rfl
    have e1 : va_up ht ((2 : Int)).toNat (ht ((2 : Int)).toNat + d) 1 = ht 1 := rfl
    have e2 : va_up ht ((2 : Int)).toNat (ht ((2 : Int)).toNat + d) 2 = ht 2 + d := rfl
    have e3 : va_up ht ((2 : Int)).toNat (ht ((2 : Int)).toNat + d) 3 = ht 3 := rfl
    rw [hng_4, hng_4, e0, e1, e2, e3, q]
    omega
  · have q : strn f n E 3 * (10000 - (ht 3 + d)) = strn f n E 3 * (10000 - ht 3) - d * strn f n E 3 := by
      rw [show 10000 - (ht 3 + d) = (10000 - ht 3) - d by omega, Int.mul_sub, Int.mul_comm (strn f n E 3) d]
    have e0 : va_up ht ((3 : Int)).toNat (ht ((3 : Int)).toNat + d) 0 = ht 0 := rfl
    have e1 : va_up ht ((3 : Int)).toNat (ht ((3 : Int)).toNat + d) 1 = ht 1 := rfl
    have e2 : va_up ht ((3 : Int)).toNat (ht ((3 : Int)).toNat + d) 2 = ht 2 := rfl
    have e3 : va_up ht ((3 : Int)).toNat (ht ((3 : Int)).toNat + d) 3 = ht 3 + d := rfl
    rw [hng_4, hng_4, e0, e1, e2, e3, q]
    omega
theorem hnd_mvk {up : Bool} {k : Nat → Nat → Int} {b way : Int} (hb : 0 ≤ b ∧ b < 4) : hnd (mvk up k b way) = hnd k + (if up then way else -way) * mst k b := by
  have e := hng_mv (f := k 1) (ht := k 4) (n := (k 0 2).toNat) (E := k 0 3) (d := if up then way else -way) hb
  show k 0 0 - hng (k 1) (k 0 2).toNat (k 0 3) (va_up (k 4) b.toNat (k 4 b.toNat + (if up then way else -way))) 4 = k 0 0 - hng (k 1) (k 0 2).toNat (k 0 3) (k 4) 4 + _
  rw [e]
  unfold mst
  omega
theorem hnd_mvs_up {hand : Int} : ∀ (n : Nat) {k : Nat → Nat → Int} {left : Int}, hnd k ≤ hnd (mvs true hand n k left).1
  | 0, k, left => Int.le_refl _
  | n + 1, k, left => by
    rw [mvs]
    by_cases hw : mwy k (mnx true hand k) left true ≤ 0
    · rw [if_pos hw]; exact Int.le_refl _
    · rw [if_neg hw]
      have hp := mwy_pos (Int.not_le.mp hw)
      have h1 := hnd_mvk (up := true) (k := k) (way := mwy k (mnx true hand k) left true) hp.1
      have h2 : hnd (mvk true k (mnx true hand k) (mwy k (mnx true hand k) left true)) = hnd k + mwy k (mnx true hand k) left true * mst k (mnx true hand k) := h1
      have h3 := hnd_mvs_up (hand := hand) n (k := mvk true k (mnx true hand k) (mwy k (mnx true hand k) left true)) (left := left - mwy k (mnx true hand k) left true * mst k (mnx true hand k))
      have h4 := hp.2.2.1
      omega
theorem hnd_mvs_dn {hand : Int} : ∀ (n : Nat) {k : Nat → Nat → Int} {left : Int}, hnd k - left ≤ hnd (mvs false hand n k left).1 - (mvs false hand n k left).2
  | 0, k, left => Int.le_refl _
  | n + 1, k, left => by
    rw [mvs]
    by_cases hw : mwy k (mnx false hand k) left false ≤ 0
    · rw [if_pos hw]; exact Int.le_refl _
    · rw [if_neg hw]
      have hp := mwy_pos (Int.not_le.mp hw)
      have h1 := hnd_mvk (up := false) (k := k) (way := mwy k (mnx false hand k) left false) hp.1
      have h2 : hnd (mvk false k (mnx false hand k) (mwy k (mnx false hand k) left false)) = hnd k + -mwy k (mnx false hand k) left false * mst k (mnx false hand k) := h1
      rw [Int.neg_mul] at h2
      have h3 := hnd_mvs_dn (hand := hand) n (k := mvk false k (mnx false hand k) (mwy k (mnx false hand k) left false)) (left := left - mwy k (mnx false hand k) left false * mst k (mnx false hand k))
      omega
