/-! the relation: riseBy, bounds -/
theorem mvV_0 {up : Bool} {hand : Int} : ∀ (n : Nat) {v : Nat → Int} {left : Int}, MOK v → 0 ≤ left → (mvV up hand n v left).2 = left → (mvV up hand n v left).1 = v
  | 0, _, _, _, _, _ => rfl
  | n + 1, v, left, hm, hl, h => by
    rw [mvV] at h ⊢
    by_cases hw : mwy (kV v) (mnV up hand v) left up ≤ 0
    · rw [if_pos hw]
    · rw [if_neg hw] at h
      have hp := Int.not_le.mp hw
      have h1 := mwyV_rng hm hl hp
      have h3 := mvV_rng (up := up) (hand := hand) n (MOK_mkV hm hp) (left := left - strV v (mnV up hand v) * mwy (kV v) (mnV up hand v) left up) (by omega)
      omega
theorem rel_rise {k kt : Nat → Nat → Int} {v sd : Nat → Int} (h : RelS k v) (hk : SOK k) {b f n : Int} (hb : 0 ≤ b ∧ b < 4) (hn : 0 ≤ n) : (mup f n (cpS k kt)).1 4 b.toNat - k 4 b.toNat = if (hauV f n v).2 = 0 then 0 else (hauV f n v).1 (13 + b.toNat) - cpy 75 v sd (13 + b.toNat) := by
  have hm := rel_ok h hk
  obtain ⟨h1, h2⟩ := rel_mup (hand := f) (rel_cp (kt := kt) h hk) (SOK_cpS hk) hn
  have e1 : (mup f n (cpS k kt)).1 4 b.toNat = (hauV f n v).1 (13 + b.toNat) := h1.2.2.2.1 b.toNat (by omega)
  have e2 : k 4 b.toNat = v (13 + b.toNat) := h.2.2.2.1 b.toNat (by omega)
  have e3 : cpy 75 v sd (13 + b.toNat) = v (13 + b.toNat) := by unfold cpy; exact if_pos (by omega)
  rw [e1, e2, e3]
  by_cases h0 : (hauV f n v).2 = 0
  · rw [if_pos h0]
    have h4 : n - (mvV true f 4 v n).2 = 0 := h0
    have h5 := mvV_0 (up := true) (hand := f) 4 hm hn (by omega)
    have h6 : (hauV f n v).1 (13 + b.toNat) = v (13 + b.toNat) := by
      show va_up (mvV true f 4 v n).1 7 _ (13 + b.toNat) = _
      rw [va_ne (by omega), h5]
    omega
  · rw [if_neg h0]
theorem POK_cp {k kt : Nat → Nat → Int} (h : POK k) : POK (cpS k kt) := by
  intro j hj
  show -1000000 ≤ cpy 48 (k 2) (kt 2) j ∧ cpy 48 (k 2) (kt 2) j ≤ 1000000
  unfold cpy
  rw [if_pos hj]
  exact h j hj
theorem up_bd {f : Nat → Int} {i : Nat} {x : Int} (h : ∀ j, j < 48 → -1000000 ≤ f j ∧ f j ≤ 1000000) (hx : -1000000 ≤ x ∧ x ≤ 1000000) : ∀ j, j < 48 → -1000000 ≤ va_up f i x j ∧ va_up f i x j ≤ 1000000 := by
  intro j hj
  unfold va_up
  split
  · exact hx
  · exact h j hj
theorem POK_mvk {k : Nat → Nat → Int} (hk : SOK k) (h : POK k) {up : Bool} {b left : Int} (hl : 0 ≤ left ∧ left ≤ 300000) (hp : 0 < mwy k b left up) : POK (mvk up k b (mwy k b left up)) := by
  have h1 := mwy_rng hk (b := b) (up := up) hl.1
  obtain ⟨h2, h3, h4, -⟩ := mwy_pos hp
  cases up
  · refine up_bd (up_bd (up_bd h (by omega)) ?_) ?_
    · show -1000000 ≤ -mwy k b left false ∧ -mwy k b left false ≤ 1000000
      omega
    · show -1000000 ≤ -mwy k b left false * mst k b ∧ -mwy k b left false * mst k b ≤ 1000000
      rw [Int.neg_mul]
      omega
  · refine up_bd (up_bd (up_bd h (by omega)) ?_) ?_
    · show -1000000 ≤ mwy k b left true ∧ mwy k b left true ≤ 1000000
      omega
    · show -1000000 ≤ mwy k b left true * mst k b ∧ mwy k b left true * mst k b ≤ 1000000
      omega
theorem POK_mvs {up : Bool} {hand : Int} : ∀ (n : Nat) {k : Nat → Nat → Int} {left : Int}, SOK k → POK k → (0 ≤ left ∧ left ≤ 300000) → POK (mvs up hand n k left).1 ∧ (mvs up hand n k left).1 0 7 = k 0 7
  | 0, k, left, hk, h, hl => ⟨h, rfl⟩
  | n + 1, k, left, hk, h, hl => by
    rw [mvs]
    by_cases hw : mwy k (mnx up hand k) left up ≤ 0
    · rw [if_pos hw]; exact ⟨h, rfl⟩
    · rw [if_neg hw]
      have hp := Int.not_le.mp hw
      have h1 := mwy_rng hk (b := mnx up hand k) (up := up) hl.1
      have h2 := (mwy_pos hp).2.2.1
      obtain ⟨h3, h4⟩ := POK_mvs (up := up) (hand := hand) n (SOK_mvk hk hp) (POK_mvk hk h hl hp) (left := left - mwy k (mnx up hand k) left up * mst k (mnx up hand k)) (by omega)
      exact ⟨h3, h4.trans rfl⟩
theorem SOK_k0S : SOK k0S := by
  refine ⟨(show (0 : Int) ≤ 1 ∧ (1 : Int) ≤ 10 by decide), (show (0 : Int) ≤ 4 ∧ (4 : Int) ≤ 4 by decide), (show (0 : Int) ≤ 10 ∧ (10 : Int) ≤ 30 by decide), fun i _ => (show (0 : Int) ≤ 0 ∧ (0 : Int) ≤ 3 by decide), fun b hb => ?_, fun b hb => (show (0 : Int) ≤ 0 ∧ (0 : Int) ≤ 9000 by decide), (show (1000 : Int) ≤ 60000 ∧ (60000 : Int) ≤ 300000 by decide), (show (0 : Int) ≤ 0 ∧ (0 : Int) ≤ 15 by decide), (show (0 : Int) ≤ 0 ∧ (0 : Int) ≤ 16 by decide)⟩
  show 0 ≤ cpy 4 (fun _ => 1000) (fun _ => 0) b ∧ cpy 4 (fun _ => 1000) (fun _ => 0) b ≤ 50000
  unfold cpy
  rw [if_pos hb]
  exact (show (0 : Int) ≤ 1000 ∧ (1000 : Int) ≤ 50000 by decide)
theorem POK_k0S : POK k0S := fun j _ => (show (-1000000 : Int) ≤ 0 ∧ (0 : Int) ≤ 1000000 by decide)
