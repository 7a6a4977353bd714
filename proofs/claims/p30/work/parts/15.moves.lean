/-! RopeTackle.State: moves -/
theorem c_X4_isBlock_t (l : Launch) (g : Gh) (b : Int) (hb : 0 ≤ b ∧ b < 4) : CT l g yX4_isBlock cX4_isBlock 1 (some .boolean) ({ frames := 0, cells := 0, slots := 0, locals := 0 }) [.int (iI b)] [] (PE (some (.int (iI 1))) []) := by
  have h9 := c_X4_isBlock l g b (by omega)
  rwa [if_pos hb] at h9
theorem c_X4_isBlock_f (l : Launch) (g : Gh) (b : Int) (hr : -2147483648 ≤ b ∧ b < 2147483648) (hb : b < 0 ∨ 4 ≤ b) : CT l g yX4_isBlock cX4_isBlock 1 (some .boolean) ({ frames := 0, cells := 0, slots := 0, locals := 0 }) [.int (iI b)] [] (PE (some (.int (iI 0))) []) := by
  have h9 := c_X4_isBlock l g b hr
  rwa [if_neg (by omega)] at h9
theorem div_rng {a b : Int} (ha : 0 ≤ a) (hb : 0 < b) : 0 ≤ a / b ∧ a / b ≤ a := ⟨Int.ediv_nonneg ha (by omega), Int.ediv_le_self _ ha⟩
theorem mst_rng {k : Nat → Nat → Int} (hk : SOK k) (b : Int) : 0 ≤ mst k b ∧ mst k b ≤ 21 := by
  have h1 := strn_rng (k 1) (k 0 2).toNat (k 0 3) b
  have h2 := hk.1
  unfold mst
  omega
theorem mwy_rng {k : Nat → Nat → Int} (hk : SOK k) {b left : Int} {up : Bool} (hl : 0 ≤ left) : 0 ≤ mwy k b left up ∧ mwy k b left up ≤ 9000 ∧ mwy k b left up * mst k b ≤ left := by
  unfold mwy
  split
  · next h =>
    have h1 := hk.2.2.2.2.2.1 b.toNat (by omega)
    have h2 : 0 ≤ left / mst k b := Int.ediv_nonneg hl (by omega)
    have h3 : left / mst k b * mst k b ≤ left := Int.ediv_mul_le _ (by omega)
    have hroom : 0 ≤ (if up = true then 9000 - k 4 b.toNat else k 4 b.toNat) ∧ (if up = true then 9000 - k 4 b.toNat else k 4 b.toNat) ≤ 9000 := by split <;> omega
    generalize (if up = true then 9000 - k 4 b.toNat else k 4 b.toNat) = room at hroom ⊢
    split
    · next h4 =>
      refine ⟨hroom.1, hroom.2, Int.le_trans (Int.mul_le_mul_of_nonneg_right (by omega) (by omega)) h3⟩
    · exact ⟨h2, by omega, h3⟩
  · simp [hl]
theorem mwy_pos {k : Nat → Nat → Int} {b left : Int} {up : Bool} (h : 0 < mwy k b left up) : (0 ≤ b ∧ b < 4) ∧ 0 < mst k b ∧ 0 < mwy k b left up * mst k b ∧ (if up then k 4 b.toNat + mwy k b left up ≤ 9000 else 0 ≤ k 4 b.toNat - mwy k b left up) := by
  by_cases hc : (0 ≤ b ∧ b < 4) ∧ 0 < mst k b
  · refine ⟨hc.1, hc.2, Int.mul_pos h hc.2, ?_⟩
    unfold mwy
    rw [if_pos hc]
    cases up
    · simp only [Bool.false_eq_true, if_false]
      split <;> omega
    · simp only [if_true]
      split <;> omega
  · unfold mwy at h
    rw [if_neg hc] at h
    exact absurd h (by decide)
theorem SOK_mvk {k : Nat → Nat → Int} (hk : SOK k) {b left : Int} {up : Bool} (h : 0 < mwy k b left up) : SOK (mvk up k b (mwy k b left up)) := by
  obtain ⟨h1, h2, h3, h4, h5, h6, h7, h8, h9⟩ := hk
  obtain ⟨b1, b2, b3, b4⟩ := mwy_pos h
  refine ⟨h1, h2, h3, h4, h5, fun j hj => ?_, h7, ?_, ?_⟩
  · show 0 ≤ va_up (k 4) b.toNat (k 4 b.toNat + (if up then mwy k b left up else -mwy k b left up)) j ∧ va_up (k 4) b.toNat (k 4 b.toNat + (if up then mwy k b left up else -mwy k b left up)) j ≤ 9000
    have h6j := h6 j hj
    have h6b := h6 b.toNat (by omega)
    unfold va_up
    split
    · cases up
      · simp only [Bool.false_eq_true, if_false] at b4 ⊢
        omega
      · simp only [if_true] at b4 ⊢
        omega
    · exact h6j
  · show 0 ≤ (k 0 9 + 1) % 16 ∧ (k 0 9 + 1) % 16 ≤ 15
    omega
  · show 0 ≤ (if 16 < k 0 6 + 1 then 16 else k 0 6 + 1) ∧ (if 16 < k 0 6 + 1 then 16 else k 0 6 + 1) ≤ 16
    split <;> omega
/-- the state behind a rise, the work not yet told -/
def mvk1 (k : Nat → Nat → Int) (b way : Int) : Nat → Nat → Int :=
  va_up (va_up (va_up k 4 (va_up (k 4) b.toNat (k 4 b.toNat + way))) 2 (va_up (va_up (va_up (k 2) ((k 0 9 + 1) % 16 * 3).toNat b) ((k 0 9 + 1) % 16 * 3 + 1).toNat way) ((k 0 9 + 1) % 16 * 3 + 2).toNat (way * mst k b))) 0
    (fun j => if j = 9 then (k 0 9 + 1) % 16 else if j = 6 then (if 16 < k 0 6 + 1 then 16 else k 0 6 + 1) else if j = 4 then k 0 4 + 1 else k 0 j)
theorem SOK_mvk1 {k : Nat → Nat → Int} (hk : SOK k) {b left : Int} (h : 0 < mwy k b left true) : SOK (mvk1 k b (mwy k b left true)) := SOK_mvk hk h
theorem c_X2_moveOne_n1up (l : Launch) (g : Gh) (q : Nat → Nat) (k : Nat → Nat → Int) (b left : Int) (hk : SOK k) (hb1 : b = -1) : CT l g yX2_moveOne cX2_moveOne 8 (some FieldType.int) ({ frames := 2, cells := 0, slots := 0, locals := 45 }) [.ref (q 0), .int (iI b), .int (iI left), .int (iI 1)] [(q 0, .inr (2, [.ref (q 1), .ref (q 3), .ref (q 5), .ref (q 6), .ref (q 7), .int (iI (k 0 0))])), (q 1, .inr (1, [.ref (q 2), .int (iI (k 0 2)), .int (iI (k 0 3)), .int (iI (k 0 1))])), (q 2, aI g 10 (k 1)), (q 3, .inr (0, [.ref (q 4), .int (iI (k 0 9)), .int (iI (k 0 6)), .int (iI (k 0 4)), .int (iI (k 0 5)), .long (lI (k 0 7)), .long (lI (k 0 8))])), (q 4, aI g 48 (k 2)), (q 5, aI g 4 (k 3)), (q 6, aI g 4 (k 4)), (q 7, aI g 4 (k 5))] (PE (some (.int (iI 0))) (wSt g q k)) := by
  refine CT.intro (L0 := [(0, .ref (q 0)), (1, .int (iI b)), (2, .int (iI left)), (3, .int (iI 1))]) (own := RX2) (by decide) rfl (Nat.le_of_ble_eq_true rfl) rfl ?_
  intro pX eX sX mX argsX belowX methX cX A C hr hlk
  obtain ⟨hP, hE0, hF, hrow0, hwt, hht, hlen, hlat, hkept⟩ := id hk
  have hE : -10 ≤ k 0 3 ∧ k 0 3 ≤ 10 := by omega
  have hrow : ∀ i : Nat, (i : Int) < k 0 2 → 0 ≤ k 1 i ∧ k 1 i ≤ 4 := fun i hi => by have := hrow0 i hi; omega
  refine j_aload_n C 0 dX2_moveOne_0 rfl rfl ?_
  refine j_get C ck2 0 0 (by decide) qw88 rfl rfl dX2_moveOne_1 ?_
  refine j_iload_n C 1 dX2_moveOne_4 rfl rfl ?_
  refine j_callV (As := [.int (iI b)]) (rest := []) C yv_X1_strandsOf qw335 (c_X1_strandsOf l g (q 1) (q 2) (k 1) (k 0 2) (k 0 3) (k 0 1) b hP hE (by omega) hrow) (by decide) 1 rfl rfl rfl dX2_moveOne_5 rfl (Nat.le_of_ble_eq_true rfl) (by decide) (pf1 [(q 0, .inr (2, [.ref (q 1), .ref (q 3), .ref (q 5), .ref (q 6), .ref (q 7), .int (iI (k 0 0))]))] [(q 3, .inr (0, [.ref (q 4), .int (iI (k 0 9)), .int (iI (k 0 6)), .int (iI (k 0 4)), .int (iI (k 0 5)), .long (lI (k 0 7)), .long (lI (k 0 8))])), (q 4, aI g 48 (k 2)), (q 5, aI g 4 (k 3)), (q 6, aI g 4 (k 4)), (q 7, aI g 4 (k 5))]) rfl (fun r9 w9 hq9 => ?_)
  obtain ⟨rfl, rfl⟩ := hq9
  refine J.to (L1 := [(0, .ref (q 0)), (1, .int (iI b)), (2, .int (iI left)), (3, .int (iI 1))]) (S1 := [.int (iI (strn (k 1) (k 0 2).toNat (k 0 3) b))]) (ws1 := [(q 0, .inr (2, [.ref (q 1), .ref (q 3), .ref (q 5), .ref (q 6), .ref (q 7), .int (iI (k 0 0))])), (q 1, .inr (1, [.ref (q 2), .int (iI (k 0 2)), .int (iI (k 0 3)), .int (iI (k 0 1))])), (q 2, aI g 10 (k 1)), (q 3, .inr (0, [.ref (q 4), .int (iI (k 0 9)), .int (iI (k 0 6)), .int (iI (k 0 4)), .int (iI (k 0 5)), .long (lI (k 0 7)), .long (lI (k 0 8))])), (q 4, aI g 48 (k 2)), (q 5, aI g 4 (k 3)), (q 6, aI g 4 (k 4)), (q 7, aI g 4 (k 5))]) rfl rfl rfl ?_
  refine j_istore (L1 := [(4, .int (iI (strn (k 1) (k 0 2).toNat (k 0 3) b))), (0, .ref (q 0)), (1, .int (iI b)), (2, .int (iI left)), (3, .int (iI 1))]) C dX2_moveOne_8 (by decide) rfl ?_
  refine j_iload_n C 2 dX2_moveOne_10 rfl rfl ?_
  refine j_callSN (As := [.int (iI b)]) (rest := []) C ys_X4_isBlock qn421 (c_X4_isBlock_f l g b (by omega) (by omega)) (by decide) rfl dX2_moveOne_11 rfl (Nat.le_of_ble_eq_true rfl) (by decide) (pf1 [] [(q 0, .inr (2, [.ref (q 1), .ref (q 3), .ref (q 5), .ref (q 6), .ref (q 7), .int (iI (k 0 0))])), (q 1, .inr (1, [.ref (q 2), .int (iI (k 0 2)), .int (iI (k 0 3)), .int (iI (k 0 1))])), (q 2, aI g 10 (k 1)), (q 3, .inr (0, [.ref (q 4), .int (iI (k 0 9)), .int (iI (k 0 6)), .int (iI (k 0 4)), .int (iI (k 0 5)), .long (lI (k 0 7)), .long (lI (k 0 8))])), (q 4, aI g 48 (k 2)), (q 5, aI g 4 (k 3)), (q 6, aI g 4 (k 4)), (q 7, aI g 4 (k 5))]) rfl (fun r9 w9 hq9 => ?_)
  obtain ⟨rfl, rfl⟩ := hq9
  refine J.to (L1 := [(4, .int (iI (strn (k 1) (k 0 2).toNat (k 0 3) b))), (0, .ref (q 0)), (1, .int (iI b)), (2, .int (iI left)), (3, .int (iI 1))]) (S1 := [.int (iI 0)]) (ws1 := [(q 0, .inr (2, [.ref (q 1), .ref (q 3), .ref (q 5), .ref (q 6), .ref (q 7), .int (iI (k 0 0))])), (q 1, .inr (1, [.ref (q 2), .int (iI (k 0 2)), .int (iI (k 0 3)), .int (iI (k 0 1))])), (q 2, aI g 10 (k 1)), (q 3, .inr (0, [.ref (q 4), .int (iI (k 0 9)), .int (iI (k 0 6)), .int (iI (k 0 4)), .int (iI (k 0 5)), .long (lI (k 0 7)), .long (lI (k 0 8))])), (q 4, aI g 48 (k 2)), (q 5, aI g 4 (k 3)), (q 6, aI g 4 (k 4)), (q 7, aI g 4 (k 5))]) rfl rfl rfl ?_
  refine j_if_eq (tgt := 22) C (by decide) dX2_moveOne_14 (by decide) (fun c14 => ?_) (fun c14 => absurd c14 (by decide))
  refine j_iconst C dX2_moveOne_22 ?_
  exact j_iret C hr hlk dX2_moveOne_23 ⟨rfl, rfl⟩ (by decide) (by decide)

theorem c_X2_moveOne_n2up (l : Launch) (g : Gh) (q : Nat → Nat) (k : Nat → Nat → Int) (b left : Int) (hk : SOK k) (hb3 : 0 ≤ b ∧ b ≤ 3) (hleft : 0 ≤ left ∧ left ≤ 300000) (hno : mwy k b left true ≤ 0) : CT l g yX2_moveOne cX2_moveOne 8 (some FieldType.int) ({ frames := 2, cells := 0, slots := 0, locals := 45 }) [.ref (q 0), .int (iI b), .int (iI left), .int (iI 1)] [(q 0, .inr (2, [.ref (q 1), .ref (q 3), .ref (q 5), .ref (q 6), .ref (q 7), .int (iI (k 0 0))])), (q 1, .inr (1, [.ref (q 2), .int (iI (k 0 2)), .int (iI (k 0 3)), .int (iI (k 0 1))])), (q 2, aI g 10 (k 1)), (q 3, .inr (0, [.ref (q 4), .int (iI (k 0 9)), .int (iI (k 0 6)), .int (iI (k 0 4)), .int (iI (k 0 5)), .long (lI (k 0 7)), .long (lI (k 0 8))])), (q 4, aI g 48 (k 2)), (q 5, aI g 4 (k 3)), (q 6, aI g 4 (k 4)), (q 7, aI g 4 (k 5))] (PE (some (.int (iI 0))) (wSt g q k)) := by
  refine CT.intro (L0 := [(0, .ref (q 0)), (1, .int (iI b)), (2, .int (iI left)), (3, .int (iI 1))]) (own := RX2) (by decide) rfl (Nat.le_of_ble_eq_true rfl) rfl ?_
  intro pX eX sX mX argsX belowX methX cX A C hr hlk
  obtain ⟨hP, hE0, hF, hrow0, hwt, hht, hlen, hlat, hkept⟩ := id hk
  have hE : -10 ≤ k 0 3 ∧ k 0 3 ≤ 10 := by omega
  have hrow : ∀ i : Nat, (i : Int) < k 0 2 → 0 ≤ k 1 i ∧ k 1 i ≤ 4 := fun i hi => by have := hrow0 i hi; omega
  have hb4 := hht b.toNat (by omega)
  have hy9 := mwy_rng hk (b := b) (up := true) hleft.1
  have hs9 := strn_rng (k 1) (k 0 2).toNat (k 0 3) b
  have hw5 := hwt b.toNat (by omega)
  refine j_aload_n C 0 dX2_moveOne_0 rfl rfl ?_
  refine j_get C ck2 0 0 (by decide) qw88 rfl rfl dX2_moveOne_1 ?_
  refine j_iload_n C 1 dX2_moveOne_4 rfl rfl ?_
  refine j_callV (As := [.int (iI b)]) (rest := []) C yv_X1_strandsOf qw335 (c_X1_strandsOf l g (q 1) (q 2) (k 1) (k 0 2) (k 0 3) (k 0 1) b hP hE (by omega) hrow) (by decide) 1 rfl rfl rfl dX2_moveOne_5 rfl (Nat.le_of_ble_eq_true rfl) (by decide) (pf1 [(q 0, .inr (2, [.ref (q 1), .ref (q 3), .ref (q 5), .ref (q 6), .ref (q 7), .int (iI (k 0 0))]))] [(q 3, .inr (0, [.ref (q 4), .int (iI (k 0 9)), .int (iI (k 0 6)), .int (iI (k 0 4)), .int (iI (k 0 5)), .long (lI (k 0 7)), .long (lI (k 0 8))])), (q 4, aI g 48 (k 2)), (q 5, aI g 4 (k 3)), (q 6, aI g 4 (k 4)), (q 7, aI g 4 (k 5))]) rfl (fun r9 w9 hq9 => ?_)
  obtain ⟨rfl, rfl⟩ := hq9
  refine J.to (L1 := [(0, .ref (q 0)), (1, .int (iI b)), (2, .int (iI left)), (3, .int (iI 1))]) (S1 := [.int (iI (strn (k 1) (k 0 2).toNat (k 0 3) b))]) (ws1 := [(q 0, .inr (2, [.ref (q 1), .ref (q 3), .ref (q 5), .ref (q 6), .ref (q 7), .int (iI (k 0 0))])), (q 1, .inr (1, [.ref (q 2), .int (iI (k 0 2)), .int (iI (k 0 3)), .int (iI (k 0 1))])), (q 2, aI g 10 (k 1)), (q 3, .inr (0, [.ref (q 4), .int (iI (k 0 9)), .int (iI (k 0 6)), .int (iI (k 0 4)), .int (iI (k 0 5)), .long (lI (k 0 7)), .long (lI (k 0 8))])), (q 4, aI g 48 (k 2)), (q 5, aI g 4 (k 3)), (q 6, aI g 4 (k 4)), (q 7, aI g 4 (k 5))]) rfl rfl rfl ?_
  refine j_istore (L1 := [(4, .int (iI (strn (k 1) (k 0 2).toNat (k 0 3) b))), (0, .ref (q 0)), (1, .int (iI b)), (2, .int (iI left)), (3, .int (iI 1))]) C dX2_moveOne_8 (by decide) rfl ?_
  refine j_iload_n C 2 dX2_moveOne_10 rfl rfl ?_
  refine j_callSN (As := [.int (iI b)]) (rest := []) C ys_X4_isBlock qn421 (c_X4_isBlock_t l g b (by omega)) (by decide) rfl dX2_moveOne_11 rfl (Nat.le_of_ble_eq_true rfl) (by decide) (pf1 [] [(q 0, .inr (2, [.ref (q 1), .ref (q 3), .ref (q 5), .ref (q 6), .ref (q 7), .int (iI (k 0 0))])), (q 1, .inr (1, [.ref (q 2), .int (iI (k 0 2)), .int (iI (k 0 3)), .int (iI (k 0 1))])), (q 2, aI g 10 (k 1)), (q 3, .inr (0, [.ref (q 4), .int (iI (k 0 9)), .int (iI (k 0 6)), .int (iI (k 0 4)), .int (iI (k 0 5)), .long (lI (k 0 7)), .long (lI (k 0 8))])), (q 4, aI g 48 (k 2)), (q 5, aI g 4 (k 3)), (q 6, aI g 4 (k 4)), (q 7, aI g 4 (k 5))]) rfl (fun r9 w9 hq9 => ?_)
  obtain ⟨rfl, rfl⟩ := hq9
  refine J.to (L1 := [(4, .int (iI (strn (k 1) (k 0 2).toNat (k 0 3) b))), (0, .ref (q 0)), (1, .int (iI b)), (2, .int (iI left)), (3, .int (iI 1))]) (S1 := [.int (iI 1)]) (ws1 := [(q 0, .inr (2, [.ref (q 1), .ref (q 3), .ref (q 5), .ref (q 6), .ref (q 7), .int (iI (k 0 0))])), (q 1, .inr (1, [.ref (q 2), .int (iI (k 0 2)), .int (iI (k 0 3)), .int (iI (k 0 1))])), (q 2, aI g 10 (k 1)), (q 3, .inr (0, [.ref (q 4), .int (iI (k 0 9)), .int (iI (k 0 6)), .int (iI (k 0 4)), .int (iI (k 0 5)), .long (lI (k 0 7)), .long (lI (k 0 8))])), (q 4, aI g 48 (k 2)), (q 5, aI g 4 (k 3)), (q 6, aI g 4 (k 4)), (q 7, aI g 4 (k 5))]) rfl rfl rfl ?_
  refine j_if_eq (tgt := 22) C (by decide) dX2_moveOne_14 (by decide) (fun c14 => absurd c14 (by decide)) (fun c14 => ?_)
  refine j_iload C 0 dX2_moveOne_17 rfl ?_
  refine j_if_gt (tgt := 24) C (by omega) dX2_moveOne_19 (by decide) (fun c19 => ?_) (fun c19 => ?_)
  · refine j_iload_n C 4 dX2_moveOne_24 rfl rfl ?_
    refine j_if_eq (tgt := 40) C (by decide) dX2_moveOne_25 (by decide) (fun c25 => absurd c25 (by decide)) (fun c25 => ?_)
    refine j_sipush C dX2_moveOne_28 (by decide) ?_
    refine j_aload_n C 1 dX2_moveOne_31 rfl rfl ?_
    refine j_iload_n C 2 dX2_moveOne_32 rfl rfl ?_
    refine j_callV (As := [.int (iI b)]) (rest := [.int (iI 9000)]) C yv_X2_heightOf qw343 (c_X2_heightOf l g q k b hk (by omega)) (by decide) 0 rfl rfl rfl dX2_moveOne_33 rfl (Nat.le_of_ble_eq_true rfl) (by decide) pf0 rfl (fun r9 w9 hq9 => ?_)
    obtain ⟨rfl, rfl⟩ := hq9
    refine J.to (L1 := [(4, .int (iI (strn (k 1) (k 0 2).toNat (k 0 3) b))), (0, .ref (q 0)), (1, .int (iI b)), (2, .int (iI left)), (3, .int (iI 1))]) (S1 := [.int (iI (k 4 b.toNat)), .int (iI 9000)]) (ws1 := [(q 0, .inr (2, [.ref (q 1), .ref (q 3), .ref (q 5), .ref (q 6), .ref (q 7), .int (iI (k 0 0))])), (q 1, .inr (1, [.ref (q 2), .int (iI (k 0 2)), .int (iI (k 0 3)), .int (iI (k 0 1))])), (q 2, aI g 10 (k 1)), (q 3, .inr (0, [.ref (q 4), .int (iI (k 0 9)), .int (iI (k 0 6)), .int (iI (k 0 4)), .int (iI (k 0 5)), .long (lI (k 0 7)), .long (lI (k 0 8))])), (q 4, aI g 48 (k 2)), (q 5, aI g 4 (k 3)), (q 6, aI g 4 (k 4)), (q 7, aI g 4 (k 5))]) rfl rfl rfl ?_
    refine j_isub C dX2_moveOne_36 ?_
    refine j_goto (tgt := 45) C dX2_moveOne_37 (by decide) ?_
    refine j_istore (L1 := [(5, .int (iI (9000 - (k 4 b.toNat)))), (4, .int (iI (strn (k 1) (k 0 2).toNat (k 0 3) b))), (0, .ref (q 0)), (1, .int (iI b)), (2, .int (iI left)), (3, .int (iI 1))]) C dX2_moveOne_45 (by decide) rfl ?_
    refine j_iload_n C 4 dX2_moveOne_47 rfl rfl ?_
    refine j_iload C 1 dX2_moveOne_48 rfl ?_
    refine j_idiv C (by omega) (by omega) dX2_moveOne_50 ?_
    have hd9 := div_rng (b := strn (k 1) (k 0 2).toNat (k 0 3) b) hleft.1 c19
    refine j_iload C 0 dX2_moveOne_51 rfl ?_
    refine j_mmin C (by omega) (by omega) qw422 qw_min1 qw_min2 qw_min3 (by decide) (Nat.le_of_ble_eq_true rfl) (by decide) dX2_moveOne_53 ?_
    refine J.to (L1 := [(5, .int (iI (9000 - (k 4 b.toNat)))), (4, .int (iI (strn (k 1) (k 0 2).toNat (k 0 3) b))), (0, .ref (q 0)), (1, .int (iI b)), (2, .int (iI left)), (3, .int (iI 1))]) (S1 := [.int (iI (mwy k b left true))]) (ws1 := [(q 0, .inr (2, [.ref (q 1), .ref (q 3), .ref (q 5), .ref (q 6), .ref (q 7), .int (iI (k 0 0))])), (q 1, .inr (1, [.ref (q 2), .int (iI (k 0 2)), .int (iI (k 0 3)), .int (iI (k 0 1))])), (q 2, aI g 10 (k 1)), (q 3, .inr (0, [.ref (q 4), .int (iI (k 0 9)), .int (iI (k 0 6)), .int (iI (k 0 4)), .int (iI (k 0 5)), .long (lI (k 0 7)), .long (lI (k 0 8))])), (q 4, aI g 48 (k 2)), (q 5, aI g 4 (k 3)), (q 6, aI g 4 (k 4)), (q 7, aI g 4 (k 5))]) rfl rfl (by rw [show ((if 9000 - (k 4 b.toNat) < left / (strn (k 1) (k 0 2).toNat (k 0 3) b) then 9000 - (k 4 b.toNat) else left / (strn (k 1) (k 0 2).toNat (k 0 3) b) : Int)) = mwy k b left true from (by unfold mwy; exact (if_pos ⟨⟨by omega, by omega⟩, c19⟩).symm)]) ?_
    refine j_istore (L1 := [(6, .int (iI (mwy k b left true))), (5, .int (iI (9000 - (k 4 b.toNat)))), (4, .int (iI (strn (k 1) (k 0 2).toNat (k 0 3) b))), (0, .ref (q 0)), (1, .int (iI b)), (2, .int (iI left)), (3, .int (iI 1))]) C dX2_moveOne_56 (by decide) rfl ?_
    refine j_iload C 0 dX2_moveOne_58 rfl ?_
    refine j_if_gt (tgt := 65) C (by omega) dX2_moveOne_60 (by decide) (fun c60 => absurd c60 (by omega)) (fun c60 => ?_)
    refine j_iconst C dX2_moveOne_63 ?_
    exact j_iret C hr hlk dX2_moveOne_64 ⟨rfl, rfl⟩ (by decide) (by decide)
  · refine j_iconst C dX2_moveOne_22 ?_
    exact j_iret C hr hlk dX2_moveOne_23 ⟨rfl, rfl⟩ (by decide) (by decide)

theorem c_X2_moveOne_up (l : Launch) (g : Gh) (q : Nat → Nat) (k : Nat → Nat → Int) (b left : Int) (hk : SOK k) (hb3 : 0 ≤ b ∧ b ≤ 3) (hleft : 0 ≤ left ∧ left ≤ 300000) (hyes : 0 < mwy k b left true) : CT l g yX2_moveOne cX2_moveOne 8 (some FieldType.int) ({ frames := 2, cells := 0, slots := 0, locals := 45 }) [.ref (q 0), .int (iI b), .int (iI left), .int (iI 1)] [(q 0, .inr (2, [.ref (q 1), .ref (q 3), .ref (q 5), .ref (q 6), .ref (q 7), .int (iI (k 0 0))])), (q 1, .inr (1, [.ref (q 2), .int (iI (k 0 2)), .int (iI (k 0 3)), .int (iI (k 0 1))])), (q 2, aI g 10 (k 1)), (q 3, .inr (0, [.ref (q 4), .int (iI (k 0 9)), .int (iI (k 0 6)), .int (iI (k 0 4)), .int (iI (k 0 5)), .long (lI (k 0 7)), .long (lI (k 0 8))])), (q 4, aI g 48 (k 2)), (q 5, aI g 4 (k 3)), (q 6, aI g 4 (k 4)), (q 7, aI g 4 (k 5))] (PE (some (.int (iI (mwy k b left true * mst k b)))) (wSt g q (mvk true k b (mwy k b left true)))) := by
  refine CT.intro (L0 := [(0, .ref (q 0)), (1, .int (iI b)), (2, .int (iI left)), (3, .int (iI 1))]) (own := RX2) (by decide) rfl (Nat.le_of_ble_eq_true rfl) rfl ?_
  intro pX eX sX mX argsX belowX methX cX A C hr hlk
  obtain ⟨hP, hE0, hF, hrow0, hwt, hht, hlen, hlat, hkept⟩ := id hk
  have hE : -10 ≤ k 0 3 ∧ k 0 3 ≤ 10 := by omega
  have hrow : ∀ i : Nat, (i : Int) < k 0 2 → 0 ≤ k 1 i ∧ k 1 i ≤ 4 := fun i hi => by have := hrow0 i hi; omega
  have hb4 := hht b.toNat (by omega)
  have hy9 := mwy_rng hk (b := b) (up := true) hleft.1
  have hs9 := strn_rng (k 1) (k 0 2).toNat (k 0 3) b
  have hw5 := hwt b.toNat (by omega)
  have hs8 : 0 < strn (k 1) (k 0 2).toNat (k 0 3) b := (mwy_pos hyes).2.1
  refine j_aload_n C 0 dX2_moveOne_0 rfl rfl ?_
  refine j_get C ck2 0 0 (by decide) qw88 rfl rfl dX2_moveOne_1 ?_
  refine j_iload_n C 1 dX2_moveOne_4 rfl rfl ?_
  refine j_callV (As := [.int (iI b)]) (rest := []) C yv_X1_strandsOf qw335 (c_X1_strandsOf l g (q 1) (q 2) (k 1) (k 0 2) (k 0 3) (k 0 1) b hP hE (by omega) hrow) (by decide) 1 rfl rfl rfl dX2_moveOne_5 rfl (Nat.le_of_ble_eq_true rfl) (by decide) (pf1 [(q 0, .inr (2, [.ref (q 1), .ref (q 3), .ref (q 5), .ref (q 6), .ref (q 7), .int (iI (k 0 0))]))] [(q 3, .inr (0, [.ref (q 4), .int (iI (k 0 9)), .int (iI (k 0 6)), .int (iI (k 0 4)), .int (iI (k 0 5)), .long (lI (k 0 7)), .long (lI (k 0 8))])), (q 4, aI g 48 (k 2)), (q 5, aI g 4 (k 3)), (q 6, aI g 4 (k 4)), (q 7, aI g 4 (k 5))]) rfl (fun r9 w9 hq9 => ?_)
  obtain ⟨rfl, rfl⟩ := hq9
  refine J.to (L1 := [(0, .ref (q 0)), (1, .int (iI b)), (2, .int (iI left)), (3, .int (iI 1))]) (S1 := [.int (iI (strn (k 1) (k 0 2).toNat (k 0 3) b))]) (ws1 := [(q 0, .inr (2, [.ref (q 1), .ref (q 3), .ref (q 5), .ref (q 6), .ref (q 7), .int (iI (k 0 0))])), (q 1, .inr (1, [.ref (q 2), .int (iI (k 0 2)), .int (iI (k 0 3)), .int (iI (k 0 1))])), (q 2, aI g 10 (k 1)), (q 3, .inr (0, [.ref (q 4), .int (iI (k 0 9)), .int (iI (k 0 6)), .int (iI (k 0 4)), .int (iI (k 0 5)), .long (lI (k 0 7)), .long (lI (k 0 8))])), (q 4, aI g 48 (k 2)), (q 5, aI g 4 (k 3)), (q 6, aI g 4 (k 4)), (q 7, aI g 4 (k 5))]) rfl rfl rfl ?_
  refine j_istore (L1 := [(4, .int (iI (strn (k 1) (k 0 2).toNat (k 0 3) b))), (0, .ref (q 0)), (1, .int (iI b)), (2, .int (iI left)), (3, .int (iI 1))]) C dX2_moveOne_8 (by decide) rfl ?_
  refine j_iload_n C 2 dX2_moveOne_10 rfl rfl ?_
  refine j_callSN (As := [.int (iI b)]) (rest := []) C ys_X4_isBlock qn421 (c_X4_isBlock_t l g b (by omega)) (by decide) rfl dX2_moveOne_11 rfl (Nat.le_of_ble_eq_true rfl) (by decide) (pf1 [] [(q 0, .inr (2, [.ref (q 1), .ref (q 3), .ref (q 5), .ref (q 6), .ref (q 7), .int (iI (k 0 0))])), (q 1, .inr (1, [.ref (q 2), .int (iI (k 0 2)), .int (iI (k 0 3)), .int (iI (k 0 1))])), (q 2, aI g 10 (k 1)), (q 3, .inr (0, [.ref (q 4), .int (iI (k 0 9)), .int (iI (k 0 6)), .int (iI (k 0 4)), .int (iI (k 0 5)), .long (lI (k 0 7)), .long (lI (k 0 8))])), (q 4, aI g 48 (k 2)), (q 5, aI g 4 (k 3)), (q 6, aI g 4 (k 4)), (q 7, aI g 4 (k 5))]) rfl (fun r9 w9 hq9 => ?_)
  obtain ⟨rfl, rfl⟩ := hq9
  refine J.to (L1 := [(4, .int (iI (strn (k 1) (k 0 2).toNat (k 0 3) b))), (0, .ref (q 0)), (1, .int (iI b)), (2, .int (iI left)), (3, .int (iI 1))]) (S1 := [.int (iI 1)]) (ws1 := [(q 0, .inr (2, [.ref (q 1), .ref (q 3), .ref (q 5), .ref (q 6), .ref (q 7), .int (iI (k 0 0))])), (q 1, .inr (1, [.ref (q 2), .int (iI (k 0 2)), .int (iI (k 0 3)), .int (iI (k 0 1))])), (q 2, aI g 10 (k 1)), (q 3, .inr (0, [.ref (q 4), .int (iI (k 0 9)), .int (iI (k 0 6)), .int (iI (k 0 4)), .int (iI (k 0 5)), .long (lI (k 0 7)), .long (lI (k 0 8))])), (q 4, aI g 48 (k 2)), (q 5, aI g 4 (k 3)), (q 6, aI g 4 (k 4)), (q 7, aI g 4 (k 5))]) rfl rfl rfl ?_
  refine j_if_eq (tgt := 22) C (by decide) dX2_moveOne_14 (by decide) (fun c14 => absurd c14 (by decide)) (fun c14 => ?_)
  refine j_iload C 0 dX2_moveOne_17 rfl ?_
  refine j_if_gt (tgt := 24) C (by omega) dX2_moveOne_19 (by decide) (fun c19 => ?_) (fun c19 => absurd c19 (by omega))
  refine j_iload_n C 4 dX2_moveOne_24 rfl rfl ?_
  refine j_if_eq (tgt := 40) C (by decide) dX2_moveOne_25 (by decide) (fun c25 => absurd c25 (by decide)) (fun c25 => ?_)
  refine j_sipush C dX2_moveOne_28 (by decide) ?_
  refine j_aload_n C 1 dX2_moveOne_31 rfl rfl ?_
  refine j_iload_n C 2 dX2_moveOne_32 rfl rfl ?_
  refine j_callV (As := [.int (iI b)]) (rest := [.int (iI 9000)]) C yv_X2_heightOf qw343 (c_X2_heightOf l g q k b hk (by omega)) (by decide) 0 rfl rfl rfl dX2_moveOne_33 rfl (Nat.le_of_ble_eq_true rfl) (by decide) pf0 rfl (fun r9 w9 hq9 => ?_)
  obtain ⟨rfl, rfl⟩ := hq9
  refine J.to (L1 := [(4, .int (iI (strn (k 1) (k 0 2).toNat (k 0 3) b))), (0, .ref (q 0)), (1, .int (iI b)), (2, .int (iI left)), (3, .int (iI 1))]) (S1 := [.int (iI (k 4 b.toNat)), .int (iI 9000)]) (ws1 := [(q 0, .inr (2, [.ref (q 1), .ref (q 3), .ref (q 5), .ref (q 6), .ref (q 7), .int (iI (k 0 0))])), (q 1, .inr (1, [.ref (q 2), .int (iI (k 0 2)), .int (iI (k 0 3)), .int (iI (k 0 1))])), (q 2, aI g 10 (k 1)), (q 3, .inr (0, [.ref (q 4), .int (iI (k 0 9)), .int (iI (k 0 6)), .int (iI (k 0 4)), .int (iI (k 0 5)), .long (lI (k 0 7)), .long (lI (k 0 8))])), (q 4, aI g 48 (k 2)), (q 5, aI g 4 (k 3)), (q 6, aI g 4 (k 4)), (q 7, aI g 4 (k 5))]) rfl rfl rfl ?_
  refine j_isub C dX2_moveOne_36 ?_
  refine j_goto (tgt := 45) C dX2_moveOne_37 (by decide) ?_
  refine j_istore (L1 := [(5, .int (iI (9000 - (k 4 b.toNat)))), (4, .int (iI (strn (k 1) (k 0 2).toNat (k 0 3) b))), (0, .ref (q 0)), (1, .int (iI b)), (2, .int (iI left)), (3, .int (iI 1))]) C dX2_moveOne_45 (by decide) rfl ?_
  refine j_iload_n C 4 dX2_moveOne_47 rfl rfl ?_
  refine j_iload C 1 dX2_moveOne_48 rfl ?_
  refine j_idiv C (by omega) (by omega) dX2_moveOne_50 ?_
  have hd9 := div_rng (b := strn (k 1) (k 0 2).toNat (k 0 3) b) hleft.1 c19
  refine j_iload C 0 dX2_moveOne_51 rfl ?_
  refine j_mmin C (by omega) (by omega) qw422 qw_min1 qw_min2 qw_min3 (by decide) (Nat.le_of_ble_eq_true rfl) (by decide) dX2_moveOne_53 ?_
  refine J.to (L1 := [(5, .int (iI (9000 - (k 4 b.toNat)))), (4, .int (iI (strn (k 1) (k 0 2).toNat (k 0 3) b))), (0, .ref (q 0)), (1, .int (iI b)), (2, .int (iI left)), (3, .int (iI 1))]) (S1 := [.int (iI (mwy k b left true))]) (ws1 := [(q 0, .inr (2, [.ref (q 1), .ref (q 3), .ref (q 5), .ref (q 6), .ref (q 7), .int (iI (k 0 0))])), (q 1, .inr (1, [.ref (q 2), .int (iI (k 0 2)), .int (iI (k 0 3)), .int (iI (k 0 1))])), (q 2, aI g 10 (k 1)), (q 3, .inr (0, [.ref (q 4), .int (iI (k 0 9)), .int (iI (k 0 6)), .int (iI (k 0 4)), .int (iI (k 0 5)), .long (lI (k 0 7)), .long (lI (k 0 8))])), (q 4, aI g 48 (k 2)), (q 5, aI g 4 (k 3)), (q 6, aI g 4 (k 4)), (q 7, aI g 4 (k 5))]) rfl rfl (by rw [show ((if 9000 - (k 4 b.toNat) < left / (strn (k 1) (k 0 2).toNat (k 0 3) b) then 9000 - (k 4 b.toNat) else left / (strn (k 1) (k 0 2).toNat (k 0 3) b) : Int)) = mwy k b left true from (by unfold mwy; exact (if_pos ⟨⟨by omega, by omega⟩, c19⟩).symm)]) ?_
  refine j_istore (L1 := [(6, .int (iI (mwy k b left true))), (5, .int (iI (9000 - (k 4 b.toNat)))), (4, .int (iI (strn (k 1) (k 0 2).toNat (k 0 3) b))), (0, .ref (q 0)), (1, .int (iI b)), (2, .int (iI left)), (3, .int (iI 1))]) C dX2_moveOne_56 (by decide) rfl ?_
  refine j_iload C 0 dX2_moveOne_58 rfl ?_
  refine j_if_gt (tgt := 65) C (by omega) dX2_moveOne_60 (by decide) (fun c60 => ?_) (fun c60 => absurd c60 (by omega))
  refine j_iload_n C 6 dX2_moveOne_65 rfl rfl ?_
  refine j_if_eq (tgt := 74) C (by decide) dX2_moveOne_66 (by decide) (fun c66 => absurd c66 (by decide)) (fun c66 => ?_)
  refine j_iload C 0 dX2_moveOne_69 rfl ?_
  refine j_goto (tgt := 77) C dX2_moveOne_71 (by decide) ?_
  refine j_istore (L1 := [(7, .int (iI (mwy k b left true))), (6, .int (iI (mwy k b left true))), (5, .int (iI (9000 - (k 4 b.toNat)))), (4, .int (iI (strn (k 1) (k 0 2).toNat (k 0 3) b))), (0, .ref (q 0)), (1, .int (iI b)), (2, .int (iI left)), (3, .int (iI 1))]) C dX2_moveOne_77 (by decide) rfl ?_
  refine j_aload_n C 4 dX2_moveOne_79 rfl rfl ?_
  refine j_get C ck2 0 3 (by decide) qw94 rfl rfl dX2_moveOne_80 ?_
  refine j_iload_n C 5 dX2_moveOne_83 rfl rfl ?_
  refine j_aload_n C 4 dX2_moveOne_84 rfl rfl ?_
  refine j_iload_n C 5 dX2_moveOne_85 rfl rfl ?_
  refine j_callV (As := [.int (iI b)]) (rest := [.int (iI b), .ref (q 6)]) C yv_X2_heightOf qw343 (c_X2_heightOf l g q k b hk (by omega)) (by decide) 0 rfl rfl rfl dX2_moveOne_86 rfl (Nat.le_of_ble_eq_true rfl) (by decide) pf0 rfl (fun r9 w9 hq9 => ?_)
  obtain ⟨rfl, rfl⟩ := hq9
  refine J.to (L1 := [(7, .int (iI (mwy k b left true))), (6, .int (iI (mwy k b left true))), (5, .int (iI (9000 - (k 4 b.toNat)))), (4, .int (iI (strn (k 1) (k 0 2).toNat (k 0 3) b))), (0, .ref (q 0)), (1, .int (iI b)), (2, .int (iI left)), (3, .int (iI 1))]) (S1 := [.int (iI (k 4 b.toNat)), .int (iI b), .ref (q 6)]) (ws1 := [(q 0, .inr (2, [.ref (q 1), .ref (q 3), .ref (q 5), .ref (q 6), .ref (q 7), .int (iI (k 0 0))])), (q 1, .inr (1, [.ref (q 2), .int (iI (k 0 2)), .int (iI (k 0 3)), .int (iI (k 0 1))])), (q 2, aI g 10 (k 1)), (q 3, .inr (0, [.ref (q 4), .int (iI (k 0 9)), .int (iI (k 0 6)), .int (iI (k 0 4)), .int (iI (k 0 5)), .long (lI (k 0 7)), .long (lI (k 0 8))])), (q 4, aI g 48 (k 2)), (q 5, aI g 4 (k 3)), (q 6, aI g 4 (k 4)), (q 7, aI g 4 (k 5))]) rfl rfl rfl ?_
  refine j_iload C 0 dX2_moveOne_89 rfl ?_
  refine j_iadd C dX2_moveOne_91 ?_
  refine j_callSN (As := [.ref (q 6), .int (iI b), .int (iI ((k 4 b.toNat) + (mwy k b left true)))]) (rest := []) C ys_X4_put qn302 (c_X4_put l g (q 6) 4 (k 4) b b.toNat ((k 4 b.toNat) + (mwy k b left true)) (by omega) (by omega) (by decide)) (by decide) rfl dX2_moveOne_92 rfl (Nat.le_of_ble_eq_true rfl) (by decide) (pf1 [(q 0, .inr (2, [.ref (q 1), .ref (q 3), .ref (q 5), .ref (q 6), .ref (q 7), .int (iI (k 0 0))])), (q 1, .inr (1, [.ref (q 2), .int (iI (k 0 2)), .int (iI (k 0 3)), .int (iI (k 0 1))])), (q 2, aI g 10 (k 1)), (q 3, .inr (0, [.ref (q 4), .int (iI (k 0 9)), .int (iI (k 0 6)), .int (iI (k 0 4)), .int (iI (k 0 5)), .long (lI (k 0 7)), .long (lI (k 0 8))])), (q 4, aI g 48 (k 2)), (q 5, aI g 4 (k 3))] [(q 7, aI g 4 (k 5))]) rfl (fun r9 w9 hq9 => ?_)
  obtain ⟨rfl, rfl⟩ := hq9
  refine J.to (L1 := [(7, .int (iI (mwy k b left true))), (6, .int (iI (mwy k b left true))), (5, .int (iI (9000 - (k 4 b.toNat)))), (4, .int (iI (strn (k 1) (k 0 2).toNat (k 0 3) b))), (0, .ref (q 0)), (1, .int (iI b)), (2, .int (iI left)), (3, .int (iI 1))]) (S1 := []) (ws1 := [(q 0, .inr (2, [.ref (q 1), .ref (q 3), .ref (q 5), .ref (q 6), .ref (q 7), .int (iI (k 0 0))])), (q 1, .inr (1, [.ref (q 2), .int (iI (k 0 2)), .int (iI (k 0 3)), .int (iI (k 0 1))])), (q 2, aI g 10 (k 1)), (q 3, .inr (0, [.ref (q 4), .int (iI (k 0 9)), .int (iI (k 0 6)), .int (iI (k 0 4)), .int (iI (k 0 5)), .long (lI (k 0 7)), .long (lI (k 0 8))])), (q 4, aI g 48 (k 2)), (q 5, aI g 4 (k 3)), (q 6, aI g 4 (va_up (k 4) b.toNat ((k 4 b.toNat) + (mwy k b left true)))), (q 7, aI g 4 (k 5))]) rfl rfl rfl ?_
  refine j_aload_n C 4 dX2_moveOne_95 rfl rfl ?_
  refine j_get C ck2 0 1 (by decide) qw91 rfl rfl dX2_moveOne_96 ?_
  refine j_iload_n C 5 dX2_moveOne_99 rfl rfl ?_
  refine j_iload C 0 dX2_moveOne_100 rfl ?_
  refine j_iload C 0 dX2_moveOne_102 rfl ?_
  refine j_iload C 3 dX2_moveOne_104 rfl ?_
  refine j_imul C dX2_moveOne_106 ?_
  refine j_callV (As := [.int (iI b), .int (iI (mwy k b left true)), .int (iI ((mwy k b left true) * (strn (k 1) (k 0 2).toNat (k 0 3) b)))]) (rest := []) C yv_X0_note qw423 (c_X0_note_up l g (q 3) (q 4) (k 2) (k 0 9) (k 0 6) (k 0 4) (k 0 5) (k 0 7) (k 0 8) b (mwy k b left true) ((mwy k b left true) * (strn (k 1) (k 0 2).toNat (k 0 3) b)) (by omega) (by omega) (by omega)) (by decide) 3 rfl rfl rfl dX2_moveOne_107 rfl (Nat.le_of_ble_eq_true rfl) (by decide) (pf1 [(q 0, .inr (2, [.ref (q 1), .ref (q 3), .ref (q 5), .ref (q 6), .ref (q 7), .int (iI (k 0 0))])), (q 1, .inr (1, [.ref (q 2), .int (iI (k 0 2)), .int (iI (k 0 3)), .int (iI (k 0 1))])), (q 2, aI g 10 (k 1))] [(q 5, aI g 4 (k 3)), (q 6, aI g 4 (va_up (k 4) b.toNat ((k 4 b.toNat) + (mwy k b left true)))), (q 7, aI g 4 (k 5))]) rfl (fun r9 w9 hq9 => ?_)
  obtain ⟨rfl, rfl⟩ := hq9
  refine J.to (L1 := [(7, .int (iI (mwy k b left true))), (6, .int (iI (mwy k b left true))), (5, .int (iI (9000 - (k 4 b.toNat)))), (4, .int (iI (strn (k 1) (k 0 2).toNat (k 0 3) b))), (0, .ref (q 0)), (1, .int (iI b)), (2, .int (iI left)), (3, .int (iI 1))]) (S1 := []) (ws1 := [(q 0, .inr (2, [.ref (q 1), .ref (q 3), .ref (q 5), .ref (q 6), .ref (q 7), .int (iI (k 0 0))])), (q 1, .inr (1, [.ref (q 2), .int (iI (k 0 2)), .int (iI (k 0 3)), .int (iI (k 0 1))])), (q 2, aI g 10 (k 1)), (q 3, .inr (0, [.ref (q 4), .int (iI ((k 0 9 + 1) % 16)), .int (iI (if 16 < k 0 6 + 1 then 16 else k 0 6 + 1)), .int (iI (k 0 4 + 1)), .int (iI (k 0 5)), .long (lI (k 0 7)), .long (lI (k 0 8))])), (q 4, aI g 48 (va_up (va_up (va_up (k 2) (((k 0 9) + 1) % 16 * 3).toNat b) (((k 0 9) + 1) % 16 * 3 + 1).toNat (mwy k b left true)) (((k 0 9) + 1) % 16 * 3 + 2).toNat ((mwy k b left true) * (strn (k 1) (k 0 2).toNat (k 0 3) b)))), (q 5, aI g 4 (k 3)), (q 6, aI g 4 (va_up (k 4) b.toNat ((k 4 b.toNat) + (mwy k b left true)))), (q 7, aI g 4 (k 5))]) rfl rfl rfl ?_
  refine j_iload_n C 7 dX2_moveOne_110 rfl rfl ?_
  refine j_if_eq (tgt := 136) C (by decide) dX2_moveOne_111 (by decide) (fun c111 => absurd c111 (by decide)) (fun c111 => ?_)
  refine j_aload_n C 4 dX2_moveOne_114 rfl rfl ?_
  refine j_get C ck2 0 1 (by decide) qw91 rfl rfl dX2_moveOne_115 ?_
  refine j_dup C dX2_moveOne_118 rfl ?_
  refine j_getN C ck0 3 6 (by decide) qn71 rfl rfl dX2_moveOne_119 ?_
  refine j_aload_n C 4 dX2_moveOne_122 rfl rfl ?_
  refine j_iload_n C 5 dX2_moveOne_123 rfl rfl ?_
  refine j_callV (As := [.int (iI b)]) (rest := [.long (lI (k 0 8)), .ref (q 3)]) C yv_X2_weightOf qw389 (c_X2_weightOf l g q (mvk1 k b (mwy k b left true)) b (SOK_mvk1 hk hyes) (by omega)) (by decide) 0 rfl rfl rfl dX2_moveOne_124 rfl (Nat.le_of_ble_eq_true rfl) (by decide) pf0 rfl (fun r9 w9 hq9 => ?_)
  obtain ⟨rfl, rfl⟩ := hq9
  refine J.to (L1 := [(7, .int (iI (mwy k b left true))), (6, .int (iI (mwy k b left true))), (5, .int (iI (9000 - (k 4 b.toNat)))), (4, .int (iI (strn (k 1) (k 0 2).toNat (k 0 3) b))), (0, .ref (q 0)), (1, .int (iI b)), (2, .int (iI left)), (3, .int (iI 1))]) (S1 := [.int (iI (k 3 b.toNat)), .long (lI (k 0 8)), .ref (q 3)]) (ws1 := [(q 0, .inr (2, [.ref (q 1), .ref (q 3), .ref (q 5), .ref (q 6), .ref (q 7), .int (iI (k 0 0))])), (q 1, .inr (1, [.ref (q 2), .int (iI (k 0 2)), .int (iI (k 0 3)), .int (iI (k 0 1))])), (q 2, aI g 10 (k 1)), (q 3, .inr (0, [.ref (q 4), .int (iI ((k 0 9 + 1) % 16)), .int (iI (if 16 < k 0 6 + 1 then 16 else k 0 6 + 1)), .int (iI (k 0 4 + 1)), .int (iI (k 0 5)), .long (lI (k 0 7)), .long (lI (k 0 8))])), (q 4, aI g 48 (va_up (va_up (va_up (k 2) (((k 0 9) + 1) % 16 * 3).toNat b) (((k 0 9) + 1) % 16 * 3 + 1).toNat (mwy k b left true)) (((k 0 9) + 1) % 16 * 3 + 2).toNat ((mwy k b left true) * (strn (k 1) (k 0 2).toNat (k 0 3) b)))), (q 5, aI g 4 (k 3)), (q 6, aI g 4 (va_up (k 4) b.toNat ((k 4 b.toNat) + (mwy k b left true)))), (q 7, aI g 4 (k 5))]) rfl rfl rfl ?_
  refine j_i2l C (by omega) dX2_moveOne_127 ?_
  refine j_iload C 1 dX2_moveOne_128 rfl ?_
  refine j_i2l C (by omega) dX2_moveOne_130 ?_
  refine j_lmul C dX2_moveOne_131 ?_
  refine j_ladd C dX2_moveOne_132 ?_
  refine j_putN (ws1 := [(q 0, .inr (2, [.ref (q 1), .ref (q 3), .ref (q 5), .ref (q 6), .ref (q 7), .int (iI (k 0 0))])), (q 1, .inr (1, [.ref (q 2), .int (iI (k 0 2)), .int (iI (k 0 3)), .int (iI (k 0 1))])), (q 2, aI g 10 (k 1)), (q 3, .inr (0, [.ref (q 4), .int (iI ((k 0 9 + 1) % 16)), .int (iI (if 16 < k 0 6 + 1 then 16 else k 0 6 + 1)), .int (iI (k 0 4 + 1)), .int (iI (k 0 5)), .long (lI (k 0 7)), .long (lI ((k 0 8) + ((k 3 b.toNat) * (mwy k b left true))))])), (q 4, aI g 48 (va_up (va_up (va_up (k 2) (((k 0 9) + 1) % 16 * 3).toNat b) (((k 0 9) + 1) % 16 * 3 + 1).toNat (mwy k b left true)) (((k 0 9) + 1) % 16 * 3 + 2).toNat ((mwy k b left true) * (strn (k 1) (k 0 2).toNat (k 0 3) b)))), (q 5, aI g 4 (k 3)), (q 6, aI g 4 (va_up (k 4) b.toNat ((k 4 b.toNat) + (mwy k b left true)))), (q 7, aI g 4 (k 5))]) C ck0 3 6 (by decide) qn71 rfl dX2_moveOne_133 rfl rfl rfl rfl (Nat.le_of_ble_eq_true rfl) ?_
  refine j_iload C 1 dX2_moveOne_136 rfl ?_
  refine j_iload C 3 dX2_moveOne_138 rfl ?_
  refine j_imul C dX2_moveOne_140 ?_
  exact j_iret C hr hlk dX2_moveOne_141 ⟨rfl, rfl⟩ (by decide) (by decide)

theorem c_X2_moveOne_n1dn (l : Launch) (g : Gh) (q : Nat → Nat) (k : Nat → Nat → Int) (b left : Int) (hk : SOK k) (hb1 : b = -1) : CT l g yX2_moveOne cX2_moveOne 8 (some FieldType.int) ({ frames := 2, cells := 0, slots := 0, locals := 45 }) [.ref (q 0), .int (iI b), .int (iI left), .int (iI 0)] [(q 0, .inr (2, [.ref (q 1), .ref (q 3), .ref (q 5), .ref (q 6), .ref (q 7), .int (iI (k 0 0))])), (q 1, .inr (1, [.ref (q 2), .int (iI (k 0 2)), .int (iI (k 0 3)), .int (iI (k 0 1))])), (q 2, aI g 10 (k 1)), (q 3, .inr (0, [.ref (q 4), .int (iI (k 0 9)), .int (iI (k 0 6)), .int (iI (k 0 4)), .int (iI (k 0 5)), .long (lI (k 0 7)), .long (lI (k 0 8))])), (q 4, aI g 48 (k 2)), (q 5, aI g 4 (k 3)), (q 6, aI g 4 (k 4)), (q 7, aI g 4 (k 5))] (PE (some (.int (iI 0))) (wSt g q k)) := by
  refine CT.intro (L0 := [(0, .ref (q 0)), (1, .int (iI b)), (2, .int (iI left)), (3, .int (iI 0))]) (own := RX2) (by decide) rfl (Nat.le_of_ble_eq_true rfl) rfl ?_
  intro pX eX sX mX argsX belowX methX cX A C hr hlk
  obtain ⟨hP, hE0, hF, hrow0, hwt, hht, hlen, hlat, hkept⟩ := id hk
  have hE : -10 ≤ k 0 3 ∧ k 0 3 ≤ 10 := by omega
  have hrow : ∀ i : Nat, (i : Int) < k 0 2 → 0 ≤ k 1 i ∧ k 1 i ≤ 4 := fun i hi => by have := hrow0 i hi; omega
  refine j_aload_n C 0 dX2_moveOne_0 rfl rfl ?_
  refine j_get C ck2 0 0 (by decide) qw88 rfl rfl dX2_moveOne_1 ?_
  refine j_iload_n C 1 dX2_moveOne_4 rfl rfl ?_
  refine j_callV (As := [.int (iI b)]) (rest := []) C yv_X1_strandsOf qw335 (c_X1_strandsOf l g (q 1) (q 2) (k 1) (k 0 2) (k 0 3) (k 0 1) b hP hE (by omega) hrow) (by decide) 1 rfl rfl rfl dX2_moveOne_5 rfl (Nat.le_of_ble_eq_true rfl) (by decide) (pf1 [(q 0, .inr (2, [.ref (q 1), .ref (q 3), .ref (q 5), .ref (q 6), .ref (q 7), .int (iI (k 0 0))]))] [(q 3, .inr (0, [.ref (q 4), .int (iI (k 0 9)), .int (iI (k 0 6)), .int (iI (k 0 4)), .int (iI (k 0 5)), .long (lI (k 0 7)), .long (lI (k 0 8))])), (q 4, aI g 48 (k 2)), (q 5, aI g 4 (k 3)), (q 6, aI g 4 (k 4)), (q 7, aI g 4 (k 5))]) rfl (fun r9 w9 hq9 => ?_)
  obtain ⟨rfl, rfl⟩ := hq9
  refine J.to (L1 := [(0, .ref (q 0)), (1, .int (iI b)), (2, .int (iI left)), (3, .int (iI 0))]) (S1 := [.int (iI (strn (k 1) (k 0 2).toNat (k 0 3) b))]) (ws1 := [(q 0, .inr (2, [.ref (q 1), .ref (q 3), .ref (q 5), .ref (q 6), .ref (q 7), .int (iI (k 0 0))])), (q 1, .inr (1, [.ref (q 2), .int (iI (k 0 2)), .int (iI (k 0 3)), .int (iI (k 0 1))])), (q 2, aI g 10 (k 1)), (q 3, .inr (0, [.ref (q 4), .int (iI (k 0 9)), .int (iI (k 0 6)), .int (iI (k 0 4)), .int (iI (k 0 5)), .long (lI (k 0 7)), .long (lI (k 0 8))])), (q 4, aI g 48 (k 2)), (q 5, aI g 4 (k 3)), (q 6, aI g 4 (k 4)), (q 7, aI g 4 (k 5))]) rfl rfl rfl ?_
  refine j_istore (L1 := [(4, .int (iI (strn (k 1) (k 0 2).toNat (k 0 3) b))), (0, .ref (q 0)), (1, .int (iI b)), (2, .int (iI left)), (3, .int (iI 0))]) C dX2_moveOne_8 (by decide) rfl ?_
  refine j_iload_n C 2 dX2_moveOne_10 rfl rfl ?_
  refine j_callSN (As := [.int (iI b)]) (rest := []) C ys_X4_isBlock qn421 (c_X4_isBlock_f l g b (by omega) (by omega)) (by decide) rfl dX2_moveOne_11 rfl (Nat.le_of_ble_eq_true rfl) (by decide) (pf1 [] [(q 0, .inr (2, [.ref (q 1), .ref (q 3), .ref (q 5), .ref (q 6), .ref (q 7), .int (iI (k 0 0))])), (q 1, .inr (1, [.ref (q 2), .int (iI (k 0 2)), .int (iI (k 0 3)), .int (iI (k 0 1))])), (q 2, aI g 10 (k 1)), (q 3, .inr (0, [.ref (q 4), .int (iI (k 0 9)), .int (iI (k 0 6)), .int (iI (k 0 4)), .int (iI (k 0 5)), .long (lI (k 0 7)), .long (lI (k 0 8))])), (q 4, aI g 48 (k 2)), (q 5, aI g 4 (k 3)), (q 6, aI g 4 (k 4)), (q 7, aI g 4 (k 5))]) rfl (fun r9 w9 hq9 => ?_)
  obtain ⟨rfl, rfl⟩ := hq9
  refine J.to (L1 := [(4, .int (iI (strn (k 1) (k 0 2).toNat (k 0 3) b))), (0, .ref (q 0)), (1, .int (iI b)), (2, .int (iI left)), (3, .int (iI 0))]) (S1 := [.int (iI 0)]) (ws1 := [(q 0, .inr (2, [.ref (q 1), .ref (q 3), .ref (q 5), .ref (q 6), .ref (q 7), .int (iI (k 0 0))])), (q 1, .inr (1, [.ref (q 2), .int (iI (k 0 2)), .int (iI (k 0 3)), .int (iI (k 0 1))])), (q 2, aI g 10 (k 1)), (q 3, .inr (0, [.ref (q 4), .int (iI (k 0 9)), .int (iI (k 0 6)), .int (iI (k 0 4)), .int (iI (k 0 5)), .long (lI (k 0 7)), .long (lI (k 0 8))])), (q 4, aI g 48 (k 2)), (q 5, aI g 4 (k 3)), (q 6, aI g 4 (k 4)), (q 7, aI g 4 (k 5))]) rfl rfl rfl ?_
  refine j_if_eq (tgt := 22) C (by decide) dX2_moveOne_14 (by decide) (fun c14 => ?_) (fun c14 => absurd c14 (by decide))
  refine j_iconst C dX2_moveOne_22 ?_
  exact j_iret C hr hlk dX2_moveOne_23 ⟨rfl, rfl⟩ (by decide) (by decide)

theorem c_X2_moveOne_n2dn (l : Launch) (g : Gh) (q : Nat → Nat) (k : Nat → Nat → Int) (b left : Int) (hk : SOK k) (hb3 : 0 ≤ b ∧ b ≤ 3) (hleft : 0 ≤ left ∧ left ≤ 300000) (hno : mwy k b left false ≤ 0) : CT l g yX2_moveOne cX2_moveOne 8 (some FieldType.int) ({ frames := 2, cells := 0, slots := 0, locals := 45 }) [.ref (q 0), .int (iI b), .int (iI left), .int (iI 0)] [(q 0, .inr (2, [.ref (q 1), .ref (q 3), .ref (q 5), .ref (q 6), .ref (q 7), .int (iI (k 0 0))])), (q 1, .inr (1, [.ref (q 2), .int (iI (k 0 2)), .int (iI (k 0 3)), .int (iI (k 0 1))])), (q 2, aI g 10 (k 1)), (q 3, .inr (0, [.ref (q 4), .int (iI (k 0 9)), .int (iI (k 0 6)), .int (iI (k 0 4)), .int (iI (k 0 5)), .long (lI (k 0 7)), .long (lI (k 0 8))])), (q 4, aI g 48 (k 2)), (q 5, aI g 4 (k 3)), (q 6, aI g 4 (k 4)), (q 7, aI g 4 (k 5))] (PE (some (.int (iI 0))) (wSt g q k)) := by
  refine CT.intro (L0 := [(0, .ref (q 0)), (1, .int (iI b)), (2, .int (iI left)), (3, .int (iI 0))]) (own := RX2) (by decide) rfl (Nat.le_of_ble_eq_true rfl) rfl ?_
  intro pX eX sX mX argsX belowX methX cX A C hr hlk
  obtain ⟨hP, hE0, hF, hrow0, hwt, hht, hlen, hlat, hkept⟩ := id hk
  have hE : -10 ≤ k 0 3 ∧ k 0 3 ≤ 10 := by omega
  have hrow : ∀ i : Nat, (i : Int) < k 0 2 → 0 ≤ k 1 i ∧ k 1 i ≤ 4 := fun i hi => by have := hrow0 i hi; omega
  have hb4 := hht b.toNat (by omega)
  have hy9 := mwy_rng hk (b := b) (up := false) hleft.1
  have hs9 := strn_rng (k 1) (k 0 2).toNat (k 0 3) b
  have hw5 := hwt b.toNat (by omega)
  refine j_aload_n C 0 dX2_moveOne_0 rfl rfl ?_
  refine j_get C ck2 0 0 (by decide) qw88 rfl rfl dX2_moveOne_1 ?_
  refine j_iload_n C 1 dX2_moveOne_4 rfl rfl ?_
  refine j_callV (As := [.int (iI b)]) (rest := []) C yv_X1_strandsOf qw335 (c_X1_strandsOf l g (q 1) (q 2) (k 1) (k 0 2) (k 0 3) (k 0 1) b hP hE (by omega) hrow) (by decide) 1 rfl rfl rfl dX2_moveOne_5 rfl (Nat.le_of_ble_eq_true rfl) (by decide) (pf1 [(q 0, .inr (2, [.ref (q 1), .ref (q 3), .ref (q 5), .ref (q 6), .ref (q 7), .int (iI (k 0 0))]))] [(q 3, .inr (0, [.ref (q 4), .int (iI (k 0 9)), .int (iI (k 0 6)), .int (iI (k 0 4)), .int (iI (k 0 5)), .long (lI (k 0 7)), .long (lI (k 0 8))])), (q 4, aI g 48 (k 2)), (q 5, aI g 4 (k 3)), (q 6, aI g 4 (k 4)), (q 7, aI g 4 (k 5))]) rfl (fun r9 w9 hq9 => ?_)
  obtain ⟨rfl, rfl⟩ := hq9
  refine J.to (L1 := [(0, .ref (q 0)), (1, .int (iI b)), (2, .int (iI left)), (3, .int (iI 0))]) (S1 := [.int (iI (strn (k 1) (k 0 2).toNat (k 0 3) b))]) (ws1 := [(q 0, .inr (2, [.ref (q 1), .ref (q 3), .ref (q 5), .ref (q 6), .ref (q 7), .int (iI (k 0 0))])), (q 1, .inr (1, [.ref (q 2), .int (iI (k 0 2)), .int (iI (k 0 3)), .int (iI (k 0 1))])), (q 2, aI g 10 (k 1)), (q 3, .inr (0, [.ref (q 4), .int (iI (k 0 9)), .int (iI (k 0 6)), .int (iI (k 0 4)), .int (iI (k 0 5)), .long (lI (k 0 7)), .long (lI (k 0 8))])), (q 4, aI g 48 (k 2)), (q 5, aI g 4 (k 3)), (q 6, aI g 4 (k 4)), (q 7, aI g 4 (k 5))]) rfl rfl rfl ?_
  refine j_istore (L1 := [(4, .int (iI (strn (k 1) (k 0 2).toNat (k 0 3) b))), (0, .ref (q 0)), (1, .int (iI b)), (2, .int (iI left)), (3, .int (iI 0))]) C dX2_moveOne_8 (by decide) rfl ?_
  refine j_iload_n C 2 dX2_moveOne_10 rfl rfl ?_
  refine j_callSN (As := [.int (iI b)]) (rest := []) C ys_X4_isBlock qn421 (c_X4_isBlock_t l g b (by omega)) (by decide) rfl dX2_moveOne_11 rfl (Nat.le_of_ble_eq_true rfl) (by decide) (pf1 [] [(q 0, .inr (2, [.ref (q 1), .ref (q 3), .ref (q 5), .ref (q 6), .ref (q 7), .int (iI (k 0 0))])), (q 1, .inr (1, [.ref (q 2), .int (iI (k 0 2)), .int (iI (k 0 3)), .int (iI (k 0 1))])), (q 2, aI g 10 (k 1)), (q 3, .inr (0, [.ref (q 4), .int (iI (k 0 9)), .int (iI (k 0 6)), .int (iI (k 0 4)), .int (iI (k 0 5)), .long (lI (k 0 7)), .long (lI (k 0 8))])), (q 4, aI g 48 (k 2)), (q 5, aI g 4 (k 3)), (q 6, aI g 4 (k 4)), (q 7, aI g 4 (k 5))]) rfl (fun r9 w9 hq9 => ?_)
  obtain ⟨rfl, rfl⟩ := hq9
  refine J.to (L1 := [(4, .int (iI (strn (k 1) (k 0 2).toNat (k 0 3) b))), (0, .ref (q 0)), (1, .int (iI b)), (2, .int (iI left)), (3, .int (iI 0))]) (S1 := [.int (iI 1)]) (ws1 := [(q 0, .inr (2, [.ref (q 1), .ref (q 3), .ref (q 5), .ref (q 6), .ref (q 7), .int (iI (k 0 0))])), (q 1, .inr (1, [.ref (q 2), .int (iI (k 0 2)), .int (iI (k 0 3)), .int (iI (k 0 1))])), (q 2, aI g 10 (k 1)), (q 3, .inr (0, [.ref (q 4), .int (iI (k 0 9)), .int (iI (k 0 6)), .int (iI (k 0 4)), .int (iI (k 0 5)), .long (lI (k 0 7)), .long (lI (k 0 8))])), (q 4, aI g 48 (k 2)), (q 5, aI g 4 (k 3)), (q 6, aI g 4 (k 4)), (q 7, aI g 4 (k 5))]) rfl rfl rfl ?_
  refine j_if_eq (tgt := 22) C (by decide) dX2_moveOne_14 (by decide) (fun c14 => absurd c14 (by decide)) (fun c14 => ?_)
  refine j_iload C 0 dX2_moveOne_17 rfl ?_
  refine j_if_gt (tgt := 24) C (by omega) dX2_moveOne_19 (by decide) (fun c19 => ?_) (fun c19 => ?_)
  · refine j_iload_n C 4 dX2_moveOne_24 rfl rfl ?_
    refine j_if_eq (tgt := 40) C (by decide) dX2_moveOne_25 (by decide) (fun c25 => ?_) (fun c25 => absurd c25 (by decide))
    refine j_aload_n C 1 dX2_moveOne_40 rfl rfl ?_
    refine j_iload_n C 2 dX2_moveOne_41 rfl rfl ?_
    refine j_callV (As := [.int (iI b)]) (rest := []) C yv_X2_heightOf qw343 (c_X2_heightOf l g q k b hk (by omega)) (by decide) 0 rfl rfl rfl dX2_moveOne_42 rfl (Nat.le_of_ble_eq_true rfl) (by decide) pf0 rfl (fun r9 w9 hq9 => ?_)
    obtain ⟨rfl, rfl⟩ := hq9
    refine J.to (L1 := [(4, .int (iI (strn (k 1) (k 0 2).toNat (k 0 3) b))), (0, .ref (q 0)), (1, .int (iI b)), (2, .int (iI left)), (3, .int (iI 0))]) (S1 := [.int (iI (k 4 b.toNat))]) (ws1 := [(q 0, .inr (2, [.ref (q 1), .ref (q 3), .ref (q 5), .ref (q 6), .ref (q 7), .int (iI (k 0 0))])), (q 1, .inr (1, [.ref (q 2), .int (iI (k 0 2)), .int (iI (k 0 3)), .int (iI (k 0 1))])), (q 2, aI g 10 (k 1)), (q 3, .inr (0, [.ref (q 4), .int (iI (k 0 9)), .int (iI (k 0 6)), .int (iI (k 0 4)), .int (iI (k 0 5)), .long (lI (k 0 7)), .long (lI (k 0 8))])), (q 4, aI g 48 (k 2)), (q 5, aI g 4 (k 3)), (q 6, aI g 4 (k 4)), (q 7, aI g 4 (k 5))]) rfl rfl rfl ?_
    refine j_istore (L1 := [(5, .int (iI (k 4 b.toNat))), (4, .int (iI (strn (k 1) (k 0 2).toNat (k 0 3) b))), (0, .ref (q 0)), (1, .int (iI b)), (2, .int (iI left)), (3, .int (iI 0))]) C dX2_moveOne_45 (by decide) rfl ?_
    refine j_iload_n C 4 dX2_moveOne_47 rfl rfl ?_
    refine j_iload C 1 dX2_moveOne_48 rfl ?_
    refine j_idiv C (by omega) (by omega) dX2_moveOne_50 ?_
    have hd9 := div_rng (b := strn (k 1) (k 0 2).toNat (k 0 3) b) hleft.1 c19
    refine j_iload C 0 dX2_moveOne_51 rfl ?_
    refine j_mmin C (by omega) (by omega) qw422 qw_min1 qw_min2 qw_min3 (by decide) (Nat.le_of_ble_eq_true rfl) (by decide) dX2_moveOne_53 ?_
    refine J.to (L1 := [(5, .int (iI (k 4 b.toNat))), (4, .int (iI (strn (k 1) (k 0 2).toNat (k 0 3) b))), (0, .ref (q 0)), (1, .int (iI b)), (2, .int (iI left)), (3, .int (iI 0))]) (S1 := [.int (iI (mwy k b left false))]) (ws1 := [(q 0, .inr (2, [.ref (q 1), .ref (q 3), .ref (q 5), .ref (q 6), .ref (q 7), .int (iI (k 0 0))])), (q 1, .inr (1, [.ref (q 2), .int (iI (k 0 2)), .int (iI (k 0 3)), .int (iI (k 0 1))])), (q 2, aI g 10 (k 1)), (q 3, .inr (0, [.ref (q 4), .int (iI (k 0 9)), .int (iI (k 0 6)), .int (iI (k 0 4)), .int (iI (k 0 5)), .long (lI (k 0 7)), .long (lI (k 0 8))])), (q 4, aI g 48 (k 2)), (q 5, aI g 4 (k 3)), (q 6, aI g 4 (k 4)), (q 7, aI g 4 (k 5))]) rfl rfl (by rw [show ((if k 4 b.toNat < left / (strn (k 1) (k 0 2).toNat (k 0 3) b) then k 4 b.toNat else left / (strn (k 1) (k 0 2).toNat (k 0 3) b) : Int)) = mwy k b left false from (by unfold mwy; exact (if_pos ⟨⟨by omega, by omega⟩, c19⟩).symm)]) ?_
    refine j_istore (L1 := [(6, .int (iI (mwy k b left false))), (5, .int (iI (k 4 b.toNat))), (4, .int (iI (strn (k 1) (k 0 2).toNat (k 0 3) b))), (0, .ref (q 0)), (1, .int (iI b)), (2, .int (iI left)), (3, .int (iI 0))]) C dX2_moveOne_56 (by decide) rfl ?_
    refine j_iload C 0 dX2_moveOne_58 rfl ?_
    refine j_if_gt (tgt := 65) C (by omega) dX2_moveOne_60 (by decide) (fun c60 => absurd c60 (by omega)) (fun c60 => ?_)
    refine j_iconst C dX2_moveOne_63 ?_
    exact j_iret C hr hlk dX2_moveOne_64 ⟨rfl, rfl⟩ (by decide) (by decide)
  · refine j_iconst C dX2_moveOne_22 ?_
    exact j_iret C hr hlk dX2_moveOne_23 ⟨rfl, rfl⟩ (by decide) (by decide)

theorem c_X2_moveOne_dn (l : Launch) (g : Gh) (q : Nat → Nat) (k : Nat → Nat → Int) (b left : Int) (hk : SOK k) (hb3 : 0 ≤ b ∧ b ≤ 3) (hleft : 0 ≤ left ∧ left ≤ 300000) (hyes : 0 < mwy k b left false) : CT l g yX2_moveOne cX2_moveOne 8 (some FieldType.int) ({ frames := 2, cells := 0, slots := 0, locals := 45 }) [.ref (q 0), .int (iI b), .int (iI left), .int (iI 0)] [(q 0, .inr (2, [.ref (q 1), .ref (q 3), .ref (q 5), .ref (q 6), .ref (q 7), .int (iI (k 0 0))])), (q 1, .inr (1, [.ref (q 2), .int (iI (k 0 2)), .int (iI (k 0 3)), .int (iI (k 0 1))])), (q 2, aI g 10 (k 1)), (q 3, .inr (0, [.ref (q 4), .int (iI (k 0 9)), .int (iI (k 0 6)), .int (iI (k 0 4)), .int (iI (k 0 5)), .long (lI (k 0 7)), .long (lI (k 0 8))])), (q 4, aI g 48 (k 2)), (q 5, aI g 4 (k 3)), (q 6, aI g 4 (k 4)), (q 7, aI g 4 (k 5))] (PE (some (.int (iI (mwy k b left false * mst k b)))) (wSt g q (mvk false k b (mwy k b left false)))) := by
  refine CT.intro (L0 := [(0, .ref (q 0)), (1, .int (iI b)), (2, .int (iI left)), (3, .int (iI 0))]) (own := RX2) (by decide) rfl (Nat.le_of_ble_eq_true rfl) rfl ?_
  intro pX eX sX mX argsX belowX methX cX A C hr hlk
  obtain ⟨hP, hE0, hF, hrow0, hwt, hht, hlen, hlat, hkept⟩ := id hk
  have hE : -10 ≤ k 0 3 ∧ k 0 3 ≤ 10 := by omega
  have hrow : ∀ i : Nat, (i : Int) < k 0 2 → 0 ≤ k 1 i ∧ k 1 i ≤ 4 := fun i hi => by have := hrow0 i hi; omega
  have hb4 := hht b.toNat (by omega)
  have hy9 := mwy_rng hk (b := b) (up := false) hleft.1
  have hs9 := strn_rng (k 1) (k 0 2).toNat (k 0 3) b
  have hw5 := hwt b.toNat (by omega)
  have hs8 : 0 < strn (k 1) (k 0 2).toNat (k 0 3) b := (mwy_pos hyes).2.1
  refine j_aload_n C 0 dX2_moveOne_0 rfl rfl ?_
  refine j_get C ck2 0 0 (by decide) qw88 rfl rfl dX2_moveOne_1 ?_
  refine j_iload_n C 1 dX2_moveOne_4 rfl rfl ?_
  refine j_callV (As := [.int (iI b)]) (rest := []) C yv_X1_strandsOf qw335 (c_X1_strandsOf l g (q 1) (q 2) (k 1) (k 0 2) (k 0 3) (k 0 1) b hP hE (by omega) hrow) (by decide) 1 rfl rfl rfl dX2_moveOne_5 rfl (Nat.le_of_ble_eq_true rfl) (by decide) (pf1 [(q 0, .inr (2, [.ref (q 1), .ref (q 3), .ref (q 5), .ref (q 6), .ref (q 7), .int (iI (k 0 0))]))] [(q 3, .inr (0, [.ref (q 4), .int (iI (k 0 9)), .int (iI (k 0 6)), .int (iI (k 0 4)), .int (iI (k 0 5)), .long (lI (k 0 7)), .long (lI (k 0 8))])), (q 4, aI g 48 (k 2)), (q 5, aI g 4 (k 3)), (q 6, aI g 4 (k 4)), (q 7, aI g 4 (k 5))]) rfl (fun r9 w9 hq9 => ?_)
  obtain ⟨rfl, rfl⟩ := hq9
  refine J.to (L1 := [(0, .ref (q 0)), (1, .int (iI b)), (2, .int (iI left)), (3, .int (iI 0))]) (S1 := [.int (iI (strn (k 1) (k 0 2).toNat (k 0 3) b))]) (ws1 := [(q 0, .inr (2, [.ref (q 1), .ref (q 3), .ref (q 5), .ref (q 6), .ref (q 7), .int (iI (k 0 0))])), (q 1, .inr (1, [.ref (q 2), .int (iI (k 0 2)), .int (iI (k 0 3)), .int (iI (k 0 1))])), (q 2, aI g 10 (k 1)), (q 3, .inr (0, [.ref (q 4), .int (iI (k 0 9)), .int (iI (k 0 6)), .int (iI (k 0 4)), .int (iI (k 0 5)), .long (lI (k 0 7)), .long (lI (k 0 8))])), (q 4, aI g 48 (k 2)), (q 5, aI g 4 (k 3)), (q 6, aI g 4 (k 4)), (q 7, aI g 4 (k 5))]) rfl rfl rfl ?_
  refine j_istore (L1 := [(4, .int (iI (strn (k 1) (k 0 2).toNat (k 0 3) b))), (0, .ref (q 0)), (1, .int (iI b)), (2, .int (iI left)), (3, .int (iI 0))]) C dX2_moveOne_8 (by decide) rfl ?_
  refine j_iload_n C 2 dX2_moveOne_10 rfl rfl ?_
  refine j_callSN (As := [.int (iI b)]) (rest := []) C ys_X4_isBlock qn421 (c_X4_isBlock_t l g b (by omega)) (by decide) rfl dX2_moveOne_11 rfl (Nat.le_of_ble_eq_true rfl) (by decide) (pf1 [] [(q 0, .inr (2, [.ref (q 1), .ref (q 3), .ref (q 5), .ref (q 6), .ref (q 7), .int (iI (k 0 0))])), (q 1, .inr (1, [.ref (q 2), .int (iI (k 0 2)), .int (iI (k 0 3)), .int (iI (k 0 1))])), (q 2, aI g 10 (k 1)), (q 3, .inr (0, [.ref (q 4), .int (iI (k 0 9)), .int (iI (k 0 6)), .int (iI (k 0 4)), .int (iI (k 0 5)), .long (lI (k 0 7)), .long (lI (k 0 8))])), (q 4, aI g 48 (k 2)), (q 5, aI g 4 (k 3)), (q 6, aI g 4 (k 4)), (q 7, aI g 4 (k 5))]) rfl (fun r9 w9 hq9 => ?_)
  obtain ⟨rfl, rfl⟩ := hq9
  refine J.to (L1 := [(4, .int (iI (strn (k 1) (k 0 2).toNat (k 0 3) b))), (0, .ref (q 0)), (1, .int (iI b)), (2, .int (iI left)), (3, .int (iI 0))]) (S1 := [.int (iI 1)]) (ws1 := [(q 0, .inr (2, [.ref (q 1), .ref (q 3), .ref (q 5), .ref (q 6), .ref (q 7), .int (iI (k 0 0))])), (q 1, .inr (1, [.ref (q 2), .int (iI (k 0 2)), .int (iI (k 0 3)), .int (iI (k 0 1))])), (q 2, aI g 10 (k 1)), (q 3, .inr (0, [.ref (q 4), .int (iI (k 0 9)), .int (iI (k 0 6)), .int (iI (k 0 4)), .int (iI (k 0 5)), .long (lI (k 0 7)), .long (lI (k 0 8))])), (q 4, aI g 48 (k 2)), (q 5, aI g 4 (k 3)), (q 6, aI g 4 (k 4)), (q 7, aI g 4 (k 5))]) rfl rfl rfl ?_
  refine j_if_eq (tgt := 22) C (by decide) dX2_moveOne_14 (by decide) (fun c14 => absurd c14 (by decide)) (fun c14 => ?_)
  refine j_iload C 0 dX2_moveOne_17 rfl ?_
  refine j_if_gt (tgt := 24) C (by omega) dX2_moveOne_19 (by decide) (fun c19 => ?_) (fun c19 => absurd c19 (by omega))
  refine j_iload_n C 4 dX2_moveOne_24 rfl rfl ?_
  refine j_if_eq (tgt := 40) C (by decide) dX2_moveOne_25 (by decide) (fun c25 => ?_) (fun c25 => absurd c25 (by decide))
  refine j_aload_n C 1 dX2_moveOne_40 rfl rfl ?_
  refine j_iload_n C 2 dX2_moveOne_41 rfl rfl ?_
  refine j_callV (As := [.int (iI b)]) (rest := []) C yv_X2_heightOf qw343 (c_X2_heightOf l g q k b hk (by omega)) (by decide) 0 rfl rfl rfl dX2_moveOne_42 rfl (Nat.le_of_ble_eq_true rfl) (by decide) pf0 rfl (fun r9 w9 hq9 => ?_)
  obtain ⟨rfl, rfl⟩ := hq9
  refine J.to (L1 := [(4, .int (iI (strn (k 1) (k 0 2).toNat (k 0 3) b))), (0, .ref (q 0)), (1, .int (iI b)), (2, .int (iI left)), (3, .int (iI 0))]) (S1 := [.int (iI (k 4 b.toNat))]) (ws1 := [(q 0, .inr (2, [.ref (q 1), .ref (q 3), .ref (q 5), .ref (q 6), .ref (q 7), .int (iI (k 0 0))])), (q 1, .inr (1, [.ref (q 2), .int (iI (k 0 2)), .int (iI (k 0 3)), .int (iI (k 0 1))])), (q 2, aI g 10 (k 1)), (q 3, .inr (0, [.ref (q 4), .int (iI (k 0 9)), .int (iI (k 0 6)), .int (iI (k 0 4)), .int (iI (k 0 5)), .long (lI (k 0 7)), .long (lI (k 0 8))])), (q 4, aI g 48 (k 2)), (q 5, aI g 4 (k 3)), (q 6, aI g 4 (k 4)), (q 7, aI g 4 (k 5))]) rfl rfl rfl ?_
  refine j_istore (L1 := [(5, .int (iI (k 4 b.toNat))), (4, .int (iI (strn (k 1) (k 0 2).toNat (k 0 3) b))), (0, .ref (q 0)), (1, .int (iI b)), (2, .int (iI left)), (3, .int (iI 0))]) C dX2_moveOne_45 (by decide) rfl ?_
  refine j_iload_n C 4 dX2_moveOne_47 rfl rfl ?_
  refine j_iload C 1 dX2_moveOne_48 rfl ?_
  refine j_idiv C (by omega) (by omega) dX2_moveOne_50 ?_
  have hd9 := div_rng (b := strn (k 1) (k 0 2).toNat (k 0 3) b) hleft.1 c19
  refine j_iload C 0 dX2_moveOne_51 rfl ?_
  refine j_mmin C (by omega) (by omega) qw422 qw_min1 qw_min2 qw_min3 (by decide) (Nat.le_of_ble_eq_true rfl) (by decide) dX2_moveOne_53 ?_
  refine J.to (L1 := [(5, .int (iI (k 4 b.toNat))), (4, .int (iI (strn (k 1) (k 0 2).toNat (k 0 3) b))), (0, .ref (q 0)), (1, .int (iI b)), (2, .int (iI left)), (3, .int (iI 0))]) (S1 := [.int (iI (mwy k b left false))]) (ws1 := [(q 0, .inr (2, [.ref (q 1), .ref (q 3), .ref (q 5), .ref (q 6), .ref (q 7), .int (iI (k 0 0))])), (q 1, .inr (1, [.ref (q 2), .int (iI (k 0 2)), .int (iI (k 0 3)), .int (iI (k 0 1))])), (q 2, aI g 10 (k 1)), (q 3, .inr (0, [.ref (q 4), .int (iI (k 0 9)), .int (iI (k 0 6)), .int (iI (k 0 4)), .int (iI (k 0 5)), .long (lI (k 0 7)), .long (lI (k 0 8))])), (q 4, aI g 48 (k 2)), (q 5, aI g 4 (k 3)), (q 6, aI g 4 (k 4)), (q 7, aI g 4 (k 5))]) rfl rfl (by rw [show ((if k 4 b.toNat < left / (strn (k 1) (k 0 2).toNat (k 0 3) b) then k 4 b.toNat else left / (strn (k 1) (k 0 2).toNat (k 0 3) b) : Int)) = mwy k b left false from (by unfold mwy; exact (if_pos ⟨⟨by omega, by omega⟩, c19⟩).symm)]) ?_
  refine j_istore (L1 := [(6, .int (iI (mwy k b left false))), (5, .int (iI (k 4 b.toNat))), (4, .int (iI (strn (k 1) (k 0 2).toNat (k 0 3) b))), (0, .ref (q 0)), (1, .int (iI b)), (2, .int (iI left)), (3, .int (iI 0))]) C dX2_moveOne_56 (by decide) rfl ?_
  refine j_iload C 0 dX2_moveOne_58 rfl ?_
  refine j_if_gt (tgt := 65) C (by omega) dX2_moveOne_60 (by decide) (fun c60 => ?_) (fun c60 => absurd c60 (by omega))
  refine j_iload_n C 6 dX2_moveOne_65 rfl rfl ?_
  refine j_if_eq (tgt := 74) C (by decide) dX2_moveOne_66 (by decide) (fun c66 => ?_) (fun c66 => absurd c66 (by decide))
  refine j_iload C 0 dX2_moveOne_74 rfl ?_
  refine j_ineg C dX2_moveOne_76 ?_
  refine j_istore (L1 := [(7, .int (iI (-(mwy k b left false)))), (6, .int (iI (mwy k b left false))), (5, .int (iI (k 4 b.toNat))), (4, .int (iI (strn (k 1) (k 0 2).toNat (k 0 3) b))), (0, .ref (q 0)), (1, .int (iI b)), (2, .int (iI left)), (3, .int (iI 0))]) C dX2_moveOne_77 (by decide) rfl ?_
  refine j_aload_n C 4 dX2_moveOne_79 rfl rfl ?_
  refine j_get C ck2 0 3 (by decide) qw94 rfl rfl dX2_moveOne_80 ?_
  refine j_iload_n C 5 dX2_moveOne_83 rfl rfl ?_
  refine j_aload_n C 4 dX2_moveOne_84 rfl rfl ?_
  refine j_iload_n C 5 dX2_moveOne_85 rfl rfl ?_
  refine j_callV (As := [.int (iI b)]) (rest := [.int (iI b), .ref (q 6)]) C yv_X2_heightOf qw343 (c_X2_heightOf l g q k b hk (by omega)) (by decide) 0 rfl rfl rfl dX2_moveOne_86 rfl (Nat.le_of_ble_eq_true rfl) (by decide) pf0 rfl (fun r9 w9 hq9 => ?_)
  obtain ⟨rfl, rfl⟩ := hq9
  refine J.to (L1 := [(7, .int (iI (-(mwy k b left false)))), (6, .int (iI (mwy k b left false))), (5, .int (iI (k 4 b.toNat))), (4, .int (iI (strn (k 1) (k 0 2).toNat (k 0 3) b))), (0, .ref (q 0)), (1, .int (iI b)), (2, .int (iI left)), (3, .int (iI 0))]) (S1 := [.int (iI (k 4 b.toNat)), .int (iI b), .ref (q 6)]) (ws1 := [(q 0, .inr (2, [.ref (q 1), .ref (q 3), .ref (q 5), .ref (q 6), .ref (q 7), .int (iI (k 0 0))])), (q 1, .inr (1, [.ref (q 2), .int (iI (k 0 2)), .int (iI (k 0 3)), .int (iI (k 0 1))])), (q 2, aI g 10 (k 1)), (q 3, .inr (0, [.ref (q 4), .int (iI (k 0 9)), .int (iI (k 0 6)), .int (iI (k 0 4)), .int (iI (k 0 5)), .long (lI (k 0 7)), .long (lI (k 0 8))])), (q 4, aI g 48 (k 2)), (q 5, aI g 4 (k 3)), (q 6, aI g 4 (k 4)), (q 7, aI g 4 (k 5))]) rfl rfl rfl ?_
  refine j_iload C 0 dX2_moveOne_89 rfl ?_
  refine j_iadd C dX2_moveOne_91 ?_
  refine j_callSN (As := [.ref (q 6), .int (iI b), .int (iI ((k 4 b.toNat) + (-(mwy k b left false))))]) (rest := []) C ys_X4_put qn302 (c_X4_put l g (q 6) 4 (k 4) b b.toNat ((k 4 b.toNat) + (-(mwy k b left false))) (by omega) (by omega) (by decide)) (by decide) rfl dX2_moveOne_92 rfl (Nat.le_of_ble_eq_true rfl) (by decide) (pf1 [(q 0, .inr (2, [.ref (q 1), .ref (q 3), .ref (q 5), .ref (q 6), .ref (q 7), .int (iI (k 0 0))])), (q 1, .inr (1, [.ref (q 2), .int (iI (k 0 2)), .int (iI (k 0 3)), .int (iI (k 0 1))])), (q 2, aI g 10 (k 1)), (q 3, .inr (0, [.ref (q 4), .int (iI (k 0 9)), .int (iI (k 0 6)), .int (iI (k 0 4)), .int (iI (k 0 5)), .long (lI (k 0 7)), .long (lI (k 0 8))])), (q 4, aI g 48 (k 2)), (q 5, aI g 4 (k 3))] [(q 7, aI g 4 (k 5))]) rfl (fun r9 w9 hq9 => ?_)
  obtain ⟨rfl, rfl⟩ := hq9
  refine J.to (L1 := [(7, .int (iI (-(mwy k b left false)))), (6, .int (iI (mwy k b left false))), (5, .int (iI (k 4 b.toNat))), (4, .int (iI (strn (k 1) (k 0 2).toNat (k 0 3) b))), (0, .ref (q 0)), (1, .int (iI b)), (2, .int (iI left)), (3, .int (iI 0))]) (S1 := []) (ws1 := [(q 0, .inr (2, [.ref (q 1), .ref (q 3), .ref (q 5), .ref (q 6), .ref (q 7), .int (iI (k 0 0))])), (q 1, .inr (1, [.ref (q 2), .int (iI (k 0 2)), .int (iI (k 0 3)), .int (iI (k 0 1))])), (q 2, aI g 10 (k 1)), (q 3, .inr (0, [.ref (q 4), .int (iI (k 0 9)), .int (iI (k 0 6)), .int (iI (k 0 4)), .int (iI (k 0 5)), .long (lI (k 0 7)), .long (lI (k 0 8))])), (q 4, aI g 48 (k 2)), (q 5, aI g 4 (k 3)), (q 6, aI g 4 (va_up (k 4) b.toNat ((k 4 b.toNat) + (-(mwy k b left false))))), (q 7, aI g 4 (k 5))]) rfl rfl rfl ?_
  refine j_aload_n C 4 dX2_moveOne_95 rfl rfl ?_
  refine j_get C ck2 0 1 (by decide) qw91 rfl rfl dX2_moveOne_96 ?_
  refine j_iload_n C 5 dX2_moveOne_99 rfl rfl ?_
  refine j_iload C 0 dX2_moveOne_100 rfl ?_
  refine j_iload C 0 dX2_moveOne_102 rfl ?_
  refine j_iload C 3 dX2_moveOne_104 rfl ?_
  refine j_imul C dX2_moveOne_106 ?_
  refine j_callV (As := [.int (iI b), .int (iI (-(mwy k b left false))), .int (iI ((-(mwy k b left false)) * (strn (k 1) (k 0 2).toNat (k 0 3) b)))]) (rest := []) C yv_X0_note qw423 (c_X0_note_dn l g (q 3) (q 4) (k 2) (k 0 9) (k 0 6) (k 0 4) (k 0 5) (k 0 7) (k 0 8) b (-(mwy k b left false)) ((-(mwy k b left false)) * (strn (k 1) (k 0 2).toNat (k 0 3) b)) (by omega) (by omega) (by omega)) (by decide) 3 rfl rfl rfl dX2_moveOne_107 rfl (Nat.le_of_ble_eq_true rfl) (by decide) (pf1 [(q 0, .inr (2, [.ref (q 1), .ref (q 3), .ref (q 5), .ref (q 6), .ref (q 7), .int (iI (k 0 0))])), (q 1, .inr (1, [.ref (q 2), .int (iI (k 0 2)), .int (iI (k 0 3)), .int (iI (k 0 1))])), (q 2, aI g 10 (k 1))] [(q 5, aI g 4 (k 3)), (q 6, aI g 4 (va_up (k 4) b.toNat ((k 4 b.toNat) + (-(mwy k b left false))))), (q 7, aI g 4 (k 5))]) rfl (fun r9 w9 hq9 => ?_)
  obtain ⟨rfl, rfl⟩ := hq9
  refine J.to (L1 := [(7, .int (iI (-(mwy k b left false)))), (6, .int (iI (mwy k b left false))), (5, .int (iI (k 4 b.toNat))), (4, .int (iI (strn (k 1) (k 0 2).toNat (k 0 3) b))), (0, .ref (q 0)), (1, .int (iI b)), (2, .int (iI left)), (3, .int (iI 0))]) (S1 := []) (ws1 := [(q 0, .inr (2, [.ref (q 1), .ref (q 3), .ref (q 5), .ref (q 6), .ref (q 7), .int (iI (k 0 0))])), (q 1, .inr (1, [.ref (q 2), .int (iI (k 0 2)), .int (iI (k 0 3)), .int (iI (k 0 1))])), (q 2, aI g 10 (k 1)), (q 3, .inr (0, [.ref (q 4), .int (iI ((k 0 9 + 1) % 16)), .int (iI (if 16 < k 0 6 + 1 then 16 else k 0 6 + 1)), .int (iI (k 0 4)), .int (iI (k 0 5 + 1)), .long (lI (k 0 7)), .long (lI (k 0 8))])), (q 4, aI g 48 (va_up (va_up (va_up (k 2) (((k 0 9) + 1) % 16 * 3).toNat b) (((k 0 9) + 1) % 16 * 3 + 1).toNat (-(mwy k b left false))) (((k 0 9) + 1) % 16 * 3 + 2).toNat ((-(mwy k b left false)) * (strn (k 1) (k 0 2).toNat (k 0 3) b)))), (q 5, aI g 4 (k 3)), (q 6, aI g 4 (va_up (k 4) b.toNat ((k 4 b.toNat) + (-(mwy k b left false))))), (q 7, aI g 4 (k 5))]) rfl rfl rfl ?_
  refine j_iload_n C 7 dX2_moveOne_110 rfl rfl ?_
  refine j_if_eq (tgt := 136) C (by decide) dX2_moveOne_111 (by decide) (fun c111 => ?_) (fun c111 => absurd c111 (by decide))
  refine j_iload C 1 dX2_moveOne_136 rfl ?_
  refine j_iload C 3 dX2_moveOne_138 rfl ?_
  refine j_imul C dX2_moveOne_140 ?_
  exact j_iret C hr hlk dX2_moveOne_141 ⟨rfl, rfl⟩ (by decide) (by decide)

theorem lp_moveInTurn_up {p : Program} {l : Launch} {e : Env} {s : State} {m : MethodId} {args : Array Value} {below : List Frame} {meth : Method} {c : Code} {g : Gh} {A : Nat → Prop} {Q : State → Prop} (C : Cx p g s m args c cX2_moveInTurn 7 RX2 A) {q : Nat → Nat} {hand most : Int} (hhand : 0 ≤ hand ∧ hand ≤ 1000000) (fin : (Nat → Nat → Int) × Int) (kk : J p l e ({ frames := 3, cells := 0, slots := 0, locals := 72 } : Room) s m args below meth c g A 7 59 [(2, .int (iI most)), (4, .int (iI fin.2))] [] [(q 0, .inr (2, [.ref (q 1), .ref (q 3), .ref (q 5), .ref (q 6), .ref (q 7), .int (iI (fin.1 0 0))])), (q 1, .inr (1, [.ref (q 2), .int (iI (fin.1 0 2)), .int (iI (fin.1 0 3)), .int (iI (fin.1 0 1))])), (q 2, aI g 10 (fin.1 1)), (q 3, .inr (0, [.ref (q 4), .int (iI (fin.1 0 9)), .int (iI (fin.1 0 6)), .int (iI (fin.1 0 4)), .int (iI (fin.1 0 5)), .long (lI (fin.1 0 7)), .long (lI (fin.1 0 8))])), (q 4, aI g 48 (fin.1 2)), (q 5, aI g 4 (fin.1 3)), (q 6, aI g 4 (fin.1 4)), (q 7, aI g 4 (fin.1 5))] 0 0 Q) : ∀ (n i : Nat) (k : Nat → Nat → Int) (left : Int), i + n = 4 → SOK k → (∀ b : Nat, b < 4 → -1 ≤ k 5 b ∧ k 5 b ≤ 1000000) → (0 ≤ left ∧ left ≤ 300000) → mvs true hand n k left = fin → J p l e ({ frames := 3, cells := 0, slots := 0, locals := 72 } : Room) s m args below meth c g A 7 6 [(0, .ref (q 0)), (1, .int (iI hand)), (2, .int (iI most)), (3, .int (iI 1)), (4, .int (iI left)), (5, .int (iI ((i : Int))))] [] [(q 0, .inr (2, [.ref (q 1), .ref (q 3), .ref (q 5), .ref (q 6), .ref (q 7), .int (iI (k 0 0))])), (q 1, .inr (1, [.ref (q 2), .int (iI (k 0 2)), .int (iI (k 0 3)), .int (iI (k 0 1))])), (q 2, aI g 10 (k 1)), (q 3, .inr (0, [.ref (q 4), .int (iI (k 0 9)), .int (iI (k 0 6)), .int (iI (k 0 4)), .int (iI (k 0 5)), .long (lI (k 0 7)), .long (lI (k 0 8))])), (q 4, aI g 48 (k 2)), (q 5, aI g 4 (k 3)), (q 6, aI g 4 (k 4)), (q 7, aI g 4 (k 5))] 0 0 Q := by
  intro n
  induction n with
  | zero =>
    intro i k left hi hk hfc hleft hfin
    have hi9 : i = 4 := by omega
    refine j_iload C 5 dX2_moveInTurn_6 rfl ?_
    refine j_iconst C dX2_moveInTurn_8 ?_
    refine j_icmp_ge (tgt := 59) C (by omega) (by decide) dX2_moveInTurn_9 (by decide) (fun c9 => ?_) (fun c9 => absurd c9 (by omega))
    refine J.sub (L1 := [(2, .int (iI most)), (4, .int (iI left))]) [2, 4] rfl ?_
    subst hfin
    exact kk
  | succ n ih =>
    intro i k left hi hk hfc hleft hfin
    have hn9 : -1 ≤ mnx true hand k ∧ mnx true hand k < 4 := nxr_rng (k 5) (k 4) hand 4
    refine j_iload C 5 dX2_moveInTurn_6 rfl ?_
    refine j_iconst C dX2_moveInTurn_8 ?_
    refine j_icmp_ge (tgt := 59) C (by omega) (by decide) dX2_moveInTurn_9 (by decide) (fun c9 => absurd c9 (by omega)) (fun c9 => ?_)
    refine j_aload_n C 0 dX2_moveInTurn_12 rfl rfl ?_
    refine j_iload_n C 3 dX2_moveInTurn_13 rfl rfl ?_
    refine j_if_eq (tgt := 25) C (by decide) dX2_moveInTurn_14 (by decide) (fun c14 => absurd c14 (by decide)) (fun c14 => ?_)
    refine j_aload_n C 0 dX2_moveInTurn_17 rfl rfl ?_
    refine j_iload_n C 1 dX2_moveInTurn_18 rfl rfl ?_
    refine j_callV (As := [.int (iI hand)]) (rest := [.ref (q 0)]) C yv_X2_nextToRise qw409 (c_X2_nextToRise l g q k hand hk hfc (by omega)) (by decide) 0 rfl rfl rfl dX2_moveInTurn_19 rfl (Nat.le_of_ble_eq_true rfl) (by decide) pf0 rfl (fun r9 w9 hq9 => ?_)
    obtain ⟨rfl, rfl⟩ := hq9
    refine J.to (L1 := [(0, .ref (q 0)), (1, .int (iI hand)), (2, .int (iI most)), (3, .int (iI 1)), (4, .int (iI left)), (5, .int (iI ((i : Int))))]) (S1 := [.int (iI (mnx true hand k)), .ref (q 0)]) (ws1 := [(q 0, .inr (2, [.ref (q 1), .ref (q 3), .ref (q 5), .ref (q 6), .ref (q 7), .int (iI (k 0 0))])), (q 1, .inr (1, [.ref (q 2), .int (iI (k 0 2)), .int (iI (k 0 3)), .int (iI (k 0 1))])), (q 2, aI g 10 (k 1)), (q 3, .inr (0, [.ref (q 4), .int (iI (k 0 9)), .int (iI (k 0 6)), .int (iI (k 0 4)), .int (iI (k 0 5)), .long (lI (k 0 7)), .long (lI (k 0 8))])), (q 4, aI g 48 (k 2)), (q 5, aI g 4 (k 3)), (q 6, aI g 4 (k 4)), (q 7, aI g 4 (k 5))]) rfl rfl rfl ?_
    refine j_goto (tgt := 30) C dX2_moveInTurn_22 (by decide) ?_
    refine j_iload C 4 dX2_moveInTurn_30 rfl ?_
    refine j_iload_n C 3 dX2_moveInTurn_32 rfl rfl ?_
    by_cases hm9 : mwy k (mnx true hand k) left true ≤ 0
    · by_cases hb9 : mnx true hand k = -1
      · refine j_callV (As := [.int (iI (mnx true hand k)), .int (iI left), .int (iI 1)]) (rest := []) C yv_X2_moveOne qw417 (c_X2_moveOne_n1up l g q k (mnx true hand k) left hk hb9) (by decide) 0 rfl rfl rfl dX2_moveInTurn_33 rfl (Nat.le_of_ble_eq_true rfl) (by decide) pf0 rfl (fun r9 w9 hq9 => ?_)
        obtain ⟨rfl, rfl⟩ := hq9
        refine J.to (L1 := [(0, .ref (q 0)), (1, .int (iI hand)), (2, .int (iI most)), (3, .int (iI 1)), (4, .int (iI left)), (5, .int (iI ((i : Int))))]) (S1 := [.int (iI 0)]) (ws1 := [(q 0, .inr (2, [.ref (q 1), .ref (q 3), .ref (q 5), .ref (q 6), .ref (q 7), .int (iI (k 0 0))])), (q 1, .inr (1, [.ref (q 2), .int (iI (k 0 2)), .int (iI (k 0 3)), .int (iI (k 0 1))])), (q 2, aI g 10 (k 1)), (q 3, .inr (0, [.ref (q 4), .int (iI (k 0 9)), .int (iI (k 0 6)), .int (iI (k 0 4)), .int (iI (k 0 5)), .long (lI (k 0 7)), .long (lI (k 0 8))])), (q 4, aI g 48 (k 2)), (q 5, aI g 4 (k 3)), (q 6, aI g 4 (k 4)), (q 7, aI g 4 (k 5))]) rfl rfl rfl ?_
        refine j_istore (L1 := [(6, .int (iI 0)), (0, .ref (q 0)), (1, .int (iI hand)), (2, .int (iI most)), (3, .int (iI 1)), (4, .int (iI left)), (5, .int (iI ((i : Int))))]) C dX2_moveInTurn_36 (by decide) rfl ?_
        refine j_iload C 0 dX2_moveInTurn_38 rfl ?_
        refine j_if_ne (tgt := 46) C (by decide) dX2_moveInTurn_40 (by decide) (fun c40 => absurd c40 (by decide)) (fun c40 => ?_)
        refine j_goto (tgt := 59) C dX2_moveInTurn_43 (by decide) ?_
        refine J.sub (L1 := [(2, .int (iI most)), (4, .int (iI left))]) [3, 5] rfl ?_
        rw [mvs, if_pos hm9] at hfin
        subst hfin
        exact kk
      · refine j_callV (As := [.int (iI (mnx true hand k)), .int (iI left), .int (iI 1)]) (rest := []) C yv_X2_moveOne qw417 (c_X2_moveOne_n2up l g q k (mnx true hand k) left hk (by omega) hleft hm9) (by decide) 0 rfl rfl rfl dX2_moveInTurn_33 rfl (Nat.le_of_ble_eq_true rfl) (by decide) pf0 rfl (fun r9 w9 hq9 => ?_)
        obtain ⟨rfl, rfl⟩ := hq9
        refine J.to (L1 := [(0, .ref (q 0)), (1, .int (iI hand)), (2, .int (iI most)), (3, .int (iI 1)), (4, .int (iI left)), (5, .int (iI ((i : Int))))]) (S1 := [.int (iI 0)]) (ws1 := [(q 0, .inr (2, [.ref (q 1), .ref (q 3), .ref (q 5), .ref (q 6), .ref (q 7), .int (iI (k 0 0))])), (q 1, .inr (1, [.ref (q 2), .int (iI (k 0 2)), .int (iI (k 0 3)), .int (iI (k 0 1))])), (q 2, aI g 10 (k 1)), (q 3, .inr (0, [.ref (q 4), .int (iI (k 0 9)), .int (iI (k 0 6)), .int (iI (k 0 4)), .int (iI (k 0 5)), .long (lI (k 0 7)), .long (lI (k 0 8))])), (q 4, aI g 48 (k 2)), (q 5, aI g 4 (k 3)), (q 6, aI g 4 (k 4)), (q 7, aI g 4 (k 5))]) rfl rfl rfl ?_
        refine j_istore (L1 := [(6, .int (iI 0)), (0, .ref (q 0)), (1, .int (iI hand)), (2, .int (iI most)), (3, .int (iI 1)), (4, .int (iI left)), (5, .int (iI ((i : Int))))]) C dX2_moveInTurn_36 (by decide) rfl ?_
        refine j_iload C 0 dX2_moveInTurn_38 rfl ?_
        refine j_if_ne (tgt := 46) C (by decide) dX2_moveInTurn_40 (by decide) (fun c40 => absurd c40 (by decide)) (fun c40 => ?_)
        refine j_goto (tgt := 59) C dX2_moveInTurn_43 (by decide) ?_
        refine J.sub (L1 := [(2, .int (iI most)), (4, .int (iI left))]) [3, 5] rfl ?_
        rw [mvs, if_pos hm9] at hfin
        subst hfin
        exact kk
    · refine j_callV (As := [.int (iI (mnx true hand k)), .int (iI left), .int (iI 1)]) (rest := []) C yv_X2_moveOne qw417 (c_X2_moveOne_up l g q k (mnx true hand k) left hk (by have := (mwy_pos (Int.not_le.mp hm9)).1; omega) hleft (by omega)) (by decide) 0 rfl rfl rfl dX2_moveInTurn_33 rfl (Nat.le_of_ble_eq_true rfl) (by decide) pf0 rfl (fun r9 w9 hq9 => ?_)
      obtain ⟨rfl, rfl⟩ := hq9
      refine J.to (L1 := [(0, .ref (q 0)), (1, .int (iI hand)), (2, .int (iI most)), (3, .int (iI 1)), (4, .int (iI left)), (5, .int (iI ((i : Int))))]) (S1 := [.int (iI (mwy k (mnx true hand k) left true * mst k (mnx true hand k)))]) (ws1 := [(q 0, .inr (2, [.ref (q 1), .ref (q 3), .ref (q 5), .ref (q 6), .ref (q 7), .int (iI ((mvk true k (mnx true hand k) (mwy k (mnx true hand k) left true)) 0 0))])), (q 1, .inr (1, [.ref (q 2), .int (iI ((mvk true k (mnx true hand k) (mwy k (mnx true hand k) left true)) 0 2)), .int (iI ((mvk true k (mnx true hand k) (mwy k (mnx true hand k) left true)) 0 3)), .int (iI ((mvk true k (mnx true hand k) (mwy k (mnx true hand k) left true)) 0 1))])), (q 2, aI g 10 ((mvk true k (mnx true hand k) (mwy k (mnx true hand k) left true)) 1)), (q 3, .inr (0, [.ref (q 4), .int (iI ((mvk true k (mnx true hand k) (mwy k (mnx true hand k) left true)) 0 9)), .int (iI ((mvk true k (mnx true hand k) (mwy k (mnx true hand k) left true)) 0 6)), .int (iI ((mvk true k (mnx true hand k) (mwy k (mnx true hand k) left true)) 0 4)), .int (iI ((mvk true k (mnx true hand k) (mwy k (mnx true hand k) left true)) 0 5)), .long (lI ((mvk true k (mnx true hand k) (mwy k (mnx true hand k) left true)) 0 7)), .long (lI ((mvk true k (mnx true hand k) (mwy k (mnx true hand k) left true)) 0 8))])), (q 4, aI g 48 ((mvk true k (mnx true hand k) (mwy k (mnx true hand k) left true)) 2)), (q 5, aI g 4 ((mvk true k (mnx true hand k) (mwy k (mnx true hand k) left true)) 3)), (q 6, aI g 4 ((mvk true k (mnx true hand k) (mwy k (mnx true hand k) left true)) 4)), (q 7, aI g 4 ((mvk true k (mnx true hand k) (mwy k (mnx true hand k) left true)) 5))]) rfl rfl rfl ?_
      have hp9 := mwy_pos (Int.not_le.mp hm9)
      have hp8 := mwy_rng hk (b := mnx true hand k) (up := true) hleft.1
      refine j_istore (L1 := [(6, .int (iI (mwy k (mnx true hand k) left true * mst k (mnx true hand k)))), (0, .ref (q 0)), (1, .int (iI hand)), (2, .int (iI most)), (3, .int (iI 1)), (4, .int (iI left)), (5, .int (iI ((i : Int))))]) C dX2_moveInTurn_36 (by decide) rfl ?_
      refine j_iload C 0 dX2_moveInTurn_38 rfl ?_
      refine j_if_ne (tgt := 46) C (by omega) dX2_moveInTurn_40 (by decide) (fun c40 => ?_) (fun c40 => absurd c40 (by omega))
      refine j_iload C 5 dX2_moveInTurn_46 rfl ?_
      refine j_iload C 0 dX2_moveInTurn_48 rfl ?_
      refine j_isub C dX2_moveInTurn_50 ?_
      refine j_istore (L1 := [(4, .int (iI (left - (mwy k (mnx true hand k) left true * mst k (mnx true hand k))))), (6, .int (iI (mwy k (mnx true hand k) left true * mst k (mnx true hand k)))), (0, .ref (q 0)), (1, .int (iI hand)), (2, .int (iI most)), (3, .int (iI 1)), (5, .int (iI ((i : Int))))]) C dX2_moveInTurn_51 (by decide) rfl ?_
      refine j_iinc (L1 := [(5, .int (iI (((i : Int)) + 1))), (4, .int (iI (left - (mwy k (mnx true hand k) left true * mst k (mnx true hand k))))), (6, .int (iI (mwy k (mnx true hand k) left true * mst k (mnx true hand k)))), (0, .ref (q 0)), (1, .int (iI hand)), (2, .int (iI most)), (3, .int (iI 1))]) C 6 dX2_moveInTurn_53 rfl (by decide) rfl ?_
      refine j_goto (tgt := 6) C dX2_moveInTurn_56 (by decide) ?_
      refine J.sub (L1 := [(0, .ref (q 0)), (1, .int (iI hand)), (2, .int (iI most)), (3, .int (iI 1)), (4, .int (iI (left - (mwy k (mnx true hand k) left true * mst k (mnx true hand k))))), (5, .int (iI (((i : Int)) + 1)))]) [3, 4, 5, 6, 1, 0] rfl ?_
      exact ih (i + 1) _ _ (by omega) (SOK_mvk hk (Int.not_le.mp hm9)) hfc (by omega) (by rw [mvs, if_neg hm9] at hfin; exact hfin)

theorem c_X2_moveInTurn_up (l : Launch) (g : Gh) (q : Nat → Nat) (k : Nat → Nat → Int) (hand most : Int) (hk : SOK k) (hfc : ∀ b : Nat, b < 4 → -1 ≤ k 5 b ∧ k 5 b ≤ 1000000) (hhand : 0 ≤ hand ∧ hand ≤ 1000000) (hmost : 0 ≤ most ∧ most ≤ 300000) : CT l g yX2_moveInTurn cX2_moveInTurn 7 (some FieldType.int) ({ frames := 3, cells := 0, slots := 0, locals := 72 }) [.ref (q 0), .int (iI hand), .int (iI most), .int (iI 1)] [(q 0, .inr (2, [.ref (q 1), .ref (q 3), .ref (q 5), .ref (q 6), .ref (q 7), .int (iI (k 0 0))])), (q 1, .inr (1, [.ref (q 2), .int (iI (k 0 2)), .int (iI (k 0 3)), .int (iI (k 0 1))])), (q 2, aI g 10 (k 1)), (q 3, .inr (0, [.ref (q 4), .int (iI (k 0 9)), .int (iI (k 0 6)), .int (iI (k 0 4)), .int (iI (k 0 5)), .long (lI (k 0 7)), .long (lI (k 0 8))])), (q 4, aI g 48 (k 2)), (q 5, aI g 4 (k 3)), (q 6, aI g 4 (k 4)), (q 7, aI g 4 (k 5))] (PE (some (.int (iI (most - (mvs true hand 4 k most).2)))) (wSt g q (mvs true hand 4 k most).1)) := by
  refine CT.intro (L0 := [(0, .ref (q 0)), (1, .int (iI hand)), (2, .int (iI most)), (3, .int (iI 1))]) (own := RX2) (by decide) rfl (Nat.le_of_ble_eq_true rfl) rfl ?_
  intro pX eX sX mX argsX belowX methX cX A C hr hlk
  obtain ⟨hP, hE0, hF, hrow0, hwt, hht, hlen, hlat, hkept⟩ := id hk
  have hE : -10 ≤ k 0 3 ∧ k 0 3 ≤ 10 := by omega
  have hrow : ∀ i : Nat, (i : Int) < k 0 2 → 0 ≤ k 1 i ∧ k 1 i ≤ 4 := fun i hi => by have := hrow0 i hi; omega
  refine j_iload_n C 2 dX2_moveInTurn_0 rfl rfl ?_
  refine j_istore (L1 := [(4, .int (iI most)), (0, .ref (q 0)), (1, .int (iI hand)), (2, .int (iI most)), (3, .int (iI 1))]) C dX2_moveInTurn_1 (by decide) rfl ?_
  refine j_iconst C dX2_moveInTurn_3 ?_
  refine j_istore (L1 := [(5, .int (iI 0)), (4, .int (iI most)), (0, .ref (q 0)), (1, .int (iI hand)), (2, .int (iI most)), (3, .int (iI 1))]) C dX2_moveInTurn_4 (by decide) rfl ?_
  refine J.sub (L1 := [(0, .ref (q 0)), (1, .int (iI hand)), (2, .int (iI most)), (3, .int (iI 1)), (4, .int (iI most)), (5, .int (iI 0))]) [2, 3, 4, 5, 1, 0] rfl ?_
  refine lp_moveInTurn_up C hhand (mvs true hand 4 k most) ?_ 4 0 k most (by omega) hk hfc hmost rfl
  refine j_iload_n C 0 dX2_moveInTurn_59 rfl rfl ?_
  refine j_iload C 1 dX2_moveInTurn_60 rfl ?_
  refine j_isub C dX2_moveInTurn_62 ?_
  exact j_iret C hr hlk dX2_moveInTurn_63 ⟨rfl, rfl⟩ (by decide) (by decide)

theorem lp_moveInTurn_dn {p : Program} {l : Launch} {e : Env} {s : State} {m : MethodId} {args : Array Value} {below : List Frame} {meth : Method} {c : Code} {g : Gh} {A : Nat → Prop} {Q : State → Prop} (C : Cx p g s m args c cX2_moveInTurn 7 RX2 A) {q : Nat → Nat} {hand most : Int} (hhand : 0 ≤ hand ∧ hand ≤ 1000000) (fin : (Nat → Nat → Int) × Int) (kk : J p l e ({ frames := 3, cells := 0, slots := 0, locals := 72 } : Room) s m args below meth c g A 7 59 [(2, .int (iI most)), (4, .int (iI fin.2))] [] [(q 0, .inr (2, [.ref (q 1), .ref (q 3), .ref (q 5), .ref (q 6), .ref (q 7), .int (iI (fin.1 0 0))])), (q 1, .inr (1, [.ref (q 2), .int (iI (fin.1 0 2)), .int (iI (fin.1 0 3)), .int (iI (fin.1 0 1))])), (q 2, aI g 10 (fin.1 1)), (q 3, .inr (0, [.ref (q 4), .int (iI (fin.1 0 9)), .int (iI (fin.1 0 6)), .int (iI (fin.1 0 4)), .int (iI (fin.1 0 5)), .long (lI (fin.1 0 7)), .long (lI (fin.1 0 8))])), (q 4, aI g 48 (fin.1 2)), (q 5, aI g 4 (fin.1 3)), (q 6, aI g 4 (fin.1 4)), (q 7, aI g 4 (fin.1 5))] 0 0 Q) : ∀ (n i : Nat) (k : Nat → Nat → Int) (left : Int), i + n = 4 → SOK k → (∀ b : Nat, b < 4 → -1 ≤ k 5 b ∧ k 5 b ≤ 1000000) → (0 ≤ left ∧ left ≤ 300000) → mvs false hand n k left = fin → J p l e ({ frames := 3, cells := 0, slots := 0, locals := 72 } : Room) s m args below meth c g A 7 6 [(0, .ref (q 0)), (1, .int (iI hand)), (2, .int (iI most)), (3, .int (iI 0)), (4, .int (iI left)), (5, .int (iI ((i : Int))))] [] [(q 0, .inr (2, [.ref (q 1), .ref (q 3), .ref (q 5), .ref (q 6), .ref (q 7), .int (iI (k 0 0))])), (q 1, .inr (1, [.ref (q 2), .int (iI (k 0 2)), .int (iI (k 0 3)), .int (iI (k 0 1))])), (q 2, aI g 10 (k 1)), (q 3, .inr (0, [.ref (q 4), .int (iI (k 0 9)), .int (iI (k 0 6)), .int (iI (k 0 4)), .int (iI (k 0 5)), .long (lI (k 0 7)), .long (lI (k 0 8))])), (q 4, aI g 48 (k 2)), (q 5, aI g 4 (k 3)), (q 6, aI g 4 (k 4)), (q 7, aI g 4 (k 5))] 0 0 Q := by
  intro n
  induction n with
  | zero =>
    intro i k left hi hk hfc hleft hfin
    have hi9 : i = 4 := by omega
    refine j_iload C 5 dX2_moveInTurn_6 rfl ?_
    refine j_iconst C dX2_moveInTurn_8 ?_
    refine j_icmp_ge (tgt := 59) C (by omega) (by decide) dX2_moveInTurn_9 (by decide) (fun c9 => ?_) (fun c9 => absurd c9 (by omega))
    refine J.sub (L1 := [(2, .int (iI most)), (4, .int (iI left))]) [2, 4] rfl ?_
    subst hfin
    exact kk
  | succ n ih =>
    intro i k left hi hk hfc hleft hfin
    have hn9 : -1 ≤ mnx false hand k ∧ mnx false hand k < 4 := nxs_rng (k 5) (k 4) hand 4
    refine j_iload C 5 dX2_moveInTurn_6 rfl ?_
    refine j_iconst C dX2_moveInTurn_8 ?_
    refine j_icmp_ge (tgt := 59) C (by omega) (by decide) dX2_moveInTurn_9 (by decide) (fun c9 => absurd c9 (by omega)) (fun c9 => ?_)
    refine j_aload_n C 0 dX2_moveInTurn_12 rfl rfl ?_
    refine j_iload_n C 3 dX2_moveInTurn_13 rfl rfl ?_
    refine j_if_eq (tgt := 25) C (by decide) dX2_moveInTurn_14 (by decide) (fun c14 => ?_) (fun c14 => absurd c14 (by decide))
    refine j_aload_n C 0 dX2_moveInTurn_25 rfl rfl ?_
    refine j_iload_n C 1 dX2_moveInTurn_26 rfl rfl ?_
    refine j_callV (As := [.int (iI hand)]) (rest := [.ref (q 0)]) C yv_X2_nextToSink qw413 (c_X2_nextToSink l g q k hand hk hfc (by omega)) (by decide) 0 rfl rfl rfl dX2_moveInTurn_27 rfl (Nat.le_of_ble_eq_true rfl) (by decide) pf0 rfl (fun r9 w9 hq9 => ?_)
    obtain ⟨rfl, rfl⟩ := hq9
    refine J.to (L1 := [(0, .ref (q 0)), (1, .int (iI hand)), (2, .int (iI most)), (3, .int (iI 0)), (4, .int (iI left)), (5, .int (iI ((i : Int))))]) (S1 := [.int (iI (mnx false hand k)), .ref (q 0)]) (ws1 := [(q 0, .inr (2, [.ref (q 1), .ref (q 3), .ref (q 5), .ref (q 6), .ref (q 7), .int (iI (k 0 0))])), (q 1, .inr (1, [.ref (q 2), .int (iI (k 0 2)), .int (iI (k 0 3)), .int (iI (k 0 1))])), (q 2, aI g 10 (k 1)), (q 3, .inr (0, [.ref (q 4), .int (iI (k 0 9)), .int (iI (k 0 6)), .int (iI (k 0 4)), .int (iI (k 0 5)), .long (lI (k 0 7)), .long (lI (k 0 8))])), (q 4, aI g 48 (k 2)), (q 5, aI g 4 (k 3)), (q 6, aI g 4 (k 4)), (q 7, aI g 4 (k 5))]) rfl rfl rfl ?_
    refine j_iload C 4 dX2_moveInTurn_30 rfl ?_
    refine j_iload_n C 3 dX2_moveInTurn_32 rfl rfl ?_
    by_cases hm9 : mwy k (mnx false hand k) left false ≤ 0
    · by_cases hb9 : mnx false hand k = -1
      · refine j_callV (As := [.int (iI (mnx false hand k)), .int (iI left), .int (iI 0)]) (rest := []) C yv_X2_moveOne qw417 (c_X2_moveOne_n1dn l g q k (mnx false hand k) left hk hb9) (by decide) 0 rfl rfl rfl dX2_moveInTurn_33 rfl (Nat.le_of_ble_eq_true rfl) (by decide) pf0 rfl (fun r9 w9 hq9 => ?_)
        obtain ⟨rfl, rfl⟩ := hq9
        refine J.to (L1 := [(0, .ref (q 0)), (1, .int (iI hand)), (2, .int (iI most)), (3, .int (iI 0)), (4, .int (iI left)), (5, .int (iI ((i : Int))))]) (S1 := [.int (iI 0)]) (ws1 := [(q 0, .inr (2, [.ref (q 1), .ref (q 3), .ref (q 5), .ref (q 6), .ref (q 7), .int (iI (k 0 0))])), (q 1, .inr (1, [.ref (q 2), .int (iI (k 0 2)), .int (iI (k 0 3)), .int (iI (k 0 1))])), (q 2, aI g 10 (k 1)), (q 3, .inr (0, [.ref (q 4), .int (iI (k 0 9)), .int (iI (k 0 6)), .int (iI (k 0 4)), .int (iI (k 0 5)), .long (lI (k 0 7)), .long (lI (k 0 8))])), (q 4, aI g 48 (k 2)), (q 5, aI g 4 (k 3)), (q 6, aI g 4 (k 4)), (q 7, aI g 4 (k 5))]) rfl rfl rfl ?_
        refine j_istore (L1 := [(6, .int (iI 0)), (0, .ref (q 0)), (1, .int (iI hand)), (2, .int (iI most)), (3, .int (iI 0)), (4, .int (iI left)), (5, .int (iI ((i : Int))))]) C dX2_moveInTurn_36 (by decide) rfl ?_
        refine j_iload C 0 dX2_moveInTurn_38 rfl ?_
        refine j_if_ne (tgt := 46) C (by decide) dX2_moveInTurn_40 (by decide) (fun c40 => absurd c40 (by decide)) (fun c40 => ?_)
        refine j_goto (tgt := 59) C dX2_moveInTurn_43 (by decide) ?_
        refine J.sub (L1 := [(2, .int (iI most)), (4, .int (iI left))]) [3, 5] rfl ?_
        rw [mvs, if_pos hm9] at hfin
        subst hfin
        exact kk
      · refine j_callV (As := [.int (iI (mnx false hand k)), .int (iI left), .int (iI 0)]) (rest := []) C yv_X2_moveOne qw417 (c_X2_moveOne_n2dn l g q k (mnx false hand k) left hk (by omega) hleft hm9) (by decide) 0 rfl rfl rfl dX2_moveInTurn_33 rfl (Nat.le_of_ble_eq_true rfl) (by decide) pf0 rfl (fun r9 w9 hq9 => ?_)
        obtain ⟨rfl, rfl⟩ := hq9
        refine J.to (L1 := [(0, .ref (q 0)), (1, .int (iI hand)), (2, .int (iI most)), (3, .int (iI 0)), (4, .int (iI left)), (5, .int (iI ((i : Int))))]) (S1 := [.int (iI 0)]) (ws1 := [(q 0, .inr (2, [.ref (q 1), .ref (q 3), .ref (q 5), .ref (q 6), .ref (q 7), .int (iI (k 0 0))])), (q 1, .inr (1, [.ref (q 2), .int (iI (k 0 2)), .int (iI (k 0 3)), .int (iI (k 0 1))])), (q 2, aI g 10 (k 1)), (q 3, .inr (0, [.ref (q 4), .int (iI (k 0 9)), .int (iI (k 0 6)), .int (iI (k 0 4)), .int (iI (k 0 5)), .long (lI (k 0 7)), .long (lI (k 0 8))])), (q 4, aI g 48 (k 2)), (q 5, aI g 4 (k 3)), (q 6, aI g 4 (k 4)), (q 7, aI g 4 (k 5))]) rfl rfl rfl ?_
        refine j_istore (L1 := [(6, .int (iI 0)), (0, .ref (q 0)), (1, .int (iI hand)), (2, .int (iI most)), (3, .int (iI 0)), (4, .int (iI left)), (5, .int (iI ((i : Int))))]) C dX2_moveInTurn_36 (by decide) rfl ?_
        refine j_iload C 0 dX2_moveInTurn_38 rfl ?_
        refine j_if_ne (tgt := 46) C (by decide) dX2_moveInTurn_40 (by decide) (fun c40 => absurd c40 (by decide)) (fun c40 => ?_)
        refine j_goto (tgt := 59) C dX2_moveInTurn_43 (by decide) ?_
        refine J.sub (L1 := [(2, .int (iI most)), (4, .int (iI left))]) [3, 5] rfl ?_
        rw [mvs, if_pos hm9] at hfin
        subst hfin
        exact kk
    · refine j_callV (As := [.int (iI (mnx false hand k)), .int (iI left), .int (iI 0)]) (rest := []) C yv_X2_moveOne qw417 (c_X2_moveOne_dn l g q k (mnx false hand k) left hk (by have := (mwy_pos (Int.not_le.mp hm9)).1; omega) hleft (by omega)) (by decide) 0 rfl rfl rfl dX2_moveInTurn_33 rfl (Nat.le_of_ble_eq_true rfl) (by decide) pf0 rfl (fun r9 w9 hq9 => ?_)
      obtain ⟨rfl, rfl⟩ := hq9
      refine J.to (L1 := [(0, .ref (q 0)), (1, .int (iI hand)), (2, .int (iI most)), (3, .int (iI 0)), (4, .int (iI left)), (5, .int (iI ((i : Int))))]) (S1 := [.int (iI (mwy k (mnx false hand k) left false * mst k (mnx false hand k)))]) (ws1 := [(q 0, .inr (2, [.ref (q 1), .ref (q 3), .ref (q 5), .ref (q 6), .ref (q 7), .int (iI ((mvk false k (mnx false hand k) (mwy k (mnx false hand k) left false)) 0 0))])), (q 1, .inr (1, [.ref (q 2), .int (iI ((mvk false k (mnx false hand k) (mwy k (mnx false hand k) left false)) 0 2)), .int (iI ((mvk false k (mnx false hand k) (mwy k (mnx false hand k) left false)) 0 3)), .int (iI ((mvk false k (mnx false hand k) (mwy k (mnx false hand k) left false)) 0 1))])), (q 2, aI g 10 ((mvk false k (mnx false hand k) (mwy k (mnx false hand k) left false)) 1)), (q 3, .inr (0, [.ref (q 4), .int (iI ((mvk false k (mnx false hand k) (mwy k (mnx false hand k) left false)) 0 9)), .int (iI ((mvk false k (mnx false hand k) (mwy k (mnx false hand k) left false)) 0 6)), .int (iI ((mvk false k (mnx false hand k) (mwy k (mnx false hand k) left false)) 0 4)), .int (iI ((mvk false k (mnx false hand k) (mwy k (mnx false hand k) left false)) 0 5)), .long (lI ((mvk false k (mnx false hand k) (mwy k (mnx false hand k) left false)) 0 7)), .long (lI ((mvk false k (mnx false hand k) (mwy k (mnx false hand k) left false)) 0 8))])), (q 4, aI g 48 ((mvk false k (mnx false hand k) (mwy k (mnx false hand k) left false)) 2)), (q 5, aI g 4 ((mvk false k (mnx false hand k) (mwy k (mnx false hand k) left false)) 3)), (q 6, aI g 4 ((mvk false k (mnx false hand k) (mwy k (mnx false hand k) left false)) 4)), (q 7, aI g 4 ((mvk false k (mnx false hand k) (mwy k (mnx false hand k) left false)) 5))]) rfl rfl rfl ?_
      have hp9 := mwy_pos (Int.not_le.mp hm9)
      have hp8 := mwy_rng hk (b := mnx false hand k) (up := false) hleft.1
      refine j_istore (L1 := [(6, .int (iI (mwy k (mnx false hand k) left false * mst k (mnx false hand k)))), (0, .ref (q 0)), (1, .int (iI hand)), (2, .int (iI most)), (3, .int (iI 0)), (4, .int (iI left)), (5, .int (iI ((i : Int))))]) C dX2_moveInTurn_36 (by decide) rfl ?_
      refine j_iload C 0 dX2_moveInTurn_38 rfl ?_
      refine j_if_ne (tgt := 46) C (by omega) dX2_moveInTurn_40 (by decide) (fun c40 => ?_) (fun c40 => absurd c40 (by omega))
      refine j_iload C 5 dX2_moveInTurn_46 rfl ?_
      refine j_iload C 0 dX2_moveInTurn_48 rfl ?_
      refine j_isub C dX2_moveInTurn_50 ?_
      refine j_istore (L1 := [(4, .int (iI (left - (mwy k (mnx false hand k) left false * mst k (mnx false hand k))))), (6, .int (iI (mwy k (mnx false hand k) left false * mst k (mnx false hand k)))), (0, .ref (q 0)), (1, .int (iI hand)), (2, .int (iI most)), (3, .int (iI 0)), (5, .int (iI ((i : Int))))]) C dX2_moveInTurn_51 (by decide) rfl ?_
      refine j_iinc (L1 := [(5, .int (iI (((i : Int)) + 1))), (4, .int (iI (left - (mwy k (mnx false hand k) left false * mst k (mnx false hand k))))), (6, .int (iI (mwy k (mnx false hand k) left false * mst k (mnx false hand k)))), (0, .ref (q 0)), (1, .int (iI hand)), (2, .int (iI most)), (3, .int (iI 0))]) C 6 dX2_moveInTurn_53 rfl (by decide) rfl ?_
      refine j_goto (tgt := 6) C dX2_moveInTurn_56 (by decide) ?_
      refine J.sub (L1 := [(0, .ref (q 0)), (1, .int (iI hand)), (2, .int (iI most)), (3, .int (iI 0)), (4, .int (iI (left - (mwy k (mnx false hand k) left false * mst k (mnx false hand k))))), (5, .int (iI (((i : Int)) + 1)))]) [3, 4, 5, 6, 1, 0] rfl ?_
      exact ih (i + 1) _ _ (by omega) (SOK_mvk hk (Int.not_le.mp hm9)) hfc (by omega) (by rw [mvs, if_neg hm9] at hfin; exact hfin)

theorem c_X2_moveInTurn_dn (l : Launch) (g : Gh) (q : Nat → Nat) (k : Nat → Nat → Int) (hand most : Int) (hk : SOK k) (hfc : ∀ b : Nat, b < 4 → -1 ≤ k 5 b ∧ k 5 b ≤ 1000000) (hhand : 0 ≤ hand ∧ hand ≤ 1000000) (hmost : 0 ≤ most ∧ most ≤ 300000) : CT l g yX2_moveInTurn cX2_moveInTurn 7 (some FieldType.int) ({ frames := 3, cells := 0, slots := 0, locals := 72 }) [.ref (q 0), .int (iI hand), .int (iI most), .int (iI 0)] [(q 0, .inr (2, [.ref (q 1), .ref (q 3), .ref (q 5), .ref (q 6), .ref (q 7), .int (iI (k 0 0))])), (q 1, .inr (1, [.ref (q 2), .int (iI (k 0 2)), .int (iI (k 0 3)), .int (iI (k 0 1))])), (q 2, aI g 10 (k 1)), (q 3, .inr (0, [.ref (q 4), .int (iI (k 0 9)), .int (iI (k 0 6)), .int (iI (k 0 4)), .int (iI (k 0 5)), .long (lI (k 0 7)), .long (lI (k 0 8))])), (q 4, aI g 48 (k 2)), (q 5, aI g 4 (k 3)), (q 6, aI g 4 (k 4)), (q 7, aI g 4 (k 5))] (PE (some (.int (iI (most - (mvs false hand 4 k most).2)))) (wSt g q (mvs false hand 4 k most).1)) := by
  refine CT.intro (L0 := [(0, .ref (q 0)), (1, .int (iI hand)), (2, .int (iI most)), (3, .int (iI 0))]) (own := RX2) (by decide) rfl (Nat.le_of_ble_eq_true rfl) rfl ?_
  intro pX eX sX mX argsX belowX methX cX A C hr hlk
  obtain ⟨hP, hE0, hF, hrow0, hwt, hht, hlen, hlat, hkept⟩ := id hk
  have hE : -10 ≤ k 0 3 ∧ k 0 3 ≤ 10 := by omega
  have hrow : ∀ i : Nat, (i : Int) < k 0 2 → 0 ≤ k 1 i ∧ k 1 i ≤ 4 := fun i hi => by have := hrow0 i hi; omega
  refine j_iload_n C 2 dX2_moveInTurn_0 rfl rfl ?_
  refine j_istore (L1 := [(4, .int (iI most)), (0, .ref (q 0)), (1, .int (iI hand)), (2, .int (iI most)), (3, .int (iI 0))]) C dX2_moveInTurn_1 (by decide) rfl ?_
  refine j_iconst C dX2_moveInTurn_3 ?_
  refine j_istore (L1 := [(5, .int (iI 0)), (4, .int (iI most)), (0, .ref (q 0)), (1, .int (iI hand)), (2, .int (iI most)), (3, .int (iI 0))]) C dX2_moveInTurn_4 (by decide) rfl ?_
  refine J.sub (L1 := [(0, .ref (q 0)), (1, .int (iI hand)), (2, .int (iI most)), (3, .int (iI 0)), (4, .int (iI most)), (5, .int (iI 0))]) [2, 3, 4, 5, 1, 0] rfl ?_
  refine lp_moveInTurn_dn C hhand (mvs false hand 4 k most) ?_ 4 0 k most (by omega) hk hfc hmost rfl
  refine j_iload_n C 0 dX2_moveInTurn_59 rfl rfl ?_
  refine j_iload C 1 dX2_moveInTurn_60 rfl ?_
  refine j_isub C dX2_moveInTurn_62 ?_
  exact j_iret C hr hlk dX2_moveInTurn_63 ⟨rfl, rfl⟩ (by decide) (by decide)

/-- the least forces reckoned -/
noncomputable def rck (k : Nat → Nat → Int) (h : Bool) : Nat → Nat → Int := va_up k 5 (cpy 4 (frc k h) (k 5))
theorem SOK_rck {k : Nat → Nat → Int} (hk : SOK k) (h : Bool) : SOK (rck k h) := hk
theorem fc_rck (k : Nat → Nat → Int) (h : Bool) : ∀ b : Nat, b < 4 → -1 ≤ rck k h 5 b ∧ rck k h 5 b ≤ 1000000 := by
  intro b hb
  show -1 ≤ cpy 4 (frc k h) (k 5) b ∧ cpy 4 (frc k h) (k 5) b ≤ 1000000
  unfold cpy
  rw [if_pos hb]
  exact lea_rng ..
theorem mvs_rng {up : Bool} {hand : Int} : ∀ (n : Nat) {k : Nat → Nat → Int} {left : Int}, SOK k → 0 ≤ left → SOK (mvs up hand n k left).1 ∧ 0 ≤ (mvs up hand n k left).2 ∧ (mvs up hand n k left).2 ≤ left
  | 0, k, left, hk, hl => ⟨hk, hl, Int.le_refl _⟩
  | n + 1, k, left, hk, hl => by
    rw [mvs]
    split
    · exact ⟨hk, hl, Int.le_refl _⟩
    · next h =>
      have h1 := mwy_pos (Int.not_le.mp h)
      have h2 := mwy_rng hk (b := mnx up hand k) (up := up) hl
      have h3 := mvs_rng (up := up) (hand := hand) n (SOK_mvk hk (Int.not_le.mp h)) (left := left - mwy k (mnx up hand k) left up * mst k (mnx up hand k)) (by omega)
      exact ⟨h3.1, h3.2.1, by omega⟩
/-- hauling: the state behind it and the rope -/
noncomputable def mup (hand most : Int) (k : Nat → Nat → Int) : (Nat → Nat → Int) × Int :=
  (va_up (mvs true hand 4 (rck k true) most).1 0 (va_up ((mvs true hand 4 (rck k true) most).1 0) 7 ((mvs true hand 4 (rck k true) most).1 0 7 + hand * (most - (mvs true hand 4 (rck k true) most).2))), most - (mvs true hand 4 (rck k true) most).2)
noncomputable def mll (k : Nat → Nat → Int) (most : Int) : Int := if hnd k < most then hnd k else most
noncomputable def mdn (hand most : Int) (k : Nat → Nat → Int) : (Nat → Nat → Int) × Int :=
  ((mvs false hand 4 (rck k false) (mll k most)).1, mll k most - (mvs false hand 4 (rck k false) (mll k most)).2)
theorem c_X2_moveUp (l : Launch) (g : Gh) (q : Nat → Nat) (k : Nat → Nat → Int) (hand most : Int) (hk : SOK k) (hhand : 0 ≤ hand ∧ hand ≤ 1000000) (hmost : 0 ≤ most ∧ most ≤ 100000) : CT l g yX2_moveUp cX2_moveUp 4 (some FieldType.int) ({ frames := 5, cells := 0, slots := 0, locals := 126 }) [.ref (q 0), .int (iI hand), .int (iI most)] [(q 0, .inr (2, [.ref (q 1), .ref (q 3), .ref (q 5), .ref (q 6), .ref (q 7), .int (iI (k 0 0))])), (q 1, .inr (1, [.ref (q 2), .int (iI (k 0 2)), .int (iI (k 0 3)), .int (iI (k 0 1))])), (q 2, aI g 10 (k 1)), (q 3, .inr (0, [.ref (q 4), .int (iI (k 0 9)), .int (iI (k 0 6)), .int (iI (k 0 4)), .int (iI (k 0 5)), .long (lI (k 0 7)), .long (lI (k 0 8))])), (q 4, aI g 48 (k 2)), (q 5, aI g 4 (k 3)), (q 6, aI g 4 (k 4)), (q 7, aI g 4 (k 5))] (PE (some (.int (iI (mup hand most k).2))) (wSt g q (mup hand most k).1)) := by
  refine CT.intro (L0 := [(0, .ref (q 0)), (1, .int (iI hand)), (2, .int (iI most))]) (own := RX2) (by decide) rfl (Nat.le_of_ble_eq_true rfl) rfl ?_
  intro pX eX sX mX argsX belowX methX cX A C hr hlk
  obtain ⟨hP, hE0, hF, hrow0, hwt, hht, hlen, hlat, hkept⟩ := id hk
  have hE : -10 ≤ k 0 3 ∧ k 0 3 ≤ 10 := by omega
  have hrow : ∀ i : Nat, (i : Int) < k 0 2 → 0 ≤ k 1 i ∧ k 1 i ≤ 4 := fun i hi => by have := hrow0 i hi; omega
  have hv9 := mvs_rng (up := true) (hand := hand) 4 (SOK_rck hk true) hmost.1
  refine j_aload_n C 0 dX2_moveUp_0 rfl rfl ?_
  refine j_iconst C dX2_moveUp_1 ?_
  refine j_callV (As := [.int (iI 1)]) (rest := []) C yv_X2_reckonForces qw381 (c_X2_reckonForces l g q k true hk) (by decide) 0 rfl rfl rfl dX2_moveUp_2 rfl (Nat.le_of_ble_eq_true rfl) (by decide) pf0 rfl (fun r9 w9 hq9 => ?_)
  obtain ⟨rfl, rfl⟩ := hq9
  refine J.to (L1 := [(0, .ref (q 0)), (1, .int (iI hand)), (2, .int (iI most))]) (S1 := []) (ws1 := [(q 0, .inr (2, [.ref (q 1), .ref (q 3), .ref (q 5), .ref (q 6), .ref (q 7), .int (iI ((rck k true) 0 0))])), (q 1, .inr (1, [.ref (q 2), .int (iI ((rck k true) 0 2)), .int (iI ((rck k true) 0 3)), .int (iI ((rck k true) 0 1))])), (q 2, aI g 10 ((rck k true) 1)), (q 3, .inr (0, [.ref (q 4), .int (iI ((rck k true) 0 9)), .int (iI ((rck k true) 0 6)), .int (iI ((rck k true) 0 4)), .int (iI ((rck k true) 0 5)), .long (lI ((rck k true) 0 7)), .long (lI ((rck k true) 0 8))])), (q 4, aI g 48 ((rck k true) 2)), (q 5, aI g 4 ((rck k true) 3)), (q 6, aI g 4 ((rck k true) 4)), (q 7, aI g 4 ((rck k true) 5))]) rfl rfl rfl ?_
  refine j_aload_n C 0 dX2_moveUp_5 rfl rfl ?_
  refine j_iload_n C 1 dX2_moveUp_6 rfl rfl ?_
  refine j_iload_n C 2 dX2_moveUp_7 rfl rfl ?_
  refine j_iconst C dX2_moveUp_8 ?_
  refine j_callV (As := [.int (iI hand), .int (iI most), .int (iI 1)]) (rest := []) C yv_X2_moveInTurn qw405 (c_X2_moveInTurn_up l g q (rck k true) hand most (SOK_rck hk true) (fc_rck k true) (by omega) (by omega)) (by decide) 0 rfl rfl rfl dX2_moveUp_9 rfl (Nat.le_of_ble_eq_true rfl) (by decide) pf0 rfl (fun r9 w9 hq9 => ?_)
  obtain ⟨rfl, rfl⟩ := hq9
  refine J.to (L1 := [(0, .ref (q 0)), (1, .int (iI hand)), (2, .int (iI most))]) (S1 := [.int (iI (most - (mvs true hand 4 (rck k true) most).2))]) (ws1 := [(q 0, .inr (2, [.ref (q 1), .ref (q 3), .ref (q 5), .ref (q 6), .ref (q 7), .int (iI (((mvs true hand 4 (rck k true) most).1) 0 0))])), (q 1, .inr (1, [.ref (q 2), .int (iI (((mvs true hand 4 (rck k true) most).1) 0 2)), .int (iI (((mvs true hand 4 (rck k true) most).1) 0 3)), .int (iI (((mvs true hand 4 (rck k true) most).1) 0 1))])), (q 2, aI g 10 (((mvs true hand 4 (rck k true) most).1) 1)), (q 3, .inr (0, [.ref (q 4), .int (iI (((mvs true hand 4 (rck k true) most).1) 0 9)), .int (iI (((mvs true hand 4 (rck k true) most).1) 0 6)), .int (iI (((mvs true hand 4 (rck k true) most).1) 0 4)), .int (iI (((mvs true hand 4 (rck k true) most).1) 0 5)), .long (lI (((mvs true hand 4 (rck k true) most).1) 0 7)), .long (lI (((mvs true hand 4 (rck k true) most).1) 0 8))])), (q 4, aI g 48 (((mvs true hand 4 (rck k true) most).1) 2)), (q 5, aI g 4 (((mvs true hand 4 (rck k true) most).1) 3)), (q 6, aI g 4 (((mvs true hand 4 (rck k true) most).1) 4)), (q 7, aI g 4 (((mvs true hand 4 (rck k true) most).1) 5))]) rfl rfl rfl ?_
  refine j_istore_n (L1 := [(3, .int (iI (most - (mvs true hand 4 (rck k true) most).2))), (0, .ref (q 0)), (1, .int (iI hand)), (2, .int (iI most))]) C dX2_moveUp_12 rfl (by decide) rfl ?_
  refine j_aload_n C 1 dX2_moveUp_13 rfl rfl ?_
  refine j_get C ck2 0 1 (by decide) qw91 rfl rfl dX2_moveUp_14 ?_
  refine j_dup C dX2_moveUp_17 rfl ?_
  refine j_getN C ck0 3 5 (by decide) qn67 rfl rfl dX2_moveUp_18 ?_
  refine j_iload_n C 2 dX2_moveUp_21 rfl rfl ?_
  refine j_i2l C (by omega) dX2_moveUp_22 ?_
  refine j_iload_n C 0 dX2_moveUp_23 rfl rfl ?_
  refine j_i2l C (by omega) dX2_moveUp_24 ?_
  refine j_lmul C dX2_moveUp_25 ?_
  refine j_ladd C dX2_moveUp_26 ?_
  refine j_putN (ws1 := [(q 0, .inr (2, [.ref (q 1), .ref (q 3), .ref (q 5), .ref (q 6), .ref (q 7), .int (iI (((mvs true hand 4 (rck k true) most).1) 0 0))])), (q 1, .inr (1, [.ref (q 2), .int (iI (((mvs true hand 4 (rck k true) most).1) 0 2)), .int (iI (((mvs true hand 4 (rck k true) most).1) 0 3)), .int (iI (((mvs true hand 4 (rck k true) most).1) 0 1))])), (q 2, aI g 10 (((mvs true hand 4 (rck k true) most).1) 1)), (q 3, .inr (0, [.ref (q 4), .int (iI (((mvs true hand 4 (rck k true) most).1) 0 9)), .int (iI (((mvs true hand 4 (rck k true) most).1) 0 6)), .int (iI (((mvs true hand 4 (rck k true) most).1) 0 4)), .int (iI (((mvs true hand 4 (rck k true) most).1) 0 5)), .long (lI ((((mvs true hand 4 (rck k true) most).1) 0 7) + (hand * (most - (mvs true hand 4 (rck k true) most).2)))), .long (lI (((mvs true hand 4 (rck k true) most).1) 0 8))])), (q 4, aI g 48 (((mvs true hand 4 (rck k true) most).1) 2)), (q 5, aI g 4 (((mvs true hand 4 (rck k true) most).1) 3)), (q 6, aI g 4 (((mvs true hand 4 (rck k true) most).1) 4)), (q 7, aI g 4 (((mvs true hand 4 (rck k true) most).1) 5))]) C ck0 3 5 (by decide) qn67 rfl dX2_moveUp_27 rfl rfl rfl rfl (Nat.le_of_ble_eq_true rfl) ?_
  refine j_iload_n C 0 dX2_moveUp_30 rfl rfl ?_
  exact j_iret C hr hlk dX2_moveUp_31 ⟨rfl, rfl⟩ (by decide) (by decide)

theorem c_X2_moveDown (l : Launch) (g : Gh) (q : Nat → Nat) (k : Nat → Nat → Int) (hand most : Int) (hk : SOK k) (hhand : 0 ≤ hand ∧ hand ≤ 1000000) (hmost : 0 ≤ most ∧ most ≤ 100000) (hhnd : 0 ≤ hnd k ∧ hnd k ≤ 300000) : CT l g yX2_moveDown cX2_moveDown 3 (some FieldType.int) ({ frames := 5, cells := 0, slots := 0, locals := 126 }) [.ref (q 0), .int (iI hand), .int (iI most)] [(q 0, .inr (2, [.ref (q 1), .ref (q 3), .ref (q 5), .ref (q 6), .ref (q 7), .int (iI (k 0 0))])), (q 1, .inr (1, [.ref (q 2), .int (iI (k 0 2)), .int (iI (k 0 3)), .int (iI (k 0 1))])), (q 2, aI g 10 (k 1)), (q 3, .inr (0, [.ref (q 4), .int (iI (k 0 9)), .int (iI (k 0 6)), .int (iI (k 0 4)), .int (iI (k 0 5)), .long (lI (k 0 7)), .long (lI (k 0 8))])), (q 4, aI g 48 (k 2)), (q 5, aI g 4 (k 3)), (q 6, aI g 4 (k 4)), (q 7, aI g 4 (k 5))] (PE (some (.int (iI (mdn hand most k).2))) (wSt g q (mdn hand most k).1)) := by
  refine CT.intro (L0 := [(0, .ref (q 0)), (1, .int (iI hand)), (2, .int (iI most))]) (own := RX2) (by decide) rfl (Nat.le_of_ble_eq_true rfl) rfl ?_
  intro pX eX sX mX argsX belowX methX cX A C hr hlk
  obtain ⟨hP, hE0, hF, hrow0, hwt, hht, hlen, hlat, hkept⟩ := id hk
  have hE : -10 ≤ k 0 3 ∧ k 0 3 ≤ 10 := by omega
  have hrow : ∀ i : Nat, (i : Int) < k 0 2 → 0 ≤ k 1 i ∧ k 1 i ≤ 4 := fun i hi => by have := hrow0 i hi; omega
  have hl9 : 0 ≤ mll k most ∧ mll k most ≤ 100000 := by unfold mll; split <;> omega
  have hv9 := mvs_rng (up := false) (hand := hand) 4 (SOK_rck hk false) hl9.1
  refine j_aload_n C 0 dX2_moveDown_0 rfl rfl ?_
  refine j_iconst C dX2_moveDown_1 ?_
  refine j_callV (As := [.int (iI 0)]) (rest := []) C yv_X2_reckonForces qw381 (c_X2_reckonForces l g q k false hk) (by decide) 0 rfl rfl rfl dX2_moveDown_2 rfl (Nat.le_of_ble_eq_true rfl) (by decide) pf0 rfl (fun r9 w9 hq9 => ?_)
  obtain ⟨rfl, rfl⟩ := hq9
  refine J.to (L1 := [(0, .ref (q 0)), (1, .int (iI hand)), (2, .int (iI most))]) (S1 := []) (ws1 := [(q 0, .inr (2, [.ref (q 1), .ref (q 3), .ref (q 5), .ref (q 6), .ref (q 7), .int (iI ((rck k false) 0 0))])), (q 1, .inr (1, [.ref (q 2), .int (iI ((rck k false) 0 2)), .int (iI ((rck k false) 0 3)), .int (iI ((rck k false) 0 1))])), (q 2, aI g 10 ((rck k false) 1)), (q 3, .inr (0, [.ref (q 4), .int (iI ((rck k false) 0 9)), .int (iI ((rck k false) 0 6)), .int (iI ((rck k false) 0 4)), .int (iI ((rck k false) 0 5)), .long (lI ((rck k false) 0 7)), .long (lI ((rck k false) 0 8))])), (q 4, aI g 48 ((rck k false) 2)), (q 5, aI g 4 ((rck k false) 3)), (q 6, aI g 4 ((rck k false) 4)), (q 7, aI g 4 ((rck k false) 5))]) rfl rfl rfl ?_
  refine j_aload_n C 0 dX2_moveDown_5 rfl rfl ?_
  refine j_iload_n C 1 dX2_moveDown_6 rfl rfl ?_
  refine j_iload_n C 2 dX2_moveDown_7 rfl rfl ?_
  refine j_aload_n C 0 dX2_moveDown_8 rfl rfl ?_
  refine j_callV (As := []) (rest := [.int (iI most), .int (iI hand), .ref (q 0)]) C yv_X2_inHand qw534 (c_X2_inHand l g q (rck k false) (SOK_rck hk false)) (by decide) 0 rfl rfl rfl dX2_moveDown_9 rfl (Nat.le_of_ble_eq_true rfl) (by decide) pf0 rfl (fun r9 w9 hq9 => ?_)
  obtain ⟨rfl, rfl⟩ := hq9
  refine J.to (L1 := [(0, .ref (q 0)), (1, .int (iI hand)), (2, .int (iI most))]) (S1 := [.int (iI (hnd k)), .int (iI most), .int (iI hand), .ref (q 0)]) (ws1 := [(q 0, .inr (2, [.ref (q 1), .ref (q 3), .ref (q 5), .ref (q 6), .ref (q 7), .int (iI ((rck k false) 0 0))])), (q 1, .inr (1, [.ref (q 2), .int (iI ((rck k false) 0 2)), .int (iI ((rck k false) 0 3)), .int (iI ((rck k false) 0 1))])), (q 2, aI g 10 ((rck k false) 1)), (q 3, .inr (0, [.ref (q 4), .int (iI ((rck k false) 0 9)), .int (iI ((rck k false) 0 6)), .int (iI ((rck k false) 0 4)), .int (iI ((rck k false) 0 5)), .long (lI ((rck k false) 0 7)), .long (lI ((rck k false) 0 8))])), (q 4, aI g 48 ((rck k false) 2)), (q 5, aI g 4 ((rck k false) 3)), (q 6, aI g 4 ((rck k false) 4)), (q 7, aI g 4 ((rck k false) 5))]) rfl rfl rfl ?_
  refine j_mmin C (by omega) (by omega) qw422 qw_min1 qw_min2 qw_min3 (by decide) (Nat.le_of_ble_eq_true rfl) (by decide) dX2_moveDown_12 ?_
  refine J.to (L1 := [(0, .ref (q 0)), (1, .int (iI hand)), (2, .int (iI most))]) (S1 := [.int (iI (mll k most)), .int (iI hand), .ref (q 0)]) (ws1 := [(q 0, .inr (2, [.ref (q 1), .ref (q 3), .ref (q 5), .ref (q 6), .ref (q 7), .int (iI ((rck k false) 0 0))])), (q 1, .inr (1, [.ref (q 2), .int (iI ((rck k false) 0 2)), .int (iI ((rck k false) 0 3)), .int (iI ((rck k false) 0 1))])), (q 2, aI g 10 ((rck k false) 1)), (q 3, .inr (0, [.ref (q 4), .int (iI ((rck k false) 0 9)), .int (iI ((rck k false) 0 6)), .int (iI ((rck k false) 0 4)), .int (iI ((rck k false) 0 5)), .long (lI ((rck k false) 0 7)), .long (lI ((rck k false) 0 8))])), (q 4, aI g 48 ((rck k false) 2)), (q 5, aI g 4 ((rck k false) 3)), (q 6, aI g 4 ((rck k false) 4)), (q 7, aI g 4 ((rck k false) 5))]) rfl rfl (by rw [show ((if hnd k < most then hnd k else most : Int)) = mll k most from rfl]) ?_
  refine j_iconst C dX2_moveDown_15 ?_
  refine j_callV (As := [.int (iI hand), .int (iI (mll k most)), .int (iI 0)]) (rest := []) C yv_X2_moveInTurn qw405 (c_X2_moveInTurn_dn l g q (rck k false) hand (mll k most) (SOK_rck hk false) (fc_rck k false) (by omega) (by omega)) (by decide) 0 rfl rfl rfl dX2_moveDown_16 rfl (Nat.le_of_ble_eq_true rfl) (by decide) pf0 rfl (fun r9 w9 hq9 => ?_)
  obtain ⟨rfl, rfl⟩ := hq9
  refine J.to (L1 := [(0, .ref (q 0)), (1, .int (iI hand)), (2, .int (iI most))]) (S1 := [.int (iI ((mll k most) - (mvs false hand 4 (rck k false) (mll k most)).2))]) (ws1 := [(q 0, .inr (2, [.ref (q 1), .ref (q 3), .ref (q 5), .ref (q 6), .ref (q 7), .int (iI (((mvs false hand 4 (rck k false) (mll k most)).1) 0 0))])), (q 1, .inr (1, [.ref (q 2), .int (iI (((mvs false hand 4 (rck k false) (mll k most)).1) 0 2)), .int (iI (((mvs false hand 4 (rck k false) (mll k most)).1) 0 3)), .int (iI (((mvs false hand 4 (rck k false) (mll k most)).1) 0 1))])), (q 2, aI g 10 (((mvs false hand 4 (rck k false) (mll k most)).1) 1)), (q 3, .inr (0, [.ref (q 4), .int (iI (((mvs false hand 4 (rck k false) (mll k most)).1) 0 9)), .int (iI (((mvs false hand 4 (rck k false) (mll k most)).1) 0 6)), .int (iI (((mvs false hand 4 (rck k false) (mll k most)).1) 0 4)), .int (iI (((mvs false hand 4 (rck k false) (mll k most)).1) 0 5)), .long (lI (((mvs false hand 4 (rck k false) (mll k most)).1) 0 7)), .long (lI (((mvs false hand 4 (rck k false) (mll k most)).1) 0 8))])), (q 4, aI g 48 (((mvs false hand 4 (rck k false) (mll k most)).1) 2)), (q 5, aI g 4 (((mvs false hand 4 (rck k false) (mll k most)).1) 3)), (q 6, aI g 4 (((mvs false hand 4 (rck k false) (mll k most)).1) 4)), (q 7, aI g 4 (((mvs false hand 4 (rck k false) (mll k most)).1) 5))]) rfl rfl rfl ?_
  exact j_iret C hr hlk dX2_moveDown_19 ⟨rfl, rfl⟩ (by decide) (by decide)

