/-! the relation is kept by a move -/
theorem rel_led {k : Nat → Nat → Int} {w : Nat → Int} {v : Nat → Int} {b rise rope lat : Int} (hlat : lat = k 0 9) (hl : 0 ≤ k 0 9 ∧ k 0 9 ≤ 15)
    (hr : ∀ j w : Nat, (j : Int) < v 6 → w < 3 → k 2 ((k 0 9 - (j : Int)) % 16 * 3 + (w : Int)).toNat = v (27 + (3 * j + w)))
    (h6 : w 6 = v 6 + if v 6 < 16 then 1 else 0) (hv6 : 0 ≤ v 6 ∧ v 6 ≤ 16) (h27 : w 27 = b ∧ w 28 = rise ∧ w 29 = rope) (hhi : ∀ j, 30 ≤ j → j < 75 → w j = v (j - 3)) :
    ∀ j c : Nat, (j : Int) < w 6 → c < 3 → va_up (va_up (va_up (k 2) ((lat + 1) % 16 * 3).toNat b) ((lat + 1) % 16 * 3 + 1).toNat rise) ((lat + 1) % 16 * 3 + 2).toNat rope (((lat + 1) % 16 - (j : Int)) % 16 * 3 + (c : Int)).toNat = w (27 + (3 * j + c)) := by
  intro j c hj hc
  subst hlat
  have hj2 : (j : Int) < v 6 + 1 ∧ j < 16 := by
    rw [h6] at hj
    by_cases h : v 6 < 16
    · rw [if_pos h] at hj; omega
    · rw [if_neg h] at hj; omega
  match j, hj2 with
  | 0, _ =>
    rcases (by omega : c = 0 ∨ c = 1 ∨ c = 2) with rfl | rfl | rfl
    · rw [va_ne (by omega), va_ne (by omega)]
      unfold va_up
      rw [if_pos (by omega)]
      exact h27.1.symm
    · rw [va_ne (by omega)]
      unfold va_up
      rw [if_pos (by omega)]
      exact h27.2.1.symm
    · unfold va_up
      rw [if_pos (by omega)]
      exact h27.2.2.symm
  | j + 1, hj2 =>
    rw [va_ne (by omega), va_ne (by omega), va_ne (by omega), show ((((k 0 9 + 1) % 16 - ((j + 1 : Nat) : Int)) % 16 * 3 + (c : Int)).toNat) = ((k 0 9 - (j : Int)) % 16 * 3 + (c : Int)).toNat by omega, hr j c (by omega) hc, hhi _ (by omega) (by omega), show 27 + (3 * (j + 1) + c) - 3 = 27 + (3 * j + c) by omega]
theorem rel_mvk {k : Nat → Nat → Int} {v : Nat → Int} (h : RelS k v) (hk : SOK k) {up : Bool} {b way : Int} (hb : 0 ≤ b ∧ b < 4) : RelS (mvk up k b way) (mkV up v b way) := by
  have hm := rel_ok h hk
  obtain ⟨r0, r1, r3, r4, r5⟩ := id h
  have hs := SmR_mkV (up := up) hm (way := way) hb
  have hst : mst k b = strV v b := rel_st h b
  refine ⟨fun j hj => ?_, fun i hi => ?_, fun c hc => ?_, fun c hc => ?_, ?_⟩
  · have hv6 := hm.2.2.2.2.2.2.2
    rcases (by omega : j = 0 ∨ j = 1 ∨ j = 2 ∨ j = 3 ∨ j = 4 ∨ j = 5 ∨ j = 6 ∨ j = 7 ∨ j = 8) with rfl | rfl | rfl | rfl | rfl | rfl | rfl | rfl | rfl
    · rw [hs.1]; exact r0 0 (by decide)
    · rw [hs.2.1]; exact r0 1 (by decide)
    · rw [hs.2.2.1]; exact r0 2 (by decide)
    · rw [hs.2.2.2.1]; exact r0 3 (by decide)
    · cases up
      · show k 0 4 = mkd v b way 4
        rw [mkd_o (by omega)]; exact r0 4 (by decide)
      · show k 0 4 + 1 = mk2 v b way 4 + 1
        rw [mk2_o (by decide) (by omega), r0 4 (by decide)]
    · cases up
      · show k 0 5 + 1 = mkd v b way 5 + 1
        rw [mkd_o (by omega), r0 5 (by decide)]
      · show k 0 5 = mk2 v b way 5
        rw [mk2_o (by decide) (by omega)]; exact r0 5 (by decide)
    · rw [mkV_6]
      show (if 16 < k 0 6 + 1 then 16 else k 0 6 + 1) = _
      rw [r0 6 (by decide)]
      split <;> split <;> omega
    · rw [mkV_o (by decide) (by decide) (by decide) (by decide) (by decide) (by omega)]
      exact r0 7 (by decide)
    · cases up
      · show k 0 8 = entV false (mkd v b way) b (-way) (-strV v b * way) 8
        rw [ent_lo (by decide) (by decide) (by decide) (by decide), mkd_o (by omega)]; exact r0 8 (by decide)
      · show k 0 8 + k 3 b.toNat * way = entV true (mk2 v b way) b way (strV v b * way) 8
        rw [ent_lo (by decide) (by decide) (by decide) (by decide), r0 8 (by decide), r3 b.toNat (by omega)]
        simp only [mk2, mk1, va_up]
        rw [if_pos trivial, if_neg (by omega), if_neg (by omega)]
  · rw [hs.2.2.1] at hi
    rw [hs.2.2.2.2.1 i hi]
    exact r1 i hi
  · rw [hs.2.2.2.2.2 c hc]
    exact r3 c hc
  · rw [mkV_h hb hc]
    show va_up (k 4) b.toNat (k 4 b.toNat + (if up = true then way else -way)) c = _
    by_cases he : c = b.toNat
    · subst he
      unfold va_up
      rw [if_pos rfl, if_pos rfl, r4 b.toNat (by omega)]
      cases up
      · show vH v b.toNat + -way = vH v b.toNat - way
        omega
      · rfl
    · rw [va_ne he, if_neg he]
      exact r4 c hc
  · have h6 := mkV_6 (up := up) (v := v) (b := b) (way := way)
    refine rel_led (lat := k 0 9) (w := mkV up v b way) rfl hk.2.2.2.2.2.2.2.1 r5 h6 hm.2.2.2.2.2.2.2 ?_ (fun j h1 h2 => ?_)
    · rw [hst]
      cases up
      · have e := ent_27 (up := false) (v := mkd v b way) (b := b) (way := -way) (rope := -strV v b * way)
        refine ⟨e.1, e.2.1, e.2.2.trans ?_⟩
        show -strV v b * way = -way * strV v b
        rw [Int.neg_mul, Int.neg_mul, Int.mul_comm]
      · have e := ent_27 (up := true) (v := mk2 v b way) (b := b) (way := way) (rope := strV v b * way)
        exact ⟨e.1, e.2.1, e.2.2.trans (Int.mul_comm _ _)⟩
    · cases up
      · show entV false (mkd v b way) b (-way) (-strV v b * way) j = _
        rw [ent_hi h1 h2, mkd_o (by omega)]
      · show entV true (mk2 v b way) b way (strV v b * way) j = _
        rw [ent_hi h1 h2, mk2_o (by omega) (by omega)]
theorem rel_mvs {up : Bool} {hand : Int} : ∀ (n : Nat) {k : Nat → Nat → Int} {v : Nat → Int} {left : Int}, RelS k v → SOK k → (∀ b : Nat, b < 4 → k 5 b = frcV v up b) → 0 ≤ left → RelS (mvs up hand n k left).1 (mvV up hand n v left).1 ∧ (mvs up hand n k left).2 = (mvV up hand n v left).2
  | 0, k, v, left, h, hk, h5, hl => ⟨h, rfl⟩
  | n + 1, k, v, left, h, hk, h5, hl => by
    have hmn := rel_mn h h5 hand
    have hm := rel_ok h hk
    rw [mvs, mvV, hmn, rel_mwy h]
    by_cases hw : mwy (kV v) (mnV up hand v) left up ≤ 0
    · rw [if_pos hw, if_pos hw]
      exact ⟨h, rfl⟩
    · rw [if_neg hw, if_neg hw]
      have hp := Int.not_le.mp hw
      have hb := (mwy_pos hp).1
      have hr := mwyV_rng hm hl hp
      have hst : mst k (mnV up hand v) = strV v (mnV up hand v) := rel_st h _
      rw [hst, Int.mul_comm (mwy (kV v) (mnV up hand v) left up)]
      refine rel_mvs n (rel_mvk h hk hb) ?_ (fun b hb4 => ?_) (by omega)
      · have h9 := SOK_mvk hk (b := mnV up hand v) (left := left) (up := up) (by rw [rel_mwy h]; exact hp)
        rw [rel_mwy h] at h9
        exact h9
      · show k 5 b = leaV (mkV up v (mnV up hand v) (mwy (kV v) (mnV up hand v) left up)) up (b : Int)
        rw [h5 b hb4, SmR_lea (SmR_mkV hm hb) up (by omega)]
        rfl
theorem rel_mup {k : Nat → Nat → Int} {v : Nat → Int} (h : RelS k v) (hk : SOK k) {hand most : Int} (hl : 0 ≤ most) : RelS (mup hand most k).1 (hauV hand most v).1 ∧ (mup hand most k).2 = (hauV hand most v).2 := by
  obtain ⟨h1, h2⟩ := rel_mvs (up := true) (hand := hand) 4 (rel_rck h true) (SOK_rck hk true) (fun b hb => rel_frc h true hb) hl
  refine ⟨?_, by show most - _ = most - _; rw [h2]⟩
  obtain ⟨r0, r1, r3, r4, r5⟩ := h1
  refine ⟨fun j hj => ?_, fun i hi => ?_, fun b hb => ?_, fun b hb => ?_, fun j c hj hc => ?_⟩
  · show va_up ((mvs true hand 4 (rck k true) most).1 0) 7 _ j = va_up (mvV true hand 4 v most).1 7 _ j
    unfold va_up
    by_cases h7 : j = 7
    · rw [if_pos h7, if_pos h7, r0 7 (by decide), h2]
    · rw [if_neg h7, if_neg h7]; exact r0 j hj
  · show (mvs true hand 4 (rck k true) most).1 1 i = va_up (mvV true hand 4 v most).1 7 _ (17 + i)
    rw [va_ne (by omega)]
    exact r1 i hi
  · show (mvs true hand 4 (rck k true) most).1 3 b = va_up (mvV true hand 4 v most).1 7 _ (9 + b)
    rw [va_ne (by omega)]
    exact r3 b hb
  · show (mvs true hand 4 (rck k true) most).1 4 b = va_up (mvV true hand 4 v most).1 7 _ (13 + b)
    rw [va_ne (by omega)]
    exact r4 b hb
  · show (mvs true hand 4 (rck k true) most).1 2 _ = va_up (mvV true hand 4 v most).1 7 _ (27 + (3 * j + c))
    rw [va_ne (by omega)]
    exact r5 j c hj hc
theorem rel_mdn {k : Nat → Nat → Int} {v : Nat → Int} (h : RelS k v) (hk : SOK k) {hand most : Int} (hl : 0 ≤ most) (hh : 0 ≤ hnd k) : RelS (mdn hand most k).1 (letV hand most v).1 ∧ (mdn hand most k).2 = (letV hand most v).2 := by
  have e : mll k most = if most < hndV v then most else hndV v := by
    unfold mll
    rw [rel_hnd h]
    split <;> split <;> omega
  have hn : 0 ≤ mll k most := by unfold mll; split <;> omega
  obtain ⟨h1, h2⟩ := rel_mvs (up := false) (hand := hand) 4 (rel_rck h false) (SOK_rck hk false) (fun b hb => rel_frc h false hb) hn
  unfold mdn letV
  rw [← e]
  exact ⟨h1, by show mll k most - _ = mll k most - _; rw [h2]⟩
