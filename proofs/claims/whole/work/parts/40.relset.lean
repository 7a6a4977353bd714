/-! the relation is kept by copies and setters -/
theorem rel_cp {k kt : Nat → Nat → Int} {v : Nat → Int} (h : RelS k v) (hk : SOK k) : RelS (cpS k kt) v := by
  have hm := rel_ok h hk
  have h2 := hm.1
  have h6 := hm.2.2.2.2.2.2.2
  obtain ⟨r0, r1, r3, r4, r5⟩ := h
  refine ⟨r0, fun i hi => ?_, fun b hb => ?_, fun b hb => ?_, fun j c hj hc => ?_⟩
  · show cpy 10 (k 1) (kt 1) i = _
    unfold cpy
    rw [if_pos (by omega)]
    exact r1 i hi
  · show cpy 4 (k 3) (kt 3) b = _
    unfold cpy
    rw [if_pos hb]
    exact r3 b hb
  · show cpy 4 (k 4) (kt 4) b = _
    unfold cpy
    rw [if_pos hb]
    exact r4 b hb
  · show cpy 48 (k 2) (kt 2) ((k 0 9 - (j : Int)) % 16 * 3 + (c : Int)).toNat = _
    unfold cpy
    rw [if_pos (by omega)]
    exact r5 j c hj hc
theorem rel_up0 {k : Nat → Nat → Int} {v : Nat → Int} (h : RelS k v) {j0 : Nat} (hj0 : j0 < 9) (h2 : j0 ≠ 2) (h6 : j0 ≠ 6) {x : Int} : RelS (va_up k 0 (va_up (k 0) j0 x)) (va_up v j0 x) := by
  obtain ⟨r0, r1, r3, r4, r5⟩ := h
  refine ⟨fun j hj => ?_, fun i hi => ?_, fun b hb => ?_, fun b hb => ?_, fun j c hj hc => ?_⟩
  · show va_up (k 0) j0 x j = va_up v j0 x j
    unfold va_up
    by_cases e : j = j0
    · rw [if_pos e, if_pos e]
    · rw [if_neg e, if_neg e]; exact r0 j hj
  · rw [va_ne (by omega)] at hi
    show k 1 i = va_up v j0 x (17 + i)
    rw [va_ne (by omega)]
    exact r1 i hi
  · show k 3 b = va_up v j0 x (9 + b)
    rw [va_ne (by omega)]
    exact r3 b hb
  · show k 4 b = va_up v j0 x (13 + b)
    rw [va_ne (by omega)]
    exact r4 b hb
  · rw [va_ne (by omega)] at hj
    show k 2 ((va_up (k 0) j0 x 9 - (j : Int)) % 16 * 3 + (c : Int)).toNat = va_up v j0 x (27 + (3 * j + c))
    rw [va_ne (by omega), va_ne (by omega)]
    exact r5 j c hj hc
theorem rel_len {k kt : Nat → Nat → Int} {v : Nat → Int} (h : RelS k v) (hk : SOK k) {x : Int} : RelS (kLen k kt x) (va_up v 0 x) := rel_up0 (rel_cp h hk) (by decide) (by decide) (by decide)
theorem rel_end {k kt : Nat → Nat → Int} {v : Nat → Int} (h : RelS k v) (hk : SOK k) {x : Int} : RelS (kEnd k kt x) (va_up v 3 x) := rel_up0 (rel_cp h hk) (by decide) (by decide) (by decide)
theorem rel_w {k : Nat → Nat → Int} {v : Nat → Int} (h : RelS k v) (hk : SOK k) {b w : Int} (hb : 0 ≤ b ∧ b < 4) : RelS (va_up k 3 (va_up (k 3) b.toNat w)) (va_up v (9 + b.toNat) w) := by
  have hm := rel_ok h hk
  have h2 := hm.1
  have h6 := hm.2.2.2.2.2.2.2
  obtain ⟨r0, r1, r3, r4, r5⟩ := h
  refine ⟨fun j hj => ?_, fun i hi => ?_, fun c hc => ?_, fun c hc => ?_, fun j c hj hc => ?_⟩
  · rw [va_ne (by omega)]; exact r0 j hj
  · rw [va_ne (by omega)] at hi
    show k 1 i = va_up v (9 + b.toNat) w (17 + i)
    rw [va_ne (by omega)]
    exact r1 i hi
  · show va_up (k 3) b.toNat w c = va_up v (9 + b.toNat) w (9 + c)
    unfold va_up
    by_cases e : c = b.toNat
    · rw [if_pos e, if_pos (by omega)]
    · rw [if_neg e, if_neg (by omega)]; exact r3 c hc
  · show k 4 c = va_up v (9 + b.toNat) w (13 + c)
    rw [va_ne (by omega)]
    exact r4 c hc
  · rw [va_ne (by omega)] at hj
    show k 2 ((k 0 9 - (j : Int)) % 16 * 3 + (c : Int)).toNat = va_up v (9 + b.toNat) w (27 + (3 * j + c))
    rw [va_ne (by omega)]
    exact r5 j c hj hc
theorem rel_take {k : Nat → Nat → Int} {v : Nat → Int} (h : RelS k v) : RelS (kTake k) (va_up v 2 (v 2 - 1)) := by
  obtain ⟨r0, r1, r3, r4, r5⟩ := h
  refine ⟨fun j hj => ?_, fun i hi => ?_, fun c hc => ?_, fun c hc => ?_, fun j c hj hc => ?_⟩
  · show va_up (k 0) 2 (k 0 2 - 1) j = va_up v 2 (v 2 - 1) j
    unfold va_up
    by_cases e : j = 2
    · rw [if_pos e, if_pos e, r0 2 (by decide)]
    · rw [if_neg e, if_neg e]; exact r0 j hj
  · have hi2 : (i : Int) < v 2 - 1 := hi
    show k 1 i = va_up v 2 _ (17 + i)
    rw [va_ne (by omega)]
    exact r1 i (by omega)
  · show k 3 c = va_up v 2 _ (9 + c)
    rw [va_ne (by omega)]
    exact r3 c hc
  · show k 4 c = va_up v 2 _ (13 + c)
    rw [va_ne (by omega)]
    exact r4 c hc
  · rw [va_ne (by omega)] at hj
    show k 2 ((k 0 9 - (j : Int)) % 16 * 3 + (c : Int)).toNat = va_up v 2 _ (27 + (3 * j + c))
    rw [va_ne (by omega)]
    exact r5 j c hj hc
theorem rel_add {k kt : Nat → Nat → Int} {v : Nat → Int} (h : RelS k v) (hk : SOK k) {b : Int} (hP : v 2 < 10) : RelS (kAdd k kt b) (va_up (va_up v (17 + (v 2).toNat) b) 2 (v 2 + 1)) := by
  have hm := rel_ok h hk
  have h2 := hm.1
  have h6 := hm.2.2.2.2.2.2.2
  obtain ⟨r0, r1, r3, r4, r5⟩ := rel_cp (kt := kt) h hk
  have r2 : k 0 2 = v 2 := r0 2 (by decide)
  refine ⟨fun j hj => ?_, fun i hi => ?_, fun c hc => ?_, fun c hc => ?_, fun j c hj hc => ?_⟩
  · show va_up (k 0) 2 (k 0 2 + 1) j = va_up (va_up v (17 + (v 2).toNat) b) 2 (v 2 + 1) j
    by_cases e : j = 2
    · subst e
      unfold va_up
      rw [if_pos rfl, if_pos rfl, r2]
    · rw [va_ne e, va_ne e, va_ne (by omega)]; exact r0 j hj
  · have hi2 : (i : Int) < v 2 + 1 := hi
    show va_up (cpS k kt 1) (k 0 2).toNat b i = va_up (va_up v (17 + (v 2).toNat) b) 2 (v 2 + 1) (17 + i)
    rw [va_ne (by omega : 17 + i ≠ 2), r2]
    unfold va_up
    by_cases e : i = (v 2).toNat
    · rw [if_pos e, if_pos (by omega)]
    · rw [if_neg e, if_neg (by omega)]; exact r1 i (by omega)
  · show cpS k kt 3 c = va_up (va_up v (17 + (v 2).toNat) b) 2 (v 2 + 1) (9 + c)
    rw [va_ne (by omega), va_ne (by omega)]
    exact r3 c hc
  · show cpS k kt 4 c = va_up (va_up v (17 + (v 2).toNat) b) 2 (v 2 + 1) (13 + c)
    rw [va_ne (by omega), va_ne (by omega)]
    exact r4 c hc
  · rw [va_ne (by omega), va_ne (by omega)] at hj
    show cpS k kt 2 ((k 0 9 - (j : Int)) % 16 * 3 + (c : Int)).toNat = va_up (va_up v (17 + (v 2).toNat) b) 2 (v 2 + 1) (27 + (3 * j + c))
    rw [va_ne (by omega), va_ne (by omega)]
    exact r5 j c hj hc
theorem hnd_len {k kt : Nat → Nat → Int} {v : Nat → Int} (h : RelS k v) (hk : SOK k) {x : Int} : hnd (kLen k kt x) = x - hanV v := by
  have e := rel_hng (rel_cp (kt := kt) h hk)
  show x - hng (cpS k kt 1) (cpS k kt 0 2).toNat (cpS k kt 0 3) (cpS k kt 4) 4 = _
  rw [e]
theorem hng_4 (f : Nat → Int) (n : Nat) (E : Int) (ht : Nat → Int) : hng f n E ht 4 = strn f n E 0 * (10000 - ht 0) + strn f n E 1 * (10000 - ht 1) + strn f n E 2 * (10000 - ht 2) + strn f n E 3 * (10000 - ht 3) := by
  simp only [hng]
  show 0 + strn f n E ((0 : Nat) : Int) * _ + strn f n E ((1 : Nat) : Int) * _ + strn f n E ((2 : Nat) : Int) * _ + strn f n E ((3 : Nat) : Int) * _ = _
  rw [Int.zero_add]
  rfl
