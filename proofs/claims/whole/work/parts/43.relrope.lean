/-! the relation: the rope of one pulley more, and of a read text -/
theorem hng_add {f ht : Nat → Int} {P : Nat} {E b : Int} (hb : 0 ≤ b ∧ b < 4) : hng (va_up f P b) (P + 1) E ht 4 = hng f P E ht 4 + 2 * (10000 - ht b.toNat) := by
  have hc : ∀ c, strn (va_up f P b) (P + 1) E c = strn f P E c + (if b = c then 2 else 0) := by
    intro c
    have h1 : cnt (va_up f P b) c P = cnt f c P := cnt_congr fun i hi => va_ne (by omega)
    have h2 : va_up f P b P = b := by unfold va_up; exact if_pos rfl
    unfold strn
    rw [cnt, h1, h2]
    split <;> omega
  rw [hng_4, hng_4, hc 0, hc 1, hc 2, hc 3]
  rcases (by omega : b = 0 ∨ b = 1 ∨ b = 2 ∨ b = 3) with rfl | rfl | rfl | rfl
  · rw [if_pos rfl, if_neg (by decide), if_neg (by decide), if_neg (by decide), Int.add_mul, Int.add_zero, Int.add_zero, Int.add_zero]
    show _ = _ + 2 * (10000 - ht 0)
    omega
  · rw [if_neg (by decide), if_pos rfl, if_neg (by decide), if_neg (by decide), Int.add_mul (strn f P E 1), Int.add_zero, Int.add_zero, Int.add_zero]
    show _ = _ + 2 * (10000 - ht 1)
    omega
  · rw [if_neg (by decide), if_neg (by decide), if_pos rfl, if_neg (by decide), Int.add_mul (strn f P E 2), Int.add_zero, Int.add_zero, Int.add_zero]
    show _ = _ + 2 * (10000 - ht 2)
    omega
  · rw [if_neg (by decide), if_neg (by decide), if_neg (by decide), if_pos rfl, Int.add_mul (strn f P E 3), Int.add_zero, Int.add_zero, Int.add_zero]
    show _ = _ + 2 * (10000 - ht 3)
    omega
theorem hnd_add {k kt : Nat → Nat → Int} {v : Nat → Int} (h : RelS k v) (hk : SOK k) {b : Int} (hb : 0 ≤ b ∧ b < 4) : hnd (kAdd k kt b) = hndV v - 2 * (10000 - vH v b.toNat) := by
  have hr := rel_cp (kt := kt) h hk
  have h1 := hk.1
  have e : hng (va_up (cpS k kt 1) (k 0 2).toNat b) (k 0 2 + 1).toNat (k 0 3) (cpS k kt 4) 4 = hanV v + 2 * (10000 - vH v b.toNat) := by
    rw [show (k 0 2 + 1).toNat = (k 0 2).toNat + 1 by omega, hng_add hb, show cpS k kt 4 b.toNat = vH v b.toNat from hr.2.2.2.1 b.toNat (by omega)]
    have e2 : hng (cpS k kt 1) (k 0 2).toNat (k 0 3) (cpS k kt 4) 4 = hanV v := rel_hng hr
    rw [e2]
  show k 0 0 - hng (va_up (cpS k kt 1) (k 0 2).toNat b) (k 0 2 + 1).toNat (k 0 3) (cpS k kt 4) 4 = v 0 - hanV v - _
  rw [e, h.1 0 (by decide)]
  omega
theorem cnt_sum {f : Nat → Int} : ∀ {n : Nat}, (∀ i, i < n → 0 ≤ f i ∧ f i ≤ 3) → cnt f 0 n + cnt f 1 n + cnt f 2 n + cnt f 3 n = n
  | 0, _ => rfl
  | n + 1, h => by
    have ih := cnt_sum (f := f) (n := n) (fun i hi => h i (by omega))
    have hn := h n (by omega)
    rw [cnt, cnt, cnt, cnt]
    rcases (by omega : f n = 0 ∨ f n = 1 ∨ f n = 2 ∨ f n = 3) with e | e | e | e
    · rw [e, if_pos rfl, if_neg (by decide), if_neg (by decide), if_neg (by decide)]; omega
    · rw [e, if_neg (by decide), if_pos rfl, if_neg (by decide), if_neg (by decide)]; omega
    · rw [e, if_neg (by decide), if_neg (by decide), if_pos rfl, if_neg (by decide)]; omega
    · rw [e, if_neg (by decide), if_neg (by decide), if_neg (by decide), if_pos rfl]; omega
theorem hnd_prs {k : Nat → Nat → Int} {v : Nat → Int} (h : RelS k v) {tx : Nat → Int} {n : Nat} (hF : pFlt tx n = -1) : hnd (prs tx n k) = hanP tx n v := by
  have hd := (pF_dg hF).2
  have hs := cnt_sum (f := cpy (pP tx n) (fun j => tx j - 48) (k 1)) (n := pP tx n) (fun i hi => by
    have := rn_dg (tx := tx) (n := n) (lo := 48) (hi := 51) (f := 10) (p := 0) (i := i) hi
    rw [Nat.zero_add] at this
    have h2 := this.2
    unfold cpy
    rw [if_pos hi]
    show 0 ≤ tx i - 48 ∧ tx i - 48 ≤ 3
    omega)
  have hz : ∀ b : Nat, b < 4 → lay0 4 (k 4) b = 0 := fun b hb => by unfold lay0; exact if_pos hb
  show k 0 0 - hng (cpy (pP tx n) (fun j => tx j - 48) (k 1)) ((pP tx n : Nat) : Int).toNat (tx (pP tx n + 1) - 48) (lay0 4 (k 4)) 4 = _
  rw [show ((pP tx n : Nat) : Int).toNat = pP tx n from rfl, hng_E _ _ _ _ (by omega), h.1 0 (by decide)]
  unfold hg2 hanP
  rw [hz 0 (by decide), hz 1 (by decide), hz 2 (by decide), hz 3 (by decide)]
  by_cases h4 : tx (pP tx n + 1) - 48 = 4
  · rw [if_pos h4, if_pos h4]; omega
  · rw [if_neg h4, if_neg h4, hz _ (by omega)]; omega
