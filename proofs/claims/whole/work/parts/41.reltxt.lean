/-! the relation: the rope's conditions, the read text, the digest -/
def hg2 (f : Nat → Int) (n : Nat) (ht : Nat → Int) : Int := 2 * cnt f 0 n * (10000 - ht 0) + 2 * cnt f 1 n * (10000 - ht 1) + 2 * cnt f 2 n * (10000 - ht 2) + 2 * cnt f 3 n * (10000 - ht 3)
theorem hng_E (f : Nat → Int) (n : Nat) (E : Int) (ht : Nat → Int) (hE : 0 ≤ E ∧ E ≤ 4) : hng f n E ht 4 = hg2 f n ht + (if E = 4 then 0 else 10000 - ht E.toNat) := by
  rw [hng_4]
  unfold strn hg2
  rcases (by omega : E = 0 ∨ E = 1 ∨ E = 2 ∨ E = 3 ∨ E = 4) with rfl | rfl | rfl | rfl | rfl
  · rw [if_pos rfl, if_neg (by decide), if_neg (by decide), if_neg (by decide), if_neg (by decide)]
    rw [Int.add_mul, Int.one_mul, Int.add_zero, Int.add_zero, Int.add_zero]
    show _ = _ + (10000 - ht 0)
    omega
  · rw [if_neg (by decide), if_pos rfl, if_neg (by decide), if_neg (by decide), if_neg (by decide)]
    rw [Int.add_mul (2 * cnt f 1 n), Int.one_mul, Int.add_zero, Int.add_zero, Int.add_zero]
    show _ = _ + (10000 - ht 1)
    omega
  · rw [if_neg (by decide), if_neg (by decide), if_pos rfl, if_neg (by decide), if_neg (by decide)]
    rw [Int.add_mul (2 * cnt f 2 n), Int.one_mul, Int.add_zero, Int.add_zero, Int.add_zero]
    show _ = _ + (10000 - ht 2)
    omega
  · rw [if_neg (by decide), if_neg (by decide), if_neg (by decide), if_pos rfl, if_neg (by decide)]
    rw [Int.add_mul (2 * cnt f 3 n), Int.one_mul, Int.add_zero, Int.add_zero, Int.add_zero]
    show _ = _ + (10000 - ht 3)
    omega
  · rw [if_neg (by decide), if_neg (by decide), if_neg (by decide), if_neg (by decide), if_pos rfl]
    rw [Int.add_zero, Int.add_zero, Int.add_zero, Int.add_zero, Int.add_zero]
theorem hnd_end {k kt : Nat → Nat → Int} {v : Nat → Int} (h : RelS k v) (hk : SOK k) {x : Int} (hx : 0 ≤ x ∧ x ≤ 4) : hnd (kEnd k kt x) = hndV v + esV v (v 3) - esV v x := by
  have hr := rel_cp (kt := kt) h hk
  have h3 := (rel_ok h hk).2.1
  have e : hng (cpS k kt 1) (cpS k kt 0 2).toNat x (cpS k kt 4) 4 = hng (vR v) (v 2).toNat x (vH v) 4 := by
    rw [hr.1 2 (by decide)]
    exact hng_congr (fun i hi => hr.2.1 i (by omega)) (fun b hb => hr.2.2.2.1 b hb) 4 (Nat.le_refl _)
  show k 0 0 - hng (cpS k kt 1) (cpS k kt 0 2).toNat x (cpS k kt 4) 4 = v 0 - hng (vR v) (v 2).toNat (v 3) (vH v) 4 + esV v (v 3) - esV v x
  rw [e, hng_E _ _ x _ hx, hng_E _ _ (v 3) _ h3, h.1 0 (by decide)]
  unfold esV
  omega
theorem wtf_rdW {tx : Nat → Int} {n : Nat} {w0 : Nat → Int} : ∀ (f p j : Nat) {w W : Nat → Int} {nw : Nat} {rq : Nat → Int}, (nw, rq) = rdW tx n f p j w → (∀ b, W b = if b < j then w b else w0 b) → ∀ b, wtf tx n f p j W b = if b < nw then rq b else w0 b
  | 0, p, j, w, W, nw, rq, h, hW, b => by
    obtain ⟨rfl, rfl⟩ := Prod.mk.inj h
    exact hW b
  | f + 1, p, j, w, W, nw, rq, h, hW, b => by
    rw [rdW] at h
    rw [wtf]
    by_cases hc : p < n ∧ wOK tx n p
    · rw [if_pos hc] at h ⊢
      refine wtf_rdW f _ _ h (fun c => ?_) b
      unfold va_up
      by_cases e : c = j
      · rw [if_pos e, if_pos e, if_pos (by omega)]
      · rw [if_neg e, if_neg e, hW c]
        by_cases e2 : c < j
        · rw [if_pos e2, if_pos (by omega)]
        · rw [if_neg e2, if_neg (by omega)]
    · rw [if_neg hc] at h ⊢
      obtain ⟨rfl, rfl⟩ := Prod.mk.inj h
      exact hW b
theorem prV_o {v tx : Nat → Int} {P : Nat} {E : Int} {nw : Nat} {rq : Nat → Int} {j : Nat} (h1 : j < 9 ∨ 17 + P ≤ j) : prV v tx P E nw rq j = pv1 v (P : Int) E j := by
  simp only [prV, pvH, cpB]
  rw [if_neg (by omega), if_neg (by omega), if_neg (by omega)]
theorem prV_r {v tx : Nat → Int} {P : Nat} {E : Int} {nw : Nat} {rq : Nat → Int} {i : Nat} (h1 : i < P) : prV v tx P E nw rq (17 + i) = tx i - 48 := by
  simp only [prV, pvH, cpB]
  rw [if_neg (by omega), if_neg (by omega), if_pos (by omega), show 17 + i - 17 = i by omega]
theorem prV_h {v tx : Nat → Int} {P : Nat} {E : Int} {nw : Nat} {rq : Nat → Int} {b : Nat} (h1 : b < 4) : prV v tx P E nw rq (13 + b) = 0 := by
  simp only [prV, pvH, cpB]
  rw [if_pos (by omega)]
theorem prV_w {v tx : Nat → Int} {P : Nat} {E : Int} {nw : Nat} {rq : Nat → Int} {b : Nat} (h1 : b < 4) : prV v tx P E nw rq (9 + b) = if b < nw then rq b else v (9 + b) := by
  have e : cpB P 17 (fun j => tx j - 48) (pv1 v (P : Int) E) (9 + b) = v (9 + b) := by
    unfold cpB
    rw [if_neg (by omega)]
    unfold pv1
    rw [va_ne (by omega), va_ne (by omega)]
  have e2 : prV v tx P E nw rq (9 + b) = pvW (cpB P 17 (fun j => tx j - 48) (pv1 v (P : Int) E)) nw rq b := by
    unfold prV pvH
    show (if 13 ≤ 9 + b ∧ 9 + b < 13 + 4 then (0 : Int) else cpB 4 9 _ _ (9 + b)) = _
    rw [if_neg (by omega)]
    show (if 9 ≤ 9 + b ∧ 9 + b < 9 + 4 then pvW _ nw rq (9 + b - 9) else _) = _
    rw [if_pos (by omega), show 9 + b - 9 = b by omega]
  rw [e2]
  unfold pvW
  rw [e]
theorem rel_prs {k : Nat → Nat → Int} {v : Nat → Int} (h : RelS k v) (hk : SOK k) {tx : Nat → Int} {n : Nat} {nw : Nat} {rq rq0 : Nat → Int} (hn : (nw, rq) = rdW tx n 4 (pP tx n + 2) 0 rq0) : RelS (prs tx n k) (prV v tx (pP tx n) (tx (pP tx n + 1) - 48) nw rq) := by
  have hm := rel_ok h hk
  have hP := pP_le tx n
  obtain ⟨r0, r1, r3, r4, r5⟩ := h
  refine ⟨fun j hj => ?_, fun i hi => ?_, fun b hb => ?_, fun b hb => ?_, fun j c hj hc => ?_⟩
  · rw [prV_o (Or.inl hj)]
    show va_up (va_up (k 0) 2 (pP tx n : Int)) 3 (tx (pP tx n + 1) - 48) j = va_up (va_up v 2 (pP tx n : Int)) 3 (tx (pP tx n + 1) - 48) j
    by_cases e3 : j = 3
    · subst e3; unfold va_up; rw [if_pos rfl, if_pos rfl]
    · rw [va_ne e3, va_ne e3]
      by_cases e2 : j = 2
      · subst e2; unfold va_up; rw [if_pos rfl, if_pos rfl]
      · rw [va_ne e2, va_ne e2]; exact r0 j hj
  · rw [prV_o (by omega)] at hi
    have hi2 : (i : Int) < (pP tx n : Int) := hi
    show cpy (pP tx n) (fun j => tx j - 48) (k 1) i = prV _ _ _ _ _ _ (17 + i)
    rw [prV_r (by omega)]
    unfold cpy
    exact if_pos (by omega)
  · show wtf tx n 4 (pP tx n + 2) 0 (k 3) b = prV _ _ _ _ _ _ (9 + b)
    rw [prV_w hb, wtf_rdW (w0 := k 3) 4 _ 0 hn (fun c => (if_neg (Nat.not_lt_zero c)).symm) b, r3 b hb]
  · show lay0 4 (k 4) b = prV _ _ _ _ _ _ (13 + b)
    rw [prV_h hb]
    unfold lay0
    exact if_pos hb
  · have h6 := hm.2.2.2.2.2.2.2
    rw [prV_o (by omega)] at hj
    have hj2 : (j : Int) < v 6 := hj
    rw [prV_o (by omega)]
    unfold pv1
    rw [va_ne (by omega), va_ne (by omega)]
    exact r5 j c hj2 hc
