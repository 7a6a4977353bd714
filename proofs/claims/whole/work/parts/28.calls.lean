/-! the reference: its calls -/
theorem MOK_len {v : Nat → Int} (hm : MOK v) {x : Int} (hx : 1000 ≤ x ∧ x ≤ 300000) : MOK (va_up v 0 x) := by
  obtain ⟨h1, h2, h3, h4, h5, h7, h8, h9⟩ := hm
  refine ⟨h1, h2, h3, fun i hi => ?_, fun b hb => ?_, fun b hb => ?_, hx, h9⟩
  · show 0 ≤ va_up v 0 x (17 + i) ∧ va_up v 0 x (17 + i) ≤ 3
    unfold va_up
    rw [if_neg (by omega)]
    exact h4 i hi
  · show 0 ≤ va_up v 0 x (9 + b) ∧ va_up v 0 x (9 + b) ≤ 50000
    unfold va_up
    rw [if_neg (by omega)]
    exact h5 b hb
  · show 0 ≤ va_up v 0 x (13 + b) ∧ va_up v 0 x (13 + b) ≤ 9000
    unfold va_up
    rw [if_neg (by omega)]
    exact h7 b hb
theorem esV_rng {v : Nat → Int} (hm : MOK v) {e : Int} (he : 0 ≤ e ∧ e ≤ 4) : 0 ≤ esV v e ∧ esV v e ≤ 10000 := by
  unfold esV
  split
  · decide
  · have := hm.2.2.2.2.2.1 e.toNat (by omega)
    omega
theorem hndV_rng {v : Nat → Int} (hm : MOK v) : -1000000 ≤ hndV v ∧ hndV v ≤ 300000 := by
  have h1 := hanV_rng hm
  have h2 := hm.2.2.2.2.2.2.1
  show -1000000 ≤ v 0 - hanV v ∧ v 0 - hanV v ≤ 300000
  omega
theorem va_ne {v : Nat → Int} {j k : Nat} {x : Int} (h : j ≠ k) : va_up v k x j = v j := by
  unfold va_up
  exact if_neg h
theorem c_X5_setWeight_ok (l : Launch) (g : Gh) (u : Nat → Nat) (v pa sd tx rr rq : Nat → Int) (sv : Nat) (ln th ap rm rd nw hh : Int) (b w : Int) (hm : MOK v) (hsv : sv ≤ 4) (hb4 : 0 ≤ b ∧ b ≤ 3) (hw : 0 ≤ w ∧ w ≤ 50000) : CT l g yX5_setWeight cX5_setWeight 3 (some FieldType.int) ({ frames := 2, cells := 0, slots := 0, locals := 45 }) [.ref (u 0), .int (iI b), .int (iI w)] [(u 0, .inr (5, [.ref (u 1), .ref (u 2), .ref (u 3), .int (iI ((sv : Int))), .ref (u 4), .int (iI ln), .int (iI th), .int (iI ap), .int (iI rm), .ref (u 5), .int (iI rd), .int (iI nw), .ref (u 6), .long (lI hh)])), (u 1, aL g 75 v), (u 2, aL g 300 pa)] (PE (some (.int (iI (v (9 + b.toNat))))) [(u 0, .inr (5, [.ref (u 1), .ref (u 2), .ref (u 3), .int (iI (((svN sv : Nat) : Int))), .ref (u 4), .int (iI ln), .int (iI 0), .int (iI ap), .int (iI rm), .ref (u 5), .int (iI rd), .int (iI nw), .ref (u 6), .long (lI hh)])), (u 1, aL g 75 (va_up v (9 + b.toNat) w)), (u 2, aL g 300 (svP v pa sv))]) := by
  refine CT.intro (L0 := [(0, .ref (u 0)), (1, .int (iI b)), (2, .int (iI w))]) (own := RX5) (by decide) rfl (Nat.le_of_ble_eq_true rfl) rfl ?_
  intro pX eX sX mX argsX belowX methX cX A C hr hlk
  obtain ⟨hP, hE0, hF, hrow0, hwt, hht, hlen, hent⟩ := id hm
  have hE : -10 ≤ v 3 ∧ v 3 ≤ 10 := by omega
  have hrow : ∀ i : Nat, (i : Int) < v 2 → 0 ≤ vR v i ∧ vR v i ≤ 4 := fun i hi => by have := hrow0 i hi; omega
  refine j_iload_n C 1 dX5_setWeight_0 rfl rfl ?_
  refine j_callS (As := [.int (iI b)]) (rest := []) C ys_X5_isBlock qw714 (c_X5_isBlock_t l g b (by omega)) (by decide) rfl dX5_setWeight_1 rfl (Nat.le_of_ble_eq_true rfl) (by decide) (pf1 [] [(u 0, .inr (5, [.ref (u 1), .ref (u 2), .ref (u 3), .int (iI ((sv : Int))), .ref (u 4), .int (iI ln), .int (iI th), .int (iI ap), .int (iI rm), .ref (u 5), .int (iI rd), .int (iI nw), .ref (u 6), .long (lI hh)])), (u 1, aL g 75 v), (u 2, aL g 300 pa)]) rfl (fun r9 w9 hq9 => ?_)
  obtain ⟨rfl, rfl⟩ := hq9
  refine J.to (L1 := [(0, .ref (u 0)), (1, .int (iI b)), (2, .int (iI w))]) (S1 := [.int (iI 1)]) (ws1 := [(u 0, .inr (5, [.ref (u 1), .ref (u 2), .ref (u 3), .int (iI ((sv : Int))), .ref (u 4), .int (iI ln), .int (iI th), .int (iI ap), .int (iI rm), .ref (u 5), .int (iI rd), .int (iI nw), .ref (u 6), .long (lI hh)])), (u 1, aL g 75 v), (u 2, aL g 300 pa)]) rfl rfl rfl ?_
  refine j_if_ne (tgt := 13) C (by decide) dX5_setWeight_4 (by decide) (fun c4 => ?_) (fun c4 => absurd c4 (by decide))
  refine j_iload_n C 2 dX5_setWeight_13 rfl rfl ?_
  refine j_i2l C (by omega) dX5_setWeight_14 ?_
  refine j_lconst (v := 0) C dX5_setWeight_15 rfl ?_
  refine j_ldc2 (x := 50000) C qw725 (by decide) dX5_setWeight_16 ?_
  refine j_callS (As := [.long (lI w), .long (lI 0), .long (lI 50000)]) (rest := []) C ys_X5_in qw718 (c_X5_in_t l g w 0 50000 (by omega) (by omega) (by omega) (by omega)) (by decide) rfl dX5_setWeight_19 rfl (Nat.le_of_ble_eq_true rfl) (by decide) (pf1 [] [(u 0, .inr (5, [.ref (u 1), .ref (u 2), .ref (u 3), .int (iI ((sv : Int))), .ref (u 4), .int (iI ln), .int (iI th), .int (iI ap), .int (iI rm), .ref (u 5), .int (iI rd), .int (iI nw), .ref (u 6), .long (lI hh)])), (u 1, aL g 75 v), (u 2, aL g 300 pa)]) rfl (fun r9 w9 hq9 => ?_)
  obtain ⟨rfl, rfl⟩ := hq9
  refine J.to (L1 := [(0, .ref (u 0)), (1, .int (iI b)), (2, .int (iI w))]) (S1 := [.int (iI 1)]) (ws1 := [(u 0, .inr (5, [.ref (u 1), .ref (u 2), .ref (u 3), .int (iI ((sv : Int))), .ref (u 4), .int (iI ln), .int (iI th), .int (iI ap), .int (iI rm), .ref (u 5), .int (iI rd), .int (iI nw), .ref (u 6), .long (lI hh)])), (u 1, aL g 75 v), (u 2, aL g 300 pa)]) rfl rfl rfl ?_
  refine j_if_eq (tgt := 37) C (by decide) dX5_setWeight_22 (by decide) (fun c22 => absurd c22 (by decide)) (fun c22 => ?_)
  refine j_aload_n C 0 dX5_setWeight_25 rfl rfl ?_
  refine j_bipush C dX5_setWeight_26 (by decide) ?_
  refine j_iload_n C 1 dX5_setWeight_28 rfl rfl ?_
  refine j_iadd C dX5_setWeight_29 ?_
  refine j_iload_n C 2 dX5_setWeight_30 rfl rfl ?_
  refine j_callV (As := [.int (iI (9 + b)), .int (iI w)]) (rest := []) C yv_X5_puts qw726 (c_X5_puts l g u v pa sd tx rr rq sv ln th ap rm rd nw hh (9 + b) w (9 + b.toNat) hsv (by omega) (by omega) (by omega)) (by decide) 0 rfl rfl rfl dX5_setWeight_31 rfl (Nat.le_of_ble_eq_true rfl) (by decide) pf0 rfl (fun r9 w9 hq9 => ?_)
  obtain ⟨rfl, rfl⟩ := hq9
  refine J.to (L1 := [(0, .ref (u 0)), (1, .int (iI b)), (2, .int (iI w))]) (S1 := [.int (iI (v (9 + b.toNat)))]) (ws1 := [(u 0, .inr (5, [.ref (u 1), .ref (u 2), .ref (u 3), .int (iI (((svN sv : Nat) : Int))), .ref (u 4), .int (iI ln), .int (iI 0), .int (iI ap), .int (iI rm), .ref (u 5), .int (iI rd), .int (iI nw), .ref (u 6), .long (lI hh)])), (u 1, aL g 75 (va_up v (9 + b.toNat) w)), (u 2, aL g 300 (svP v pa sv))]) rfl rfl rfl ?_
  refine j_goto (tgt := 42) C dX5_setWeight_34 (by decide) ?_
  exact j_iret C hr hlk dX5_setWeight_42 ⟨rfl, rfl⟩ (by decide) (by decide)

theorem c_X5_setWeight_n1 (l : Launch) (g : Gh) (u : Nat → Nat) (v pa sd tx rr rq : Nat → Int) (sv : Nat) (ln th ap rm rd nw hh : Int) (b w : Int) (hm : MOK v) (hsv : sv ≤ 4) (hrb : -2147483648 ≤ b ∧ b < 2147483648) (hrw : -2147483648 ≤ w ∧ w < 2147483648) (hb4 : b < 0 ∨ 3 < b) : CT l g yX5_setWeight cX5_setWeight 3 (some FieldType.int) ({ frames := 2, cells := 0, slots := 0, locals := 45 }) [.ref (u 0), .int (iI b), .int (iI w)] [(u 0, .inr (5, [.ref (u 1), .ref (u 2), .ref (u 3), .int (iI ((sv : Int))), .ref (u 4), .int (iI ln), .int (iI th), .int (iI ap), .int (iI rm), .ref (u 5), .int (iI rd), .int (iI nw), .ref (u 6), .long (lI hh)])), (u 1, aL g 75 v), (u 2, aL g 300 pa)] (PE (some (.int (iI 0))) [(u 0, .inr (5, [.ref (u 1), .ref (u 2), .ref (u 3), .int (iI ((sv : Int))), .ref (u 4), .int (iI ln), .int (iI 1), .int (iI ap), .int (iI rm), .ref (u 5), .int (iI rd), .int (iI nw), .ref (u 6), .long (lI hh)])), (u 1, aL g 75 v), (u 2, aL g 300 pa)]) := by
  refine CT.intro (L0 := [(0, .ref (u 0)), (1, .int (iI b)), (2, .int (iI w))]) (own := RX5) (by decide) rfl (Nat.le_of_ble_eq_true rfl) rfl ?_
  intro pX eX sX mX argsX belowX methX cX A C hr hlk
  obtain ⟨hP, hE0, hF, hrow0, hwt, hht, hlen, hent⟩ := id hm
  have hE : -10 ≤ v 3 ∧ v 3 ≤ 10 := by omega
  have hrow : ∀ i : Nat, (i : Int) < v 2 → 0 ≤ vR v i ∧ vR v i ≤ 4 := fun i hi => by have := hrow0 i hi; omega
  refine j_iload_n C 1 dX5_setWeight_0 rfl rfl ?_
  refine j_callS (As := [.int (iI b)]) (rest := []) C ys_X5_isBlock qw714 (c_X5_isBlock_f l g b (by omega) (by omega)) (by decide) rfl dX5_setWeight_1 rfl (Nat.le_of_ble_eq_true rfl) (by decide) (pf1 [] [(u 0, .inr (5, [.ref (u 1), .ref (u 2), .ref (u 3), .int (iI ((sv : Int))), .ref (u 4), .int (iI ln), .int (iI th), .int (iI ap), .int (iI rm), .ref (u 5), .int (iI rd), .int (iI nw), .ref (u 6), .long (lI hh)])), (u 1, aL g 75 v), (u 2, aL g 300 pa)]) rfl (fun r9 w9 hq9 => ?_)
  obtain ⟨rfl, rfl⟩ := hq9
  refine J.to (L1 := [(0, .ref (u 0)), (1, .int (iI b)), (2, .int (iI w))]) (S1 := [.int (iI 0)]) (ws1 := [(u 0, .inr (5, [.ref (u 1), .ref (u 2), .ref (u 3), .int (iI ((sv : Int))), .ref (u 4), .int (iI ln), .int (iI th), .int (iI ap), .int (iI rm), .ref (u 5), .int (iI rd), .int (iI nw), .ref (u 6), .long (lI hh)])), (u 1, aL g 75 v), (u 2, aL g 300 pa)]) rfl rfl rfl ?_
  refine j_if_ne (tgt := 13) C (by decide) dX5_setWeight_4 (by decide) (fun c4 => absurd c4 (by decide)) (fun c4 => ?_)
  refine j_aload_n C 0 dX5_setWeight_7 rfl rfl ?_
  refine j_iconst C dX5_setWeight_8 ?_
  refine j_callV (As := [.int (iI 1)]) (rest := []) C yv_X5_fails qw721 (c_X5_fails l g u v ((sv : Int)) ln th ap rm rd nw hh 1) (by decide) 0 rfl rfl rfl dX5_setWeight_9 rfl (Nat.le_of_ble_eq_true rfl) (by decide) (pf1 [] [(u 1, aL g 75 v), (u 2, aL g 300 pa)]) rfl (fun r9 w9 hq9 => ?_)
  obtain ⟨rfl, rfl⟩ := hq9
  refine J.to (L1 := [(0, .ref (u 0)), (1, .int (iI b)), (2, .int (iI w))]) (S1 := [.int (iI 0)]) (ws1 := [(u 0, .inr (5, [.ref (u 1), .ref (u 2), .ref (u 3), .int (iI ((sv : Int))), .ref (u 4), .int (iI ln), .int (iI 1), .int (iI ap), .int (iI rm), .ref (u 5), .int (iI rd), .int (iI nw), .ref (u 6), .long (lI hh)])), (u 1, aL g 75 v), (u 2, aL g 300 pa)]) rfl rfl rfl ?_
  exact j_iret C hr hlk dX5_setWeight_12 ⟨rfl, rfl⟩ (by decide) (by decide)

theorem c_X5_setWeight_n2 (l : Launch) (g : Gh) (u : Nat → Nat) (v pa sd tx rr rq : Nat → Int) (sv : Nat) (ln th ap rm rd nw hh : Int) (b w : Int) (hm : MOK v) (hsv : sv ≤ 4) (hrb : -2147483648 ≤ b ∧ b < 2147483648) (hrw : -2147483648 ≤ w ∧ w < 2147483648) (hb4 : 0 ≤ b ∧ b ≤ 3) (hw : w < 0 ∨ 50000 < w) : CT l g yX5_setWeight cX5_setWeight 3 (some FieldType.int) ({ frames := 2, cells := 0, slots := 0, locals := 45 }) [.ref (u 0), .int (iI b), .int (iI w)] [(u 0, .inr (5, [.ref (u 1), .ref (u 2), .ref (u 3), .int (iI ((sv : Int))), .ref (u 4), .int (iI ln), .int (iI th), .int (iI ap), .int (iI rm), .ref (u 5), .int (iI rd), .int (iI nw), .ref (u 6), .long (lI hh)])), (u 1, aL g 75 v), (u 2, aL g 300 pa)] (PE (some (.int (iI 0))) [(u 0, .inr (5, [.ref (u 1), .ref (u 2), .ref (u 3), .int (iI ((sv : Int))), .ref (u 4), .int (iI ln), .int (iI 2), .int (iI ap), .int (iI rm), .ref (u 5), .int (iI rd), .int (iI nw), .ref (u 6), .long (lI hh)])), (u 1, aL g 75 v), (u 2, aL g 300 pa)]) := by
  refine CT.intro (L0 := [(0, .ref (u 0)), (1, .int (iI b)), (2, .int (iI w))]) (own := RX5) (by decide) rfl (Nat.le_of_ble_eq_true rfl) rfl ?_
  intro pX eX sX mX argsX belowX methX cX A C hr hlk
  obtain ⟨hP, hE0, hF, hrow0, hwt, hht, hlen, hent⟩ := id hm
  have hE : -10 ≤ v 3 ∧ v 3 ≤ 10 := by omega
  have hrow : ∀ i : Nat, (i : Int) < v 2 → 0 ≤ vR v i ∧ vR v i ≤ 4 := fun i hi => by have := hrow0 i hi; omega
  refine j_iload_n C 1 dX5_setWeight_0 rfl rfl ?_
  refine j_callS (As := [.int (iI b)]) (rest := []) C ys_X5_isBlock qw714 (c_X5_isBlock_t l g b (by omega)) (by decide) rfl dX5_setWeight_1 rfl (Nat.le_of_ble_eq_true rfl) (by decide) (pf1 [] [(u 0, .inr (5, [.ref (u 1), .ref (u 2), .ref (u 3), .int (iI ((sv : Int))), .ref (u 4), .int (iI ln), .int (iI th), .int (iI ap), .int (iI rm), .ref (u 5), .int (iI rd), .int (iI nw), .ref (u 6), .long (lI hh)])), (u 1, aL g 75 v), (u 2, aL g 300 pa)]) rfl (fun r9 w9 hq9 => ?_)
  obtain ⟨rfl, rfl⟩ := hq9
  refine J.to (L1 := [(0, .ref (u 0)), (1, .int (iI b)), (2, .int (iI w))]) (S1 := [.int (iI 1)]) (ws1 := [(u 0, .inr (5, [.ref (u 1), .ref (u 2), .ref (u 3), .int (iI ((sv : Int))), .ref (u 4), .int (iI ln), .int (iI th), .int (iI ap), .int (iI rm), .ref (u 5), .int (iI rd), .int (iI nw), .ref (u 6), .long (lI hh)])), (u 1, aL g 75 v), (u 2, aL g 300 pa)]) rfl rfl rfl ?_
  refine j_if_ne (tgt := 13) C (by decide) dX5_setWeight_4 (by decide) (fun c4 => ?_) (fun c4 => absurd c4 (by decide))
  refine j_iload_n C 2 dX5_setWeight_13 rfl rfl ?_
  refine j_i2l C (by omega) dX5_setWeight_14 ?_
  refine j_lconst (v := 0) C dX5_setWeight_15 rfl ?_
  refine j_ldc2 (x := 50000) C qw725 (by decide) dX5_setWeight_16 ?_
  refine j_callS (As := [.long (lI w), .long (lI 0), .long (lI 50000)]) (rest := []) C ys_X5_in qw718 (c_X5_in_f l g w 0 50000 (by omega) (by omega) (by omega) (by omega)) (by decide) rfl dX5_setWeight_19 rfl (Nat.le_of_ble_eq_true rfl) (by decide) (pf1 [] [(u 0, .inr (5, [.ref (u 1), .ref (u 2), .ref (u 3), .int (iI ((sv : Int))), .ref (u 4), .int (iI ln), .int (iI th), .int (iI ap), .int (iI rm), .ref (u 5), .int (iI rd), .int (iI nw), .ref (u 6), .long (lI hh)])), (u 1, aL g 75 v), (u 2, aL g 300 pa)]) rfl (fun r9 w9 hq9 => ?_)
  obtain ⟨rfl, rfl⟩ := hq9
  refine J.to (L1 := [(0, .ref (u 0)), (1, .int (iI b)), (2, .int (iI w))]) (S1 := [.int (iI 0)]) (ws1 := [(u 0, .inr (5, [.ref (u 1), .ref (u 2), .ref (u 3), .int (iI ((sv : Int))), .ref (u 4), .int (iI ln), .int (iI th), .int (iI ap), .int (iI rm), .ref (u 5), .int (iI rd), .int (iI nw), .ref (u 6), .long (lI hh)])), (u 1, aL g 75 v), (u 2, aL g 300 pa)]) rfl rfl rfl ?_
  refine j_if_eq (tgt := 37) C (by decide) dX5_setWeight_22 (by decide) (fun c22 => ?_) (fun c22 => absurd c22 (by decide))
  refine j_aload_n C 0 dX5_setWeight_37 rfl rfl ?_
  refine j_iconst C dX5_setWeight_38 ?_
  refine j_callV (As := [.int (iI 2)]) (rest := []) C yv_X5_fails qw721 (c_X5_fails l g u v ((sv : Int)) ln th ap rm rd nw hh 2) (by decide) 0 rfl rfl rfl dX5_setWeight_39 rfl (Nat.le_of_ble_eq_true rfl) (by decide) (pf1 [] [(u 1, aL g 75 v), (u 2, aL g 300 pa)]) rfl (fun r9 w9 hq9 => ?_)
  obtain ⟨rfl, rfl⟩ := hq9
  refine J.to (L1 := [(0, .ref (u 0)), (1, .int (iI b)), (2, .int (iI w))]) (S1 := [.int (iI 0)]) (ws1 := [(u 0, .inr (5, [.ref (u 1), .ref (u 2), .ref (u 3), .int (iI ((sv : Int))), .ref (u 4), .int (iI ln), .int (iI 2), .int (iI ap), .int (iI rm), .ref (u 5), .int (iI rd), .int (iI nw), .ref (u 6), .long (lI hh)])), (u 1, aL g 75 v), (u 2, aL g 300 pa)]) rfl rfl rfl ?_
  exact j_iret C hr hlk dX5_setWeight_42 ⟨rfl, rfl⟩ (by decide) (by decide)

theorem c_X5_setFriction_ok (l : Launch) (g : Gh) (u : Nat → Nat) (v pa sd tx rr rq : Nat → Int) (sv : Nat) (ln th ap rm rd nw hh : Int) (f : Int) (hm : MOK v) (hsv : sv ≤ 4) (hf : 0 ≤ f ∧ f ≤ 30) : CT l g yX5_setFriction cX5_setFriction 2 (some FieldType.int) ({ frames := 2, cells := 0, slots := 0, locals := 44 }) [.ref (u 0), .int (iI f)] [(u 0, .inr (5, [.ref (u 1), .ref (u 2), .ref (u 3), .int (iI ((sv : Int))), .ref (u 4), .int (iI ln), .int (iI th), .int (iI ap), .int (iI rm), .ref (u 5), .int (iI rd), .int (iI nw), .ref (u 6), .long (lI hh)])), (u 1, aL g 75 v), (u 2, aL g 300 pa)] (PE (some (.int (iI (v 1)))) [(u 0, .inr (5, [.ref (u 1), .ref (u 2), .ref (u 3), .int (iI (((svN sv : Nat) : Int))), .ref (u 4), .int (iI ln), .int (iI 0), .int (iI ap), .int (iI rm), .ref (u 5), .int (iI rd), .int (iI nw), .ref (u 6), .long (lI hh)])), (u 1, aL g 75 (va_up v 1 f)), (u 2, aL g 300 (svP v pa sv))]) := by
  refine CT.intro (L0 := [(0, .ref (u 0)), (1, .int (iI f))]) (own := RX5) (by decide) rfl (Nat.le_of_ble_eq_true rfl) rfl ?_
  intro pX eX sX mX argsX belowX methX cX A C hr hlk
  obtain ⟨hP, hE0, hF, hrow0, hwt, hht, hlen, hent⟩ := id hm
  have hE : -10 ≤ v 3 ∧ v 3 ≤ 10 := by omega
  have hrow : ∀ i : Nat, (i : Int) < v 2 → 0 ≤ vR v i ∧ vR v i ≤ 4 := fun i hi => by have := hrow0 i hi; omega
  refine j_iload_n C 1 dX5_setFriction_0 rfl rfl ?_
  refine j_i2l C (by omega) dX5_setFriction_1 ?_
  refine j_lconst (v := 0) C dX5_setFriction_2 rfl ?_
  refine j_ldc2 (x := 30) C qw742 (by decide) dX5_setFriction_3 ?_
  refine j_callS (As := [.long (lI f), .long (lI 0), .long (lI 30)]) (rest := []) C ys_X5_in qw718 (c_X5_in_t l g f 0 30 (by omega) (by omega) (by omega) (by omega)) (by decide) rfl dX5_setFriction_6 rfl (Nat.le_of_ble_eq_true rfl) (by decide) (pf1 [] [(u 0, .inr (5, [.ref (u 1), .ref (u 2), .ref (u 3), .int (iI ((sv : Int))), .ref (u 4), .int (iI ln), .int (iI th), .int (iI ap), .int (iI rm), .ref (u 5), .int (iI rd), .int (iI nw), .ref (u 6), .long (lI hh)])), (u 1, aL g 75 v), (u 2, aL g 300 pa)]) rfl (fun r9 w9 hq9 => ?_)
  obtain ⟨rfl, rfl⟩ := hq9
  refine J.to (L1 := [(0, .ref (u 0)), (1, .int (iI f))]) (S1 := [.int (iI 1)]) (ws1 := [(u 0, .inr (5, [.ref (u 1), .ref (u 2), .ref (u 3), .int (iI ((sv : Int))), .ref (u 4), .int (iI ln), .int (iI th), .int (iI ap), .int (iI rm), .ref (u 5), .int (iI rd), .int (iI nw), .ref (u 6), .long (lI hh)])), (u 1, aL g 75 v), (u 2, aL g 300 pa)]) rfl rfl rfl ?_
  refine j_if_eq (tgt := 21) C (by decide) dX5_setFriction_9 (by decide) (fun c9 => absurd c9 (by decide)) (fun c9 => ?_)
  refine j_aload_n C 0 dX5_setFriction_12 rfl rfl ?_
  refine j_iconst C dX5_setFriction_13 ?_
  refine j_iload_n C 1 dX5_setFriction_14 rfl rfl ?_
  refine j_callV (As := [.int (iI 1), .int (iI f)]) (rest := []) C yv_X5_puts qw726 (c_X5_puts l g u v pa sd tx rr rq sv ln th ap rm rd nw hh 1 f 1 hsv (by omega) (by omega) (by omega)) (by decide) 0 rfl rfl rfl dX5_setFriction_15 rfl (Nat.le_of_ble_eq_true rfl) (by decide) pf0 rfl (fun r9 w9 hq9 => ?_)
  obtain ⟨rfl, rfl⟩ := hq9
  refine J.to (L1 := [(0, .ref (u 0)), (1, .int (iI f))]) (S1 := [.int (iI (v 1))]) (ws1 := [(u 0, .inr (5, [.ref (u 1), .ref (u 2), .ref (u 3), .int (iI (((svN sv : Nat) : Int))), .ref (u 4), .int (iI ln), .int (iI 0), .int (iI ap), .int (iI rm), .ref (u 5), .int (iI rd), .int (iI nw), .ref (u 6), .long (lI hh)])), (u 1, aL g 75 (va_up v 1 f)), (u 2, aL g 300 (svP v pa sv))]) rfl rfl rfl ?_
  refine j_goto (tgt := 26) C dX5_setFriction_18 (by decide) ?_
  exact j_iret C hr hlk dX5_setFriction_26 ⟨rfl, rfl⟩ (by decide) (by decide)

theorem c_X5_setFriction_n1 (l : Launch) (g : Gh) (u : Nat → Nat) (v pa sd tx rr rq : Nat → Int) (sv : Nat) (ln th ap rm rd nw hh : Int) (f : Int) (hm : MOK v) (hsv : sv ≤ 4) (hrf : -2147483648 ≤ f ∧ f < 2147483648) (hf : f < 0 ∨ 30 < f) : CT l g yX5_setFriction cX5_setFriction 2 (some FieldType.int) ({ frames := 2, cells := 0, slots := 0, locals := 44 }) [.ref (u 0), .int (iI f)] [(u 0, .inr (5, [.ref (u 1), .ref (u 2), .ref (u 3), .int (iI ((sv : Int))), .ref (u 4), .int (iI ln), .int (iI th), .int (iI ap), .int (iI rm), .ref (u 5), .int (iI rd), .int (iI nw), .ref (u 6), .long (lI hh)])), (u 1, aL g 75 v), (u 2, aL g 300 pa)] (PE (some (.int (iI 0))) [(u 0, .inr (5, [.ref (u 1), .ref (u 2), .ref (u 3), .int (iI ((sv : Int))), .ref (u 4), .int (iI ln), .int (iI 1), .int (iI ap), .int (iI rm), .ref (u 5), .int (iI rd), .int (iI nw), .ref (u 6), .long (lI hh)])), (u 1, aL g 75 v), (u 2, aL g 300 pa)]) := by
  refine CT.intro (L0 := [(0, .ref (u 0)), (1, .int (iI f))]) (own := RX5) (by decide) rfl (Nat.le_of_ble_eq_true rfl) rfl ?_
  intro pX eX sX mX argsX belowX methX cX A C hr hlk
  obtain ⟨hP, hE0, hF, hrow0, hwt, hht, hlen, hent⟩ := id hm
  have hE : -10 ≤ v 3 ∧ v 3 ≤ 10 := by omega
  have hrow : ∀ i : Nat, (i : Int) < v 2 → 0 ≤ vR v i ∧ vR v i ≤ 4 := fun i hi => by have := hrow0 i hi; omega
  refine j_iload_n C 1 dX5_setFriction_0 rfl rfl ?_
  refine j_i2l C (by omega) dX5_setFriction_1 ?_
  refine j_lconst (v := 0) C dX5_setFriction_2 rfl ?_
  refine j_ldc2 (x := 30) C qw742 (by decide) dX5_setFriction_3 ?_
  refine j_callS (As := [.long (lI f), .long (lI 0), .long (lI 30)]) (rest := []) C ys_X5_in qw718 (c_X5_in_f l g f 0 30 (by omega) (by omega) (by omega) (by omega)) (by decide) rfl dX5_setFriction_6 rfl (Nat.le_of_ble_eq_true rfl) (by decide) (pf1 [] [(u 0, .inr (5, [.ref (u 1), .ref (u 2), .ref (u 3), .int (iI ((sv : Int))), .ref (u 4), .int (iI ln), .int (iI th), .int (iI ap), .int (iI rm), .ref (u 5), .int (iI rd), .int (iI nw), .ref (u 6), .long (lI hh)])), (u 1, aL g 75 v), (u 2, aL g 300 pa)]) rfl (fun r9 w9 hq9 => ?_)
  obtain ⟨rfl, rfl⟩ := hq9
  refine J.to (L1 := [(0, .ref (u 0)), (1, .int (iI f))]) (S1 := [.int (iI 0)]) (ws1 := [(u 0, .inr (5, [.ref (u 1), .ref (u 2), .ref (u 3), .int (iI ((sv : Int))), .ref (u 4), .int (iI ln), .int (iI th), .int (iI ap), .int (iI rm), .ref (u 5), .int (iI rd), .int (iI nw), .ref (u 6), .long (lI hh)])), (u 1, aL g 75 v), (u 2, aL g 300 pa)]) rfl rfl rfl ?_
  refine j_if_eq (tgt := 21) C (by decide) dX5_setFriction_9 (by decide) (fun c9 => ?_) (fun c9 => absurd c9 (by decide))
  refine j_aload_n C 0 dX5_setFriction_21 rfl rfl ?_
  refine j_iconst C dX5_setFriction_22 ?_
  refine j_callV (As := [.int (iI 1)]) (rest := []) C yv_X5_fails qw721 (c_X5_fails l g u v ((sv : Int)) ln th ap rm rd nw hh 1) (by decide) 0 rfl rfl rfl dX5_setFriction_23 rfl (Nat.le_of_ble_eq_true rfl) (by decide) (pf1 [] [(u 1, aL g 75 v), (u 2, aL g 300 pa)]) rfl (fun r9 w9 hq9 => ?_)
  obtain ⟨rfl, rfl⟩ := hq9
  refine J.to (L1 := [(0, .ref (u 0)), (1, .int (iI f))]) (S1 := [.int (iI 0)]) (ws1 := [(u 0, .inr (5, [.ref (u 1), .ref (u 2), .ref (u 3), .int (iI ((sv : Int))), .ref (u 4), .int (iI ln), .int (iI 1), .int (iI ap), .int (iI rm), .ref (u 5), .int (iI rd), .int (iI nw), .ref (u 6), .long (lI hh)])), (u 1, aL g 75 v), (u 2, aL g 300 pa)]) rfl rfl rfl ?_
  exact j_iret C hr hlk dX5_setFriction_26 ⟨rfl, rfl⟩ (by decide) (by decide)

theorem c_X5_setLength_ok (l : Launch) (g : Gh) (u : Nat → Nat) (v pa sd tx rr rq : Nat → Int) (sv : Nat) (ln th ap rm rd nw hh : Int) (x : Int) (hm : MOK v) (hsv : sv ≤ 4) (hx : 1000 ≤ x ∧ x ≤ 300000) (hcn : hanV v ≤ x) : CT l g yX5_setLength cX5_setLength 2 (some FieldType.int) ({ frames := 4, cells := 0, slots := 0, locals := 86 }) [.ref (u 0), .int (iI x)] [(u 0, .inr (5, [.ref (u 1), .ref (u 2), .ref (u 3), .int (iI ((sv : Int))), .ref (u 4), .int (iI ln), .int (iI th), .int (iI ap), .int (iI rm), .ref (u 5), .int (iI rd), .int (iI nw), .ref (u 6), .long (lI hh)])), (u 1, aL g 75 v), (u 2, aL g 300 pa)] (PE (some (.int (iI (hndV (va_up v 0 x))))) [(u 0, .inr (5, [.ref (u 1), .ref (u 2), .ref (u 3), .int (iI (((svN sv : Nat) : Int))), .ref (u 4), .int (iI ln), .int (iI 0), .int (iI ap), .int (iI rm), .ref (u 5), .int (iI rd), .int (iI nw), .ref (u 6), .long (lI hh)])), (u 1, aL g 75 (va_up v 0 x)), (u 2, aL g 300 (svP v pa sv))]) := by
  refine CT.intro (L0 := [(0, .ref (u 0)), (1, .int (iI x))]) (own := RX5) (by decide) rfl (Nat.le_of_ble_eq_true rfl) rfl ?_
  intro pX eX sX mX argsX belowX methX cX A C hr hlk
  obtain ⟨hP, hE0, hF, hrow0, hwt, hht, hlen, hent⟩ := id hm
  have hE : -10 ≤ v 3 ∧ v 3 ≤ 10 := by omega
  have hrow : ∀ i : Nat, (i : Int) < v 2 → 0 ≤ vR v i ∧ vR v i ≤ 4 := fun i hi => by have := hrow0 i hi; omega
  have hh9 := hanV_rng hm
  have hh7 := hndV_rng hm
  have hh8 : hndV v = v 0 - hanV v := rfl
  refine j_iload_n C 1 dX5_setLength_0 rfl rfl ?_
  refine j_i2l C (by omega) dX5_setLength_1 ?_
  refine j_ldc2 (x := 1000) C qw661 (by decide) dX5_setLength_2 ?_
  refine j_ldc2 (x := 300000) C qw747 (by decide) dX5_setLength_5 ?_
  refine j_callS (As := [.long (lI x), .long (lI 1000), .long (lI 300000)]) (rest := []) C ys_X5_in qw718 (c_X5_in_t l g x 1000 300000 (by omega) (by omega) (by omega) (by omega)) (by decide) rfl dX5_setLength_8 rfl (Nat.le_of_ble_eq_true rfl) (by decide) (pf1 [] [(u 0, .inr (5, [.ref (u 1), .ref (u 2), .ref (u 3), .int (iI ((sv : Int))), .ref (u 4), .int (iI ln), .int (iI th), .int (iI ap), .int (iI rm), .ref (u 5), .int (iI rd), .int (iI nw), .ref (u 6), .long (lI hh)])), (u 1, aL g 75 v), (u 2, aL g 300 pa)]) rfl (fun r9 w9 hq9 => ?_)
  obtain ⟨rfl, rfl⟩ := hq9
  refine J.to (L1 := [(0, .ref (u 0)), (1, .int (iI x))]) (S1 := [.int (iI 1)]) (ws1 := [(u 0, .inr (5, [.ref (u 1), .ref (u 2), .ref (u 3), .int (iI ((sv : Int))), .ref (u 4), .int (iI ln), .int (iI th), .int (iI ap), .int (iI rm), .ref (u 5), .int (iI rd), .int (iI nw), .ref (u 6), .long (lI hh)])), (u 1, aL g 75 v), (u 2, aL g 300 pa)]) rfl rfl rfl ?_
  refine j_if_ne (tgt := 20) C (by decide) dX5_setLength_11 (by decide) (fun c11 => ?_) (fun c11 => absurd c11 (by decide))
  refine j_iload_n C 1 dX5_setLength_20 rfl rfl ?_
  refine j_aload_n C 0 dX5_setLength_21 rfl rfl ?_
  refine j_callV (As := []) (rest := [.int (iI x)]) C yv_X5_hanging qw748 (c_X5_hanging l g u v ((sv : Int)) ln th ap rm rd nw hh  hm) (by decide) 0 rfl rfl rfl dX5_setLength_22 rfl (Nat.le_of_ble_eq_true rfl) (by decide) (pf1 [] [(u 2, aL g 300 pa)]) rfl (fun r9 w9 hq9 => ?_)
  obtain ⟨rfl, rfl⟩ := hq9
  refine J.to (L1 := [(0, .ref (u 0)), (1, .int (iI x))]) (S1 := [.int (iI (hanV v)), .int (iI x)]) (ws1 := [(u 0, .inr (5, [.ref (u 1), .ref (u 2), .ref (u 3), .int (iI ((sv : Int))), .ref (u 4), .int (iI ln), .int (iI th), .int (iI ap), .int (iI rm), .ref (u 5), .int (iI rd), .int (iI nw), .ref (u 6), .long (lI hh)])), (u 1, aL g 75 v), (u 2, aL g 300 pa)]) rfl rfl rfl ?_
  refine j_icmp_ge (tgt := 34) C (by omega) (by omega) dX5_setLength_25 (by decide) (fun c25 => ?_) (fun c25 => absurd c25 (by omega))
  refine j_aload_n C 0 dX5_setLength_34 rfl rfl ?_
  refine j_callV (As := []) (rest := []) C yv_X5_saves qw730 (c_X5_saves l g u v pa sd tx rr rq sv ln th ap rm rd nw hh hsv) (by decide) 0 rfl rfl rfl dX5_setLength_35 rfl (Nat.le_of_ble_eq_true rfl) (by decide) pf0 rfl (fun r9 w9 hq9 => ?_)
  obtain ⟨rfl, rfl⟩ := hq9
  refine J.to (L1 := [(0, .ref (u 0)), (1, .int (iI x))]) (S1 := []) (ws1 := [(u 0, .inr (5, [.ref (u 1), .ref (u 2), .ref (u 3), .int (iI (((svN sv : Nat) : Int))), .ref (u 4), .int (iI ln), .int (iI th), .int (iI ap), .int (iI rm), .ref (u 5), .int (iI rd), .int (iI nw), .ref (u 6), .long (lI hh)])), (u 1, aL g 75 v), (u 2, aL g 300 (svP v pa sv))]) rfl rfl rfl ?_
  refine j_aload_n C 0 dX5_setLength_38 rfl rfl ?_
  refine j_get C ck5 0 0 (by decide) qw662 rfl rfl dX5_setLength_39 ?_
  refine j_iconst C dX5_setLength_42 ?_
  refine j_iload_n C 1 dX5_setLength_43 rfl rfl ?_
  refine j_i2l C (by omega) dX5_setLength_44 ?_
  refine j_last (n := 75) (f := v) (ws1 := [(u 0, .inr (5, [.ref (u 1), .ref (u 2), .ref (u 3), .int (iI (((svN sv : Nat) : Int))), .ref (u 4), .int (iI ln), .int (iI th), .int (iI ap), .int (iI rm), .ref (u 5), .int (iI rd), .int (iI nw), .ref (u 6), .long (lI hh)])), (u 1, aL g 75 (va_up v 0 x)), (u 2, aL g 300 (svP v pa sv))]) C 1 0 rfl rfl (by decide) (by decide) dX5_setLength_45 rfl ?_
  refine j_aload_n C 0 dX5_setLength_46 rfl rfl ?_
  refine j_aload_n C 0 dX5_setLength_47 rfl rfl ?_
  refine j_callV (As := []) (rest := [.ref (u 0)]) C yv_X5_inHand qw760 (c_X5_inHand l g u (va_up v 0 x) (((svN sv : Nat) : Int)) ln th ap rm rd nw hh  (MOK_len hm hx)) (by decide) 0 rfl rfl rfl dX5_setLength_48 rfl (Nat.le_of_ble_eq_true rfl) (by decide) (pf1 [] [(u 2, aL g 300 (svP v pa sv))]) rfl (fun r9 w9 hq9 => ?_)
  obtain ⟨rfl, rfl⟩ := hq9
  refine J.to (L1 := [(0, .ref (u 0)), (1, .int (iI x))]) (S1 := [.int (iI (hndV (va_up v 0 x))), .ref (u 0)]) (ws1 := [(u 0, .inr (5, [.ref (u 1), .ref (u 2), .ref (u 3), .int (iI (((svN sv : Nat) : Int))), .ref (u 4), .int (iI ln), .int (iI th), .int (iI ap), .int (iI rm), .ref (u 5), .int (iI rd), .int (iI nw), .ref (u 6), .long (lI hh)])), (u 1, aL g 75 (va_up v 0 x)), (u 2, aL g 300 (svP v pa sv))]) rfl rfl rfl ?_
  refine j_callV (As := [.int (iI (hndV (va_up v 0 x)))]) (rest := []) C yv_X5_tells qw734 (c_X5_tells l g u (va_up v 0 x) (((svN sv : Nat) : Int)) ln th ap rm rd nw hh (hndV (va_up v 0 x))) (by decide) 0 rfl rfl rfl dX5_setLength_51 rfl (Nat.le_of_ble_eq_true rfl) (by decide) (pf1 [] [(u 1, aL g 75 (va_up v 0 x)), (u 2, aL g 300 (svP v pa sv))]) rfl (fun r9 w9 hq9 => ?_)
  obtain ⟨rfl, rfl⟩ := hq9
  refine J.to (L1 := [(0, .ref (u 0)), (1, .int (iI x))]) (S1 := [.int (iI (hndV (va_up v 0 x)))]) (ws1 := [(u 0, .inr (5, [.ref (u 1), .ref (u 2), .ref (u 3), .int (iI (((svN sv : Nat) : Int))), .ref (u 4), .int (iI ln), .int (iI 0), .int (iI ap), .int (iI rm), .ref (u 5), .int (iI rd), .int (iI nw), .ref (u 6), .long (lI hh)])), (u 1, aL g 75 (va_up v 0 x)), (u 2, aL g 300 (svP v pa sv))]) rfl rfl rfl ?_
  exact j_iret C hr hlk dX5_setLength_54 ⟨rfl, rfl⟩ (by decide) (by decide)

theorem c_X5_setLength_n1 (l : Launch) (g : Gh) (u : Nat → Nat) (v pa sd tx rr rq : Nat → Int) (sv : Nat) (ln th ap rm rd nw hh : Int) (x : Int) (hm : MOK v) (hsv : sv ≤ 4) (hrx : -2147483648 ≤ x ∧ x < 2147483648) (hx : x < 1000 ∨ 300000 < x) : CT l g yX5_setLength cX5_setLength 2 (some FieldType.int) ({ frames := 4, cells := 0, slots := 0, locals := 86 }) [.ref (u 0), .int (iI x)] [(u 0, .inr (5, [.ref (u 1), .ref (u 2), .ref (u 3), .int (iI ((sv : Int))), .ref (u 4), .int (iI ln), .int (iI th), .int (iI ap), .int (iI rm), .ref (u 5), .int (iI rd), .int (iI nw), .ref (u 6), .long (lI hh)])), (u 1, aL g 75 v), (u 2, aL g 300 pa)] (PE (some (.int (iI 0))) [(u 0, .inr (5, [.ref (u 1), .ref (u 2), .ref (u 3), .int (iI ((sv : Int))), .ref (u 4), .int (iI ln), .int (iI 1), .int (iI ap), .int (iI rm), .ref (u 5), .int (iI rd), .int (iI nw), .ref (u 6), .long (lI hh)])), (u 1, aL g 75 v), (u 2, aL g 300 pa)]) := by
  refine CT.intro (L0 := [(0, .ref (u 0)), (1, .int (iI x))]) (own := RX5) (by decide) rfl (Nat.le_of_ble_eq_true rfl) rfl ?_
  intro pX eX sX mX argsX belowX methX cX A C hr hlk
  obtain ⟨hP, hE0, hF, hrow0, hwt, hht, hlen, hent⟩ := id hm
  have hE : -10 ≤ v 3 ∧ v 3 ≤ 10 := by omega
  have hrow : ∀ i : Nat, (i : Int) < v 2 → 0 ≤ vR v i ∧ vR v i ≤ 4 := fun i hi => by have := hrow0 i hi; omega
  refine j_iload_n C 1 dX5_setLength_0 rfl rfl ?_
  refine j_i2l C (by omega) dX5_setLength_1 ?_
  refine j_ldc2 (x := 1000) C qw661 (by decide) dX5_setLength_2 ?_
  refine j_ldc2 (x := 300000) C qw747 (by decide) dX5_setLength_5 ?_
  refine j_callS (As := [.long (lI x), .long (lI 1000), .long (lI 300000)]) (rest := []) C ys_X5_in qw718 (c_X5_in_f l g x 1000 300000 (by omega) (by omega) (by omega) (by omega)) (by decide) rfl dX5_setLength_8 rfl (Nat.le_of_ble_eq_true rfl) (by decide) (pf1 [] [(u 0, .inr (5, [.ref (u 1), .ref (u 2), .ref (u 3), .int (iI ((sv : Int))), .ref (u 4), .int (iI ln), .int (iI th), .int (iI ap), .int (iI rm), .ref (u 5), .int (iI rd), .int (iI nw), .ref (u 6), .long (lI hh)])), (u 1, aL g 75 v), (u 2, aL g 300 pa)]) rfl (fun r9 w9 hq9 => ?_)
  obtain ⟨rfl, rfl⟩ := hq9
  refine J.to (L1 := [(0, .ref (u 0)), (1, .int (iI x))]) (S1 := [.int (iI 0)]) (ws1 := [(u 0, .inr (5, [.ref (u 1), .ref (u 2), .ref (u 3), .int (iI ((sv : Int))), .ref (u 4), .int (iI ln), .int (iI th), .int (iI ap), .int (iI rm), .ref (u 5), .int (iI rd), .int (iI nw), .ref (u 6), .long (lI hh)])), (u 1, aL g 75 v), (u 2, aL g 300 pa)]) rfl rfl rfl ?_
  refine j_if_ne (tgt := 20) C (by decide) dX5_setLength_11 (by decide) (fun c11 => absurd c11 (by decide)) (fun c11 => ?_)
  refine j_aload_n C 0 dX5_setLength_14 rfl rfl ?_
  refine j_iconst C dX5_setLength_15 ?_
  refine j_callV (As := [.int (iI 1)]) (rest := []) C yv_X5_fails qw721 (c_X5_fails l g u v ((sv : Int)) ln th ap rm rd nw hh 1) (by decide) 0 rfl rfl rfl dX5_setLength_16 rfl (Nat.le_of_ble_eq_true rfl) (by decide) (pf1 [] [(u 1, aL g 75 v), (u 2, aL g 300 pa)]) rfl (fun r9 w9 hq9 => ?_)
  obtain ⟨rfl, rfl⟩ := hq9
  refine J.to (L1 := [(0, .ref (u 0)), (1, .int (iI x))]) (S1 := [.int (iI 0)]) (ws1 := [(u 0, .inr (5, [.ref (u 1), .ref (u 2), .ref (u 3), .int (iI ((sv : Int))), .ref (u 4), .int (iI ln), .int (iI 1), .int (iI ap), .int (iI rm), .ref (u 5), .int (iI rd), .int (iI nw), .ref (u 6), .long (lI hh)])), (u 1, aL g 75 v), (u 2, aL g 300 pa)]) rfl rfl rfl ?_
  exact j_iret C hr hlk dX5_setLength_19 ⟨rfl, rfl⟩ (by decide) (by decide)

theorem c_X5_setLength_n2 (l : Launch) (g : Gh) (u : Nat → Nat) (v pa sd tx rr rq : Nat → Int) (sv : Nat) (ln th ap rm rd nw hh : Int) (x : Int) (hm : MOK v) (hsv : sv ≤ 4) (hx : 1000 ≤ x ∧ x ≤ 300000) (hcn : x < hanV v) : CT l g yX5_setLength cX5_setLength 2 (some FieldType.int) ({ frames := 4, cells := 0, slots := 0, locals := 86 }) [.ref (u 0), .int (iI x)] [(u 0, .inr (5, [.ref (u 1), .ref (u 2), .ref (u 3), .int (iI ((sv : Int))), .ref (u 4), .int (iI ln), .int (iI th), .int (iI ap), .int (iI rm), .ref (u 5), .int (iI rd), .int (iI nw), .ref (u 6), .long (lI hh)])), (u 1, aL g 75 v), (u 2, aL g 300 pa)] (PE (some (.int (iI 0))) [(u 0, .inr (5, [.ref (u 1), .ref (u 2), .ref (u 3), .int (iI ((sv : Int))), .ref (u 4), .int (iI ln), .int (iI 2), .int (iI ap), .int (iI rm), .ref (u 5), .int (iI rd), .int (iI nw), .ref (u 6), .long (lI hh)])), (u 1, aL g 75 v), (u 2, aL g 300 pa)]) := by
  refine CT.intro (L0 := [(0, .ref (u 0)), (1, .int (iI x))]) (own := RX5) (by decide) rfl (Nat.le_of_ble_eq_true rfl) rfl ?_
  intro pX eX sX mX argsX belowX methX cX A C hr hlk
  obtain ⟨hP, hE0, hF, hrow0, hwt, hht, hlen, hent⟩ := id hm
  have hE : -10 ≤ v 3 ∧ v 3 ≤ 10 := by omega
  have hrow : ∀ i : Nat, (i : Int) < v 2 → 0 ≤ vR v i ∧ vR v i ≤ 4 := fun i hi => by have := hrow0 i hi; omega
  have hh9 := hanV_rng hm
  have hh7 := hndV_rng hm
  have hh8 : hndV v = v 0 - hanV v := rfl
  refine j_iload_n C 1 dX5_setLength_0 rfl rfl ?_
  refine j_i2l C (by omega) dX5_setLength_1 ?_
  refine j_ldc2 (x := 1000) C qw661 (by decide) dX5_setLength_2 ?_
  refine j_ldc2 (x := 300000) C qw747 (by decide) dX5_setLength_5 ?_
  refine j_callS (As := [.long (lI x), .long (lI 1000), .long (lI 300000)]) (rest := []) C ys_X5_in qw718 (c_X5_in_t l g x 1000 300000 (by omega) (by omega) (by omega) (by omega)) (by decide) rfl dX5_setLength_8 rfl (Nat.le_of_ble_eq_true rfl) (by decide) (pf1 [] [(u 0, .inr (5, [.ref (u 1), .ref (u 2), .ref (u 3), .int (iI ((sv : Int))), .ref (u 4), .int (iI ln), .int (iI th), .int (iI ap), .int (iI rm), .ref (u 5), .int (iI rd), .int (iI nw), .ref (u 6), .long (lI hh)])), (u 1, aL g 75 v), (u 2, aL g 300 pa)]) rfl (fun r9 w9 hq9 => ?_)
  obtain ⟨rfl, rfl⟩ := hq9
  refine J.to (L1 := [(0, .ref (u 0)), (1, .int (iI x))]) (S1 := [.int (iI 1)]) (ws1 := [(u 0, .inr (5, [.ref (u 1), .ref (u 2), .ref (u 3), .int (iI ((sv : Int))), .ref (u 4), .int (iI ln), .int (iI th), .int (iI ap), .int (iI rm), .ref (u 5), .int (iI rd), .int (iI nw), .ref (u 6), .long (lI hh)])), (u 1, aL g 75 v), (u 2, aL g 300 pa)]) rfl rfl rfl ?_
  refine j_if_ne (tgt := 20) C (by decide) dX5_setLength_11 (by decide) (fun c11 => ?_) (fun c11 => absurd c11 (by decide))
  refine j_iload_n C 1 dX5_setLength_20 rfl rfl ?_
  refine j_aload_n C 0 dX5_setLength_21 rfl rfl ?_
  refine j_callV (As := []) (rest := [.int (iI x)]) C yv_X5_hanging qw748 (c_X5_hanging l g u v ((sv : Int)) ln th ap rm rd nw hh  hm) (by decide) 0 rfl rfl rfl dX5_setLength_22 rfl (Nat.le_of_ble_eq_true rfl) (by decide) (pf1 [] [(u 2, aL g 300 pa)]) rfl (fun r9 w9 hq9 => ?_)
  obtain ⟨rfl, rfl⟩ := hq9
  refine J.to (L1 := [(0, .ref (u 0)), (1, .int (iI x))]) (S1 := [.int (iI (hanV v)), .int (iI x)]) (ws1 := [(u 0, .inr (5, [.ref (u 1), .ref (u 2), .ref (u 3), .int (iI ((sv : Int))), .ref (u 4), .int (iI ln), .int (iI th), .int (iI ap), .int (iI rm), .ref (u 5), .int (iI rd), .int (iI nw), .ref (u 6), .long (lI hh)])), (u 1, aL g 75 v), (u 2, aL g 300 pa)]) rfl rfl rfl ?_
  refine j_icmp_ge (tgt := 34) C (by omega) (by omega) dX5_setLength_25 (by decide) (fun c25 => absurd c25 (by omega)) (fun c25 => ?_)
  refine j_aload_n C 0 dX5_setLength_28 rfl rfl ?_
  refine j_iconst C dX5_setLength_29 ?_
  refine j_callV (As := [.int (iI 2)]) (rest := []) C yv_X5_fails qw721 (c_X5_fails l g u v ((sv : Int)) ln th ap rm rd nw hh 2) (by decide) 0 rfl rfl rfl dX5_setLength_30 rfl (Nat.le_of_ble_eq_true rfl) (by decide) (pf1 [] [(u 1, aL g 75 v), (u 2, aL g 300 pa)]) rfl (fun r9 w9 hq9 => ?_)
  obtain ⟨rfl, rfl⟩ := hq9
  refine J.to (L1 := [(0, .ref (u 0)), (1, .int (iI x))]) (S1 := [.int (iI 0)]) (ws1 := [(u 0, .inr (5, [.ref (u 1), .ref (u 2), .ref (u 3), .int (iI ((sv : Int))), .ref (u 4), .int (iI ln), .int (iI 2), .int (iI ap), .int (iI rm), .ref (u 5), .int (iI rd), .int (iI nw), .ref (u 6), .long (lI hh)])), (u 1, aL g 75 v), (u 2, aL g 300 pa)]) rfl rfl rfl ?_
  exact j_iret C hr hlk dX5_setLength_33 ⟨rfl, rfl⟩ (by decide) (by decide)

theorem c_X5_addPulley_ok (l : Launch) (g : Gh) (u : Nat → Nat) (v pa sd tx rr rq : Nat → Int) (sv : Nat) (ln th ap rm rd nw hh : Int) (b : Int) (hm : MOK v) (hsv : sv ≤ 4) (hb4 : 0 ≤ b ∧ b ≤ 3) (hP9 : v 2 < 10) (hcn : 2 * (10000 - vH v b.toNat) ≤ hndV v) : CT l g yX5_addPulley cX5_addPulley 2 (some FieldType.int) ({ frames := 4, cells := 0, slots := 0, locals := 86 }) [.ref (u 0), .int (iI b)] [(u 0, .inr (5, [.ref (u 1), .ref (u 2), .ref (u 3), .int (iI ((sv : Int))), .ref (u 4), .int (iI ln), .int (iI th), .int (iI ap), .int (iI rm), .ref (u 5), .int (iI rd), .int (iI nw), .ref (u 6), .long (lI hh)])), (u 1, aL g 75 v), (u 2, aL g 300 pa)] (PE (some (.int (iI (v 2 + 1)))) [(u 0, .inr (5, [.ref (u 1), .ref (u 2), .ref (u 3), .int (iI (((svN sv : Nat) : Int))), .ref (u 4), .int (iI ln), .int (iI 0), .int (iI ap), .int (iI rm), .ref (u 5), .int (iI rd), .int (iI nw), .ref (u 6), .long (lI hh)])), (u 1, aL g 75 (va_up (va_up v (17 + (v 2).toNat) b) 2 (v 2 + 1))), (u 2, aL g 300 (svP v pa sv))]) := by
  refine CT.intro (L0 := [(0, .ref (u 0)), (1, .int (iI b))]) (own := RX5) (by decide) rfl (Nat.le_of_ble_eq_true rfl) rfl ?_
  intro pX eX sX mX argsX belowX methX cX A C hr hlk
  obtain ⟨hP, hE0, hF, hrow0, hwt, hht, hlen, hent⟩ := id hm
  have hE : -10 ≤ v 3 ∧ v 3 ≤ 10 := by omega
  have hrow : ∀ i : Nat, (i : Int) < v 2 → 0 ≤ vR v i ∧ vR v i ≤ 4 := fun i hi => by have := hrow0 i hi; omega
  have hh9 := hanV_rng hm
  have hh7 := hndV_rng hm
  have hh8 : hndV v = v 0 - hanV v := rfl
  have hb9 := hht b.toNat (by omega)
  have hb8 : v (13 + b.toNat) = vH v b.toNat := rfl
  refine j_iload_n C 1 dX5_addPulley_0 rfl rfl ?_
  refine j_callS (As := [.int (iI b)]) (rest := []) C ys_X5_isBlock qw714 (c_X5_isBlock_t l g b (by omega)) (by decide) rfl dX5_addPulley_1 rfl (Nat.le_of_ble_eq_true rfl) (by decide) (pf1 [] [(u 0, .inr (5, [.ref (u 1), .ref (u 2), .ref (u 3), .int (iI ((sv : Int))), .ref (u 4), .int (iI ln), .int (iI th), .int (iI ap), .int (iI rm), .ref (u 5), .int (iI rd), .int (iI nw), .ref (u 6), .long (lI hh)])), (u 1, aL g 75 v), (u 2, aL g 300 pa)]) rfl (fun r9 w9 hq9 => ?_)
  obtain ⟨rfl, rfl⟩ := hq9
  refine J.to (L1 := [(0, .ref (u 0)), (1, .int (iI b))]) (S1 := [.int (iI 1)]) (ws1 := [(u 0, .inr (5, [.ref (u 1), .ref (u 2), .ref (u 3), .int (iI ((sv : Int))), .ref (u 4), .int (iI ln), .int (iI th), .int (iI ap), .int (iI rm), .ref (u 5), .int (iI rd), .int (iI nw), .ref (u 6), .long (lI hh)])), (u 1, aL g 75 v), (u 2, aL g 300 pa)]) rfl rfl rfl ?_
  refine j_if_ne (tgt := 13) C (by decide) dX5_addPulley_4 (by decide) (fun c4 => ?_) (fun c4 => absurd c4 (by decide))
  refine j_aload_n C 0 dX5_addPulley_13 rfl rfl ?_
  refine j_get C ck5 0 0 (by decide) qw662 rfl rfl dX5_addPulley_14 ?_
  refine j_iconst C dX5_addPulley_17 ?_
  refine j_lald (n := 75) (f := v) C 1 2 rfl rfl (by decide) (by decide) dX5_addPulley_18 ?_
  refine j_ldc2 (x := 10) C qw659 (by decide) dX5_addPulley_19 ?_
  refine j_lif_eq (tgt := 52) C (by omega) (by decide) dX5_addPulley_22 dX5_addPulley_23 (by decide) (fun c22 => absurd c22 (by omega)) (fun c22 => ?_)
  refine j_aload_n C 0 dX5_addPulley_26 rfl rfl ?_
  refine j_callV (As := []) (rest := []) C yv_X5_inHand qw760 (c_X5_inHand l g u v ((sv : Int)) ln th ap rm rd nw hh  hm) (by decide) 0 rfl rfl rfl dX5_addPulley_27 rfl (Nat.le_of_ble_eq_true rfl) (by decide) (pf1 [] [(u 2, aL g 300 pa)]) rfl (fun r9 w9 hq9 => ?_)
  obtain ⟨rfl, rfl⟩ := hq9
  refine J.to (L1 := [(0, .ref (u 0)), (1, .int (iI b))]) (S1 := [.int (iI (hndV v))]) (ws1 := [(u 0, .inr (5, [.ref (u 1), .ref (u 2), .ref (u 3), .int (iI ((sv : Int))), .ref (u 4), .int (iI ln), .int (iI th), .int (iI ap), .int (iI rm), .ref (u 5), .int (iI rd), .int (iI nw), .ref (u 6), .long (lI hh)])), (u 1, aL g 75 v), (u 2, aL g 300 pa)]) rfl rfl rfl ?_
  refine j_i2l C (by omega) dX5_addPulley_30 ?_
  refine j_ldc2 (x := 2) C qw768 (by decide) dX5_addPulley_31 ?_
  refine j_ldc2 (x := 10000) C qw769 (by decide) dX5_addPulley_34 ?_
  refine j_aload_n C 0 dX5_addPulley_37 rfl rfl ?_
  refine j_get C ck5 0 0 (by decide) qw662 rfl rfl dX5_addPulley_38 ?_
  refine j_bipush C dX5_addPulley_41 (by decide) ?_
  refine j_iload_n C 1 dX5_addPulley_43 rfl rfl ?_
  refine j_iadd C dX5_addPulley_44 ?_
  refine j_lald (n := 75) (f := v) C 1 (13 + b.toNat) rfl (by omega) (by omega) (by decide) dX5_addPulley_45 ?_
  refine j_lsub C dX5_addPulley_46 ?_
  refine j_lmul C dX5_addPulley_47 ?_
  refine j_lif_ge (tgt := 58) C (by omega) (by omega) dX5_addPulley_48 dX5_addPulley_49 (by decide) (fun c48 => ?_) (fun c48 => absurd c48 (by omega))
  refine j_aload_n C 0 dX5_addPulley_58 rfl rfl ?_
  refine j_callV (As := []) (rest := []) C yv_X5_saves qw730 (c_X5_saves l g u v pa sd tx rr rq sv ln th ap rm rd nw hh hsv) (by decide) 0 rfl rfl rfl dX5_addPulley_59 rfl (Nat.le_of_ble_eq_true rfl) (by decide) pf0 rfl (fun r9 w9 hq9 => ?_)
  obtain ⟨rfl, rfl⟩ := hq9
  refine J.to (L1 := [(0, .ref (u 0)), (1, .int (iI b))]) (S1 := []) (ws1 := [(u 0, .inr (5, [.ref (u 1), .ref (u 2), .ref (u 3), .int (iI (((svN sv : Nat) : Int))), .ref (u 4), .int (iI ln), .int (iI th), .int (iI ap), .int (iI rm), .ref (u 5), .int (iI rd), .int (iI nw), .ref (u 6), .long (lI hh)])), (u 1, aL g 75 v), (u 2, aL g 300 (svP v pa sv))]) rfl rfl rfl ?_
  refine j_aload_n C 0 dX5_addPulley_62 rfl rfl ?_
  refine j_get C ck5 0 0 (by decide) qw662 rfl rfl dX5_addPulley_63 ?_
  refine j_bipush C dX5_addPulley_66 (by decide) ?_
  refine j_aload_n C 0 dX5_addPulley_68 rfl rfl ?_
  refine j_get C ck5 0 0 (by decide) qw662 rfl rfl dX5_addPulley_69 ?_
  refine j_iconst C dX5_addPulley_72 ?_
  refine j_lald (n := 75) (f := v) C 1 2 rfl rfl (by decide) (by decide) dX5_addPulley_73 ?_
  refine j_l2i C dX5_addPulley_74 ?_
  refine j_iadd C dX5_addPulley_75 ?_
  refine j_iload_n C 1 dX5_addPulley_76 rfl rfl ?_
  refine j_i2l C (by omega) dX5_addPulley_77 ?_
  refine j_last (n := 75) (f := v) (ws1 := [(u 0, .inr (5, [.ref (u 1), .ref (u 2), .ref (u 3), .int (iI (((svN sv : Nat) : Int))), .ref (u 4), .int (iI ln), .int (iI th), .int (iI ap), .int (iI rm), .ref (u 5), .int (iI rd), .int (iI nw), .ref (u 6), .long (lI hh)])), (u 1, aL g 75 (va_up v (17 + (v 2).toNat) b)), (u 2, aL g 300 (svP v pa sv))]) C 1 (17 + (v 2).toNat) rfl (by omega) (by omega) (by decide) dX5_addPulley_78 rfl ?_
  refine j_aload_n C 0 dX5_addPulley_79 rfl rfl ?_
  refine j_get C ck5 0 0 (by decide) qw662 rfl rfl dX5_addPulley_80 ?_
  refine j_iconst C dX5_addPulley_83 ?_
  refine j_dup2 C dX5_addPulley_84 rfl rfl ?_
  refine j_lald (n := 75) (f := va_up v (17 + (v 2).toNat) b) C 1 2 rfl rfl (by decide) (by decide) dX5_addPulley_85 ?_
  refine J.to (L1 := [(0, .ref (u 0)), (1, .int (iI b))]) (S1 := [.long (lI (v 2)), .int (iI 2), .ref (u 1)]) (ws1 := [(u 0, .inr (5, [.ref (u 1), .ref (u 2), .ref (u 3), .int (iI (((svN sv : Nat) : Int))), .ref (u 4), .int (iI ln), .int (iI th), .int (iI ap), .int (iI rm), .ref (u 5), .int (iI rd), .int (iI nw), .ref (u 6), .long (lI hh)])), (u 1, aL g 75 (va_up v (17 + (v 2).toNat) b)), (u 2, aL g 300 (svP v pa sv))]) rfl rfl (by rw [show (((va_up v (17 + (v 2).toNat) b) 2 : Int)) = v 2 from (va_ne (by omega))]) ?_
  refine j_lconst (v := 1) C dX5_addPulley_86 rfl ?_
  refine j_ladd C dX5_addPulley_87 ?_
  refine j_last (n := 75) (f := va_up v (17 + (v 2).toNat) b) (ws1 := [(u 0, .inr (5, [.ref (u 1), .ref (u 2), .ref (u 3), .int (iI (((svN sv : Nat) : Int))), .ref (u 4), .int (iI ln), .int (iI th), .int (iI ap), .int (iI rm), .ref (u 5), .int (iI rd), .int (iI nw), .ref (u 6), .long (lI hh)])), (u 1, aL g 75 (va_up (va_up v (17 + (v 2).toNat) b) 2 ((v 2) + 1))), (u 2, aL g 300 (svP v pa sv))]) C 1 2 rfl rfl (by decide) (by decide) dX5_addPulley_88 rfl ?_
  refine j_aload_n C 0 dX5_addPulley_89 rfl rfl ?_
  refine j_aload_n C 0 dX5_addPulley_90 rfl rfl ?_
  refine j_get C ck5 0 0 (by decide) qw662 rfl rfl dX5_addPulley_91 ?_
  refine j_iconst C dX5_addPulley_94 ?_
  refine j_lald (n := 75) (f := va_up (va_up v (17 + (v 2).toNat) b) 2 ((v 2) + 1)) C 1 2 rfl rfl (by decide) (by decide) dX5_addPulley_95 ?_
  refine J.to (L1 := [(0, .ref (u 0)), (1, .int (iI b))]) (S1 := [.long (lI (v 2 + 1)), .ref (u 0)]) (ws1 := [(u 0, .inr (5, [.ref (u 1), .ref (u 2), .ref (u 3), .int (iI (((svN sv : Nat) : Int))), .ref (u 4), .int (iI ln), .int (iI th), .int (iI ap), .int (iI rm), .ref (u 5), .int (iI rd), .int (iI nw), .ref (u 6), .long (lI hh)])), (u 1, aL g 75 (va_up (va_up v (17 + (v 2).toNat) b) 2 ((v 2) + 1))), (u 2, aL g 300 (svP v pa sv))]) rfl rfl (by rw [show (((va_up (va_up v (17 + (v 2).toNat) b) 2 ((v 2) + 1)) 2 : Int)) = v 2 + 1 from rfl]) ?_
  refine j_l2i C dX5_addPulley_96 ?_
  refine j_callV (As := [.int (iI (v 2 + 1))]) (rest := []) C yv_X5_tells qw734 (c_X5_tells l g u (va_up (va_up v (17 + (v 2).toNat) b) 2 ((v 2) + 1)) (((svN sv : Nat) : Int)) ln th ap rm rd nw hh (v 2 + 1)) (by decide) 0 rfl rfl rfl dX5_addPulley_97 rfl (Nat.le_of_ble_eq_true rfl) (by decide) (pf1 [] [(u 1, aL g 75 (va_up (va_up v (17 + (v 2).toNat) b) 2 ((v 2) + 1))), (u 2, aL g 300 (svP v pa sv))]) rfl (fun r9 w9 hq9 => ?_)
  obtain ⟨rfl, rfl⟩ := hq9
  refine J.to (L1 := [(0, .ref (u 0)), (1, .int (iI b))]) (S1 := [.int (iI (v 2 + 1))]) (ws1 := [(u 0, .inr (5, [.ref (u 1), .ref (u 2), .ref (u 3), .int (iI (((svN sv : Nat) : Int))), .ref (u 4), .int (iI ln), .int (iI 0), .int (iI ap), .int (iI rm), .ref (u 5), .int (iI rd), .int (iI nw), .ref (u 6), .long (lI hh)])), (u 1, aL g 75 (va_up (va_up v (17 + (v 2).toNat) b) 2 ((v 2) + 1))), (u 2, aL g 300 (svP v pa sv))]) rfl rfl rfl ?_
  exact j_iret C hr hlk dX5_addPulley_100 ⟨rfl, rfl⟩ (by decide) (by decide)

theorem c_X5_addPulley_n1 (l : Launch) (g : Gh) (u : Nat → Nat) (v pa sd tx rr rq : Nat → Int) (sv : Nat) (ln th ap rm rd nw hh : Int) (b : Int) (hm : MOK v) (hsv : sv ≤ 4) (hrb : -2147483648 ≤ b ∧ b < 2147483648) (hb4 : b < 0 ∨ 3 < b) : CT l g yX5_addPulley cX5_addPulley 2 (some FieldType.int) ({ frames := 4, cells := 0, slots := 0, locals := 86 }) [.ref (u 0), .int (iI b)] [(u 0, .inr (5, [.ref (u 1), .ref (u 2), .ref (u 3), .int (iI ((sv : Int))), .ref (u 4), .int (iI ln), .int (iI th), .int (iI ap), .int (iI rm), .ref (u 5), .int (iI rd), .int (iI nw), .ref (u 6), .long (lI hh)])), (u 1, aL g 75 v), (u 2, aL g 300 pa)] (PE (some (.int (iI 0))) [(u 0, .inr (5, [.ref (u 1), .ref (u 2), .ref (u 3), .int (iI ((sv : Int))), .ref (u 4), .int (iI ln), .int (iI 1), .int (iI ap), .int (iI rm), .ref (u 5), .int (iI rd), .int (iI nw), .ref (u 6), .long (lI hh)])), (u 1, aL g 75 v), (u 2, aL g 300 pa)]) := by
  refine CT.intro (L0 := [(0, .ref (u 0)), (1, .int (iI b))]) (own := RX5) (by decide) rfl (Nat.le_of_ble_eq_true rfl) rfl ?_
  intro pX eX sX mX argsX belowX methX cX A C hr hlk
  obtain ⟨hP, hE0, hF, hrow0, hwt, hht, hlen, hent⟩ := id hm
  have hE : -10 ≤ v 3 ∧ v 3 ≤ 10 := by omega
  have hrow : ∀ i : Nat, (i : Int) < v 2 → 0 ≤ vR v i ∧ vR v i ≤ 4 := fun i hi => by have := hrow0 i hi; omega
  refine j_iload_n C 1 dX5_addPulley_0 rfl rfl ?_
  refine j_callS (As := [.int (iI b)]) (rest := []) C ys_X5_isBlock qw714 (c_X5_isBlock_f l g b (by omega) (by omega)) (by decide) rfl dX5_addPulley_1 rfl (Nat.le_of_ble_eq_true rfl) (by decide) (pf1 [] [(u 0, .inr (5, [.ref (u 1), .ref (u 2), .ref (u 3), .int (iI ((sv : Int))), .ref (u 4), .int (iI ln), .int (iI th), .int (iI ap), .int (iI rm), .ref (u 5), .int (iI rd), .int (iI nw), .ref (u 6), .long (lI hh)])), (u 1, aL g 75 v), (u 2, aL g 300 pa)]) rfl (fun r9 w9 hq9 => ?_)
  obtain ⟨rfl, rfl⟩ := hq9
  refine J.to (L1 := [(0, .ref (u 0)), (1, .int (iI b))]) (S1 := [.int (iI 0)]) (ws1 := [(u 0, .inr (5, [.ref (u 1), .ref (u 2), .ref (u 3), .int (iI ((sv : Int))), .ref (u 4), .int (iI ln), .int (iI th), .int (iI ap), .int (iI rm), .ref (u 5), .int (iI rd), .int (iI nw), .ref (u 6), .long (lI hh)])), (u 1, aL g 75 v), (u 2, aL g 300 pa)]) rfl rfl rfl ?_
  refine j_if_ne (tgt := 13) C (by decide) dX5_addPulley_4 (by decide) (fun c4 => absurd c4 (by decide)) (fun c4 => ?_)
  refine j_aload_n C 0 dX5_addPulley_7 rfl rfl ?_
  refine j_iconst C dX5_addPulley_8 ?_
  refine j_callV (As := [.int (iI 1)]) (rest := []) C yv_X5_fails qw721 (c_X5_fails l g u v ((sv : Int)) ln th ap rm rd nw hh 1) (by decide) 0 rfl rfl rfl dX5_addPulley_9 rfl (Nat.le_of_ble_eq_true rfl) (by decide) (pf1 [] [(u 1, aL g 75 v), (u 2, aL g 300 pa)]) rfl (fun r9 w9 hq9 => ?_)
  obtain ⟨rfl, rfl⟩ := hq9
  refine J.to (L1 := [(0, .ref (u 0)), (1, .int (iI b))]) (S1 := [.int (iI 0)]) (ws1 := [(u 0, .inr (5, [.ref (u 1), .ref (u 2), .ref (u 3), .int (iI ((sv : Int))), .ref (u 4), .int (iI ln), .int (iI 1), .int (iI ap), .int (iI rm), .ref (u 5), .int (iI rd), .int (iI nw), .ref (u 6), .long (lI hh)])), (u 1, aL g 75 v), (u 2, aL g 300 pa)]) rfl rfl rfl ?_
  exact j_iret C hr hlk dX5_addPulley_12 ⟨rfl, rfl⟩ (by decide) (by decide)

theorem c_X5_addPulley_n2 (l : Launch) (g : Gh) (u : Nat → Nat) (v pa sd tx rr rq : Nat → Int) (sv : Nat) (ln th ap rm rd nw hh : Int) (b : Int) (hm : MOK v) (hsv : sv ≤ 4) (hb4 : 0 ≤ b ∧ b ≤ 3) (hP9 : v 2 = 10) : CT l g yX5_addPulley cX5_addPulley 2 (some FieldType.int) ({ frames := 4, cells := 0, slots := 0, locals := 86 }) [.ref (u 0), .int (iI b)] [(u 0, .inr (5, [.ref (u 1), .ref (u 2), .ref (u 3), .int (iI ((sv : Int))), .ref (u 4), .int (iI ln), .int (iI th), .int (iI ap), .int (iI rm), .ref (u 5), .int (iI rd), .int (iI nw), .ref (u 6), .long (lI hh)])), (u 1, aL g 75 v), (u 2, aL g 300 pa)] (PE (some (.int (iI 0))) [(u 0, .inr (5, [.ref (u 1), .ref (u 2), .ref (u 3), .int (iI ((sv : Int))), .ref (u 4), .int (iI ln), .int (iI 2), .int (iI ap), .int (iI rm), .ref (u 5), .int (iI rd), .int (iI nw), .ref (u 6), .long (lI hh)])), (u 1, aL g 75 v), (u 2, aL g 300 pa)]) := by
  refine CT.intro (L0 := [(0, .ref (u 0)), (1, .int (iI b))]) (own := RX5) (by decide) rfl (Nat.le_of_ble_eq_true rfl) rfl ?_
  intro pX eX sX mX argsX belowX methX cX A C hr hlk
  obtain ⟨hP, hE0, hF, hrow0, hwt, hht, hlen, hent⟩ := id hm
  have hE : -10 ≤ v 3 ∧ v 3 ≤ 10 := by omega
  have hrow : ∀ i : Nat, (i : Int) < v 2 → 0 ≤ vR v i ∧ vR v i ≤ 4 := fun i hi => by have := hrow0 i hi; omega
  have hh9 := hanV_rng hm
  have hh7 := hndV_rng hm
  have hh8 : hndV v = v 0 - hanV v := rfl
  have hb9 := hht b.toNat (by omega)
  have hb8 : v (13 + b.toNat) = vH v b.toNat := rfl
  refine j_iload_n C 1 dX5_addPulley_0 rfl rfl ?_
  refine j_callS (As := [.int (iI b)]) (rest := []) C ys_X5_isBlock qw714 (c_X5_isBlock_t l g b (by omega)) (by decide) rfl dX5_addPulley_1 rfl (Nat.le_of_ble_eq_true rfl) (by decide) (pf1 [] [(u 0, .inr (5, [.ref (u 1), .ref (u 2), .ref (u 3), .int (iI ((sv : Int))), .ref (u 4), .int (iI ln), .int (iI th), .int (iI ap), .int (iI rm), .ref (u 5), .int (iI rd), .int (iI nw), .ref (u 6), .long (lI hh)])), (u 1, aL g 75 v), (u 2, aL g 300 pa)]) rfl (fun r9 w9 hq9 => ?_)
  obtain ⟨rfl, rfl⟩ := hq9
  refine J.to (L1 := [(0, .ref (u 0)), (1, .int (iI b))]) (S1 := [.int (iI 1)]) (ws1 := [(u 0, .inr (5, [.ref (u 1), .ref (u 2), .ref (u 3), .int (iI ((sv : Int))), .ref (u 4), .int (iI ln), .int (iI th), .int (iI ap), .int (iI rm), .ref (u 5), .int (iI rd), .int (iI nw), .ref (u 6), .long (lI hh)])), (u 1, aL g 75 v), (u 2, aL g 300 pa)]) rfl rfl rfl ?_
  refine j_if_ne (tgt := 13) C (by decide) dX5_addPulley_4 (by decide) (fun c4 => ?_) (fun c4 => absurd c4 (by decide))
  refine j_aload_n C 0 dX5_addPulley_13 rfl rfl ?_
  refine j_get C ck5 0 0 (by decide) qw662 rfl rfl dX5_addPulley_14 ?_
  refine j_iconst C dX5_addPulley_17 ?_
  refine j_lald (n := 75) (f := v) C 1 2 rfl rfl (by decide) (by decide) dX5_addPulley_18 ?_
  refine j_ldc2 (x := 10) C qw659 (by decide) dX5_addPulley_19 ?_
  refine j_lif_eq (tgt := 52) C (by omega) (by decide) dX5_addPulley_22 dX5_addPulley_23 (by decide) (fun c22 => ?_) (fun c22 => absurd c22 (by omega))
  refine j_aload_n C 0 dX5_addPulley_52 rfl rfl ?_
  refine j_iconst C dX5_addPulley_53 ?_
  refine j_callV (As := [.int (iI 2)]) (rest := []) C yv_X5_fails qw721 (c_X5_fails l g u v ((sv : Int)) ln th ap rm rd nw hh 2) (by decide) 0 rfl rfl rfl dX5_addPulley_54 rfl (Nat.le_of_ble_eq_true rfl) (by decide) (pf1 [] [(u 1, aL g 75 v), (u 2, aL g 300 pa)]) rfl (fun r9 w9 hq9 => ?_)
  obtain ⟨rfl, rfl⟩ := hq9
  refine J.to (L1 := [(0, .ref (u 0)), (1, .int (iI b))]) (S1 := [.int (iI 0)]) (ws1 := [(u 0, .inr (5, [.ref (u 1), .ref (u 2), .ref (u 3), .int (iI ((sv : Int))), .ref (u 4), .int (iI ln), .int (iI 2), .int (iI ap), .int (iI rm), .ref (u 5), .int (iI rd), .int (iI nw), .ref (u 6), .long (lI hh)])), (u 1, aL g 75 v), (u 2, aL g 300 pa)]) rfl rfl rfl ?_
  exact j_iret C hr hlk dX5_addPulley_57 ⟨rfl, rfl⟩ (by decide) (by decide)

theorem c_X5_addPulley_n3 (l : Launch) (g : Gh) (u : Nat → Nat) (v pa sd tx rr rq : Nat → Int) (sv : Nat) (ln th ap rm rd nw hh : Int) (b : Int) (hm : MOK v) (hsv : sv ≤ 4) (hb4 : 0 ≤ b ∧ b ≤ 3) (hP9 : v 2 < 10) (hcn : hndV v < 2 * (10000 - vH v b.toNat)) : CT l g yX5_addPulley cX5_addPulley 2 (some FieldType.int) ({ frames := 4, cells := 0, slots := 0, locals := 86 }) [.ref (u 0), .int (iI b)] [(u 0, .inr (5, [.ref (u 1), .ref (u 2), .ref (u 3), .int (iI ((sv : Int))), .ref (u 4), .int (iI ln), .int (iI th), .int (iI ap), .int (iI rm), .ref (u 5), .int (iI rd), .int (iI nw), .ref (u 6), .long (lI hh)])), (u 1, aL g 75 v), (u 2, aL g 300 pa)] (PE (some (.int (iI 0))) [(u 0, .inr (5, [.ref (u 1), .ref (u 2), .ref (u 3), .int (iI ((sv : Int))), .ref (u 4), .int (iI ln), .int (iI 2), .int (iI ap), .int (iI rm), .ref (u 5), .int (iI rd), .int (iI nw), .ref (u 6), .long (lI hh)])), (u 1, aL g 75 v), (u 2, aL g 300 pa)]) := by
  refine CT.intro (L0 := [(0, .ref (u 0)), (1, .int (iI b))]) (own := RX5) (by decide) rfl (Nat.le_of_ble_eq_true rfl) rfl ?_
  intro pX eX sX mX argsX belowX methX cX A C hr hlk
  obtain ⟨hP, hE0, hF, hrow0, hwt, hht, hlen, hent⟩ := id hm
  have hE : -10 ≤ v 3 ∧ v 3 ≤ 10 := by omega
  have hrow : ∀ i : Nat, (i : Int) < v 2 → 0 ≤ vR v i ∧ vR v i ≤ 4 := fun i hi => by have := hrow0 i hi; omega
  have hh9 := hanV_rng hm
  have hh7 := hndV_rng hm
  have hh8 : hndV v = v 0 - hanV v := rfl
  have hb9 := hht b.toNat (by omega)
  have hb8 : v (13 + b.toNat) = vH v b.toNat := rfl
  refine j_iload_n C 1 dX5_addPulley_0 rfl rfl ?_
  refine j_callS (As := [.int (iI b)]) (rest := []) C ys_X5_isBlock qw714 (c_X5_isBlock_t l g b (by omega)) (by decide) rfl dX5_addPulley_1 rfl (Nat.le_of_ble_eq_true rfl) (by decide) (pf1 [] [(u 0, .inr (5, [.ref (u 1), .ref (u 2), .ref (u 3), .int (iI ((sv : Int))), .ref (u 4), .int (iI ln), .int (iI th), .int (iI ap), .int (iI rm), .ref (u 5), .int (iI rd), .int (iI nw), .ref (u 6), .long (lI hh)])), (u 1, aL g 75 v), (u 2, aL g 300 pa)]) rfl (fun r9 w9 hq9 => ?_)
  obtain ⟨rfl, rfl⟩ := hq9
  refine J.to (L1 := [(0, .ref (u 0)), (1, .int (iI b))]) (S1 := [.int (iI 1)]) (ws1 := [(u 0, .inr (5, [.ref (u 1), .ref (u 2), .ref (u 3), .int (iI ((sv : Int))), .ref (u 4), .int (iI ln), .int (iI th), .int (iI ap), .int (iI rm), .ref (u 5), .int (iI rd), .int (iI nw), .ref (u 6), .long (lI hh)])), (u 1, aL g 75 v), (u 2, aL g 300 pa)]) rfl rfl rfl ?_
  refine j_if_ne (tgt := 13) C (by decide) dX5_addPulley_4 (by decide) (fun c4 => ?_) (fun c4 => absurd c4 (by decide))
  refine j_aload_n C 0 dX5_addPulley_13 rfl rfl ?_
  refine j_get C ck5 0 0 (by decide) qw662 rfl rfl dX5_addPulley_14 ?_
  refine j_iconst C dX5_addPulley_17 ?_
  refine j_lald (n := 75) (f := v) C 1 2 rfl rfl (by decide) (by decide) dX5_addPulley_18 ?_
  refine j_ldc2 (x := 10) C qw659 (by decide) dX5_addPulley_19 ?_
  refine j_lif_eq (tgt := 52) C (by omega) (by decide) dX5_addPulley_22 dX5_addPulley_23 (by decide) (fun c22 => absurd c22 (by omega)) (fun c22 => ?_)
  refine j_aload_n C 0 dX5_addPulley_26 rfl rfl ?_
  refine j_callV (As := []) (rest := []) C yv_X5_inHand qw760 (c_X5_inHand l g u v ((sv : Int)) ln th ap rm rd nw hh  hm) (by decide) 0 rfl rfl rfl dX5_addPulley_27 rfl (Nat.le_of_ble_eq_true rfl) (by decide) (pf1 [] [(u 2, aL g 300 pa)]) rfl (fun r9 w9 hq9 => ?_)
  obtain ⟨rfl, rfl⟩ := hq9
  refine J.to (L1 := [(0, .ref (u 0)), (1, .int (iI b))]) (S1 := [.int (iI (hndV v))]) (ws1 := [(u 0, .inr (5, [.ref (u 1), .ref (u 2), .ref (u 3), .int (iI ((sv : Int))), .ref (u 4), .int (iI ln), .int (iI th), .int (iI ap), .int (iI rm), .ref (u 5), .int (iI rd), .int (iI nw), .ref (u 6), .long (lI hh)])), (u 1, aL g 75 v), (u 2, aL g 300 pa)]) rfl rfl rfl ?_
  refine j_i2l C (by omega) dX5_addPulley_30 ?_
  refine j_ldc2 (x := 2) C qw768 (by decide) dX5_addPulley_31 ?_
  refine j_ldc2 (x := 10000) C qw769 (by decide) dX5_addPulley_34 ?_
  refine j_aload_n C 0 dX5_addPulley_37 rfl rfl ?_
  refine j_get C ck5 0 0 (by decide) qw662 rfl rfl dX5_addPulley_38 ?_
  refine j_bipush C dX5_addPulley_41 (by decide) ?_
  refine j_iload_n C 1 dX5_addPulley_43 rfl rfl ?_
  refine j_iadd C dX5_addPulley_44 ?_
  refine j_lald (n := 75) (f := v) C 1 (13 + b.toNat) rfl (by omega) (by omega) (by decide) dX5_addPulley_45 ?_
  refine j_lsub C dX5_addPulley_46 ?_
  refine j_lmul C dX5_addPulley_47 ?_
  refine j_lif_ge (tgt := 58) C (by omega) (by omega) dX5_addPulley_48 dX5_addPulley_49 (by decide) (fun c48 => absurd c48 (by omega)) (fun c48 => ?_)
  refine j_aload_n C 0 dX5_addPulley_52 rfl rfl ?_
  refine j_iconst C dX5_addPulley_53 ?_
  refine j_callV (As := [.int (iI 2)]) (rest := []) C yv_X5_fails qw721 (c_X5_fails l g u v ((sv : Int)) ln th ap rm rd nw hh 2) (by decide) 0 rfl rfl rfl dX5_addPulley_54 rfl (Nat.le_of_ble_eq_true rfl) (by decide) (pf1 [] [(u 1, aL g 75 v), (u 2, aL g 300 pa)]) rfl (fun r9 w9 hq9 => ?_)
  obtain ⟨rfl, rfl⟩ := hq9
  refine J.to (L1 := [(0, .ref (u 0)), (1, .int (iI b))]) (S1 := [.int (iI 0)]) (ws1 := [(u 0, .inr (5, [.ref (u 1), .ref (u 2), .ref (u 3), .int (iI ((sv : Int))), .ref (u 4), .int (iI ln), .int (iI 2), .int (iI ap), .int (iI rm), .ref (u 5), .int (iI rd), .int (iI nw), .ref (u 6), .long (lI hh)])), (u 1, aL g 75 v), (u 2, aL g 300 pa)]) rfl rfl rfl ?_
  exact j_iret C hr hlk dX5_addPulley_57 ⟨rfl, rfl⟩ (by decide) (by decide)

theorem c_X5_takePulley_ok (l : Launch) (g : Gh) (u : Nat → Nat) (v pa sd tx rr rq : Nat → Int) (sv : Nat) (ln th ap rm rd nw hh : Int) (hm : MOK v) (hsv : sv ≤ 4) (hP0 : 0 < v 2) : CT l g yX5_takePulley cX5_takePulley 1 (some FieldType.int) ({ frames := 1, cells := 0, slots := 0, locals := 21 }) [.ref (u 0)] [(u 0, .inr (5, [.ref (u 1), .ref (u 2), .ref (u 3), .int (iI ((sv : Int))), .ref (u 4), .int (iI ln), .int (iI th), .int (iI ap), .int (iI rm), .ref (u 5), .int (iI rd), .int (iI nw), .ref (u 6), .long (lI hh)])), (u 1, aL g 75 v), (u 2, aL g 300 pa)] (PE (some (.int (iI (v (17 + (v 2 - 1).toNat))))) [(u 0, .inr (5, [.ref (u 1), .ref (u 2), .ref (u 3), .int (iI (((svN sv : Nat) : Int))), .ref (u 4), .int (iI ln), .int (iI 0), .int (iI ap), .int (iI rm), .ref (u 5), .int (iI rd), .int (iI nw), .ref (u 6), .long (lI hh)])), (u 1, aL g 75 (va_up v 2 (v 2 - 1))), (u 2, aL g 300 (svP v pa sv))]) := by
  refine CT.intro (L0 := [(0, .ref (u 0))]) (own := RX5) (by decide) rfl (Nat.le_of_ble_eq_true rfl) rfl ?_
  intro pX eX sX mX argsX belowX methX cX A C hr hlk
  obtain ⟨hP, hE0, hF, hrow0, hwt, hht, hlen, hent⟩ := id hm
  have hE : -10 ≤ v 3 ∧ v 3 ≤ 10 := by omega
  have hrow : ∀ i : Nat, (i : Int) < v 2 → 0 ≤ vR v i ∧ vR v i ≤ 4 := fun i hi => by have := hrow0 i hi; omega
  refine j_aload_n C 0 dX5_takePulley_0 rfl rfl ?_
  refine j_get C ck5 0 0 (by decide) qw662 rfl rfl dX5_takePulley_1 ?_
  refine j_iconst C dX5_takePulley_4 ?_
  refine j_lald (n := 75) (f := v) C 1 2 rfl rfl (by decide) (by decide) dX5_takePulley_5 ?_
  refine j_lconst (v := 0) C dX5_takePulley_6 rfl ?_
  refine j_lif_ne (tgt := 17) C (by omega) (by decide) dX5_takePulley_7 dX5_takePulley_8 (by decide) (fun c7 => ?_) (fun c7 => absurd c7 (by omega))
  refine j_aload_n C 0 dX5_takePulley_17 rfl rfl ?_
  refine j_callV (As := []) (rest := []) C yv_X5_saves qw730 (c_X5_saves l g u v pa sd tx rr rq sv ln th ap rm rd nw hh hsv) (by decide) 0 rfl rfl rfl dX5_takePulley_18 rfl (Nat.le_of_ble_eq_true rfl) (by decide) pf0 rfl (fun r9 w9 hq9 => ?_)
  obtain ⟨rfl, rfl⟩ := hq9
  refine J.to (L1 := [(0, .ref (u 0))]) (S1 := []) (ws1 := [(u 0, .inr (5, [.ref (u 1), .ref (u 2), .ref (u 3), .int (iI (((svN sv : Nat) : Int))), .ref (u 4), .int (iI ln), .int (iI th), .int (iI ap), .int (iI rm), .ref (u 5), .int (iI rd), .int (iI nw), .ref (u 6), .long (lI hh)])), (u 1, aL g 75 v), (u 2, aL g 300 (svP v pa sv))]) rfl rfl rfl ?_
  refine j_aload_n C 0 dX5_takePulley_21 rfl rfl ?_
  refine j_get C ck5 0 0 (by decide) qw662 rfl rfl dX5_takePulley_22 ?_
  refine j_iconst C dX5_takePulley_25 ?_
  refine j_dup2 C dX5_takePulley_26 rfl rfl ?_
  refine j_lald (n := 75) (f := v) C 1 2 rfl rfl (by decide) (by decide) dX5_takePulley_27 ?_
  refine j_lconst (v := 1) C dX5_takePulley_28 rfl ?_
  refine j_lsub C dX5_takePulley_29 ?_
  refine j_last (n := 75) (f := v) (ws1 := [(u 0, .inr (5, [.ref (u 1), .ref (u 2), .ref (u 3), .int (iI (((svN sv : Nat) : Int))), .ref (u 4), .int (iI ln), .int (iI th), .int (iI ap), .int (iI rm), .ref (u 5), .int (iI rd), .int (iI nw), .ref (u 6), .long (lI hh)])), (u 1, aL g 75 (va_up v 2 ((v 2) - 1))), (u 2, aL g 300 (svP v pa sv))]) C 1 2 rfl rfl (by decide) (by decide) dX5_takePulley_30 rfl ?_
  refine j_aload_n C 0 dX5_takePulley_31 rfl rfl ?_
  refine j_aload_n C 0 dX5_takePulley_32 rfl rfl ?_
  refine j_get C ck5 0 0 (by decide) qw662 rfl rfl dX5_takePulley_33 ?_
  refine j_bipush C dX5_takePulley_36 (by decide) ?_
  refine j_aload_n C 0 dX5_takePulley_38 rfl rfl ?_
  refine j_get C ck5 0 0 (by decide) qw662 rfl rfl dX5_takePulley_39 ?_
  refine j_iconst C dX5_takePulley_42 ?_
  refine j_lald (n := 75) (f := va_up v 2 ((v 2) - 1)) C 1 2 rfl rfl (by decide) (by decide) dX5_takePulley_43 ?_
  refine J.to (L1 := [(0, .ref (u 0))]) (S1 := [.long (lI (v 2 - 1)), .int (iI 17), .ref (u 1), .ref (u 0)]) (ws1 := [(u 0, .inr (5, [.ref (u 1), .ref (u 2), .ref (u 3), .int (iI (((svN sv : Nat) : Int))), .ref (u 4), .int (iI ln), .int (iI th), .int (iI ap), .int (iI rm), .ref (u 5), .int (iI rd), .int (iI nw), .ref (u 6), .long (lI hh)])), (u 1, aL g 75 (va_up v 2 ((v 2) - 1))), (u 2, aL g 300 (svP v pa sv))]) rfl rfl (by rw [show (((va_up v 2 ((v 2) - 1)) 2 : Int)) = v 2 - 1 from rfl]) ?_
  refine j_l2i C dX5_takePulley_44 ?_
  refine j_iadd C dX5_takePulley_45 ?_
  refine j_lald (n := 75) (f := va_up v 2 ((v 2) - 1)) C 1 (17 + (v 2 - 1).toNat) rfl (by omega) (by omega) (by decide) dX5_takePulley_46 ?_
  refine J.to (L1 := [(0, .ref (u 0))]) (S1 := [.long (lI (v (17 + (v 2 - 1).toNat))), .ref (u 0)]) (ws1 := [(u 0, .inr (5, [.ref (u 1), .ref (u 2), .ref (u 3), .int (iI (((svN sv : Nat) : Int))), .ref (u 4), .int (iI ln), .int (iI th), .int (iI ap), .int (iI rm), .ref (u 5), .int (iI rd), .int (iI nw), .ref (u 6), .long (lI hh)])), (u 1, aL g 75 (va_up v 2 ((v 2) - 1))), (u 2, aL g 300 (svP v pa sv))]) rfl rfl (by rw [show (((va_up v 2 ((v 2) - 1)) (17 + (v 2 - 1).toNat) : Int)) = v (17 + (v 2 - 1).toNat) from (va_ne (by omega))]) ?_
  refine j_l2i C dX5_takePulley_47 ?_
  refine j_callV (As := [.int (iI (v (17 + (v 2 - 1).toNat)))]) (rest := []) C yv_X5_tells qw734 (c_X5_tells l g u (va_up v 2 ((v 2) - 1)) (((svN sv : Nat) : Int)) ln th ap rm rd nw hh (v (17 + (v 2 - 1).toNat))) (by decide) 0 rfl rfl rfl dX5_takePulley_48 rfl (Nat.le_of_ble_eq_true rfl) (by decide) (pf1 [] [(u 1, aL g 75 (va_up v 2 ((v 2) - 1))), (u 2, aL g 300 (svP v pa sv))]) rfl (fun r9 w9 hq9 => ?_)
  obtain ⟨rfl, rfl⟩ := hq9
  refine J.to (L1 := [(0, .ref (u 0))]) (S1 := [.int (iI (v (17 + (v 2 - 1).toNat)))]) (ws1 := [(u 0, .inr (5, [.ref (u 1), .ref (u 2), .ref (u 3), .int (iI (((svN sv : Nat) : Int))), .ref (u 4), .int (iI ln), .int (iI 0), .int (iI ap), .int (iI rm), .ref (u 5), .int (iI rd), .int (iI nw), .ref (u 6), .long (lI hh)])), (u 1, aL g 75 (va_up v 2 ((v 2) - 1))), (u 2, aL g 300 (svP v pa sv))]) rfl rfl rfl ?_
  exact j_iret C hr hlk dX5_takePulley_51 ⟨rfl, rfl⟩ (by decide) (by decide)

theorem c_X5_takePulley_n1 (l : Launch) (g : Gh) (u : Nat → Nat) (v pa sd tx rr rq : Nat → Int) (sv : Nat) (ln th ap rm rd nw hh : Int) (hm : MOK v) (hsv : sv ≤ 4) (hP0 : v 2 = 0) : CT l g yX5_takePulley cX5_takePulley 1 (some FieldType.int) ({ frames := 1, cells := 0, slots := 0, locals := 21 }) [.ref (u 0)] [(u 0, .inr (5, [.ref (u 1), .ref (u 2), .ref (u 3), .int (iI ((sv : Int))), .ref (u 4), .int (iI ln), .int (iI th), .int (iI ap), .int (iI rm), .ref (u 5), .int (iI rd), .int (iI nw), .ref (u 6), .long (lI hh)])), (u 1, aL g 75 v), (u 2, aL g 300 pa)] (PE (some (.int (iI 0))) [(u 0, .inr (5, [.ref (u 1), .ref (u 2), .ref (u 3), .int (iI ((sv : Int))), .ref (u 4), .int (iI ln), .int (iI 1), .int (iI ap), .int (iI rm), .ref (u 5), .int (iI rd), .int (iI nw), .ref (u 6), .long (lI hh)])), (u 1, aL g 75 v), (u 2, aL g 300 pa)]) := by
  refine CT.intro (L0 := [(0, .ref (u 0))]) (own := RX5) (by decide) rfl (Nat.le_of_ble_eq_true rfl) rfl ?_
  intro pX eX sX mX argsX belowX methX cX A C hr hlk
  obtain ⟨hP, hE0, hF, hrow0, hwt, hht, hlen, hent⟩ := id hm
  have hE : -10 ≤ v 3 ∧ v 3 ≤ 10 := by omega
  have hrow : ∀ i : Nat, (i : Int) < v 2 → 0 ≤ vR v i ∧ vR v i ≤ 4 := fun i hi => by have := hrow0 i hi; omega
  refine j_aload_n C 0 dX5_takePulley_0 rfl rfl ?_
  refine j_get C ck5 0 0 (by decide) qw662 rfl rfl dX5_takePulley_1 ?_
  refine j_iconst C dX5_takePulley_4 ?_
  refine j_lald (n := 75) (f := v) C 1 2 rfl rfl (by decide) (by decide) dX5_takePulley_5 ?_
  refine j_lconst (v := 0) C dX5_takePulley_6 rfl ?_
  refine j_lif_ne (tgt := 17) C (by omega) (by decide) dX5_takePulley_7 dX5_takePulley_8 (by decide) (fun c7 => absurd c7 (by omega)) (fun c7 => ?_)
  refine j_aload_n C 0 dX5_takePulley_11 rfl rfl ?_
  refine j_iconst C dX5_takePulley_12 ?_
  refine j_callV (As := [.int (iI 1)]) (rest := []) C yv_X5_fails qw721 (c_X5_fails l g u v ((sv : Int)) ln th ap rm rd nw hh 1) (by decide) 0 rfl rfl rfl dX5_takePulley_13 rfl (Nat.le_of_ble_eq_true rfl) (by decide) (pf1 [] [(u 1, aL g 75 v), (u 2, aL g 300 pa)]) rfl (fun r9 w9 hq9 => ?_)
  obtain ⟨rfl, rfl⟩ := hq9
  refine J.to (L1 := [(0, .ref (u 0))]) (S1 := [.int (iI 0)]) (ws1 := [(u 0, .inr (5, [.ref (u 1), .ref (u 2), .ref (u 3), .int (iI ((sv : Int))), .ref (u 4), .int (iI ln), .int (iI 1), .int (iI ap), .int (iI rm), .ref (u 5), .int (iI rd), .int (iI nw), .ref (u 6), .long (lI hh)])), (u 1, aL g 75 v), (u 2, aL g 300 pa)]) rfl rfl rfl ?_
  exact j_iret C hr hlk dX5_takePulley_16 ⟨rfl, rfl⟩ (by decide) (by decide)

theorem c_X5_setEnd_ok (l : Launch) (g : Gh) (u : Nat → Nat) (v pa sd tx rr rq : Nat → Int) (sv : Nat) (ln th ap rm rd nw hh : Int) (x : Int) (hm : MOK v) (hsv : sv ≤ 4) (hx : 0 ≤ x ∧ x ≤ 4) (hcn : esV v x ≤ hndV v + esV v (v 3)) : CT l g yX5_setEnd cX5_setEnd 2 (some FieldType.int) ({ frames := 4, cells := 0, slots := 0, locals := 86 }) [.ref (u 0), .int (iI x)] [(u 0, .inr (5, [.ref (u 1), .ref (u 2), .ref (u 3), .int (iI ((sv : Int))), .ref (u 4), .int (iI ln), .int (iI th), .int (iI ap), .int (iI rm), .ref (u 5), .int (iI rd), .int (iI nw), .ref (u 6), .long (lI hh)])), (u 1, aL g 75 v), (u 2, aL g 300 pa)] (PE (some (.int (iI (v 3)))) [(u 0, .inr (5, [.ref (u 1), .ref (u 2), .ref (u 3), .int (iI (((svN sv : Nat) : Int))), .ref (u 4), .int (iI ln), .int (iI 0), .int (iI ap), .int (iI rm), .ref (u 5), .int (iI rd), .int (iI nw), .ref (u 6), .long (lI hh)])), (u 1, aL g 75 (va_up v 3 x)), (u 2, aL g 300 (svP v pa sv))]) := by
  refine CT.intro (L0 := [(0, .ref (u 0)), (1, .int (iI x))]) (own := RX5) (by decide) rfl (Nat.le_of_ble_eq_true rfl) rfl ?_
  intro pX eX sX mX argsX belowX methX cX A C hr hlk
  obtain ⟨hP, hE0, hF, hrow0, hwt, hht, hlen, hent⟩ := id hm
  have hE : -10 ≤ v 3 ∧ v 3 ≤ 10 := by omega
  have hrow : ∀ i : Nat, (i : Int) < v 2 → 0 ≤ vR v i ∧ vR v i ≤ 4 := fun i hi => by have := hrow0 i hi; omega
  have hh9 := hanV_rng hm
  have hh7 := hndV_rng hm
  have hh8 : hndV v = v 0 - hanV v := rfl
  have he9 := esV_rng hm (e := x)
  have he8 := esV_rng hm (e := v 3) (by omega)
  have he9 := he9 (by omega)
  refine j_iload_n C 1 dX5_setEnd_0 rfl rfl ?_
  refine j_i2l C (by omega) dX5_setEnd_1 ?_
  refine j_lconst (v := 0) C dX5_setEnd_2 rfl ?_
  refine j_ldc2 (x := 4) C qw660 (by decide) dX5_setEnd_3 ?_
  refine j_callS (As := [.long (lI x), .long (lI 0), .long (lI 4)]) (rest := []) C ys_X5_in qw718 (c_X5_in_t l g x 0 4 (by omega) (by omega) (by omega) (by omega)) (by decide) rfl dX5_setEnd_6 rfl (Nat.le_of_ble_eq_true rfl) (by decide) (pf1 [] [(u 0, .inr (5, [.ref (u 1), .ref (u 2), .ref (u 3), .int (iI ((sv : Int))), .ref (u 4), .int (iI ln), .int (iI th), .int (iI ap), .int (iI rm), .ref (u 5), .int (iI rd), .int (iI nw), .ref (u 6), .long (lI hh)])), (u 1, aL g 75 v), (u 2, aL g 300 pa)]) rfl (fun r9 w9 hq9 => ?_)
  obtain ⟨rfl, rfl⟩ := hq9
  refine J.to (L1 := [(0, .ref (u 0)), (1, .int (iI x))]) (S1 := [.int (iI 1)]) (ws1 := [(u 0, .inr (5, [.ref (u 1), .ref (u 2), .ref (u 3), .int (iI ((sv : Int))), .ref (u 4), .int (iI ln), .int (iI th), .int (iI ap), .int (iI rm), .ref (u 5), .int (iI rd), .int (iI nw), .ref (u 6), .long (lI hh)])), (u 1, aL g 75 v), (u 2, aL g 300 pa)]) rfl rfl rfl ?_
  refine j_if_ne (tgt := 18) C (by decide) dX5_setEnd_9 (by decide) (fun c9 => ?_) (fun c9 => absurd c9 (by decide))
  refine j_aload_n C 0 dX5_setEnd_18 rfl rfl ?_
  refine j_callV (As := []) (rest := []) C yv_X5_inHand qw760 (c_X5_inHand l g u v ((sv : Int)) ln th ap rm rd nw hh  hm) (by decide) 0 rfl rfl rfl dX5_setEnd_19 rfl (Nat.le_of_ble_eq_true rfl) (by decide) (pf1 [] [(u 2, aL g 300 pa)]) rfl (fun r9 w9 hq9 => ?_)
  obtain ⟨rfl, rfl⟩ := hq9
  refine J.to (L1 := [(0, .ref (u 0)), (1, .int (iI x))]) (S1 := [.int (iI (hndV v))]) (ws1 := [(u 0, .inr (5, [.ref (u 1), .ref (u 2), .ref (u 3), .int (iI ((sv : Int))), .ref (u 4), .int (iI ln), .int (iI th), .int (iI ap), .int (iI rm), .ref (u 5), .int (iI rd), .int (iI nw), .ref (u 6), .long (lI hh)])), (u 1, aL g 75 v), (u 2, aL g 300 pa)]) rfl rfl rfl ?_
  refine j_aload_n C 0 dX5_setEnd_22 rfl rfl ?_
  refine j_aload_n C 0 dX5_setEnd_23 rfl rfl ?_
  refine j_get C ck5 0 0 (by decide) qw662 rfl rfl dX5_setEnd_24 ?_
  refine j_iconst C dX5_setEnd_27 ?_
  refine j_lald (n := 75) (f := v) C 1 3 rfl rfl (by decide) (by decide) dX5_setEnd_28 ?_
  refine j_l2i C dX5_setEnd_29 ?_
  refine j_callV (As := [.int (iI (v 3))]) (rest := [.int (iI (hndV v))]) C yv_X5_endStrand qw778 (c_X5_endStrand l g u v ((sv : Int)) ln th ap rm rd nw hh (v 3) hm (by omega)) (by decide) 0 rfl rfl rfl dX5_setEnd_30 rfl (Nat.le_of_ble_eq_true rfl) (by decide) (pf1 [] [(u 2, aL g 300 pa)]) rfl (fun r9 w9 hq9 => ?_)
  obtain ⟨rfl, rfl⟩ := hq9
  refine J.to (L1 := [(0, .ref (u 0)), (1, .int (iI x))]) (S1 := [.int (iI (esV v (v 3))), .int (iI (hndV v))]) (ws1 := [(u 0, .inr (5, [.ref (u 1), .ref (u 2), .ref (u 3), .int (iI ((sv : Int))), .ref (u 4), .int (iI ln), .int (iI th), .int (iI ap), .int (iI rm), .ref (u 5), .int (iI rd), .int (iI nw), .ref (u 6), .long (lI hh)])), (u 1, aL g 75 v), (u 2, aL g 300 pa)]) rfl rfl rfl ?_
  refine j_iadd C dX5_setEnd_33 ?_
  refine j_aload_n C 0 dX5_setEnd_34 rfl rfl ?_
  refine j_iload_n C 1 dX5_setEnd_35 rfl rfl ?_
  refine j_callV (As := [.int (iI x)]) (rest := [.int (iI ((hndV v) + (esV v (v 3))))]) C yv_X5_endStrand qw778 (c_X5_endStrand l g u v ((sv : Int)) ln th ap rm rd nw hh x hm (by omega)) (by decide) 0 rfl rfl rfl dX5_setEnd_36 rfl (Nat.le_of_ble_eq_true rfl) (by decide) (pf1 [] [(u 2, aL g 300 pa)]) rfl (fun r9 w9 hq9 => ?_)
  obtain ⟨rfl, rfl⟩ := hq9
  refine J.to (L1 := [(0, .ref (u 0)), (1, .int (iI x))]) (S1 := [.int (iI (esV v x)), .int (iI ((hndV v) + (esV v (v 3))))]) (ws1 := [(u 0, .inr (5, [.ref (u 1), .ref (u 2), .ref (u 3), .int (iI ((sv : Int))), .ref (u 4), .int (iI ln), .int (iI th), .int (iI ap), .int (iI rm), .ref (u 5), .int (iI rd), .int (iI nw), .ref (u 6), .long (lI hh)])), (u 1, aL g 75 v), (u 2, aL g 300 pa)]) rfl rfl rfl ?_
  refine j_icmp_ge (tgt := 48) C (by omega) (by omega) dX5_setEnd_39 (by decide) (fun c39 => ?_) (fun c39 => absurd c39 (by omega))
  refine j_aload_n C 0 dX5_setEnd_48 rfl rfl ?_
  refine j_iconst C dX5_setEnd_49 ?_
  refine j_iload_n C 1 dX5_setEnd_50 rfl rfl ?_
  refine j_callV (As := [.int (iI 3), .int (iI x)]) (rest := []) C yv_X5_puts qw726 (c_X5_puts l g u v pa sd tx rr rq sv ln th ap rm rd nw hh 3 x 3 hsv (by omega) (by omega) (by omega)) (by decide) 0 rfl rfl rfl dX5_setEnd_51 rfl (Nat.le_of_ble_eq_true rfl) (by decide) pf0 rfl (fun r9 w9 hq9 => ?_)
  obtain ⟨rfl, rfl⟩ := hq9
  refine J.to (L1 := [(0, .ref (u 0)), (1, .int (iI x))]) (S1 := [.int (iI (v 3))]) (ws1 := [(u 0, .inr (5, [.ref (u 1), .ref (u 2), .ref (u 3), .int (iI (((svN sv : Nat) : Int))), .ref (u 4), .int (iI ln), .int (iI 0), .int (iI ap), .int (iI rm), .ref (u 5), .int (iI rd), .int (iI nw), .ref (u 6), .long (lI hh)])), (u 1, aL g 75 (va_up v 3 x)), (u 2, aL g 300 (svP v pa sv))]) rfl rfl rfl ?_
  exact j_iret C hr hlk dX5_setEnd_54 ⟨rfl, rfl⟩ (by decide) (by decide)

theorem c_X5_setEnd_n1 (l : Launch) (g : Gh) (u : Nat → Nat) (v pa sd tx rr rq : Nat → Int) (sv : Nat) (ln th ap rm rd nw hh : Int) (x : Int) (hm : MOK v) (hsv : sv ≤ 4) (hrx : -2147483648 ≤ x ∧ x < 2147483648) (hx : x < 0 ∨ 4 < x) : CT l g yX5_setEnd cX5_setEnd 2 (some FieldType.int) ({ frames := 4, cells := 0, slots := 0, locals := 86 }) [.ref (u 0), .int (iI x)] [(u 0, .inr (5, [.ref (u 1), .ref (u 2), .ref (u 3), .int (iI ((sv : Int))), .ref (u 4), .int (iI ln), .int (iI th), .int (iI ap), .int (iI rm), .ref (u 5), .int (iI rd), .int (iI nw), .ref (u 6), .long (lI hh)])), (u 1, aL g 75 v), (u 2, aL g 300 pa)] (PE (some (.int (iI 0))) [(u 0, .inr (5, [.ref (u 1), .ref (u 2), .ref (u 3), .int (iI ((sv : Int))), .ref (u 4), .int (iI ln), .int (iI 1), .int (iI ap), .int (iI rm), .ref (u 5), .int (iI rd), .int (iI nw), .ref (u 6), .long (lI hh)])), (u 1, aL g 75 v), (u 2, aL g 300 pa)]) := by
  refine CT.intro (L0 := [(0, .ref (u 0)), (1, .int (iI x))]) (own := RX5) (by decide) rfl (Nat.le_of_ble_eq_true rfl) rfl ?_
  intro pX eX sX mX argsX belowX methX cX A C hr hlk
  obtain ⟨hP, hE0, hF, hrow0, hwt, hht, hlen, hent⟩ := id hm
  have hE : -10 ≤ v 3 ∧ v 3 ≤ 10 := by omega
  have hrow : ∀ i : Nat, (i : Int) < v 2 → 0 ≤ vR v i ∧ vR v i ≤ 4 := fun i hi => by have := hrow0 i hi; omega
  refine j_iload_n C 1 dX5_setEnd_0 rfl rfl ?_
  refine j_i2l C (by omega) dX5_setEnd_1 ?_
  refine j_lconst (v := 0) C dX5_setEnd_2 rfl ?_
  refine j_ldc2 (x := 4) C qw660 (by decide) dX5_setEnd_3 ?_
  refine j_callS (As := [.long (lI x), .long (lI 0), .long (lI 4)]) (rest := []) C ys_X5_in qw718 (c_X5_in_f l g x 0 4 (by omega) (by omega) (by omega) (by omega)) (by decide) rfl dX5_setEnd_6 rfl (Nat.le_of_ble_eq_true rfl) (by decide) (pf1 [] [(u 0, .inr (5, [.ref (u 1), .ref (u 2), .ref (u 3), .int (iI ((sv : Int))), .ref (u 4), .int (iI ln), .int (iI th), .int (iI ap), .int (iI rm), .ref (u 5), .int (iI rd), .int (iI nw), .ref (u 6), .long (lI hh)])), (u 1, aL g 75 v), (u 2, aL g 300 pa)]) rfl (fun r9 w9 hq9 => ?_)
  obtain ⟨rfl, rfl⟩ := hq9
  refine J.to (L1 := [(0, .ref (u 0)), (1, .int (iI x))]) (S1 := [.int (iI 0)]) (ws1 := [(u 0, .inr (5, [.ref (u 1), .ref (u 2), .ref (u 3), .int (iI ((sv : Int))), .ref (u 4), .int (iI ln), .int (iI th), .int (iI ap), .int (iI rm), .ref (u 5), .int (iI rd), .int (iI nw), .ref (u 6), .long (lI hh)])), (u 1, aL g 75 v), (u 2, aL g 300 pa)]) rfl rfl rfl ?_
  refine j_if_ne (tgt := 18) C (by decide) dX5_setEnd_9 (by decide) (fun c9 => absurd c9 (by decide)) (fun c9 => ?_)
  refine j_aload_n C 0 dX5_setEnd_12 rfl rfl ?_
  refine j_iconst C dX5_setEnd_13 ?_
  refine j_callV (As := [.int (iI 1)]) (rest := []) C yv_X5_fails qw721 (c_X5_fails l g u v ((sv : Int)) ln th ap rm rd nw hh 1) (by decide) 0 rfl rfl rfl dX5_setEnd_14 rfl (Nat.le_of_ble_eq_true rfl) (by decide) (pf1 [] [(u 1, aL g 75 v), (u 2, aL g 300 pa)]) rfl (fun r9 w9 hq9 => ?_)
  obtain ⟨rfl, rfl⟩ := hq9
  refine J.to (L1 := [(0, .ref (u 0)), (1, .int (iI x))]) (S1 := [.int (iI 0)]) (ws1 := [(u 0, .inr (5, [.ref (u 1), .ref (u 2), .ref (u 3), .int (iI ((sv : Int))), .ref (u 4), .int (iI ln), .int (iI 1), .int (iI ap), .int (iI rm), .ref (u 5), .int (iI rd), .int (iI nw), .ref (u 6), .long (lI hh)])), (u 1, aL g 75 v), (u 2, aL g 300 pa)]) rfl rfl rfl ?_
  exact j_iret C hr hlk dX5_setEnd_17 ⟨rfl, rfl⟩ (by decide) (by decide)

theorem c_X5_setEnd_n2 (l : Launch) (g : Gh) (u : Nat → Nat) (v pa sd tx rr rq : Nat → Int) (sv : Nat) (ln th ap rm rd nw hh : Int) (x : Int) (hm : MOK v) (hsv : sv ≤ 4) (hx : 0 ≤ x ∧ x ≤ 4) (hcn : hndV v + esV v (v 3) < esV v x) : CT l g yX5_setEnd cX5_setEnd 2 (some FieldType.int) ({ frames := 4, cells := 0, slots := 0, locals := 86 }) [.ref (u 0), .int (iI x)] [(u 0, .inr (5, [.ref (u 1), .ref (u 2), .ref (u 3), .int (iI ((sv : Int))), .ref (u 4), .int (iI ln), .int (iI th), .int (iI ap), .int (iI rm), .ref (u 5), .int (iI rd), .int (iI nw), .ref (u 6), .long (lI hh)])), (u 1, aL g 75 v), (u 2, aL g 300 pa)] (PE (some (.int (iI 0))) [(u 0, .inr (5, [.ref (u 1), .ref (u 2), .ref (u 3), .int (iI ((sv : Int))), .ref (u 4), .int (iI ln), .int (iI 2), .int (iI ap), .int (iI rm), .ref (u 5), .int (iI rd), .int (iI nw), .ref (u 6), .long (lI hh)])), (u 1, aL g 75 v), (u 2, aL g 300 pa)]) := by
  refine CT.intro (L0 := [(0, .ref (u 0)), (1, .int (iI x))]) (own := RX5) (by decide) rfl (Nat.le_of_ble_eq_true rfl) rfl ?_
  intro pX eX sX mX argsX belowX methX cX A C hr hlk
  obtain ⟨hP, hE0, hF, hrow0, hwt, hht, hlen, hent⟩ := id hm
  have hE : -10 ≤ v 3 ∧ v 3 ≤ 10 := by omega
  have hrow : ∀ i : Nat, (i : Int) < v 2 → 0 ≤ vR v i ∧ vR v i ≤ 4 := fun i hi => by have := hrow0 i hi; omega
  have hh9 := hanV_rng hm
  have hh7 := hndV_rng hm
  have hh8 : hndV v = v 0 - hanV v := rfl
  have he9 := esV_rng hm (e := x)
  have he8 := esV_rng hm (e := v 3) (by omega)
  have he9 := he9 (by omega)
  refine j_iload_n C 1 dX5_setEnd_0 rfl rfl ?_
  refine j_i2l C (by omega) dX5_setEnd_1 ?_
  refine j_lconst (v := 0) C dX5_setEnd_2 rfl ?_
  refine j_ldc2 (x := 4) C qw660 (by decide) dX5_setEnd_3 ?_
  refine j_callS (As := [.long (lI x), .long (lI 0), .long (lI 4)]) (rest := []) C ys_X5_in qw718 (c_X5_in_t l g x 0 4 (by omega) (by omega) (by omega) (by omega)) (by decide) rfl dX5_setEnd_6 rfl (Nat.le_of_ble_eq_true rfl) (by decide) (pf1 [] [(u 0, .inr (5, [.ref (u 1), .ref (u 2), .ref (u 3), .int (iI ((sv : Int))), .ref (u 4), .int (iI ln), .int (iI th), .int (iI ap), .int (iI rm), .ref (u 5), .int (iI rd), .int (iI nw), .ref (u 6), .long (lI hh)])), (u 1, aL g 75 v), (u 2, aL g 300 pa)]) rfl (fun r9 w9 hq9 => ?_)
  obtain ⟨rfl, rfl⟩ := hq9
  refine J.to (L1 := [(0, .ref (u 0)), (1, .int (iI x))]) (S1 := [.int (iI 1)]) (ws1 := [(u 0, .inr (5, [.ref (u 1), .ref (u 2), .ref (u 3), .int (iI ((sv : Int))), .ref (u 4), .int (iI ln), .int (iI th), .int (iI ap), .int (iI rm), .ref (u 5), .int (iI rd), .int (iI nw), .ref (u 6), .long (lI hh)])), (u 1, aL g 75 v), (u 2, aL g 300 pa)]) rfl rfl rfl ?_
  refine j_if_ne (tgt := 18) C (by decide) dX5_setEnd_9 (by decide) (fun c9 => ?_) (fun c9 => absurd c9 (by decide))
  refine j_aload_n C 0 dX5_setEnd_18 rfl rfl ?_
  refine j_callV (As := []) (rest := []) C yv_X5_inHand qw760 (c_X5_inHand l g u v ((sv : Int)) ln th ap rm rd nw hh  hm) (by decide) 0 rfl rfl rfl dX5_setEnd_19 rfl (Nat.le_of_ble_eq_true rfl) (by decide) (pf1 [] [(u 2, aL g 300 pa)]) rfl (fun r9 w9 hq9 => ?_)
  obtain ⟨rfl, rfl⟩ := hq9
  refine J.to (L1 := [(0, .ref (u 0)), (1, .int (iI x))]) (S1 := [.int (iI (hndV v))]) (ws1 := [(u 0, .inr (5, [.ref (u 1), .ref (u 2), .ref (u 3), .int (iI ((sv : Int))), .ref (u 4), .int (iI ln), .int (iI th), .int (iI ap), .int (iI rm), .ref (u 5), .int (iI rd), .int (iI nw), .ref (u 6), .long (lI hh)])), (u 1, aL g 75 v), (u 2, aL g 300 pa)]) rfl rfl rfl ?_
  refine j_aload_n C 0 dX5_setEnd_22 rfl rfl ?_
  refine j_aload_n C 0 dX5_setEnd_23 rfl rfl ?_
  refine j_get C ck5 0 0 (by decide) qw662 rfl rfl dX5_setEnd_24 ?_
  refine j_iconst C dX5_setEnd_27 ?_
  refine j_lald (n := 75) (f := v) C 1 3 rfl rfl (by decide) (by decide) dX5_setEnd_28 ?_
  refine j_l2i C dX5_setEnd_29 ?_
  refine j_callV (As := [.int (iI (v 3))]) (rest := [.int (iI (hndV v))]) C yv_X5_endStrand qw778 (c_X5_endStrand l g u v ((sv : Int)) ln th ap rm rd nw hh (v 3) hm (by omega)) (by decide) 0 rfl rfl rfl dX5_setEnd_30 rfl (Nat.le_of_ble_eq_true rfl) (by decide) (pf1 [] [(u 2, aL g 300 pa)]) rfl (fun r9 w9 hq9 => ?_)
  obtain ⟨rfl, rfl⟩ := hq9
  refine J.to (L1 := [(0, .ref (u 0)), (1, .int (iI x))]) (S1 := [.int (iI (esV v (v 3))), .int (iI (hndV v))]) (ws1 := [(u 0, .inr (5, [.ref (u 1), .ref (u 2), .ref (u 3), .int (iI ((sv : Int))), .ref (u 4), .int (iI ln), .int (iI th), .int (iI ap), .int (iI rm), .ref (u 5), .int (iI rd), .int (iI nw), .ref (u 6), .long (lI hh)])), (u 1, aL g 75 v), (u 2, aL g 300 pa)]) rfl rfl rfl ?_
  refine j_iadd C dX5_setEnd_33 ?_
  refine j_aload_n C 0 dX5_setEnd_34 rfl rfl ?_
  refine j_iload_n C 1 dX5_setEnd_35 rfl rfl ?_
  refine j_callV (As := [.int (iI x)]) (rest := [.int (iI ((hndV v) + (esV v (v 3))))]) C yv_X5_endStrand qw778 (c_X5_endStrand l g u v ((sv : Int)) ln th ap rm rd nw hh x hm (by omega)) (by decide) 0 rfl rfl rfl dX5_setEnd_36 rfl (Nat.le_of_ble_eq_true rfl) (by decide) (pf1 [] [(u 2, aL g 300 pa)]) rfl (fun r9 w9 hq9 => ?_)
  obtain ⟨rfl, rfl⟩ := hq9
  refine J.to (L1 := [(0, .ref (u 0)), (1, .int (iI x))]) (S1 := [.int (iI (esV v x)), .int (iI ((hndV v) + (esV v (v 3))))]) (ws1 := [(u 0, .inr (5, [.ref (u 1), .ref (u 2), .ref (u 3), .int (iI ((sv : Int))), .ref (u 4), .int (iI ln), .int (iI th), .int (iI ap), .int (iI rm), .ref (u 5), .int (iI rd), .int (iI nw), .ref (u 6), .long (lI hh)])), (u 1, aL g 75 v), (u 2, aL g 300 pa)]) rfl rfl rfl ?_
  refine j_icmp_ge (tgt := 48) C (by omega) (by omega) dX5_setEnd_39 (by decide) (fun c39 => absurd c39 (by omega)) (fun c39 => ?_)
  refine j_aload_n C 0 dX5_setEnd_42 rfl rfl ?_
  refine j_iconst C dX5_setEnd_43 ?_
  refine j_callV (As := [.int (iI 2)]) (rest := []) C yv_X5_fails qw721 (c_X5_fails l g u v ((sv : Int)) ln th ap rm rd nw hh 2) (by decide) 0 rfl rfl rfl dX5_setEnd_44 rfl (Nat.le_of_ble_eq_true rfl) (by decide) (pf1 [] [(u 1, aL g 75 v), (u 2, aL g 300 pa)]) rfl (fun r9 w9 hq9 => ?_)
  obtain ⟨rfl, rfl⟩ := hq9
  refine J.to (L1 := [(0, .ref (u 0)), (1, .int (iI x))]) (S1 := [.int (iI 0)]) (ws1 := [(u 0, .inr (5, [.ref (u 1), .ref (u 2), .ref (u 3), .int (iI ((sv : Int))), .ref (u 4), .int (iI ln), .int (iI 2), .int (iI ap), .int (iI rm), .ref (u 5), .int (iI rd), .int (iI nw), .ref (u 6), .long (lI hh)])), (u 1, aL g 75 v), (u 2, aL g 300 pa)]) rfl rfl rfl ?_
  exact j_iret C hr hlk dX5_setEnd_47 ⟨rfl, rfl⟩ (by decide) (by decide)

theorem c_X5_blockTold_0 (l : Launch) (g : Gh) (u : Nat → Nat) (v : Nat → Int) (sv ln th ap rm rd nw hh : Int) (b : Int) (hm : MOK v) (hb4 : 0 ≤ b ∧ b ≤ 3) : CT l g yX5_blockTold cX5_blockTold 3 (some FieldType.int) ({ frames := 3, cells := 0, slots := 0, locals := 80 }) [.ref (u 0), .int (iI b), .int (iI 0)] [(u 0, .inr (5, [.ref (u 1), .ref (u 2), .ref (u 3), .int (iI sv), .ref (u 4), .int (iI ln), .int (iI th), .int (iI ap), .int (iI rm), .ref (u 5), .int (iI rd), .int (iI nw), .ref (u 6), .long (lI hh)])), (u 1, aL g 75 v)] (PE (some (.int (iI (vW v b.toNat)))) [(u 0, .inr (5, [.ref (u 1), .ref (u 2), .ref (u 3), .int (iI sv), .ref (u 4), .int (iI ln), .int (iI th), .int (iI ap), .int (iI rm), .ref (u 5), .int (iI rd), .int (iI nw), .ref (u 6), .long (lI hh)])), (u 1, aL g 75 v)]) := by
  refine CT.intro (L0 := [(0, .ref (u 0)), (1, .int (iI b)), (2, .int (iI 0))]) (own := RX5) (by decide) rfl (Nat.le_of_ble_eq_true rfl) rfl ?_
  intro pX eX sX mX argsX belowX methX cX A C hr hlk
  obtain ⟨hP, hE0, hF, hrow0, hwt, hht, hlen, hent⟩ := id hm
  have hE : -10 ≤ v 3 ∧ v 3 ≤ 10 := by omega
  have hrow : ∀ i : Nat, (i : Int) < v 2 → 0 ≤ vR v i ∧ vR v i ≤ 4 := fun i hi => by have := hrow0 i hi; omega
  refine j_iload_n C 2 dX5_blockTold_0 rfl rfl ?_
  refine j_tswIn (tgt := 40) C (by decide) dX5_blockTold_1 (by decide) rfl (by decide) ?_
  refine j_aload_n C 0 dX5_blockTold_40 rfl rfl ?_
  refine j_get C ck5 0 0 (by decide) qw662 rfl rfl dX5_blockTold_41 ?_
  refine j_bipush C dX5_blockTold_44 (by decide) ?_
  refine j_iload_n C 1 dX5_blockTold_46 rfl rfl ?_
  refine j_iadd C dX5_blockTold_47 ?_
  refine j_lald (n := 75) (f := v) C 1 (9 + b.toNat) rfl (by omega) (by omega) (by decide) dX5_blockTold_48 ?_
  refine j_l2i C dX5_blockTold_49 ?_
  exact j_iret C hr hlk dX5_blockTold_50 ⟨rfl, rfl⟩ (by decide) (by decide)

theorem c_X5_blockTold_1 (l : Launch) (g : Gh) (u : Nat → Nat) (v : Nat → Int) (sv ln th ap rm rd nw hh : Int) (b : Int) (hm : MOK v) (hb4 : 0 ≤ b ∧ b ≤ 3) : CT l g yX5_blockTold cX5_blockTold 3 (some FieldType.int) ({ frames := 3, cells := 0, slots := 0, locals := 80 }) [.ref (u 0), .int (iI b), .int (iI 1)] [(u 0, .inr (5, [.ref (u 1), .ref (u 2), .ref (u 3), .int (iI sv), .ref (u 4), .int (iI ln), .int (iI th), .int (iI ap), .int (iI rm), .ref (u 5), .int (iI rd), .int (iI nw), .ref (u 6), .long (lI hh)])), (u 1, aL g 75 v)] (PE (some (.int (iI (vH v b.toNat)))) [(u 0, .inr (5, [.ref (u 1), .ref (u 2), .ref (u 3), .int (iI sv), .ref (u 4), .int (iI ln), .int (iI th), .int (iI ap), .int (iI rm), .ref (u 5), .int (iI rd), .int (iI nw), .ref (u 6), .long (lI hh)])), (u 1, aL g 75 v)]) := by
  refine CT.intro (L0 := [(0, .ref (u 0)), (1, .int (iI b)), (2, .int (iI 1))]) (own := RX5) (by decide) rfl (Nat.le_of_ble_eq_true rfl) rfl ?_
  intro pX eX sX mX argsX belowX methX cX A C hr hlk
  obtain ⟨hP, hE0, hF, hrow0, hwt, hht, hlen, hent⟩ := id hm
  have hE : -10 ≤ v 3 ∧ v 3 ≤ 10 := by omega
  have hrow : ∀ i : Nat, (i : Int) < v 2 → 0 ≤ vR v i ∧ vR v i ≤ 4 := fun i hi => by have := hrow0 i hi; omega
  refine j_iload_n C 2 dX5_blockTold_0 rfl rfl ?_
  refine j_tswIn (tgt := 51) C (by decide) dX5_blockTold_1 (by decide) rfl (by decide) ?_
  refine j_aload_n C 0 dX5_blockTold_51 rfl rfl ?_
  refine j_get C ck5 0 0 (by decide) qw662 rfl rfl dX5_blockTold_52 ?_
  refine j_bipush C dX5_blockTold_55 (by decide) ?_
  refine j_iload_n C 1 dX5_blockTold_57 rfl rfl ?_
  refine j_iadd C dX5_blockTold_58 ?_
  refine j_lald (n := 75) (f := v) C 1 (13 + b.toNat) rfl (by omega) (by omega) (by decide) dX5_blockTold_59 ?_
  refine j_l2i C dX5_blockTold_60 ?_
  exact j_iret C hr hlk dX5_blockTold_61 ⟨rfl, rfl⟩ (by decide) (by decide)

theorem c_X5_blockTold_2 (l : Launch) (g : Gh) (u : Nat → Nat) (v : Nat → Int) (sv ln th ap rm rd nw hh : Int) (b : Int) (hm : MOK v) (hb4 : 0 ≤ b ∧ b ≤ 3) : CT l g yX5_blockTold cX5_blockTold 3 (some FieldType.int) ({ frames := 3, cells := 0, slots := 0, locals := 80 }) [.ref (u 0), .int (iI b), .int (iI 2)] [(u 0, .inr (5, [.ref (u 1), .ref (u 2), .ref (u 3), .int (iI sv), .ref (u 4), .int (iI ln), .int (iI th), .int (iI ap), .int (iI rm), .ref (u 5), .int (iI rd), .int (iI nw), .ref (u 6), .long (lI hh)])), (u 1, aL g 75 v)] (PE (some (.int (iI (strV v b)))) [(u 0, .inr (5, [.ref (u 1), .ref (u 2), .ref (u 3), .int (iI sv), .ref (u 4), .int (iI ln), .int (iI th), .int (iI ap), .int (iI rm), .ref (u 5), .int (iI rd), .int (iI nw), .ref (u 6), .long (lI hh)])), (u 1, aL g 75 v)]) := by
  refine CT.intro (L0 := [(0, .ref (u 0)), (1, .int (iI b)), (2, .int (iI 2))]) (own := RX5) (by decide) rfl (Nat.le_of_ble_eq_true rfl) rfl ?_
  intro pX eX sX mX argsX belowX methX cX A C hr hlk
  obtain ⟨hP, hE0, hF, hrow0, hwt, hht, hlen, hent⟩ := id hm
  have hE : -10 ≤ v 3 ∧ v 3 ≤ 10 := by omega
  have hrow : ∀ i : Nat, (i : Int) < v 2 → 0 ≤ vR v i ∧ vR v i ≤ 4 := fun i hi => by have := hrow0 i hi; omega
  refine j_iload_n C 2 dX5_blockTold_0 rfl rfl ?_
  refine j_tswIn (tgt := 62) C (by decide) dX5_blockTold_1 (by decide) rfl (by decide) ?_
  refine j_aload_n C 0 dX5_blockTold_62 rfl rfl ?_
  refine j_iload_n C 1 dX5_blockTold_63 rfl rfl ?_
  refine j_callV (As := [.int (iI b)]) (rest := []) C yv_X5_strands qw752 (c_X5_strands l g u v sv ln th ap rm rd nw hh b hm (by omega)) (by decide) 0 rfl rfl rfl dX5_blockTold_64 rfl (Nat.le_of_ble_eq_true rfl) (by decide) pf0 rfl (fun r9 w9 hq9 => ?_)
  obtain ⟨rfl, rfl⟩ := hq9
  refine J.to (L1 := [(0, .ref (u 0)), (1, .int (iI b)), (2, .int (iI 2))]) (S1 := [.int (iI (strV v b))]) (ws1 := [(u 0, .inr (5, [.ref (u 1), .ref (u 2), .ref (u 3), .int (iI sv), .ref (u 4), .int (iI ln), .int (iI th), .int (iI ap), .int (iI rm), .ref (u 5), .int (iI rd), .int (iI nw), .ref (u 6), .long (lI hh)])), (u 1, aL g 75 v)]) rfl rfl rfl ?_
  exact j_iret C hr hlk dX5_blockTold_67 ⟨rfl, rfl⟩ (by decide) (by decide)

theorem c_X5_blockTold_3 (l : Launch) (g : Gh) (u : Nat → Nat) (v : Nat → Int) (sv ln th ap rm rd nw hh : Int) (b : Int) (hm : MOK v) (hb4 : 0 ≤ b ∧ b ≤ 3) : CT l g yX5_blockTold cX5_blockTold 3 (some FieldType.int) ({ frames := 3, cells := 0, slots := 0, locals := 80 }) [.ref (u 0), .int (iI b), .int (iI 3)] [(u 0, .inr (5, [.ref (u 1), .ref (u 2), .ref (u 3), .int (iI sv), .ref (u 4), .int (iI ln), .int (iI th), .int (iI ap), .int (iI rm), .ref (u 5), .int (iI rd), .int (iI nw), .ref (u 6), .long (lI hh)])), (u 1, aL g 75 v)] (PE (some (.int (iI (cnt (vR v) b (v 2).toNat)))) [(u 0, .inr (5, [.ref (u 1), .ref (u 2), .ref (u 3), .int (iI sv), .ref (u 4), .int (iI ln), .int (iI th), .int (iI ap), .int (iI rm), .ref (u 5), .int (iI rd), .int (iI nw), .ref (u 6), .long (lI hh)])), (u 1, aL g 75 v)]) := by
  refine CT.intro (L0 := [(0, .ref (u 0)), (1, .int (iI b)), (2, .int (iI 3))]) (own := RX5) (by decide) rfl (Nat.le_of_ble_eq_true rfl) rfl ?_
  intro pX eX sX mX argsX belowX methX cX A C hr hlk
  obtain ⟨hP, hE0, hF, hrow0, hwt, hht, hlen, hent⟩ := id hm
  have hE : -10 ≤ v 3 ∧ v 3 ≤ 10 := by omega
  have hrow : ∀ i : Nat, (i : Int) < v 2 → 0 ≤ vR v i ∧ vR v i ≤ 4 := fun i hi => by have := hrow0 i hi; omega
  refine j_iload_n C 2 dX5_blockTold_0 rfl rfl ?_
  refine j_tswIn (tgt := 68) C (by decide) dX5_blockTold_1 (by decide) rfl (by decide) ?_
  refine j_aload_n C 0 dX5_blockTold_68 rfl rfl ?_
  refine j_iload_n C 1 dX5_blockTold_69 rfl rfl ?_
  refine j_callV (As := [.int (iI b)]) (rest := []) C yv_X5_pulleysOn qw756 (c_X5_pulleysOn l g u v sv ln th ap rm rd nw hh b hm (by omega)) (by decide) 0 rfl rfl rfl dX5_blockTold_70 rfl (Nat.le_of_ble_eq_true rfl) (by decide) pf0 rfl (fun r9 w9 hq9 => ?_)
  obtain ⟨rfl, rfl⟩ := hq9
  refine J.to (L1 := [(0, .ref (u 0)), (1, .int (iI b)), (2, .int (iI 3))]) (S1 := [.int (iI (cnt (vR v) b (v 2).toNat))]) (ws1 := [(u 0, .inr (5, [.ref (u 1), .ref (u 2), .ref (u 3), .int (iI sv), .ref (u 4), .int (iI ln), .int (iI th), .int (iI ap), .int (iI rm), .ref (u 5), .int (iI rd), .int (iI nw), .ref (u 6), .long (lI hh)])), (u 1, aL g 75 v)]) rfl rfl rfl ?_
  exact j_iret C hr hlk dX5_blockTold_73 ⟨rfl, rfl⟩ (by decide) (by decide)

theorem c_X5_blockTold_4 (l : Launch) (g : Gh) (u : Nat → Nat) (v : Nat → Int) (sv ln th ap rm rd nw hh : Int) (b : Int) (hm : MOK v) (hb4 : 0 ≤ b ∧ b ≤ 3) : CT l g yX5_blockTold cX5_blockTold 3 (some FieldType.int) ({ frames := 3, cells := 0, slots := 0, locals := 80 }) [.ref (u 0), .int (iI b), .int (iI 4)] [(u 0, .inr (5, [.ref (u 1), .ref (u 2), .ref (u 3), .int (iI sv), .ref (u 4), .int (iI ln), .int (iI th), .int (iI ap), .int (iI rm), .ref (u 5), .int (iI rd), .int (iI nw), .ref (u 6), .long (lI hh)])), (u 1, aL g 75 v)] (PE (some (.int (iI (leaV v true b)))) [(u 0, .inr (5, [.ref (u 1), .ref (u 2), .ref (u 3), .int (iI sv), .ref (u 4), .int (iI ln), .int (iI th), .int (iI ap), .int (iI rm), .ref (u 5), .int (iI rd), .int (iI nw), .ref (u 6), .long (lI hh)])), (u 1, aL g 75 v)]) := by
  refine CT.intro (L0 := [(0, .ref (u 0)), (1, .int (iI b)), (2, .int (iI 4))]) (own := RX5) (by decide) rfl (Nat.le_of_ble_eq_true rfl) rfl ?_
  intro pX eX sX mX argsX belowX methX cX A C hr hlk
  obtain ⟨hP, hE0, hF, hrow0, hwt, hht, hlen, hent⟩ := id hm
  have hE : -10 ≤ v 3 ∧ v 3 ≤ 10 := by omega
  have hrow : ∀ i : Nat, (i : Int) < v 2 → 0 ≤ vR v i ∧ vR v i ≤ 4 := fun i hi => by have := hrow0 i hi; omega
  refine j_iload_n C 2 dX5_blockTold_0 rfl rfl ?_
  refine j_tswIn (tgt := 74) C (by decide) dX5_blockTold_1 (by decide) rfl (by decide) ?_
  refine j_aload_n C 0 dX5_blockTold_74 rfl rfl ?_
  refine j_iload_n C 1 dX5_blockTold_75 rfl rfl ?_
  refine j_iconst C dX5_blockTold_76 ?_
  refine j_callV (As := [.int (iI b), .int (iI 1)]) (rest := []) C yv_X5_least qw800 (c_X5_least l g u v sv ln th ap rm rd nw hh b true hm (by omega)) (by decide) 0 rfl rfl rfl dX5_blockTold_77 rfl (Nat.le_of_ble_eq_true rfl) (by decide) pf0 rfl (fun r9 w9 hq9 => ?_)
  obtain ⟨rfl, rfl⟩ := hq9
  refine J.to (L1 := [(0, .ref (u 0)), (1, .int (iI b)), (2, .int (iI 4))]) (S1 := [.int (iI (leaV v true b))]) (ws1 := [(u 0, .inr (5, [.ref (u 1), .ref (u 2), .ref (u 3), .int (iI sv), .ref (u 4), .int (iI ln), .int (iI th), .int (iI ap), .int (iI rm), .ref (u 5), .int (iI rd), .int (iI nw), .ref (u 6), .long (lI hh)])), (u 1, aL g 75 v)]) rfl rfl rfl ?_
  exact j_iret C hr hlk dX5_blockTold_80 ⟨rfl, rfl⟩ (by decide) (by decide)

theorem c_X5_blockTold_5 (l : Launch) (g : Gh) (u : Nat → Nat) (v : Nat → Int) (sv ln th ap rm rd nw hh : Int) (b : Int) (hm : MOK v) (hb4 : 0 ≤ b ∧ b ≤ 3) : CT l g yX5_blockTold cX5_blockTold 3 (some FieldType.int) ({ frames := 3, cells := 0, slots := 0, locals := 80 }) [.ref (u 0), .int (iI b), .int (iI 5)] [(u 0, .inr (5, [.ref (u 1), .ref (u 2), .ref (u 3), .int (iI sv), .ref (u 4), .int (iI ln), .int (iI th), .int (iI ap), .int (iI rm), .ref (u 5), .int (iI rd), .int (iI nw), .ref (u 6), .long (lI hh)])), (u 1, aL g 75 v)] (PE (some (.int (iI (leaV v false b)))) [(u 0, .inr (5, [.ref (u 1), .ref (u 2), .ref (u 3), .int (iI sv), .ref (u 4), .int (iI ln), .int (iI th), .int (iI ap), .int (iI rm), .ref (u 5), .int (iI rd), .int (iI nw), .ref (u 6), .long (lI hh)])), (u 1, aL g 75 v)]) := by
  refine CT.intro (L0 := [(0, .ref (u 0)), (1, .int (iI b)), (2, .int (iI 5))]) (own := RX5) (by decide) rfl (Nat.le_of_ble_eq_true rfl) rfl ?_
  intro pX eX sX mX argsX belowX methX cX A C hr hlk
  obtain ⟨hP, hE0, hF, hrow0, hwt, hht, hlen, hent⟩ := id hm
  have hE : -10 ≤ v 3 ∧ v 3 ≤ 10 := by omega
  have hrow : ∀ i : Nat, (i : Int) < v 2 → 0 ≤ vR v i ∧ vR v i ≤ 4 := fun i hi => by have := hrow0 i hi; omega
  refine j_iload_n C 2 dX5_blockTold_0 rfl rfl ?_
  refine j_tswIn (tgt := 81) C (by decide) dX5_blockTold_1 (by decide) rfl (by decide) ?_
  refine j_aload_n C 0 dX5_blockTold_81 rfl rfl ?_
  refine j_iload_n C 1 dX5_blockTold_82 rfl rfl ?_
  refine j_iconst C dX5_blockTold_83 ?_
  refine j_callV (As := [.int (iI b), .int (iI 0)]) (rest := []) C yv_X5_least qw800 (c_X5_least l g u v sv ln th ap rm rd nw hh b false hm (by omega)) (by decide) 0 rfl rfl rfl dX5_blockTold_84 rfl (Nat.le_of_ble_eq_true rfl) (by decide) pf0 rfl (fun r9 w9 hq9 => ?_)
  obtain ⟨rfl, rfl⟩ := hq9
  refine J.to (L1 := [(0, .ref (u 0)), (1, .int (iI b)), (2, .int (iI 5))]) (S1 := [.int (iI (leaV v false b))]) (ws1 := [(u 0, .inr (5, [.ref (u 1), .ref (u 2), .ref (u 3), .int (iI sv), .ref (u 4), .int (iI ln), .int (iI th), .int (iI ap), .int (iI rm), .ref (u 5), .int (iI rd), .int (iI nw), .ref (u 6), .long (lI hh)])), (u 1, aL g 75 v)]) rfl rfl rfl ?_
  exact j_iret C hr hlk dX5_blockTold_87 ⟨rfl, rfl⟩ (by decide) (by decide)

theorem c_X5_blockTold_6 (l : Launch) (g : Gh) (u : Nat → Nat) (v : Nat → Int) (sv ln th ap rm rd nw hh : Int) (b : Int) (hm : MOK v) (hb4 : 0 ≤ b ∧ b ≤ 3) : CT l g yX5_blockTold cX5_blockTold 3 (some FieldType.int) ({ frames := 3, cells := 0, slots := 0, locals := 80 }) [.ref (u 0), .int (iI b), .int (iI 6)] [(u 0, .inr (5, [.ref (u 1), .ref (u 2), .ref (u 3), .int (iI sv), .ref (u 4), .int (iI ln), .int (iI th), .int (iI ap), .int (iI rm), .ref (u 5), .int (iI rd), .int (iI nw), .ref (u 6), .long (lI hh)])), (u 1, aL g 75 v)] (PE (some (.int (iI (strV v b * (9000 - vH v b.toNat))))) [(u 0, .inr (5, [.ref (u 1), .ref (u 2), .ref (u 3), .int (iI sv), .ref (u 4), .int (iI ln), .int (iI th), .int (iI ap), .int (iI rm), .ref (u 5), .int (iI rd), .int (iI nw), .ref (u 6), .long (lI hh)])), (u 1, aL g 75 v)]) := by
  refine CT.intro (L0 := [(0, .ref (u 0)), (1, .int (iI b)), (2, .int (iI 6))]) (own := RX5) (by decide) rfl (Nat.le_of_ble_eq_true rfl) rfl ?_
  intro pX eX sX mX argsX belowX methX cX A C hr hlk
  obtain ⟨hP, hE0, hF, hrow0, hwt, hht, hlen, hent⟩ := id hm
  have hE : -10 ≤ v 3 ∧ v 3 ≤ 10 := by omega
  have hrow : ∀ i : Nat, (i : Int) < v 2 → 0 ≤ vR v i ∧ vR v i ≤ 4 := fun i hi => by have := hrow0 i hi; omega
  refine j_iload_n C 2 dX5_blockTold_0 rfl rfl ?_
  refine j_tswOut (tgt := 88) C (by decide) dX5_blockTold_1 (by omega) (by decide) ?_
  refine j_aload_n C 0 dX5_blockTold_88 rfl rfl ?_
  refine j_iload_n C 1 dX5_blockTold_89 rfl rfl ?_
  refine j_callV (As := [.int (iI b)]) (rest := []) C yv_X5_strands qw752 (c_X5_strands l g u v sv ln th ap rm rd nw hh b hm (by omega)) (by decide) 0 rfl rfl rfl dX5_blockTold_90 rfl (Nat.le_of_ble_eq_true rfl) (by decide) pf0 rfl (fun r9 w9 hq9 => ?_)
  obtain ⟨rfl, rfl⟩ := hq9
  refine J.to (L1 := [(0, .ref (u 0)), (1, .int (iI b)), (2, .int (iI 6))]) (S1 := [.int (iI (strV v b))]) (ws1 := [(u 0, .inr (5, [.ref (u 1), .ref (u 2), .ref (u 3), .int (iI sv), .ref (u 4), .int (iI ln), .int (iI th), .int (iI ap), .int (iI rm), .ref (u 5), .int (iI rd), .int (iI nw), .ref (u 6), .long (lI hh)])), (u 1, aL g 75 v)]) rfl rfl rfl ?_
  refine j_sipush C dX5_blockTold_93 (by decide) ?_
  refine j_aload_n C 0 dX5_blockTold_96 rfl rfl ?_
  refine j_get C ck5 0 0 (by decide) qw662 rfl rfl dX5_blockTold_97 ?_
  refine j_bipush C dX5_blockTold_100 (by decide) ?_
  refine j_iload_n C 1 dX5_blockTold_102 rfl rfl ?_
  refine j_iadd C dX5_blockTold_103 ?_
  refine j_lald (n := 75) (f := v) C 1 (13 + b.toNat) rfl (by omega) (by omega) (by decide) dX5_blockTold_104 ?_
  refine j_l2i C dX5_blockTold_105 ?_
  refine j_isub C dX5_blockTold_106 ?_
  refine j_imul C dX5_blockTold_107 ?_
  exact j_iret C hr hlk dX5_blockTold_108 ⟨rfl, rfl⟩ (by decide) (by decide)

theorem c_X5_blockTold (l : Launch) (g : Gh) (u : Nat → Nat) (v : Nat → Int) (sv ln th ap rm rd nw hh : Int) (b w : Int) (hm : MOK v) (hb4 : 0 ≤ b ∧ b ≤ 3) (hw : 0 ≤ w ∧ w ≤ 6) : CT l g yX5_blockTold cX5_blockTold 3 (some FieldType.int) ({ frames := 3, cells := 0, slots := 0, locals := 80 }) [.ref (u 0), .int (iI b), .int (iI w)] (wMo g u v sv ln th ap rm rd nw hh) (PE (some (.int (iI (blkF (kV v) b w)))) (wMo g u v sv ln th ap rm rd nw hh)) := by
  rcases (by omega : w = 0 ∨ w = 1 ∨ w = 2 ∨ w = 3 ∨ w = 4 ∨ w = 5 ∨ w = 6) with rfl | rfl | rfl | rfl | rfl | rfl | rfl
  · exact c_X5_blockTold_0 l g u v sv ln th ap rm rd nw hh b hm hb4
  · exact c_X5_blockTold_1 l g u v sv ln th ap rm rd nw hh b hm hb4
  · exact c_X5_blockTold_2 l g u v sv ln th ap rm rd nw hh b hm hb4
  · exact c_X5_blockTold_3 l g u v sv ln th ap rm rd nw hh b hm hb4
  · exact c_X5_blockTold_4 l g u v sv ln th ap rm rd nw hh b hm hb4
  · exact c_X5_blockTold_5 l g u v sv ln th ap rm rd nw hh b hm hb4
  · exact c_X5_blockTold_6 l g u v sv ln th ap rm rd nw hh b hm hb4
theorem c_X5_block_ok (l : Launch) (g : Gh) (u : Nat → Nat) (v pa sd tx rr rq : Nat → Int) (sv : Nat) (ln th ap rm rd nw hh : Int) (b w : Int) (hm : MOK v) (hsv : sv ≤ 4) (hb4 : 0 ≤ b ∧ b ≤ 3) (hw : 0 ≤ w ∧ w ≤ 6) : CT l g yX5_block cX5_block 3 (some FieldType.int) ({ frames := 4, cells := 0, slots := 0, locals := 102 }) [.ref (u 0), .int (iI b), .int (iI w)] [(u 0, .inr (5, [.ref (u 1), .ref (u 2), .ref (u 3), .int (iI ((sv : Int))), .ref (u 4), .int (iI ln), .int (iI th), .int (iI ap), .int (iI rm), .ref (u 5), .int (iI rd), .int (iI nw), .ref (u 6), .long (lI hh)])), (u 1, aL g 75 v), (u 2, aL g 300 pa)] (PE (some (.int (iI (blkF (kV v) b w)))) [(u 0, .inr (5, [.ref (u 1), .ref (u 2), .ref (u 3), .int (iI ((sv : Int))), .ref (u 4), .int (iI ln), .int (iI 0), .int (iI ap), .int (iI rm), .ref (u 5), .int (iI rd), .int (iI nw), .ref (u 6), .long (lI hh)])), (u 1, aL g 75 v), (u 2, aL g 300 pa)]) := by
  refine CT.intro (L0 := [(0, .ref (u 0)), (1, .int (iI b)), (2, .int (iI w))]) (own := RX5) (by decide) rfl (Nat.le_of_ble_eq_true rfl) rfl ?_
  intro pX eX sX mX argsX belowX methX cX A C hr hlk
  obtain ⟨hP, hE0, hF, hrow0, hwt, hht, hlen, hent⟩ := id hm
  have hE : -10 ≤ v 3 ∧ v 3 ≤ 10 := by omega
  have hrow : ∀ i : Nat, (i : Int) < v 2 → 0 ≤ vR v i ∧ vR v i ≤ 4 := fun i hi => by have := hrow0 i hi; omega
  refine j_iload_n C 1 dX5_block_0 rfl rfl ?_
  refine j_callS (As := [.int (iI b)]) (rest := []) C ys_X5_isBlock qw714 (c_X5_isBlock_t l g b (by omega)) (by decide) rfl dX5_block_1 rfl (Nat.le_of_ble_eq_true rfl) (by decide) (pf1 [] [(u 0, .inr (5, [.ref (u 1), .ref (u 2), .ref (u 3), .int (iI ((sv : Int))), .ref (u 4), .int (iI ln), .int (iI th), .int (iI ap), .int (iI rm), .ref (u 5), .int (iI rd), .int (iI nw), .ref (u 6), .long (lI hh)])), (u 1, aL g 75 v), (u 2, aL g 300 pa)]) rfl (fun r9 w9 hq9 => ?_)
  obtain ⟨rfl, rfl⟩ := hq9
  refine J.to (L1 := [(0, .ref (u 0)), (1, .int (iI b)), (2, .int (iI w))]) (S1 := [.int (iI 1)]) (ws1 := [(u 0, .inr (5, [.ref (u 1), .ref (u 2), .ref (u 3), .int (iI ((sv : Int))), .ref (u 4), .int (iI ln), .int (iI th), .int (iI ap), .int (iI rm), .ref (u 5), .int (iI rd), .int (iI nw), .ref (u 6), .long (lI hh)])), (u 1, aL g 75 v), (u 2, aL g 300 pa)]) rfl rfl rfl ?_
  refine j_if_ne (tgt := 13) C (by decide) dX5_block_4 (by decide) (fun c4 => ?_) (fun c4 => absurd c4 (by decide))
  refine j_iload_n C 2 dX5_block_13 rfl rfl ?_
  refine j_i2l C (by omega) dX5_block_14 ?_
  refine j_lconst (v := 0) C dX5_block_15 rfl ?_
  refine j_ldc2 (x := 6) C qw835 (by decide) dX5_block_16 ?_
  refine j_callS (As := [.long (lI w), .long (lI 0), .long (lI 6)]) (rest := []) C ys_X5_in qw718 (c_X5_in_t l g w 0 6 (by omega) (by omega) (by omega) (by omega)) (by decide) rfl dX5_block_19 rfl (Nat.le_of_ble_eq_true rfl) (by decide) (pf1 [] [(u 0, .inr (5, [.ref (u 1), .ref (u 2), .ref (u 3), .int (iI ((sv : Int))), .ref (u 4), .int (iI ln), .int (iI th), .int (iI ap), .int (iI rm), .ref (u 5), .int (iI rd), .int (iI nw), .ref (u 6), .long (lI hh)])), (u 1, aL g 75 v), (u 2, aL g 300 pa)]) rfl (fun r9 w9 hq9 => ?_)
  obtain ⟨rfl, rfl⟩ := hq9
  refine J.to (L1 := [(0, .ref (u 0)), (1, .int (iI b)), (2, .int (iI w))]) (S1 := [.int (iI 1)]) (ws1 := [(u 0, .inr (5, [.ref (u 1), .ref (u 2), .ref (u 3), .int (iI ((sv : Int))), .ref (u 4), .int (iI ln), .int (iI th), .int (iI ap), .int (iI rm), .ref (u 5), .int (iI rd), .int (iI nw), .ref (u 6), .long (lI hh)])), (u 1, aL g 75 v), (u 2, aL g 300 pa)]) rfl rfl rfl ?_
  refine j_if_eq (tgt := 38) C (by decide) dX5_block_22 (by decide) (fun c22 => absurd c22 (by decide)) (fun c22 => ?_)
  refine j_aload_n C 0 dX5_block_25 rfl rfl ?_
  refine j_aload_n C 0 dX5_block_26 rfl rfl ?_
  refine j_iload_n C 1 dX5_block_27 rfl rfl ?_
  refine j_iload_n C 2 dX5_block_28 rfl rfl ?_
  refine j_callV (As := [.int (iI b), .int (iI w)]) (rest := [.ref (u 0)]) C yv_X5_blockTold qw836 (c_X5_blockTold l g u v ((sv : Int)) ln th ap rm rd nw hh b w hm (by omega) (by omega)) (by decide) 0 rfl rfl rfl dX5_block_29 rfl (Nat.le_of_ble_eq_true rfl) (by decide) (pf1 [] [(u 2, aL g 300 pa)]) rfl (fun r9 w9 hq9 => ?_)
  obtain ⟨rfl, rfl⟩ := hq9
  refine J.to (L1 := [(0, .ref (u 0)), (1, .int (iI b)), (2, .int (iI w))]) (S1 := [.int (iI (blkF (kV v) b w)), .ref (u 0)]) (ws1 := [(u 0, .inr (5, [.ref (u 1), .ref (u 2), .ref (u 3), .int (iI ((sv : Int))), .ref (u 4), .int (iI ln), .int (iI th), .int (iI ap), .int (iI rm), .ref (u 5), .int (iI rd), .int (iI nw), .ref (u 6), .long (lI hh)])), (u 1, aL g 75 v), (u 2, aL g 300 pa)]) rfl rfl rfl ?_
  refine j_callV (As := [.int (iI (blkF (kV v) b w))]) (rest := []) C yv_X5_tells qw734 (c_X5_tells l g u v ((sv : Int)) ln th ap rm rd nw hh (blkF (kV v) b w)) (by decide) 0 rfl rfl rfl dX5_block_32 rfl (Nat.le_of_ble_eq_true rfl) (by decide) (pf1 [] [(u 1, aL g 75 v), (u 2, aL g 300 pa)]) rfl (fun r9 w9 hq9 => ?_)
  obtain ⟨rfl, rfl⟩ := hq9
  refine J.to (L1 := [(0, .ref (u 0)), (1, .int (iI b)), (2, .int (iI w))]) (S1 := [.int (iI (blkF (kV v) b w))]) (ws1 := [(u 0, .inr (5, [.ref (u 1), .ref (u 2), .ref (u 3), .int (iI ((sv : Int))), .ref (u 4), .int (iI ln), .int (iI 0), .int (iI ap), .int (iI rm), .ref (u 5), .int (iI rd), .int (iI nw), .ref (u 6), .long (lI hh)])), (u 1, aL g 75 v), (u 2, aL g 300 pa)]) rfl rfl rfl ?_
  refine j_goto (tgt := 43) C dX5_block_35 (by decide) ?_
  exact j_iret C hr hlk dX5_block_43 ⟨rfl, rfl⟩ (by decide) (by decide)

theorem c_X5_block_n1 (l : Launch) (g : Gh) (u : Nat → Nat) (v pa sd tx rr rq : Nat → Int) (sv : Nat) (ln th ap rm rd nw hh : Int) (b w : Int) (hm : MOK v) (hsv : sv ≤ 4) (hrb : -2147483648 ≤ b ∧ b < 2147483648) (hrw : -2147483648 ≤ w ∧ w < 2147483648) (hb4 : b < 0 ∨ 3 < b) : CT l g yX5_block cX5_block 3 (some FieldType.int) ({ frames := 4, cells := 0, slots := 0, locals := 102 }) [.ref (u 0), .int (iI b), .int (iI w)] [(u 0, .inr (5, [.ref (u 1), .ref (u 2), .ref (u 3), .int (iI ((sv : Int))), .ref (u 4), .int (iI ln), .int (iI th), .int (iI ap), .int (iI rm), .ref (u 5), .int (iI rd), .int (iI nw), .ref (u 6), .long (lI hh)])), (u 1, aL g 75 v), (u 2, aL g 300 pa)] (PE (some (.int (iI 0))) [(u 0, .inr (5, [.ref (u 1), .ref (u 2), .ref (u 3), .int (iI ((sv : Int))), .ref (u 4), .int (iI ln), .int (iI 1), .int (iI ap), .int (iI rm), .ref (u 5), .int (iI rd), .int (iI nw), .ref (u 6), .long (lI hh)])), (u 1, aL g 75 v), (u 2, aL g 300 pa)]) := by
  refine CT.intro (L0 := [(0, .ref (u 0)), (1, .int (iI b)), (2, .int (iI w))]) (own := RX5) (by decide) rfl (Nat.le_of_ble_eq_true rfl) rfl ?_
  intro pX eX sX mX argsX belowX methX cX A C hr hlk
  obtain ⟨hP, hE0, hF, hrow0, hwt, hht, hlen, hent⟩ := id hm
  have hE : -10 ≤ v 3 ∧ v 3 ≤ 10 := by omega
  have hrow : ∀ i : Nat, (i : Int) < v 2 → 0 ≤ vR v i ∧ vR v i ≤ 4 := fun i hi => by have := hrow0 i hi; omega
  refine j_iload_n C 1 dX5_block_0 rfl rfl ?_
  refine j_callS (As := [.int (iI b)]) (rest := []) C ys_X5_isBlock qw714 (c_X5_isBlock_f l g b (by omega) (by omega)) (by decide) rfl dX5_block_1 rfl (Nat.le_of_ble_eq_true rfl) (by decide) (pf1 [] [(u 0, .inr (5, [.ref (u 1), .ref (u 2), .ref (u 3), .int (iI ((sv : Int))), .ref (u 4), .int (iI ln), .int (iI th), .int (iI ap), .int (iI rm), .ref (u 5), .int (iI rd), .int (iI nw), .ref (u 6), .long (lI hh)])), (u 1, aL g 75 v), (u 2, aL g 300 pa)]) rfl (fun r9 w9 hq9 => ?_)
  obtain ⟨rfl, rfl⟩ := hq9
  refine J.to (L1 := [(0, .ref (u 0)), (1, .int (iI b)), (2, .int (iI w))]) (S1 := [.int (iI 0)]) (ws1 := [(u 0, .inr (5, [.ref (u 1), .ref (u 2), .ref (u 3), .int (iI ((sv : Int))), .ref (u 4), .int (iI ln), .int (iI th), .int (iI ap), .int (iI rm), .ref (u 5), .int (iI rd), .int (iI nw), .ref (u 6), .long (lI hh)])), (u 1, aL g 75 v), (u 2, aL g 300 pa)]) rfl rfl rfl ?_
  refine j_if_ne (tgt := 13) C (by decide) dX5_block_4 (by decide) (fun c4 => absurd c4 (by decide)) (fun c4 => ?_)
  refine j_aload_n C 0 dX5_block_7 rfl rfl ?_
  refine j_iconst C dX5_block_8 ?_
  refine j_callV (As := [.int (iI 1)]) (rest := []) C yv_X5_fails qw721 (c_X5_fails l g u v ((sv : Int)) ln th ap rm rd nw hh 1) (by decide) 0 rfl rfl rfl dX5_block_9 rfl (Nat.le_of_ble_eq_true rfl) (by decide) (pf1 [] [(u 1, aL g 75 v), (u 2, aL g 300 pa)]) rfl (fun r9 w9 hq9 => ?_)
  obtain ⟨rfl, rfl⟩ := hq9
  refine J.to (L1 := [(0, .ref (u 0)), (1, .int (iI b)), (2, .int (iI w))]) (S1 := [.int (iI 0)]) (ws1 := [(u 0, .inr (5, [.ref (u 1), .ref (u 2), .ref (u 3), .int (iI ((sv : Int))), .ref (u 4), .int (iI ln), .int (iI 1), .int (iI ap), .int (iI rm), .ref (u 5), .int (iI rd), .int (iI nw), .ref (u 6), .long (lI hh)])), (u 1, aL g 75 v), (u 2, aL g 300 pa)]) rfl rfl rfl ?_
  exact j_iret C hr hlk dX5_block_12 ⟨rfl, rfl⟩ (by decide) (by decide)

theorem c_X5_block_n2 (l : Launch) (g : Gh) (u : Nat → Nat) (v pa sd tx rr rq : Nat → Int) (sv : Nat) (ln th ap rm rd nw hh : Int) (b w : Int) (hm : MOK v) (hsv : sv ≤ 4) (hrb : -2147483648 ≤ b ∧ b < 2147483648) (hrw : -2147483648 ≤ w ∧ w < 2147483648) (hb4 : 0 ≤ b ∧ b ≤ 3) (hw : w < 0 ∨ 6 < w) : CT l g yX5_block cX5_block 3 (some FieldType.int) ({ frames := 4, cells := 0, slots := 0, locals := 102 }) [.ref (u 0), .int (iI b), .int (iI w)] [(u 0, .inr (5, [.ref (u 1), .ref (u 2), .ref (u 3), .int (iI ((sv : Int))), .ref (u 4), .int (iI ln), .int (iI th), .int (iI ap), .int (iI rm), .ref (u 5), .int (iI rd), .int (iI nw), .ref (u 6), .long (lI hh)])), (u 1, aL g 75 v), (u 2, aL g 300 pa)] (PE (some (.int (iI 0))) [(u 0, .inr (5, [.ref (u 1), .ref (u 2), .ref (u 3), .int (iI ((sv : Int))), .ref (u 4), .int (iI ln), .int (iI 2), .int (iI ap), .int (iI rm), .ref (u 5), .int (iI rd), .int (iI nw), .ref (u 6), .long (lI hh)])), (u 1, aL g 75 v), (u 2, aL g 300 pa)]) := by
  refine CT.intro (L0 := [(0, .ref (u 0)), (1, .int (iI b)), (2, .int (iI w))]) (own := RX5) (by decide) rfl (Nat.le_of_ble_eq_true rfl) rfl ?_
  intro pX eX sX mX argsX belowX methX cX A C hr hlk
  obtain ⟨hP, hE0, hF, hrow0, hwt, hht, hlen, hent⟩ := id hm
  have hE : -10 ≤ v 3 ∧ v 3 ≤ 10 := by omega
  have hrow : ∀ i : Nat, (i : Int) < v 2 → 0 ≤ vR v i ∧ vR v i ≤ 4 := fun i hi => by have := hrow0 i hi; omega
  refine j_iload_n C 1 dX5_block_0 rfl rfl ?_
  refine j_callS (As := [.int (iI b)]) (rest := []) C ys_X5_isBlock qw714 (c_X5_isBlock_t l g b (by omega)) (by decide) rfl dX5_block_1 rfl (Nat.le_of_ble_eq_true rfl) (by decide) (pf1 [] [(u 0, .inr (5, [.ref (u 1), .ref (u 2), .ref (u 3), .int (iI ((sv : Int))), .ref (u 4), .int (iI ln), .int (iI th), .int (iI ap), .int (iI rm), .ref (u 5), .int (iI rd), .int (iI nw), .ref (u 6), .long (lI hh)])), (u 1, aL g 75 v), (u 2, aL g 300 pa)]) rfl (fun r9 w9 hq9 => ?_)
  obtain ⟨rfl, rfl⟩ := hq9
  refine J.to (L1 := [(0, .ref (u 0)), (1, .int (iI b)), (2, .int (iI w))]) (S1 := [.int (iI 1)]) (ws1 := [(u 0, .inr (5, [.ref (u 1), .ref (u 2), .ref (u 3), .int (iI ((sv : Int))), .ref (u 4), .int (iI ln), .int (iI th), .int (iI ap), .int (iI rm), .ref (u 5), .int (iI rd), .int (iI nw), .ref (u 6), .long (lI hh)])), (u 1, aL g 75 v), (u 2, aL g 300 pa)]) rfl rfl rfl ?_
  refine j_if_ne (tgt := 13) C (by decide) dX5_block_4 (by decide) (fun c4 => ?_) (fun c4 => absurd c4 (by decide))
  refine j_iload_n C 2 dX5_block_13 rfl rfl ?_
  refine j_i2l C (by omega) dX5_block_14 ?_
  refine j_lconst (v := 0) C dX5_block_15 rfl ?_
  refine j_ldc2 (x := 6) C qw835 (by decide) dX5_block_16 ?_
  refine j_callS (As := [.long (lI w), .long (lI 0), .long (lI 6)]) (rest := []) C ys_X5_in qw718 (c_X5_in_f l g w 0 6 (by omega) (by omega) (by omega) (by omega)) (by decide) rfl dX5_block_19 rfl (Nat.le_of_ble_eq_true rfl) (by decide) (pf1 [] [(u 0, .inr (5, [.ref (u 1), .ref (u 2), .ref (u 3), .int (iI ((sv : Int))), .ref (u 4), .int (iI ln), .int (iI th), .int (iI ap), .int (iI rm), .ref (u 5), .int (iI rd), .int (iI nw), .ref (u 6), .long (lI hh)])), (u 1, aL g 75 v), (u 2, aL g 300 pa)]) rfl (fun r9 w9 hq9 => ?_)
  obtain ⟨rfl, rfl⟩ := hq9
  refine J.to (L1 := [(0, .ref (u 0)), (1, .int (iI b)), (2, .int (iI w))]) (S1 := [.int (iI 0)]) (ws1 := [(u 0, .inr (5, [.ref (u 1), .ref (u 2), .ref (u 3), .int (iI ((sv : Int))), .ref (u 4), .int (iI ln), .int (iI th), .int (iI ap), .int (iI rm), .ref (u 5), .int (iI rd), .int (iI nw), .ref (u 6), .long (lI hh)])), (u 1, aL g 75 v), (u 2, aL g 300 pa)]) rfl rfl rfl ?_
  refine j_if_eq (tgt := 38) C (by decide) dX5_block_22 (by decide) (fun c22 => ?_) (fun c22 => absurd c22 (by decide))
  refine j_aload_n C 0 dX5_block_38 rfl rfl ?_
  refine j_iconst C dX5_block_39 ?_
  refine j_callV (As := [.int (iI 2)]) (rest := []) C yv_X5_fails qw721 (c_X5_fails l g u v ((sv : Int)) ln th ap rm rd nw hh 2) (by decide) 0 rfl rfl rfl dX5_block_40 rfl (Nat.le_of_ble_eq_true rfl) (by decide) (pf1 [] [(u 1, aL g 75 v), (u 2, aL g 300 pa)]) rfl (fun r9 w9 hq9 => ?_)
  obtain ⟨rfl, rfl⟩ := hq9
  refine J.to (L1 := [(0, .ref (u 0)), (1, .int (iI b)), (2, .int (iI w))]) (S1 := [.int (iI 0)]) (ws1 := [(u 0, .inr (5, [.ref (u 1), .ref (u 2), .ref (u 3), .int (iI ((sv : Int))), .ref (u 4), .int (iI ln), .int (iI 2), .int (iI ap), .int (iI rm), .ref (u 5), .int (iI rd), .int (iI nw), .ref (u 6), .long (lI hh)])), (u 1, aL g 75 v), (u 2, aL g 300 pa)]) rfl rfl rfl ?_
  exact j_iret C hr hlk dX5_block_43 ⟨rfl, rfl⟩ (by decide) (by decide)

theorem c_X5_pulley_ok (l : Launch) (g : Gh) (u : Nat → Nat) (v pa sd tx rr rq : Nat → Int) (sv : Nat) (ln th ap rm rd nw hh : Int) (x : Int) (hm : MOK v) (hsv : sv ≤ 4) (hi : 0 ≤ x ∧ x < v 2) : CT l g yX5_pulley cX5_pulley 2 (some FieldType.int) ({ frames := 1, cells := 0, slots := 0, locals := 25 }) [.ref (u 0), .int (iI x)] [(u 0, .inr (5, [.ref (u 1), .ref (u 2), .ref (u 3), .int (iI ((sv : Int))), .ref (u 4), .int (iI ln), .int (iI th), .int (iI ap), .int (iI rm), .ref (u 5), .int (iI rd), .int (iI nw), .ref (u 6), .long (lI hh)])), (u 1, aL g 75 v), (u 2, aL g 300 pa)] (PE (some (.int (iI (vR v x.toNat)))) [(u 0, .inr (5, [.ref (u 1), .ref (u 2), .ref (u 3), .int (iI ((sv : Int))), .ref (u 4), .int (iI ln), .int (iI 0), .int (iI ap), .int (iI rm), .ref (u 5), .int (iI rd), .int (iI nw), .ref (u 6), .long (lI hh)])), (u 1, aL g 75 v), (u 2, aL g 300 pa)]) := by
  refine CT.intro (L0 := [(0, .ref (u 0)), (1, .int (iI x))]) (own := RX5) (by decide) rfl (Nat.le_of_ble_eq_true rfl) rfl ?_
  intro pX eX sX mX argsX belowX methX cX A C hr hlk
  obtain ⟨hP, hE0, hF, hrow0, hwt, hht, hlen, hent⟩ := id hm
  have hE : -10 ≤ v 3 ∧ v 3 ≤ 10 := by omega
  have hrow : ∀ i : Nat, (i : Int) < v 2 → 0 ≤ vR v i ∧ vR v i ≤ 4 := fun i hi => by have := hrow0 i hi; omega
  refine j_iload_n C 1 dX5_pulley_0 rfl rfl ?_
  refine j_i2l C (by omega) dX5_pulley_1 ?_
  refine j_lconst (v := 0) C dX5_pulley_2 rfl ?_
  refine j_aload_n C 0 dX5_pulley_3 rfl rfl ?_
  refine j_get C ck5 0 0 (by decide) qw662 rfl rfl dX5_pulley_4 ?_
  refine j_iconst C dX5_pulley_7 ?_
  refine j_lald (n := 75) (f := v) C 1 2 rfl rfl (by decide) (by decide) dX5_pulley_8 ?_
  refine j_lconst (v := 1) C dX5_pulley_9 rfl ?_
  refine j_lsub C dX5_pulley_10 ?_
  refine j_callS (As := [.long (lI x), .long (lI 0), .long (lI ((v 2) - 1))]) (rest := []) C ys_X5_in qw718 (c_X5_in_t l g x 0 ((v 2) - 1) (by omega) (by omega) (by omega) (by omega)) (by decide) rfl dX5_pulley_11 rfl (Nat.le_of_ble_eq_true rfl) (by decide) (pf1 [] [(u 0, .inr (5, [.ref (u 1), .ref (u 2), .ref (u 3), .int (iI ((sv : Int))), .ref (u 4), .int (iI ln), .int (iI th), .int (iI ap), .int (iI rm), .ref (u 5), .int (iI rd), .int (iI nw), .ref (u 6), .long (lI hh)])), (u 1, aL g 75 v), (u 2, aL g 300 pa)]) rfl (fun r9 w9 hq9 => ?_)
  obtain ⟨rfl, rfl⟩ := hq9
  refine J.to (L1 := [(0, .ref (u 0)), (1, .int (iI x))]) (S1 := [.int (iI 1)]) (ws1 := [(u 0, .inr (5, [.ref (u 1), .ref (u 2), .ref (u 3), .int (iI ((sv : Int))), .ref (u 4), .int (iI ln), .int (iI th), .int (iI ap), .int (iI rm), .ref (u 5), .int (iI rd), .int (iI nw), .ref (u 6), .long (lI hh)])), (u 1, aL g 75 v), (u 2, aL g 300 pa)]) rfl rfl rfl ?_
  refine j_if_eq (tgt := 34) C (by decide) dX5_pulley_14 (by decide) (fun c14 => absurd c14 (by decide)) (fun c14 => ?_)
  refine j_aload_n C 0 dX5_pulley_17 rfl rfl ?_
  refine j_aload_n C 0 dX5_pulley_18 rfl rfl ?_
  refine j_get C ck5 0 0 (by decide) qw662 rfl rfl dX5_pulley_19 ?_
  refine j_bipush C dX5_pulley_22 (by decide) ?_
  refine j_iload_n C 1 dX5_pulley_24 rfl rfl ?_
  refine j_iadd C dX5_pulley_25 ?_
  refine j_lald (n := 75) (f := v) C 1 (17 + x.toNat) rfl (by omega) (by omega) (by decide) dX5_pulley_26 ?_
  refine j_l2i C dX5_pulley_27 ?_
  refine j_callV (As := [.int (iI (v (17 + x.toNat)))]) (rest := []) C yv_X5_tells qw734 (c_X5_tells l g u v ((sv : Int)) ln th ap rm rd nw hh (v (17 + x.toNat))) (by decide) 0 rfl rfl rfl dX5_pulley_28 rfl (Nat.le_of_ble_eq_true rfl) (by decide) (pf1 [] [(u 1, aL g 75 v), (u 2, aL g 300 pa)]) rfl (fun r9 w9 hq9 => ?_)
  obtain ⟨rfl, rfl⟩ := hq9
  refine J.to (L1 := [(0, .ref (u 0)), (1, .int (iI x))]) (S1 := [.int (iI (v (17 + x.toNat)))]) (ws1 := [(u 0, .inr (5, [.ref (u 1), .ref (u 2), .ref (u 3), .int (iI ((sv : Int))), .ref (u 4), .int (iI ln), .int (iI 0), .int (iI ap), .int (iI rm), .ref (u 5), .int (iI rd), .int (iI nw), .ref (u 6), .long (lI hh)])), (u 1, aL g 75 v), (u 2, aL g 300 pa)]) rfl rfl rfl ?_
  refine j_goto (tgt := 39) C dX5_pulley_31 (by decide) ?_
  exact j_iret C hr hlk dX5_pulley_39 ⟨rfl, rfl⟩ (by decide) (by decide)

theorem c_X5_pulley_n1 (l : Launch) (g : Gh) (u : Nat → Nat) (v pa sd tx rr rq : Nat → Int) (sv : Nat) (ln th ap rm rd nw hh : Int) (x : Int) (hm : MOK v) (hsv : sv ≤ 4) (hrx : -2147483648 ≤ x ∧ x < 2147483648) (hi : x < 0 ∨ v 2 ≤ x) : CT l g yX5_pulley cX5_pulley 2 (some FieldType.int) ({ frames := 1, cells := 0, slots := 0, locals := 25 }) [.ref (u 0), .int (iI x)] [(u 0, .inr (5, [.ref (u 1), .ref (u 2), .ref (u 3), .int (iI ((sv : Int))), .ref (u 4), .int (iI ln), .int (iI th), .int (iI ap), .int (iI rm), .ref (u 5), .int (iI rd), .int (iI nw), .ref (u 6), .long (lI hh)])), (u 1, aL g 75 v), (u 2, aL g 300 pa)] (PE (some (.int (iI 0))) [(u 0, .inr (5, [.ref (u 1), .ref (u 2), .ref (u 3), .int (iI ((sv : Int))), .ref (u 4), .int (iI ln), .int (iI 1), .int (iI ap), .int (iI rm), .ref (u 5), .int (iI rd), .int (iI nw), .ref (u 6), .long (lI hh)])), (u 1, aL g 75 v), (u 2, aL g 300 pa)]) := by
  refine CT.intro (L0 := [(0, .ref (u 0)), (1, .int (iI x))]) (own := RX5) (by decide) rfl (Nat.le_of_ble_eq_true rfl) rfl ?_
  intro pX eX sX mX argsX belowX methX cX A C hr hlk
  obtain ⟨hP, hE0, hF, hrow0, hwt, hht, hlen, hent⟩ := id hm
  have hE : -10 ≤ v 3 ∧ v 3 ≤ 10 := by omega
  have hrow : ∀ i : Nat, (i : Int) < v 2 → 0 ≤ vR v i ∧ vR v i ≤ 4 := fun i hi => by have := hrow0 i hi; omega
  refine j_iload_n C 1 dX5_pulley_0 rfl rfl ?_
  refine j_i2l C (by omega) dX5_pulley_1 ?_
  refine j_lconst (v := 0) C dX5_pulley_2 rfl ?_
  refine j_aload_n C 0 dX5_pulley_3 rfl rfl ?_
  refine j_get C ck5 0 0 (by decide) qw662 rfl rfl dX5_pulley_4 ?_
  refine j_iconst C dX5_pulley_7 ?_
  refine j_lald (n := 75) (f := v) C 1 2 rfl rfl (by decide) (by decide) dX5_pulley_8 ?_
  refine j_lconst (v := 1) C dX5_pulley_9 rfl ?_
  refine j_lsub C dX5_pulley_10 ?_
  refine j_callS (As := [.long (lI x), .long (lI 0), .long (lI ((v 2) - 1))]) (rest := []) C ys_X5_in qw718 (c_X5_in_f l g x 0 ((v 2) - 1) (by omega) (by omega) (by omega) (by omega)) (by decide) rfl dX5_pulley_11 rfl (Nat.le_of_ble_eq_true rfl) (by decide) (pf1 [] [(u 0, .inr (5, [.ref (u 1), .ref (u 2), .ref (u 3), .int (iI ((sv : Int))), .ref (u 4), .int (iI ln), .int (iI th), .int (iI ap), .int (iI rm), .ref (u 5), .int (iI rd), .int (iI nw), .ref (u 6), .long (lI hh)])), (u 1, aL g 75 v), (u 2, aL g 300 pa)]) rfl (fun r9 w9 hq9 => ?_)
  obtain ⟨rfl, rfl⟩ := hq9
  refine J.to (L1 := [(0, .ref (u 0)), (1, .int (iI x))]) (S1 := [.int (iI 0)]) (ws1 := [(u 0, .inr (5, [.ref (u 1), .ref (u 2), .ref (u 3), .int (iI ((sv : Int))), .ref (u 4), .int (iI ln), .int (iI th), .int (iI ap), .int (iI rm), .ref (u 5), .int (iI rd), .int (iI nw), .ref (u 6), .long (lI hh)])), (u 1, aL g 75 v), (u 2, aL g 300 pa)]) rfl rfl rfl ?_
  refine j_if_eq (tgt := 34) C (by decide) dX5_pulley_14 (by decide) (fun c14 => ?_) (fun c14 => absurd c14 (by decide))
  refine j_aload_n C 0 dX5_pulley_34 rfl rfl ?_
  refine j_iconst C dX5_pulley_35 ?_
  refine j_callV (As := [.int (iI 1)]) (rest := []) C yv_X5_fails qw721 (c_X5_fails l g u v ((sv : Int)) ln th ap rm rd nw hh 1) (by decide) 0 rfl rfl rfl dX5_pulley_36 rfl (Nat.le_of_ble_eq_true rfl) (by decide) (pf1 [] [(u 1, aL g 75 v), (u 2, aL g 300 pa)]) rfl (fun r9 w9 hq9 => ?_)
  obtain ⟨rfl, rfl⟩ := hq9
  refine J.to (L1 := [(0, .ref (u 0)), (1, .int (iI x))]) (S1 := [.int (iI 0)]) (ws1 := [(u 0, .inr (5, [.ref (u 1), .ref (u 2), .ref (u 3), .int (iI ((sv : Int))), .ref (u 4), .int (iI ln), .int (iI 1), .int (iI ap), .int (iI rm), .ref (u 5), .int (iI rd), .int (iI nw), .ref (u 6), .long (lI hh)])), (u 1, aL g 75 v), (u 2, aL g 300 pa)]) rfl rfl rfl ?_
  exact j_iret C hr hlk dX5_pulley_39 ⟨rfl, rfl⟩ (by decide) (by decide)

theorem c_X5_force_ok (l : Launch) (g : Gh) (u : Nat → Nat) (v pa sd tx rr rq : Nat → Int) (sv : Nat) (ln th ap rm rd nw hh : Int) (f q : Int) (h : Bool) (hm : MOK v) (hsv : sv ≤ 4) (hf : 0 ≤ f ∧ f ≤ 1000000) (hp : 0 ≤ q ∧ q ≤ passV v) : CT l g yX5_force cX5_force 5 (some FieldType.long) ({ frames := 2, cells := 0, slots := 0, locals := 51 }) [.ref (u 0), .int (iI f), .int (iI q), .int (iI (b2i h))] [(u 0, .inr (5, [.ref (u 1), .ref (u 2), .ref (u 3), .int (iI ((sv : Int))), .ref (u 4), .int (iI ln), .int (iI th), .int (iI ap), .int (iI rm), .ref (u 5), .int (iI rd), .int (iI nw), .ref (u 6), .long (lI hh)])), (u 1, aL g 75 v), (u 2, aL g 300 pa)] (PE (some (.long (lI (fbn (v 1) h f q.toNat)))) [(u 0, .inr (5, [.ref (u 1), .ref (u 2), .ref (u 3), .int (iI ((sv : Int))), .ref (u 4), .int (iI ln), .int (iI 0), .int (iI ap), .int (iI rm), .ref (u 5), .int (iI rd), .int (iI nw), .ref (u 6), .long (lI hh)])), (u 1, aL g 75 v), (u 2, aL g 300 pa)]) := by
  refine CT.intro (L0 := [(0, .ref (u 0)), (1, .int (iI f)), (2, .int (iI q)), (3, .int (iI (b2i h)))]) (own := RX5) (by decide) rfl (Nat.le_of_ble_eq_true rfl) rfl ?_
  intro pX eX sX mX argsX belowX methX cX A C hr hlk
  obtain ⟨hP, hE0, hF, hrow0, hwt, hht, hlen, hent⟩ := id hm
  have hE : -10 ≤ v 3 ∧ v 3 ≤ 10 := by omega
  have hrow : ∀ i : Nat, (i : Int) < v 2 → 0 ≤ vR v i ∧ vR v i ≤ 4 := fun i hi => by have := hrow0 i hi; omega
  have hp9 : 0 ≤ passV v ∧ passV v ≤ 21 := by show 0 ≤ 2 * v 2 + (if v 3 = 4 then 0 else 1) ∧ 2 * v 2 + (if v 3 = 4 then 0 else 1) ≤ 21; split <;> omega
  refine j_iload_n C 1 dX5_force_0 rfl rfl ?_
  refine j_callS (As := [.int (iI f)]) (rest := []) C ys_X5_isForce qw786 (c_X5_isForce_t l g f (by omega)) (by decide) rfl dX5_force_1 rfl (Nat.le_of_ble_eq_true rfl) (by decide) (pf1 [] [(u 0, .inr (5, [.ref (u 1), .ref (u 2), .ref (u 3), .int (iI ((sv : Int))), .ref (u 4), .int (iI ln), .int (iI th), .int (iI ap), .int (iI rm), .ref (u 5), .int (iI rd), .int (iI nw), .ref (u 6), .long (lI hh)])), (u 1, aL g 75 v), (u 2, aL g 300 pa)]) rfl (fun r9 w9 hq9 => ?_)
  obtain ⟨rfl, rfl⟩ := hq9
  refine J.to (L1 := [(0, .ref (u 0)), (1, .int (iI f)), (2, .int (iI q)), (3, .int (iI (b2i h)))]) (S1 := [.int (iI 1)]) (ws1 := [(u 0, .inr (5, [.ref (u 1), .ref (u 2), .ref (u 3), .int (iI ((sv : Int))), .ref (u 4), .int (iI ln), .int (iI th), .int (iI ap), .int (iI rm), .ref (u 5), .int (iI rd), .int (iI nw), .ref (u 6), .long (lI hh)])), (u 1, aL g 75 v), (u 2, aL g 300 pa)]) rfl rfl rfl ?_
  refine j_if_eq (tgt := 25) C (by decide) dX5_force_4 (by decide) (fun c4 => absurd c4 (by decide)) (fun c4 => ?_)
  refine j_iload_n C 2 dX5_force_7 rfl rfl ?_
  refine j_i2l C (by omega) dX5_force_8 ?_
  refine j_lconst (v := 0) C dX5_force_9 rfl ?_
  refine j_aload_n C 0 dX5_force_10 rfl rfl ?_
  refine j_callV (As := []) (rest := [.long (lI 0), .long (lI q)]) C yv_X5_passes qw848 (c_X5_passes l g u v ((sv : Int)) ln th ap rm rd nw hh  hm) (by decide) 0 rfl rfl rfl dX5_force_11 rfl (Nat.le_of_ble_eq_true rfl) (by decide) (pf1 [] [(u 2, aL g 300 pa)]) rfl (fun r9 w9 hq9 => ?_)
  obtain ⟨rfl, rfl⟩ := hq9
  refine J.to (L1 := [(0, .ref (u 0)), (1, .int (iI f)), (2, .int (iI q)), (3, .int (iI (b2i h)))]) (S1 := [.int (iI (passV v)), .long (lI 0), .long (lI q)]) (ws1 := [(u 0, .inr (5, [.ref (u 1), .ref (u 2), .ref (u 3), .int (iI ((sv : Int))), .ref (u 4), .int (iI ln), .int (iI th), .int (iI ap), .int (iI rm), .ref (u 5), .int (iI rd), .int (iI nw), .ref (u 6), .long (lI hh)])), (u 1, aL g 75 v), (u 2, aL g 300 pa)]) rfl rfl rfl ?_
  refine j_i2l C (by omega) dX5_force_14 ?_
  refine j_callS (As := [.long (lI q), .long (lI 0), .long (lI (passV v))]) (rest := []) C ys_X5_in qw718 (c_X5_in_t l g q 0 (passV v) (by omega) (by omega) (by omega) (by omega)) (by decide) rfl dX5_force_15 rfl (Nat.le_of_ble_eq_true rfl) (by decide) (pf1 [] [(u 0, .inr (5, [.ref (u 1), .ref (u 2), .ref (u 3), .int (iI ((sv : Int))), .ref (u 4), .int (iI ln), .int (iI th), .int (iI ap), .int (iI rm), .ref (u 5), .int (iI rd), .int (iI nw), .ref (u 6), .long (lI hh)])), (u 1, aL g 75 v), (u 2, aL g 300 pa)]) rfl (fun r9 w9 hq9 => ?_)
  obtain ⟨rfl, rfl⟩ := hq9
  refine J.to (L1 := [(0, .ref (u 0)), (1, .int (iI f)), (2, .int (iI q)), (3, .int (iI (b2i h)))]) (S1 := [.int (iI 1)]) (ws1 := [(u 0, .inr (5, [.ref (u 1), .ref (u 2), .ref (u 3), .int (iI ((sv : Int))), .ref (u 4), .int (iI ln), .int (iI th), .int (iI ap), .int (iI rm), .ref (u 5), .int (iI rd), .int (iI nw), .ref (u 6), .long (lI hh)])), (u 1, aL g 75 v), (u 2, aL g 300 pa)]) rfl rfl rfl ?_
  refine j_if_eq (tgt := 25) C (by decide) dX5_force_18 (by decide) (fun c18 => absurd c18 (by decide)) (fun c18 => ?_)
  refine j_iconst C dX5_force_21 ?_
  refine j_goto (tgt := 26) C dX5_force_22 (by decide) ?_
  refine j_istore (L1 := [(4, .int (iI 1)), (0, .ref (u 0)), (1, .int (iI f)), (2, .int (iI q)), (3, .int (iI (b2i h)))]) C dX5_force_26 (by decide) rfl ?_
  refine j_aload_n C 1 dX5_force_28 rfl rfl ?_
  refine j_iload C 0 dX5_force_29 rfl ?_
  refine j_if_eq (tgt := 38) C (by decide) dX5_force_31 (by decide) (fun c31 => absurd c31 (by decide)) (fun c31 => ?_)
  refine j_iconst C dX5_force_34 ?_
  refine j_goto (tgt := 39) C dX5_force_35 (by decide) ?_
  refine j_put (ws1 := [(u 0, .inr (5, [.ref (u 1), .ref (u 2), .ref (u 3), .int (iI ((sv : Int))), .ref (u 4), .int (iI ln), .int (iI 0), .int (iI ap), .int (iI rm), .ref (u 5), .int (iI rd), .int (iI nw), .ref (u 6), .long (lI hh)])), (u 1, aL g 75 v), (u 2, aL g 300 pa)]) C ck5 0 6 (by decide) qw668 rfl dX5_force_39 rfl rfl rfl rfl (Nat.le_of_ble_eq_true rfl) ?_
  refine j_iload C 0 dX5_force_42 rfl ?_
  refine j_if_eq (tgt := 57) C (by decide) dX5_force_44 (by decide) (fun c44 => absurd c44 (by decide)) (fun c44 => ?_)
  refine j_aload_n C 1 dX5_force_47 rfl rfl ?_
  refine j_iload_n C 2 dX5_force_48 rfl rfl ?_
  refine j_iload_n C 3 dX5_force_49 rfl rfl ?_
  refine j_iload_n C 4 dX5_force_50 rfl rfl ?_
  refine j_callV (As := [.int (iI f), .int (iI q), .int (iI (b2i h))]) (rest := []) C yv_X5_forceAt qw852 (c_X5_forceAt l g u v ((sv : Int)) ln 0 ap rm rd nw hh f q h hm (by omega) (by omega)) (by decide) 0 rfl rfl rfl dX5_force_51 rfl (Nat.le_of_ble_eq_true rfl) (by decide) (pf1 [] [(u 2, aL g 300 pa)]) rfl (fun r9 w9 hq9 => ?_)
  obtain ⟨rfl, rfl⟩ := hq9
  refine J.to (L1 := [(4, .int (iI 1)), (0, .ref (u 0)), (1, .int (iI f)), (2, .int (iI q)), (3, .int (iI (b2i h)))]) (S1 := [.long (lI (fbn (v 1) h f q.toNat))]) (ws1 := [(u 0, .inr (5, [.ref (u 1), .ref (u 2), .ref (u 3), .int (iI ((sv : Int))), .ref (u 4), .int (iI ln), .int (iI 0), .int (iI ap), .int (iI rm), .ref (u 5), .int (iI rd), .int (iI nw), .ref (u 6), .long (lI hh)])), (u 1, aL g 75 v), (u 2, aL g 300 pa)]) rfl rfl rfl ?_
  refine j_goto (tgt := 58) C dX5_force_54 (by decide) ?_
  exact j_lret C hr hlk dX5_force_58 ⟨rfl, rfl⟩ (by decide) (by decide)

theorem c_X5_force_n1 (l : Launch) (g : Gh) (u : Nat → Nat) (v pa sd tx rr rq : Nat → Int) (sv : Nat) (ln th ap rm rd nw hh : Int) (f q : Int) (h : Bool) (hm : MOK v) (hsv : sv ≤ 4) (hrf : -2147483648 ≤ f ∧ f < 2147483648) (hrq : -2147483648 ≤ q ∧ q < 2147483648) (hf : f < 0 ∨ 1000000 < f) : CT l g yX5_force cX5_force 5 (some FieldType.long) ({ frames := 2, cells := 0, slots := 0, locals := 51 }) [.ref (u 0), .int (iI f), .int (iI q), .int (iI (b2i h))] [(u 0, .inr (5, [.ref (u 1), .ref (u 2), .ref (u 3), .int (iI ((sv : Int))), .ref (u 4), .int (iI ln), .int (iI th), .int (iI ap), .int (iI rm), .ref (u 5), .int (iI rd), .int (iI nw), .ref (u 6), .long (lI hh)])), (u 1, aL g 75 v), (u 2, aL g 300 pa)] (PE (some (.long (lI (0)))) [(u 0, .inr (5, [.ref (u 1), .ref (u 2), .ref (u 3), .int (iI ((sv : Int))), .ref (u 4), .int (iI ln), .int (iI 1), .int (iI ap), .int (iI rm), .ref (u 5), .int (iI rd), .int (iI nw), .ref (u 6), .long (lI hh)])), (u 1, aL g 75 v), (u 2, aL g 300 pa)]) := by
  refine CT.intro (L0 := [(0, .ref (u 0)), (1, .int (iI f)), (2, .int (iI q)), (3, .int (iI (b2i h)))]) (own := RX5) (by decide) rfl (Nat.le_of_ble_eq_true rfl) rfl ?_
  intro pX eX sX mX argsX belowX methX cX A C hr hlk
  obtain ⟨hP, hE0, hF, hrow0, hwt, hht, hlen, hent⟩ := id hm
  have hE : -10 ≤ v 3 ∧ v 3 ≤ 10 := by omega
  have hrow : ∀ i : Nat, (i : Int) < v 2 → 0 ≤ vR v i ∧ vR v i ≤ 4 := fun i hi => by have := hrow0 i hi; omega
  have hp9 : 0 ≤ passV v ∧ passV v ≤ 21 := by show 0 ≤ 2 * v 2 + (if v 3 = 4 then 0 else 1) ∧ 2 * v 2 + (if v 3 = 4 then 0 else 1) ≤ 21; split <;> omega
  refine j_iload_n C 1 dX5_force_0 rfl rfl ?_
  refine j_callS (As := [.int (iI f)]) (rest := []) C ys_X5_isForce qw786 (c_X5_isForce_f l g f (by omega) (by omega)) (by decide) rfl dX5_force_1 rfl (Nat.le_of_ble_eq_true rfl) (by decide) (pf1 [] [(u 0, .inr (5, [.ref (u 1), .ref (u 2), .ref (u 3), .int (iI ((sv : Int))), .ref (u 4), .int (iI ln), .int (iI th), .int (iI ap), .int (iI rm), .ref (u 5), .int (iI rd), .int (iI nw), .ref (u 6), .long (lI hh)])), (u 1, aL g 75 v), (u 2, aL g 300 pa)]) rfl (fun r9 w9 hq9 => ?_)
  obtain ⟨rfl, rfl⟩ := hq9
  refine J.to (L1 := [(0, .ref (u 0)), (1, .int (iI f)), (2, .int (iI q)), (3, .int (iI (b2i h)))]) (S1 := [.int (iI 0)]) (ws1 := [(u 0, .inr (5, [.ref (u 1), .ref (u 2), .ref (u 3), .int (iI ((sv : Int))), .ref (u 4), .int (iI ln), .int (iI th), .int (iI ap), .int (iI rm), .ref (u 5), .int (iI rd), .int (iI nw), .ref (u 6), .long (lI hh)])), (u 1, aL g 75 v), (u 2, aL g 300 pa)]) rfl rfl rfl ?_
  refine j_if_eq (tgt := 25) C (by decide) dX5_force_4 (by decide) (fun c4 => ?_) (fun c4 => absurd c4 (by decide))
  refine j_iconst C dX5_force_25 ?_
  refine j_istore (L1 := [(4, .int (iI 0)), (0, .ref (u 0)), (1, .int (iI f)), (2, .int (iI q)), (3, .int (iI (b2i h)))]) C dX5_force_26 (by decide) rfl ?_
  refine j_aload_n C 1 dX5_force_28 rfl rfl ?_
  refine j_iload C 0 dX5_force_29 rfl ?_
  refine j_if_eq (tgt := 38) C (by decide) dX5_force_31 (by decide) (fun c31 => ?_) (fun c31 => absurd c31 (by decide))
  refine j_iconst C dX5_force_38 ?_
  refine j_put (ws1 := [(u 0, .inr (5, [.ref (u 1), .ref (u 2), .ref (u 3), .int (iI ((sv : Int))), .ref (u 4), .int (iI ln), .int (iI 1), .int (iI ap), .int (iI rm), .ref (u 5), .int (iI rd), .int (iI nw), .ref (u 6), .long (lI hh)])), (u 1, aL g 75 v), (u 2, aL g 300 pa)]) C ck5 0 6 (by decide) qw668 rfl dX5_force_39 rfl rfl rfl rfl (Nat.le_of_ble_eq_true rfl) ?_
  refine j_iload C 0 dX5_force_42 rfl ?_
  refine j_if_eq (tgt := 57) C (by decide) dX5_force_44 (by decide) (fun c44 => ?_) (fun c44 => absurd c44 (by decide))
  refine j_lconst (v := 0) C dX5_force_57 rfl ?_
  exact j_lret C hr hlk dX5_force_58 ⟨rfl, rfl⟩ (by decide) (by decide)

theorem c_X5_force_n2 (l : Launch) (g : Gh) (u : Nat → Nat) (v pa sd tx rr rq : Nat → Int) (sv : Nat) (ln th ap rm rd nw hh : Int) (f q : Int) (h : Bool) (hm : MOK v) (hsv : sv ≤ 4) (hrf : -2147483648 ≤ f ∧ f < 2147483648) (hrq : -2147483648 ≤ q ∧ q < 2147483648) (hf : 0 ≤ f ∧ f ≤ 1000000) (hp : q < 0 ∨ passV v < q) : CT l g yX5_force cX5_force 5 (some FieldType.long) ({ frames := 2, cells := 0, slots := 0, locals := 51 }) [.ref (u 0), .int (iI f), .int (iI q), .int (iI (b2i h))] [(u 0, .inr (5, [.ref (u 1), .ref (u 2), .ref (u 3), .int (iI ((sv : Int))), .ref (u 4), .int (iI ln), .int (iI th), .int (iI ap), .int (iI rm), .ref (u 5), .int (iI rd), .int (iI nw), .ref (u 6), .long (lI hh)])), (u 1, aL g 75 v), (u 2, aL g 300 pa)] (PE (some (.long (lI (0)))) [(u 0, .inr (5, [.ref (u 1), .ref (u 2), .ref (u 3), .int (iI ((sv : Int))), .ref (u 4), .int (iI ln), .int (iI 1), .int (iI ap), .int (iI rm), .ref (u 5), .int (iI rd), .int (iI nw), .ref (u 6), .long (lI hh)])), (u 1, aL g 75 v), (u 2, aL g 300 pa)]) := by
  refine CT.intro (L0 := [(0, .ref (u 0)), (1, .int (iI f)), (2, .int (iI q)), (3, .int (iI (b2i h)))]) (own := RX5) (by decide) rfl (Nat.le_of_ble_eq_true rfl) rfl ?_
  intro pX eX sX mX argsX belowX methX cX A C hr hlk
  obtain ⟨hP, hE0, hF, hrow0, hwt, hht, hlen, hent⟩ := id hm
  have hE : -10 ≤ v 3 ∧ v 3 ≤ 10 := by omega
  have hrow : ∀ i : Nat, (i : Int) < v 2 → 0 ≤ vR v i ∧ vR v i ≤ 4 := fun i hi => by have := hrow0 i hi; omega
  have hp9 : 0 ≤ passV v ∧ passV v ≤ 21 := by show 0 ≤ 2 * v 2 + (if v 3 = 4 then 0 else 1) ∧ 2 * v 2 + (if v 3 = 4 then 0 else 1) ≤ 21; split <;> omega
  refine j_iload_n C 1 dX5_force_0 rfl rfl ?_
  refine j_callS (As := [.int (iI f)]) (rest := []) C ys_X5_isForce qw786 (c_X5_isForce_t l g f (by omega)) (by decide) rfl dX5_force_1 rfl (Nat.le_of_ble_eq_true rfl) (by decide) (pf1 [] [(u 0, .inr (5, [.ref (u 1), .ref (u 2), .ref (u 3), .int (iI ((sv : Int))), .ref (u 4), .int (iI ln), .int (iI th), .int (iI ap), .int (iI rm), .ref (u 5), .int (iI rd), .int (iI nw), .ref (u 6), .long (lI hh)])), (u 1, aL g 75 v), (u 2, aL g 300 pa)]) rfl (fun r9 w9 hq9 => ?_)
  obtain ⟨rfl, rfl⟩ := hq9
  refine J.to (L1 := [(0, .ref (u 0)), (1, .int (iI f)), (2, .int (iI q)), (3, .int (iI (b2i h)))]) (S1 := [.int (iI 1)]) (ws1 := [(u 0, .inr (5, [.ref (u 1), .ref (u 2), .ref (u 3), .int (iI ((sv : Int))), .ref (u 4), .int (iI ln), .int (iI th), .int (iI ap), .int (iI rm), .ref (u 5), .int (iI rd), .int (iI nw), .ref (u 6), .long (lI hh)])), (u 1, aL g 75 v), (u 2, aL g 300 pa)]) rfl rfl rfl ?_
  refine j_if_eq (tgt := 25) C (by decide) dX5_force_4 (by decide) (fun c4 => absurd c4 (by decide)) (fun c4 => ?_)
  refine j_iload_n C 2 dX5_force_7 rfl rfl ?_
  refine j_i2l C (by omega) dX5_force_8 ?_
  refine j_lconst (v := 0) C dX5_force_9 rfl ?_
  refine j_aload_n C 0 dX5_force_10 rfl rfl ?_
  refine j_callV (As := []) (rest := [.long (lI 0), .long (lI q)]) C yv_X5_passes qw848 (c_X5_passes l g u v ((sv : Int)) ln th ap rm rd nw hh  hm) (by decide) 0 rfl rfl rfl dX5_force_11 rfl (Nat.le_of_ble_eq_true rfl) (by decide) (pf1 [] [(u 2, aL g 300 pa)]) rfl (fun r9 w9 hq9 => ?_)
  obtain ⟨rfl, rfl⟩ := hq9
  refine J.to (L1 := [(0, .ref (u 0)), (1, .int (iI f)), (2, .int (iI q)), (3, .int (iI (b2i h)))]) (S1 := [.int (iI (passV v)), .long (lI 0), .long (lI q)]) (ws1 := [(u 0, .inr (5, [.ref (u 1), .ref (u 2), .ref (u 3), .int (iI ((sv : Int))), .ref (u 4), .int (iI ln), .int (iI th), .int (iI ap), .int (iI rm), .ref (u 5), .int (iI rd), .int (iI nw), .ref (u 6), .long (lI hh)])), (u 1, aL g 75 v), (u 2, aL g 300 pa)]) rfl rfl rfl ?_
  refine j_i2l C (by omega) dX5_force_14 ?_
  refine j_callS (As := [.long (lI q), .long (lI 0), .long (lI (passV v))]) (rest := []) C ys_X5_in qw718 (c_X5_in_f l g q 0 (passV v) (by omega) (by omega) (by omega) (by omega)) (by decide) rfl dX5_force_15 rfl (Nat.le_of_ble_eq_true rfl) (by decide) (pf1 [] [(u 0, .inr (5, [.ref (u 1), .ref (u 2), .ref (u 3), .int (iI ((sv : Int))), .ref (u 4), .int (iI ln), .int (iI th), .int (iI ap), .int (iI rm), .ref (u 5), .int (iI rd), .int (iI nw), .ref (u 6), .long (lI hh)])), (u 1, aL g 75 v), (u 2, aL g 300 pa)]) rfl (fun r9 w9 hq9 => ?_)
  obtain ⟨rfl, rfl⟩ := hq9
  refine J.to (L1 := [(0, .ref (u 0)), (1, .int (iI f)), (2, .int (iI q)), (3, .int (iI (b2i h)))]) (S1 := [.int (iI 0)]) (ws1 := [(u 0, .inr (5, [.ref (u 1), .ref (u 2), .ref (u 3), .int (iI ((sv : Int))), .ref (u 4), .int (iI ln), .int (iI th), .int (iI ap), .int (iI rm), .ref (u 5), .int (iI rd), .int (iI nw), .ref (u 6), .long (lI hh)])), (u 1, aL g 75 v), (u 2, aL g 300 pa)]) rfl rfl rfl ?_
  refine j_if_eq (tgt := 25) C (by decide) dX5_force_18 (by decide) (fun c18 => ?_) (fun c18 => absurd c18 (by decide))
  refine j_iconst C dX5_force_25 ?_
  refine j_istore (L1 := [(4, .int (iI 0)), (0, .ref (u 0)), (1, .int (iI f)), (2, .int (iI q)), (3, .int (iI (b2i h)))]) C dX5_force_26 (by decide) rfl ?_
  refine j_aload_n C 1 dX5_force_28 rfl rfl ?_
  refine j_iload C 0 dX5_force_29 rfl ?_
  refine j_if_eq (tgt := 38) C (by decide) dX5_force_31 (by decide) (fun c31 => ?_) (fun c31 => absurd c31 (by decide))
  refine j_iconst C dX5_force_38 ?_
  refine j_put (ws1 := [(u 0, .inr (5, [.ref (u 1), .ref (u 2), .ref (u 3), .int (iI ((sv : Int))), .ref (u 4), .int (iI ln), .int (iI 1), .int (iI ap), .int (iI rm), .ref (u 5), .int (iI rd), .int (iI nw), .ref (u 6), .long (lI hh)])), (u 1, aL g 75 v), (u 2, aL g 300 pa)]) C ck5 0 6 (by decide) qw668 rfl dX5_force_39 rfl rfl rfl rfl (Nat.le_of_ble_eq_true rfl) ?_
  refine j_iload C 0 dX5_force_42 rfl ?_
  refine j_if_eq (tgt := 57) C (by decide) dX5_force_44 (by decide) (fun c44 => ?_) (fun c44 => absurd c44 (by decide))
  refine j_lconst (v := 0) C dX5_force_57 rfl ?_
  exact j_lret C hr hlk dX5_force_58 ⟨rfl, rfl⟩ (by decide) (by decide)

theorem c_X5_pull_ok (l : Launch) (g : Gh) (u : Nat → Nat) (v pa sd tx rr rq : Nat → Int) (sv : Nat) (ln th ap rm rd nw hh : Int) (b f : Int) (h : Bool) (hm : MOK v) (hsv : sv ≤ 4) (hb4 : 0 ≤ b ∧ b ≤ 3) (hf : 0 ≤ f ∧ f ≤ 1000000) : CT l g yX5_pull cX5_pull 4 (some FieldType.long) ({ frames := 2, cells := 0, slots := 0, locals := 55 }) [.ref (u 0), .int (iI b), .int (iI f), .int (iI (b2i h))] [(u 0, .inr (5, [.ref (u 1), .ref (u 2), .ref (u 3), .int (iI ((sv : Int))), .ref (u 4), .int (iI ln), .int (iI th), .int (iI ap), .int (iI rm), .ref (u 5), .int (iI rd), .int (iI nw), .ref (u 6), .long (lI hh)])), (u 1, aL g 75 v), (u 2, aL g 300 pa)] (PE (some (.long (lI (pulV v h b f)))) [(u 0, .inr (5, [.ref (u 1), .ref (u 2), .ref (u 3), .int (iI ((sv : Int))), .ref (u 4), .int (iI ln), .int (iI 0), .int (iI ap), .int (iI rm), .ref (u 5), .int (iI rd), .int (iI nw), .ref (u 6), .long (lI hh)])), (u 1, aL g 75 v), (u 2, aL g 300 pa)]) := by
  refine CT.intro (L0 := [(0, .ref (u 0)), (1, .int (iI b)), (2, .int (iI f)), (3, .int (iI (b2i h)))]) (own := RX5) (by decide) rfl (Nat.le_of_ble_eq_true rfl) rfl ?_
  intro pX eX sX mX argsX belowX methX cX A C hr hlk
  obtain ⟨hP, hE0, hF, hrow0, hwt, hht, hlen, hent⟩ := id hm
  have hE : -10 ≤ v 3 ∧ v 3 ≤ 10 := by omega
  have hrow : ∀ i : Nat, (i : Int) < v 2 → 0 ≤ vR v i ∧ vR v i ≤ 4 := fun i hi => by have := hrow0 i hi; omega
  refine j_aload_n C 0 dX5_pull_0 rfl rfl ?_
  refine j_iload_n C 1 dX5_pull_1 rfl rfl ?_
  refine j_callS (As := [.int (iI b)]) (rest := [.ref (u 0)]) C ys_X5_isBlock qw714 (c_X5_isBlock_t l g b (by omega)) (by decide) rfl dX5_pull_2 rfl (Nat.le_of_ble_eq_true rfl) (by decide) (pf1 [] [(u 0, .inr (5, [.ref (u 1), .ref (u 2), .ref (u 3), .int (iI ((sv : Int))), .ref (u 4), .int (iI ln), .int (iI th), .int (iI ap), .int (iI rm), .ref (u 5), .int (iI rd), .int (iI nw), .ref (u 6), .long (lI hh)])), (u 1, aL g 75 v), (u 2, aL g 300 pa)]) rfl (fun r9 w9 hq9 => ?_)
  obtain ⟨rfl, rfl⟩ := hq9
  refine J.to (L1 := [(0, .ref (u 0)), (1, .int (iI b)), (2, .int (iI f)), (3, .int (iI (b2i h)))]) (S1 := [.int (iI 1), .ref (u 0)]) (ws1 := [(u 0, .inr (5, [.ref (u 1), .ref (u 2), .ref (u 3), .int (iI ((sv : Int))), .ref (u 4), .int (iI ln), .int (iI th), .int (iI ap), .int (iI rm), .ref (u 5), .int (iI rd), .int (iI nw), .ref (u 6), .long (lI hh)])), (u 1, aL g 75 v), (u 2, aL g 300 pa)]) rfl rfl rfl ?_
  refine j_if_ne (tgt := 12) C (by decide) dX5_pull_5 (by decide) (fun c5 => ?_) (fun c5 => absurd c5 (by decide))
  refine j_iload_n C 2 dX5_pull_12 rfl rfl ?_
  refine j_callS (As := [.int (iI f)]) (rest := [.ref (u 0)]) C ys_X5_isForce qw786 (c_X5_isForce_t l g f (by omega)) (by decide) rfl dX5_pull_13 rfl (Nat.le_of_ble_eq_true rfl) (by decide) (pf1 [] [(u 0, .inr (5, [.ref (u 1), .ref (u 2), .ref (u 3), .int (iI ((sv : Int))), .ref (u 4), .int (iI ln), .int (iI th), .int (iI ap), .int (iI rm), .ref (u 5), .int (iI rd), .int (iI nw), .ref (u 6), .long (lI hh)])), (u 1, aL g 75 v), (u 2, aL g 300 pa)]) rfl (fun r9 w9 hq9 => ?_)
  obtain ⟨rfl, rfl⟩ := hq9
  refine J.to (L1 := [(0, .ref (u 0)), (1, .int (iI b)), (2, .int (iI f)), (3, .int (iI (b2i h)))]) (S1 := [.int (iI 1), .ref (u 0)]) (ws1 := [(u 0, .inr (5, [.ref (u 1), .ref (u 2), .ref (u 3), .int (iI ((sv : Int))), .ref (u 4), .int (iI ln), .int (iI th), .int (iI ap), .int (iI rm), .ref (u 5), .int (iI rd), .int (iI nw), .ref (u 6), .long (lI hh)])), (u 1, aL g 75 v), (u 2, aL g 300 pa)]) rfl rfl rfl ?_
  refine j_if_eq (tgt := 23) C (by decide) dX5_pull_16 (by decide) (fun c16 => absurd c16 (by decide)) (fun c16 => ?_)
  refine j_iconst C dX5_pull_19 ?_
  refine j_goto (tgt := 24) C dX5_pull_20 (by decide) ?_
  refine j_put (ws1 := [(u 0, .inr (5, [.ref (u 1), .ref (u 2), .ref (u 3), .int (iI ((sv : Int))), .ref (u 4), .int (iI ln), .int (iI 0), .int (iI ap), .int (iI rm), .ref (u 5), .int (iI rd), .int (iI nw), .ref (u 6), .long (lI hh)])), (u 1, aL g 75 v), (u 2, aL g 300 pa)]) C ck5 0 6 (by decide) qw668 rfl dX5_pull_24 rfl rfl rfl rfl (Nat.le_of_ble_eq_true rfl) ?_
  refine j_aload_n C 0 dX5_pull_27 rfl rfl ?_
  refine j_get C ck5 0 6 (by decide) qw668 rfl rfl dX5_pull_28 ?_
  refine j_if_ne (tgt := 44) C (by decide) dX5_pull_31 (by decide) (fun c31 => absurd c31 (by decide)) (fun c31 => ?_)
  refine j_aload_n C 0 dX5_pull_34 rfl rfl ?_
  refine j_iload_n C 1 dX5_pull_35 rfl rfl ?_
  refine j_iload_n C 2 dX5_pull_36 rfl rfl ?_
  refine j_iload_n C 3 dX5_pull_37 rfl rfl ?_
  refine j_callV (As := [.int (iI b), .int (iI f), .int (iI (b2i h))]) (rest := []) C yv_X5_pullOn qw805 (c_X5_pullOn l g u v ((sv : Int)) ln 0 ap rm rd nw hh b f h hm (by omega) (by omega)) (by decide) 0 rfl rfl rfl dX5_pull_38 rfl (Nat.le_of_ble_eq_true rfl) (by decide) (pf1 [] [(u 2, aL g 300 pa)]) rfl (fun r9 w9 hq9 => ?_)
  obtain ⟨rfl, rfl⟩ := hq9
  refine J.to (L1 := [(0, .ref (u 0)), (1, .int (iI b)), (2, .int (iI f)), (3, .int (iI (b2i h)))]) (S1 := [.long (lI (pulV v h b f))]) (ws1 := [(u 0, .inr (5, [.ref (u 1), .ref (u 2), .ref (u 3), .int (iI ((sv : Int))), .ref (u 4), .int (iI ln), .int (iI 0), .int (iI ap), .int (iI rm), .ref (u 5), .int (iI rd), .int (iI nw), .ref (u 6), .long (lI hh)])), (u 1, aL g 75 v), (u 2, aL g 300 pa)]) rfl rfl rfl ?_
  have hp38 := pulV_rng hm (h := h) (b := b) (t := f) (by omega)
  refine j_goto (tgt := 45) C dX5_pull_41 (by decide) ?_
  exact j_lret C hr hlk dX5_pull_45 ⟨rfl, rfl⟩ (by decide) (by decide)

theorem c_X5_pull_n1 (l : Launch) (g : Gh) (u : Nat → Nat) (v pa sd tx rr rq : Nat → Int) (sv : Nat) (ln th ap rm rd nw hh : Int) (b f : Int) (h : Bool) (hm : MOK v) (hsv : sv ≤ 4) (hrb : -2147483648 ≤ b ∧ b < 2147483648) (hrf : -2147483648 ≤ f ∧ f < 2147483648) (hb4 : b < 0 ∨ 3 < b) : CT l g yX5_pull cX5_pull 4 (some FieldType.long) ({ frames := 2, cells := 0, slots := 0, locals := 55 }) [.ref (u 0), .int (iI b), .int (iI f), .int (iI (b2i h))] [(u 0, .inr (5, [.ref (u 1), .ref (u 2), .ref (u 3), .int (iI ((sv : Int))), .ref (u 4), .int (iI ln), .int (iI th), .int (iI ap), .int (iI rm), .ref (u 5), .int (iI rd), .int (iI nw), .ref (u 6), .long (lI hh)])), (u 1, aL g 75 v), (u 2, aL g 300 pa)] (PE (some (.long (lI (0)))) [(u 0, .inr (5, [.ref (u 1), .ref (u 2), .ref (u 3), .int (iI ((sv : Int))), .ref (u 4), .int (iI ln), .int (iI 1), .int (iI ap), .int (iI rm), .ref (u 5), .int (iI rd), .int (iI nw), .ref (u 6), .long (lI hh)])), (u 1, aL g 75 v), (u 2, aL g 300 pa)]) := by
  refine CT.intro (L0 := [(0, .ref (u 0)), (1, .int (iI b)), (2, .int (iI f)), (3, .int (iI (b2i h)))]) (own := RX5) (by decide) rfl (Nat.le_of_ble_eq_true rfl) rfl ?_
  intro pX eX sX mX argsX belowX methX cX A C hr hlk
  obtain ⟨hP, hE0, hF, hrow0, hwt, hht, hlen, hent⟩ := id hm
  have hE : -10 ≤ v 3 ∧ v 3 ≤ 10 := by omega
  have hrow : ∀ i : Nat, (i : Int) < v 2 → 0 ≤ vR v i ∧ vR v i ≤ 4 := fun i hi => by have := hrow0 i hi; omega
  refine j_aload_n C 0 dX5_pull_0 rfl rfl ?_
  refine j_iload_n C 1 dX5_pull_1 rfl rfl ?_
  refine j_callS (As := [.int (iI b)]) (rest := [.ref (u 0)]) C ys_X5_isBlock qw714 (c_X5_isBlock_f l g b (by omega) (by omega)) (by decide) rfl dX5_pull_2 rfl (Nat.le_of_ble_eq_true rfl) (by decide) (pf1 [] [(u 0, .inr (5, [.ref (u 1), .ref (u 2), .ref (u 3), .int (iI ((sv : Int))), .ref (u 4), .int (iI ln), .int (iI th), .int (iI ap), .int (iI rm), .ref (u 5), .int (iI rd), .int (iI nw), .ref (u 6), .long (lI hh)])), (u 1, aL g 75 v), (u 2, aL g 300 pa)]) rfl (fun r9 w9 hq9 => ?_)
  obtain ⟨rfl, rfl⟩ := hq9
  refine J.to (L1 := [(0, .ref (u 0)), (1, .int (iI b)), (2, .int (iI f)), (3, .int (iI (b2i h)))]) (S1 := [.int (iI 0), .ref (u 0)]) (ws1 := [(u 0, .inr (5, [.ref (u 1), .ref (u 2), .ref (u 3), .int (iI ((sv : Int))), .ref (u 4), .int (iI ln), .int (iI th), .int (iI ap), .int (iI rm), .ref (u 5), .int (iI rd), .int (iI nw), .ref (u 6), .long (lI hh)])), (u 1, aL g 75 v), (u 2, aL g 300 pa)]) rfl rfl rfl ?_
  refine j_if_ne (tgt := 12) C (by decide) dX5_pull_5 (by decide) (fun c5 => absurd c5 (by decide)) (fun c5 => ?_)
  refine j_iconst C dX5_pull_8 ?_
  refine j_goto (tgt := 24) C dX5_pull_9 (by decide) ?_
  refine j_put (ws1 := [(u 0, .inr (5, [.ref (u 1), .ref (u 2), .ref (u 3), .int (iI ((sv : Int))), .ref (u 4), .int (iI ln), .int (iI 1), .int (iI ap), .int (iI rm), .ref (u 5), .int (iI rd), .int (iI nw), .ref (u 6), .long (lI hh)])), (u 1, aL g 75 v), (u 2, aL g 300 pa)]) C ck5 0 6 (by decide) qw668 rfl dX5_pull_24 rfl rfl rfl rfl (Nat.le_of_ble_eq_true rfl) ?_
  refine j_aload_n C 0 dX5_pull_27 rfl rfl ?_
  refine j_get C ck5 0 6 (by decide) qw668 rfl rfl dX5_pull_28 ?_
  refine j_if_ne (tgt := 44) C (by decide) dX5_pull_31 (by decide) (fun c31 => ?_) (fun c31 => absurd c31 (by decide))
  refine j_lconst (v := 0) C dX5_pull_44 rfl ?_
  exact j_lret C hr hlk dX5_pull_45 ⟨rfl, rfl⟩ (by decide) (by decide)

theorem c_X5_pull_n2 (l : Launch) (g : Gh) (u : Nat → Nat) (v pa sd tx rr rq : Nat → Int) (sv : Nat) (ln th ap rm rd nw hh : Int) (b f : Int) (h : Bool) (hm : MOK v) (hsv : sv ≤ 4) (hrb : -2147483648 ≤ b ∧ b < 2147483648) (hrf : -2147483648 ≤ f ∧ f < 2147483648) (hb4 : 0 ≤ b ∧ b ≤ 3) (hf : f < 0 ∨ 1000000 < f) : CT l g yX5_pull cX5_pull 4 (some FieldType.long) ({ frames := 2, cells := 0, slots := 0, locals := 55 }) [.ref (u 0), .int (iI b), .int (iI f), .int (iI (b2i h))] [(u 0, .inr (5, [.ref (u 1), .ref (u 2), .ref (u 3), .int (iI ((sv : Int))), .ref (u 4), .int (iI ln), .int (iI th), .int (iI ap), .int (iI rm), .ref (u 5), .int (iI rd), .int (iI nw), .ref (u 6), .long (lI hh)])), (u 1, aL g 75 v), (u 2, aL g 300 pa)] (PE (some (.long (lI (0)))) [(u 0, .inr (5, [.ref (u 1), .ref (u 2), .ref (u 3), .int (iI ((sv : Int))), .ref (u 4), .int (iI ln), .int (iI 2), .int (iI ap), .int (iI rm), .ref (u 5), .int (iI rd), .int (iI nw), .ref (u 6), .long (lI hh)])), (u 1, aL g 75 v), (u 2, aL g 300 pa)]) := by
  refine CT.intro (L0 := [(0, .ref (u 0)), (1, .int (iI b)), (2, .int (iI f)), (3, .int (iI (b2i h)))]) (own := RX5) (by decide) rfl (Nat.le_of_ble_eq_true rfl) rfl ?_
  intro pX eX sX mX argsX belowX methX cX A C hr hlk
  obtain ⟨hP, hE0, hF, hrow0, hwt, hht, hlen, hent⟩ := id hm
  have hE : -10 ≤ v 3 ∧ v 3 ≤ 10 := by omega
  have hrow : ∀ i : Nat, (i : Int) < v 2 → 0 ≤ vR v i ∧ vR v i ≤ 4 := fun i hi => by have := hrow0 i hi; omega
  refine j_aload_n C 0 dX5_pull_0 rfl rfl ?_
  refine j_iload_n C 1 dX5_pull_1 rfl rfl ?_
  refine j_callS (As := [.int (iI b)]) (rest := [.ref (u 0)]) C ys_X5_isBlock qw714 (c_X5_isBlock_t l g b (by omega)) (by decide) rfl dX5_pull_2 rfl (Nat.le_of_ble_eq_true rfl) (by decide) (pf1 [] [(u 0, .inr (5, [.ref (u 1), .ref (u 2), .ref (u 3), .int (iI ((sv : Int))), .ref (u 4), .int (iI ln), .int (iI th), .int (iI ap), .int (iI rm), .ref (u 5), .int (iI rd), .int (iI nw), .ref (u 6), .long (lI hh)])), (u 1, aL g 75 v), (u 2, aL g 300 pa)]) rfl (fun r9 w9 hq9 => ?_)
  obtain ⟨rfl, rfl⟩ := hq9
  refine J.to (L1 := [(0, .ref (u 0)), (1, .int (iI b)), (2, .int (iI f)), (3, .int (iI (b2i h)))]) (S1 := [.int (iI 1), .ref (u 0)]) (ws1 := [(u 0, .inr (5, [.ref (u 1), .ref (u 2), .ref (u 3), .int (iI ((sv : Int))), .ref (u 4), .int (iI ln), .int (iI th), .int (iI ap), .int (iI rm), .ref (u 5), .int (iI rd), .int (iI nw), .ref (u 6), .long (lI hh)])), (u 1, aL g 75 v), (u 2, aL g 300 pa)]) rfl rfl rfl ?_
  refine j_if_ne (tgt := 12) C (by decide) dX5_pull_5 (by decide) (fun c5 => ?_) (fun c5 => absurd c5 (by decide))
  refine j_iload_n C 2 dX5_pull_12 rfl rfl ?_
  refine j_callS (As := [.int (iI f)]) (rest := [.ref (u 0)]) C ys_X5_isForce qw786 (c_X5_isForce_f l g f (by omega) (by omega)) (by decide) rfl dX5_pull_13 rfl (Nat.le_of_ble_eq_true rfl) (by decide) (pf1 [] [(u 0, .inr (5, [.ref (u 1), .ref (u 2), .ref (u 3), .int (iI ((sv : Int))), .ref (u 4), .int (iI ln), .int (iI th), .int (iI ap), .int (iI rm), .ref (u 5), .int (iI rd), .int (iI nw), .ref (u 6), .long (lI hh)])), (u 1, aL g 75 v), (u 2, aL g 300 pa)]) rfl (fun r9 w9 hq9 => ?_)
  obtain ⟨rfl, rfl⟩ := hq9
  refine J.to (L1 := [(0, .ref (u 0)), (1, .int (iI b)), (2, .int (iI f)), (3, .int (iI (b2i h)))]) (S1 := [.int (iI 0), .ref (u 0)]) (ws1 := [(u 0, .inr (5, [.ref (u 1), .ref (u 2), .ref (u 3), .int (iI ((sv : Int))), .ref (u 4), .int (iI ln), .int (iI th), .int (iI ap), .int (iI rm), .ref (u 5), .int (iI rd), .int (iI nw), .ref (u 6), .long (lI hh)])), (u 1, aL g 75 v), (u 2, aL g 300 pa)]) rfl rfl rfl ?_
  refine j_if_eq (tgt := 23) C (by decide) dX5_pull_16 (by decide) (fun c16 => ?_) (fun c16 => absurd c16 (by decide))
  refine j_iconst C dX5_pull_23 ?_
  refine j_put (ws1 := [(u 0, .inr (5, [.ref (u 1), .ref (u 2), .ref (u 3), .int (iI ((sv : Int))), .ref (u 4), .int (iI ln), .int (iI 2), .int (iI ap), .int (iI rm), .ref (u 5), .int (iI rd), .int (iI nw), .ref (u 6), .long (lI hh)])), (u 1, aL g 75 v), (u 2, aL g 300 pa)]) C ck5 0 6 (by decide) qw668 rfl dX5_pull_24 rfl rfl rfl rfl (Nat.le_of_ble_eq_true rfl) ?_
  refine j_aload_n C 0 dX5_pull_27 rfl rfl ?_
  refine j_get C ck5 0 6 (by decide) qw668 rfl rfl dX5_pull_28 ?_
  refine j_if_ne (tgt := 44) C (by decide) dX5_pull_31 (by decide) (fun c31 => ?_) (fun c31 => absurd c31 (by decide))
  refine j_lconst (v := 0) C dX5_pull_44 rfl ?_
  exact j_lret C hr hlk dX5_pull_45 ⟨rfl, rfl⟩ (by decide) (by decide)

theorem c_X5_valueTold_0 (l : Launch) (g : Gh) (u : Nat → Nat) (v : Nat → Int) (sv ln th ap rm rd nw hh : Int) (hm : MOK v) : CT l g yX5_valueTold cX5_valueTold 2 (some FieldType.int) ({ frames := 4, cells := 0, slots := 0, locals := 86 }) [.ref (u 0), .int (iI 0)] [(u 0, .inr (5, [.ref (u 1), .ref (u 2), .ref (u 3), .int (iI sv), .ref (u 4), .int (iI ln), .int (iI th), .int (iI ap), .int (iI rm), .ref (u 5), .int (iI rd), .int (iI nw), .ref (u 6), .long (lI hh)])), (u 1, aL g 75 v)] (PE (some (.int (iI (v 0)))) [(u 0, .inr (5, [.ref (u 1), .ref (u 2), .ref (u 3), .int (iI sv), .ref (u 4), .int (iI ln), .int (iI th), .int (iI ap), .int (iI rm), .ref (u 5), .int (iI rd), .int (iI nw), .ref (u 6), .long (lI hh)])), (u 1, aL g 75 v)]) := by
  refine CT.intro (L0 := [(0, .ref (u 0)), (1, .int (iI 0))]) (own := RX5) (by decide) rfl (Nat.le_of_ble_eq_true rfl) rfl ?_
  intro pX eX sX mX argsX belowX methX cX A C hr hlk
  obtain ⟨hP, hE0, hF, hrow0, hwt, hht, hlen, hent⟩ := id hm
  have hE : -10 ≤ v 3 ∧ v 3 ≤ 10 := by omega
  have hrow : ∀ i : Nat, (i : Int) < v 2 → 0 ≤ vR v i ∧ vR v i ≤ 4 := fun i hi => by have := hrow0 i hi; omega
  refine j_iload_n C 1 dX5_valueTold_0 rfl rfl ?_
  refine j_tswIn (tgt := 52) C (by decide) dX5_valueTold_1 (by decide) rfl (by decide) ?_
  refine j_aload_n C 0 dX5_valueTold_52 rfl rfl ?_
  refine j_get C ck5 0 0 (by decide) qw662 rfl rfl dX5_valueTold_53 ?_
  refine j_iconst C dX5_valueTold_56 ?_
  refine j_lald (n := 75) (f := v) C 1 0 rfl rfl (by decide) (by decide) dX5_valueTold_57 ?_
  refine j_l2i C dX5_valueTold_58 ?_
  exact j_iret C hr hlk dX5_valueTold_59 ⟨rfl, rfl⟩ (by decide) (by decide)

theorem c_X5_valueTold_1 (l : Launch) (g : Gh) (u : Nat → Nat) (v : Nat → Int) (sv ln th ap rm rd nw hh : Int) (hm : MOK v) : CT l g yX5_valueTold cX5_valueTold 2 (some FieldType.int) ({ frames := 4, cells := 0, slots := 0, locals := 86 }) [.ref (u 0), .int (iI 1)] [(u 0, .inr (5, [.ref (u 1), .ref (u 2), .ref (u 3), .int (iI sv), .ref (u 4), .int (iI ln), .int (iI th), .int (iI ap), .int (iI rm), .ref (u 5), .int (iI rd), .int (iI nw), .ref (u 6), .long (lI hh)])), (u 1, aL g 75 v)] (PE (some (.int (iI (hndV v)))) [(u 0, .inr (5, [.ref (u 1), .ref (u 2), .ref (u 3), .int (iI sv), .ref (u 4), .int (iI ln), .int (iI th), .int (iI ap), .int (iI rm), .ref (u 5), .int (iI rd), .int (iI nw), .ref (u 6), .long (lI hh)])), (u 1, aL g 75 v)]) := by
  refine CT.intro (L0 := [(0, .ref (u 0)), (1, .int (iI 1))]) (own := RX5) (by decide) rfl (Nat.le_of_ble_eq_true rfl) rfl ?_
  intro pX eX sX mX argsX belowX methX cX A C hr hlk
  obtain ⟨hP, hE0, hF, hrow0, hwt, hht, hlen, hent⟩ := id hm
  have hE : -10 ≤ v 3 ∧ v 3 ≤ 10 := by omega
  have hrow : ∀ i : Nat, (i : Int) < v 2 → 0 ≤ vR v i ∧ vR v i ≤ 4 := fun i hi => by have := hrow0 i hi; omega
  refine j_iload_n C 1 dX5_valueTold_0 rfl rfl ?_
  refine j_tswIn (tgt := 60) C (by decide) dX5_valueTold_1 (by decide) rfl (by decide) ?_
  refine j_aload_n C 0 dX5_valueTold_60 rfl rfl ?_
  refine j_callV (As := []) (rest := []) C yv_X5_inHand qw760 (c_X5_inHand l g u v sv ln th ap rm rd nw hh  hm) (by decide) 0 rfl rfl rfl dX5_valueTold_61 rfl (Nat.le_of_ble_eq_true rfl) (by decide) pf0 rfl (fun r9 w9 hq9 => ?_)
  obtain ⟨rfl, rfl⟩ := hq9
  refine J.to (L1 := [(0, .ref (u 0)), (1, .int (iI 1))]) (S1 := [.int (iI (hndV v))]) (ws1 := [(u 0, .inr (5, [.ref (u 1), .ref (u 2), .ref (u 3), .int (iI sv), .ref (u 4), .int (iI ln), .int (iI th), .int (iI ap), .int (iI rm), .ref (u 5), .int (iI rd), .int (iI nw), .ref (u 6), .long (lI hh)])), (u 1, aL g 75 v)]) rfl rfl rfl ?_
  exact j_iret C hr hlk dX5_valueTold_64 ⟨rfl, rfl⟩ (by decide) (by decide)

theorem c_X5_valueTold_2 (l : Launch) (g : Gh) (u : Nat → Nat) (v : Nat → Int) (sv ln th ap rm rd nw hh : Int) (hm : MOK v) : CT l g yX5_valueTold cX5_valueTold 2 (some FieldType.int) ({ frames := 4, cells := 0, slots := 0, locals := 86 }) [.ref (u 0), .int (iI 2)] [(u 0, .inr (5, [.ref (u 1), .ref (u 2), .ref (u 3), .int (iI sv), .ref (u 4), .int (iI ln), .int (iI th), .int (iI ap), .int (iI rm), .ref (u 5), .int (iI rd), .int (iI nw), .ref (u 6), .long (lI hh)])), (u 1, aL g 75 v)] (PE (some (.int (iI (v 1)))) [(u 0, .inr (5, [.ref (u 1), .ref (u 2), .ref (u 3), .int (iI sv), .ref (u 4), .int (iI ln), .int (iI th), .int (iI ap), .int (iI rm), .ref (u 5), .int (iI rd), .int (iI nw), .ref (u 6), .long (lI hh)])), (u 1, aL g 75 v)]) := by
  refine CT.intro (L0 := [(0, .ref (u 0)), (1, .int (iI 2))]) (own := RX5) (by decide) rfl (Nat.le_of_ble_eq_true rfl) rfl ?_
  intro pX eX sX mX argsX belowX methX cX A C hr hlk
  obtain ⟨hP, hE0, hF, hrow0, hwt, hht, hlen, hent⟩ := id hm
  have hE : -10 ≤ v 3 ∧ v 3 ≤ 10 := by omega
  have hrow : ∀ i : Nat, (i : Int) < v 2 → 0 ≤ vR v i ∧ vR v i ≤ 4 := fun i hi => by have := hrow0 i hi; omega
  refine j_iload_n C 1 dX5_valueTold_0 rfl rfl ?_
  refine j_tswIn (tgt := 65) C (by decide) dX5_valueTold_1 (by decide) rfl (by decide) ?_
  refine j_aload_n C 0 dX5_valueTold_65 rfl rfl ?_
  refine j_get C ck5 0 0 (by decide) qw662 rfl rfl dX5_valueTold_66 ?_
  refine j_iconst C dX5_valueTold_69 ?_
  refine j_lald (n := 75) (f := v) C 1 1 rfl rfl (by decide) (by decide) dX5_valueTold_70 ?_
  refine j_l2i C dX5_valueTold_71 ?_
  exact j_iret C hr hlk dX5_valueTold_72 ⟨rfl, rfl⟩ (by decide) (by decide)

theorem c_X5_valueTold_3 (l : Launch) (g : Gh) (u : Nat → Nat) (v : Nat → Int) (sv ln th ap rm rd nw hh : Int) (hm : MOK v) : CT l g yX5_valueTold cX5_valueTold 2 (some FieldType.int) ({ frames := 4, cells := 0, slots := 0, locals := 86 }) [.ref (u 0), .int (iI 3)] [(u 0, .inr (5, [.ref (u 1), .ref (u 2), .ref (u 3), .int (iI sv), .ref (u 4), .int (iI ln), .int (iI th), .int (iI ap), .int (iI rm), .ref (u 5), .int (iI rd), .int (iI nw), .ref (u 6), .long (lI hh)])), (u 1, aL g 75 v)] (PE (some (.int (iI (v 2)))) [(u 0, .inr (5, [.ref (u 1), .ref (u 2), .ref (u 3), .int (iI sv), .ref (u 4), .int (iI ln), .int (iI th), .int (iI ap), .int (iI rm), .ref (u 5), .int (iI rd), .int (iI nw), .ref (u 6), .long (lI hh)])), (u 1, aL g 75 v)]) := by
  refine CT.intro (L0 := [(0, .ref (u 0)), (1, .int (iI 3))]) (own := RX5) (by decide) rfl (Nat.le_of_ble_eq_true rfl) rfl ?_
  intro pX eX sX mX argsX belowX methX cX A C hr hlk
  obtain ⟨hP, hE0, hF, hrow0, hwt, hht, hlen, hent⟩ := id hm
  have hE : -10 ≤ v 3 ∧ v 3 ≤ 10 := by omega
  have hrow : ∀ i : Nat, (i : Int) < v 2 → 0 ≤ vR v i ∧ vR v i ≤ 4 := fun i hi => by have := hrow0 i hi; omega
  refine j_iload_n C 1 dX5_valueTold_0 rfl rfl ?_
  refine j_tswIn (tgt := 73) C (by decide) dX5_valueTold_1 (by decide) rfl (by decide) ?_
  refine j_aload_n C 0 dX5_valueTold_73 rfl rfl ?_
  refine j_get C ck5 0 0 (by decide) qw662 rfl rfl dX5_valueTold_74 ?_
  refine j_iconst C dX5_valueTold_77 ?_
  refine j_lald (n := 75) (f := v) C 1 2 rfl rfl (by decide) (by decide) dX5_valueTold_78 ?_
  refine j_l2i C dX5_valueTold_79 ?_
  exact j_iret C hr hlk dX5_valueTold_80 ⟨rfl, rfl⟩ (by decide) (by decide)

theorem c_X5_valueTold_4 (l : Launch) (g : Gh) (u : Nat → Nat) (v : Nat → Int) (sv ln th ap rm rd nw hh : Int) (hm : MOK v) : CT l g yX5_valueTold cX5_valueTold 2 (some FieldType.int) ({ frames := 4, cells := 0, slots := 0, locals := 86 }) [.ref (u 0), .int (iI 4)] [(u 0, .inr (5, [.ref (u 1), .ref (u 2), .ref (u 3), .int (iI sv), .ref (u 4), .int (iI ln), .int (iI th), .int (iI ap), .int (iI rm), .ref (u 5), .int (iI rd), .int (iI nw), .ref (u 6), .long (lI hh)])), (u 1, aL g 75 v)] (PE (some (.int (iI (v 3)))) [(u 0, .inr (5, [.ref (u 1), .ref (u 2), .ref (u 3), .int (iI sv), .ref (u 4), .int (iI ln), .int (iI th), .int (iI ap), .int (iI rm), .ref (u 5), .int (iI rd), .int (iI nw), .ref (u 6), .long (lI hh)])), (u 1, aL g 75 v)]) := by
  refine CT.intro (L0 := [(0, .ref (u 0)), (1, .int (iI 4))]) (own := RX5) (by decide) rfl (Nat.le_of_ble_eq_true rfl) rfl ?_
  intro pX eX sX mX argsX belowX methX cX A C hr hlk
  obtain ⟨hP, hE0, hF, hrow0, hwt, hht, hlen, hent⟩ := id hm
  have hE : -10 ≤ v 3 ∧ v 3 ≤ 10 := by omega
  have hrow : ∀ i : Nat, (i : Int) < v 2 → 0 ≤ vR v i ∧ vR v i ≤ 4 := fun i hi => by have := hrow0 i hi; omega
  refine j_iload_n C 1 dX5_valueTold_0 rfl rfl ?_
  refine j_tswIn (tgt := 81) C (by decide) dX5_valueTold_1 (by decide) rfl (by decide) ?_
  refine j_aload_n C 0 dX5_valueTold_81 rfl rfl ?_
  refine j_get C ck5 0 0 (by decide) qw662 rfl rfl dX5_valueTold_82 ?_
  refine j_iconst C dX5_valueTold_85 ?_
  refine j_lald (n := 75) (f := v) C 1 3 rfl rfl (by decide) (by decide) dX5_valueTold_86 ?_
  refine j_l2i C dX5_valueTold_87 ?_
  exact j_iret C hr hlk dX5_valueTold_88 ⟨rfl, rfl⟩ (by decide) (by decide)

theorem c_X5_valueTold_5 (l : Launch) (g : Gh) (u : Nat → Nat) (v : Nat → Int) (sv ln th ap rm rd nw hh : Int) (hm : MOK v) : CT l g yX5_valueTold cX5_valueTold 2 (some FieldType.int) ({ frames := 4, cells := 0, slots := 0, locals := 86 }) [.ref (u 0), .int (iI 5)] [(u 0, .inr (5, [.ref (u 1), .ref (u 2), .ref (u 3), .int (iI sv), .ref (u 4), .int (iI ln), .int (iI th), .int (iI ap), .int (iI rm), .ref (u 5), .int (iI rd), .int (iI nw), .ref (u 6), .long (lI hh)])), (u 1, aL g 75 v)] (PE (some (.int (iI (passV v)))) [(u 0, .inr (5, [.ref (u 1), .ref (u 2), .ref (u 3), .int (iI sv), .ref (u 4), .int (iI ln), .int (iI th), .int (iI ap), .int (iI rm), .ref (u 5), .int (iI rd), .int (iI nw), .ref (u 6), .long (lI hh)])), (u 1, aL g 75 v)]) := by
  refine CT.intro (L0 := [(0, .ref (u 0)), (1, .int (iI 5))]) (own := RX5) (by decide) rfl (Nat.le_of_ble_eq_true rfl) rfl ?_
  intro pX eX sX mX argsX belowX methX cX A C hr hlk
  obtain ⟨hP, hE0, hF, hrow0, hwt, hht, hlen, hent⟩ := id hm
  have hE : -10 ≤ v 3 ∧ v 3 ≤ 10 := by omega
  have hrow : ∀ i : Nat, (i : Int) < v 2 → 0 ≤ vR v i ∧ vR v i ≤ 4 := fun i hi => by have := hrow0 i hi; omega
  refine j_iload_n C 1 dX5_valueTold_0 rfl rfl ?_
  refine j_tswIn (tgt := 89) C (by decide) dX5_valueTold_1 (by decide) rfl (by decide) ?_
  refine j_aload_n C 0 dX5_valueTold_89 rfl rfl ?_
  refine j_callV (As := []) (rest := []) C yv_X5_passes qw848 (c_X5_passes l g u v sv ln th ap rm rd nw hh  hm) (by decide) 0 rfl rfl rfl dX5_valueTold_90 rfl (Nat.le_of_ble_eq_true rfl) (by decide) pf0 rfl (fun r9 w9 hq9 => ?_)
  obtain ⟨rfl, rfl⟩ := hq9
  refine J.to (L1 := [(0, .ref (u 0)), (1, .int (iI 5))]) (S1 := [.int (iI (passV v))]) (ws1 := [(u 0, .inr (5, [.ref (u 1), .ref (u 2), .ref (u 3), .int (iI sv), .ref (u 4), .int (iI ln), .int (iI th), .int (iI ap), .int (iI rm), .ref (u 5), .int (iI rd), .int (iI nw), .ref (u 6), .long (lI hh)])), (u 1, aL g 75 v)]) rfl rfl rfl ?_
  exact j_iret C hr hlk dX5_valueTold_93 ⟨rfl, rfl⟩ (by decide) (by decide)

theorem c_X5_valueTold_6 (l : Launch) (g : Gh) (u : Nat → Nat) (v : Nat → Int) (sv ln th ap rm rd nw hh : Int) (hm : MOK v) : CT l g yX5_valueTold cX5_valueTold 2 (some FieldType.int) ({ frames := 4, cells := 0, slots := 0, locals := 86 }) [.ref (u 0), .int (iI 6)] [(u 0, .inr (5, [.ref (u 1), .ref (u 2), .ref (u 3), .int (iI sv), .ref (u 4), .int (iI ln), .int (iI th), .int (iI ap), .int (iI rm), .ref (u 5), .int (iI rd), .int (iI nw), .ref (u 6), .long (lI hh)])), (u 1, aL g 75 v)] (PE (some (.int (iI (hanV v)))) [(u 0, .inr (5, [.ref (u 1), .ref (u 2), .ref (u 3), .int (iI sv), .ref (u 4), .int (iI ln), .int (iI th), .int (iI ap), .int (iI rm), .ref (u 5), .int (iI rd), .int (iI nw), .ref (u 6), .long (lI hh)])), (u 1, aL g 75 v)]) := by
  refine CT.intro (L0 := [(0, .ref (u 0)), (1, .int (iI 6))]) (own := RX5) (by decide) rfl (Nat.le_of_ble_eq_true rfl) rfl ?_
  intro pX eX sX mX argsX belowX methX cX A C hr hlk
  obtain ⟨hP, hE0, hF, hrow0, hwt, hht, hlen, hent⟩ := id hm
  have hE : -10 ≤ v 3 ∧ v 3 ≤ 10 := by omega
  have hrow : ∀ i : Nat, (i : Int) < v 2 → 0 ≤ vR v i ∧ vR v i ≤ 4 := fun i hi => by have := hrow0 i hi; omega
  refine j_iload_n C 1 dX5_valueTold_0 rfl rfl ?_
  refine j_tswIn (tgt := 94) C (by decide) dX5_valueTold_1 (by decide) rfl (by decide) ?_
  refine j_aload_n C 0 dX5_valueTold_94 rfl rfl ?_
  refine j_callV (As := []) (rest := []) C yv_X5_hanging qw748 (c_X5_hanging l g u v sv ln th ap rm rd nw hh  hm) (by decide) 0 rfl rfl rfl dX5_valueTold_95 rfl (Nat.le_of_ble_eq_true rfl) (by decide) pf0 rfl (fun r9 w9 hq9 => ?_)
  obtain ⟨rfl, rfl⟩ := hq9
  refine J.to (L1 := [(0, .ref (u 0)), (1, .int (iI 6))]) (S1 := [.int (iI (hanV v))]) (ws1 := [(u 0, .inr (5, [.ref (u 1), .ref (u 2), .ref (u 3), .int (iI sv), .ref (u 4), .int (iI ln), .int (iI th), .int (iI ap), .int (iI rm), .ref (u 5), .int (iI rd), .int (iI nw), .ref (u 6), .long (lI hh)])), (u 1, aL g 75 v)]) rfl rfl rfl ?_
  exact j_iret C hr hlk dX5_valueTold_98 ⟨rfl, rfl⟩ (by decide) (by decide)

theorem c_X5_valueTold_7 (l : Launch) (g : Gh) (u : Nat → Nat) (v : Nat → Int) (sv ln th ap rm rd nw hh : Int) (hm : MOK v) : CT l g yX5_valueTold cX5_valueTold 2 (some FieldType.int) ({ frames := 4, cells := 0, slots := 0, locals := 86 }) [.ref (u 0), .int (iI 7)] [(u 0, .inr (5, [.ref (u 1), .ref (u 2), .ref (u 3), .int (iI sv), .ref (u 4), .int (iI ln), .int (iI th), .int (iI ap), .int (iI rm), .ref (u 5), .int (iI rd), .int (iI nw), .ref (u 6), .long (lI hh)])), (u 1, aL g 75 v)] (PE (some (.int (iI (v 4)))) [(u 0, .inr (5, [.ref (u 1), .ref (u 2), .ref (u 3), .int (iI sv), .ref (u 4), .int (iI ln), .int (iI th), .int (iI ap), .int (iI rm), .ref (u 5), .int (iI rd), .int (iI nw), .ref (u 6), .long (lI hh)])), (u 1, aL g 75 v)]) := by
  refine CT.intro (L0 := [(0, .ref (u 0)), (1, .int (iI 7))]) (own := RX5) (by decide) rfl (Nat.le_of_ble_eq_true rfl) rfl ?_
  intro pX eX sX mX argsX belowX methX cX A C hr hlk
  obtain ⟨hP, hE0, hF, hrow0, hwt, hht, hlen, hent⟩ := id hm
  have hE : -10 ≤ v 3 ∧ v 3 ≤ 10 := by omega
  have hrow : ∀ i : Nat, (i : Int) < v 2 → 0 ≤ vR v i ∧ vR v i ≤ 4 := fun i hi => by have := hrow0 i hi; omega
  refine j_iload_n C 1 dX5_valueTold_0 rfl rfl ?_
  refine j_tswIn (tgt := 99) C (by decide) dX5_valueTold_1 (by decide) rfl (by decide) ?_
  refine j_aload_n C 0 dX5_valueTold_99 rfl rfl ?_
  refine j_get C ck5 0 0 (by decide) qw662 rfl rfl dX5_valueTold_100 ?_
  refine j_iconst C dX5_valueTold_103 ?_
  refine j_lald (n := 75) (f := v) C 1 4 rfl rfl (by decide) (by decide) dX5_valueTold_104 ?_
  refine j_l2i C dX5_valueTold_105 ?_
  exact j_iret C hr hlk dX5_valueTold_106 ⟨rfl, rfl⟩ (by decide) (by decide)

theorem c_X5_valueTold_8 (l : Launch) (g : Gh) (u : Nat → Nat) (v : Nat → Int) (sv ln th ap rm rd nw hh : Int) (hm : MOK v) : CT l g yX5_valueTold cX5_valueTold 2 (some FieldType.int) ({ frames := 4, cells := 0, slots := 0, locals := 86 }) [.ref (u 0), .int (iI 8)] [(u 0, .inr (5, [.ref (u 1), .ref (u 2), .ref (u 3), .int (iI sv), .ref (u 4), .int (iI ln), .int (iI th), .int (iI ap), .int (iI rm), .ref (u 5), .int (iI rd), .int (iI nw), .ref (u 6), .long (lI hh)])), (u 1, aL g 75 v)] (PE (some (.int (iI (v 5)))) [(u 0, .inr (5, [.ref (u 1), .ref (u 2), .ref (u 3), .int (iI sv), .ref (u 4), .int (iI ln), .int (iI th), .int (iI ap), .int (iI rm), .ref (u 5), .int (iI rd), .int (iI nw), .ref (u 6), .long (lI hh)])), (u 1, aL g 75 v)]) := by
  refine CT.intro (L0 := [(0, .ref (u 0)), (1, .int (iI 8))]) (own := RX5) (by decide) rfl (Nat.le_of_ble_eq_true rfl) rfl ?_
  intro pX eX sX mX argsX belowX methX cX A C hr hlk
  obtain ⟨hP, hE0, hF, hrow0, hwt, hht, hlen, hent⟩ := id hm
  have hE : -10 ≤ v 3 ∧ v 3 ≤ 10 := by omega
  have hrow : ∀ i : Nat, (i : Int) < v 2 → 0 ≤ vR v i ∧ vR v i ≤ 4 := fun i hi => by have := hrow0 i hi; omega
  refine j_iload_n C 1 dX5_valueTold_0 rfl rfl ?_
  refine j_tswIn (tgt := 107) C (by decide) dX5_valueTold_1 (by decide) rfl (by decide) ?_
  refine j_aload_n C 0 dX5_valueTold_107 rfl rfl ?_
  refine j_get C ck5 0 0 (by decide) qw662 rfl rfl dX5_valueTold_108 ?_
  refine j_iconst C dX5_valueTold_111 ?_
  refine j_lald (n := 75) (f := v) C 1 5 rfl rfl (by decide) (by decide) dX5_valueTold_112 ?_
  refine j_l2i C dX5_valueTold_113 ?_
  exact j_iret C hr hlk dX5_valueTold_114 ⟨rfl, rfl⟩ (by decide) (by decide)

theorem c_X5_valueTold_9 (l : Launch) (g : Gh) (u : Nat → Nat) (v : Nat → Int) (sv ln th ap rm rd nw hh : Int) (hm : MOK v) : CT l g yX5_valueTold cX5_valueTold 2 (some FieldType.int) ({ frames := 4, cells := 0, slots := 0, locals := 86 }) [.ref (u 0), .int (iI 9)] [(u 0, .inr (5, [.ref (u 1), .ref (u 2), .ref (u 3), .int (iI sv), .ref (u 4), .int (iI ln), .int (iI th), .int (iI ap), .int (iI rm), .ref (u 5), .int (iI rd), .int (iI nw), .ref (u 6), .long (lI hh)])), (u 1, aL g 75 v)] (PE (some (.int (iI (v 6)))) [(u 0, .inr (5, [.ref (u 1), .ref (u 2), .ref (u 3), .int (iI sv), .ref (u 4), .int (iI ln), .int (iI th), .int (iI ap), .int (iI rm), .ref (u 5), .int (iI rd), .int (iI nw), .ref (u 6), .long (lI hh)])), (u 1, aL g 75 v)]) := by
  refine CT.intro (L0 := [(0, .ref (u 0)), (1, .int (iI 9))]) (own := RX5) (by decide) rfl (Nat.le_of_ble_eq_true rfl) rfl ?_
  intro pX eX sX mX argsX belowX methX cX A C hr hlk
  obtain ⟨hP, hE0, hF, hrow0, hwt, hht, hlen, hent⟩ := id hm
  have hE : -10 ≤ v 3 ∧ v 3 ≤ 10 := by omega
  have hrow : ∀ i : Nat, (i : Int) < v 2 → 0 ≤ vR v i ∧ vR v i ≤ 4 := fun i hi => by have := hrow0 i hi; omega
  refine j_iload_n C 1 dX5_valueTold_0 rfl rfl ?_
  refine j_tswOut (tgt := 115) C (by decide) dX5_valueTold_1 (by omega) (by decide) ?_
  refine j_aload_n C 0 dX5_valueTold_115 rfl rfl ?_
  refine j_get C ck5 0 0 (by decide) qw662 rfl rfl dX5_valueTold_116 ?_
  refine j_bipush C dX5_valueTold_119 (by decide) ?_
  refine j_lald (n := 75) (f := v) C 1 6 rfl rfl (by decide) (by decide) dX5_valueTold_121 ?_
  refine j_l2i C dX5_valueTold_122 ?_
  exact j_iret C hr hlk dX5_valueTold_123 ⟨rfl, rfl⟩ (by decide) (by decide)

theorem c_X5_valueTold (l : Launch) (g : Gh) (u : Nat → Nat) (v : Nat → Int) (sv ln th ap rm rd nw hh : Int) (w : Int) (hm : MOK v) (hw : 0 ≤ w ∧ w ≤ 9) : CT l g yX5_valueTold cX5_valueTold 2 (some FieldType.int) ({ frames := 4, cells := 0, slots := 0, locals := 86 }) [.ref (u 0), .int (iI w)] (wMo g u v sv ln th ap rm rd nw hh) (PE (some (.int (iI (valF (kV v) w)))) (wMo g u v sv ln th ap rm rd nw hh)) := by
  rcases (by omega : w = 0 ∨ w = 1 ∨ w = 2 ∨ w = 3 ∨ w = 4 ∨ w = 5 ∨ w = 6 ∨ w = 7 ∨ w = 8 ∨ w = 9) with rfl | rfl | rfl | rfl | rfl | rfl | rfl | rfl | rfl | rfl
  · exact c_X5_valueTold_0 l g u v sv ln th ap rm rd nw hh hm
  · exact c_X5_valueTold_1 l g u v sv ln th ap rm rd nw hh hm
  · exact c_X5_valueTold_2 l g u v sv ln th ap rm rd nw hh hm
  · exact c_X5_valueTold_3 l g u v sv ln th ap rm rd nw hh hm
  · exact c_X5_valueTold_4 l g u v sv ln th ap rm rd nw hh hm
  · exact c_X5_valueTold_5 l g u v sv ln th ap rm rd nw hh hm
  · exact c_X5_valueTold_6 l g u v sv ln th ap rm rd nw hh hm
  · exact c_X5_valueTold_7 l g u v sv ln th ap rm rd nw hh hm
  · exact c_X5_valueTold_8 l g u v sv ln th ap rm rd nw hh hm
  · exact c_X5_valueTold_9 l g u v sv ln th ap rm rd nw hh hm
theorem c_X5_value_ok (l : Launch) (g : Gh) (u : Nat → Nat) (v pa sd tx rr rq : Nat → Int) (sv : Nat) (ln th ap rm rd nw hh : Int) (w : Int) (hm : MOK v) (hsv : sv ≤ 4) (hw : 0 ≤ w ∧ w ≤ 9) : CT l g yX5_value cX5_value 2 (some FieldType.int) ({ frames := 5, cells := 0, slots := 0, locals := 107 }) [.ref (u 0), .int (iI w)] [(u 0, .inr (5, [.ref (u 1), .ref (u 2), .ref (u 3), .int (iI ((sv : Int))), .ref (u 4), .int (iI ln), .int (iI th), .int (iI ap), .int (iI rm), .ref (u 5), .int (iI rd), .int (iI nw), .ref (u 6), .long (lI hh)])), (u 1, aL g 75 v), (u 2, aL g 300 pa)] (PE (some (.int (iI (valF (kV v) w)))) [(u 0, .inr (5, [.ref (u 1), .ref (u 2), .ref (u 3), .int (iI ((sv : Int))), .ref (u 4), .int (iI ln), .int (iI 0), .int (iI ap), .int (iI rm), .ref (u 5), .int (iI rd), .int (iI nw), .ref (u 6), .long (lI hh)])), (u 1, aL g 75 v), (u 2, aL g 300 pa)]) := by
  refine CT.intro (L0 := [(0, .ref (u 0)), (1, .int (iI w))]) (own := RX5) (by decide) rfl (Nat.le_of_ble_eq_true rfl) rfl ?_
  intro pX eX sX mX argsX belowX methX cX A C hr hlk
  obtain ⟨hP, hE0, hF, hrow0, hwt, hht, hlen, hent⟩ := id hm
  have hE : -10 ≤ v 3 ∧ v 3 ≤ 10 := by omega
  have hrow : ∀ i : Nat, (i : Int) < v 2 → 0 ≤ vR v i ∧ vR v i ≤ 4 := fun i hi => by have := hrow0 i hi; omega
  refine j_iload_n C 1 dX5_value_0 rfl rfl ?_
  refine j_i2l C (by omega) dX5_value_1 ?_
  refine j_lconst (v := 0) C dX5_value_2 rfl ?_
  refine j_ldc2 (x := 9) C qw864 (by decide) dX5_value_3 ?_
  refine j_callS (As := [.long (lI w), .long (lI 0), .long (lI 9)]) (rest := []) C ys_X5_in qw718 (c_X5_in_t l g w 0 9 (by omega) (by omega) (by omega) (by omega)) (by decide) rfl dX5_value_6 rfl (Nat.le_of_ble_eq_true rfl) (by decide) (pf1 [] [(u 0, .inr (5, [.ref (u 1), .ref (u 2), .ref (u 3), .int (iI ((sv : Int))), .ref (u 4), .int (iI ln), .int (iI th), .int (iI ap), .int (iI rm), .ref (u 5), .int (iI rd), .int (iI nw), .ref (u 6), .long (lI hh)])), (u 1, aL g 75 v), (u 2, aL g 300 pa)]) rfl (fun r9 w9 hq9 => ?_)
  obtain ⟨rfl, rfl⟩ := hq9
  refine J.to (L1 := [(0, .ref (u 0)), (1, .int (iI w))]) (S1 := [.int (iI 1)]) (ws1 := [(u 0, .inr (5, [.ref (u 1), .ref (u 2), .ref (u 3), .int (iI ((sv : Int))), .ref (u 4), .int (iI ln), .int (iI th), .int (iI ap), .int (iI rm), .ref (u 5), .int (iI rd), .int (iI nw), .ref (u 6), .long (lI hh)])), (u 1, aL g 75 v), (u 2, aL g 300 pa)]) rfl rfl rfl ?_
  refine j_if_eq (tgt := 24) C (by decide) dX5_value_9 (by decide) (fun c9 => absurd c9 (by decide)) (fun c9 => ?_)
  refine j_aload_n C 0 dX5_value_12 rfl rfl ?_
  refine j_aload_n C 0 dX5_value_13 rfl rfl ?_
  refine j_iload_n C 1 dX5_value_14 rfl rfl ?_
  refine j_callV (As := [.int (iI w)]) (rest := [.ref (u 0)]) C yv_X5_valueTold qw865 (c_X5_valueTold l g u v ((sv : Int)) ln th ap rm rd nw hh w hm (by omega)) (by decide) 0 rfl rfl rfl dX5_value_15 rfl (Nat.le_of_ble_eq_true rfl) (by decide) (pf1 [] [(u 2, aL g 300 pa)]) rfl (fun r9 w9 hq9 => ?_)
  obtain ⟨rfl, rfl⟩ := hq9
  refine J.to (L1 := [(0, .ref (u 0)), (1, .int (iI w))]) (S1 := [.int (iI (valF (kV v) w)), .ref (u 0)]) (ws1 := [(u 0, .inr (5, [.ref (u 1), .ref (u 2), .ref (u 3), .int (iI ((sv : Int))), .ref (u 4), .int (iI ln), .int (iI th), .int (iI ap), .int (iI rm), .ref (u 5), .int (iI rd), .int (iI nw), .ref (u 6), .long (lI hh)])), (u 1, aL g 75 v), (u 2, aL g 300 pa)]) rfl rfl rfl ?_
  refine j_callV (As := [.int (iI (valF (kV v) w))]) (rest := []) C yv_X5_tells qw734 (c_X5_tells l g u v ((sv : Int)) ln th ap rm rd nw hh (valF (kV v) w)) (by decide) 0 rfl rfl rfl dX5_value_18 rfl (Nat.le_of_ble_eq_true rfl) (by decide) (pf1 [] [(u 1, aL g 75 v), (u 2, aL g 300 pa)]) rfl (fun r9 w9 hq9 => ?_)
  obtain ⟨rfl, rfl⟩ := hq9
  refine J.to (L1 := [(0, .ref (u 0)), (1, .int (iI w))]) (S1 := [.int (iI (valF (kV v) w))]) (ws1 := [(u 0, .inr (5, [.ref (u 1), .ref (u 2), .ref (u 3), .int (iI ((sv : Int))), .ref (u 4), .int (iI ln), .int (iI 0), .int (iI ap), .int (iI rm), .ref (u 5), .int (iI rd), .int (iI nw), .ref (u 6), .long (lI hh)])), (u 1, aL g 75 v), (u 2, aL g 300 pa)]) rfl rfl rfl ?_
  refine j_goto (tgt := 29) C dX5_value_21 (by decide) ?_
  exact j_iret C hr hlk dX5_value_29 ⟨rfl, rfl⟩ (by decide) (by decide)

theorem c_X5_value_n1 (l : Launch) (g : Gh) (u : Nat → Nat) (v pa sd tx rr rq : Nat → Int) (sv : Nat) (ln th ap rm rd nw hh : Int) (w : Int) (hm : MOK v) (hsv : sv ≤ 4) (hrw : -2147483648 ≤ w ∧ w < 2147483648) (hw : w < 0 ∨ 9 < w) : CT l g yX5_value cX5_value 2 (some FieldType.int) ({ frames := 5, cells := 0, slots := 0, locals := 107 }) [.ref (u 0), .int (iI w)] [(u 0, .inr (5, [.ref (u 1), .ref (u 2), .ref (u 3), .int (iI ((sv : Int))), .ref (u 4), .int (iI ln), .int (iI th), .int (iI ap), .int (iI rm), .ref (u 5), .int (iI rd), .int (iI nw), .ref (u 6), .long (lI hh)])), (u 1, aL g 75 v), (u 2, aL g 300 pa)] (PE (some (.int (iI 0))) [(u 0, .inr (5, [.ref (u 1), .ref (u 2), .ref (u 3), .int (iI ((sv : Int))), .ref (u 4), .int (iI ln), .int (iI 1), .int (iI ap), .int (iI rm), .ref (u 5), .int (iI rd), .int (iI nw), .ref (u 6), .long (lI hh)])), (u 1, aL g 75 v), (u 2, aL g 300 pa)]) := by
  refine CT.intro (L0 := [(0, .ref (u 0)), (1, .int (iI w))]) (own := RX5) (by decide) rfl (Nat.le_of_ble_eq_true rfl) rfl ?_
  intro pX eX sX mX argsX belowX methX cX A C hr hlk
  obtain ⟨hP, hE0, hF, hrow0, hwt, hht, hlen, hent⟩ := id hm
  have hE : -10 ≤ v 3 ∧ v 3 ≤ 10 := by omega
  have hrow : ∀ i : Nat, (i : Int) < v 2 → 0 ≤ vR v i ∧ vR v i ≤ 4 := fun i hi => by have := hrow0 i hi; omega
  refine j_iload_n C 1 dX5_value_0 rfl rfl ?_
  refine j_i2l C (by omega) dX5_value_1 ?_
  refine j_lconst (v := 0) C dX5_value_2 rfl ?_
  refine j_ldc2 (x := 9) C qw864 (by decide) dX5_value_3 ?_
  refine j_callS (As := [.long (lI w), .long (lI 0), .long (lI 9)]) (rest := []) C ys_X5_in qw718 (c_X5_in_f l g w 0 9 (by omega) (by omega) (by omega) (by omega)) (by decide) rfl dX5_value_6 rfl (Nat.le_of_ble_eq_true rfl) (by decide) (pf1 [] [(u 0, .inr (5, [.ref (u 1), .ref (u 2), .ref (u 3), .int (iI ((sv : Int))), .ref (u 4), .int (iI ln), .int (iI th), .int (iI ap), .int (iI rm), .ref (u 5), .int (iI rd), .int (iI nw), .ref (u 6), .long (lI hh)])), (u 1, aL g 75 v), (u 2, aL g 300 pa)]) rfl (fun r9 w9 hq9 => ?_)
  obtain ⟨rfl, rfl⟩ := hq9
  refine J.to (L1 := [(0, .ref (u 0)), (1, .int (iI w))]) (S1 := [.int (iI 0)]) (ws1 := [(u 0, .inr (5, [.ref (u 1), .ref (u 2), .ref (u 3), .int (iI ((sv : Int))), .ref (u 4), .int (iI ln), .int (iI th), .int (iI ap), .int (iI rm), .ref (u 5), .int (iI rd), .int (iI nw), .ref (u 6), .long (lI hh)])), (u 1, aL g 75 v), (u 2, aL g 300 pa)]) rfl rfl rfl ?_
  refine j_if_eq (tgt := 24) C (by decide) dX5_value_9 (by decide) (fun c9 => ?_) (fun c9 => absurd c9 (by decide))
  refine j_aload_n C 0 dX5_value_24 rfl rfl ?_
  refine j_iconst C dX5_value_25 ?_
  refine j_callV (As := [.int (iI 1)]) (rest := []) C yv_X5_fails qw721 (c_X5_fails l g u v ((sv : Int)) ln th ap rm rd nw hh 1) (by decide) 0 rfl rfl rfl dX5_value_26 rfl (Nat.le_of_ble_eq_true rfl) (by decide) (pf1 [] [(u 1, aL g 75 v), (u 2, aL g 300 pa)]) rfl (fun r9 w9 hq9 => ?_)
  obtain ⟨rfl, rfl⟩ := hq9
  refine J.to (L1 := [(0, .ref (u 0)), (1, .int (iI w))]) (S1 := [.int (iI 0)]) (ws1 := [(u 0, .inr (5, [.ref (u 1), .ref (u 2), .ref (u 3), .int (iI ((sv : Int))), .ref (u 4), .int (iI ln), .int (iI 1), .int (iI ap), .int (iI rm), .ref (u 5), .int (iI rd), .int (iI nw), .ref (u 6), .long (lI hh)])), (u 1, aL g 75 v), (u 2, aL g 300 pa)]) rfl rfl rfl ?_
  exact j_iret C hr hlk dX5_value_29 ⟨rfl, rfl⟩ (by decide) (by decide)

theorem c_X5_work (l : Launch) (g : Gh) (u : Nat → Nat) (v pa sd tx rr rq : Nat → Int) (sv : Nat) (ln th ap rm rd nw hh : Int) (h : Bool) (hm : MOK v) (hsv : sv ≤ 4)  : CT l g yX5_work cX5_work 2 (some FieldType.long) ({ frames := 0, cells := 0, slots := 0, locals := 0 }) [.ref (u 0), .int (iI (b2i h))] [(u 0, .inr (5, [.ref (u 1), .ref (u 2), .ref (u 3), .int (iI ((sv : Int))), .ref (u 4), .int (iI ln), .int (iI th), .int (iI ap), .int (iI rm), .ref (u 5), .int (iI rd), .int (iI nw), .ref (u 6), .long (lI hh)])), (u 1, aL g 75 v), (u 2, aL g 300 pa)] (PE (some (.long (lI (if h then v 8 else v 7)))) [(u 0, .inr (5, [.ref (u 1), .ref (u 2), .ref (u 3), .int (iI ((sv : Int))), .ref (u 4), .int (iI ln), .int (iI 0), .int (iI ap), .int (iI rm), .ref (u 5), .int (iI rd), .int (iI nw), .ref (u 6), .long (lI hh)])), (u 1, aL g 75 v), (u 2, aL g 300 pa)]) := by
  refine CT.intro (L0 := [(0, .ref (u 0)), (1, .int (iI (b2i h)))]) (own := RX5) (by decide) rfl (Nat.le_of_ble_eq_true rfl) rfl ?_
  intro pX eX sX mX argsX belowX methX cX A C hr hlk
  obtain ⟨hP, hE0, hF, hrow0, hwt, hht, hlen, hent⟩ := id hm
  have hE : -10 ≤ v 3 ∧ v 3 ≤ 10 := by omega
  have hrow : ∀ i : Nat, (i : Int) < v 2 → 0 ≤ vR v i ∧ vR v i ≤ 4 := fun i hi => by have := hrow0 i hi; omega
  have hh9 := b2i_rng h
  refine j_aload_n C 0 dX5_work_0 rfl rfl ?_
  refine j_iconst C dX5_work_1 ?_
  refine j_put (ws1 := [(u 0, .inr (5, [.ref (u 1), .ref (u 2), .ref (u 3), .int (iI ((sv : Int))), .ref (u 4), .int (iI ln), .int (iI 0), .int (iI ap), .int (iI rm), .ref (u 5), .int (iI rd), .int (iI nw), .ref (u 6), .long (lI hh)])), (u 1, aL g 75 v), (u 2, aL g 300 pa)]) C ck5 0 6 (by decide) qw668 rfl dX5_work_2 rfl rfl rfl rfl (Nat.le_of_ble_eq_true rfl) ?_
  refine j_aload_n C 0 dX5_work_5 rfl rfl ?_
  refine j_get C ck5 0 0 (by decide) qw662 rfl rfl dX5_work_6 ?_
  refine j_iload_n C 1 dX5_work_9 rfl rfl ?_
  refine j_if_eq (tgt := 18) C (by omega) dX5_work_10 (by decide) (fun c10 => ?_) (fun c10 => ?_)
  · refine j_bipush C dX5_work_18 (by decide) ?_
    refine j_lald (n := 75) (f := v) C 1 7 rfl rfl (by decide) (by decide) dX5_work_20 ?_
    exact j_lret C hr hlk dX5_work_21 ⟨by rw [b2i_0 c10]; rfl, rfl⟩ (by decide) (by decide)
  · refine j_bipush C dX5_work_13 (by decide) ?_
    refine j_goto (tgt := 20) C dX5_work_15 (by decide) ?_
    refine j_lald (n := 75) (f := v) C 1 8 rfl rfl (by decide) (by decide) dX5_work_20 ?_
    exact j_lret C hr hlk dX5_work_21 ⟨by rw [b2i_1 c10]; rfl, rfl⟩ (by decide) (by decide)

theorem c_X5_entry_ok (l : Launch) (g : Gh) (u : Nat → Nat) (v pa sd tx rr rq : Nat → Int) (sv : Nat) (ln th ap rm rd nw hh : Int) (x w : Int) (hm : MOK v) (hsv : sv ≤ 4) (hi : 0 ≤ x ∧ x < v 6) (hw : 0 ≤ w ∧ w ≤ 2) : CT l g yX5_entry cX5_entry 3 (some FieldType.int) ({ frames := 1, cells := 0, slots := 0, locals := 25 }) [.ref (u 0), .int (iI x), .int (iI w)] [(u 0, .inr (5, [.ref (u 1), .ref (u 2), .ref (u 3), .int (iI ((sv : Int))), .ref (u 4), .int (iI ln), .int (iI th), .int (iI ap), .int (iI rm), .ref (u 5), .int (iI rd), .int (iI nw), .ref (u 6), .long (lI hh)])), (u 1, aL g 75 v), (u 2, aL g 300 pa)] (PE (some (.int (iI (vL v (3 * x.toNat + w.toNat))))) [(u 0, .inr (5, [.ref (u 1), .ref (u 2), .ref (u 3), .int (iI ((sv : Int))), .ref (u 4), .int (iI ln), .int (iI 0), .int (iI ap), .int (iI rm), .ref (u 5), .int (iI rd), .int (iI nw), .ref (u 6), .long (lI hh)])), (u 1, aL g 75 v), (u 2, aL g 300 pa)]) := by
  refine CT.intro (L0 := [(0, .ref (u 0)), (1, .int (iI x)), (2, .int (iI w))]) (own := RX5) (by decide) rfl (Nat.le_of_ble_eq_true rfl) rfl ?_
  intro pX eX sX mX argsX belowX methX cX A C hr hlk
  obtain ⟨hP, hE0, hF, hrow0, hwt, hht, hlen, hent⟩ := id hm
  have hE : -10 ≤ v 3 ∧ v 3 ≤ 10 := by omega
  have hrow : ∀ i : Nat, (i : Int) < v 2 → 0 ≤ vR v i ∧ vR v i ≤ 4 := fun i hi => by have := hrow0 i hi; omega
  refine j_iload_n C 1 dX5_entry_0 rfl rfl ?_
  refine j_i2l C (by omega) dX5_entry_1 ?_
  refine j_lconst (v := 0) C dX5_entry_2 rfl ?_
  refine j_aload_n C 0 dX5_entry_3 rfl rfl ?_
  refine j_get C ck5 0 0 (by decide) qw662 rfl rfl dX5_entry_4 ?_
  refine j_bipush C dX5_entry_7 (by decide) ?_
  refine j_lald (n := 75) (f := v) C 1 6 rfl rfl (by decide) (by decide) dX5_entry_9 ?_
  refine j_lconst (v := 1) C dX5_entry_10 rfl ?_
  refine j_lsub C dX5_entry_11 ?_
  refine j_callS (As := [.long (lI x), .long (lI 0), .long (lI ((v 6) - 1))]) (rest := []) C ys_X5_in qw718 (c_X5_in_t l g x 0 ((v 6) - 1) (by omega) (by omega) (by omega) (by omega)) (by decide) rfl dX5_entry_12 rfl (Nat.le_of_ble_eq_true rfl) (by decide) (pf1 [] [(u 0, .inr (5, [.ref (u 1), .ref (u 2), .ref (u 3), .int (iI ((sv : Int))), .ref (u 4), .int (iI ln), .int (iI th), .int (iI ap), .int (iI rm), .ref (u 5), .int (iI rd), .int (iI nw), .ref (u 6), .long (lI hh)])), (u 1, aL g 75 v), (u 2, aL g 300 pa)]) rfl (fun r9 w9 hq9 => ?_)
  obtain ⟨rfl, rfl⟩ := hq9
  refine J.to (L1 := [(0, .ref (u 0)), (1, .int (iI x)), (2, .int (iI w))]) (S1 := [.int (iI 1)]) (ws1 := [(u 0, .inr (5, [.ref (u 1), .ref (u 2), .ref (u 3), .int (iI ((sv : Int))), .ref (u 4), .int (iI ln), .int (iI th), .int (iI ap), .int (iI rm), .ref (u 5), .int (iI rd), .int (iI nw), .ref (u 6), .long (lI hh)])), (u 1, aL g 75 v), (u 2, aL g 300 pa)]) rfl rfl rfl ?_
  refine j_if_ne (tgt := 24) C (by decide) dX5_entry_15 (by decide) (fun c15 => ?_) (fun c15 => absurd c15 (by decide))
  refine j_iload_n C 2 dX5_entry_24 rfl rfl ?_
  refine j_i2l C (by omega) dX5_entry_25 ?_
  refine j_lconst (v := 0) C dX5_entry_26 rfl ?_
  refine j_ldc2 (x := 2) C qw768 (by decide) dX5_entry_27 ?_
  refine j_callS (As := [.long (lI w), .long (lI 0), .long (lI 2)]) (rest := []) C ys_X5_in qw718 (c_X5_in_t l g w 0 2 (by omega) (by omega) (by omega) (by omega)) (by decide) rfl dX5_entry_30 rfl (Nat.le_of_ble_eq_true rfl) (by decide) (pf1 [] [(u 0, .inr (5, [.ref (u 1), .ref (u 2), .ref (u 3), .int (iI ((sv : Int))), .ref (u 4), .int (iI ln), .int (iI th), .int (iI ap), .int (iI rm), .ref (u 5), .int (iI rd), .int (iI nw), .ref (u 6), .long (lI hh)])), (u 1, aL g 75 v), (u 2, aL g 300 pa)]) rfl (fun r9 w9 hq9 => ?_)
  obtain ⟨rfl, rfl⟩ := hq9
  refine J.to (L1 := [(0, .ref (u 0)), (1, .int (iI x)), (2, .int (iI w))]) (S1 := [.int (iI 1)]) (ws1 := [(u 0, .inr (5, [.ref (u 1), .ref (u 2), .ref (u 3), .int (iI ((sv : Int))), .ref (u 4), .int (iI ln), .int (iI th), .int (iI ap), .int (iI rm), .ref (u 5), .int (iI rd), .int (iI nw), .ref (u 6), .long (lI hh)])), (u 1, aL g 75 v), (u 2, aL g 300 pa)]) rfl rfl rfl ?_
  refine j_if_eq (tgt := 57) C (by decide) dX5_entry_33 (by decide) (fun c33 => absurd c33 (by decide)) (fun c33 => ?_)
  refine j_aload_n C 0 dX5_entry_36 rfl rfl ?_
  refine j_aload_n C 0 dX5_entry_37 rfl rfl ?_
  refine j_get C ck5 0 0 (by decide) qw662 rfl rfl dX5_entry_38 ?_
  refine j_bipush C dX5_entry_41 (by decide) ?_
  refine j_iconst C dX5_entry_43 ?_
  refine j_iload_n C 1 dX5_entry_44 rfl rfl ?_
  refine j_imul C dX5_entry_45 ?_
  refine j_iadd C dX5_entry_46 ?_
  refine j_iload_n C 2 dX5_entry_47 rfl rfl ?_
  refine j_iadd C dX5_entry_48 ?_
  refine j_lald (n := 75) (f := v) C 1 (27 + (3 * x.toNat + w.toNat)) rfl (by omega) (by omega) (by decide) dX5_entry_49 ?_
  refine j_l2i C dX5_entry_50 ?_
  refine j_callV (As := [.int (iI (v (27 + (3 * x.toNat + w.toNat))))]) (rest := []) C yv_X5_tells qw734 (c_X5_tells l g u v ((sv : Int)) ln th ap rm rd nw hh (v (27 + (3 * x.toNat + w.toNat)))) (by decide) 0 rfl rfl rfl dX5_entry_51 rfl (Nat.le_of_ble_eq_true rfl) (by decide) (pf1 [] [(u 1, aL g 75 v), (u 2, aL g 300 pa)]) rfl (fun r9 w9 hq9 => ?_)
  obtain ⟨rfl, rfl⟩ := hq9
  refine J.to (L1 := [(0, .ref (u 0)), (1, .int (iI x)), (2, .int (iI w))]) (S1 := [.int (iI (v (27 + (3 * x.toNat + w.toNat))))]) (ws1 := [(u 0, .inr (5, [.ref (u 1), .ref (u 2), .ref (u 3), .int (iI ((sv : Int))), .ref (u 4), .int (iI ln), .int (iI 0), .int (iI ap), .int (iI rm), .ref (u 5), .int (iI rd), .int (iI nw), .ref (u 6), .long (lI hh)])), (u 1, aL g 75 v), (u 2, aL g 300 pa)]) rfl rfl rfl ?_
  refine j_goto (tgt := 62) C dX5_entry_54 (by decide) ?_
  exact j_iret C hr hlk dX5_entry_62 ⟨rfl, rfl⟩ (by decide) (by decide)

theorem c_X5_entry_n1 (l : Launch) (g : Gh) (u : Nat → Nat) (v pa sd tx rr rq : Nat → Int) (sv : Nat) (ln th ap rm rd nw hh : Int) (x w : Int) (hm : MOK v) (hsv : sv ≤ 4) (hrx : -2147483648 ≤ x ∧ x < 2147483648) (hrw : -2147483648 ≤ w ∧ w < 2147483648) (hi : x < 0 ∨ v 6 ≤ x) : CT l g yX5_entry cX5_entry 3 (some FieldType.int) ({ frames := 1, cells := 0, slots := 0, locals := 25 }) [.ref (u 0), .int (iI x), .int (iI w)] [(u 0, .inr (5, [.ref (u 1), .ref (u 2), .ref (u 3), .int (iI ((sv : Int))), .ref (u 4), .int (iI ln), .int (iI th), .int (iI ap), .int (iI rm), .ref (u 5), .int (iI rd), .int (iI nw), .ref (u 6), .long (lI hh)])), (u 1, aL g 75 v), (u 2, aL g 300 pa)] (PE (some (.int (iI 0))) [(u 0, .inr (5, [.ref (u 1), .ref (u 2), .ref (u 3), .int (iI ((sv : Int))), .ref (u 4), .int (iI ln), .int (iI 1), .int (iI ap), .int (iI rm), .ref (u 5), .int (iI rd), .int (iI nw), .ref (u 6), .long (lI hh)])), (u 1, aL g 75 v), (u 2, aL g 300 pa)]) := by
  refine CT.intro (L0 := [(0, .ref (u 0)), (1, .int (iI x)), (2, .int (iI w))]) (own := RX5) (by decide) rfl (Nat.le_of_ble_eq_true rfl) rfl ?_
  intro pX eX sX mX argsX belowX methX cX A C hr hlk
  obtain ⟨hP, hE0, hF, hrow0, hwt, hht, hlen, hent⟩ := id hm
  have hE : -10 ≤ v 3 ∧ v 3 ≤ 10 := by omega
  have hrow : ∀ i : Nat, (i : Int) < v 2 → 0 ≤ vR v i ∧ vR v i ≤ 4 := fun i hi => by have := hrow0 i hi; omega
  refine j_iload_n C 1 dX5_entry_0 rfl rfl ?_
  refine j_i2l C (by omega) dX5_entry_1 ?_
  refine j_lconst (v := 0) C dX5_entry_2 rfl ?_
  refine j_aload_n C 0 dX5_entry_3 rfl rfl ?_
  refine j_get C ck5 0 0 (by decide) qw662 rfl rfl dX5_entry_4 ?_
  refine j_bipush C dX5_entry_7 (by decide) ?_
  refine j_lald (n := 75) (f := v) C 1 6 rfl rfl (by decide) (by decide) dX5_entry_9 ?_
  refine j_lconst (v := 1) C dX5_entry_10 rfl ?_
  refine j_lsub C dX5_entry_11 ?_
  refine j_callS (As := [.long (lI x), .long (lI 0), .long (lI ((v 6) - 1))]) (rest := []) C ys_X5_in qw718 (c_X5_in_f l g x 0 ((v 6) - 1) (by omega) (by omega) (by omega) (by omega)) (by decide) rfl dX5_entry_12 rfl (Nat.le_of_ble_eq_true rfl) (by decide) (pf1 [] [(u 0, .inr (5, [.ref (u 1), .ref (u 2), .ref (u 3), .int (iI ((sv : Int))), .ref (u 4), .int (iI ln), .int (iI th), .int (iI ap), .int (iI rm), .ref (u 5), .int (iI rd), .int (iI nw), .ref (u 6), .long (lI hh)])), (u 1, aL g 75 v), (u 2, aL g 300 pa)]) rfl (fun r9 w9 hq9 => ?_)
  obtain ⟨rfl, rfl⟩ := hq9
  refine J.to (L1 := [(0, .ref (u 0)), (1, .int (iI x)), (2, .int (iI w))]) (S1 := [.int (iI 0)]) (ws1 := [(u 0, .inr (5, [.ref (u 1), .ref (u 2), .ref (u 3), .int (iI ((sv : Int))), .ref (u 4), .int (iI ln), .int (iI th), .int (iI ap), .int (iI rm), .ref (u 5), .int (iI rd), .int (iI nw), .ref (u 6), .long (lI hh)])), (u 1, aL g 75 v), (u 2, aL g 300 pa)]) rfl rfl rfl ?_
  refine j_if_ne (tgt := 24) C (by decide) dX5_entry_15 (by decide) (fun c15 => absurd c15 (by decide)) (fun c15 => ?_)
  refine j_aload_n C 0 dX5_entry_18 rfl rfl ?_
  refine j_iconst C dX5_entry_19 ?_
  refine j_callV (As := [.int (iI 1)]) (rest := []) C yv_X5_fails qw721 (c_X5_fails l g u v ((sv : Int)) ln th ap rm rd nw hh 1) (by decide) 0 rfl rfl rfl dX5_entry_20 rfl (Nat.le_of_ble_eq_true rfl) (by decide) (pf1 [] [(u 1, aL g 75 v), (u 2, aL g 300 pa)]) rfl (fun r9 w9 hq9 => ?_)
  obtain ⟨rfl, rfl⟩ := hq9
  refine J.to (L1 := [(0, .ref (u 0)), (1, .int (iI x)), (2, .int (iI w))]) (S1 := [.int (iI 0)]) (ws1 := [(u 0, .inr (5, [.ref (u 1), .ref (u 2), .ref (u 3), .int (iI ((sv : Int))), .ref (u 4), .int (iI ln), .int (iI 1), .int (iI ap), .int (iI rm), .ref (u 5), .int (iI rd), .int (iI nw), .ref (u 6), .long (lI hh)])), (u 1, aL g 75 v), (u 2, aL g 300 pa)]) rfl rfl rfl ?_
  exact j_iret C hr hlk dX5_entry_23 ⟨rfl, rfl⟩ (by decide) (by decide)

theorem c_X5_entry_n2 (l : Launch) (g : Gh) (u : Nat → Nat) (v pa sd tx rr rq : Nat → Int) (sv : Nat) (ln th ap rm rd nw hh : Int) (x w : Int) (hm : MOK v) (hsv : sv ≤ 4) (hrx : -2147483648 ≤ x ∧ x < 2147483648) (hrw : -2147483648 ≤ w ∧ w < 2147483648) (hi : 0 ≤ x ∧ x < v 6) (hw : w < 0 ∨ 2 < w) : CT l g yX5_entry cX5_entry 3 (some FieldType.int) ({ frames := 1, cells := 0, slots := 0, locals := 25 }) [.ref (u 0), .int (iI x), .int (iI w)] [(u 0, .inr (5, [.ref (u 1), .ref (u 2), .ref (u 3), .int (iI ((sv : Int))), .ref (u 4), .int (iI ln), .int (iI th), .int (iI ap), .int (iI rm), .ref (u 5), .int (iI rd), .int (iI nw), .ref (u 6), .long (lI hh)])), (u 1, aL g 75 v), (u 2, aL g 300 pa)] (PE (some (.int (iI 0))) [(u 0, .inr (5, [.ref (u 1), .ref (u 2), .ref (u 3), .int (iI ((sv : Int))), .ref (u 4), .int (iI ln), .int (iI 2), .int (iI ap), .int (iI rm), .ref (u 5), .int (iI rd), .int (iI nw), .ref (u 6), .long (lI hh)])), (u 1, aL g 75 v), (u 2, aL g 300 pa)]) := by
  refine CT.intro (L0 := [(0, .ref (u 0)), (1, .int (iI x)), (2, .int (iI w))]) (own := RX5) (by decide) rfl (Nat.le_of_ble_eq_true rfl) rfl ?_
  intro pX eX sX mX argsX belowX methX cX A C hr hlk
  obtain ⟨hP, hE0, hF, hrow0, hwt, hht, hlen, hent⟩ := id hm
  have hE : -10 ≤ v 3 ∧ v 3 ≤ 10 := by omega
  have hrow : ∀ i : Nat, (i : Int) < v 2 → 0 ≤ vR v i ∧ vR v i ≤ 4 := fun i hi => by have := hrow0 i hi; omega
  refine j_iload_n C 1 dX5_entry_0 rfl rfl ?_
  refine j_i2l C (by omega) dX5_entry_1 ?_
  refine j_lconst (v := 0) C dX5_entry_2 rfl ?_
  refine j_aload_n C 0 dX5_entry_3 rfl rfl ?_
  refine j_get C ck5 0 0 (by decide) qw662 rfl rfl dX5_entry_4 ?_
  refine j_bipush C dX5_entry_7 (by decide) ?_
  refine j_lald (n := 75) (f := v) C 1 6 rfl rfl (by decide) (by decide) dX5_entry_9 ?_
  refine j_lconst (v := 1) C dX5_entry_10 rfl ?_
  refine j_lsub C dX5_entry_11 ?_
  refine j_callS (As := [.long (lI x), .long (lI 0), .long (lI ((v 6) - 1))]) (rest := []) C ys_X5_in qw718 (c_X5_in_t l g x 0 ((v 6) - 1) (by omega) (by omega) (by omega) (by omega)) (by decide) rfl dX5_entry_12 rfl (Nat.le_of_ble_eq_true rfl) (by decide) (pf1 [] [(u 0, .inr (5, [.ref (u 1), .ref (u 2), .ref (u 3), .int (iI ((sv : Int))), .ref (u 4), .int (iI ln), .int (iI th), .int (iI ap), .int (iI rm), .ref (u 5), .int (iI rd), .int (iI nw), .ref (u 6), .long (lI hh)])), (u 1, aL g 75 v), (u 2, aL g 300 pa)]) rfl (fun r9 w9 hq9 => ?_)
  obtain ⟨rfl, rfl⟩ := hq9
  refine J.to (L1 := [(0, .ref (u 0)), (1, .int (iI x)), (2, .int (iI w))]) (S1 := [.int (iI 1)]) (ws1 := [(u 0, .inr (5, [.ref (u 1), .ref (u 2), .ref (u 3), .int (iI ((sv : Int))), .ref (u 4), .int (iI ln), .int (iI th), .int (iI ap), .int (iI rm), .ref (u 5), .int (iI rd), .int (iI nw), .ref (u 6), .long (lI hh)])), (u 1, aL g 75 v), (u 2, aL g 300 pa)]) rfl rfl rfl ?_
  refine j_if_ne (tgt := 24) C (by decide) dX5_entry_15 (by decide) (fun c15 => ?_) (fun c15 => absurd c15 (by decide))
  refine j_iload_n C 2 dX5_entry_24 rfl rfl ?_
  refine j_i2l C (by omega) dX5_entry_25 ?_
  refine j_lconst (v := 0) C dX5_entry_26 rfl ?_
  refine j_ldc2 (x := 2) C qw768 (by decide) dX5_entry_27 ?_
  refine j_callS (As := [.long (lI w), .long (lI 0), .long (lI 2)]) (rest := []) C ys_X5_in qw718 (c_X5_in_f l g w 0 2 (by omega) (by omega) (by omega) (by omega)) (by decide) rfl dX5_entry_30 rfl (Nat.le_of_ble_eq_true rfl) (by decide) (pf1 [] [(u 0, .inr (5, [.ref (u 1), .ref (u 2), .ref (u 3), .int (iI ((sv : Int))), .ref (u 4), .int (iI ln), .int (iI th), .int (iI ap), .int (iI rm), .ref (u 5), .int (iI rd), .int (iI nw), .ref (u 6), .long (lI hh)])), (u 1, aL g 75 v), (u 2, aL g 300 pa)]) rfl (fun r9 w9 hq9 => ?_)
  obtain ⟨rfl, rfl⟩ := hq9
  refine J.to (L1 := [(0, .ref (u 0)), (1, .int (iI x)), (2, .int (iI w))]) (S1 := [.int (iI 0)]) (ws1 := [(u 0, .inr (5, [.ref (u 1), .ref (u 2), .ref (u 3), .int (iI ((sv : Int))), .ref (u 4), .int (iI ln), .int (iI th), .int (iI ap), .int (iI rm), .ref (u 5), .int (iI rd), .int (iI nw), .ref (u 6), .long (lI hh)])), (u 1, aL g 75 v), (u 2, aL g 300 pa)]) rfl rfl rfl ?_
  refine j_if_eq (tgt := 57) C (by decide) dX5_entry_33 (by decide) (fun c33 => ?_) (fun c33 => absurd c33 (by decide))
  refine j_aload_n C 0 dX5_entry_57 rfl rfl ?_
  refine j_iconst C dX5_entry_58 ?_
  refine j_callV (As := [.int (iI 2)]) (rest := []) C yv_X5_fails qw721 (c_X5_fails l g u v ((sv : Int)) ln th ap rm rd nw hh 2) (by decide) 0 rfl rfl rfl dX5_entry_59 rfl (Nat.le_of_ble_eq_true rfl) (by decide) (pf1 [] [(u 1, aL g 75 v), (u 2, aL g 300 pa)]) rfl (fun r9 w9 hq9 => ?_)
  obtain ⟨rfl, rfl⟩ := hq9
  refine J.to (L1 := [(0, .ref (u 0)), (1, .int (iI x)), (2, .int (iI w))]) (S1 := [.int (iI 0)]) (ws1 := [(u 0, .inr (5, [.ref (u 1), .ref (u 2), .ref (u 3), .int (iI ((sv : Int))), .ref (u 4), .int (iI ln), .int (iI 2), .int (iI ap), .int (iI rm), .ref (u 5), .int (iI rd), .int (iI nw), .ref (u 6), .long (lI hh)])), (u 1, aL g 75 v), (u 2, aL g 300 pa)]) rfl rfl rfl ?_
  exact j_iret C hr hlk dX5_entry_62 ⟨rfl, rfl⟩ (by decide) (by decide)

theorem c_X5_first (l : Launch) (g : Gh) (u : Nat → Nat) (v pa sd tx rr rq : Nat → Int) (sv : Nat) (ln th ap rm rd nw hh : Int) (hm : MOK v) (hsv : sv ≤ 4)  : CT l g yX5_first cX5_first 1 (some FieldType.int) ({ frames := 4, cells := 0, slots := 0, locals := 106 }) [.ref (u 0)] [(u 0, .inr (5, [.ref (u 1), .ref (u 2), .ref (u 3), .int (iI ((sv : Int))), .ref (u 4), .int (iI ln), .int (iI th), .int (iI ap), .int (iI rm), .ref (u 5), .int (iI rd), .int (iI nw), .ref (u 6), .long (lI hh)])), (u 1, aL g 75 v), (u 2, aL g 300 pa)] (PE (some (.int (iI (mnV true 1000000 v)))) [(u 0, .inr (5, [.ref (u 1), .ref (u 2), .ref (u 3), .int (iI ((sv : Int))), .ref (u 4), .int (iI ln), .int (iI 0), .int (iI ap), .int (iI rm), .ref (u 5), .int (iI rd), .int (iI nw), .ref (u 6), .long (lI hh)])), (u 1, aL g 75 v), (u 2, aL g 300 pa)]) := by
  refine CT.intro (L0 := [(0, .ref (u 0))]) (own := RX5) (by decide) rfl (Nat.le_of_ble_eq_true rfl) rfl ?_
  intro pX eX sX mX argsX belowX methX cX A C hr hlk
  obtain ⟨hP, hE0, hF, hrow0, hwt, hht, hlen, hent⟩ := id hm
  have hE : -10 ≤ v 3 ∧ v 3 ≤ 10 := by omega
  have hrow : ∀ i : Nat, (i : Int) < v 2 → 0 ≤ vR v i ∧ vR v i ≤ 4 := fun i hi => by have := hrow0 i hi; omega
  refine j_aload_n C 0 dX5_first_0 rfl rfl ?_
  refine j_aload_n C 0 dX5_first_1 rfl rfl ?_
  refine j_ldc (x := 1000000) C qw804 (by decide) dX5_first_2 ?_
  refine j_callV (As := [.int (iI 1000000)]) (rest := [.ref (u 0)]) C yv_X5_riser qw795 (c_X5_riser l g u v ((sv : Int)) ln th ap rm rd nw hh 1000000 hm (by omega)) (by decide) 0 rfl rfl rfl dX5_first_4 rfl (Nat.le_of_ble_eq_true rfl) (by decide) (pf1 [] [(u 2, aL g 300 pa)]) rfl (fun r9 w9 hq9 => ?_)
  obtain ⟨rfl, rfl⟩ := hq9
  refine J.to (L1 := [(0, .ref (u 0))]) (S1 := [.int (iI (mnV true 1000000 v)), .ref (u 0)]) (ws1 := [(u 0, .inr (5, [.ref (u 1), .ref (u 2), .ref (u 3), .int (iI ((sv : Int))), .ref (u 4), .int (iI ln), .int (iI th), .int (iI ap), .int (iI rm), .ref (u 5), .int (iI rd), .int (iI nw), .ref (u 6), .long (lI hh)])), (u 1, aL g 75 v), (u 2, aL g 300 pa)]) rfl rfl rfl ?_
  refine j_callV (As := [.int (iI (mnV true 1000000 v))]) (rest := []) C yv_X5_tells qw734 (c_X5_tells l g u v ((sv : Int)) ln th ap rm rd nw hh (mnV true 1000000 v)) (by decide) 0 rfl rfl rfl dX5_first_7 rfl (Nat.le_of_ble_eq_true rfl) (by decide) (pf1 [] [(u 1, aL g 75 v), (u 2, aL g 300 pa)]) rfl (fun r9 w9 hq9 => ?_)
  obtain ⟨rfl, rfl⟩ := hq9
  refine J.to (L1 := [(0, .ref (u 0))]) (S1 := [.int (iI (mnV true 1000000 v))]) (ws1 := [(u 0, .inr (5, [.ref (u 1), .ref (u 2), .ref (u 3), .int (iI ((sv : Int))), .ref (u 4), .int (iI ln), .int (iI 0), .int (iI ap), .int (iI rm), .ref (u 5), .int (iI rd), .int (iI nw), .ref (u 6), .long (lI hh)])), (u 1, aL g 75 v), (u 2, aL g 300 pa)]) rfl rfl rfl ?_
  exact j_iret C hr hlk dX5_first_10 ⟨rfl, rfl⟩ (by decide) (by decide)

def effV (put got : Int) : UInt64 := if put = 0 then 0 else FP.ddiv (FP.l2d (lI got)) (FP.l2d (lI put))
theorem lI_ne {x : Int} (hx : 0 ≤ x ∧ x < 9223372036854775808) (h : x ≠ 0) : lI x ≠ 0 := fun h0 => h (by have := congrArg Int64.toInt h0; rw [lI_toInt (by omega)] at this; exact this)
theorem c_X5_efficiency (l : Launch) (g : Gh) (u : Nat → Nat) (v pa sd tx rr rq : Nat → Int) (sv : Nat) (ln th ap rm rd nw hh : Int) (hm : MOK v) (hsv : sv ≤ 4) (hput : 0 ≤ v 7 ∧ v 7 < 9223372036854775808) : CT l g yX5_efficiency cX5_efficiency 1 (some FieldType.double) ({ frames := 0, cells := 0, slots := 0, locals := 0 }) [.ref (u 0)] [(u 0, .inr (5, [.ref (u 1), .ref (u 2), .ref (u 3), .int (iI ((sv : Int))), .ref (u 4), .int (iI ln), .int (iI th), .int (iI ap), .int (iI rm), .ref (u 5), .int (iI rd), .int (iI nw), .ref (u 6), .long (lI hh)])), (u 1, aL g 75 v), (u 2, aL g 300 pa)] (PE (some (.double (effV (v 7) (v 8)))) [(u 0, .inr (5, [.ref (u 1), .ref (u 2), .ref (u 3), .int (iI ((sv : Int))), .ref (u 4), .int (iI ln), .int (iI 0), .int (iI ap), .int (iI rm), .ref (u 5), .int (iI rd), .int (iI nw), .ref (u 6), .long (lI hh)])), (u 1, aL g 75 v), (u 2, aL g 300 pa)]) := by
  refine CT.intro (L0 := [(0, .ref (u 0))]) (own := RX5) (by decide) rfl (Nat.le_of_ble_eq_true rfl) rfl ?_
  intro pX eX sX mX argsX belowX methX cX A C hr hlk
  obtain ⟨hP, hE0, hF, hrow0, hwt, hht, hlen, hent⟩ := id hm
  have hE : -10 ≤ v 3 ∧ v 3 ≤ 10 := by omega
  have hrow : ∀ i : Nat, (i : Int) < v 2 → 0 ≤ vR v i ∧ vR v i ≤ 4 := fun i hi => by have := hrow0 i hi; omega
  refine j_aload_n C 0 dX5_efficiency_0 rfl rfl ?_
  refine j_iconst C dX5_efficiency_1 ?_
  refine j_put (ws1 := [(u 0, .inr (5, [.ref (u 1), .ref (u 2), .ref (u 3), .int (iI ((sv : Int))), .ref (u 4), .int (iI ln), .int (iI 0), .int (iI ap), .int (iI rm), .ref (u 5), .int (iI rd), .int (iI nw), .ref (u 6), .long (lI hh)])), (u 1, aL g 75 v), (u 2, aL g 300 pa)]) C ck5 0 6 (by decide) qw668 rfl dX5_efficiency_2 rfl rfl rfl rfl (Nat.le_of_ble_eq_true rfl) ?_
  refine j_aload_n C 0 dX5_efficiency_5 rfl rfl ?_
  refine j_get C ck5 0 0 (by decide) qw662 rfl rfl dX5_efficiency_6 ?_
  refine j_bipush C dX5_efficiency_9 (by decide) ?_
  refine j_lald (n := 75) (f := v) C 1 7 rfl rfl (by decide) (by decide) dX5_efficiency_11 ?_
  refine j_lconst (v := 0) C dX5_efficiency_12 rfl ?_
  refine j_lif_ne (tgt := 21) C (by omega) (by decide) dX5_efficiency_13 dX5_efficiency_14 (by decide) (fun c13 => ?_) (fun c13 => ?_)
  · refine j_aload_n C 0 dX5_efficiency_21 rfl rfl ?_
    refine j_get C ck5 0 0 (by decide) qw662 rfl rfl dX5_efficiency_22 ?_
    refine j_bipush C dX5_efficiency_25 (by decide) ?_
    refine j_lald (n := 75) (f := v) C 1 8 rfl rfl (by decide) (by decide) dX5_efficiency_27 ?_
    refine j_l2d C dX5_efficiency_28 ?_
    refine j_aload_n C 0 dX5_efficiency_29 rfl rfl ?_
    refine j_get C ck5 0 0 (by decide) qw662 rfl rfl dX5_efficiency_30 ?_
    refine j_bipush C dX5_efficiency_33 (by decide) ?_
    refine j_lald (n := 75) (f := v) C 1 7 rfl rfl (by decide) (by decide) dX5_efficiency_35 ?_
    refine j_l2d C dX5_efficiency_36 ?_
    refine j_ddiv C (eff_nn (lI_ne hput (by omega))) dX5_efficiency_37 ?_
    exact j_dret C hr hlk dX5_efficiency_38 ⟨by rw [effV, if_neg (by omega)], rfl⟩ (by decide) (by decide)
  · refine j_dconst0 C dX5_efficiency_17 ?_
    refine j_goto (tgt := 38) C dX5_efficiency_18 (by decide) ?_
    exact j_dret C hr hlk dX5_efficiency_38 ⟨by rw [effV, if_pos (by omega)], rfl⟩ (by decide) (by decide)

theorem c_X5_append_ok (l : Launch) (g : Gh) (u : Nat → Nat) (v pa sd tx rr rq : Nat → Int) (sv ln : Nat) (th ap rm rd nw hh : Int) (x : Int) (hln : ln ≤ 60) (hx : 0 ≤ x ∧ x ≤ 127) (hl6 : ln < 60) : CT l g yX5_append cX5_append 2 (some FieldType.int) ({ frames := 1, cells := 0, slots := 0, locals := 25 }) [.ref (u 0), .int (iI x)] [(u 0, .inr (5, [.ref (u 1), .ref (u 2), .ref (u 3), .int (iI ((sv : Int))), .ref (u 4), .int (iI ((ln : Int))), .int (iI th), .int (iI ap), .int (iI rm), .ref (u 5), .int (iI rd), .int (iI nw), .ref (u 6), .long (lI hh)])), (u 1, aL g 75 v), (u 2, aL g 300 pa), (u 3, aL g 75 sd), (u 4, aI g 60 tx)] (PE (some (.int (iI ((ln : Int) + 1)))) [(u 0, .inr (5, [.ref (u 1), .ref (u 2), .ref (u 3), .int (iI ((sv : Int))), .ref (u 4), .int (iI (((ln + 1 : Nat) : Int))), .int (iI 0), .int (iI ap), .int (iI rm), .ref (u 5), .int (iI rd), .int (iI nw), .ref (u 6), .long (lI hh)])), (u 1, aL g 75 v), (u 2, aL g 300 pa), (u 3, aL g 75 sd), (u 4, aI g 60 (va_up tx ln x))]) := by
  refine CT.intro (L0 := [(0, .ref (u 0)), (1, .int (iI x))]) (own := RX5) (by decide) rfl (Nat.le_of_ble_eq_true rfl) rfl ?_
  intro pX eX sX mX argsX belowX methX cX A C hr hlk
  refine j_iload_n C 1 dX5_append_0 rfl rfl ?_
  refine j_i2l C (by omega) dX5_append_1 ?_
  refine j_lconst (v := 0) C dX5_append_2 rfl ?_
  refine j_ldc2 (x := 127) C qw921 (by decide) dX5_append_3 ?_
  refine j_callS (As := [.long (lI x), .long (lI 0), .long (lI 127)]) (rest := []) C ys_X5_in qw718 (c_X5_in_t l g x 0 127 (by omega) (by omega) (by omega) (by omega)) (by decide) rfl dX5_append_6 rfl (Nat.le_of_ble_eq_true rfl) (by decide) (pf1 [] [(u 0, .inr (5, [.ref (u 1), .ref (u 2), .ref (u 3), .int (iI ((sv : Int))), .ref (u 4), .int (iI ((ln : Int))), .int (iI th), .int (iI ap), .int (iI rm), .ref (u 5), .int (iI rd), .int (iI nw), .ref (u 6), .long (lI hh)])), (u 1, aL g 75 v), (u 2, aL g 300 pa), (u 3, aL g 75 sd), (u 4, aI g 60 tx)]) rfl (fun r9 w9 hq9 => ?_)
  obtain ⟨rfl, rfl⟩ := hq9
  refine J.to (L1 := [(0, .ref (u 0)), (1, .int (iI x))]) (S1 := [.int (iI 1)]) (ws1 := [(u 0, .inr (5, [.ref (u 1), .ref (u 2), .ref (u 3), .int (iI ((sv : Int))), .ref (u 4), .int (iI ((ln : Int))), .int (iI th), .int (iI ap), .int (iI rm), .ref (u 5), .int (iI rd), .int (iI nw), .ref (u 6), .long (lI hh)])), (u 1, aL g 75 v), (u 2, aL g 300 pa), (u 3, aL g 75 sd), (u 4, aI g 60 tx)]) rfl rfl rfl ?_
  refine j_if_ne (tgt := 18) C (by decide) dX5_append_9 (by decide) (fun c9 => ?_) (fun c9 => absurd c9 (by decide))
  refine j_aload_n C 0 dX5_append_18 rfl rfl ?_
  refine j_get C ck5 0 5 (by decide) qw667 rfl rfl dX5_append_19 ?_
  refine j_bipush C dX5_append_22 (by decide) ?_
  refine j_icmp_ne (tgt := 33) C (by omega) (by decide) dX5_append_24 (by decide) (fun c24 => ?_) (fun c24 => absurd c24 (by omega))
  refine j_aload_n C 0 dX5_append_33 rfl rfl ?_
  refine j_get C ck5 0 4 (by decide) qw666 rfl rfl dX5_append_34 ?_
  refine j_aload_n C 0 dX5_append_37 rfl rfl ?_
  refine j_get C ck5 0 5 (by decide) qw667 rfl rfl dX5_append_38 ?_
  refine j_iload_n C 1 dX5_append_41 rfl rfl ?_
  refine j_iast (n := 60) (f := tx) (ws1 := [(u 0, .inr (5, [.ref (u 1), .ref (u 2), .ref (u 3), .int (iI ((sv : Int))), .ref (u 4), .int (iI ((ln : Int))), .int (iI th), .int (iI ap), .int (iI rm), .ref (u 5), .int (iI rd), .int (iI nw), .ref (u 6), .long (lI hh)])), (u 1, aL g 75 v), (u 2, aL g 300 pa), (u 3, aL g 75 sd), (u 4, aI g 60 (va_up tx ln x))]) C 4 ln rfl rfl (by omega) (by decide) dX5_append_42 rfl ?_
  refine j_aload_n C 0 dX5_append_43 rfl rfl ?_
  refine j_dup C dX5_append_44 rfl ?_
  refine j_get C ck5 0 5 (by decide) qw667 rfl rfl dX5_append_45 ?_
  refine j_iconst C dX5_append_48 ?_
  refine j_iadd C dX5_append_49 ?_
  refine j_put (ws1 := [(u 0, .inr (5, [.ref (u 1), .ref (u 2), .ref (u 3), .int (iI ((sv : Int))), .ref (u 4), .int (iI (((ln : Int)) + 1)), .int (iI th), .int (iI ap), .int (iI rm), .ref (u 5), .int (iI rd), .int (iI nw), .ref (u 6), .long (lI hh)])), (u 1, aL g 75 v), (u 2, aL g 300 pa), (u 3, aL g 75 sd), (u 4, aI g 60 (va_up tx ln x))]) C ck5 0 5 (by decide) qw667 rfl dX5_append_50 rfl rfl rfl rfl (Nat.le_of_ble_eq_true rfl) ?_
  refine j_aload_n C 0 dX5_append_53 rfl rfl ?_
  refine j_aload_n C 0 dX5_append_54 rfl rfl ?_
  refine j_get C ck5 0 5 (by decide) qw667 rfl rfl dX5_append_55 ?_
  refine j_callV (As := [.int (iI (((ln : Int)) + 1))]) (rest := []) C yv_X5_tells qw734 (c_X5_tells l g u v ((sv : Int)) (((ln : Int)) + 1) th ap rm rd nw hh (((ln : Int)) + 1)) (by decide) 0 rfl rfl rfl dX5_append_58 rfl (Nat.le_of_ble_eq_true rfl) (by decide) (pf1 [] [(u 1, aL g 75 v), (u 2, aL g 300 pa), (u 3, aL g 75 sd), (u 4, aI g 60 (va_up tx ln x))]) rfl (fun r9 w9 hq9 => ?_)
  obtain ⟨rfl, rfl⟩ := hq9
  refine J.to (L1 := [(0, .ref (u 0)), (1, .int (iI x))]) (S1 := [.int (iI (((ln : Int)) + 1))]) (ws1 := [(u 0, .inr (5, [.ref (u 1), .ref (u 2), .ref (u 3), .int (iI ((sv : Int))), .ref (u 4), .int (iI (((ln : Int)) + 1)), .int (iI 0), .int (iI ap), .int (iI rm), .ref (u 5), .int (iI rd), .int (iI nw), .ref (u 6), .long (lI hh)])), (u 1, aL g 75 v), (u 2, aL g 300 pa), (u 3, aL g 75 sd), (u 4, aI g 60 (va_up tx ln x))]) rfl rfl rfl ?_
  exact j_iret C hr hlk dX5_append_61 ⟨rfl, rfl⟩ (by decide) (by decide)

theorem c_X5_append_n1 (l : Launch) (g : Gh) (u : Nat → Nat) (v pa sd tx rr rq : Nat → Int) (sv ln : Nat) (th ap rm rd nw hh : Int) (x : Int) (hln : ln ≤ 60) (hrx : -2147483648 ≤ x ∧ x < 2147483648) (hx : x < 0 ∨ 127 < x) : CT l g yX5_append cX5_append 2 (some FieldType.int) ({ frames := 1, cells := 0, slots := 0, locals := 25 }) [.ref (u 0), .int (iI x)] [(u 0, .inr (5, [.ref (u 1), .ref (u 2), .ref (u 3), .int (iI ((sv : Int))), .ref (u 4), .int (iI ((ln : Int))), .int (iI th), .int (iI ap), .int (iI rm), .ref (u 5), .int (iI rd), .int (iI nw), .ref (u 6), .long (lI hh)])), (u 1, aL g 75 v), (u 2, aL g 300 pa), (u 3, aL g 75 sd), (u 4, aI g 60 tx)] (PE (some (.int (iI 0))) [(u 0, .inr (5, [.ref (u 1), .ref (u 2), .ref (u 3), .int (iI ((sv : Int))), .ref (u 4), .int (iI ((ln : Int))), .int (iI 1), .int (iI ap), .int (iI rm), .ref (u 5), .int (iI rd), .int (iI nw), .ref (u 6), .long (lI hh)])), (u 1, aL g 75 v), (u 2, aL g 300 pa), (u 3, aL g 75 sd), (u 4, aI g 60 tx)]) := by
  refine CT.intro (L0 := [(0, .ref (u 0)), (1, .int (iI x))]) (own := RX5) (by decide) rfl (Nat.le_of_ble_eq_true rfl) rfl ?_
  intro pX eX sX mX argsX belowX methX cX A C hr hlk
  refine j_iload_n C 1 dX5_append_0 rfl rfl ?_
  refine j_i2l C (by omega) dX5_append_1 ?_
  refine j_lconst (v := 0) C dX5_append_2 rfl ?_
  refine j_ldc2 (x := 127) C qw921 (by decide) dX5_append_3 ?_
  refine j_callS (As := [.long (lI x), .long (lI 0), .long (lI 127)]) (rest := []) C ys_X5_in qw718 (c_X5_in_f l g x 0 127 (by omega) (by omega) (by omega) (by omega)) (by decide) rfl dX5_append_6 rfl (Nat.le_of_ble_eq_true rfl) (by decide) (pf1 [] [(u 0, .inr (5, [.ref (u 1), .ref (u 2), .ref (u 3), .int (iI ((sv : Int))), .ref (u 4), .int (iI ((ln : Int))), .int (iI th), .int (iI ap), .int (iI rm), .ref (u 5), .int (iI rd), .int (iI nw), .ref (u 6), .long (lI hh)])), (u 1, aL g 75 v), (u 2, aL g 300 pa), (u 3, aL g 75 sd), (u 4, aI g 60 tx)]) rfl (fun r9 w9 hq9 => ?_)
  obtain ⟨rfl, rfl⟩ := hq9
  refine J.to (L1 := [(0, .ref (u 0)), (1, .int (iI x))]) (S1 := [.int (iI 0)]) (ws1 := [(u 0, .inr (5, [.ref (u 1), .ref (u 2), .ref (u 3), .int (iI ((sv : Int))), .ref (u 4), .int (iI ((ln : Int))), .int (iI th), .int (iI ap), .int (iI rm), .ref (u 5), .int (iI rd), .int (iI nw), .ref (u 6), .long (lI hh)])), (u 1, aL g 75 v), (u 2, aL g 300 pa), (u 3, aL g 75 sd), (u 4, aI g 60 tx)]) rfl rfl rfl ?_
  refine j_if_ne (tgt := 18) C (by decide) dX5_append_9 (by decide) (fun c9 => absurd c9 (by decide)) (fun c9 => ?_)
  refine j_aload_n C 0 dX5_append_12 rfl rfl ?_
  refine j_iconst C dX5_append_13 ?_
  refine j_callV (As := [.int (iI 1)]) (rest := []) C yv_X5_fails qw721 (c_X5_fails l g u v ((sv : Int)) ((ln : Int)) th ap rm rd nw hh 1) (by decide) 0 rfl rfl rfl dX5_append_14 rfl (Nat.le_of_ble_eq_true rfl) (by decide) (pf1 [] [(u 1, aL g 75 v), (u 2, aL g 300 pa), (u 3, aL g 75 sd), (u 4, aI g 60 tx)]) rfl (fun r9 w9 hq9 => ?_)
  obtain ⟨rfl, rfl⟩ := hq9
  refine J.to (L1 := [(0, .ref (u 0)), (1, .int (iI x))]) (S1 := [.int (iI 0)]) (ws1 := [(u 0, .inr (5, [.ref (u 1), .ref (u 2), .ref (u 3), .int (iI ((sv : Int))), .ref (u 4), .int (iI ((ln : Int))), .int (iI 1), .int (iI ap), .int (iI rm), .ref (u 5), .int (iI rd), .int (iI nw), .ref (u 6), .long (lI hh)])), (u 1, aL g 75 v), (u 2, aL g 300 pa), (u 3, aL g 75 sd), (u 4, aI g 60 tx)]) rfl rfl rfl ?_
  exact j_iret C hr hlk dX5_append_17 ⟨rfl, rfl⟩ (by decide) (by decide)

theorem c_X5_append_n2 (l : Launch) (g : Gh) (u : Nat → Nat) (v pa sd tx rr rq : Nat → Int) (sv ln : Nat) (th ap rm rd nw hh : Int) (x : Int) (hln : ln ≤ 60) (hx : 0 ≤ x ∧ x ≤ 127) (hl6 : ln = 60) : CT l g yX5_append cX5_append 2 (some FieldType.int) ({ frames := 1, cells := 0, slots := 0, locals := 25 }) [.ref (u 0), .int (iI x)] [(u 0, .inr (5, [.ref (u 1), .ref (u 2), .ref (u 3), .int (iI ((sv : Int))), .ref (u 4), .int (iI ((ln : Int))), .int (iI th), .int (iI ap), .int (iI rm), .ref (u 5), .int (iI rd), .int (iI nw), .ref (u 6), .long (lI hh)])), (u 1, aL g 75 v), (u 2, aL g 300 pa), (u 3, aL g 75 sd), (u 4, aI g 60 tx)] (PE (some (.int (iI 0))) [(u 0, .inr (5, [.ref (u 1), .ref (u 2), .ref (u 3), .int (iI ((sv : Int))), .ref (u 4), .int (iI ((ln : Int))), .int (iI 2), .int (iI ap), .int (iI rm), .ref (u 5), .int (iI rd), .int (iI nw), .ref (u 6), .long (lI hh)])), (u 1, aL g 75 v), (u 2, aL g 300 pa), (u 3, aL g 75 sd), (u 4, aI g 60 tx)]) := by
  refine CT.intro (L0 := [(0, .ref (u 0)), (1, .int (iI x))]) (own := RX5) (by decide) rfl (Nat.le_of_ble_eq_true rfl) rfl ?_
  intro pX eX sX mX argsX belowX methX cX A C hr hlk
  refine j_iload_n C 1 dX5_append_0 rfl rfl ?_
  refine j_i2l C (by omega) dX5_append_1 ?_
  refine j_lconst (v := 0) C dX5_append_2 rfl ?_
  refine j_ldc2 (x := 127) C qw921 (by decide) dX5_append_3 ?_
  refine j_callS (As := [.long (lI x), .long (lI 0), .long (lI 127)]) (rest := []) C ys_X5_in qw718 (c_X5_in_t l g x 0 127 (by omega) (by omega) (by omega) (by omega)) (by decide) rfl dX5_append_6 rfl (Nat.le_of_ble_eq_true rfl) (by decide) (pf1 [] [(u 0, .inr (5, [.ref (u 1), .ref (u 2), .ref (u 3), .int (iI ((sv : Int))), .ref (u 4), .int (iI ((ln : Int))), .int (iI th), .int (iI ap), .int (iI rm), .ref (u 5), .int (iI rd), .int (iI nw), .ref (u 6), .long (lI hh)])), (u 1, aL g 75 v), (u 2, aL g 300 pa), (u 3, aL g 75 sd), (u 4, aI g 60 tx)]) rfl (fun r9 w9 hq9 => ?_)
  obtain ⟨rfl, rfl⟩ := hq9
  refine J.to (L1 := [(0, .ref (u 0)), (1, .int (iI x))]) (S1 := [.int (iI 1)]) (ws1 := [(u 0, .inr (5, [.ref (u 1), .ref (u 2), .ref (u 3), .int (iI ((sv : Int))), .ref (u 4), .int (iI ((ln : Int))), .int (iI th), .int (iI ap), .int (iI rm), .ref (u 5), .int (iI rd), .int (iI nw), .ref (u 6), .long (lI hh)])), (u 1, aL g 75 v), (u 2, aL g 300 pa), (u 3, aL g 75 sd), (u 4, aI g 60 tx)]) rfl rfl rfl ?_
  refine j_if_ne (tgt := 18) C (by decide) dX5_append_9 (by decide) (fun c9 => ?_) (fun c9 => absurd c9 (by decide))
  refine j_aload_n C 0 dX5_append_18 rfl rfl ?_
  refine j_get C ck5 0 5 (by decide) qw667 rfl rfl dX5_append_19 ?_
  refine j_bipush C dX5_append_22 (by decide) ?_
  refine j_icmp_ne (tgt := 33) C (by omega) (by decide) dX5_append_24 (by decide) (fun c24 => absurd c24 (by omega)) (fun c24 => ?_)
  refine j_aload_n C 0 dX5_append_27 rfl rfl ?_
  refine j_iconst C dX5_append_28 ?_
  refine j_callV (As := [.int (iI 2)]) (rest := []) C yv_X5_fails qw721 (c_X5_fails l g u v ((sv : Int)) ((ln : Int)) th ap rm rd nw hh 2) (by decide) 0 rfl rfl rfl dX5_append_29 rfl (Nat.le_of_ble_eq_true rfl) (by decide) (pf1 [] [(u 1, aL g 75 v), (u 2, aL g 300 pa), (u 3, aL g 75 sd), (u 4, aI g 60 tx)]) rfl (fun r9 w9 hq9 => ?_)
  obtain ⟨rfl, rfl⟩ := hq9
  refine J.to (L1 := [(0, .ref (u 0)), (1, .int (iI x))]) (S1 := [.int (iI 0)]) (ws1 := [(u 0, .inr (5, [.ref (u 1), .ref (u 2), .ref (u 3), .int (iI ((sv : Int))), .ref (u 4), .int (iI ((ln : Int))), .int (iI 2), .int (iI ap), .int (iI rm), .ref (u 5), .int (iI rd), .int (iI nw), .ref (u 6), .long (lI hh)])), (u 1, aL g 75 v), (u 2, aL g 300 pa), (u 3, aL g 75 sd), (u 4, aI g 60 tx)]) rfl rfl rfl ?_
  exact j_iret C hr hlk dX5_append_32 ⟨rfl, rfl⟩ (by decide) (by decide)

theorem c_X5_clearText (l : Launch) (g : Gh) (u : Nat → Nat) (v pa sd tx rr rq : Nat → Int) (sv ln : Nat) (th ap rm rd nw hh : Int) (hln : ln ≤ 60)  : CT l g yX5_clearText cX5_clearText 2 (some FieldType.int) ({ frames := 1, cells := 0, slots := 0, locals := 21 }) [.ref (u 0)] [(u 0, .inr (5, [.ref (u 1), .ref (u 2), .ref (u 3), .int (iI ((sv : Int))), .ref (u 4), .int (iI ((ln : Int))), .int (iI th), .int (iI ap), .int (iI rm), .ref (u 5), .int (iI rd), .int (iI nw), .ref (u 6), .long (lI hh)])), (u 1, aL g 75 v), (u 2, aL g 300 pa), (u 3, aL g 75 sd), (u 4, aI g 60 tx)] (PE (some (.int (iI ((ln : Int))))) [(u 0, .inr (5, [.ref (u 1), .ref (u 2), .ref (u 3), .int (iI ((sv : Int))), .ref (u 4), .int (iI (((0 : Nat) : Int))), .int (iI 0), .int (iI ap), .int (iI rm), .ref (u 5), .int (iI rd), .int (iI nw), .ref (u 6), .long (lI hh)])), (u 1, aL g 75 v), (u 2, aL g 300 pa), (u 3, aL g 75 sd), (u 4, aI g 60 tx)]) := by
  refine CT.intro (L0 := [(0, .ref (u 0))]) (own := RX5) (by decide) rfl (Nat.le_of_ble_eq_true rfl) rfl ?_
  intro pX eX sX mX argsX belowX methX cX A C hr hlk
  refine j_aload_n C 0 dX5_clearText_0 rfl rfl ?_
  refine j_get C ck5 0 5 (by decide) qw667 rfl rfl dX5_clearText_1 ?_
  refine j_istore_n (L1 := [(1, .int (iI ((ln : Int)))), (0, .ref (u 0))]) C dX5_clearText_4 rfl (by decide) rfl ?_
  refine j_aload_n C 1 dX5_clearText_5 rfl rfl ?_
  refine j_iconst C dX5_clearText_6 ?_
  refine j_put (ws1 := [(u 0, .inr (5, [.ref (u 1), .ref (u 2), .ref (u 3), .int (iI ((sv : Int))), .ref (u 4), .int (iI 0), .int (iI th), .int (iI ap), .int (iI rm), .ref (u 5), .int (iI rd), .int (iI nw), .ref (u 6), .long (lI hh)])), (u 1, aL g 75 v), (u 2, aL g 300 pa), (u 3, aL g 75 sd), (u 4, aI g 60 tx)]) C ck5 0 5 (by decide) qw667 rfl dX5_clearText_7 rfl rfl rfl rfl (Nat.le_of_ble_eq_true rfl) ?_
  refine j_aload_n C 1 dX5_clearText_10 rfl rfl ?_
  refine j_iload_n C 0 dX5_clearText_11 rfl rfl ?_
  refine j_callV (As := [.int (iI ((ln : Int)))]) (rest := []) C yv_X5_tells qw734 (c_X5_tells l g u v ((sv : Int)) 0 th ap rm rd nw hh ((ln : Int))) (by decide) 0 rfl rfl rfl dX5_clearText_12 rfl (Nat.le_of_ble_eq_true rfl) (by decide) (pf1 [] [(u 1, aL g 75 v), (u 2, aL g 300 pa), (u 3, aL g 75 sd), (u 4, aI g 60 tx)]) rfl (fun r9 w9 hq9 => ?_)
  obtain ⟨rfl, rfl⟩ := hq9
  refine J.to (L1 := [(1, .int (iI ((ln : Int)))), (0, .ref (u 0))]) (S1 := [.int (iI ((ln : Int)))]) (ws1 := [(u 0, .inr (5, [.ref (u 1), .ref (u 2), .ref (u 3), .int (iI ((sv : Int))), .ref (u 4), .int (iI 0), .int (iI 0), .int (iI ap), .int (iI rm), .ref (u 5), .int (iI rd), .int (iI nw), .ref (u 6), .long (lI hh)])), (u 1, aL g 75 v), (u 2, aL g 300 pa), (u 3, aL g 75 sd), (u 4, aI g 60 tx)]) rfl rfl rfl ?_
  exact j_iret C hr hlk dX5_clearText_15 ⟨rfl, rfl⟩ (by decide) (by decide)

