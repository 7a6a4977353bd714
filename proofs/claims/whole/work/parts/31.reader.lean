/-! the reference: the reader -/
theorem c_X5_isAt_t (l : Launch) (g : Gh) (u : Nat → Nat) (v pa sd tx rr rq : Nat → Int) (ln ap nw : Nat) (sv th rm rd hh : Int) (lo hi : Int) (hn : ln ≤ 60) (htx : ∀ i, i < ln → 0 ≤ tx i ∧ tx i ≤ 127) (hlo : -1000 ≤ lo ∧ lo ≤ 1000) (hhi : -1000 ≤ hi ∧ hi ≤ 1000) (hd : dg tx ln lo hi ap) : CT l g yX5_isAt cX5_isAt 3 (some FieldType.boolean) ({ frames := 1, cells := 0, slots := 0, locals := 25 }) [.ref (u 0), .int (iI lo), .int (iI hi)] [(u 0, .inr (5, [.ref (u 1), .ref (u 2), .ref (u 3), .int (iI sv), .ref (u 4), .int (iI ((ln : Int))), .int (iI th), .int (iI ((ap : Int))), .int (iI rm), .ref (u 5), .int (iI rd), .int (iI ((nw : Int))), .ref (u 6), .long (lI hh)])), (u 1, aL g 75 v), (u 2, aL g 300 pa), (u 3, aL g 75 sd), (u 4, aI g 60 tx), (u 5, aI g 10 rr), (u 6, aI g 4 rq)] (PE (some (.int (iI 1))) [(u 0, .inr (5, [.ref (u 1), .ref (u 2), .ref (u 3), .int (iI sv), .ref (u 4), .int (iI ((ln : Int))), .int (iI th), .int (iI ((ap : Int))), .int (iI rm), .ref (u 5), .int (iI rd), .int (iI ((nw : Int))), .ref (u 6), .long (lI hh)])), (u 1, aL g 75 v), (u 2, aL g 300 pa), (u 3, aL g 75 sd), (u 4, aI g 60 tx), (u 5, aI g 10 rr), (u 6, aI g 4 rq)]) := by
  refine CT.intro (L0 := [(0, .ref (u 0)), (1, .int (iI lo)), (2, .int (iI hi))]) (own := RX5) (by decide) rfl (Nat.le_of_ble_eq_true rfl) rfl ?_
  intro pX eX sX mX argsX belowX methX cX A C hr hlk
  have hx9 := htx ap hd.1
  have hd1 := hd.1
  have hd2 := hd.2
  refine j_aload_n C 0 dX5_isAt_0 rfl rfl ?_
  refine j_get C ck5 0 7 (by decide) qw669 rfl rfl dX5_isAt_1 ?_
  refine j_aload_n C 0 dX5_isAt_4 rfl rfl ?_
  refine j_get C ck5 0 5 (by decide) qw667 rfl rfl dX5_isAt_5 ?_
  refine j_icmp_ge (tgt := 35) C (by omega) (by omega) dX5_isAt_8 (by decide) (fun c8 => absurd c8 (by omega)) (fun c8 => ?_)
  refine j_aload_n C 0 dX5_isAt_11 rfl rfl ?_
  refine j_get C ck5 0 4 (by decide) qw666 rfl rfl dX5_isAt_12 ?_
  refine j_aload_n C 0 dX5_isAt_15 rfl rfl ?_
  refine j_get C ck5 0 7 (by decide) qw669 rfl rfl dX5_isAt_16 ?_
  refine j_iald (n := 60) (f := tx) C 4 ap rfl rfl (by omega) (by decide) dX5_isAt_19 ?_
  refine j_i2l C (by omega) dX5_isAt_20 ?_
  refine j_iload_n C 1 dX5_isAt_21 rfl rfl ?_
  refine j_i2l C (by omega) dX5_isAt_22 ?_
  refine j_iload_n C 2 dX5_isAt_23 rfl rfl ?_
  refine j_i2l C (by omega) dX5_isAt_24 ?_
  refine j_callS (As := [.long (lI (tx ap)), .long (lI lo), .long (lI hi)]) (rest := []) C ys_X5_in qw718 (c_X5_in_t l g (tx ap) lo hi (by omega) (by omega) (by omega) (by omega)) (by decide) rfl dX5_isAt_25 rfl (Nat.le_of_ble_eq_true rfl) (by decide) (pf1 [] [(u 0, .inr (5, [.ref (u 1), .ref (u 2), .ref (u 3), .int (iI sv), .ref (u 4), .int (iI ((ln : Int))), .int (iI th), .int (iI ((ap : Int))), .int (iI rm), .ref (u 5), .int (iI rd), .int (iI ((nw : Int))), .ref (u 6), .long (lI hh)])), (u 1, aL g 75 v), (u 2, aL g 300 pa), (u 3, aL g 75 sd), (u 4, aI g 60 tx), (u 5, aI g 10 rr), (u 6, aI g 4 rq)]) rfl (fun r9 w9 hq9 => ?_)
  obtain ⟨rfl, rfl⟩ := hq9
  refine J.to (L1 := [(0, .ref (u 0)), (1, .int (iI lo)), (2, .int (iI hi))]) (S1 := [.int (iI 1)]) (ws1 := [(u 0, .inr (5, [.ref (u 1), .ref (u 2), .ref (u 3), .int (iI sv), .ref (u 4), .int (iI ((ln : Int))), .int (iI th), .int (iI ((ap : Int))), .int (iI rm), .ref (u 5), .int (iI rd), .int (iI ((nw : Int))), .ref (u 6), .long (lI hh)])), (u 1, aL g 75 v), (u 2, aL g 300 pa), (u 3, aL g 75 sd), (u 4, aI g 60 tx), (u 5, aI g 10 rr), (u 6, aI g 4 rq)]) rfl rfl rfl ?_
  refine j_if_eq (tgt := 35) C (by decide) dX5_isAt_28 (by decide) (fun c28 => absurd c28 (by decide)) (fun c28 => ?_)
  refine j_iconst C dX5_isAt_31 ?_
  refine j_goto (tgt := 36) C dX5_isAt_32 (by decide) ?_
  exact j_zret C hr hlk rfl dX5_isAt_36 ⟨rfl, rfl⟩ (by decide) (by decide)

theorem c_X5_isAt_f (l : Launch) (g : Gh) (u : Nat → Nat) (v pa sd tx rr rq : Nat → Int) (ln ap nw : Nat) (sv th rm rd hh : Int) (lo hi : Int) (hn : ln ≤ 60) (htx : ∀ i, i < ln → 0 ≤ tx i ∧ tx i ≤ 127) (hlo : -1000 ≤ lo ∧ lo ≤ 1000) (hhi : -1000 ≤ hi ∧ hi ≤ 1000) (hap : ap ≤ ln) (hd : ¬ dg tx ln lo hi ap) : CT l g yX5_isAt cX5_isAt 3 (some FieldType.boolean) ({ frames := 1, cells := 0, slots := 0, locals := 25 }) [.ref (u 0), .int (iI lo), .int (iI hi)] [(u 0, .inr (5, [.ref (u 1), .ref (u 2), .ref (u 3), .int (iI sv), .ref (u 4), .int (iI ((ln : Int))), .int (iI th), .int (iI ((ap : Int))), .int (iI rm), .ref (u 5), .int (iI rd), .int (iI ((nw : Int))), .ref (u 6), .long (lI hh)])), (u 1, aL g 75 v), (u 2, aL g 300 pa), (u 3, aL g 75 sd), (u 4, aI g 60 tx), (u 5, aI g 10 rr), (u 6, aI g 4 rq)] (PE (some (.int (iI 0))) [(u 0, .inr (5, [.ref (u 1), .ref (u 2), .ref (u 3), .int (iI sv), .ref (u 4), .int (iI ((ln : Int))), .int (iI th), .int (iI ((ap : Int))), .int (iI rm), .ref (u 5), .int (iI rd), .int (iI ((nw : Int))), .ref (u 6), .long (lI hh)])), (u 1, aL g 75 v), (u 2, aL g 300 pa), (u 3, aL g 75 sd), (u 4, aI g 60 tx), (u 5, aI g 10 rr), (u 6, aI g 4 rq)]) := by
  refine CT.intro (L0 := [(0, .ref (u 0)), (1, .int (iI lo)), (2, .int (iI hi))]) (own := RX5) (by decide) rfl (Nat.le_of_ble_eq_true rfl) rfl ?_
  intro pX eX sX mX argsX belowX methX cX A C hr hlk
  refine j_aload_n C 0 dX5_isAt_0 rfl rfl ?_
  refine j_get C ck5 0 7 (by decide) qw669 rfl rfl dX5_isAt_1 ?_
  refine j_aload_n C 0 dX5_isAt_4 rfl rfl ?_
  refine j_get C ck5 0 5 (by decide) qw667 rfl rfl dX5_isAt_5 ?_
  refine j_icmp_ge (tgt := 35) C (by omega) (by omega) dX5_isAt_8 (by decide) (fun c8 => ?_) (fun c8 => ?_)
  · refine j_iconst C dX5_isAt_35 ?_
    exact j_zret C hr hlk rfl dX5_isAt_36 ⟨rfl, rfl⟩ (by decide) (by decide)
  · have hx9 := htx ap (by omega)
    have hd2 : tx ap < lo ∨ hi < tx ap := by by_cases h1 : tx ap < lo; exact Or.inl h1; by_cases h2 : hi < tx ap; exact Or.inr h2; exact absurd ⟨by omega, by omega, by omega⟩ hd
    refine j_aload_n C 0 dX5_isAt_11 rfl rfl ?_
    refine j_get C ck5 0 4 (by decide) qw666 rfl rfl dX5_isAt_12 ?_
    refine j_aload_n C 0 dX5_isAt_15 rfl rfl ?_
    refine j_get C ck5 0 7 (by decide) qw669 rfl rfl dX5_isAt_16 ?_
    refine j_iald (n := 60) (f := tx) C 4 ap rfl rfl (by omega) (by decide) dX5_isAt_19 ?_
    refine j_i2l C (by omega) dX5_isAt_20 ?_
    refine j_iload_n C 1 dX5_isAt_21 rfl rfl ?_
    refine j_i2l C (by omega) dX5_isAt_22 ?_
    refine j_iload_n C 2 dX5_isAt_23 rfl rfl ?_
    refine j_i2l C (by omega) dX5_isAt_24 ?_
    refine j_callS (As := [.long (lI (tx ap)), .long (lI lo), .long (lI hi)]) (rest := []) C ys_X5_in qw718 (c_X5_in_f l g (tx ap) lo hi (by omega) (by omega) (by omega) (by omega)) (by decide) rfl dX5_isAt_25 rfl (Nat.le_of_ble_eq_true rfl) (by decide) (pf1 [] [(u 0, .inr (5, [.ref (u 1), .ref (u 2), .ref (u 3), .int (iI sv), .ref (u 4), .int (iI ((ln : Int))), .int (iI th), .int (iI ((ap : Int))), .int (iI rm), .ref (u 5), .int (iI rd), .int (iI ((nw : Int))), .ref (u 6), .long (lI hh)])), (u 1, aL g 75 v), (u 2, aL g 300 pa), (u 3, aL g 75 sd), (u 4, aI g 60 tx), (u 5, aI g 10 rr), (u 6, aI g 4 rq)]) rfl (fun r9 w9 hq9 => ?_)
    obtain ⟨rfl, rfl⟩ := hq9
    refine J.to (L1 := [(0, .ref (u 0)), (1, .int (iI lo)), (2, .int (iI hi))]) (S1 := [.int (iI 0)]) (ws1 := [(u 0, .inr (5, [.ref (u 1), .ref (u 2), .ref (u 3), .int (iI sv), .ref (u 4), .int (iI ((ln : Int))), .int (iI th), .int (iI ((ap : Int))), .int (iI rm), .ref (u 5), .int (iI rd), .int (iI ((nw : Int))), .ref (u 6), .long (lI hh)])), (u 1, aL g 75 v), (u 2, aL g 300 pa), (u 3, aL g 75 sd), (u 4, aI g 60 tx), (u 5, aI g 10 rr), (u 6, aI g 4 rq)]) rfl rfl rfl ?_
    refine j_if_eq (tgt := 35) C (by decide) dX5_isAt_28 (by decide) (fun c28 => ?_) (fun c28 => absurd c28 (by decide))
    refine j_iconst C dX5_isAt_35 ?_
    exact j_zret C hr hlk rfl dX5_isAt_36 ⟨rfl, rfl⟩ (by decide) (by decide)

theorem lm_readsWeight {p : Program} {l : Launch} {e : Env} {s : State} {m : MethodId} {args : Array Value} {below : List Frame} {meth : Method} {c : Code} {g : Gh} {A : Nat → Prop} {Q : State → Prop} (C : Cx p g s m args c cX5_readsWeight 3 RX5 A) {u : Nat → Nat} {v pa sd tx rr rq : Nat → Int} {ln s0 nw : Nat} {sv th rm rd hh : Int} (hn : ln ≤ 60) (htx : ∀ i, i < ln → 0 ≤ tx i ∧ tx i ≤ 127) (hs0 : s0 ≤ ln) (kk : J p l e ({ frames := 2, cells := 0, slots := 0, locals := 47 } : Room) s m args below meth c g A 3 59 [(0, .ref (u 0)), (1, .int (iI ((s0 : Int)))), (2, .int (iI (dv tx s0 (rn tx ln 48 57 5 s0))))] [] [(u 0, .inr (5, [.ref (u 1), .ref (u 2), .ref (u 3), .int (iI sv), .ref (u 4), .int (iI ((ln : Int))), .int (iI th), .int (iI (((s0 + rn tx ln 48 57 5 s0 : Nat) : Int))), .int (iI rm), .ref (u 5), .int (iI rd), .int (iI ((nw : Int))), .ref (u 6), .long (lI hh)])), (u 1, aL g 75 v), (u 2, aL g 300 pa), (u 3, aL g 75 sd), (u 4, aI g 60 tx), (u 5, aI g 10 rr), (u 6, aI g 4 rq)] 0 0 Q) : ∀ (f i : Nat), i + f = 5 → s0 + i ≤ ln → rn tx ln 48 57 5 s0 = i + rn tx ln 48 57 f (s0 + i) → J p l e ({ frames := 2, cells := 0, slots := 0, locals := 47 } : Room) s m args below meth c g A 3 7 [(0, .ref (u 0)), (1, .int (iI ((s0 : Int)))), (2, .int (iI (dv tx s0 i)))] [] [(u 0, .inr (5, [.ref (u 1), .ref (u 2), .ref (u 3), .int (iI sv), .ref (u 4), .int (iI ((ln : Int))), .int (iI th), .int (iI (((s0 + i : Nat) : Int))), .int (iI rm), .ref (u 5), .int (iI rd), .int (iI ((nw : Int))), .ref (u 6), .long (lI hh)])), (u 1, aL g 75 v), (u 2, aL g 300 pa), (u 3, aL g 75 sd), (u 4, aI g 60 tx), (u 5, aI g 10 rr), (u 6, aI g 4 rq)] 0 0 Q := by
  intro f
  induction f with
  | zero =>
    intro i hi hsi hm9
    refine j_aload_n C 0 dX5_readsWeight_7 rfl rfl ?_
    refine j_bipush C dX5_readsWeight_8 (by decide) ?_
    refine j_bipush C dX5_readsWeight_10 (by decide) ?_
    by_cases hd : dg tx ln 48 57 (s0 + i)
    · refine j_callV (As := [.int (iI 48), .int (iI 57)]) (rest := []) C yv_X5_isAt qw934 (c_X5_isAt_t l g u v pa sd tx rr rq ln (s0 + i) nw sv th rm rd hh 48 57 hn htx (by decide) (by decide) hd) (by decide) 0 rfl rfl rfl dX5_readsWeight_12 rfl (Nat.le_of_ble_eq_true rfl) (by decide) pf0 rfl (fun r9 w9 hq9 => ?_)
      obtain ⟨rfl, rfl⟩ := hq9
      refine J.to (L1 := [(0, .ref (u 0)), (1, .int (iI ((s0 : Int)))), (2, .int (iI (dv tx s0 i)))]) (S1 := [.int (iI 1)]) (ws1 := [(u 0, .inr (5, [.ref (u 1), .ref (u 2), .ref (u 3), .int (iI sv), .ref (u 4), .int (iI ((ln : Int))), .int (iI th), .int (iI (((s0 + i : Nat) : Int))), .int (iI rm), .ref (u 5), .int (iI rd), .int (iI ((nw : Int))), .ref (u 6), .long (lI hh)])), (u 1, aL g 75 v), (u 2, aL g 300 pa), (u 3, aL g 75 sd), (u 4, aI g 60 tx), (u 5, aI g 10 rr), (u 6, aI g 4 rq)]) rfl rfl rfl ?_
      refine j_if_eq (tgt := 59) C (by decide) dX5_readsWeight_15 (by decide) (fun c15 => absurd c15 (by decide)) (fun c15 => ?_)
      refine j_aload_n C 0 dX5_readsWeight_18 rfl rfl ?_
      refine j_get C ck5 0 7 (by decide) qw669 rfl rfl dX5_readsWeight_19 ?_
      refine j_iload_n C 1 dX5_readsWeight_22 rfl rfl ?_
      refine j_iconst C dX5_readsWeight_23 ?_
      refine j_iadd C dX5_readsWeight_24 ?_
      refine j_icmp_ge (tgt := 59) C (by omega) (by omega) dX5_readsWeight_25 (by decide) (fun c25 => ?_) (fun c25 => absurd c25 (by omega))
      refine J.sub (L1 := [(0, .ref (u 0)), (1, .int (iI ((s0 : Int)))), (2, .int (iI (dv tx s0 i)))]) [0, 1, 2] rfl ?_
      have e9 : i = rn tx ln 48 57 5 s0 := by rw [hm9]; rfl
      rw [← e9] at kk
      exact kk
    · refine j_callV (As := [.int (iI 48), .int (iI 57)]) (rest := []) C yv_X5_isAt qw934 (c_X5_isAt_f l g u v pa sd tx rr rq ln (s0 + i) nw sv th rm rd hh 48 57 hn htx (by decide) (by decide) (by omega) hd) (by decide) 0 rfl rfl rfl dX5_readsWeight_12 rfl (Nat.le_of_ble_eq_true rfl) (by decide) pf0 rfl (fun r9 w9 hq9 => ?_)
      obtain ⟨rfl, rfl⟩ := hq9
      refine J.to (L1 := [(0, .ref (u 0)), (1, .int (iI ((s0 : Int)))), (2, .int (iI (dv tx s0 i)))]) (S1 := [.int (iI 0)]) (ws1 := [(u 0, .inr (5, [.ref (u 1), .ref (u 2), .ref (u 3), .int (iI sv), .ref (u 4), .int (iI ((ln : Int))), .int (iI th), .int (iI (((s0 + i : Nat) : Int))), .int (iI rm), .ref (u 5), .int (iI rd), .int (iI ((nw : Int))), .ref (u 6), .long (lI hh)])), (u 1, aL g 75 v), (u 2, aL g 300 pa), (u 3, aL g 75 sd), (u 4, aI g 60 tx), (u 5, aI g 10 rr), (u 6, aI g 4 rq)]) rfl rfl rfl ?_
      refine j_if_eq (tgt := 59) C (by decide) dX5_readsWeight_15 (by decide) (fun c15 => ?_) (fun c15 => absurd c15 (by decide))
      refine J.sub (L1 := [(0, .ref (u 0)), (1, .int (iI ((s0 : Int)))), (2, .int (iI (dv tx s0 i)))]) [0, 1, 2] rfl ?_
      have e9 : i = rn tx ln 48 57 5 s0 := by rw [hm9]; rfl
      rw [← e9] at kk
      exact kk
  | succ f ih =>
    intro i hi hsi hm9
    refine j_aload_n C 0 dX5_readsWeight_7 rfl rfl ?_
    refine j_bipush C dX5_readsWeight_8 (by decide) ?_
    refine j_bipush C dX5_readsWeight_10 (by decide) ?_
    by_cases hd : dg tx ln 48 57 (s0 + i)
    · refine j_callV (As := [.int (iI 48), .int (iI 57)]) (rest := []) C yv_X5_isAt qw934 (c_X5_isAt_t l g u v pa sd tx rr rq ln (s0 + i) nw sv th rm rd hh 48 57 hn htx (by decide) (by decide) hd) (by decide) 0 rfl rfl rfl dX5_readsWeight_12 rfl (Nat.le_of_ble_eq_true rfl) (by decide) pf0 rfl (fun r9 w9 hq9 => ?_)
      obtain ⟨rfl, rfl⟩ := hq9
      refine J.to (L1 := [(0, .ref (u 0)), (1, .int (iI ((s0 : Int)))), (2, .int (iI (dv tx s0 i)))]) (S1 := [.int (iI 1)]) (ws1 := [(u 0, .inr (5, [.ref (u 1), .ref (u 2), .ref (u 3), .int (iI sv), .ref (u 4), .int (iI ((ln : Int))), .int (iI th), .int (iI (((s0 + i : Nat) : Int))), .int (iI rm), .ref (u 5), .int (iI rd), .int (iI ((nw : Int))), .ref (u 6), .long (lI hh)])), (u 1, aL g 75 v), (u 2, aL g 300 pa), (u 3, aL g 75 sd), (u 4, aI g 60 tx), (u 5, aI g 10 rr), (u 6, aI g 4 rq)]) rfl rfl rfl ?_
      refine j_if_eq (tgt := 59) C (by decide) dX5_readsWeight_15 (by decide) (fun c15 => absurd c15 (by decide)) (fun c15 => ?_)
      refine j_aload_n C 0 dX5_readsWeight_18 rfl rfl ?_
      refine j_get C ck5 0 7 (by decide) qw669 rfl rfl dX5_readsWeight_19 ?_
      refine j_iload_n C 1 dX5_readsWeight_22 rfl rfl ?_
      refine j_iconst C dX5_readsWeight_23 ?_
      refine j_iadd C dX5_readsWeight_24 ?_
      refine j_icmp_ge (tgt := 59) C (by omega) (by omega) dX5_readsWeight_25 (by decide) (fun c25 => absurd c25 (by omega)) (fun c25 => ?_)
      have hd1 := hd.1
      have hx9 := htx (s0 + i) hd1
      refine j_bipush C dX5_readsWeight_28 (by decide) ?_
      refine j_iload_n C 2 dX5_readsWeight_30 rfl rfl ?_
      refine j_imul C dX5_readsWeight_31 ?_
      refine j_aload_n C 0 dX5_readsWeight_32 rfl rfl ?_
      refine j_get C ck5 0 4 (by decide) qw666 rfl rfl dX5_readsWeight_33 ?_
      refine j_aload_n C 0 dX5_readsWeight_36 rfl rfl ?_
      refine j_get C ck5 0 7 (by decide) qw669 rfl rfl dX5_readsWeight_37 ?_
      refine j_iald (n := 60) (f := tx) C 4 (s0 + i) rfl (by omega) (by omega) (by decide) dX5_readsWeight_40 ?_
      refine j_iadd C dX5_readsWeight_41 ?_
      refine j_bipush C dX5_readsWeight_42 (by decide) ?_
      refine j_isub C dX5_readsWeight_44 ?_
      refine j_istore_n (L1 := [(2, .int (iI (((10 * (dv tx s0 i)) + (tx (s0 + i))) - 48))), (0, .ref (u 0)), (1, .int (iI ((s0 : Int))))]) C dX5_readsWeight_45 rfl (by decide) rfl ?_
      refine j_aload_n C 1 dX5_readsWeight_46 rfl rfl ?_
      refine j_dup C dX5_readsWeight_47 rfl ?_
      refine j_get C ck5 0 7 (by decide) qw669 rfl rfl dX5_readsWeight_48 ?_
      refine j_iconst C dX5_readsWeight_51 ?_
      refine j_iadd C dX5_readsWeight_52 ?_
      refine j_put (ws1 := [(u 0, .inr (5, [.ref (u 1), .ref (u 2), .ref (u 3), .int (iI sv), .ref (u 4), .int (iI ((ln : Int))), .int (iI th), .int (iI ((((s0 + i : Nat) : Int)) + 1)), .int (iI rm), .ref (u 5), .int (iI rd), .int (iI ((nw : Int))), .ref (u 6), .long (lI hh)])), (u 1, aL g 75 v), (u 2, aL g 300 pa), (u 3, aL g 75 sd), (u 4, aI g 60 tx), (u 5, aI g 10 rr), (u 6, aI g 4 rq)]) C ck5 0 7 (by decide) qw669 rfl dX5_readsWeight_53 rfl rfl rfl rfl (Nat.le_of_ble_eq_true rfl) ?_
      refine j_goto (tgt := 7) C dX5_readsWeight_56 (by decide) ?_
      refine J.sub (L1 := [(0, .ref (u 0)), (1, .int (iI ((s0 : Int)))), (2, .int (iI (((10 * (dv tx s0 i)) + (tx (s0 + i))) - 48)))]) [1, 2, 0] rfl ?_
      rw [show 10 * dv tx s0 i + tx (s0 + i) - 48 = dv tx s0 (i + 1) by rw [dv]; omega]
      exact ih (i + 1) (by omega) (by have := hd.1; omega) (by rw [rn_t hd] at hm9; rw [hm9, show s0 + (i + 1) = s0 + i + 1 by omega]; omega)
    · refine j_callV (As := [.int (iI 48), .int (iI 57)]) (rest := []) C yv_X5_isAt qw934 (c_X5_isAt_f l g u v pa sd tx rr rq ln (s0 + i) nw sv th rm rd hh 48 57 hn htx (by decide) (by decide) (by omega) hd) (by decide) 0 rfl rfl rfl dX5_readsWeight_12 rfl (Nat.le_of_ble_eq_true rfl) (by decide) pf0 rfl (fun r9 w9 hq9 => ?_)
      obtain ⟨rfl, rfl⟩ := hq9
      refine J.to (L1 := [(0, .ref (u 0)), (1, .int (iI ((s0 : Int)))), (2, .int (iI (dv tx s0 i)))]) (S1 := [.int (iI 0)]) (ws1 := [(u 0, .inr (5, [.ref (u 1), .ref (u 2), .ref (u 3), .int (iI sv), .ref (u 4), .int (iI ((ln : Int))), .int (iI th), .int (iI (((s0 + i : Nat) : Int))), .int (iI rm), .ref (u 5), .int (iI rd), .int (iI ((nw : Int))), .ref (u 6), .long (lI hh)])), (u 1, aL g 75 v), (u 2, aL g 300 pa), (u 3, aL g 75 sd), (u 4, aI g 60 tx), (u 5, aI g 10 rr), (u 6, aI g 4 rq)]) rfl rfl rfl ?_
      refine j_if_eq (tgt := 59) C (by decide) dX5_readsWeight_15 (by decide) (fun c15 => ?_) (fun c15 => absurd c15 (by decide))
      refine J.sub (L1 := [(0, .ref (u 0)), (1, .int (iI ((s0 : Int)))), (2, .int (iI (dv tx s0 i)))]) [0, 1, 2] rfl ?_
      have e9 : i = rn tx ln 48 57 5 s0 := by rw [hm9]; rw [rn_f hd]; rfl
      rw [← e9] at kk
      exact kk

theorem dva {tx : Nat → Int} {n p : Nat} : 0 ≤ dv tx p (rn tx n 48 57 5 p) ∧ dv tx p (rn tx n 48 57 5 p) < 100000 := by
  have h1 := dv_rng (tx := tx) (n := n) (p := p) (m := rn tx n 48 57 5 p) (fun i hi => rn_dg hi)
  have h2 := rn_le tx n 48 57 5 p
  have h3 : (10 : Int) ^ rn tx n 48 57 5 p ≤ 10 ^ 5 := by
    rcases Nat.eq_or_lt_of_le h2 with h | h
    · rw [h]; exact Int.le_refl _
    · exact Int.le_of_lt (Int.pow_lt_pow_of_lt (by decide) h)
  have h4 : (10 : Int) ^ 5 = 100000 := by decide
  omega
theorem rna {tx : Nat → Int} {n p : Nat} (hp : p ≤ n) : rn tx n 48 57 5 p ≤ 5 ∧ p + rn tx n 48 57 5 p ≤ n := by
  have h1 := rn_le tx n 48 57 5 p
  refine ⟨h1, ?_⟩
  rcases Nat.eq_zero_or_pos (rn tx n 48 57 5 p) with h0 | h0
  · omega
  · have h2 := (rn_dg (tx := tx) (n := n) (lo := 48) (hi := 57) (f := 5) (p := p) (i := rn tx n 48 57 5 p - 1) (by omega)).1
    omega
theorem c_X5_readsWeight_ok (l : Launch) (g : Gh) (u : Nat → Nat) (v pa sd tx rr rq : Nat → Int) (ln ap nw : Nat) (sv th rm rd hh : Int) (hn : ln ≤ 60) (htx : ∀ i, i < ln → 0 ≤ tx i ∧ tx i ≤ 127) (hap : ap ≤ ln) (hnw : nw < 4) (hm0 : rn tx ln 48 57 5 ap ≠ 0) (hd2 : ¬ dg tx ln 48 57 (ap + rn tx ln 48 57 5 ap)) (hv : dv tx ap (rn tx ln 48 57 5 ap) ≤ 50000) : CT l g yX5_readsWeight cX5_readsWeight 3 (some FieldType.boolean) ({ frames := 2, cells := 0, slots := 0, locals := 47 }) [.ref (u 0)] [(u 0, .inr (5, [.ref (u 1), .ref (u 2), .ref (u 3), .int (iI sv), .ref (u 4), .int (iI ((ln : Int))), .int (iI th), .int (iI ((ap : Int))), .int (iI rm), .ref (u 5), .int (iI rd), .int (iI ((nw : Int))), .ref (u 6), .long (lI hh)])), (u 1, aL g 75 v), (u 2, aL g 300 pa), (u 3, aL g 75 sd), (u 4, aI g 60 tx), (u 5, aI g 10 rr), (u 6, aI g 4 rq)] (PE (some (.int (iI 1))) [(u 0, .inr (5, [.ref (u 1), .ref (u 2), .ref (u 3), .int (iI sv), .ref (u 4), .int (iI ((ln : Int))), .int (iI th), .int (iI (((ap + rn tx ln 48 57 5 ap : Nat) : Int))), .int (iI rm), .ref (u 5), .int (iI rd), .int (iI (((nw + 1 : Nat) : Int))), .ref (u 6), .long (lI hh)])), (u 1, aL g 75 v), (u 2, aL g 300 pa), (u 3, aL g 75 sd), (u 4, aI g 60 tx), (u 5, aI g 10 rr), (u 6, aI g 4 (va_up rq nw (dv tx ap (rn tx ln 48 57 5 ap))))]) := by
  refine CT.intro (L0 := [(0, .ref (u 0))]) (own := RX5) (by decide) rfl (Nat.le_of_ble_eq_true rfl) rfl ?_
  intro pX eX sX mX argsX belowX methX cX A C hr hlk
  have hv9 := dva (tx := tx) (n := ln) (p := ap)
  have hm8 := rna (tx := tx) (n := ln) hap
  refine j_aload_n C 0 dX5_readsWeight_0 rfl rfl ?_
  refine j_get C ck5 0 7 (by decide) qw669 rfl rfl dX5_readsWeight_1 ?_
  refine j_istore_n (L1 := [(1, .int (iI ((ap : Int)))), (0, .ref (u 0))]) C dX5_readsWeight_4 rfl (by decide) rfl ?_
  refine j_iconst C dX5_readsWeight_5 ?_
  refine j_istore_n (L1 := [(2, .int (iI 0)), (1, .int (iI ((ap : Int)))), (0, .ref (u 0))]) C dX5_readsWeight_6 rfl (by decide) rfl ?_
  refine J.sub (L1 := [(0, .ref (u 0)), (1, .int (iI ((ap : Int)))), (2, .int (iI 0))]) [2, 1, 0] rfl ?_
  refine J.to (L1 := [(0, .ref (u 0)), (1, .int (iI ((ap : Int)))), (2, .int (iI (dv tx ap 0)))]) (S1 := []) (ws1 := [(u 0, .inr (5, [.ref (u 1), .ref (u 2), .ref (u 3), .int (iI sv), .ref (u 4), .int (iI ((ln : Int))), .int (iI th), .int (iI (((ap + 0 : Nat) : Int))), .int (iI rm), .ref (u 5), .int (iI rd), .int (iI ((nw : Int))), .ref (u 6), .long (lI hh)])), (u 1, aL g 75 v), (u 2, aL g 300 pa), (u 3, aL g 75 sd), (u 4, aI g 60 tx), (u 5, aI g 10 rr), (u 6, aI g 4 rq)]) rfl rfl rfl ?_
  refine lm_readsWeight (s0 := ap) C hn htx hap ?_ 5 0 (by omega) (by omega) (by rw [Nat.zero_add]; rfl)
  refine j_aload_n C 0 dX5_readsWeight_59 rfl rfl ?_
  refine j_get C ck5 0 7 (by decide) qw669 rfl rfl dX5_readsWeight_60 ?_
  refine j_iload_n C 1 dX5_readsWeight_63 rfl rfl ?_
  refine j_icmp_eq (tgt := 78) C (by omega) (by omega) dX5_readsWeight_64 (by decide) (fun c64 => absurd c64 (by omega)) (fun c64 => ?_)
  refine j_aload_n C 0 dX5_readsWeight_67 rfl rfl ?_
  refine j_bipush C dX5_readsWeight_68 (by decide) ?_
  refine j_bipush C dX5_readsWeight_70 (by decide) ?_
  refine j_callV (As := [.int (iI 48), .int (iI 57)]) (rest := []) C yv_X5_isAt qw934 (c_X5_isAt_f l g u v pa sd tx rr rq ln (ap + rn tx ln 48 57 5 ap) nw sv th rm rd hh 48 57 hn htx (by decide) (by decide) (by omega) hd2) (by decide) 0 rfl rfl rfl dX5_readsWeight_72 rfl (Nat.le_of_ble_eq_true rfl) (by decide) pf0 rfl (fun r9 w9 hq9 => ?_)
  obtain ⟨rfl, rfl⟩ := hq9
  refine J.to (L1 := [(0, .ref (u 0)), (1, .int (iI ((ap : Int)))), (2, .int (iI (dv tx ap (rn tx ln 48 57 5 ap))))]) (S1 := [.int (iI 0)]) (ws1 := [(u 0, .inr (5, [.ref (u 1), .ref (u 2), .ref (u 3), .int (iI sv), .ref (u 4), .int (iI ((ln : Int))), .int (iI th), .int (iI (((ap + rn tx ln 48 57 5 ap : Nat) : Int))), .int (iI rm), .ref (u 5), .int (iI rd), .int (iI ((nw : Int))), .ref (u 6), .long (lI hh)])), (u 1, aL g 75 v), (u 2, aL g 300 pa), (u 3, aL g 75 sd), (u 4, aI g 60 tx), (u 5, aI g 10 rr), (u 6, aI g 4 rq)]) rfl rfl rfl ?_
  refine j_if_eq (tgt := 80) C (by decide) dX5_readsWeight_75 (by decide) (fun c75 => ?_) (fun c75 => absurd c75 (by decide))
  refine j_aload_n C 0 dX5_readsWeight_80 rfl rfl ?_
  refine j_get C ck5 0 12 (by decide) qw674 rfl rfl dX5_readsWeight_81 ?_
  refine j_aload_n C 0 dX5_readsWeight_84 rfl rfl ?_
  refine j_get C ck5 0 11 (by decide) qw673 rfl rfl dX5_readsWeight_85 ?_
  refine j_iload_n C 2 dX5_readsWeight_88 rfl rfl ?_
  refine j_iast (n := 4) (f := rq) (ws1 := [(u 0, .inr (5, [.ref (u 1), .ref (u 2), .ref (u 3), .int (iI sv), .ref (u 4), .int (iI ((ln : Int))), .int (iI th), .int (iI (((ap + rn tx ln 48 57 5 ap : Nat) : Int))), .int (iI rm), .ref (u 5), .int (iI rd), .int (iI ((nw : Int))), .ref (u 6), .long (lI hh)])), (u 1, aL g 75 v), (u 2, aL g 300 pa), (u 3, aL g 75 sd), (u 4, aI g 60 tx), (u 5, aI g 10 rr), (u 6, aI g 4 (va_up rq nw (dv tx ap (rn tx ln 48 57 5 ap))))]) C 6 nw rfl rfl (by omega) (by decide) dX5_readsWeight_89 rfl ?_
  refine j_aload_n C 0 dX5_readsWeight_90 rfl rfl ?_
  refine j_dup C dX5_readsWeight_91 rfl ?_
  refine j_get C ck5 0 11 (by decide) qw673 rfl rfl dX5_readsWeight_92 ?_
  refine j_iconst C dX5_readsWeight_95 ?_
  refine j_iadd C dX5_readsWeight_96 ?_
  refine j_put (ws1 := [(u 0, .inr (5, [.ref (u 1), .ref (u 2), .ref (u 3), .int (iI sv), .ref (u 4), .int (iI ((ln : Int))), .int (iI th), .int (iI (((ap + rn tx ln 48 57 5 ap : Nat) : Int))), .int (iI rm), .ref (u 5), .int (iI rd), .int (iI (((nw : Int)) + 1)), .ref (u 6), .long (lI hh)])), (u 1, aL g 75 v), (u 2, aL g 300 pa), (u 3, aL g 75 sd), (u 4, aI g 60 tx), (u 5, aI g 10 rr), (u 6, aI g 4 (va_up rq nw (dv tx ap (rn tx ln 48 57 5 ap))))]) C ck5 0 11 (by decide) qw673 rfl dX5_readsWeight_97 rfl rfl rfl rfl (Nat.le_of_ble_eq_true rfl) ?_
  refine j_aload_n C 0 dX5_readsWeight_100 rfl rfl ?_
  refine j_iload_n C 2 dX5_readsWeight_101 rfl rfl ?_
  refine j_ldc (x := 50000) C qw942 (by decide) dX5_readsWeight_102 ?_
  refine j_icmp_le (tgt := 111) C (by omega) (by decide) dX5_readsWeight_104 (by decide) (fun c104 => ?_) (fun c104 => absurd c104 (by omega))
  refine j_aload_n C 0 dX5_readsWeight_111 rfl rfl ?_
  refine j_get C ck5 0 7 (by decide) qw669 rfl rfl dX5_readsWeight_112 ?_
  refine j_put (ws1 := [(u 0, .inr (5, [.ref (u 1), .ref (u 2), .ref (u 3), .int (iI sv), .ref (u 4), .int (iI ((ln : Int))), .int (iI th), .int (iI (((ap + rn tx ln 48 57 5 ap : Nat) : Int))), .int (iI rm), .ref (u 5), .int (iI rd), .int (iI (((nw : Int)) + 1)), .ref (u 6), .long (lI hh)])), (u 1, aL g 75 v), (u 2, aL g 300 pa), (u 3, aL g 75 sd), (u 4, aI g 60 tx), (u 5, aI g 10 rr), (u 6, aI g 4 (va_up rq nw (dv tx ap (rn tx ln 48 57 5 ap))))]) C ck5 0 7 (by decide) qw669 rfl dX5_readsWeight_115 rfl rfl rfl rfl (Nat.le_of_ble_eq_true rfl) ?_
  refine j_iload_n C 2 dX5_readsWeight_118 rfl rfl ?_
  refine j_ldc (x := 50000) C qw942 (by decide) dX5_readsWeight_119 ?_
  refine j_icmp_gt (tgt := 128) C (by omega) (by decide) dX5_readsWeight_121 (by decide) (fun c121 => absurd c121 (by omega)) (fun c121 => ?_)
  refine j_iconst C dX5_readsWeight_124 ?_
  refine j_goto (tgt := 129) C dX5_readsWeight_125 (by decide) ?_
  exact j_zret C hr hlk rfl dX5_readsWeight_129 ⟨rfl, rfl⟩ (by decide) (by decide)

theorem c_X5_readsWeight_m0 (l : Launch) (g : Gh) (u : Nat → Nat) (v pa sd tx rr rq : Nat → Int) (ln ap nw : Nat) (sv th rm rd hh : Int) (hn : ln ≤ 60) (htx : ∀ i, i < ln → 0 ≤ tx i ∧ tx i ≤ 127) (hap : ap ≤ ln) (hnw : nw < 4) (hm0 : rn tx ln 48 57 5 ap = 0) : CT l g yX5_readsWeight cX5_readsWeight 3 (some FieldType.boolean) ({ frames := 2, cells := 0, slots := 0, locals := 47 }) [.ref (u 0)] [(u 0, .inr (5, [.ref (u 1), .ref (u 2), .ref (u 3), .int (iI sv), .ref (u 4), .int (iI ((ln : Int))), .int (iI th), .int (iI ((ap : Int))), .int (iI rm), .ref (u 5), .int (iI rd), .int (iI ((nw : Int))), .ref (u 6), .long (lI hh)])), (u 1, aL g 75 v), (u 2, aL g 300 pa), (u 3, aL g 75 sd), (u 4, aI g 60 tx), (u 5, aI g 10 rr), (u 6, aI g 4 rq)] (PE (some (.int (iI 0))) [(u 0, .inr (5, [.ref (u 1), .ref (u 2), .ref (u 3), .int (iI sv), .ref (u 4), .int (iI ((ln : Int))), .int (iI th), .int (iI (((ap + rn tx ln 48 57 5 ap : Nat) : Int))), .int (iI rm), .ref (u 5), .int (iI rd), .int (iI ((nw : Int))), .ref (u 6), .long (lI hh)])), (u 1, aL g 75 v), (u 2, aL g 300 pa), (u 3, aL g 75 sd), (u 4, aI g 60 tx), (u 5, aI g 10 rr), (u 6, aI g 4 rq)]) := by
  refine CT.intro (L0 := [(0, .ref (u 0))]) (own := RX5) (by decide) rfl (Nat.le_of_ble_eq_true rfl) rfl ?_
  intro pX eX sX mX argsX belowX methX cX A C hr hlk
  have hv9 := dva (tx := tx) (n := ln) (p := ap)
  have hm8 := rna (tx := tx) (n := ln) hap
  refine j_aload_n C 0 dX5_readsWeight_0 rfl rfl ?_
  refine j_get C ck5 0 7 (by decide) qw669 rfl rfl dX5_readsWeight_1 ?_
  refine j_istore_n (L1 := [(1, .int (iI ((ap : Int)))), (0, .ref (u 0))]) C dX5_readsWeight_4 rfl (by decide) rfl ?_
  refine j_iconst C dX5_readsWeight_5 ?_
  refine j_istore_n (L1 := [(2, .int (iI 0)), (1, .int (iI ((ap : Int)))), (0, .ref (u 0))]) C dX5_readsWeight_6 rfl (by decide) rfl ?_
  refine J.sub (L1 := [(0, .ref (u 0)), (1, .int (iI ((ap : Int)))), (2, .int (iI 0))]) [2, 1, 0] rfl ?_
  refine J.to (L1 := [(0, .ref (u 0)), (1, .int (iI ((ap : Int)))), (2, .int (iI (dv tx ap 0)))]) (S1 := []) (ws1 := [(u 0, .inr (5, [.ref (u 1), .ref (u 2), .ref (u 3), .int (iI sv), .ref (u 4), .int (iI ((ln : Int))), .int (iI th), .int (iI (((ap + 0 : Nat) : Int))), .int (iI rm), .ref (u 5), .int (iI rd), .int (iI ((nw : Int))), .ref (u 6), .long (lI hh)])), (u 1, aL g 75 v), (u 2, aL g 300 pa), (u 3, aL g 75 sd), (u 4, aI g 60 tx), (u 5, aI g 10 rr), (u 6, aI g 4 rq)]) rfl rfl rfl ?_
  refine lm_readsWeight (s0 := ap) C hn htx hap ?_ 5 0 (by omega) (by omega) (by rw [Nat.zero_add]; rfl)
  refine j_aload_n C 0 dX5_readsWeight_59 rfl rfl ?_
  refine j_get C ck5 0 7 (by decide) qw669 rfl rfl dX5_readsWeight_60 ?_
  refine j_iload_n C 1 dX5_readsWeight_63 rfl rfl ?_
  refine j_icmp_eq (tgt := 78) C (by omega) (by omega) dX5_readsWeight_64 (by decide) (fun c64 => ?_) (fun c64 => absurd c64 (by omega))
  refine j_iconst C dX5_readsWeight_78 ?_
  exact j_zret C hr hlk rfl dX5_readsWeight_79 ⟨rfl, rfl⟩ (by decide) (by decide)

theorem c_X5_readsWeight_dg (l : Launch) (g : Gh) (u : Nat → Nat) (v pa sd tx rr rq : Nat → Int) (ln ap nw : Nat) (sv th rm rd hh : Int) (hn : ln ≤ 60) (htx : ∀ i, i < ln → 0 ≤ tx i ∧ tx i ≤ 127) (hap : ap ≤ ln) (hnw : nw < 4) (hm0 : rn tx ln 48 57 5 ap ≠ 0) (hd2 : dg tx ln 48 57 (ap + rn tx ln 48 57 5 ap)) : CT l g yX5_readsWeight cX5_readsWeight 3 (some FieldType.boolean) ({ frames := 2, cells := 0, slots := 0, locals := 47 }) [.ref (u 0)] [(u 0, .inr (5, [.ref (u 1), .ref (u 2), .ref (u 3), .int (iI sv), .ref (u 4), .int (iI ((ln : Int))), .int (iI th), .int (iI ((ap : Int))), .int (iI rm), .ref (u 5), .int (iI rd), .int (iI ((nw : Int))), .ref (u 6), .long (lI hh)])), (u 1, aL g 75 v), (u 2, aL g 300 pa), (u 3, aL g 75 sd), (u 4, aI g 60 tx), (u 5, aI g 10 rr), (u 6, aI g 4 rq)] (PE (some (.int (iI 0))) [(u 0, .inr (5, [.ref (u 1), .ref (u 2), .ref (u 3), .int (iI sv), .ref (u 4), .int (iI ((ln : Int))), .int (iI th), .int (iI (((ap + rn tx ln 48 57 5 ap : Nat) : Int))), .int (iI rm), .ref (u 5), .int (iI rd), .int (iI ((nw : Int))), .ref (u 6), .long (lI hh)])), (u 1, aL g 75 v), (u 2, aL g 300 pa), (u 3, aL g 75 sd), (u 4, aI g 60 tx), (u 5, aI g 10 rr), (u 6, aI g 4 rq)]) := by
  refine CT.intro (L0 := [(0, .ref (u 0))]) (own := RX5) (by decide) rfl (Nat.le_of_ble_eq_true rfl) rfl ?_
  intro pX eX sX mX argsX belowX methX cX A C hr hlk
  have hv9 := dva (tx := tx) (n := ln) (p := ap)
  have hm8 := rna (tx := tx) (n := ln) hap
  refine j_aload_n C 0 dX5_readsWeight_0 rfl rfl ?_
  refine j_get C ck5 0 7 (by decide) qw669 rfl rfl dX5_readsWeight_1 ?_
  refine j_istore_n (L1 := [(1, .int (iI ((ap : Int)))), (0, .ref (u 0))]) C dX5_readsWeight_4 rfl (by decide) rfl ?_
  refine j_iconst C dX5_readsWeight_5 ?_
  refine j_istore_n (L1 := [(2, .int (iI 0)), (1, .int (iI ((ap : Int)))), (0, .ref (u 0))]) C dX5_readsWeight_6 rfl (by decide) rfl ?_
  refine J.sub (L1 := [(0, .ref (u 0)), (1, .int (iI ((ap : Int)))), (2, .int (iI 0))]) [2, 1, 0] rfl ?_
  refine J.to (L1 := [(0, .ref (u 0)), (1, .int (iI ((ap : Int)))), (2, .int (iI (dv tx ap 0)))]) (S1 := []) (ws1 := [(u 0, .inr (5, [.ref (u 1), .ref (u 2), .ref (u 3), .int (iI sv), .ref (u 4), .int (iI ((ln : Int))), .int (iI th), .int (iI (((ap + 0 : Nat) : Int))), .int (iI rm), .ref (u 5), .int (iI rd), .int (iI ((nw : Int))), .ref (u 6), .long (lI hh)])), (u 1, aL g 75 v), (u 2, aL g 300 pa), (u 3, aL g 75 sd), (u 4, aI g 60 tx), (u 5, aI g 10 rr), (u 6, aI g 4 rq)]) rfl rfl rfl ?_
  refine lm_readsWeight (s0 := ap) C hn htx hap ?_ 5 0 (by omega) (by omega) (by rw [Nat.zero_add]; rfl)
  refine j_aload_n C 0 dX5_readsWeight_59 rfl rfl ?_
  refine j_get C ck5 0 7 (by decide) qw669 rfl rfl dX5_readsWeight_60 ?_
  refine j_iload_n C 1 dX5_readsWeight_63 rfl rfl ?_
  refine j_icmp_eq (tgt := 78) C (by omega) (by omega) dX5_readsWeight_64 (by decide) (fun c64 => absurd c64 (by omega)) (fun c64 => ?_)
  refine j_aload_n C 0 dX5_readsWeight_67 rfl rfl ?_
  refine j_bipush C dX5_readsWeight_68 (by decide) ?_
  refine j_bipush C dX5_readsWeight_70 (by decide) ?_
  refine j_callV (As := [.int (iI 48), .int (iI 57)]) (rest := []) C yv_X5_isAt qw934 (c_X5_isAt_t l g u v pa sd tx rr rq ln (ap + rn tx ln 48 57 5 ap) nw sv th rm rd hh 48 57 hn htx (by decide) (by decide) hd2) (by decide) 0 rfl rfl rfl dX5_readsWeight_72 rfl (Nat.le_of_ble_eq_true rfl) (by decide) pf0 rfl (fun r9 w9 hq9 => ?_)
  obtain ⟨rfl, rfl⟩ := hq9
  refine J.to (L1 := [(0, .ref (u 0)), (1, .int (iI ((ap : Int)))), (2, .int (iI (dv tx ap (rn tx ln 48 57 5 ap))))]) (S1 := [.int (iI 1)]) (ws1 := [(u 0, .inr (5, [.ref (u 1), .ref (u 2), .ref (u 3), .int (iI sv), .ref (u 4), .int (iI ((ln : Int))), .int (iI th), .int (iI (((ap + rn tx ln 48 57 5 ap : Nat) : Int))), .int (iI rm), .ref (u 5), .int (iI rd), .int (iI ((nw : Int))), .ref (u 6), .long (lI hh)])), (u 1, aL g 75 v), (u 2, aL g 300 pa), (u 3, aL g 75 sd), (u 4, aI g 60 tx), (u 5, aI g 10 rr), (u 6, aI g 4 rq)]) rfl rfl rfl ?_
  refine j_if_eq (tgt := 80) C (by decide) dX5_readsWeight_75 (by decide) (fun c75 => absurd c75 (by decide)) (fun c75 => ?_)
  refine j_iconst C dX5_readsWeight_78 ?_
  exact j_zret C hr hlk rfl dX5_readsWeight_79 ⟨rfl, rfl⟩ (by decide) (by decide)

theorem c_X5_readsWeight_big (l : Launch) (g : Gh) (u : Nat → Nat) (v pa sd tx rr rq : Nat → Int) (ln ap nw : Nat) (sv th rm rd hh : Int) (hn : ln ≤ 60) (htx : ∀ i, i < ln → 0 ≤ tx i ∧ tx i ≤ 127) (hap : ap ≤ ln) (hnw : nw < 4) (hm0 : rn tx ln 48 57 5 ap ≠ 0) (hd2 : ¬ dg tx ln 48 57 (ap + rn tx ln 48 57 5 ap)) (hv : 50000 < dv tx ap (rn tx ln 48 57 5 ap)) : CT l g yX5_readsWeight cX5_readsWeight 3 (some FieldType.boolean) ({ frames := 2, cells := 0, slots := 0, locals := 47 }) [.ref (u 0)] [(u 0, .inr (5, [.ref (u 1), .ref (u 2), .ref (u 3), .int (iI sv), .ref (u 4), .int (iI ((ln : Int))), .int (iI th), .int (iI ((ap : Int))), .int (iI rm), .ref (u 5), .int (iI rd), .int (iI ((nw : Int))), .ref (u 6), .long (lI hh)])), (u 1, aL g 75 v), (u 2, aL g 300 pa), (u 3, aL g 75 sd), (u 4, aI g 60 tx), (u 5, aI g 10 rr), (u 6, aI g 4 rq)] (PE (some (.int (iI 0))) [(u 0, .inr (5, [.ref (u 1), .ref (u 2), .ref (u 3), .int (iI sv), .ref (u 4), .int (iI ((ln : Int))), .int (iI th), .int (iI ((ap : Int))), .int (iI rm), .ref (u 5), .int (iI rd), .int (iI (((nw + 1 : Nat) : Int))), .ref (u 6), .long (lI hh)])), (u 1, aL g 75 v), (u 2, aL g 300 pa), (u 3, aL g 75 sd), (u 4, aI g 60 tx), (u 5, aI g 10 rr), (u 6, aI g 4 (va_up rq nw (dv tx ap (rn tx ln 48 57 5 ap))))]) := by
  refine CT.intro (L0 := [(0, .ref (u 0))]) (own := RX5) (by decide) rfl (Nat.le_of_ble_eq_true rfl) rfl ?_
  intro pX eX sX mX argsX belowX methX cX A C hr hlk
  have hv9 := dva (tx := tx) (n := ln) (p := ap)
  have hm8 := rna (tx := tx) (n := ln) hap
  refine j_aload_n C 0 dX5_readsWeight_0 rfl rfl ?_
  refine j_get C ck5 0 7 (by decide) qw669 rfl rfl dX5_readsWeight_1 ?_
  refine j_istore_n (L1 := [(1, .int (iI ((ap : Int)))), (0, .ref (u 0))]) C dX5_readsWeight_4 rfl (by decide) rfl ?_
  refine j_iconst C dX5_readsWeight_5 ?_
  refine j_istore_n (L1 := [(2, .int (iI 0)), (1, .int (iI ((ap : Int)))), (0, .ref (u 0))]) C dX5_readsWeight_6 rfl (by decide) rfl ?_
  refine J.sub (L1 := [(0, .ref (u 0)), (1, .int (iI ((ap : Int)))), (2, .int (iI 0))]) [2, 1, 0] rfl ?_
  refine J.to (L1 := [(0, .ref (u 0)), (1, .int (iI ((ap : Int)))), (2, .int (iI (dv tx ap 0)))]) (S1 := []) (ws1 := [(u 0, .inr (5, [.ref (u 1), .ref (u 2), .ref (u 3), .int (iI sv), .ref (u 4), .int (iI ((ln : Int))), .int (iI th), .int (iI (((ap + 0 : Nat) : Int))), .int (iI rm), .ref (u 5), .int (iI rd), .int (iI ((nw : Int))), .ref (u 6), .long (lI hh)])), (u 1, aL g 75 v), (u 2, aL g 300 pa), (u 3, aL g 75 sd), (u 4, aI g 60 tx), (u 5, aI g 10 rr), (u 6, aI g 4 rq)]) rfl rfl rfl ?_
  refine lm_readsWeight (s0 := ap) C hn htx hap ?_ 5 0 (by omega) (by omega) (by rw [Nat.zero_add]; rfl)
  refine j_aload_n C 0 dX5_readsWeight_59 rfl rfl ?_
  refine j_get C ck5 0 7 (by decide) qw669 rfl rfl dX5_readsWeight_60 ?_
  refine j_iload_n C 1 dX5_readsWeight_63 rfl rfl ?_
  refine j_icmp_eq (tgt := 78) C (by omega) (by omega) dX5_readsWeight_64 (by decide) (fun c64 => absurd c64 (by omega)) (fun c64 => ?_)
  refine j_aload_n C 0 dX5_readsWeight_67 rfl rfl ?_
  refine j_bipush C dX5_readsWeight_68 (by decide) ?_
  refine j_bipush C dX5_readsWeight_70 (by decide) ?_
  refine j_callV (As := [.int (iI 48), .int (iI 57)]) (rest := []) C yv_X5_isAt qw934 (c_X5_isAt_f l g u v pa sd tx rr rq ln (ap + rn tx ln 48 57 5 ap) nw sv th rm rd hh 48 57 hn htx (by decide) (by decide) (by omega) hd2) (by decide) 0 rfl rfl rfl dX5_readsWeight_72 rfl (Nat.le_of_ble_eq_true rfl) (by decide) pf0 rfl (fun r9 w9 hq9 => ?_)
  obtain ⟨rfl, rfl⟩ := hq9
  refine J.to (L1 := [(0, .ref (u 0)), (1, .int (iI ((ap : Int)))), (2, .int (iI (dv tx ap (rn tx ln 48 57 5 ap))))]) (S1 := [.int (iI 0)]) (ws1 := [(u 0, .inr (5, [.ref (u 1), .ref (u 2), .ref (u 3), .int (iI sv), .ref (u 4), .int (iI ((ln : Int))), .int (iI th), .int (iI (((ap + rn tx ln 48 57 5 ap : Nat) : Int))), .int (iI rm), .ref (u 5), .int (iI rd), .int (iI ((nw : Int))), .ref (u 6), .long (lI hh)])), (u 1, aL g 75 v), (u 2, aL g 300 pa), (u 3, aL g 75 sd), (u 4, aI g 60 tx), (u 5, aI g 10 rr), (u 6, aI g 4 rq)]) rfl rfl rfl ?_
  refine j_if_eq (tgt := 80) C (by decide) dX5_readsWeight_75 (by decide) (fun c75 => ?_) (fun c75 => absurd c75 (by decide))
  refine j_aload_n C 0 dX5_readsWeight_80 rfl rfl ?_
  refine j_get C ck5 0 12 (by decide) qw674 rfl rfl dX5_readsWeight_81 ?_
  refine j_aload_n C 0 dX5_readsWeight_84 rfl rfl ?_
  refine j_get C ck5 0 11 (by decide) qw673 rfl rfl dX5_readsWeight_85 ?_
  refine j_iload_n C 2 dX5_readsWeight_88 rfl rfl ?_
  refine j_iast (n := 4) (f := rq) (ws1 := [(u 0, .inr (5, [.ref (u 1), .ref (u 2), .ref (u 3), .int (iI sv), .ref (u 4), .int (iI ((ln : Int))), .int (iI th), .int (iI (((ap + rn tx ln 48 57 5 ap : Nat) : Int))), .int (iI rm), .ref (u 5), .int (iI rd), .int (iI ((nw : Int))), .ref (u 6), .long (lI hh)])), (u 1, aL g 75 v), (u 2, aL g 300 pa), (u 3, aL g 75 sd), (u 4, aI g 60 tx), (u 5, aI g 10 rr), (u 6, aI g 4 (va_up rq nw (dv tx ap (rn tx ln 48 57 5 ap))))]) C 6 nw rfl rfl (by omega) (by decide) dX5_readsWeight_89 rfl ?_
  refine j_aload_n C 0 dX5_readsWeight_90 rfl rfl ?_
  refine j_dup C dX5_readsWeight_91 rfl ?_
  refine j_get C ck5 0 11 (by decide) qw673 rfl rfl dX5_readsWeight_92 ?_
  refine j_iconst C dX5_readsWeight_95 ?_
  refine j_iadd C dX5_readsWeight_96 ?_
  refine j_put (ws1 := [(u 0, .inr (5, [.ref (u 1), .ref (u 2), .ref (u 3), .int (iI sv), .ref (u 4), .int (iI ((ln : Int))), .int (iI th), .int (iI (((ap + rn tx ln 48 57 5 ap : Nat) : Int))), .int (iI rm), .ref (u 5), .int (iI rd), .int (iI (((nw : Int)) + 1)), .ref (u 6), .long (lI hh)])), (u 1, aL g 75 v), (u 2, aL g 300 pa), (u 3, aL g 75 sd), (u 4, aI g 60 tx), (u 5, aI g 10 rr), (u 6, aI g 4 (va_up rq nw (dv tx ap (rn tx ln 48 57 5 ap))))]) C ck5 0 11 (by decide) qw673 rfl dX5_readsWeight_97 rfl rfl rfl rfl (Nat.le_of_ble_eq_true rfl) ?_
  refine j_aload_n C 0 dX5_readsWeight_100 rfl rfl ?_
  refine j_iload_n C 2 dX5_readsWeight_101 rfl rfl ?_
  refine j_ldc (x := 50000) C qw942 (by decide) dX5_readsWeight_102 ?_
  refine j_icmp_le (tgt := 111) C (by omega) (by decide) dX5_readsWeight_104 (by decide) (fun c104 => absurd c104 (by omega)) (fun c104 => ?_)
  refine j_iload_n C 1 dX5_readsWeight_107 rfl rfl ?_
  refine j_goto (tgt := 115) C dX5_readsWeight_108 (by decide) ?_
  refine j_put (ws1 := [(u 0, .inr (5, [.ref (u 1), .ref (u 2), .ref (u 3), .int (iI sv), .ref (u 4), .int (iI ((ln : Int))), .int (iI th), .int (iI ((ap : Int))), .int (iI rm), .ref (u 5), .int (iI rd), .int (iI (((nw : Int)) + 1)), .ref (u 6), .long (lI hh)])), (u 1, aL g 75 v), (u 2, aL g 300 pa), (u 3, aL g 75 sd), (u 4, aI g 60 tx), (u 5, aI g 10 rr), (u 6, aI g 4 (va_up rq nw (dv tx ap (rn tx ln 48 57 5 ap))))]) C ck5 0 7 (by decide) qw669 rfl dX5_readsWeight_115 rfl rfl rfl rfl (Nat.le_of_ble_eq_true rfl) ?_
  refine j_iload_n C 2 dX5_readsWeight_118 rfl rfl ?_
  refine j_ldc (x := 50000) C qw942 (by decide) dX5_readsWeight_119 ?_
  refine j_icmp_gt (tgt := 128) C (by omega) (by decide) dX5_readsWeight_121 (by decide) (fun c121 => ?_) (fun c121 => absurd c121 (by omega))
  refine j_iconst C dX5_readsWeight_128 ?_
  exact j_zret C hr hlk rfl dX5_readsWeight_129 ⟨rfl, rfl⟩ (by decide) (by decide)

