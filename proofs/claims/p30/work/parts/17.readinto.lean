/-! RopeTackle.Text.readInto -/
theorem pP_le (tx : Nat → Int) (n : Nat) : pP tx n ≤ 10 ∧ pP tx n ≤ n := by
  refine ⟨rn_le tx n 48 51 10 0, ?_⟩
  rcases Nat.eq_zero_or_pos (rn tx n 48 51 10 0) with h0 | h0
  · show rn tx n 48 51 10 0 ≤ n
    omega
  · have h2 := (rn_dg (tx := tx) (n := n) (lo := 48) (hi := 51) (f := 10) (p := 0) (i := rn tx n 48 51 10 0 - 1) (by omega)).1
    show rn tx n 48 51 10 0 ≤ n
    omega
theorem lp_readInto1 {p0 : Program} {l : Launch} {e : Env} {s : State} {m : MethodId} {args : Array Value} {below : List Frame} {meth : Method} {c : Code} {g : Gh} {A : Nat → Prop} {Q : State → Prop} (C : Cx p0 g s m args c cX3_readInto 4 RX3 A) {t u : Nat} {tx : Nat → Int} {n : Nat} {q : Nat → Nat} {k : Nat → Nat → Int} (hn : n ≤ 60) (htx : ∀ i, i < n → 0 ≤ tx i ∧ tx i ≤ 127) (kk : J p0 l e ({ frames := 3, cells := 0, slots := 0, locals := 69 } : Room) s m args below meth c g A 4 52 [(0, .ref t), (1, .ref (q 0))] [] [(t, .inr (3, [.ref u, .int (iI ((n : Int))), .int (iI ((pP tx n : Int)))])), (u, aI g 60 tx), (q 0, .inr (2, [.ref (q 1), .ref (q 3), .ref (q 5), .ref (q 6), .ref (q 7), .int (iI (k 0 0))])), (q 1, .inr (1, [.ref (q 2), .int (iI ((pP tx n : Int))), .int (iI 4), .int (iI (k 0 1))])), (q 2, aI g 10 (cpy ((pP tx n)) (fun j => tx j - 48) (k 1))), (q 3, .inr (0, [.ref (q 4), .int (iI (k 0 9)), .int (iI (k 0 6)), .int (iI (k 0 4)), .int (iI (k 0 5)), .long (lI (k 0 7)), .long (lI (k 0 8))])), (q 4, aI g 48 (k 2)), (q 5, aI g 4 (k 3)), (q 6, aI g 4 (lay0 4 (k 4))), (q 7, aI g 4 (k 5))] 0 0 Q) : ∀ (f i : Nat), i + f = 10 → i ≤ n → pP tx n = i + rn tx n 48 51 f i → J p0 l e ({ frames := 3, cells := 0, slots := 0, locals := 69 } : Room) s m args below meth c g A 4 18 [(0, .ref t), (1, .ref (q 0)), (2, .int (iI ((i : Int))))] [] [(t, .inr (3, [.ref u, .int (iI ((n : Int))), .int (iI ((i : Int)))])), (u, aI g 60 tx), (q 0, .inr (2, [.ref (q 1), .ref (q 3), .ref (q 5), .ref (q 6), .ref (q 7), .int (iI (k 0 0))])), (q 1, .inr (1, [.ref (q 2), .int (iI ((i : Int))), .int (iI 4), .int (iI (k 0 1))])), (q 2, aI g 10 (cpy i (fun j => tx j - 48) (k 1))), (q 3, .inr (0, [.ref (q 4), .int (iI (k 0 9)), .int (iI (k 0 6)), .int (iI (k 0 4)), .int (iI (k 0 5)), .long (lI (k 0 7)), .long (lI (k 0 8))])), (q 4, aI g 48 (k 2)), (q 5, aI g 4 (k 3)), (q 6, aI g 4 (lay0 4 (k 4))), (q 7, aI g 4 (k 5))] 0 0 Q := by
  intro f
  induction f with
  | zero =>
    intro i hi hsi hm
    refine j_iload_n C 2 dX3_readInto_18 rfl rfl ?_
    refine j_bipush C dX3_readInto_19 (by decide) ?_
    refine j_icmp_ge (tgt := 52) C (by omega) (by decide) dX3_readInto_21 (by decide) (fun c21 => ?_) (fun c21 => absurd c21 (by omega))
    refine J.sub (L1 := [(0, .ref t), (1, .ref (q 0))]) [0, 1] rfl ?_
    have e9 : pP tx n = i := by rw [hm]; rfl
    rw [e9] at kk
    exact kk
  | succ f ih =>
    intro i hi hsi hm
    refine j_iload_n C 2 dX3_readInto_18 rfl rfl ?_
    refine j_bipush C dX3_readInto_19 (by decide) ?_
    refine j_icmp_ge (tgt := 52) C (by omega) (by decide) dX3_readInto_21 (by decide) (fun c21 => absurd c21 (by omega)) (fun c21 => ?_)
    refine j_aload_n C 0 dX3_readInto_24 rfl rfl ?_
    refine j_bipush C dX3_readInto_25 (by decide) ?_
    refine j_bipush C dX3_readInto_27 (by decide) ?_
    by_cases hd : dg tx n 48 51 i
    · refine j_callV (As := [.int (iI 48), .int (iI 51)]) (rest := []) C yv_X3_nextIsFrom qw664 (c_X3_nextIsFrom_t l g t u tx n i 48 51 hn htx (by decide) (by decide) hd) (by decide) 0 rfl rfl rfl dX3_readInto_29 rfl (Nat.le_of_ble_eq_true rfl) (by decide) (pf1 [] [(q 0, .inr (2, [.ref (q 1), .ref (q 3), .ref (q 5), .ref (q 6), .ref (q 7), .int (iI (k 0 0))])), (q 1, .inr (1, [.ref (q 2), .int (iI ((i : Int))), .int (iI 4), .int (iI (k 0 1))])), (q 2, aI g 10 (cpy i (fun j => tx j - 48) (k 1))), (q 3, .inr (0, [.ref (q 4), .int (iI (k 0 9)), .int (iI (k 0 6)), .int (iI (k 0 4)), .int (iI (k 0 5)), .long (lI (k 0 7)), .long (lI (k 0 8))])), (q 4, aI g 48 (k 2)), (q 5, aI g 4 (k 3)), (q 6, aI g 4 (lay0 4 (k 4))), (q 7, aI g 4 (k 5))]) rfl (fun r9 w9 hq9 => ?_)
      obtain ⟨rfl, rfl⟩ := hq9
      refine J.to (L1 := [(0, .ref t), (1, .ref (q 0)), (2, .int (iI ((i : Int))))]) (S1 := [.int (iI 1)]) (ws1 := [(t, .inr (3, [.ref u, .int (iI ((n : Int))), .int (iI ((i : Int)))])), (u, aI g 60 tx), (q 0, .inr (2, [.ref (q 1), .ref (q 3), .ref (q 5), .ref (q 6), .ref (q 7), .int (iI (k 0 0))])), (q 1, .inr (1, [.ref (q 2), .int (iI ((i : Int))), .int (iI 4), .int (iI (k 0 1))])), (q 2, aI g 10 (cpy i (fun j => tx j - 48) (k 1))), (q 3, .inr (0, [.ref (q 4), .int (iI (k 0 9)), .int (iI (k 0 6)), .int (iI (k 0 4)), .int (iI (k 0 5)), .long (lI (k 0 7)), .long (lI (k 0 8))])), (q 4, aI g 48 (k 2)), (q 5, aI g 4 (k 3)), (q 6, aI g 4 (lay0 4 (k 4))), (q 7, aI g 4 (k 5))]) rfl rfl rfl ?_
      refine j_if_eq (tgt := 52) C (by decide) dX3_readInto_32 (by decide) (fun c32 => absurd c32 (by decide)) (fun c32 => ?_)
      have hd1 := hd.1
      refine j_aload_n C 1 dX3_readInto_35 rfl rfl ?_
      refine j_getN C ck2 2 0 (by decide) qn89 rfl rfl dX3_readInto_36 ?_
      refine j_aload_n C 0 dX3_readInto_39 rfl rfl ?_
      refine j_callV (As := []) (rest := [.ref (q 1)]) C yv_X3_takeDigit qw669 (c_X3_takeDigit l g t u tx n i hn htx (by omega)) (by decide) 0 rfl rfl rfl dX3_readInto_40 rfl (Nat.le_of_ble_eq_true rfl) (by decide) (pf1 [] [(q 0, .inr (2, [.ref (q 1), .ref (q 3), .ref (q 5), .ref (q 6), .ref (q 7), .int (iI (k 0 0))])), (q 1, .inr (1, [.ref (q 2), .int (iI ((i : Int))), .int (iI 4), .int (iI (k 0 1))])), (q 2, aI g 10 (cpy i (fun j => tx j - 48) (k 1))), (q 3, .inr (0, [.ref (q 4), .int (iI (k 0 9)), .int (iI (k 0 6)), .int (iI (k 0 4)), .int (iI (k 0 5)), .long (lI (k 0 7)), .long (lI (k 0 8))])), (q 4, aI g 48 (k 2)), (q 5, aI g 4 (k 3)), (q 6, aI g 4 (lay0 4 (k 4))), (q 7, aI g 4 (k 5))]) rfl (fun r9 w9 hq9 => ?_)
      obtain ⟨rfl, rfl⟩ := hq9
      refine J.to (L1 := [(0, .ref t), (1, .ref (q 0)), (2, .int (iI ((i : Int))))]) (S1 := [.int (iI (tx i - 48)), .ref (q 1)]) (ws1 := [(t, .inr (3, [.ref u, .int (iI ((n : Int))), .int (iI ((((i) + 1 : Nat) : Int)))])), (u, aI g 60 tx), (q 0, .inr (2, [.ref (q 1), .ref (q 3), .ref (q 5), .ref (q 6), .ref (q 7), .int (iI (k 0 0))])), (q 1, .inr (1, [.ref (q 2), .int (iI ((i : Int))), .int (iI 4), .int (iI (k 0 1))])), (q 2, aI g 10 (cpy i (fun j => tx j - 48) (k 1))), (q 3, .inr (0, [.ref (q 4), .int (iI (k 0 9)), .int (iI (k 0 6)), .int (iI (k 0 4)), .int (iI (k 0 5)), .long (lI (k 0 7)), .long (lI (k 0 8))])), (q 4, aI g 48 (k 2)), (q 5, aI g 4 (k 3)), (q 6, aI g 4 (lay0 4 (k 4))), (q 7, aI g 4 (k 5))]) rfl rfl rfl ?_
      refine j_callV (As := [.int (iI (tx i - 48))]) (rest := []) C yv_X1_hang qw673 (c_X1_hang l g (q 1) (q 2) (cpy i (fun j => tx j - 48) (k 1)) ((i : Int)) 4 (k 0 1) (tx i - 48) (by omega)) (by decide) 3 rfl rfl rfl dX3_readInto_43 rfl (Nat.le_of_ble_eq_true rfl) (by decide) (pf1 [(t, .inr (3, [.ref u, .int (iI ((n : Int))), .int (iI ((((i) + 1 : Nat) : Int)))])), (u, aI g 60 tx), (q 0, .inr (2, [.ref (q 1), .ref (q 3), .ref (q 5), .ref (q 6), .ref (q 7), .int (iI (k 0 0))]))] [(q 3, .inr (0, [.ref (q 4), .int (iI (k 0 9)), .int (iI (k 0 6)), .int (iI (k 0 4)), .int (iI (k 0 5)), .long (lI (k 0 7)), .long (lI (k 0 8))])), (q 4, aI g 48 (k 2)), (q 5, aI g 4 (k 3)), (q 6, aI g 4 (lay0 4 (k 4))), (q 7, aI g 4 (k 5))]) rfl (fun r9 w9 hq9 => ?_)
      obtain ⟨rfl, rfl⟩ := hq9
      refine J.to (L1 := [(0, .ref t), (1, .ref (q 0)), (2, .int (iI ((i : Int))))]) (S1 := []) (ws1 := [(t, .inr (3, [.ref u, .int (iI ((n : Int))), .int (iI ((((i) + 1 : Nat) : Int)))])), (u, aI g 60 tx), (q 0, .inr (2, [.ref (q 1), .ref (q 3), .ref (q 5), .ref (q 6), .ref (q 7), .int (iI (k 0 0))])), (q 1, .inr (1, [.ref ((q 2)), .int (iI (((i : Int)) + 1)), .int (iI 4), .int (iI ((k 0 1)))])), ((q 2), aI g 10 (va_up (cpy i (fun j => tx j - 48) (k 1)) i (tx i - 48))), (q 3, .inr (0, [.ref (q 4), .int (iI (k 0 9)), .int (iI (k 0 6)), .int (iI (k 0 4)), .int (iI (k 0 5)), .long (lI (k 0 7)), .long (lI (k 0 8))])), (q 4, aI g 48 (k 2)), (q 5, aI g 4 (k 3)), (q 6, aI g 4 (lay0 4 (k 4))), (q 7, aI g 4 (k 5))]) rfl rfl rfl ?_
      refine j_iinc (L1 := [(2, .int (iI (((i : Int)) + 1))), (0, .ref t), (1, .ref (q 0))]) C 2 dX3_readInto_46 rfl (by decide) rfl ?_
      refine j_goto (tgt := 18) C dX3_readInto_49 (by decide) ?_
      refine J.sub (L1 := [(0, .ref t), (1, .ref (q 0)), (2, .int (iI (((i : Int)) + 1)))]) [1, 2, 0] rfl ?_
      rw [cpy_succ i (fun j => tx j - 48) (k 1)]
      exact ih (i + 1) (by omega) (by have := hd.1; omega) (by rw [rn_t hd] at hm; rw [hm]; omega)
    · refine j_callV (As := [.int (iI 48), .int (iI 51)]) (rest := []) C yv_X3_nextIsFrom qw664 (c_X3_nextIsFrom_f l g t u tx n i 48 51 hn htx (by decide) (by decide) (by omega) hd) (by decide) 0 rfl rfl rfl dX3_readInto_29 rfl (Nat.le_of_ble_eq_true rfl) (by decide) (pf1 [] [(q 0, .inr (2, [.ref (q 1), .ref (q 3), .ref (q 5), .ref (q 6), .ref (q 7), .int (iI (k 0 0))])), (q 1, .inr (1, [.ref (q 2), .int (iI ((i : Int))), .int (iI 4), .int (iI (k 0 1))])), (q 2, aI g 10 (cpy i (fun j => tx j - 48) (k 1))), (q 3, .inr (0, [.ref (q 4), .int (iI (k 0 9)), .int (iI (k 0 6)), .int (iI (k 0 4)), .int (iI (k 0 5)), .long (lI (k 0 7)), .long (lI (k 0 8))])), (q 4, aI g 48 (k 2)), (q 5, aI g 4 (k 3)), (q 6, aI g 4 (lay0 4 (k 4))), (q 7, aI g 4 (k 5))]) rfl (fun r9 w9 hq9 => ?_)
      obtain ⟨rfl, rfl⟩ := hq9
      refine J.to (L1 := [(0, .ref t), (1, .ref (q 0)), (2, .int (iI ((i : Int))))]) (S1 := [.int (iI 0)]) (ws1 := [(t, .inr (3, [.ref u, .int (iI ((n : Int))), .int (iI ((i : Int)))])), (u, aI g 60 tx), (q 0, .inr (2, [.ref (q 1), .ref (q 3), .ref (q 5), .ref (q 6), .ref (q 7), .int (iI (k 0 0))])), (q 1, .inr (1, [.ref (q 2), .int (iI ((i : Int))), .int (iI 4), .int (iI (k 0 1))])), (q 2, aI g 10 (cpy i (fun j => tx j - 48) (k 1))), (q 3, .inr (0, [.ref (q 4), .int (iI (k 0 9)), .int (iI (k 0 6)), .int (iI (k 0 4)), .int (iI (k 0 5)), .long (lI (k 0 7)), .long (lI (k 0 8))])), (q 4, aI g 48 (k 2)), (q 5, aI g 4 (k 3)), (q 6, aI g 4 (lay0 4 (k 4))), (q 7, aI g 4 (k 5))]) rfl rfl rfl ?_
      refine j_if_eq (tgt := 52) C (by decide) dX3_readInto_32 (by decide) (fun c32 => ?_) (fun c32 => absurd c32 (by decide))
      refine J.sub (L1 := [(0, .ref t), (1, .ref (q 0))]) [0, 1] rfl ?_
      have e9 : pP tx n = i := by rw [hm]; rw [rn_f hd]; rfl
      rw [e9] at kk
      exact kk

theorem lp_readInto2 {p0 : Program} {l : Launch} {e : Env} {s : State} {m : MethodId} {args : Array Value} {below : List Frame} {meth : Method} {c : Code} {g : Gh} {A : Nat → Prop} (C : Cx p0 g s m args c cX3_readInto 4 RX3 A) (hr : meth.sig.returnType = some .int) (hlk : meth.locks = false) {t u : Nat} {tx : Nat → Int} {n Pn : Nat} {E F9 : Int} {Wf : Nat → Int} {q : Nat → Nat} {k : Nat → Nat → Int} (hn : n ≤ 60) (htx : ∀ i, i < n → 0 ≤ tx i ∧ tx i ≤ 127) (hk : SOK k) (hPn : Pn ≤ 10) (hrP : ∀ i, i < Pn → 48 ≤ tx i ∧ tx i ≤ 51) (hE4 : 0 ≤ E ∧ E ≤ 4) : ∀ (f j pl : Nat) (w : Nat → Int), j + f = 4 → pl ≤ n → (∀ b, b < 4 → 0 ≤ w b ∧ w b ≤ 50000) → pfin tx n f pl = F9 → wtf tx n f pl j w = Wf → J p0 l e ({ frames := 3, cells := 0, slots := 0, locals := 69 } : Room) s m args below meth c g A 4 109 [(0, .ref t), (1, .ref (q 0)), (2, .int (iI (-1))), (3, .int (iI ((j : Int))))] [] [(t, .inr (3, [.ref u, .int (iI ((n : Int))), .int (iI ((pl : Int)))])), (u, aI g 60 tx), (q 0, .inr (2, [.ref (q 1), .ref (q 3), .ref (q 5), .ref (q 6), .ref (q 7), .int (iI (k 0 0))])), (q 1, .inr (1, [.ref (q 2), .int (iI ((Pn : Int))), .int (iI E), .int (iI (k 0 1))])), (q 2, aI g 10 (cpy Pn (fun j => tx j - 48) (k 1))), (q 3, .inr (0, [.ref (q 4), .int (iI (k 0 9)), .int (iI (k 0 6)), .int (iI (k 0 4)), .int (iI (k 0 5)), .long (lI (k 0 7)), .long (lI (k 0 8))])), (q 4, aI g 48 (k 2)), (q 5, aI g 4 w), (q 6, aI g 4 (lay0 4 (k 4))), (q 7, aI g 4 (k 5))] 0 0 (MQ below (QE g A (fun r w' => r = some (.int (iI F9)) ∧ ∃ (p' : Nat) (k' : Nat → Nat → Int), w' = [(t, .inr (3, [.ref u, .int (iI ((n : Int))), .int (iI ((p' : Int)))])), (u, aI g 60 tx)] ++ wSt g q k' ∧ (F9 = -1 → k' = prS tx (Pn : Int) E Pn Wf k))) args s 0 0 A) := by
  intro f
  induction f with
  | zero =>
    intro j pl w hi hpl hw hF hWf
    refine j_iload_n C 3 dX3_readInto_109 rfl rfl ?_
    refine j_iconst C dX3_readInto_110 ?_
    refine j_icmp_ge (tgt := 143) C (by omega) (by decide) dX3_readInto_111 (by decide) (fun c111 => ?_) (fun c111 => absurd c111 (by omega))
    refine j_iload_n C 2 dX3_readInto_143 rfl rfl ?_
    refine j_iconst C dX3_readInto_144 ?_
    refine j_icmp_ne (tgt := 164) C (by decide) (by decide) dX3_readInto_145 (by decide) (fun c145 => absurd c145 (by decide)) (fun c145 => ?_)
    refine j_aload_n C 0 dX3_readInto_148 rfl rfl ?_
    refine j_get C ck3 0 2 (by decide) qw122 rfl rfl dX3_readInto_149 ?_
    refine j_aload_n C 0 dX3_readInto_152 rfl rfl ?_
    refine j_get C ck3 0 1 (by decide) qw120 rfl rfl dX3_readInto_153 ?_
    refine j_icmp_ge (tgt := 164) C (by omega) (by omega) dX3_readInto_156 (by decide) (fun c156 => ?_) (fun c156 => ?_)
    · refine j_iload_n C 2 dX3_readInto_164 rfl rfl ?_
      have hF9 : F9 = -1 := by rw [← hF, pfin, if_neg (by omega)]
      have hW9 : w = Wf := by rw [← hWf, wtf]
      exact j_iret C hr hlk dX3_readInto_165 ⟨by rw [hF9], _, prS tx (Pn : Int) E Pn w k, rfl, fun h9 => by rw [hW9]⟩ (by decide) (by decide)
    · refine j_aload_n C 0 dX3_readInto_159 rfl rfl ?_
      refine j_get C ck3 0 2 (by decide) qw122 rfl rfl dX3_readInto_160 ?_
      exact j_iret C hr hlk dX3_readInto_163 ⟨by rw [← hF, pfin, if_pos (by omega)], _, prS tx (Pn : Int) E Pn w k, rfl, fun h9 => by rw [pfin, if_pos (by omega)] at hF; omega⟩ (by decide) (by decide)
  | succ f ih =>
    intro j pl w hi hpl hw hF hWf
    refine j_iload_n C 3 dX3_readInto_109 rfl rfl ?_
    refine j_iconst C dX3_readInto_110 ?_
    refine j_icmp_ge (tgt := 143) C (by omega) (by decide) dX3_readInto_111 (by decide) (fun c111 => absurd c111 (by omega)) (fun c111 => ?_)
    refine j_aload_n C 0 dX3_readInto_114 rfl rfl ?_
    refine j_get C ck3 0 2 (by decide) qw122 rfl rfl dX3_readInto_115 ?_
    refine j_aload_n C 0 dX3_readInto_118 rfl rfl ?_
    refine j_get C ck3 0 1 (by decide) qw120 rfl rfl dX3_readInto_119 ?_
    refine j_icmp_ge (tgt := 143) C (by omega) (by omega) dX3_readInto_122 (by decide) (fun c122 => ?_) (fun c122 => ?_)
    · refine j_iload_n C 2 dX3_readInto_143 rfl rfl ?_
      refine j_iconst C dX3_readInto_144 ?_
      refine j_icmp_ne (tgt := 164) C (by decide) (by decide) dX3_readInto_145 (by decide) (fun c145 => absurd c145 (by decide)) (fun c145 => ?_)
      refine j_aload_n C 0 dX3_readInto_148 rfl rfl ?_
      refine j_get C ck3 0 2 (by decide) qw122 rfl rfl dX3_readInto_149 ?_
      refine j_aload_n C 0 dX3_readInto_152 rfl rfl ?_
      refine j_get C ck3 0 1 (by decide) qw120 rfl rfl dX3_readInto_153 ?_
      refine j_icmp_ge (tgt := 164) C (by omega) (by omega) dX3_readInto_156 (by decide) (fun c156 => ?_) (fun c156 => absurd c156 (by omega))
      refine j_iload_n C 2 dX3_readInto_164 rfl rfl ?_
      have hF9 : F9 = -1 := by rw [← hF, pfin, if_neg (by omega)]
      have hW9 : w = Wf := by rw [← hWf, wtf, if_neg (fun h9 => absurd h9.1 (by omega))]
      exact j_iret C hr hlk dX3_readInto_165 ⟨by rw [hF9], _, prS tx (Pn : Int) E Pn w k, rfl, fun h9 => by rw [hW9]⟩ (by decide) (by decide)
    · have c122a := c122
      refine j_iload_n C 2 dX3_readInto_125 rfl rfl ?_
      refine j_iconst C dX3_readInto_126 ?_
      refine j_icmp_ne (tgt := 143) C (by decide) (by decide) dX3_readInto_127 (by decide) (fun c127 => absurd c127 (by decide)) (fun c127 => ?_)
      refine j_aload_n C 0 dX3_readInto_130 rfl rfl ?_
      refine j_aload_n C 1 dX3_readInto_131 rfl rfl ?_
      refine j_iload_n C 3 dX3_readInto_132 rfl rfl ?_
      by_cases hok : wOK tx n pl
      · refine j_callV (As := [.ref (q 0), .int (iI ((j : Int)))]) (rest := []) C yv_X3_readWeight qw674 (c_X3_readWeight_ok l g t u tx n pl q (prS tx (Pn : Int) E Pn w k) (j : Int) hn htx hpl (SOK_prS hk (by omega) rfl hrP hE4 hw) (by omega) hok) (by decide) 0 rfl rfl rfl dX3_readInto_133 rfl (Nat.le_of_ble_eq_true rfl) (by decide) pf0 rfl (fun r9 w9 hq9 => ?_)
        obtain ⟨rfl, rfl⟩ := hq9
        refine J.to (L1 := [(0, .ref t), (1, .ref (q 0)), (2, .int (iI (-1))), (3, .int (iI ((j : Int))))]) (S1 := [.int (iI (-1))]) (ws1 := [(t, .inr (3, [.ref u, .int (iI ((n : Int))), .int (iI (((pl + 1 + wm tx n pl : Nat) : Int)))])), (u, aI g 60 tx), (q 0, .inr (2, [.ref (q 1), .ref (q 3), .ref (q 5), .ref (q 6), .ref (q 7), .int (iI (k 0 0))])), (q 1, .inr (1, [.ref (q 2), .int (iI ((Pn : Int))), .int (iI E), .int (iI (k 0 1))])), (q 2, aI g 10 (cpy Pn (fun j => tx j - 48) (k 1))), (q 3, .inr (0, [.ref (q 4), .int (iI (k 0 9)), .int (iI (k 0 6)), .int (iI (k 0 4)), .int (iI (k 0 5)), .long (lI (k 0 7)), .long (lI (k 0 8))])), (q 4, aI g 48 (k 2)), (q 5, aI g 4 (va_up w j (dv tx (pl + 1) (wm tx n pl)))), (q 6, aI g 4 (lay0 4 (k 4))), (q 7, aI g 4 (k 5))]) rfl rfl rfl ?_
        refine j_istore_n (L1 := [(2, .int (iI (-1))), (0, .ref t), (1, .ref (q 0)), (3, .int (iI ((j : Int))))]) C dX3_readInto_136 rfl (by decide) rfl ?_
        refine j_iinc (L1 := [(3, .int (iI (((j : Int)) + 1))), (2, .int (iI (-1))), (0, .ref t), (1, .ref (q 0))]) C 3 dX3_readInto_137 rfl (by decide) rfl ?_
        refine j_goto (tgt := 109) C dX3_readInto_140 (by decide) ?_
        refine J.sub (L1 := [(0, .ref t), (1, .ref (q 0)), (2, .int (iI (-1))), (3, .int (iI (((j : Int)) + 1)))]) [2, 3, 1, 0] rfl ?_
        exact ih (j + 1) (pl + 1 + wm tx n pl) _ (by omega) (wm_le (by omega)).2 (fun b hb => by unfold va_up; split; exact ⟨dv_wm.1, hok.2.2.2⟩; exact hw b hb) (by rw [pfin, if_pos (by omega), if_pos hok] at hF; exact hF) (by rw [wtf, if_pos ⟨by omega, hok⟩] at hWf; exact hWf)
      · have hbad := hok
        refine j_callV (As := [.ref (q 0), .int (iI ((j : Int)))]) (rest := []) C yv_X3_readWeight qw674 (c_X3_readWeight_bad l g t u tx n pl q (prS tx (Pn : Int) E Pn w k) (j : Int) hn htx hpl (SOK_prS hk (by omega) rfl hrP hE4 hw) (by omega) hbad) (by decide) 0 rfl rfl rfl dX3_readInto_133 rfl (Nat.le_of_ble_eq_true rfl) (by decide) pf0 rfl (fun r9 w9 hq9 => ?_)
        obtain ⟨rfl, p', hp', rfl⟩ := hq9
        refine J.to (L1 := [(0, .ref t), (1, .ref (q 0)), (2, .int (iI (-1))), (3, .int (iI ((j : Int))))]) (S1 := [.int (iI ((wFl tx n pl : Int)))]) (ws1 := [(t, .inr (3, [.ref u, .int (iI ((n : Int))), .int (iI ((p' : Int)))])), (u, aI g 60 tx), (q 0, .inr (2, [.ref (q 1), .ref (q 3), .ref (q 5), .ref (q 6), .ref (q 7), .int (iI (k 0 0))])), (q 1, .inr (1, [.ref (q 2), .int (iI ((Pn : Int))), .int (iI E), .int (iI (k 0 1))])), (q 2, aI g 10 (cpy Pn (fun j => tx j - 48) (k 1))), (q 3, .inr (0, [.ref (q 4), .int (iI (k 0 9)), .int (iI (k 0 6)), .int (iI (k 0 4)), .int (iI (k 0 5)), .long (lI (k 0 7)), .long (lI (k 0 8))])), (q 4, aI g 48 (k 2)), (q 5, aI g 4 w), (q 6, aI g 4 (lay0 4 (k 4))), (q 7, aI g 4 (k 5))]) rfl rfl rfl ?_
        have hf9 : (wFl tx n pl : Int) ≤ 100 := by unfold wFl; have hwl := wm_le (tx := tx) (n := n) (p := pl) (by omega); split; omega; split <;> omega
        refine j_istore_n (L1 := [(2, .int (iI ((wFl tx n pl : Int)))), (0, .ref t), (1, .ref (q 0)), (3, .int (iI ((j : Int))))]) C dX3_readInto_136 rfl (by decide) rfl ?_
        refine j_iinc (L1 := [(3, .int (iI (((j : Int)) + 1))), (2, .int (iI ((wFl tx n pl : Int)))), (0, .ref t), (1, .ref (q 0))]) C 3 dX3_readInto_137 rfl (by decide) rfl ?_
        refine j_goto (tgt := 109) C dX3_readInto_140 (by decide) ?_
        refine j_iload_n C 0 dX3_readInto_109 rfl rfl ?_
        refine j_iconst C dX3_readInto_110 ?_
        refine j_icmp_ge (tgt := 143) C (by omega) (by decide) dX3_readInto_111 (by decide) (fun c111 => ?_) (fun c111 => ?_)
        · refine j_iload_n C 1 dX3_readInto_143 rfl rfl ?_
          refine j_iconst C dX3_readInto_144 ?_
          refine j_icmp_ne (tgt := 164) C (by omega) (by decide) dX3_readInto_145 (by decide) (fun c145 => ?_) (fun c145 => absurd c145 (by omega))
          refine j_iload_n C 1 dX3_readInto_164 rfl rfl ?_
          have hF9 : F9 = (wFl tx n pl : Int) := by rw [← hF, pfin, if_pos (by omega), if_neg hbad]
          exact j_iret C hr hlk dX3_readInto_165 ⟨by rw [hF9], _, prS tx (Pn : Int) E Pn w k, rfl, fun h9 => by omega⟩ (by decide) (by decide)
        · refine j_aload_n C 2 dX3_readInto_114 rfl rfl ?_
          refine j_get C ck3 0 2 (by decide) qw122 rfl rfl dX3_readInto_115 ?_
          refine j_aload_n C 2 dX3_readInto_118 rfl rfl ?_
          refine j_get C ck3 0 1 (by decide) qw120 rfl rfl dX3_readInto_119 ?_
          refine j_icmp_ge (tgt := 143) C (by omega) (by omega) dX3_readInto_122 (by decide) (fun c122 => ?_) (fun c122 => ?_)
          · refine j_iload_n C 1 dX3_readInto_143 rfl rfl ?_
            refine j_iconst C dX3_readInto_144 ?_
            refine j_icmp_ne (tgt := 164) C (by omega) (by decide) dX3_readInto_145 (by decide) (fun c145 => ?_) (fun c145 => absurd c145 (by omega))
            refine j_iload_n C 1 dX3_readInto_164 rfl rfl ?_
            have hF9 : F9 = (wFl tx n pl : Int) := by rw [← hF, pfin, if_pos (by omega), if_neg hbad]
            exact j_iret C hr hlk dX3_readInto_165 ⟨by rw [hF9], _, prS tx (Pn : Int) E Pn w k, rfl, fun h9 => by omega⟩ (by decide) (by decide)
          · refine j_iload_n C 1 dX3_readInto_125 rfl rfl ?_
            refine j_iconst C dX3_readInto_126 ?_
            refine j_icmp_ne (tgt := 143) C (by omega) (by decide) dX3_readInto_127 (by decide) (fun c127 => ?_) (fun c127 => absurd c127 (by omega))
            refine j_iload_n C 1 dX3_readInto_143 rfl rfl ?_
            refine j_iconst C dX3_readInto_144 ?_
            refine j_icmp_ne (tgt := 164) C (by omega) (by decide) dX3_readInto_145 (by decide) (fun c145 => ?_) (fun c145 => absurd c145 (by omega))
            refine j_iload_n C 1 dX3_readInto_164 rfl rfl ?_
            have hF9 : F9 = (wFl tx n pl : Int) := by rw [← hF, pfin, if_pos (by omega), if_neg hbad]
            exact j_iret C hr hlk dX3_readInto_165 ⟨by rw [hF9], _, prS tx (Pn : Int) E Pn w k, rfl, fun h9 => by omega⟩ (by decide) (by decide)

theorem c_X3_readInto (l : Launch) (g : Gh) (t u : Nat) (tx : Nat → Int) (n : Nat) (pl : Int) (q : Nat → Nat) (k : Nat → Nat → Int) (hn : n ≤ 60) (htx : ∀ i, i < n → 0 ≤ tx i ∧ tx i ≤ 127) (hk : SOK k) : CT l g yX3_readInto cX3_readInto 4 (some FieldType.int) ({ frames := 3, cells := 0, slots := 0, locals := 69 }) [.ref t, .ref (q 0)] [(t, .inr (3, [.ref u, .int (iI ((n : Int))), .int (iI pl)])), (u, aI g 60 tx), (q 0, .inr (2, [.ref (q 1), .ref (q 3), .ref (q 5), .ref (q 6), .ref (q 7), .int (iI (k 0 0))])), (q 1, .inr (1, [.ref (q 2), .int (iI (k 0 2)), .int (iI (k 0 3)), .int (iI (k 0 1))])), (q 2, aI g 10 (k 1)), (q 3, .inr (0, [.ref (q 4), .int (iI (k 0 9)), .int (iI (k 0 6)), .int (iI (k 0 4)), .int (iI (k 0 5)), .long (lI (k 0 7)), .long (lI (k 0 8))])), (q 4, aI g 48 (k 2)), (q 5, aI g 4 (k 3)), (q 6, aI g 4 (k 4)), (q 7, aI g 4 (k 5))] (fun r w' => r = some (.int (iI (pFlt tx n))) ∧ ∃ (p' : Nat) (k' : Nat → Nat → Int), w' = [(t, .inr (3, [.ref u, .int (iI ((n : Int))), .int (iI ((p' : Int)))])), (u, aI g 60 tx)] ++ wSt g q k' ∧ (pFlt tx n = -1 → k' = prs tx n k)) := by
  refine CT.intro (L0 := [(0, .ref t), (1, .ref (q 0))]) (own := RX3) (by decide) rfl (Nat.le_of_ble_eq_true rfl) rfl ?_
  intro pX eX sX mX argsX belowX methX cX A C hr hlk
  have hPl := pP_le tx n
  refine j_aload_n C 0 dX3_readInto_0 rfl rfl ?_
  refine j_iconst C dX3_readInto_1 ?_
  refine j_put (ws1 := [(t, .inr (3, [.ref u, .int (iI ((n : Int))), .int (iI 0)])), (u, aI g 60 tx), (q 0, .inr (2, [.ref (q 1), .ref (q 3), .ref (q 5), .ref (q 6), .ref (q 7), .int (iI (k 0 0))])), (q 1, .inr (1, [.ref (q 2), .int (iI (k 0 2)), .int (iI (k 0 3)), .int (iI (k 0 1))])), (q 2, aI g 10 (k 1)), (q 3, .inr (0, [.ref (q 4), .int (iI (k 0 9)), .int (iI (k 0 6)), .int (iI (k 0 4)), .int (iI (k 0 5)), .long (lI (k 0 7)), .long (lI (k 0 8))])), (q 4, aI g 48 (k 2)), (q 5, aI g 4 (k 3)), (q 6, aI g 4 (k 4)), (q 7, aI g 4 (k 5))]) C ck3 0 2 (by decide) qw122 rfl dX3_readInto_2 rfl rfl rfl rfl (Nat.le_of_ble_eq_true rfl) ?_
  refine j_aload_n C 1 dX3_readInto_5 rfl rfl ?_
  refine j_callV (As := []) (rest := []) C yv_X2_layAllDown qw659 (c_X2_layAllDown l g q k  hk) (by decide) 2 rfl rfl rfl dX3_readInto_6 rfl (Nat.le_of_ble_eq_true rfl) (by decide) (pf1 [(t, .inr (3, [.ref u, .int (iI ((n : Int))), .int (iI 0)])), (u, aI g 60 tx)] []) rfl (fun r9 w9 hq9 => ?_)
  obtain ⟨rfl, rfl⟩ := hq9
  refine J.to (L1 := [(0, .ref t), (1, .ref (q 0))]) (S1 := []) (ws1 := [(t, .inr (3, [.ref u, .int (iI ((n : Int))), .int (iI 0)])), (u, aI g 60 tx), (q 0, .inr (2, [.ref (q 1), .ref (q 3), .ref (q 5), .ref (q 6), .ref (q 7), .int (iI ((va_up k 4 (lay0 4 (k 4))) 0 0))])), (q 1, .inr (1, [.ref (q 2), .int (iI ((va_up k 4 (lay0 4 (k 4))) 0 2)), .int (iI ((va_up k 4 (lay0 4 (k 4))) 0 3)), .int (iI ((va_up k 4 (lay0 4 (k 4))) 0 1))])), (q 2, aI g 10 ((va_up k 4 (lay0 4 (k 4))) 1)), (q 3, .inr (0, [.ref (q 4), .int (iI ((va_up k 4 (lay0 4 (k 4))) 0 9)), .int (iI ((va_up k 4 (lay0 4 (k 4))) 0 6)), .int (iI ((va_up k 4 (lay0 4 (k 4))) 0 4)), .int (iI ((va_up k 4 (lay0 4 (k 4))) 0 5)), .long (lI ((va_up k 4 (lay0 4 (k 4))) 0 7)), .long (lI ((va_up k 4 (lay0 4 (k 4))) 0 8))])), (q 4, aI g 48 ((va_up k 4 (lay0 4 (k 4))) 2)), (q 5, aI g 4 ((va_up k 4 (lay0 4 (k 4))) 3)), (q 6, aI g 4 ((va_up k 4 (lay0 4 (k 4))) 4)), (q 7, aI g 4 ((va_up k 4 (lay0 4 (k 4))) 5))]) rfl rfl rfl ?_
  refine j_aload_n C 1 dX3_readInto_9 rfl rfl ?_
  refine j_getN C ck2 2 0 (by decide) qn89 rfl rfl dX3_readInto_10 ?_
  refine j_callV (As := []) (rest := []) C yv_X1_unreeve qw663 (c_X1_unreeve l g (q 1) (q 2) ((va_up k 4 (lay0 4 (k 4))) 0 2) ((va_up k 4 (lay0 4 (k 4))) 0 3) ((va_up k 4 (lay0 4 (k 4))) 0 1)  ) (by decide) 3 rfl rfl rfl dX3_readInto_13 rfl (Nat.le_of_ble_eq_true rfl) (by decide) (pf1 [(t, .inr (3, [.ref u, .int (iI ((n : Int))), .int (iI 0)])), (u, aI g 60 tx), (q 0, .inr (2, [.ref (q 1), .ref (q 3), .ref (q 5), .ref (q 6), .ref (q 7), .int (iI ((va_up k 4 (lay0 4 (k 4))) 0 0))]))] [(q 2, aI g 10 ((va_up k 4 (lay0 4 (k 4))) 1)), (q 3, .inr (0, [.ref (q 4), .int (iI ((va_up k 4 (lay0 4 (k 4))) 0 9)), .int (iI ((va_up k 4 (lay0 4 (k 4))) 0 6)), .int (iI ((va_up k 4 (lay0 4 (k 4))) 0 4)), .int (iI ((va_up k 4 (lay0 4 (k 4))) 0 5)), .long (lI ((va_up k 4 (lay0 4 (k 4))) 0 7)), .long (lI ((va_up k 4 (lay0 4 (k 4))) 0 8))])), (q 4, aI g 48 ((va_up k 4 (lay0 4 (k 4))) 2)), (q 5, aI g 4 ((va_up k 4 (lay0 4 (k 4))) 3)), (q 6, aI g 4 ((va_up k 4 (lay0 4 (k 4))) 4)), (q 7, aI g 4 ((va_up k 4 (lay0 4 (k 4))) 5))]) rfl (fun r9 w9 hq9 => ?_)
  obtain ⟨rfl, rfl⟩ := hq9
  refine J.to (L1 := [(0, .ref t), (1, .ref (q 0))]) (S1 := []) (ws1 := [(t, .inr (3, [.ref u, .int (iI ((n : Int))), .int (iI 0)])), (u, aI g 60 tx), (q 0, .inr (2, [.ref (q 1), .ref (q 3), .ref (q 5), .ref (q 6), .ref (q 7), .int (iI ((va_up k 4 (lay0 4 (k 4))) 0 0))])), (q 1, .inr (1, [.ref ((q 2)), .int (iI 0), .int (iI 4), .int (iI (((va_up k 4 (lay0 4 (k 4))) 0 1)))])), (q 2, aI g 10 ((va_up k 4 (lay0 4 (k 4))) 1)), (q 3, .inr (0, [.ref (q 4), .int (iI ((va_up k 4 (lay0 4 (k 4))) 0 9)), .int (iI ((va_up k 4 (lay0 4 (k 4))) 0 6)), .int (iI ((va_up k 4 (lay0 4 (k 4))) 0 4)), .int (iI ((va_up k 4 (lay0 4 (k 4))) 0 5)), .long (lI ((va_up k 4 (lay0 4 (k 4))) 0 7)), .long (lI ((va_up k 4 (lay0 4 (k 4))) 0 8))])), (q 4, aI g 48 ((va_up k 4 (lay0 4 (k 4))) 2)), (q 5, aI g 4 ((va_up k 4 (lay0 4 (k 4))) 3)), (q 6, aI g 4 ((va_up k 4 (lay0 4 (k 4))) 4)), (q 7, aI g 4 ((va_up k 4 (lay0 4 (k 4))) 5))]) rfl rfl rfl ?_
  refine j_iconst C dX3_readInto_16 ?_
  refine j_istore_n (L1 := [(2, .int (iI 0)), (0, .ref t), (1, .ref (q 0))]) C dX3_readInto_17 rfl (by decide) rfl ?_
  refine J.sub (L1 := [(0, .ref t), (1, .ref (q 0)), (2, .int (iI 0))]) [1, 2, 0] rfl ?_
  refine J.to (L1 := [(0, .ref t), (1, .ref (q 0)), (2, .int (iI ((0 : Int))))]) (S1 := []) (ws1 := [(t, .inr (3, [.ref u, .int (iI ((n : Int))), .int (iI 0)])), (u, aI g 60 tx), (q 0, .inr (2, [.ref (q 1), .ref (q 3), .ref (q 5), .ref (q 6), .ref (q 7), .int (iI (k 0 0))])), (q 1, .inr (1, [.ref (q 2), .int (iI 0), .int (iI 4), .int (iI (k 0 1))])), (q 2, aI g 10 (k 1)), (q 3, .inr (0, [.ref (q 4), .int (iI (k 0 9)), .int (iI (k 0 6)), .int (iI (k 0 4)), .int (iI (k 0 5)), .long (lI (k 0 7)), .long (lI (k 0 8))])), (q 4, aI g 48 (k 2)), (q 5, aI g 4 (k 3)), (q 6, aI g 4 (lay0 4 (k 4))), (q 7, aI g 4 (k 5))]) rfl rfl rfl ?_
  rw [← cpy_0 (fun j => tx j - 48) (k 1)]
  refine lp_readInto1 C hn htx ?_ 10 0 (by omega) (by omega) (by rw [Nat.zero_add])
  refine j_aload_n C 0 dX3_readInto_52 rfl rfl ?_
  refine j_bipush C dX3_readInto_53 (by decide) ?_
  refine j_bipush C dX3_readInto_55 (by decide) ?_
  by_cases hd : dg tx n 46 46 (pP tx n)
  · refine j_callV (As := [.int (iI 46), .int (iI 46)]) (rest := []) C yv_X3_nextIsFrom qw664 (c_X3_nextIsFrom_t l g t u tx n (pP tx n) 46 46 hn htx (by decide) (by decide) hd) (by decide) 0 rfl rfl rfl dX3_readInto_57 rfl (Nat.le_of_ble_eq_true rfl) (by decide) (pf1 [] [(q 0, .inr (2, [.ref (q 1), .ref (q 3), .ref (q 5), .ref (q 6), .ref (q 7), .int (iI (k 0 0))])), (q 1, .inr (1, [.ref (q 2), .int (iI ((pP tx n : Int))), .int (iI 4), .int (iI (k 0 1))])), (q 2, aI g 10 (cpy ((pP tx n)) (fun j => tx j - 48) (k 1))), (q 3, .inr (0, [.ref (q 4), .int (iI (k 0 9)), .int (iI (k 0 6)), .int (iI (k 0 4)), .int (iI (k 0 5)), .long (lI (k 0 7)), .long (lI (k 0 8))])), (q 4, aI g 48 (k 2)), (q 5, aI g 4 (k 3)), (q 6, aI g 4 (lay0 4 (k 4))), (q 7, aI g 4 (k 5))]) rfl (fun r9 w9 hq9 => ?_)
    obtain ⟨rfl, rfl⟩ := hq9
    refine J.to (L1 := [(0, .ref t), (1, .ref (q 0))]) (S1 := [.int (iI 1)]) (ws1 := [(t, .inr (3, [.ref u, .int (iI ((n : Int))), .int (iI ((pP tx n : Int)))])), (u, aI g 60 tx), (q 0, .inr (2, [.ref (q 1), .ref (q 3), .ref (q 5), .ref (q 6), .ref (q 7), .int (iI (k 0 0))])), (q 1, .inr (1, [.ref (q 2), .int (iI ((pP tx n : Int))), .int (iI 4), .int (iI (k 0 1))])), (q 2, aI g 10 (cpy ((pP tx n)) (fun j => tx j - 48) (k 1))), (q 3, .inr (0, [.ref (q 4), .int (iI (k 0 9)), .int (iI (k 0 6)), .int (iI (k 0 4)), .int (iI (k 0 5)), .long (lI (k 0 7)), .long (lI (k 0 8))])), (q 4, aI g 48 (k 2)), (q 5, aI g 4 (k 3)), (q 6, aI g 4 (lay0 4 (k 4))), (q 7, aI g 4 (k 5))]) rfl rfl rfl ?_
    refine j_if_ne (tgt := 68) C (by decide) dX3_readInto_60 (by decide) (fun c60 => ?_) (fun c60 => absurd c60 (by decide))
    have hd1 := hd.1
    refine j_aload_n C 0 dX3_readInto_68 rfl rfl ?_
    refine j_dup C dX3_readInto_69 rfl ?_
    refine j_get C ck3 0 2 (by decide) qw122 rfl rfl dX3_readInto_70 ?_
    refine j_iconst C dX3_readInto_73 ?_
    refine j_iadd C dX3_readInto_74 ?_
    refine j_put (ws1 := [(t, .inr (3, [.ref u, .int (iI ((n : Int))), .int (iI (((pP tx n : Int)) + 1))])), (u, aI g 60 tx), (q 0, .inr (2, [.ref (q 1), .ref (q 3), .ref (q 5), .ref (q 6), .ref (q 7), .int (iI (k 0 0))])), (q 1, .inr (1, [.ref (q 2), .int (iI ((pP tx n : Int))), .int (iI 4), .int (iI (k 0 1))])), (q 2, aI g 10 (cpy ((pP tx n)) (fun j => tx j - 48) (k 1))), (q 3, .inr (0, [.ref (q 4), .int (iI (k 0 9)), .int (iI (k 0 6)), .int (iI (k 0 4)), .int (iI (k 0 5)), .long (lI (k 0 7)), .long (lI (k 0 8))])), (q 4, aI g 48 (k 2)), (q 5, aI g 4 (k 3)), (q 6, aI g 4 (lay0 4 (k 4))), (q 7, aI g 4 (k 5))]) C ck3 0 2 (by decide) qw122 rfl dX3_readInto_75 rfl rfl rfl rfl (Nat.le_of_ble_eq_true rfl) ?_
    refine J.world (ws1 := [(t, .inr (3, [.ref u, .int (iI ((n : Int))), .int (iI (((pP tx n + 1 : Nat) : Int)))])), (u, aI g 60 tx), (q 0, .inr (2, [.ref (q 1), .ref (q 3), .ref (q 5), .ref (q 6), .ref (q 7), .int (iI (k 0 0))])), (q 1, .inr (1, [.ref (q 2), .int (iI ((pP tx n : Int))), .int (iI 4), .int (iI (k 0 1))])), (q 2, aI g 10 (cpy ((pP tx n)) (fun j => tx j - 48) (k 1))), (q 3, .inr (0, [.ref (q 4), .int (iI (k 0 9)), .int (iI (k 0 6)), .int (iI (k 0 4)), .int (iI (k 0 5)), .long (lI (k 0 7)), .long (lI (k 0 8))])), (q 4, aI g 48 (k 2)), (q 5, aI g 4 (k 3)), (q 6, aI g 4 (lay0 4 (k 4))), (q 7, aI g 4 (k 5))]) rfl ?_
    refine j_aload_n C 0 dX3_readInto_78 rfl rfl ?_
    refine j_bipush C dX3_readInto_79 (by decide) ?_
    refine j_bipush C dX3_readInto_81 (by decide) ?_
    by_cases hd2 : dg tx n 48 52 (pP tx n + 1)
    · refine j_callV (As := [.int (iI 48), .int (iI 52)]) (rest := []) C yv_X3_nextIsFrom qw664 (c_X3_nextIsFrom_t l g t u tx n (pP tx n + 1) 48 52 hn htx (by decide) (by decide) hd2) (by decide) 0 rfl rfl rfl dX3_readInto_83 rfl (Nat.le_of_ble_eq_true rfl) (by decide) (pf1 [] [(q 0, .inr (2, [.ref (q 1), .ref (q 3), .ref (q 5), .ref (q 6), .ref (q 7), .int (iI (k 0 0))])), (q 1, .inr (1, [.ref (q 2), .int (iI ((pP tx n : Int))), .int (iI 4), .int (iI (k 0 1))])), (q 2, aI g 10 (cpy ((pP tx n)) (fun j => tx j - 48) (k 1))), (q 3, .inr (0, [.ref (q 4), .int (iI (k 0 9)), .int (iI (k 0 6)), .int (iI (k 0 4)), .int (iI (k 0 5)), .long (lI (k 0 7)), .long (lI (k 0 8))])), (q 4, aI g 48 (k 2)), (q 5, aI g 4 (k 3)), (q 6, aI g 4 (lay0 4 (k 4))), (q 7, aI g 4 (k 5))]) rfl (fun r9 w9 hq9 => ?_)
      obtain ⟨rfl, rfl⟩ := hq9
      refine J.to (L1 := [(0, .ref t), (1, .ref (q 0))]) (S1 := [.int (iI 1)]) (ws1 := [(t, .inr (3, [.ref u, .int (iI ((n : Int))), .int (iI (((pP tx n + 1 : Nat) : Int)))])), (u, aI g 60 tx), (q 0, .inr (2, [.ref (q 1), .ref (q 3), .ref (q 5), .ref (q 6), .ref (q 7), .int (iI (k 0 0))])), (q 1, .inr (1, [.ref (q 2), .int (iI ((pP tx n : Int))), .int (iI 4), .int (iI (k 0 1))])), (q 2, aI g 10 (cpy ((pP tx n)) (fun j => tx j - 48) (k 1))), (q 3, .inr (0, [.ref (q 4), .int (iI (k 0 9)), .int (iI (k 0 6)), .int (iI (k 0 4)), .int (iI (k 0 5)), .long (lI (k 0 7)), .long (lI (k 0 8))])), (q 4, aI g 48 (k 2)), (q 5, aI g 4 (k 3)), (q 6, aI g 4 (lay0 4 (k 4))), (q 7, aI g 4 (k 5))]) rfl rfl rfl ?_
      refine j_if_ne (tgt := 94) C (by decide) dX3_readInto_86 (by decide) (fun c86 => ?_) (fun c86 => absurd c86 (by decide))
      have hd3 := hd2.1
      refine j_aload_n C 1 dX3_readInto_94 rfl rfl ?_
      refine j_getN C ck2 2 0 (by decide) qn89 rfl rfl dX3_readInto_95 ?_
      refine j_aload_n C 0 dX3_readInto_98 rfl rfl ?_
      refine j_callV (As := []) (rest := [.ref (q 1)]) C yv_X3_takeDigit qw669 (c_X3_takeDigit l g t u tx n (pP tx n + 1) hn htx hd3) (by decide) 0 rfl rfl rfl dX3_readInto_99 rfl (Nat.le_of_ble_eq_true rfl) (by decide) (pf1 [] [(q 0, .inr (2, [.ref (q 1), .ref (q 3), .ref (q 5), .ref (q 6), .ref (q 7), .int (iI (k 0 0))])), (q 1, .inr (1, [.ref (q 2), .int (iI ((pP tx n : Int))), .int (iI 4), .int (iI (k 0 1))])), (q 2, aI g 10 (cpy ((pP tx n)) (fun j => tx j - 48) (k 1))), (q 3, .inr (0, [.ref (q 4), .int (iI (k 0 9)), .int (iI (k 0 6)), .int (iI (k 0 4)), .int (iI (k 0 5)), .long (lI (k 0 7)), .long (lI (k 0 8))])), (q 4, aI g 48 (k 2)), (q 5, aI g 4 (k 3)), (q 6, aI g 4 (lay0 4 (k 4))), (q 7, aI g 4 (k 5))]) rfl (fun r9 w9 hq9 => ?_)
      obtain ⟨rfl, rfl⟩ := hq9
      refine J.to (L1 := [(0, .ref t), (1, .ref (q 0))]) (S1 := [.int (iI (tx (pP tx n + 1) - 48)), .ref (q 1)]) (ws1 := [(t, .inr (3, [.ref u, .int (iI ((n : Int))), .int (iI (((pP tx n + 2 : Nat) : Int)))])), (u, aI g 60 tx), (q 0, .inr (2, [.ref (q 1), .ref (q 3), .ref (q 5), .ref (q 6), .ref (q 7), .int (iI (k 0 0))])), (q 1, .inr (1, [.ref (q 2), .int (iI ((pP tx n : Int))), .int (iI 4), .int (iI (k 0 1))])), (q 2, aI g 10 (cpy ((pP tx n)) (fun j => tx j - 48) (k 1))), (q 3, .inr (0, [.ref (q 4), .int (iI (k 0 9)), .int (iI (k 0 6)), .int (iI (k 0 4)), .int (iI (k 0 5)), .long (lI (k 0 7)), .long (lI (k 0 8))])), (q 4, aI g 48 (k 2)), (q 5, aI g 4 (k 3)), (q 6, aI g 4 (lay0 4 (k 4))), (q 7, aI g 4 (k 5))]) rfl rfl rfl ?_
      refine j_putN (ws1 := [(t, .inr (3, [.ref u, .int (iI ((n : Int))), .int (iI (((pP tx n + 2 : Nat) : Int)))])), (u, aI g 60 tx), (q 0, .inr (2, [.ref (q 1), .ref (q 3), .ref (q 5), .ref (q 6), .ref (q 7), .int (iI (k 0 0))])), (q 1, .inr (1, [.ref (q 2), .int (iI ((pP tx n : Int))), .int (iI (tx (pP tx n + 1) - 48)), .int (iI (k 0 1))])), (q 2, aI g 10 (cpy ((pP tx n)) (fun j => tx j - 48) (k 1))), (q 3, .inr (0, [.ref (q 4), .int (iI (k 0 9)), .int (iI (k 0 6)), .int (iI (k 0 4)), .int (iI (k 0 5)), .long (lI (k 0 7)), .long (lI (k 0 8))])), (q 4, aI g 48 (k 2)), (q 5, aI g 4 (k 3)), (q 6, aI g 4 (lay0 4 (k 4))), (q 7, aI g 4 (k 5))]) C ck1 3 2 (by decide) qn38 rfl dX3_readInto_102 rfl rfl rfl rfl (Nat.le_of_ble_eq_true rfl) ?_
      refine j_iconst C dX3_readInto_105 ?_
      refine j_istore_n (L1 := [(2, .int (iI (-1))), (0, .ref t), (1, .ref (q 0))]) C dX3_readInto_106 rfl (by decide) rfl ?_
      refine j_iconst C dX3_readInto_107 ?_
      refine j_istore_n (L1 := [(3, .int (iI 0)), (2, .int (iI (-1))), (0, .ref t), (1, .ref (q 0))]) C dX3_readInto_108 rfl (by decide) rfl ?_
      refine J.sub (L1 := [(0, .ref t), (1, .ref (q 0)), (2, .int (iI (-1))), (3, .int (iI 0))]) [2, 3, 1, 0] rfl ?_
      have hF : pFlt tx n = pfin tx n 4 (pP tx n + 2) := by rw [pFlt, if_neg (Decidable.not_not.mpr hd), if_neg (Decidable.not_not.mpr hd2)]
      exact lp_readInto2 C hr hlk (Pn := pP tx n) (E := tx (pP tx n + 1) - 48) (Wf := wtf tx n 4 (pP tx n + 2) 0 (k 3)) hn htx hk hPl.1 (fun i hi => by have := rn_dg (tx := tx) (n := n) (lo := 48) (hi := 51) (f := 10) (p := 0) (i := i) hi; rw [Nat.zero_add] at this; exact this.2) (by have := hd2.2; omega) 4 0 (pP tx n + 2) (k 3) rfl (by omega) hk.2.2.2.2.1 hF.symm rfl
    · refine j_callV (As := [.int (iI 48), .int (iI 52)]) (rest := []) C yv_X3_nextIsFrom qw664 (c_X3_nextIsFrom_f l g t u tx n (pP tx n + 1) 48 52 hn htx (by decide) (by decide) (by omega) hd2) (by decide) 0 rfl rfl rfl dX3_readInto_83 rfl (Nat.le_of_ble_eq_true rfl) (by decide) (pf1 [] [(q 0, .inr (2, [.ref (q 1), .ref (q 3), .ref (q 5), .ref (q 6), .ref (q 7), .int (iI (k 0 0))])), (q 1, .inr (1, [.ref (q 2), .int (iI ((pP tx n : Int))), .int (iI 4), .int (iI (k 0 1))])), (q 2, aI g 10 (cpy ((pP tx n)) (fun j => tx j - 48) (k 1))), (q 3, .inr (0, [.ref (q 4), .int (iI (k 0 9)), .int (iI (k 0 6)), .int (iI (k 0 4)), .int (iI (k 0 5)), .long (lI (k 0 7)), .long (lI (k 0 8))])), (q 4, aI g 48 (k 2)), (q 5, aI g 4 (k 3)), (q 6, aI g 4 (lay0 4 (k 4))), (q 7, aI g 4 (k 5))]) rfl (fun r9 w9 hq9 => ?_)
      obtain ⟨rfl, rfl⟩ := hq9
      refine J.to (L1 := [(0, .ref t), (1, .ref (q 0))]) (S1 := [.int (iI 0)]) (ws1 := [(t, .inr (3, [.ref u, .int (iI ((n : Int))), .int (iI (((pP tx n + 1 : Nat) : Int)))])), (u, aI g 60 tx), (q 0, .inr (2, [.ref (q 1), .ref (q 3), .ref (q 5), .ref (q 6), .ref (q 7), .int (iI (k 0 0))])), (q 1, .inr (1, [.ref (q 2), .int (iI ((pP tx n : Int))), .int (iI 4), .int (iI (k 0 1))])), (q 2, aI g 10 (cpy ((pP tx n)) (fun j => tx j - 48) (k 1))), (q 3, .inr (0, [.ref (q 4), .int (iI (k 0 9)), .int (iI (k 0 6)), .int (iI (k 0 4)), .int (iI (k 0 5)), .long (lI (k 0 7)), .long (lI (k 0 8))])), (q 4, aI g 48 (k 2)), (q 5, aI g 4 (k 3)), (q 6, aI g 4 (lay0 4 (k 4))), (q 7, aI g 4 (k 5))]) rfl rfl rfl ?_
      refine j_if_ne (tgt := 94) C (by decide) dX3_readInto_86 (by decide) (fun c86 => absurd c86 (by decide)) (fun c86 => ?_)
      refine j_aload_n C 0 dX3_readInto_89 rfl rfl ?_
      refine j_get C ck3 0 2 (by decide) qw122 rfl rfl dX3_readInto_90 ?_
      exact j_iret C hr hlk dX3_readInto_93 ⟨by rw [pFlt, if_neg (Decidable.not_not.mpr hd), if_pos hd2], _, prS tx (pP tx n : Int) 4 (pP tx n) (k 3) k, rfl, fun h9 => by rw [pFlt, if_neg (Decidable.not_not.mpr hd), if_pos hd2] at h9; omega⟩ (by decide) (by decide)
  · refine j_callV (As := [.int (iI 46), .int (iI 46)]) (rest := []) C yv_X3_nextIsFrom qw664 (c_X3_nextIsFrom_f l g t u tx n (pP tx n) 46 46 hn htx (by decide) (by decide) (by omega) hd) (by decide) 0 rfl rfl rfl dX3_readInto_57 rfl (Nat.le_of_ble_eq_true rfl) (by decide) (pf1 [] [(q 0, .inr (2, [.ref (q 1), .ref (q 3), .ref (q 5), .ref (q 6), .ref (q 7), .int (iI (k 0 0))])), (q 1, .inr (1, [.ref (q 2), .int (iI ((pP tx n : Int))), .int (iI 4), .int (iI (k 0 1))])), (q 2, aI g 10 (cpy ((pP tx n)) (fun j => tx j - 48) (k 1))), (q 3, .inr (0, [.ref (q 4), .int (iI (k 0 9)), .int (iI (k 0 6)), .int (iI (k 0 4)), .int (iI (k 0 5)), .long (lI (k 0 7)), .long (lI (k 0 8))])), (q 4, aI g 48 (k 2)), (q 5, aI g 4 (k 3)), (q 6, aI g 4 (lay0 4 (k 4))), (q 7, aI g 4 (k 5))]) rfl (fun r9 w9 hq9 => ?_)
    obtain ⟨rfl, rfl⟩ := hq9
    refine J.to (L1 := [(0, .ref t), (1, .ref (q 0))]) (S1 := [.int (iI 0)]) (ws1 := [(t, .inr (3, [.ref u, .int (iI ((n : Int))), .int (iI ((pP tx n : Int)))])), (u, aI g 60 tx), (q 0, .inr (2, [.ref (q 1), .ref (q 3), .ref (q 5), .ref (q 6), .ref (q 7), .int (iI (k 0 0))])), (q 1, .inr (1, [.ref (q 2), .int (iI ((pP tx n : Int))), .int (iI 4), .int (iI (k 0 1))])), (q 2, aI g 10 (cpy ((pP tx n)) (fun j => tx j - 48) (k 1))), (q 3, .inr (0, [.ref (q 4), .int (iI (k 0 9)), .int (iI (k 0 6)), .int (iI (k 0 4)), .int (iI (k 0 5)), .long (lI (k 0 7)), .long (lI (k 0 8))])), (q 4, aI g 48 (k 2)), (q 5, aI g 4 (k 3)), (q 6, aI g 4 (lay0 4 (k 4))), (q 7, aI g 4 (k 5))]) rfl rfl rfl ?_
    refine j_if_ne (tgt := 68) C (by decide) dX3_readInto_60 (by decide) (fun c60 => absurd c60 (by decide)) (fun c60 => ?_)
    refine j_aload_n C 0 dX3_readInto_63 rfl rfl ?_
    refine j_get C ck3 0 2 (by decide) qw122 rfl rfl dX3_readInto_64 ?_
    exact j_iret C hr hlk dX3_readInto_67 ⟨by rw [pFlt, if_pos hd], _, prS tx (pP tx n : Int) 4 (pP tx n) (k 3) k, rfl, fun h9 => by rw [pFlt, if_pos hd] at h9; omega⟩ (by decide) (by decide)

