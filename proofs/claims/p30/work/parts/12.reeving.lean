/-! the rope s way: RopeTackle.Reeving -/
theorem b2i_0 {h : Bool} (q : b2i h = 0) : h = false := by
  cases h
  · rfl
  · exact absurd q (by decide)
theorem b2i_1 {h : Bool} (q : b2i h ≠ 0) : h = true := by
  cases h
  · exact absurd rfl q
  · rfl
theorem beh_t (F t : Int) : beh F true t = t - t * F / 100 := rfl
theorem beh_f (F t : Int) : beh F false t = t + t * F / 100 := rfl
theorem c_X1_strandsOf (l : Launch) (g : Gh) (a b : Nat) (row : Nat → Int) (P E F : Int) (bl : Int) (hP : 0 ≤ P ∧ P ≤ 10) (hE : -10 ≤ E ∧ E ≤ 10) (hb : -10 ≤ bl ∧ bl ≤ 10) (hrow : ∀ i : Nat, (i : Int) < P → 0 ≤ row i ∧ row i ≤ 4) : CT l g yX1_strandsOf cX1_strandsOf 2 (some FieldType.int) ({ frames := 1, cells := 0, slots := 0, locals := 23 }) [.ref a, .int (iI bl)] [(a, .inr (1, [.ref b, .int (iI P), .int (iI E), .int (iI F)])), (b, aI g 10 row)] (PE (some (.int (iI (strn row P.toNat E bl)))) [(a, .inr (1, [.ref b, .int (iI P), .int (iI E), .int (iI F)])), (b, aI g 10 row)]) := by
  refine CT.intro (L0 := [(0, .ref a), (1, .int (iI bl))]) (own := RX1) (by decide) rfl (Nat.le_of_ble_eq_true rfl) rfl ?_
  intro pX eX sX mX argsX belowX methX cX A C hr hlk
  refine j_iconst C dX1_strandsOf_0 ?_
  refine j_aload_n C 0 dX1_strandsOf_1 rfl rfl ?_
  refine j_iload_n C 1 dX1_strandsOf_2 rfl rfl ?_
  refine j_callV (As := [.int (iI bl)]) (rest := [.int (iI 2)]) C yv_X1_pulleysOn qw339 (c_X1_pulleysOn l g a b row P E F bl hP hb hrow) (by decide) 0 rfl rfl rfl dX1_strandsOf_3 rfl (Nat.le_of_ble_eq_true rfl) (by decide) pf0 rfl (fun r9 w9 hq9 => ?_)
  obtain ⟨rfl, rfl⟩ := hq9
  refine J.to (L1 := [(0, .ref a), (1, .int (iI bl))]) (S1 := [.int (iI (cnt row bl P.toNat)), .int (iI 2)]) (ws1 := [(a, .inr (1, [.ref b, .int (iI P), .int (iI E), .int (iI F)])), (b, aI g 10 row)]) rfl rfl rfl ?_
  refine j_imul C dX1_strandsOf_6 ?_
  refine j_aload_n C 0 dX1_strandsOf_7 rfl rfl ?_
  refine j_get C ck1 0 2 (by decide) qw37 rfl rfl dX1_strandsOf_8 ?_
  refine j_iload_n C 1 dX1_strandsOf_11 rfl rfl ?_
  refine j_icmp_ne (tgt := 19) C (by omega) (by omega) dX1_strandsOf_12 (by decide) (fun c12 => ?_) (fun c12 => ?_)
  · refine j_iconst C dX1_strandsOf_19 ?_
    refine j_iadd C dX1_strandsOf_20 ?_
    exact j_iret C hr hlk dX1_strandsOf_21 ⟨by rw [strn, if_neg c12], rfl⟩ (by decide) (by decide)
  · refine j_iconst C dX1_strandsOf_15 ?_
    refine j_goto (tgt := 20) C dX1_strandsOf_16 (by decide) ?_
    refine j_iadd C dX1_strandsOf_20 ?_
    exact j_iret C hr hlk dX1_strandsOf_21 ⟨by rw [strn, if_pos c12], rfl⟩ (by decide) (by decide)

theorem c_X1_passes (l : Launch) (g : Gh) (a b : Nat) (P E F : Int) (hE : -10 ≤ E ∧ E ≤ 10) : CT l g yX1_passes cX1_passes 1 (some FieldType.int) ({ frames := 0, cells := 0, slots := 0, locals := 0 }) [.ref a] [(a, .inr (1, [.ref b, .int (iI P), .int (iI E), .int (iI F)]))] (PE (some (.int (iI (2 * P + if E = 4 then 0 else 1)))) [(a, .inr (1, [.ref b, .int (iI P), .int (iI E), .int (iI F)]))]) := by
  refine CT.intro (L0 := [(0, .ref a)]) (own := RX1) (by decide) rfl (Nat.le_of_ble_eq_true rfl) rfl ?_
  intro pX eX sX mX argsX belowX methX cX A C hr hlk
  refine j_iconst C dX1_passes_0 ?_
  refine j_aload_n C 0 dX1_passes_1 rfl rfl ?_
  refine j_get C ck1 0 1 (by decide) qw35 rfl rfl dX1_passes_2 ?_
  refine j_imul C dX1_passes_5 ?_
  refine j_aload_n C 0 dX1_passes_6 rfl rfl ?_
  refine j_get C ck1 0 2 (by decide) qw37 rfl rfl dX1_passes_7 ?_
  refine j_iconst C dX1_passes_10 ?_
  refine j_icmp_ne (tgt := 18) C (by omega) (by decide) dX1_passes_11 (by decide) (fun c11 => ?_) (fun c11 => ?_)
  · refine j_iconst C dX1_passes_18 ?_
    refine j_iadd C dX1_passes_19 ?_
    exact j_iret C hr hlk dX1_passes_20 ⟨by rw [if_neg c11], rfl⟩ (by decide) (by decide)
  · refine j_iconst C dX1_passes_14 ?_
    refine j_goto (tgt := 19) C dX1_passes_15 (by decide) ?_
    refine j_iadd C dX1_passes_19 ?_
    exact j_iret C hr hlk dX1_passes_20 ⟨by rw [if_pos c11], rfl⟩ (by decide) (by decide)

theorem c_X1_behindOne (l : Launch) (g : Gh) (a b : Nat) (P E F : Int) (t : Int) (h : Bool) (hF : 0 ≤ F ∧ F ≤ 30) (ht : 0 ≤ t ∧ t ≤ 4194304000000) : CT l g yX1_behindOne cX1_behindOne 6 (some FieldType.long) ({ frames := 0, cells := 0, slots := 0, locals := 0 }) [.ref a, .long (lI t), .int (iI (b2i h))] [(a, .inr (1, [.ref b, .int (iI P), .int (iI E), .int (iI F)]))] (PE (some (.long (lI (beh F h t)))) [(a, .inr (1, [.ref b, .int (iI P), .int (iI E), .int (iI F)]))]) := by
  refine CT.intro (L0 := [(0, .ref a), (1, .long (lI t)), (3, .int (iI (b2i h)))]) (own := RX1) (by decide) rfl (Nat.le_of_ble_eq_true rfl) rfl ?_
  intro pX eX sX mX argsX belowX methX cX A C hr hlk
  have hm9 := mulF ht.1 hF
  have hh9 := b2i_rng h
  refine j_lload_n C 1 dX1_behindOne_0 rfl rfl ?_
  refine j_aload_n C 0 dX1_behindOne_1 rfl rfl ?_
  refine j_get C ck1 0 3 (by decide) qw40 rfl rfl dX1_behindOne_2 ?_
  refine j_i2l C (by omega) dX1_behindOne_5 ?_
  refine j_lmul C dX1_behindOne_6 ?_
  refine j_ldc2 (x := 100) C qw404 (by decide) dX1_behindOne_7 ?_
  refine j_ldiv C (by omega) (by decide) dX1_behindOne_10 ?_
  refine j_lstore (L1 := [(4, .long (lI ((t * F) / 100))), (0, .ref a), (1, .long (lI t)), (3, .int (iI (b2i h)))]) C dX1_behindOne_11 (by decide) rfl ?_
  refine j_iload_n C 3 dX1_behindOne_13 rfl rfl ?_
  refine j_if_eq (tgt := 24) C (by omega) dX1_behindOne_14 (by decide) (fun c14 => ?_) (fun c14 => ?_)
  · refine j_lload_n C 2 dX1_behindOne_24 rfl rfl ?_
    refine j_lload C 0 dX1_behindOne_25 rfl ?_
    refine j_ladd C dX1_behindOne_27 ?_
    exact j_lret C hr hlk dX1_behindOne_28 ⟨by rw [b2i_0 c14, beh_f], rfl⟩ (by decide) (by decide)
  · refine j_lload_n C 2 dX1_behindOne_17 rfl rfl ?_
    refine j_lload C 0 dX1_behindOne_18 rfl ?_
    refine j_lsub C dX1_behindOne_20 ?_
    refine j_goto (tgt := 28) C dX1_behindOne_21 (by decide) ?_
    exact j_lret C hr hlk dX1_behindOne_28 ⟨by rw [b2i_1 c14, beh_t], rfl⟩ (by decide) (by decide)

theorem lp_forceBehind {p : Program} {l : Launch} {e : Env} {s : State} {m : MethodId} {args : Array Value} {below : List Frame} {meth : Method} {c : Code} {g : Gh} {A : Nat → Prop} {Q : State → Prop} (C : Cx p g s m args c cX1_forceBehind 7 RX1 A) {a b : Nat} {P E F : Int} {q t : Int} {h : Bool} (hF : 0 ≤ F ∧ F ≤ 30) (ht : 0 ≤ t ∧ t ≤ 1000000) (hq : 0 ≤ q ∧ q ≤ 22)  (kk : J p l e ({ frames := 1, cells := 0, slots := 0, locals := 25 } : Room) s m args below meth c g A 7 28 [(0, .ref a), (2, .int (iI q)), (3, .int (iI (b2i h))), (4, .long (lI (fbn F h t q.toNat))), (6, .int (iI ((q.toNat : Int))))] [] [(a, .inr (1, [.ref b, .int (iI P), .int (iI E), .int (iI F)]))] 0 0 Q) : ∀ (n i : Nat), (i : Int) + n = q → J p l e ({ frames := 1, cells := 0, slots := 0, locals := 25 } : Room) s m args below meth c g A 7 7 [(0, .ref a), (2, .int (iI q)), (3, .int (iI (b2i h))), (4, .long (lI (fbn F h t i))), (6, .int (iI ((i : Int))))] [] [(a, .inr (1, [.ref b, .int (iI P), .int (iI E), .int (iI F)]))] 0 0 Q := by
  intro n
  induction n with
  | zero =>
    intro i hi
    have hi9 : i = q.toNat := by omega
    refine j_iload C 4 dX1_forceBehind_7 rfl ?_
    refine j_iload_n C 1 dX1_forceBehind_9 rfl rfl ?_
    refine j_icmp_ge (tgt := 28) C (by omega) (by omega) dX1_forceBehind_10 (by decide) (fun c10 => ?_) (fun c10 => absurd c10 (by omega))
    refine J.sub (L1 := [(0, .ref a), (2, .int (iI q)), (3, .int (iI (b2i h))), (4, .long (lI (fbn F h t i))), (6, .int (iI ((i : Int))))]) [0, 1, 2, 3, 4] rfl ?_
    rw [hi9]
    exact kk
  | succ n ih =>
    intro i hi
    have hb9 := fbn_le (h := h) (n := i) hF ht (by omega)
    refine j_iload C 4 dX1_forceBehind_7 rfl ?_
    refine j_iload_n C 1 dX1_forceBehind_9 rfl rfl ?_
    refine j_icmp_ge (tgt := 28) C (by omega) (by omega) dX1_forceBehind_10 (by decide) (fun c10 => absurd c10 (by omega)) (fun c10 => ?_)
    refine j_aload_n C 0 dX1_forceBehind_13 rfl rfl ?_
    refine j_lload C 3 dX1_forceBehind_14 rfl ?_
    refine j_iload_n C 2 dX1_forceBehind_16 rfl rfl ?_
    refine j_callV (As := [.long (lI (fbn F h t i)), .int (iI (b2i h))]) (rest := []) C yv_X1_behindOne qw400 (c_X1_behindOne l g a b P E F (fbn F h t i) h hF (by omega)) (by decide) 0 rfl rfl rfl dX1_forceBehind_17 rfl (Nat.le_of_ble_eq_true rfl) (by decide) pf0 rfl (fun r9 w9 hq9 => ?_)
    obtain ⟨rfl, rfl⟩ := hq9
    refine J.to (L1 := [(0, .ref a), (2, .int (iI q)), (3, .int (iI (b2i h))), (4, .long (lI (fbn F h t i))), (6, .int (iI ((i : Int))))]) (S1 := [.long (lI (fbn F h t (i + 1)))]) (ws1 := [(a, .inr (1, [.ref b, .int (iI P), .int (iI E), .int (iI F)]))]) rfl rfl rfl ?_
    refine j_lstore (L1 := [(4, .long (lI (fbn F h t (i + 1)))), (0, .ref a), (2, .int (iI q)), (3, .int (iI (b2i h))), (6, .int (iI ((i : Int))))]) C dX1_forceBehind_20 (by decide) rfl ?_
    refine j_iinc (L1 := [(6, .int (iI (((i : Int)) + 1))), (4, .long (lI (fbn F h t (i + 1)))), (0, .ref a), (2, .int (iI q)), (3, .int (iI (b2i h)))]) C 4 dX1_forceBehind_22 rfl (by decide) rfl ?_
    refine j_goto (tgt := 7) C dX1_forceBehind_25 (by decide) ?_
    refine J.sub (L1 := [(0, .ref a), (2, .int (iI q)), (3, .int (iI (b2i h))), (4, .long (lI (fbn F h t (i + 1)))), (6, .int (iI (((i : Int)) + 1)))]) [2, 3, 4, 1, 0] rfl ?_
    exact ih (i + 1) (by omega)

theorem c_X1_forceBehind (l : Launch) (g : Gh) (a b : Nat) (P E F : Int) (q t : Int) (h : Bool) (hF : 0 ≤ F ∧ F ≤ 30) (ht : 0 ≤ t ∧ t ≤ 1000000) (hq : 0 ≤ q ∧ q ≤ 22) : CT l g yX1_forceBehind cX1_forceBehind 7 (some FieldType.long) ({ frames := 1, cells := 0, slots := 0, locals := 25 }) [.ref a, .int (iI t), .int (iI q), .int (iI (b2i h))] [(a, .inr (1, [.ref b, .int (iI P), .int (iI E), .int (iI F)]))] (PE (some (.long (lI (fbn F h t q.toNat)))) [(a, .inr (1, [.ref b, .int (iI P), .int (iI E), .int (iI F)]))]) := by
  refine CT.intro (L0 := [(0, .ref a), (1, .int (iI t)), (2, .int (iI q)), (3, .int (iI (b2i h)))]) (own := RX1) (by decide) rfl (Nat.le_of_ble_eq_true rfl) rfl ?_
  intro pX eX sX mX argsX belowX methX cX A C hr hlk
  refine j_iload_n C 1 dX1_forceBehind_0 rfl rfl ?_
  refine j_i2l C (by omega) dX1_forceBehind_1 ?_
  refine j_lstore (L1 := [(4, .long (lI t)), (0, .ref a), (1, .int (iI t)), (2, .int (iI q)), (3, .int (iI (b2i h)))]) C dX1_forceBehind_2 (by decide) rfl ?_
  refine j_iconst C dX1_forceBehind_4 ?_
  refine j_istore (L1 := [(6, .int (iI 0)), (4, .long (lI t)), (0, .ref a), (1, .int (iI t)), (2, .int (iI q)), (3, .int (iI (b2i h)))]) C dX1_forceBehind_5 (by decide) rfl ?_
  refine J.sub (L1 := [(0, .ref a), (2, .int (iI q)), (3, .int (iI (b2i h))), (4, .long (lI t)), (6, .int (iI 0))]) [2, 4, 5, 1, 0] rfl ?_
  refine lp_forceBehind C hF ht hq ?_ q.toNat 0 (by omega)
  refine j_lload C 3 dX1_forceBehind_28 rfl ?_
  exact j_lret C hr hlk dX1_forceBehind_30 ⟨rfl, rfl⟩ (by decide) (by decide)

theorem lp_pullOn {p : Program} {l : Launch} {e : Env} {s : State} {m : MethodId} {args : Array Value} {below : List Frame} {meth : Method} {c : Code} {g : Gh} {A : Nat → Prop} {Q : State → Prop} (C : Cx p g s m args c cX1_pullOn 11 RX1 A) {a b : Nat} {row : Nat → Int} {P E F : Int} {bl t : Int} {h : Bool} (hP : 0 ≤ P ∧ P ≤ 10) (hF : 0 ≤ F ∧ F ≤ 30) (hb : -10 ≤ bl ∧ bl ≤ 10) (ht : 0 ≤ t ∧ t ≤ 1000000) (hrow : ∀ i : Nat, (i : Int) < P → 0 ≤ row i ∧ row i ≤ 4) (kk : J p l e ({ frames := 1, cells := 0, slots := 0, locals := 25 } : Room) s m args below meth c g A 11 74 [(0, .ref a), (1, .int (iI bl)), (3, .int (iI (b2i h))), (4, .long (lI (psum row F h bl t P.toNat))), (6, .long (lI (fbn F h t (2 * P.toNat)))), (8, .int (iI ((P.toNat : Int))))] [] [(a, .inr (1, [.ref b, .int (iI P), .int (iI E), .int (iI F)])), (b, aI g 10 row)] 0 0 Q) : ∀ (n i : Nat), (i : Int) + n = P → J p l e ({ frames := 1, cells := 0, slots := 0, locals := 25 } : Room) s m args below meth c g A 11 10 [(0, .ref a), (1, .int (iI bl)), (3, .int (iI (b2i h))), (4, .long (lI (psum row F h bl t i))), (6, .long (lI (fbn F h t (2 * i)))), (8, .int (iI ((i : Int))))] [] [(a, .inr (1, [.ref b, .int (iI P), .int (iI E), .int (iI F)])), (b, aI g 10 row)] 0 0 Q := by
  intro n
  induction n with
  | zero =>
    intro i hi
    have hi9 : i = P.toNat := by omega
    refine j_iload C 5 dX1_pullOn_10 rfl ?_
    refine j_aload_n C 0 dX1_pullOn_12 rfl rfl ?_
    refine j_get C ck1 0 1 (by decide) qw35 rfl rfl dX1_pullOn_13 ?_
    refine j_icmp_ge (tgt := 74) C (by omega) (by omega) dX1_pullOn_16 (by decide) (fun c16 => ?_) (fun c16 => absurd c16 (by omega))
    refine J.sub (L1 := [(0, .ref a), (1, .int (iI bl)), (3, .int (iI (b2i h))), (4, .long (lI (psum row F h bl t i))), (6, .long (lI (fbn F h t (2 * i)))), (8, .int (iI ((i : Int))))]) [0, 1, 2, 3, 4, 5] rfl ?_
    rw [hi9]
    exact kk
  | succ n ih =>
    intro i hi
    have hr9 := hrow i (by omega)
    have hb9 := fbn_le (h := h) (n := 2 * i) hF ht (by omega)
    have hb8 := fbn_le (h := h) (n := 2 * i + 1) hF ht (by omega)
    refine j_iload C 5 dX1_pullOn_10 rfl ?_
    refine j_aload_n C 0 dX1_pullOn_12 rfl rfl ?_
    refine j_get C ck1 0 1 (by decide) qw35 rfl rfl dX1_pullOn_13 ?_
    refine j_icmp_ge (tgt := 74) C (by omega) (by omega) dX1_pullOn_16 (by decide) (fun c16 => absurd c16 (by omega)) (fun c16 => ?_)
    refine j_iload C 5 dX1_pullOn_19 rfl ?_
    refine j_aload_n C 0 dX1_pullOn_21 rfl rfl ?_
    refine j_get C ck1 0 0 (by decide) qw33 rfl rfl dX1_pullOn_22 ?_
    refine j_ilen (n := 10) (f := row) (v := 10) C 1 rfl rfl dX1_pullOn_25 ?_
    refine j_icmp_ge (tgt := 74) C (by omega) (by decide) dX1_pullOn_26 (by decide) (fun c26 => absurd c26 (by omega)) (fun c26 => ?_)
    refine j_aload_n C 0 dX1_pullOn_29 rfl rfl ?_
    refine j_lload C 4 dX1_pullOn_30 rfl ?_
    refine j_iload_n C 2 dX1_pullOn_32 rfl rfl ?_
    refine j_callV (As := [.long (lI (fbn F h t (2 * i))), .int (iI (b2i h))]) (rest := []) C yv_X1_behindOne qw400 (c_X1_behindOne l g a b P E F (fbn F h t (2 * i)) h hF (by omega)) (by decide) 0 rfl rfl rfl dX1_pullOn_33 rfl (Nat.le_of_ble_eq_true rfl) (by decide) (pf1 [] [(b, aI g 10 row)]) rfl (fun r9 w9 hq9 => ?_)
    obtain ⟨rfl, rfl⟩ := hq9
    refine J.to (L1 := [(0, .ref a), (1, .int (iI bl)), (3, .int (iI (b2i h))), (4, .long (lI (psum row F h bl t i))), (6, .long (lI (fbn F h t (2 * i)))), (8, .int (iI ((i : Int))))]) (S1 := [.long (lI (fbn F h t (2 * i + 1)))]) (ws1 := [(a, .inr (1, [.ref b, .int (iI P), .int (iI E), .int (iI F)])), (b, aI g 10 row)]) rfl rfl rfl ?_
    refine j_lstore (L1 := [(9, .long (lI (fbn F h t (2 * i + 1)))), (0, .ref a), (1, .int (iI bl)), (3, .int (iI (b2i h))), (4, .long (lI (psum row F h bl t i))), (6, .long (lI (fbn F h t (2 * i)))), (8, .int (iI ((i : Int))))]) C dX1_pullOn_36 (by decide) rfl ?_
    refine j_aload_n C 1 dX1_pullOn_38 rfl rfl ?_
    refine j_lload C 0 dX1_pullOn_39 rfl ?_
    refine j_iload_n C 3 dX1_pullOn_41 rfl rfl ?_
    refine j_callV (As := [.long (lI (fbn F h t (2 * i + 1))), .int (iI (b2i h))]) (rest := []) C yv_X1_behindOne qw400 (c_X1_behindOne l g a b P E F (fbn F h t (2 * i + 1)) h hF (by omega)) (by decide) 0 rfl rfl rfl dX1_pullOn_42 rfl (Nat.le_of_ble_eq_true rfl) (by decide) (pf1 [] [(b, aI g 10 row)]) rfl (fun r9 w9 hq9 => ?_)
    obtain ⟨rfl, rfl⟩ := hq9
    refine J.to (L1 := [(9, .long (lI (fbn F h t (2 * i + 1)))), (0, .ref a), (1, .int (iI bl)), (3, .int (iI (b2i h))), (4, .long (lI (psum row F h bl t i))), (6, .long (lI (fbn F h t (2 * i)))), (8, .int (iI ((i : Int))))]) (S1 := [.long (lI (fbn F h t (2 * i + 2)))]) (ws1 := [(a, .inr (1, [.ref b, .int (iI P), .int (iI E), .int (iI F)])), (b, aI g 10 row)]) rfl rfl rfl ?_
    refine j_lstore (L1 := [(6, .long (lI (fbn F h t (2 * i + 2)))), (9, .long (lI (fbn F h t (2 * i + 1)))), (0, .ref a), (1, .int (iI bl)), (3, .int (iI (b2i h))), (4, .long (lI (psum row F h bl t i))), (8, .int (iI ((i : Int))))]) C dX1_pullOn_45 (by decide) rfl ?_
    refine j_aload_n C 2 dX1_pullOn_47 rfl rfl ?_
    refine j_get C ck1 0 0 (by decide) qw33 rfl rfl dX1_pullOn_48 ?_
    refine j_iload C 6 dX1_pullOn_51 rfl ?_
    refine j_iald (n := 10) (f := row) C 1 i rfl rfl (by omega) (by decide) dX1_pullOn_53 ?_
    refine j_iload_n C 3 dX1_pullOn_54 rfl rfl ?_
    refine j_icmp_ne (tgt := 68) C (by omega) (by omega) dX1_pullOn_55 (by decide) (fun c55 => ?_) (fun c55 => ?_)
    · refine j_iinc (L1 := [(8, .int (iI (((i : Int)) + 1))), (6, .long (lI (fbn F h t (2 * i + 2)))), (9, .long (lI (fbn F h t (2 * i + 1)))), (0, .ref a), (1, .int (iI bl)), (3, .int (iI (b2i h))), (4, .long (lI (psum row F h bl t i)))]) C 6 dX1_pullOn_68 rfl (by decide) rfl ?_
      refine j_goto (tgt := 10) C dX1_pullOn_71 (by decide) ?_
      refine J.sub (L1 := [(0, .ref a), (1, .int (iI bl)), (3, .int (iI (b2i h))), (4, .long (lI (psum row F h bl t i))), (6, .long (lI (fbn F h t (2 * i + 2)))), (8, .int (iI (((i : Int)) + 1)))]) [3, 4, 5, 6, 1, 0] rfl ?_
      have h9 := ih (i + 1) (by omega)
      rw [show psum row F h bl t (i + 1) = psum row F h bl t i by simp only [psum]; rw [if_neg c55]; omega] at h9
      exact h9
    · refine j_lload C 5 dX1_pullOn_58 rfl ?_
      refine j_lload C 1 dX1_pullOn_60 rfl ?_
      refine j_lload C 0 dX1_pullOn_62 rfl ?_
      refine j_ladd C dX1_pullOn_64 ?_
      refine j_ladd C dX1_pullOn_65 ?_
      refine j_lstore (L1 := [(4, .long (lI ((psum row F h bl t i) + ((fbn F h t (2 * i + 1)) + (fbn F h t (2 * i + 2)))))), (6, .long (lI (fbn F h t (2 * i + 2)))), (9, .long (lI (fbn F h t (2 * i + 1)))), (0, .ref a), (1, .int (iI bl)), (3, .int (iI (b2i h))), (8, .int (iI ((i : Int))))]) C dX1_pullOn_66 (by decide) rfl ?_
      refine j_iinc (L1 := [(8, .int (iI (((i : Int)) + 1))), (4, .long (lI ((psum row F h bl t i) + ((fbn F h t (2 * i + 1)) + (fbn F h t (2 * i + 2)))))), (6, .long (lI (fbn F h t (2 * i + 2)))), (9, .long (lI (fbn F h t (2 * i + 1)))), (0, .ref a), (1, .int (iI bl)), (3, .int (iI (b2i h)))]) C 6 dX1_pullOn_68 rfl (by decide) rfl ?_
      refine j_goto (tgt := 10) C dX1_pullOn_71 (by decide) ?_
      refine J.sub (L1 := [(0, .ref a), (1, .int (iI bl)), (3, .int (iI (b2i h))), (4, .long (lI ((psum row F h bl t i) + ((fbn F h t (2 * i + 1)) + (fbn F h t (2 * i + 2)))))), (6, .long (lI (fbn F h t (2 * i + 2)))), (8, .int (iI (((i : Int)) + 1)))]) [4, 5, 6, 1, 2, 0] rfl ?_
      have h9 := ih (i + 1) (by omega)
      rw [show psum row F h bl t (i + 1) = psum row F h bl t i + (fbn F h t (2 * i + 1) + fbn F h t (2 * i + 2)) by simp only [psum]; rw [if_pos c55]] at h9
      exact h9

theorem c_X1_pullOn (l : Launch) (g : Gh) (a b : Nat) (row : Nat → Int) (P E F : Int) (bl t : Int) (h : Bool) (hP : 0 ≤ P ∧ P ≤ 10) (hE : -10 ≤ E ∧ E ≤ 10) (hF : 0 ≤ F ∧ F ≤ 30) (hb : -10 ≤ bl ∧ bl ≤ 10) (ht : 0 ≤ t ∧ t ≤ 1000000) (hrow : ∀ i : Nat, (i : Int) < P → 0 ≤ row i ∧ row i ≤ 4) : CT l g yX1_pullOn cX1_pullOn 11 (some FieldType.long) ({ frames := 1, cells := 0, slots := 0, locals := 25 }) [.ref a, .int (iI bl), .int (iI t), .int (iI (b2i h))] [(a, .inr (1, [.ref b, .int (iI P), .int (iI E), .int (iI F)])), (b, aI g 10 row)] (PE (some (.long (lI (pul row F h P.toNat E bl t)))) [(a, .inr (1, [.ref b, .int (iI P), .int (iI E), .int (iI F)])), (b, aI g 10 row)]) := by
  refine CT.intro (L0 := [(0, .ref a), (1, .int (iI bl)), (2, .int (iI t)), (3, .int (iI (b2i h)))]) (own := RX1) (by decide) rfl (Nat.le_of_ble_eq_true rfl) rfl ?_
  intro pX eX sX mX argsX belowX methX cX A C hr hlk
  have hb9 := fbn_le (h := h) (n := 2 * P.toNat) hF ht (by omega)
  refine j_lconst (v := 0) C dX1_pullOn_0 rfl ?_
  refine j_lstore (L1 := [(4, .long (lI 0)), (0, .ref a), (1, .int (iI bl)), (2, .int (iI t)), (3, .int (iI (b2i h)))]) C dX1_pullOn_1 (by decide) rfl ?_
  refine j_iload_n C 3 dX1_pullOn_3 rfl rfl ?_
  refine j_i2l C (by omega) dX1_pullOn_4 ?_
  refine j_lstore (L1 := [(6, .long (lI t)), (4, .long (lI 0)), (0, .ref a), (1, .int (iI bl)), (2, .int (iI t)), (3, .int (iI (b2i h)))]) C dX1_pullOn_5 (by decide) rfl ?_
  refine j_iconst C dX1_pullOn_7 ?_
  refine j_istore (L1 := [(8, .int (iI 0)), (6, .long (lI t)), (4, .long (lI 0)), (0, .ref a), (1, .int (iI bl)), (2, .int (iI t)), (3, .int (iI (b2i h)))]) C dX1_pullOn_8 (by decide) rfl ?_
  refine J.sub (L1 := [(0, .ref a), (1, .int (iI bl)), (3, .int (iI (b2i h))), (4, .long (lI 0)), (6, .long (lI t)), (8, .int (iI 0))]) [3, 4, 6, 2, 1, 0] rfl ?_
  refine lp_pullOn C hP hF hb ht hrow ?_ P.toNat 0 (by omega)
  refine j_aload_n C 0 dX1_pullOn_74 rfl rfl ?_
  refine j_get C ck1 0 2 (by decide) qw37 rfl rfl dX1_pullOn_75 ?_
  refine j_iload_n C 1 dX1_pullOn_78 rfl rfl ?_
  refine j_icmp_ne (tgt := 95) C (by omega) (by omega) dX1_pullOn_79 (by decide) (fun c79 => ?_) (fun c79 => ?_)
  · refine j_lload C 3 dX1_pullOn_95 rfl ?_
    exact j_lret C hr hlk dX1_pullOn_97 ⟨by rw [pul, if_neg c79]; rw [Int.add_zero], rfl⟩ (by decide) (by decide)
  · refine j_lload C 3 dX1_pullOn_82 rfl ?_
    refine j_aload_n C 0 dX1_pullOn_84 rfl rfl ?_
    refine j_lload C 4 dX1_pullOn_85 rfl ?_
    refine j_iload_n C 2 dX1_pullOn_87 rfl rfl ?_
    refine j_callV (As := [.long (lI (fbn F h t (2 * P.toNat))), .int (iI (b2i h))]) (rest := [.long (lI (psum row F h bl t P.toNat))]) C yv_X1_behindOne qw400 (c_X1_behindOne l g a b P E F (fbn F h t (2 * P.toNat)) h hF (by omega)) (by decide) 0 rfl rfl rfl dX1_pullOn_88 rfl (Nat.le_of_ble_eq_true rfl) (by decide) (pf1 [] [(b, aI g 10 row)]) rfl (fun r9 w9 hq9 => ?_)
    obtain ⟨rfl, rfl⟩ := hq9
    refine J.to (L1 := [(0, .ref a), (1, .int (iI bl)), (3, .int (iI (b2i h))), (4, .long (lI (psum row F h bl t P.toNat))), (6, .long (lI (fbn F h t (2 * P.toNat)))), (8, .int (iI ((P.toNat : Int))))]) (S1 := [.long (lI (fbn F h t (2 * P.toNat + 1))), .long (lI (psum row F h bl t P.toNat))]) (ws1 := [(a, .inr (1, [.ref b, .int (iI P), .int (iI E), .int (iI F)])), (b, aI g 10 row)]) rfl rfl rfl ?_
    refine j_ladd C dX1_pullOn_91 ?_
    refine j_goto (tgt := 97) C dX1_pullOn_92 (by decide) ?_
    exact j_lret C hr hlk dX1_pullOn_97 ⟨by rw [pul, if_pos c79], rfl⟩ (by decide) (by decide)

theorem lp_leastForce {p : Program} {l : Launch} {e : Env} {s : State} {m : MethodId} {args : Array Value} {below : List Frame} {meth : Method} {c : Code} {g : Gh} {A : Nat → Prop} {Q : State → Prop} (C : Cx p g s m args c cX1_leastForce 8 RX1 A) {a b : Nat} {row : Nat → Int} {P E F : Int} {bl w : Int} {h : Bool} (hP : 0 ≤ P ∧ P ≤ 10) (hE : -10 ≤ E ∧ E ≤ 10) (hF : 0 ≤ F ∧ F ≤ 30) (hb : -10 ≤ bl ∧ bl ≤ 10) (hw : 0 ≤ w ∧ w ≤ 1000000) (hrow : ∀ i : Nat, (i : Int) < P → 0 ≤ row i ∧ row i ≤ 4) (kk : ∀ r : Int, IsL (pul row F h P.toNat E bl) w r → J p l e ({ frames := 2, cells := 0, slots := 0, locals := 55 } : Room) s m args below meth c g A 8 90 [(5, .int (iI r))] [] [(a, .inr (1, [.ref b, .int (iI P), .int (iI E), .int (iI F)])), (b, aI g 10 row)] 0 0 Q) : ∀ (n i : Nat) (lo hi : Int), (0 ≤ lo ∧ lo ≤ hi) → hi ≤ 1000000 → w ≤ pul row F h P.toNat E bl hi → (∀ f, 0 ≤ f → f < lo → pul row F h P.toNat E bl f < w) → hi - lo < (2 : Int) ^ n → i + n ≤ 32 → J p l e ({ frames := 2, cells := 0, slots := 0, locals := 55 } : Room) s m args below meth c g A 8 34 [(0, .ref a), (1, .int (iI bl)), (2, .int (iI w)), (3, .int (iI (b2i h))), (4, .int (iI lo)), (5, .int (iI hi)), (6, .int (iI ((i : Int))))] [] [(a, .inr (1, [.ref b, .int (iI P), .int (iI E), .int (iI F)])), (b, aI g 10 row)] 0 0 Q := by
  intro n
  induction n with
  | zero =>
    intro i lo hi h1 h2 h3 h4 h5 h6
    have h7 : hi = lo := by rw [Int.pow_zero] at h5; omega
    refine j_iload C 6 dX1_leastForce_34 rfl ?_
    refine j_bipush C dX1_leastForce_36 (by decide) ?_
    refine j_icmp_ge (tgt := 90) C (by omega) (by decide) dX1_leastForce_38 (by decide) (fun c38 => ?_) (fun c38 => ?_)
    · refine J.sub (L1 := [(5, .int (iI hi))]) [5] rfl ?_
      exact kk hi ⟨by omega, h3, fun f hf0 hf1 => h4 f hf0 (by omega)⟩
    · refine j_iload C 4 dX1_leastForce_41 rfl ?_
      refine j_iload C 5 dX1_leastForce_43 rfl ?_
      refine j_icmp_ge (tgt := 90) C (by omega) (by omega) dX1_leastForce_45 (by decide) (fun c45 => ?_) (fun c45 => absurd c45 (by omega))
      refine J.sub (L1 := [(5, .int (iI hi))]) [5] rfl ?_
      exact kk hi ⟨by omega, h3, fun f hf0 hf1 => h4 f hf0 (by omega)⟩
  | succ n ih =>
    intro i lo hi h1 h2 h3 h4 h5 h6
    rw [Int.pow_succ] at h5
    refine j_iload C 6 dX1_leastForce_34 rfl ?_
    refine j_bipush C dX1_leastForce_36 (by decide) ?_
    refine j_icmp_ge (tgt := 90) C (by omega) (by decide) dX1_leastForce_38 (by decide) (fun c38 => absurd c38 (by omega)) (fun c38 => ?_)
    refine j_iload C 4 dX1_leastForce_41 rfl ?_
    refine j_iload C 5 dX1_leastForce_43 rfl ?_
    refine j_icmp_ge (tgt := 90) C (by omega) (by omega) dX1_leastForce_45 (by decide) (fun c45 => ?_) (fun c45 => ?_)
    · refine J.sub (L1 := [(5, .int (iI hi))]) [5] rfl ?_
      exact kk hi ⟨by omega, h3, fun f hf0 hf1 => h4 f hf0 (by omega)⟩
    · refine j_iload C 4 dX1_leastForce_48 rfl ?_
      refine j_iload C 5 dX1_leastForce_50 rfl ?_
      refine j_iadd C dX1_leastForce_52 ?_
      refine j_iconst C dX1_leastForce_53 ?_
      refine j_idiv C (by omega) (by decide) dX1_leastForce_54 ?_
      refine j_istore (L1 := [(7, .int (iI ((lo + hi) / 2))), (0, .ref a), (1, .int (iI bl)), (2, .int (iI w)), (3, .int (iI (b2i h))), (4, .int (iI lo)), (5, .int (iI hi)), (6, .int (iI ((i : Int))))]) C dX1_leastForce_55 (by decide) rfl ?_
      refine j_aload_n C 1 dX1_leastForce_57 rfl rfl ?_
      refine j_iload_n C 2 dX1_leastForce_58 rfl rfl ?_
      refine j_iload C 0 dX1_leastForce_59 rfl ?_
      refine j_iload_n C 4 dX1_leastForce_61 rfl rfl ?_
      refine j_callV (As := [.int (iI bl), .int (iI ((lo + hi) / 2)), .int (iI (b2i h))]) (rest := []) C yv_X1_pullOn qw396 (c_X1_pullOn l g a b row P E F bl ((lo + hi) / 2) h hP hE hF hb (by omega) hrow) (by decide) 0 rfl rfl rfl dX1_leastForce_62 rfl (Nat.le_of_ble_eq_true rfl) (by decide) pf0 rfl (fun r9 w9 hq9 => ?_)
      obtain ⟨rfl, rfl⟩ := hq9
      refine J.to (L1 := [(7, .int (iI ((lo + hi) / 2))), (0, .ref a), (1, .int (iI bl)), (2, .int (iI w)), (3, .int (iI (b2i h))), (4, .int (iI lo)), (5, .int (iI hi)), (6, .int (iI ((i : Int))))]) (S1 := [.long (lI (pul row F h P.toNat E bl ((lo + hi) / 2)))]) (ws1 := [(a, .inr (1, [.ref b, .int (iI P), .int (iI E), .int (iI F)])), (b, aI g 10 row)]) rfl rfl rfl ?_
      have hp62 := pul_le (f := row) (F := F) (h := h) (n := P.toNat) (E := E) (b := bl) (t := (lo + hi) / 2) hF (by omega) (by omega)
      refine j_iload_n C 3 dX1_leastForce_65 rfl rfl ?_
      refine j_i2l C (by omega) dX1_leastForce_66 ?_
      refine j_lif_lt (tgt := 78) C (by omega) (by omega) dX1_leastForce_67 dX1_leastForce_68 (by decide) (fun c67 => ?_) (fun c67 => ?_)
      · refine j_iload C 0 dX1_leastForce_78 rfl ?_
        refine j_iconst C dX1_leastForce_80 ?_
        refine j_iadd C dX1_leastForce_81 ?_
        refine j_istore (L1 := [(4, .int (iI (((lo + hi) / 2) + 1))), (7, .int (iI ((lo + hi) / 2))), (0, .ref a), (1, .int (iI bl)), (2, .int (iI w)), (3, .int (iI (b2i h))), (5, .int (iI hi)), (6, .int (iI ((i : Int))))]) C dX1_leastForce_82 (by decide) rfl ?_
        refine j_iinc (L1 := [(6, .int (iI (((i : Int)) + 1))), (4, .int (iI (((lo + hi) / 2) + 1))), (7, .int (iI ((lo + hi) / 2))), (0, .ref a), (1, .int (iI bl)), (2, .int (iI w)), (3, .int (iI (b2i h))), (5, .int (iI hi))]) C 7 dX1_leastForce_84 rfl (by decide) rfl ?_
        refine j_goto (tgt := 34) C dX1_leastForce_87 (by decide) ?_
        refine J.sub (L1 := [(0, .ref a), (1, .int (iI bl)), (2, .int (iI w)), (3, .int (iI (b2i h))), (4, .int (iI (((lo + hi) / 2) + 1))), (5, .int (iI hi)), (6, .int (iI (((i : Int)) + 1)))]) [3, 4, 5, 6, 1, 7, 0] rfl ?_
        exact ih (i + 1) _ _ ⟨by omega, by omega⟩ h2 h3 (fun f hf0 hf1 => Int.lt_of_le_of_lt (pul_mono hF hf0 (by omega)) c67) (by omega) (by omega)
      · refine j_iload C 0 dX1_leastForce_71 rfl ?_
        refine j_istore (L1 := [(5, .int (iI ((lo + hi) / 2))), (7, .int (iI ((lo + hi) / 2))), (0, .ref a), (1, .int (iI bl)), (2, .int (iI w)), (3, .int (iI (b2i h))), (4, .int (iI lo)), (6, .int (iI ((i : Int))))]) C dX1_leastForce_73 (by decide) rfl ?_
        refine j_goto (tgt := 84) C dX1_leastForce_75 (by decide) ?_
        refine j_iinc (L1 := [(6, .int (iI (((i : Int)) + 1))), (5, .int (iI ((lo + hi) / 2))), (7, .int (iI ((lo + hi) / 2))), (0, .ref a), (1, .int (iI bl)), (2, .int (iI w)), (3, .int (iI (b2i h))), (4, .int (iI lo))]) C 7 dX1_leastForce_84 rfl (by decide) rfl ?_
        refine j_goto (tgt := 34) C dX1_leastForce_87 (by decide) ?_
        refine J.sub (L1 := [(0, .ref a), (1, .int (iI bl)), (2, .int (iI w)), (3, .int (iI (b2i h))), (4, .int (iI lo)), (5, .int (iI ((lo + hi) / 2))), (6, .int (iI (((i : Int)) + 1)))]) [3, 4, 5, 6, 7, 1, 0] rfl ?_
        exact ih (i + 1) _ _ ⟨by omega, by omega⟩ (by omega) c67 h4 (by omega) (by omega)

theorem c_X1_leastForce (l : Launch) (g : Gh) (a b : Nat) (row : Nat → Int) (P E F : Int) (bl w : Int) (h : Bool) (hP : 0 ≤ P ∧ P ≤ 10) (hE : -10 ≤ E ∧ E ≤ 10) (hF : 0 ≤ F ∧ F ≤ 30) (hb : -10 ≤ bl ∧ bl ≤ 10) (hw : 0 ≤ w ∧ w ≤ 1000000) (hrow : ∀ i : Nat, (i : Int) < P → 0 ≤ row i ∧ row i ≤ 4) : CT l g yX1_leastForce cX1_leastForce 8 (some FieldType.int) ({ frames := 2, cells := 0, slots := 0, locals := 55 }) [.ref a, .int (iI bl), .int (iI w), .int (iI (b2i h))] [(a, .inr (1, [.ref b, .int (iI P), .int (iI E), .int (iI F)])), (b, aI g 10 row)] (PE (some (.int (iI (lea row F h P.toNat E bl w)))) [(a, .inr (1, [.ref b, .int (iI P), .int (iI E), .int (iI F)])), (b, aI g 10 row)]) := by
  refine CT.intro (L0 := [(0, .ref a), (1, .int (iI bl)), (2, .int (iI w)), (3, .int (iI (b2i h)))]) (own := RX1) (by decide) rfl (Nat.le_of_ble_eq_true rfl) rfl ?_
  intro pX eX sX mX argsX belowX methX cX A C hr hlk
  have hs9 := strn_rng row P.toNat E bl
  refine j_aload_n C 0 dX1_leastForce_0 rfl rfl ?_
  refine j_iload_n C 1 dX1_leastForce_1 rfl rfl ?_
  refine j_callV (As := [.int (iI bl)]) (rest := []) C yv_X1_strandsOf qw394 (c_X1_strandsOf l g a b row P E F bl hP hE hb hrow) (by decide) 0 rfl rfl rfl dX1_leastForce_2 rfl (Nat.le_of_ble_eq_true rfl) (by decide) pf0 rfl (fun r9 w9 hq9 => ?_)
  obtain ⟨rfl, rfl⟩ := hq9
  refine J.to (L1 := [(0, .ref a), (1, .int (iI bl)), (2, .int (iI w)), (3, .int (iI (b2i h)))]) (S1 := [.int (iI (strn row P.toNat E bl))]) (ws1 := [(a, .inr (1, [.ref b, .int (iI P), .int (iI E), .int (iI F)])), (b, aI g 10 row)]) rfl rfl rfl ?_
  refine j_if_eq (tgt := 22) C (by omega) dX1_leastForce_5 (by decide) (fun c5 => ?_) (fun c5 => ?_)
  · refine j_iconst C dX1_leastForce_22 ?_
    exact j_iret C hr hlk dX1_leastForce_23 ⟨by rw [lea, if_pos c5], rfl⟩ (by decide) (by decide)
  · refine j_aload_n C 0 dX1_leastForce_8 rfl rfl ?_
    refine j_iload_n C 1 dX1_leastForce_9 rfl rfl ?_
    refine j_ldc (x := 1000000) C qw395 (by decide) dX1_leastForce_10 ?_
    refine j_iload_n C 3 dX1_leastForce_12 rfl rfl ?_
    refine j_callV (As := [.int (iI bl), .int (iI 1000000), .int (iI (b2i h))]) (rest := []) C yv_X1_pullOn qw396 (c_X1_pullOn l g a b row P E F bl 1000000 h hP hE hF hb (by omega) hrow) (by decide) 0 rfl rfl rfl dX1_leastForce_13 rfl (Nat.le_of_ble_eq_true rfl) (by decide) pf0 rfl (fun r9 w9 hq9 => ?_)
    obtain ⟨rfl, rfl⟩ := hq9
    refine J.to (L1 := [(0, .ref a), (1, .int (iI bl)), (2, .int (iI w)), (3, .int (iI (b2i h)))]) (S1 := [.long (lI (pul row F h P.toNat E bl 1000000))]) (ws1 := [(a, .inr (1, [.ref b, .int (iI P), .int (iI E), .int (iI F)])), (b, aI g 10 row)]) rfl rfl rfl ?_
    have hp13 := pul_le (f := row) (F := F) (h := h) (n := P.toNat) (E := E) (b := bl) (t := 1000000) hF (by omega) (by omega)
    refine j_iload_n C 2 dX1_leastForce_16 rfl rfl ?_
    refine j_i2l C (by omega) dX1_leastForce_17 ?_
    refine j_lif_ge (tgt := 24) C (by omega) (by omega) dX1_leastForce_18 dX1_leastForce_19 (by decide) (fun c18 => ?_) (fun c18 => ?_)
    · refine j_iconst C dX1_leastForce_24 ?_
      refine j_istore (L1 := [(4, .int (iI 0)), (0, .ref a), (1, .int (iI bl)), (2, .int (iI w)), (3, .int (iI (b2i h)))]) C dX1_leastForce_25 (by decide) rfl ?_
      refine j_ldc (x := 1000000) C qw395 (by decide) dX1_leastForce_27 ?_
      refine j_istore (L1 := [(5, .int (iI 1000000)), (4, .int (iI 0)), (0, .ref a), (1, .int (iI bl)), (2, .int (iI w)), (3, .int (iI (b2i h)))]) C dX1_leastForce_29 (by decide) rfl ?_
      refine j_iconst C dX1_leastForce_31 ?_
      refine j_istore (L1 := [(6, .int (iI 0)), (5, .int (iI 1000000)), (4, .int (iI 0)), (0, .ref a), (1, .int (iI bl)), (2, .int (iI w)), (3, .int (iI (b2i h)))]) C dX1_leastForce_32 (by decide) rfl ?_
      refine J.sub (L1 := [(0, .ref a), (1, .int (iI bl)), (2, .int (iI w)), (3, .int (iI (b2i h))), (4, .int (iI 0)), (5, .int (iI 1000000)), (6, .int (iI 0))]) [3, 4, 5, 6, 2, 1, 0] rfl ?_
      refine lp_leastForce C hP hE hF hb hw hrow (fun r hr9 => ?_) 20 0 0 1000000 (by decide) (by decide) c18 (fun f _ _ => by omega) (by decide) (by decide)
      refine j_iload C 0 dX1_leastForce_90 rfl ?_
      exact j_iret C hr hlk dX1_leastForce_92 ⟨by rw [lea, if_neg c5, lst_eq hr9], rfl⟩ (by decide) (by decide)
    · refine j_iconst C dX1_leastForce_22 ?_
      exact j_iret C hr hlk dX1_leastForce_23 ⟨by rw [lea, if_neg c5, lst_none (fun a b ha hb => pul_mono hF ha hb) c18], rfl⟩ (by decide) (by decide)

theorem c_X1_copyFrom (l : Launch) (g : Gh) (a b : Nat) (row : Nat → Int) (P E F : Int) (a2 b2 : Nat) (row2 : Nat → Int) (P2 E2 F2 : Int)  : CT l g yX1_copyFrom cX1_copyFrom 2 none ({ frames := 1, cells := 0, slots := 0, locals := 22 }) [.ref a, .ref a2] [(a, .inr (1, [.ref b, .int (iI P), .int (iI E), .int (iI F)])), (b, aI g 10 row), (a2, .inr (1, [.ref b2, .int (iI P2), .int (iI E2), .int (iI F2)])), (b2, aI g 10 row2)] (PE none [(a, .inr (1, [.ref b, .int (iI P2), .int (iI E2), .int (iI F2)])), (b, aI g 10 (cpy 10 row2 row)), (a2, .inr (1, [.ref b2, .int (iI P2), .int (iI E2), .int (iI F2)])), (b2, aI g 10 row2)]) := by
  refine CT.intro (L0 := [(0, .ref a), (1, .ref a2)]) (own := RX1) (by decide) rfl (Nat.le_of_ble_eq_true rfl) rfl ?_
  intro pX eX sX mX argsX belowX methX cX A C hr hlk
  refine j_aload_n C 1 dX1_copyFrom_0 rfl rfl ?_
  refine j_get C ck1 2 0 (by decide) qw33 rfl rfl dX1_copyFrom_1 ?_
  refine j_aload_n C 0 dX1_copyFrom_4 rfl rfl ?_
  refine j_get C ck1 0 0 (by decide) qw33 rfl rfl dX1_copyFrom_5 ?_
  refine j_callSN (As := [.ref b2, .ref b]) (rest := []) C ys_X4_copyRow qn276 (c_X4_copyRow l g b2 b 10 row2 row (by decide)) (by decide) rfl dX1_copyFrom_8 rfl (Nat.le_of_ble_eq_true rfl) (by decide) (pf2r [(a, .inr (1, [.ref b, .int (iI P), .int (iI E), .int (iI F)]))] 1 [(a2, .inr (1, [.ref b2, .int (iI P2), .int (iI E2), .int (iI F2)]))] []) rfl (fun r9 w9 hq9 => ?_)
  obtain ⟨rfl, rfl⟩ := hq9
  refine J.to (L1 := [(0, .ref a), (1, .ref a2)]) (S1 := []) (ws1 := [(a, .inr (1, [.ref b, .int (iI P), .int (iI E), .int (iI F)])), (b, aI g 10 (cpy 10 row2 row)), (a2, .inr (1, [.ref b2, .int (iI P2), .int (iI E2), .int (iI F2)])), (b2, aI g 10 row2)]) rfl rfl rfl ?_
  refine j_aload_n C 0 dX1_copyFrom_11 rfl rfl ?_
  refine j_aload_n C 1 dX1_copyFrom_12 rfl rfl ?_
  refine j_get C ck1 2 1 (by decide) qw35 rfl rfl dX1_copyFrom_13 ?_
  refine j_put (ws1 := [(a, .inr (1, [.ref b, .int (iI P2), .int (iI E), .int (iI F)])), (b, aI g 10 (cpy 10 row2 row)), (a2, .inr (1, [.ref b2, .int (iI P2), .int (iI E2), .int (iI F2)])), (b2, aI g 10 row2)]) C ck1 0 1 (by decide) qw35 rfl dX1_copyFrom_16 rfl rfl rfl rfl (Nat.le_of_ble_eq_true rfl) ?_
  refine j_aload_n C 0 dX1_copyFrom_19 rfl rfl ?_
  refine j_aload_n C 1 dX1_copyFrom_20 rfl rfl ?_
  refine j_get C ck1 2 2 (by decide) qw37 rfl rfl dX1_copyFrom_21 ?_
  refine j_put (ws1 := [(a, .inr (1, [.ref b, .int (iI P2), .int (iI E2), .int (iI F)])), (b, aI g 10 (cpy 10 row2 row)), (a2, .inr (1, [.ref b2, .int (iI P2), .int (iI E2), .int (iI F2)])), (b2, aI g 10 row2)]) C ck1 0 2 (by decide) qw37 rfl dX1_copyFrom_24 rfl rfl rfl rfl (Nat.le_of_ble_eq_true rfl) ?_
  refine j_aload_n C 0 dX1_copyFrom_27 rfl rfl ?_
  refine j_aload_n C 1 dX1_copyFrom_28 rfl rfl ?_
  refine j_get C ck1 2 3 (by decide) qw40 rfl rfl dX1_copyFrom_29 ?_
  refine j_put (ws1 := [(a, .inr (1, [.ref b, .int (iI P2), .int (iI E2), .int (iI F2)])), (b, aI g 10 (cpy 10 row2 row)), (a2, .inr (1, [.ref b2, .int (iI P2), .int (iI E2), .int (iI F2)])), (b2, aI g 10 row2)]) C ck1 0 3 (by decide) qw40 rfl dX1_copyFrom_32 rfl rfl rfl rfl (Nat.le_of_ble_eq_true rfl) ?_
  exact j_vret C hr hlk dX1_copyFrom_35 ⟨rfl, rfl⟩ (by decide) (by decide)

theorem c_X1_unreeve (l : Launch) (g : Gh) (a b : Nat) (P E F : Int)  : CT l g yX1_unreeve cX1_unreeve 1 none ({ frames := 0, cells := 0, slots := 0, locals := 0 }) [.ref a] [(a, .inr (1, [.ref b, .int (iI P), .int (iI E), .int (iI F)]))] (PE none [(a, .inr (1, [.ref b, .int (iI 0), .int (iI 4), .int (iI F)]))]) := by
  refine CT.intro (L0 := [(0, .ref a)]) (own := RX1) (by decide) rfl (Nat.le_of_ble_eq_true rfl) rfl ?_
  intro pX eX sX mX argsX belowX methX cX A C hr hlk
  refine j_aload_n C 0 dX1_unreeve_0 rfl rfl ?_
  refine j_iconst C dX1_unreeve_1 ?_
  refine j_put (ws1 := [(a, .inr (1, [.ref b, .int (iI 0), .int (iI E), .int (iI F)]))]) C ck1 0 1 (by decide) qw35 rfl dX1_unreeve_2 rfl rfl rfl rfl (Nat.le_of_ble_eq_true rfl) ?_
  refine j_aload_n C 0 dX1_unreeve_5 rfl rfl ?_
  refine j_iconst C dX1_unreeve_6 ?_
  refine j_put (ws1 := [(a, .inr (1, [.ref b, .int (iI 0), .int (iI 4), .int (iI F)]))]) C ck1 0 2 (by decide) qw37 rfl dX1_unreeve_7 rfl rfl rfl rfl (Nat.le_of_ble_eq_true rfl) ?_
  exact j_vret C hr hlk dX1_unreeve_10 ⟨rfl, rfl⟩ (by decide) (by decide)

theorem c_X1_hang (l : Launch) (g : Gh) (a b : Nat) (row : Nat → Int) (P E F : Int) (bl : Int) (hP : 0 ≤ P ∧ P ≤ 9) : CT l g yX1_hang cX1_hang 2 none ({ frames := 1, cells := 0, slots := 0, locals := 22 }) [.ref a, .int (iI bl)] [(a, .inr (1, [.ref b, .int (iI P), .int (iI E), .int (iI F)])), (b, aI g 10 row)] (PE none [(a, .inr (1, [.ref b, .int (iI (P + 1)), .int (iI E), .int (iI F)])), (b, aI g 10 (va_up row P.toNat bl))]) := by
  refine CT.intro (L0 := [(0, .ref a), (1, .int (iI bl))]) (own := RX1) (by decide) rfl (Nat.le_of_ble_eq_true rfl) rfl ?_
  intro pX eX sX mX argsX belowX methX cX A C hr hlk
  refine j_aload_n C 0 dX1_hang_0 rfl rfl ?_
  refine j_get C ck1 0 1 (by decide) qw35 rfl rfl dX1_hang_1 ?_
  refine j_bipush C dX1_hang_4 (by decide) ?_
  refine j_icmp_ge (tgt := 31) C (by omega) (by decide) dX1_hang_6 (by decide) (fun c6 => absurd c6 (by omega)) (fun c6 => ?_)
  refine j_aload_n C 0 dX1_hang_9 rfl rfl ?_
  refine j_get C ck1 0 0 (by decide) qw33 rfl rfl dX1_hang_10 ?_
  refine j_aload_n C 0 dX1_hang_13 rfl rfl ?_
  refine j_get C ck1 0 1 (by decide) qw35 rfl rfl dX1_hang_14 ?_
  refine j_iload_n C 1 dX1_hang_17 rfl rfl ?_
  refine j_callSN (As := [.ref b, .int (iI P), .int (iI bl)]) (rest := []) C ys_X4_put qn513 (c_X4_put l g b 10 row P P.toNat bl (by omega) (by omega) (by decide)) (by decide) rfl dX1_hang_18 rfl (Nat.le_of_ble_eq_true rfl) (by decide) (pf1 [(a, .inr (1, [.ref b, .int (iI P), .int (iI E), .int (iI F)]))] []) rfl (fun r9 w9 hq9 => ?_)
  obtain ⟨rfl, rfl⟩ := hq9
  refine J.to (L1 := [(0, .ref a), (1, .int (iI bl))]) (S1 := []) (ws1 := [(a, .inr (1, [.ref b, .int (iI P), .int (iI E), .int (iI F)])), (b, aI g 10 (va_up row P.toNat bl))]) rfl rfl rfl ?_
  refine j_aload_n C 0 dX1_hang_21 rfl rfl ?_
  refine j_dup C dX1_hang_22 rfl ?_
  refine j_get C ck1 0 1 (by decide) qw35 rfl rfl dX1_hang_23 ?_
  refine j_iconst C dX1_hang_26 ?_
  refine j_iadd C dX1_hang_27 ?_
  refine j_put (ws1 := [(a, .inr (1, [.ref b, .int (iI (P + 1)), .int (iI E), .int (iI F)])), (b, aI g 10 (va_up row P.toNat bl))]) C ck1 0 1 (by decide) qw35 rfl dX1_hang_28 rfl rfl rfl rfl (Nat.le_of_ble_eq_true rfl) ?_
  exact j_vret C hr hlk dX1_hang_31 ⟨rfl, rfl⟩ (by decide) (by decide)

theorem c_X1_unhang (l : Launch) (g : Gh) (a b : Nat) (row : Nat → Int) (P E F : Int) (hP : 1 ≤ P ∧ P ≤ 10) : CT l g yX1_unhang cX1_unhang 1 (some FieldType.int) ({ frames := 1, cells := 0, slots := 0, locals := 21 }) [.ref a] [(a, .inr (1, [.ref b, .int (iI P), .int (iI E), .int (iI F)])), (b, aI g 10 row)] (PE (some (.int (iI (row (P - 1).toNat)))) [(a, .inr (1, [.ref b, .int (iI (P - 1)), .int (iI E), .int (iI F)])), (b, aI g 10 row)]) := by
  refine CT.intro (L0 := [(0, .ref a)]) (own := RX1) (by decide) rfl (Nat.le_of_ble_eq_true rfl) rfl ?_
  intro pX eX sX mX argsX belowX methX cX A C hr hlk
  refine j_aload_n C 0 dX1_unhang_0 rfl rfl ?_
  refine j_get C ck1 0 1 (by decide) qw35 rfl rfl dX1_unhang_1 ?_
  refine j_if_le (tgt := 17) C (by omega) dX1_unhang_4 (by decide) (fun c4 => absurd c4 (by omega)) (fun c4 => ?_)
  refine j_aload_n C 0 dX1_unhang_7 rfl rfl ?_
  refine j_dup C dX1_unhang_8 rfl ?_
  refine j_get C ck1 0 1 (by decide) qw35 rfl rfl dX1_unhang_9 ?_
  refine j_iconst C dX1_unhang_12 ?_
  refine j_isub C dX1_unhang_13 ?_
  refine j_put (ws1 := [(a, .inr (1, [.ref b, .int (iI (P - 1)), .int (iI E), .int (iI F)])), (b, aI g 10 row)]) C ck1 0 1 (by decide) qw35 rfl dX1_unhang_14 rfl rfl rfl rfl (Nat.le_of_ble_eq_true rfl) ?_
  refine j_aload_n C 0 dX1_unhang_17 rfl rfl ?_
  refine j_get C ck1 0 0 (by decide) qw33 rfl rfl dX1_unhang_18 ?_
  refine j_aload_n C 0 dX1_unhang_21 rfl rfl ?_
  refine j_get C ck1 0 1 (by decide) qw35 rfl rfl dX1_unhang_22 ?_
  refine j_callSN (As := [.ref b, .int (iI (P - 1))]) (rest := []) C ys_X4_at qn582 (c_X4_at l g b 10 row (P - 1) ((P - 1).toNat) (by omega) (by omega) (by decide)) (by decide) rfl dX1_unhang_25 rfl (Nat.le_of_ble_eq_true rfl) (by decide) (pf1 [(a, .inr (1, [.ref b, .int (iI (P - 1)), .int (iI E), .int (iI F)]))] []) rfl (fun r9 w9 hq9 => ?_)
  obtain ⟨rfl, rfl⟩ := hq9
  refine J.to (L1 := [(0, .ref a)]) (S1 := [.int (iI (row ((P - 1).toNat)))]) (ws1 := [(a, .inr (1, [.ref b, .int (iI (P - 1)), .int (iI E), .int (iI F)])), (b, aI g 10 row)]) rfl rfl rfl ?_
  exact j_iret C hr hlk dX1_unhang_28 ⟨rfl, rfl⟩ (by decide) (by decide)

theorem c_X1_swap (l : Launch) (g : Gh) (a b : Nat) (row : Nat → Int) (P E F : Int) (i j : Int) (hi : 0 ≤ i ∧ i ≤ 9) (hj : 0 ≤ j ∧ j ≤ 9) : CT l g yX1_swap cX1_swap 4 none ({ frames := 1, cells := 0, slots := 0, locals := 22 }) [.ref a, .int (iI i), .int (iI j)] [(a, .inr (1, [.ref b, .int (iI P), .int (iI E), .int (iI F)])), (b, aI g 10 row)] (PE none [(a, .inr (1, [.ref b, .int (iI P), .int (iI E), .int (iI F)])), (b, aI g 10 (va_up (va_up row i.toNat (row j.toNat)) j.toNat (row i.toNat)))]) := by
  refine CT.intro (L0 := [(0, .ref a), (1, .int (iI i)), (2, .int (iI j))]) (own := RX1) (by decide) rfl (Nat.le_of_ble_eq_true rfl) rfl ?_
  intro pX eX sX mX argsX belowX methX cX A C hr hlk
  refine j_aload_n C 0 dX1_swap_0 rfl rfl ?_
  refine j_get C ck1 0 0 (by decide) qw33 rfl rfl dX1_swap_1 ?_
  refine j_iload_n C 1 dX1_swap_4 rfl rfl ?_
  refine j_callSN (As := [.ref b, .int (iI i)]) (rest := []) C ys_X4_at qn582 (c_X4_at l g b 10 row i i.toNat (by omega) (by omega) (by decide)) (by decide) rfl dX1_swap_5 rfl (Nat.le_of_ble_eq_true rfl) (by decide) (pf1 [(a, .inr (1, [.ref b, .int (iI P), .int (iI E), .int (iI F)]))] []) rfl (fun r9 w9 hq9 => ?_)
  obtain ⟨rfl, rfl⟩ := hq9
  refine J.to (L1 := [(0, .ref a), (1, .int (iI i)), (2, .int (iI j))]) (S1 := [.int (iI (row i.toNat))]) (ws1 := [(a, .inr (1, [.ref b, .int (iI P), .int (iI E), .int (iI F)])), (b, aI g 10 row)]) rfl rfl rfl ?_
  refine j_istore_n (L1 := [(3, .int (iI (row i.toNat))), (0, .ref a), (1, .int (iI i)), (2, .int (iI j))]) C dX1_swap_8 rfl (by decide) rfl ?_
  refine j_aload_n C 1 dX1_swap_9 rfl rfl ?_
  refine j_get C ck1 0 0 (by decide) qw33 rfl rfl dX1_swap_10 ?_
  refine j_iload_n C 2 dX1_swap_13 rfl rfl ?_
  refine j_aload_n C 1 dX1_swap_14 rfl rfl ?_
  refine j_get C ck1 0 0 (by decide) qw33 rfl rfl dX1_swap_15 ?_
  refine j_iload_n C 3 dX1_swap_18 rfl rfl ?_
  refine j_callSN (As := [.ref b, .int (iI j)]) (rest := [.int (iI i), .ref b]) C ys_X4_at qn582 (c_X4_at l g b 10 row j j.toNat (by omega) (by omega) (by decide)) (by decide) rfl dX1_swap_19 rfl (Nat.le_of_ble_eq_true rfl) (by decide) (pf1 [(a, .inr (1, [.ref b, .int (iI P), .int (iI E), .int (iI F)]))] []) rfl (fun r9 w9 hq9 => ?_)
  obtain ⟨rfl, rfl⟩ := hq9
  refine J.to (L1 := [(3, .int (iI (row i.toNat))), (0, .ref a), (1, .int (iI i)), (2, .int (iI j))]) (S1 := [.int (iI (row j.toNat)), .int (iI i), .ref b]) (ws1 := [(a, .inr (1, [.ref b, .int (iI P), .int (iI E), .int (iI F)])), (b, aI g 10 row)]) rfl rfl rfl ?_
  refine j_callSN (As := [.ref b, .int (iI i), .int (iI (row j.toNat))]) (rest := []) C ys_X4_put qn513 (c_X4_put l g b 10 row i i.toNat (row j.toNat) (by omega) (by omega) (by decide)) (by decide) rfl dX1_swap_22 rfl (Nat.le_of_ble_eq_true rfl) (by decide) (pf1 [(a, .inr (1, [.ref b, .int (iI P), .int (iI E), .int (iI F)]))] []) rfl (fun r9 w9 hq9 => ?_)
  obtain ⟨rfl, rfl⟩ := hq9
  refine J.to (L1 := [(3, .int (iI (row i.toNat))), (0, .ref a), (1, .int (iI i)), (2, .int (iI j))]) (S1 := []) (ws1 := [(a, .inr (1, [.ref b, .int (iI P), .int (iI E), .int (iI F)])), (b, aI g 10 (va_up row i.toNat (row j.toNat)))]) rfl rfl rfl ?_
  refine j_aload_n C 1 dX1_swap_25 rfl rfl ?_
  refine j_get C ck1 0 0 (by decide) qw33 rfl rfl dX1_swap_26 ?_
  refine j_iload_n C 3 dX1_swap_29 rfl rfl ?_
  refine j_iload_n C 0 dX1_swap_30 rfl rfl ?_
  refine j_callSN (As := [.ref b, .int (iI j), .int (iI (row i.toNat))]) (rest := []) C ys_X4_put qn513 (c_X4_put l g b 10 (va_up row i.toNat (row j.toNat)) j j.toNat (row i.toNat) (by omega) (by omega) (by decide)) (by decide) rfl dX1_swap_31 rfl (Nat.le_of_ble_eq_true rfl) (by decide) (pf1 [(a, .inr (1, [.ref b, .int (iI P), .int (iI E), .int (iI F)]))] []) rfl (fun r9 w9 hq9 => ?_)
  obtain ⟨rfl, rfl⟩ := hq9
  refine J.to (L1 := [(3, .int (iI (row i.toNat))), (0, .ref a), (1, .int (iI i)), (2, .int (iI j))]) (S1 := []) (ws1 := [(a, .inr (1, [.ref b, .int (iI P), .int (iI E), .int (iI F)])), (b, aI g 10 (va_up (va_up row i.toNat (row j.toNat)) j.toNat (row i.toNat)))]) rfl rfl rfl ?_
  exact j_vret C hr hlk dX1_swap_34 ⟨rfl, rfl⟩ (by decide) (by decide)

