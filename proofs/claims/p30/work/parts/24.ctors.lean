/-! constructors of the class -/
theorem c_X0_init (l : Launch) (g : Gh) (a : Nat)  : CT l g yX0_init cX0_init 1 none ({ frames := 1, cells := 1, slots := 48, locals := 20 }) [.ref a] [(a, .inr (0, [.null, .int (iI 0), .int (iI 0), .int (iI 0), .int (iI 0), .long (lI 0), .long (lI 0)]))] (fun r9 w9 => r9 = none ∧ ∃ z9 : Nat, w9 = [(a, .inr (0, [.ref z9, .int (iI 0), .int (iI 0), .int (iI 0), .int (iI 0), .long (lI 0), .long (lI 0)])), (z9, aI g 48 (fun _ => 0))]) := by
  refine CT.introI (L0 := [(0, .ref a)]) (own := RX0) (by decide) rfl (Nat.le_of_ble_eq_true rfl) rfl ?_
  intro pX eX sX mX argsX belowX methX cX A C hr hlk hin
  refine j_aload_n C 0 dX0_init_0 rfl rfl ?_
  refine j_objInit C qw57 dX0_init_1 (by decide) (Nat.le_of_ble_eq_true rfl) ?_
  refine j_aload_n C 0 dX0_init_4 rfl rfl ?_
  refine j_bipush C dX0_init_5 (by decide) ?_
  refine j_newI (N' := 48) C rfl (by decide) dX0_init_7 (Nat.le_of_ble_eq_true rfl) (Nat.le_of_ble_eq_true rfl) (fun z1 => ?_)
  refine J.to (L1 := [(0, .ref a)]) (S1 := [.ref z1, .ref a]) (ws1 := [(a, .inr (0, [.null, .int (iI 0), .int (iI 0), .int (iI 0), .int (iI 0), .long (lI 0), .long (lI 0)])), (z1, aI g 48 (fun _ => 0))]) rfl rfl rfl ?_
  refine j_putF (ws1 := [(a, .inr (0, [.ref z1, .int (iI 0), .int (iI 0), .int (iI 0), .int (iI 0), .long (lI 0), .long (lI 0)])), (z1, aI g 48 (fun _ => 0))]) C hin ck0 0 0 (by decide) qw58 rfl rfl dX0_init_9 rfl rfl rfl rfl (Nat.le_of_ble_eq_true rfl) ?_
  refine j_aload_n C 0 dX0_init_12 rfl rfl ?_
  refine j_iconst C dX0_init_13 ?_
  refine j_put (ws1 := [(a, .inr (0, [.ref z1, .int (iI 0), .int (iI 0), .int (iI 0), .int (iI 0), .long (lI 0), .long (lI 0)])), (z1, aI g 48 (fun _ => 0))]) C ck0 0 1 (by decide) qw59 rfl dX0_init_14 rfl rfl rfl rfl (Nat.le_of_ble_eq_true rfl) ?_
  refine j_aload_n C 0 dX0_init_17 rfl rfl ?_
  refine j_iconst C dX0_init_18 ?_
  refine j_put (ws1 := [(a, .inr (0, [.ref z1, .int (iI 0), .int (iI 0), .int (iI 0), .int (iI 0), .long (lI 0), .long (lI 0)])), (z1, aI g 48 (fun _ => 0))]) C ck0 0 2 (by decide) qw60 rfl dX0_init_19 rfl rfl rfl rfl (Nat.le_of_ble_eq_true rfl) ?_
  refine j_aload_n C 0 dX0_init_22 rfl rfl ?_
  refine j_iconst C dX0_init_23 ?_
  refine j_put (ws1 := [(a, .inr (0, [.ref z1, .int (iI 0), .int (iI 0), .int (iI 0), .int (iI 0), .long (lI 0), .long (lI 0)])), (z1, aI g 48 (fun _ => 0))]) C ck0 0 3 (by decide) qw62 rfl dX0_init_24 rfl rfl rfl rfl (Nat.le_of_ble_eq_true rfl) ?_
  refine j_aload_n C 0 dX0_init_27 rfl rfl ?_
  refine j_iconst C dX0_init_28 ?_
  refine j_put (ws1 := [(a, .inr (0, [.ref z1, .int (iI 0), .int (iI 0), .int (iI 0), .int (iI 0), .long (lI 0), .long (lI 0)])), (z1, aI g 48 (fun _ => 0))]) C ck0 0 4 (by decide) qw64 rfl dX0_init_29 rfl rfl rfl rfl (Nat.le_of_ble_eq_true rfl) ?_
  refine j_aload_n C 0 dX0_init_32 rfl rfl ?_
  refine j_lconst (v := 0) C dX0_init_33 rfl ?_
  refine j_put (ws1 := [(a, .inr (0, [.ref z1, .int (iI 0), .int (iI 0), .int (iI 0), .int (iI 0), .long (lI 0), .long (lI 0)])), (z1, aI g 48 (fun _ => 0))]) C ck0 0 5 (by decide) qw66 rfl dX0_init_34 rfl rfl rfl rfl (Nat.le_of_ble_eq_true rfl) ?_
  refine j_aload_n C 0 dX0_init_37 rfl rfl ?_
  refine j_lconst (v := 0) C dX0_init_38 rfl ?_
  refine j_put (ws1 := [(a, .inr (0, [.ref z1, .int (iI 0), .int (iI 0), .int (iI 0), .int (iI 0), .long (lI 0), .long (lI 0)])), (z1, aI g 48 (fun _ => 0))]) C ck0 0 6 (by decide) qw69 rfl dX0_init_39 rfl rfl rfl rfl (Nat.le_of_ble_eq_true rfl) ?_
  exact j_vret C hr hlk dX0_init_42 ⟨rfl, _, rfl⟩ (by decide) (by decide)

theorem c_X1_init (l : Launch) (g : Gh) (a : Nat)  : CT l g yX1_init cX1_init 1 none ({ frames := 1, cells := 1, slots := 10, locals := 20 }) [.ref a] [(a, .inr (1, [.null, .int (iI 0), .int (iI 0), .int (iI 0)]))] (fun r9 w9 => r9 = none ∧ ∃ z9 : Nat, w9 = [(a, .inr (1, [.ref z9, .int (iI 1), .int (iI 4), .int (iI 10)])), (z9, aI g 10 (fun _ => 0))]) := by
  refine CT.introI (L0 := [(0, .ref a)]) (own := RX1) (by decide) rfl (Nat.le_of_ble_eq_true rfl) rfl ?_
  intro pX eX sX mX argsX belowX methX cX A C hr hlk hin
  refine j_aload_n C 0 dX1_init_0 rfl rfl ?_
  refine j_objInit C qw32 dX1_init_1 (by decide) (Nat.le_of_ble_eq_true rfl) ?_
  refine j_aload_n C 0 dX1_init_4 rfl rfl ?_
  refine j_bipush C dX1_init_5 (by decide) ?_
  refine j_newI (N' := 10) C rfl (by decide) dX1_init_7 (Nat.le_of_ble_eq_true rfl) (Nat.le_of_ble_eq_true rfl) (fun z1 => ?_)
  refine J.to (L1 := [(0, .ref a)]) (S1 := [.ref z1, .ref a]) (ws1 := [(a, .inr (1, [.null, .int (iI 0), .int (iI 0), .int (iI 0)])), (z1, aI g 10 (fun _ => 0))]) rfl rfl rfl ?_
  refine j_putF (ws1 := [(a, .inr (1, [.ref z1, .int (iI 0), .int (iI 0), .int (iI 0)])), (z1, aI g 10 (fun _ => 0))]) C hin ck1 0 0 (by decide) qw33 rfl rfl dX1_init_9 rfl rfl rfl rfl (Nat.le_of_ble_eq_true rfl) ?_
  refine j_aload_n C 0 dX1_init_12 rfl rfl ?_
  refine j_iconst C dX1_init_13 ?_
  refine j_put (ws1 := [(a, .inr (1, [.ref z1, .int (iI 1), .int (iI 0), .int (iI 0)])), (z1, aI g 10 (fun _ => 0))]) C ck1 0 1 (by decide) qw35 rfl dX1_init_14 rfl rfl rfl rfl (Nat.le_of_ble_eq_true rfl) ?_
  refine j_aload_n C 0 dX1_init_17 rfl rfl ?_
  refine j_iconst C dX1_init_18 ?_
  refine j_put (ws1 := [(a, .inr (1, [.ref z1, .int (iI 1), .int (iI 4), .int (iI 0)])), (z1, aI g 10 (fun _ => 0))]) C ck1 0 2 (by decide) qw37 rfl dX1_init_19 rfl rfl rfl rfl (Nat.le_of_ble_eq_true rfl) ?_
  refine j_aload_n C 0 dX1_init_22 rfl rfl ?_
  refine j_bipush C dX1_init_23 (by decide) ?_
  refine j_put (ws1 := [(a, .inr (1, [.ref z1, .int (iI 1), .int (iI 4), .int (iI 10)])), (z1, aI g 10 (fun _ => 0))]) C ck1 0 3 (by decide) qw40 rfl dX1_init_25 rfl rfl rfl rfl (Nat.le_of_ble_eq_true rfl) ?_
  exact j_vret C hr hlk dX1_init_28 ⟨rfl, _, rfl⟩ (by decide) (by decide)

theorem c_X3_init (l : Launch) (g : Gh) (a : Nat)  : CT l g yX3_init cX3_init 1 none ({ frames := 1, cells := 1, slots := 60, locals := 20 }) [.ref a] [(a, .inr (3, [.null, .int (iI 0), .int (iI 0)]))] (fun r9 w9 => r9 = none ∧ ∃ z9 : Nat, w9 = [(a, .inr (3, [.ref z9, .int (iI 0), .int (iI 0)])), (z9, aI g 60 (fun _ => 0))]) := by
  refine CT.introI (L0 := [(0, .ref a)]) (own := RX3) (by decide) rfl (Nat.le_of_ble_eq_true rfl) rfl ?_
  intro pX eX sX mX argsX belowX methX cX A C hr hlk hin
  refine j_aload_n C 0 dX3_init_0 rfl rfl ?_
  refine j_objInit C qw117 dX3_init_1 (by decide) (Nat.le_of_ble_eq_true rfl) ?_
  refine j_aload_n C 0 dX3_init_4 rfl rfl ?_
  refine j_bipush C dX3_init_5 (by decide) ?_
  refine j_newI (N' := 60) C rfl (by decide) dX3_init_7 (Nat.le_of_ble_eq_true rfl) (Nat.le_of_ble_eq_true rfl) (fun z1 => ?_)
  refine J.to (L1 := [(0, .ref a)]) (S1 := [.ref z1, .ref a]) (ws1 := [(a, .inr (3, [.null, .int (iI 0), .int (iI 0)])), (z1, aI g 60 (fun _ => 0))]) rfl rfl rfl ?_
  refine j_putF (ws1 := [(a, .inr (3, [.ref z1, .int (iI 0), .int (iI 0)])), (z1, aI g 60 (fun _ => 0))]) C hin ck3 0 0 (by decide) qw118 rfl rfl dX3_init_9 rfl rfl rfl rfl (Nat.le_of_ble_eq_true rfl) ?_
  refine j_aload_n C 0 dX3_init_12 rfl rfl ?_
  refine j_iconst C dX3_init_13 ?_
  refine j_put (ws1 := [(a, .inr (3, [.ref z1, .int (iI 0), .int (iI 0)])), (z1, aI g 60 (fun _ => 0))]) C ck3 0 1 (by decide) qw120 rfl dX3_init_14 rfl rfl rfl rfl (Nat.le_of_ble_eq_true rfl) ?_
  refine j_aload_n C 0 dX3_init_17 rfl rfl ?_
  refine j_iconst C dX3_init_18 ?_
  refine j_put (ws1 := [(a, .inr (3, [.ref z1, .int (iI 0), .int (iI 0)])), (z1, aI g 60 (fun _ => 0))]) C ck3 0 2 (by decide) qw122 rfl dX3_init_19 rfl rfl rfl rfl (Nat.le_of_ble_eq_true rfl) ?_
  exact j_vret C hr hlk dX3_init_22 ⟨rfl, _, rfl⟩ (by decide) (by decide)

/-- a new state's numbers -/
def k0S : Nat → Nat → Int := fun c => if c = 0 then (fun j => if j = 0 then 60000 else if j = 1 then 10 else if j = 2 then 1 else if j = 3 then 4 else 0) else if c = 3 then cpy 4 (fun _ => 1000) (fun _ => 0) else fun _ => 0
def adr (a z1 z2 z3 z4 z5 z6 z7 : Nat) : Nat → Nat := fun j => match j with | 0 => a | 1 => z1 | 2 => z2 | 3 => z3 | 4 => z4 | 5 => z5 | 6 => z6 | _ => z7
theorem lc_X2 {p : Program} {l : Launch} {e : Env} {s : State} {m : MethodId} {args : Array Value} {below : List Frame} {meth : Method} {c : Code} {g : Gh} {A : Nat → Prop} {Q : State → Prop} {cells slots : Nat} (C : Cx p g s m args c cX2_init 2 RX2 A) {q : Nat → Nat} (kk : J p l e ({ frames := 2, cells := 7, slots := 81, locals := 40 } : Room) s m args below meth c g A 2 79 [] [] [(q 0, .inr (2, [.ref (q 1), .ref (q 3), .ref (q 5), .ref (q 6), .ref (q 7), .int (iI (k0S 0 0))])), (q 1, .inr (1, [.ref (q 2), .int (iI (k0S 0 2)), .int (iI (k0S 0 3)), .int (iI (k0S 0 1))])), (q 2, aI g 10 (k0S 1)), (q 3, .inr (0, [.ref (q 4), .int (iI (k0S 0 9)), .int (iI (k0S 0 6)), .int (iI (k0S 0 4)), .int (iI (k0S 0 5)), .long (lI (k0S 0 7)), .long (lI (k0S 0 8))])), (q 4, aI g 48 (k0S 2)), (q 5, aI g 4 (k0S 3)), (q 6, aI g 4 (k0S 4)), (q 7, aI g 4 (k0S 5))] cells slots Q) : ∀ (n i : Nat), i + n = 4 → J p l e ({ frames := 2, cells := 7, slots := 81, locals := 40 } : Room) s m args below meth c g A 2 55 [(0, .ref (q 0)), (1, .int (iI ((i : Int))))] [] [(q 0, .inr (2, [.ref (q 1), .ref (q 3), .ref (q 5), .ref (q 6), .ref (q 7), .int (iI (k0S 0 0))])), (q 1, .inr (1, [.ref (q 2), .int (iI (k0S 0 2)), .int (iI (k0S 0 3)), .int (iI (k0S 0 1))])), (q 2, aI g 10 (k0S 1)), (q 3, .inr (0, [.ref (q 4), .int (iI (k0S 0 9)), .int (iI (k0S 0 6)), .int (iI (k0S 0 4)), .int (iI (k0S 0 5)), .long (lI (k0S 0 7)), .long (lI (k0S 0 8))])), (q 4, aI g 48 (k0S 2)), (q 5, aI g 4 (cpy i (fun _ => 1000) (fun _ => 0))), (q 6, aI g 4 (k0S 4)), (q 7, aI g 4 (k0S 5))] cells slots Q := by
  intro n
  induction n with
  | zero =>
    intro i hi
    have hi9 : i = 4 := by omega
    subst hi9
    refine j_iload_n C 1 dX2_init_55 rfl rfl ?_
    refine j_aload_n C 0 dX2_init_56 rfl rfl ?_
    refine j_get C ck2 0 2 (by decide) qw93 rfl rfl dX2_init_57 ?_
    refine j_ilen (n := 4) (f := cpy 4 (fun _ => 1000) (fun _ => 0)) (v := 4) C 5 rfl rfl dX2_init_60 ?_
    refine j_icmp_ge (tgt := 79) C (by omega) (by decide) dX2_init_61 (by decide) (fun c61 => ?_) (fun c61 => absurd c61 (by omega))
    refine J.sub (L1 := []) [] rfl ?_
    exact kk
  | succ n ih =>
    intro i hi
    refine j_iload_n C 1 dX2_init_55 rfl rfl ?_
    refine j_aload_n C 0 dX2_init_56 rfl rfl ?_
    refine j_get C ck2 0 2 (by decide) qw93 rfl rfl dX2_init_57 ?_
    refine j_ilen (n := 4) (f := cpy i (fun _ => 1000) (fun _ => 0)) (v := 4) C 5 rfl rfl dX2_init_60 ?_
    refine j_icmp_ge (tgt := 79) C (by omega) (by decide) dX2_init_61 (by decide) (fun c61 => absurd c61 (by omega)) (fun c61 => ?_)
    refine j_aload_n C 0 dX2_init_64 rfl rfl ?_
    refine j_get C ck2 0 2 (by decide) qw93 rfl rfl dX2_init_65 ?_
    refine j_iload_n C 1 dX2_init_68 rfl rfl ?_
    refine j_sipush C dX2_init_69 (by decide) ?_
    refine j_iast (n := 4) (f := cpy i (fun _ => 1000) (fun _ => 0)) (ws1 := [(q 0, .inr (2, [.ref (q 1), .ref (q 3), .ref (q 5), .ref (q 6), .ref (q 7), .int (iI (k0S 0 0))])), (q 1, .inr (1, [.ref (q 2), .int (iI (k0S 0 2)), .int (iI (k0S 0 3)), .int (iI (k0S 0 1))])), (q 2, aI g 10 (k0S 1)), (q 3, .inr (0, [.ref (q 4), .int (iI (k0S 0 9)), .int (iI (k0S 0 6)), .int (iI (k0S 0 4)), .int (iI (k0S 0 5)), .long (lI (k0S 0 7)), .long (lI (k0S 0 8))])), (q 4, aI g 48 (k0S 2)), (q 5, aI g 4 (va_up (cpy i (fun _ => 1000) (fun _ => 0)) i 1000)), (q 6, aI g 4 (k0S 4)), (q 7, aI g 4 (k0S 5))]) C 5 i rfl rfl (by omega) (by decide) dX2_init_72 rfl ?_
    refine j_iinc (L1 := [(1, .int (iI (((i : Int)) + 1))), (0, .ref (q 0))]) C 1 dX2_init_73 rfl (by decide) rfl ?_
    refine j_goto (tgt := 55) C dX2_init_76 (by decide) ?_
    refine J.sub (L1 := [(0, .ref (q 0)), (1, .int (iI (((i : Int)) + 1)))]) [1, 0] rfl ?_
    rw [cpy_succ i (fun _ => 1000) (fun _ => 0)]
    exact ih (i + 1) (by omega)

theorem c_X2_init (l : Launch) (g : Gh) (a : Nat)  : CT l g yX2_init cX2_init 2 none ({ frames := 2, cells := 7, slots := 81, locals := 40 }) [.ref a] [(a, .inr (2, [.null, .null, .null, .null, .null, .int (iI 0)]))] (fun r9 w9 => r9 = none ∧ ∃ q9 : Nat → Nat, q9 0 = a ∧ w9 = wSt g q9 k0S) := by
  refine CT.introI (L0 := [(0, .ref a)]) (own := RX2) (by decide) rfl (Nat.le_of_ble_eq_true rfl) rfl ?_
  intro pX eX sX mX argsX belowX methX cX A C hr hlk hin
  refine j_aload_n C 0 dX2_init_0 rfl rfl ?_
  refine j_objInit C qw26 dX2_init_1 (by decide) (Nat.le_of_ble_eq_true rfl) ?_
  refine j_aload_n C 0 dX2_init_4 rfl rfl ?_
  refine j_newO (fs := [.null, .int (iI 0), .int (iI 0), .int (iI 0)]) C ck1 qw27 qw28 qw3 (by intro j hj; match j, hj with | 0, _ => rfl | 1, _ => rfl | 2, _ => rfl | 3, _ => rfl) dX2_init_5 (Nat.le_of_ble_eq_true rfl) (Nat.le_of_ble_eq_true rfl) (fun z1 => ?_)
  refine J.to (L1 := [(0, .ref a)]) (S1 := [.ref z1, .ref a]) (ws1 := [(a, .inr (2, [.null, .null, .null, .null, .null, .int (iI 0)])), (z1, .inr (1, [.null, .int (iI 0), .int (iI 0), .int (iI 0)]))]) rfl rfl rfl ?_
  refine j_dup C dX2_init_8 rfl ?_
  refine j_callIN (As := []) (rest := [.ref z1, .ref a]) C yi_X1_init qn29 (c_X1_init l g z1) (by decide) rfl dX2_init_9 rfl (Nat.le_of_ble_eq_true rfl) (by decide) (pf1 [(a, .inr (2, [.null, .null, .null, .null, .null, .int (iI 0)]))] []) rfl (fun r9 w9 hq9 => ?_)
  obtain ⟨rfl, z2, rfl⟩ := hq9
  refine J.to (L1 := [(0, .ref a)]) (S1 := [.ref z1, .ref a]) (ws1 := [(a, .inr (2, [.null, .null, .null, .null, .null, .int (iI 0)])), (z1, .inr (1, [.ref z2, .int (iI 1), .int (iI 4), .int (iI 10)])), (z2, aI g 10 (fun _ => 0))]) rfl rfl rfl ?_
  refine j_putF (ws1 := [(a, .inr (2, [.ref z1, .null, .null, .null, .null, .int (iI 0)])), (z1, .inr (1, [.ref z2, .int (iI 1), .int (iI 4), .int (iI 10)])), (z2, aI g 10 (fun _ => 0))]) C hin ck2 0 0 (by decide) qw88 rfl rfl dX2_init_12 rfl rfl rfl rfl (Nat.le_of_ble_eq_true rfl) ?_
  refine j_aload_n C 0 dX2_init_15 rfl rfl ?_
  refine j_newO (fs := [.null, .int (iI 0), .int (iI 0), .int (iI 0), .int (iI 0), .long (lI 0), .long (lI 0)]) C ck0 qw52 qw53 qw4 (by intro j hj; match j, hj with | 0, _ => rfl | 1, _ => rfl | 2, _ => rfl | 3, _ => rfl | 4, _ => rfl | 5, _ => rfl | 6, _ => rfl) dX2_init_16 (Nat.le_of_ble_eq_true rfl) (Nat.le_of_ble_eq_true rfl) (fun z3 => ?_)
  refine J.to (L1 := [(0, .ref a)]) (S1 := [.ref z3, .ref a]) (ws1 := [(a, .inr (2, [.ref z1, .null, .null, .null, .null, .int (iI 0)])), (z1, .inr (1, [.ref z2, .int (iI 1), .int (iI 4), .int (iI 10)])), (z2, aI g 10 (fun _ => 0)), (z3, .inr (0, [.null, .int (iI 0), .int (iI 0), .int (iI 0), .int (iI 0), .long (lI 0), .long (lI 0)]))]) rfl rfl rfl ?_
  refine j_dup C dX2_init_19 rfl ?_
  refine j_callIN (As := []) (rest := [.ref z3, .ref a]) C yi_X0_init qn54 (c_X0_init l g z3) (by decide) rfl dX2_init_20 rfl (Nat.le_of_ble_eq_true rfl) (by decide) (pf1 [(a, .inr (2, [.ref z1, .null, .null, .null, .null, .int (iI 0)])), (z1, .inr (1, [.ref z2, .int (iI 1), .int (iI 4), .int (iI 10)])), (z2, aI g 10 (fun _ => 0))] []) rfl (fun r9 w9 hq9 => ?_)
  obtain ⟨rfl, z4, rfl⟩ := hq9
  refine J.to (L1 := [(0, .ref a)]) (S1 := [.ref z3, .ref a]) (ws1 := [(a, .inr (2, [.ref z1, .null, .null, .null, .null, .int (iI 0)])), (z1, .inr (1, [.ref z2, .int (iI 1), .int (iI 4), .int (iI 10)])), (z2, aI g 10 (fun _ => 0)), (z3, .inr (0, [.ref z4, .int (iI 0), .int (iI 0), .int (iI 0), .int (iI 0), .long (lI 0), .long (lI 0)])), (z4, aI g 48 (fun _ => 0))]) rfl rfl rfl ?_
  refine j_putF (ws1 := [(a, .inr (2, [.ref z1, .ref z3, .null, .null, .null, .int (iI 0)])), (z1, .inr (1, [.ref z2, .int (iI 1), .int (iI 4), .int (iI 10)])), (z2, aI g 10 (fun _ => 0)), (z3, .inr (0, [.ref z4, .int (iI 0), .int (iI 0), .int (iI 0), .int (iI 0), .long (lI 0), .long (lI 0)])), (z4, aI g 48 (fun _ => 0))]) C hin ck2 0 1 (by decide) qw91 rfl rfl dX2_init_23 rfl rfl rfl rfl (Nat.le_of_ble_eq_true rfl) ?_
  refine j_aload_n C 0 dX2_init_26 rfl rfl ?_
  refine j_iconst C dX2_init_27 ?_
  refine j_newI (N' := 4) C rfl (by decide) dX2_init_28 (Nat.le_of_ble_eq_true rfl) (Nat.le_of_ble_eq_true rfl) (fun z5 => ?_)
  refine J.to (L1 := [(0, .ref a)]) (S1 := [.ref z5, .ref a]) (ws1 := [(a, .inr (2, [.ref z1, .ref z3, .null, .null, .null, .int (iI 0)])), (z1, .inr (1, [.ref z2, .int (iI 1), .int (iI 4), .int (iI 10)])), (z2, aI g 10 (fun _ => 0)), (z3, .inr (0, [.ref z4, .int (iI 0), .int (iI 0), .int (iI 0), .int (iI 0), .long (lI 0), .long (lI 0)])), (z4, aI g 48 (fun _ => 0)), (z5, aI g 4 (fun _ => 0))]) rfl rfl rfl ?_
  refine j_putF (ws1 := [(a, .inr (2, [.ref z1, .ref z3, .ref z5, .null, .null, .int (iI 0)])), (z1, .inr (1, [.ref z2, .int (iI 1), .int (iI 4), .int (iI 10)])), (z2, aI g 10 (fun _ => 0)), (z3, .inr (0, [.ref z4, .int (iI 0), .int (iI 0), .int (iI 0), .int (iI 0), .long (lI 0), .long (lI 0)])), (z4, aI g 48 (fun _ => 0)), (z5, aI g 4 (fun _ => 0))]) C hin ck2 0 2 (by decide) qw93 rfl rfl dX2_init_30 rfl rfl rfl rfl (Nat.le_of_ble_eq_true rfl) ?_
  refine j_aload_n C 0 dX2_init_33 rfl rfl ?_
  refine j_iconst C dX2_init_34 ?_
  refine j_newI (N' := 4) C rfl (by decide) dX2_init_35 (Nat.le_of_ble_eq_true rfl) (Nat.le_of_ble_eq_true rfl) (fun z6 => ?_)
  refine J.to (L1 := [(0, .ref a)]) (S1 := [.ref z6, .ref a]) (ws1 := [(a, .inr (2, [.ref z1, .ref z3, .ref z5, .null, .null, .int (iI 0)])), (z1, .inr (1, [.ref z2, .int (iI 1), .int (iI 4), .int (iI 10)])), (z2, aI g 10 (fun _ => 0)), (z3, .inr (0, [.ref z4, .int (iI 0), .int (iI 0), .int (iI 0), .int (iI 0), .long (lI 0), .long (lI 0)])), (z4, aI g 48 (fun _ => 0)), (z5, aI g 4 (fun _ => 0)), (z6, aI g 4 (fun _ => 0))]) rfl rfl rfl ?_
  refine j_putF (ws1 := [(a, .inr (2, [.ref z1, .ref z3, .ref z5, .ref z6, .null, .int (iI 0)])), (z1, .inr (1, [.ref z2, .int (iI 1), .int (iI 4), .int (iI 10)])), (z2, aI g 10 (fun _ => 0)), (z3, .inr (0, [.ref z4, .int (iI 0), .int (iI 0), .int (iI 0), .int (iI 0), .long (lI 0), .long (lI 0)])), (z4, aI g 48 (fun _ => 0)), (z5, aI g 4 (fun _ => 0)), (z6, aI g 4 (fun _ => 0))]) C hin ck2 0 3 (by decide) qw94 rfl rfl dX2_init_37 rfl rfl rfl rfl (Nat.le_of_ble_eq_true rfl) ?_
  refine j_aload_n C 0 dX2_init_40 rfl rfl ?_
  refine j_iconst C dX2_init_41 ?_
  refine j_newI (N' := 4) C rfl (by decide) dX2_init_42 (Nat.le_of_ble_eq_true rfl) (Nat.le_of_ble_eq_true rfl) (fun z7 => ?_)
  refine J.to (L1 := [(0, .ref a)]) (S1 := [.ref z7, .ref a]) (ws1 := [(a, .inr (2, [.ref z1, .ref z3, .ref z5, .ref z6, .null, .int (iI 0)])), (z1, .inr (1, [.ref z2, .int (iI 1), .int (iI 4), .int (iI 10)])), (z2, aI g 10 (fun _ => 0)), (z3, .inr (0, [.ref z4, .int (iI 0), .int (iI 0), .int (iI 0), .int (iI 0), .long (lI 0), .long (lI 0)])), (z4, aI g 48 (fun _ => 0)), (z5, aI g 4 (fun _ => 0)), (z6, aI g 4 (fun _ => 0)), (z7, aI g 4 (fun _ => 0))]) rfl rfl rfl ?_
  refine j_putF (ws1 := [(a, .inr (2, [.ref z1, .ref z3, .ref z5, .ref z6, .ref z7, .int (iI 0)])), (z1, .inr (1, [.ref z2, .int (iI 1), .int (iI 4), .int (iI 10)])), (z2, aI g 10 (fun _ => 0)), (z3, .inr (0, [.ref z4, .int (iI 0), .int (iI 0), .int (iI 0), .int (iI 0), .long (lI 0), .long (lI 0)])), (z4, aI g 48 (fun _ => 0)), (z5, aI g 4 (fun _ => 0)), (z6, aI g 4 (fun _ => 0)), (z7, aI g 4 (fun _ => 0))]) C hin ck2 0 4 (by decide) qw95 rfl rfl dX2_init_44 rfl rfl rfl rfl (Nat.le_of_ble_eq_true rfl) ?_
  refine j_aload_n C 0 dX2_init_47 rfl rfl ?_
  refine j_ldc (x := 60000) C qw87 (by decide) dX2_init_48 ?_
  refine j_put (ws1 := [(a, .inr (2, [.ref z1, .ref z3, .ref z5, .ref z6, .ref z7, .int (iI 60000)])), (z1, .inr (1, [.ref z2, .int (iI 1), .int (iI 4), .int (iI 10)])), (z2, aI g 10 (fun _ => 0)), (z3, .inr (0, [.ref z4, .int (iI 0), .int (iI 0), .int (iI 0), .int (iI 0), .long (lI 0), .long (lI 0)])), (z4, aI g 48 (fun _ => 0)), (z5, aI g 4 (fun _ => 0)), (z6, aI g 4 (fun _ => 0)), (z7, aI g 4 (fun _ => 0))]) C ck2 0 5 (by decide) qw96 rfl dX2_init_50 rfl rfl rfl rfl (Nat.le_of_ble_eq_true rfl) ?_
  refine j_iconst C dX2_init_53 ?_
  refine j_istore_n (L1 := [(1, .int (iI 0)), (0, .ref a)]) C dX2_init_54 rfl (by decide) rfl ?_
  refine J.sub (L1 := [(0, .ref a), (1, .int (iI 0))]) [1, 0] rfl ?_
  refine J.world (ws1 := [(a, .inr (2, [.ref z1, .ref z3, .ref z5, .ref z6, .ref z7, .int (iI 60000)])), (z1, .inr (1, [.ref z2, .int (iI 1), .int (iI 4), .int (iI 10)])), (z2, aI g 10 (fun _ => 0)), (z3, .inr (0, [.ref z4, .int (iI 0), .int (iI 0), .int (iI 0), .int (iI 0), .long (lI 0), .long (lI 0)])), (z4, aI g 48 (fun _ => 0)), (z5, aI g 4 (cpy 0 (fun _ => 1000) (fun _ => 0))), (z6, aI g 4 (fun _ => 0)), (z7, aI g 4 (fun _ => 0))]) rfl ?_
  refine lc_X2 (q := (adr a z1 z2 z3 z4 z5 z6 z7)) C ?_ 4 0 (by omega)
  exact j_vret C hr hlk dX2_init_79 ⟨rfl, adr a z1 z2 z3 z4 z5 z6 z7, rfl, rfl⟩ (by decide) (by decide)

