/-! constructor of the reference -/
def adu (a z1 z2 z3 z4 z5 z6 : Nat) : Nat → Nat := fun j => match j with | 0 => a | 1 => z1 | 2 => z2 | 3 => z3 | 4 => z4 | 5 => z5 | _ => z6
def v0b : Nat → Int := va_up (va_up (va_up (va_up (fun _ => 0) 0 60000) 1 10) 2 1) 3 4
def v0V : Nat → Int := cpB 4 9 (fun _ => 1000) v0b
theorem lc_X5 {p : Program} {l : Launch} {e : Env} {s : State} {m : MethodId} {args : Array Value} {below : List Frame} {meth : Method} {c : Code} {g : Gh} {A : Nat → Prop} {Q : State → Prop} {cells slots : Nat} (C : Cx p g s m args c cX5_init 2 RX5 A) {u : Nat → Nat} (kk : J p l e ({ frames := 1, cells := 6, slots := 524, locals := 20 } : Room) s m args below meth c g A 2 111 [] [] [(u 0, .inr (5, [.ref (u 1), .ref (u 2), .ref (u 3), .int (iI 0), .ref (u 4), .int (iI 0), .int (iI 0), .int (iI 0), .int (iI 0), .ref (u 5), .int (iI 0), .int (iI 0), .ref (u 6), .long (lI 0)])), (u 1, aL g 75 v0V), (u 2, aL g 300 (fun _ => 0)), (u 3, aL g 75 (fun _ => 0)), (u 4, aI g 60 (fun _ => 0)), (u 5, aI g 10 (fun _ => 0)), (u 6, aI g 4 (fun _ => 0))] cells slots Q) : ∀ (n i : Nat), i + n = 4 → J p l e ({ frames := 1, cells := 6, slots := 524, locals := 20 } : Room) s m args below meth c g A 2 88 [(0, .ref (u 0)), (1, .int (iI ((i : Int))))] [] [(u 0, .inr (5, [.ref (u 1), .ref (u 2), .ref (u 3), .int (iI 0), .ref (u 4), .int (iI 0), .int (iI 0), .int (iI 0), .int (iI 0), .ref (u 5), .int (iI 0), .int (iI 0), .ref (u 6), .long (lI 0)])), (u 1, aL g 75 (cpB i 9 (fun _ => 1000) v0b)), (u 2, aL g 300 (fun _ => 0)), (u 3, aL g 75 (fun _ => 0)), (u 4, aI g 60 (fun _ => 0)), (u 5, aI g 10 (fun _ => 0)), (u 6, aI g 4 (fun _ => 0))] cells slots Q := by
  intro n
  induction n with
  | zero =>
    intro i hi
    have hi9 : i = 4 := by omega
    subst hi9
    refine j_iload_n C 1 dX5_init_88 rfl rfl ?_
    refine j_iconst C dX5_init_89 ?_
    refine j_icmp_ge (tgt := 111) C (by omega) (by decide) dX5_init_90 (by decide) (fun c90 => ?_) (fun c90 => absurd c90 (by omega))
    refine J.sub (L1 := []) [] rfl ?_
    exact kk
  | succ n ih =>
    intro i hi
    refine j_iload_n C 1 dX5_init_88 rfl rfl ?_
    refine j_iconst C dX5_init_89 ?_
    refine j_icmp_ge (tgt := 111) C (by omega) (by decide) dX5_init_90 (by decide) (fun c90 => absurd c90 (by omega)) (fun c90 => ?_)
    refine j_aload_n C 0 dX5_init_93 rfl rfl ?_
    refine j_get C ck5 0 0 (by decide) qw662 rfl rfl dX5_init_94 ?_
    refine j_bipush C dX5_init_97 (by decide) ?_
    refine j_iload_n C 1 dX5_init_99 rfl rfl ?_
    refine j_iadd C dX5_init_100 ?_
    refine j_ldc2 (x := 1000) C qw661 (by decide) dX5_init_101 ?_
    refine j_last (n := 75) (f := cpB i 9 (fun _ => 1000) v0b) (ws1 := [(u 0, .inr (5, [.ref (u 1), .ref (u 2), .ref (u 3), .int (iI 0), .ref (u 4), .int (iI 0), .int (iI 0), .int (iI 0), .int (iI 0), .ref (u 5), .int (iI 0), .int (iI 0), .ref (u 6), .long (lI 0)])), (u 1, aL g 75 (va_up (cpB i 9 (fun _ => 1000) v0b) (9 + i) 1000)), (u 2, aL g 300 (fun _ => 0)), (u 3, aL g 75 (fun _ => 0)), (u 4, aI g 60 (fun _ => 0)), (u 5, aI g 10 (fun _ => 0)), (u 6, aI g 4 (fun _ => 0))]) C 1 (9 + i) rfl (by omega) (by omega) (by decide) dX5_init_104 rfl ?_
    refine j_iinc (L1 := [(1, .int (iI (((i : Int)) + 1))), (0, .ref (u 0))]) C 1 dX5_init_105 rfl (by decide) rfl ?_
    refine j_goto (tgt := 88) C dX5_init_108 (by decide) ?_
    refine J.sub (L1 := [(0, .ref (u 0)), (1, .int (iI (((i : Int)) + 1)))]) [1, 0] rfl ?_
    rw [cpB_succ i 9 (fun _ => 1000) v0b]
    exact ih (i + 1) (by omega)

theorem c_X5_init (l : Launch) (g : Gh) (a : Nat)  : CT l g yX5_init cX5_init 2 none ({ frames := 1, cells := 6, slots := 524, locals := 20 }) [.ref a] [(a, .inr (5, [.null, .null, .null, .int (iI 0), .null, .int (iI 0), .int (iI 0), .int (iI 0), .int (iI 0), .null, .int (iI 0), .int (iI 0), .null, .long (lI 0)]))] (fun r9 w9 => r9 = none ∧ ∃ u9 : Nat → Nat, u9 0 = a ∧ w9 = wMd g u9 v0V (fun _ => 0) (fun _ => 0) (fun _ => 0) (fun _ => 0) (fun _ => 0) 0 0 0 0 0 0 0 0) := by
  refine CT.introI (L0 := [(0, .ref a)]) (own := RX5) (by decide) rfl (Nat.le_of_ble_eq_true rfl) rfl ?_
  intro pX eX sX mX argsX belowX methX cX A C hr hlk hin
  refine j_aload_n C 0 dX5_init_0 rfl rfl ?_
  refine j_objInit C qw657 dX5_init_1 (by decide) (Nat.le_of_ble_eq_true rfl) ?_
  refine j_aload_n C 0 dX5_init_4 rfl rfl ?_
  refine j_bipush C dX5_init_5 (by decide) ?_
  refine j_newL (N' := 75) C rfl (by decide) dX5_init_7 (Nat.le_of_ble_eq_true rfl) (Nat.le_of_ble_eq_true rfl) (fun z1 => ?_)
  refine J.to (L1 := [(0, .ref a)]) (S1 := [.ref z1, .ref a]) (ws1 := [(a, .inr (5, [.null, .null, .null, .int (iI 0), .null, .int (iI 0), .int (iI 0), .int (iI 0), .int (iI 0), .null, .int (iI 0), .int (iI 0), .null, .long (lI 0)])), (z1, aL g 75 (fun _ => 0))]) rfl rfl rfl ?_
  refine j_putF (ws1 := [(a, .inr (5, [.ref z1, .null, .null, .int (iI 0), .null, .int (iI 0), .int (iI 0), .int (iI 0), .int (iI 0), .null, .int (iI 0), .int (iI 0), .null, .long (lI 0)])), (z1, aL g 75 (fun _ => 0))]) C hin ck5 0 0 (by decide) qw662 rfl rfl dX5_init_9 rfl rfl rfl rfl (Nat.le_of_ble_eq_true rfl) ?_
  refine j_aload_n C 0 dX5_init_12 rfl rfl ?_
  refine j_sipush C dX5_init_13 (by decide) ?_
  refine j_newL (N' := 300) C rfl (by decide) dX5_init_16 (Nat.le_of_ble_eq_true rfl) (Nat.le_of_ble_eq_true rfl) (fun z2 => ?_)
  refine J.to (L1 := [(0, .ref a)]) (S1 := [.ref z2, .ref a]) (ws1 := [(a, .inr (5, [.ref z1, .null, .null, .int (iI 0), .null, .int (iI 0), .int (iI 0), .int (iI 0), .int (iI 0), .null, .int (iI 0), .int (iI 0), .null, .long (lI 0)])), (z1, aL g 75 (fun _ => 0)), (z2, aL g 300 (fun _ => 0))]) rfl rfl rfl ?_
  refine j_putF (ws1 := [(a, .inr (5, [.ref z1, .ref z2, .null, .int (iI 0), .null, .int (iI 0), .int (iI 0), .int (iI 0), .int (iI 0), .null, .int (iI 0), .int (iI 0), .null, .long (lI 0)])), (z1, aL g 75 (fun _ => 0)), (z2, aL g 300 (fun _ => 0))]) C hin ck5 0 1 (by decide) qw663 rfl rfl dX5_init_18 rfl rfl rfl rfl (Nat.le_of_ble_eq_true rfl) ?_
  refine j_aload_n C 0 dX5_init_21 rfl rfl ?_
  refine j_bipush C dX5_init_22 (by decide) ?_
  refine j_newL (N' := 75) C rfl (by decide) dX5_init_24 (Nat.le_of_ble_eq_true rfl) (Nat.le_of_ble_eq_true rfl) (fun z3 => ?_)
  refine J.to (L1 := [(0, .ref a)]) (S1 := [.ref z3, .ref a]) (ws1 := [(a, .inr (5, [.ref z1, .ref z2, .null, .int (iI 0), .null, .int (iI 0), .int (iI 0), .int (iI 0), .int (iI 0), .null, .int (iI 0), .int (iI 0), .null, .long (lI 0)])), (z1, aL g 75 (fun _ => 0)), (z2, aL g 300 (fun _ => 0)), (z3, aL g 75 (fun _ => 0))]) rfl rfl rfl ?_
  refine j_putF (ws1 := [(a, .inr (5, [.ref z1, .ref z2, .ref z3, .int (iI 0), .null, .int (iI 0), .int (iI 0), .int (iI 0), .int (iI 0), .null, .int (iI 0), .int (iI 0), .null, .long (lI 0)])), (z1, aL g 75 (fun _ => 0)), (z2, aL g 300 (fun _ => 0)), (z3, aL g 75 (fun _ => 0))]) C hin ck5 0 2 (by decide) qw664 rfl rfl dX5_init_26 rfl rfl rfl rfl (Nat.le_of_ble_eq_true rfl) ?_
  refine j_aload_n C 0 dX5_init_29 rfl rfl ?_
  refine j_bipush C dX5_init_30 (by decide) ?_
  refine j_newI (N' := 60) C rfl (by decide) dX5_init_32 (Nat.le_of_ble_eq_true rfl) (Nat.le_of_ble_eq_true rfl) (fun z4 => ?_)
  refine J.to (L1 := [(0, .ref a)]) (S1 := [.ref z4, .ref a]) (ws1 := [(a, .inr (5, [.ref z1, .ref z2, .ref z3, .int (iI 0), .null, .int (iI 0), .int (iI 0), .int (iI 0), .int (iI 0), .null, .int (iI 0), .int (iI 0), .null, .long (lI 0)])), (z1, aL g 75 (fun _ => 0)), (z2, aL g 300 (fun _ => 0)), (z3, aL g 75 (fun _ => 0)), (z4, aI g 60 (fun _ => 0))]) rfl rfl rfl ?_
  refine j_putF (ws1 := [(a, .inr (5, [.ref z1, .ref z2, .ref z3, .int (iI 0), .ref z4, .int (iI 0), .int (iI 0), .int (iI 0), .int (iI 0), .null, .int (iI 0), .int (iI 0), .null, .long (lI 0)])), (z1, aL g 75 (fun _ => 0)), (z2, aL g 300 (fun _ => 0)), (z3, aL g 75 (fun _ => 0)), (z4, aI g 60 (fun _ => 0))]) C hin ck5 0 4 (by decide) qw666 rfl rfl dX5_init_34 rfl rfl rfl rfl (Nat.le_of_ble_eq_true rfl) ?_
  refine j_aload_n C 0 dX5_init_37 rfl rfl ?_
  refine j_bipush C dX5_init_38 (by decide) ?_
  refine j_newI (N' := 10) C rfl (by decide) dX5_init_40 (Nat.le_of_ble_eq_true rfl) (Nat.le_of_ble_eq_true rfl) (fun z5 => ?_)
  refine J.to (L1 := [(0, .ref a)]) (S1 := [.ref z5, .ref a]) (ws1 := [(a, .inr (5, [.ref z1, .ref z2, .ref z3, .int (iI 0), .ref z4, .int (iI 0), .int (iI 0), .int (iI 0), .int (iI 0), .null, .int (iI 0), .int (iI 0), .null, .long (lI 0)])), (z1, aL g 75 (fun _ => 0)), (z2, aL g 300 (fun _ => 0)), (z3, aL g 75 (fun _ => 0)), (z4, aI g 60 (fun _ => 0)), (z5, aI g 10 (fun _ => 0))]) rfl rfl rfl ?_
  refine j_putF (ws1 := [(a, .inr (5, [.ref z1, .ref z2, .ref z3, .int (iI 0), .ref z4, .int (iI 0), .int (iI 0), .int (iI 0), .int (iI 0), .ref z5, .int (iI 0), .int (iI 0), .null, .long (lI 0)])), (z1, aL g 75 (fun _ => 0)), (z2, aL g 300 (fun _ => 0)), (z3, aL g 75 (fun _ => 0)), (z4, aI g 60 (fun _ => 0)), (z5, aI g 10 (fun _ => 0))]) C hin ck5 0 9 (by decide) qw671 rfl rfl dX5_init_42 rfl rfl rfl rfl (Nat.le_of_ble_eq_true rfl) ?_
  refine j_aload_n C 0 dX5_init_45 rfl rfl ?_
  refine j_iconst C dX5_init_46 ?_
  refine j_newI (N' := 4) C rfl (by decide) dX5_init_47 (Nat.le_of_ble_eq_true rfl) (Nat.le_of_ble_eq_true rfl) (fun z6 => ?_)
  refine J.to (L1 := [(0, .ref a)]) (S1 := [.ref z6, .ref a]) (ws1 := [(a, .inr (5, [.ref z1, .ref z2, .ref z3, .int (iI 0), .ref z4, .int (iI 0), .int (iI 0), .int (iI 0), .int (iI 0), .ref z5, .int (iI 0), .int (iI 0), .null, .long (lI 0)])), (z1, aL g 75 (fun _ => 0)), (z2, aL g 300 (fun _ => 0)), (z3, aL g 75 (fun _ => 0)), (z4, aI g 60 (fun _ => 0)), (z5, aI g 10 (fun _ => 0)), (z6, aI g 4 (fun _ => 0))]) rfl rfl rfl ?_
  refine j_putF (ws1 := [(a, .inr (5, [.ref z1, .ref z2, .ref z3, .int (iI 0), .ref z4, .int (iI 0), .int (iI 0), .int (iI 0), .int (iI 0), .ref z5, .int (iI 0), .int (iI 0), .ref z6, .long (lI 0)])), (z1, aL g 75 (fun _ => 0)), (z2, aL g 300 (fun _ => 0)), (z3, aL g 75 (fun _ => 0)), (z4, aI g 60 (fun _ => 0)), (z5, aI g 10 (fun _ => 0)), (z6, aI g 4 (fun _ => 0))]) C hin ck5 0 12 (by decide) qw674 rfl rfl dX5_init_49 rfl rfl rfl rfl (Nat.le_of_ble_eq_true rfl) ?_
  refine j_aload_n C 0 dX5_init_52 rfl rfl ?_
  refine j_get C ck5 0 0 (by decide) qw662 rfl rfl dX5_init_53 ?_
  refine j_iconst C dX5_init_56 ?_
  refine j_ldc2 (x := 60000) C qw658 (by decide) dX5_init_57 ?_
  refine j_last (n := 75) (f := fun _ => 0) (ws1 := [(a, .inr (5, [.ref z1, .ref z2, .ref z3, .int (iI 0), .ref z4, .int (iI 0), .int (iI 0), .int (iI 0), .int (iI 0), .ref z5, .int (iI 0), .int (iI 0), .ref z6, .long (lI 0)])), (z1, aL g 75 (va_up (fun _ => 0) 0 60000)), (z2, aL g 300 (fun _ => 0)), (z3, aL g 75 (fun _ => 0)), (z4, aI g 60 (fun _ => 0)), (z5, aI g 10 (fun _ => 0)), (z6, aI g 4 (fun _ => 0))]) C 1 0 rfl rfl (by decide) (by decide) dX5_init_60 rfl ?_
  refine j_aload_n C 0 dX5_init_61 rfl rfl ?_
  refine j_get C ck5 0 0 (by decide) qw662 rfl rfl dX5_init_62 ?_
  refine j_iconst C dX5_init_65 ?_
  refine j_ldc2 (x := 10) C qw659 (by decide) dX5_init_66 ?_
  refine j_last (n := 75) (f := va_up (fun _ => 0) 0 60000) (ws1 := [(a, .inr (5, [.ref z1, .ref z2, .ref z3, .int (iI 0), .ref z4, .int (iI 0), .int (iI 0), .int (iI 0), .int (iI 0), .ref z5, .int (iI 0), .int (iI 0), .ref z6, .long (lI 0)])), (z1, aL g 75 (va_up (va_up (fun _ => 0) 0 60000) 1 10)), (z2, aL g 300 (fun _ => 0)), (z3, aL g 75 (fun _ => 0)), (z4, aI g 60 (fun _ => 0)), (z5, aI g 10 (fun _ => 0)), (z6, aI g 4 (fun _ => 0))]) C 1 1 rfl rfl (by decide) (by decide) dX5_init_69 rfl ?_
  refine j_aload_n C 0 dX5_init_70 rfl rfl ?_
  refine j_get C ck5 0 0 (by decide) qw662 rfl rfl dX5_init_71 ?_
  refine j_iconst C dX5_init_74 ?_
  refine j_lconst (v := 1) C dX5_init_75 rfl ?_
  refine j_last (n := 75) (f := va_up (va_up (fun _ => 0) 0 60000) 1 10) (ws1 := [(a, .inr (5, [.ref z1, .ref z2, .ref z3, .int (iI 0), .ref z4, .int (iI 0), .int (iI 0), .int (iI 0), .int (iI 0), .ref z5, .int (iI 0), .int (iI 0), .ref z6, .long (lI 0)])), (z1, aL g 75 (va_up (va_up (va_up (fun _ => 0) 0 60000) 1 10) 2 1)), (z2, aL g 300 (fun _ => 0)), (z3, aL g 75 (fun _ => 0)), (z4, aI g 60 (fun _ => 0)), (z5, aI g 10 (fun _ => 0)), (z6, aI g 4 (fun _ => 0))]) C 1 2 rfl rfl (by decide) (by decide) dX5_init_76 rfl ?_
  refine j_aload_n C 0 dX5_init_77 rfl rfl ?_
  refine j_get C ck5 0 0 (by decide) qw662 rfl rfl dX5_init_78 ?_
  refine j_iconst C dX5_init_81 ?_
  refine j_ldc2 (x := 4) C qw660 (by decide) dX5_init_82 ?_
  refine j_last (n := 75) (f := va_up (va_up (va_up (fun _ => 0) 0 60000) 1 10) 2 1) (ws1 := [(a, .inr (5, [.ref z1, .ref z2, .ref z3, .int (iI 0), .ref z4, .int (iI 0), .int (iI 0), .int (iI 0), .int (iI 0), .ref z5, .int (iI 0), .int (iI 0), .ref z6, .long (lI 0)])), (z1, aL g 75 (va_up (va_up (va_up (va_up (fun _ => 0) 0 60000) 1 10) 2 1) 3 4)), (z2, aL g 300 (fun _ => 0)), (z3, aL g 75 (fun _ => 0)), (z4, aI g 60 (fun _ => 0)), (z5, aI g 10 (fun _ => 0)), (z6, aI g 4 (fun _ => 0))]) C 1 3 rfl rfl (by decide) (by decide) dX5_init_85 rfl ?_
  refine j_iconst C dX5_init_86 ?_
  refine j_istore_n (L1 := [(1, .int (iI 0)), (0, .ref a)]) C dX5_init_87 rfl (by decide) rfl ?_
  refine J.sub (L1 := [(0, .ref a), (1, .int (iI 0))]) [1, 0] rfl ?_
  refine J.world (ws1 := [(a, .inr (5, [.ref z1, .ref z2, .ref z3, .int (iI 0), .ref z4, .int (iI 0), .int (iI 0), .int (iI 0), .int (iI 0), .ref z5, .int (iI 0), .int (iI 0), .ref z6, .long (lI 0)])), (z1, aL g 75 (cpB 0 9 (fun _ => 1000) v0b)), (z2, aL g 300 (fun _ => 0)), (z3, aL g 75 (fun _ => 0)), (z4, aI g 60 (fun _ => 0)), (z5, aI g 10 (fun _ => 0)), (z6, aI g 4 (fun _ => 0))]) (by rw [cpB_0]; rfl) ?_
  refine lc_X5 (u := (adu a z1 z2 z3 z4 z5 z6)) C ?_ 4 0 (by omega)
  exact j_vret C hr hlk dX5_init_111 ⟨rfl, adu a z1 z2 z3 z4 z5 z6, rfl, rfl⟩ (by decide) (by decide)

