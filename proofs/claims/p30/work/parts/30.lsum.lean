/-! the law: sum, areLeast, arePulls -/
set_option maxRecDepth 100000 in
set_option maxHeartbeats 4000000 in
theorem lp_sum1 {p : Program} {l : Launch} {e : Env} {s : State} {m : MethodId} {args : Array Value} {below : List Frame} {meth : Method} {c : Code} {A : Nat → Prop} {Q : State → Prop} {g : Gh} {r : Nat → Nat} {qn qt : Nat → Nat} {qv : Nat → Nat → Nat} {kn : Nat → Nat → Int} {kv : Nat → Nat → Nat → Int} {sc : Int} {ns : Nat} {tx : Nat → Int} {tn : Nat} {pl : Int} {kt : Nat → Nat → Int} (C : Cx p g s m args c cL_sum 4 RL A) (hl : l.stackTraces = false) (hT : TOK kn kv sc ns tx tn) (kk : J p l e ({ frames := 9, cells := 0, slots := 0, locals := 167 } : Room) s m args below meth c g A 4 31 [(0, .ref (r 0)), (1, .long (lI (sm1 kn 10)))] [] (wTp g r qn qt qv kn kt kv sc ns tx tn pl) 0 0 Q) : ∀ (n i : Nat), i + n = 10 → J p l e ({ frames := 9, cells := 0, slots := 0, locals := 167 } : Room) s m args below meth c g A 4 6 [(0, .ref (r 0)), (1, .long (lI (sm1 kn i))), (3, .int (iI ((i : Int))))] [] (wTp g r qn qt qv kn kt kv sc ns tx tn pl) 0 0 Q := by
  intro n
  induction n with
  | zero =>
    intro i hi 
    have hi9 : 10 = i := by omega
    subst hi9
    refine j_iload_n C 2 dL_sum_6 rfl rfl ?_
    refine j_bipush C dL_sum_7 (by decide) ?_
    refine j_icmp_ge (tgt := 31) C (by omega) (by decide) dL_sum_9 (by decide) (fun c9 => ?_) (fun c9 => absurd c9 (by omega))
    refine J.sub (L1 := [(0, .ref (r 0)), (1, .long (lI (sm1 kn 10)))]) [0, 1] rfl ?_
    exact kk
  | succ n ih =>
    intro i hi 
    refine j_iload_n C 2 dL_sum_6 rfl rfl ?_
    refine j_bipush C dL_sum_7 (by decide) ?_
    refine j_icmp_ge (tgt := 31) C (by omega) (by decide) dL_sum_9 (by decide) (fun c9 => absurd c9 (by omega)) (fun c9 => ?_)
    refine j_ldc2 (x := 31) C qw442 (by decide) dL_sum_12 ?_
    refine j_lload_n C 1 dL_sum_15 rfl rfl ?_
    refine j_lmul C dL_sum_16 ?_
    refine j_aload_n C 0 dL_sum_17 rfl rfl ?_
    refine j_iload_n C 2 dL_sum_18 rfl rfl ?_
    refine j_callSW (As := [.ref (r 0), .int (iI ((i : Int)))]) (rest := [.long (lI (31 * (sm1 kn i)))]) C yw_L_value qw443 (w_value l g r qn qt qv kn kt kv sc ns tx tn pl (i : Int) hT (by omega)) (by decide) rfl dL_sum_19 rfl (Nat.le_of_ble_eq_true rfl) (by decide) pf0 rfl (fun r9 w9 hq9 => ?_)
    obtain ⟨rfl, rfl⟩ := hq9
    refine J.to (L1 := [(0, .ref (r 0)), (1, .long (lI (sm1 kn i))), (3, .int (iI ((i : Int))))]) (S1 := [.int (iI ((valF kn (i : Int)))), .long (lI (31 * (sm1 kn i)))]) (ws1 := (wTp g r qn qt qv kn kt kv sc ns tx tn pl)) rfl rfl rfl ?_
    refine j_i2lw C dL_sum_22 ?_
    refine j_ladd C dL_sum_23 ?_
    refine j_lstore_n (L1 := [(1, .long (lI ((31 * (sm1 kn i)) + (w32 (valF kn (i : Int)))))), (0, .ref (r 0)), (3, .int (iI ((i : Int))))]) C dL_sum_24 rfl (by decide) rfl ?_
    refine j_iinc (L1 := [(3, .int (iI (((i : Int)) + 1))), (1, .long (lI ((31 * (sm1 kn i)) + (w32 (valF kn (i : Int)))))), (0, .ref (r 0))]) C 2 dL_sum_25 rfl (by decide) rfl ?_
    refine j_goto (tgt := 6) C dL_sum_28 (by decide) ?_
    refine J.sub (L1 := [(0, .ref (r 0)), (1, .long (lI ((31 * (sm1 kn i)) + (w32 (valF kn (i : Int)))))), (3, .int (iI (((i : Int)) + 1)))]) [2, 1, 0] rfl ?_
    exact ih (i + 1) (by omega)

set_option maxRecDepth 100000 in
set_option maxHeartbeats 4000000 in
theorem lp_sum2 {p : Program} {l : Launch} {e : Env} {s : State} {m : MethodId} {args : Array Value} {below : List Frame} {meth : Method} {c : Code} {A : Nat → Prop} {Q : State → Prop} {g : Gh} {r : Nat → Nat} {qn qt : Nat → Nat} {qv : Nat → Nat → Nat} {kn : Nat → Nat → Int} {kv : Nat → Nat → Nat → Int} {sc : Int} {ns : Nat} {tx : Nat → Int} {tn : Nat} {pl : Int} {kt : Nat → Nat → Int} (C : Cx p g s m args c cL_sum 4 RL A) (hl : l.stackTraces = false) {h0 : Int} (hT : TOK kn kv sc ns tx tn) (kk : J p l e ({ frames := 9, cells := 0, slots := 0, locals := 167 } : Room) s m args below meth c g A 4 65 [(0, .ref (r 0)), (1, .long (lI (sm2 h0 kn 28)))] [] (wTp g r qn qt qv kn kt kv sc ns tx tn pl) 0 0 Q) : ∀ (n i : Nat), i + n = 28 → J p l e ({ frames := 9, cells := 0, slots := 0, locals := 167 } : Room) s m args below meth c g A 4 33 [(0, .ref (r 0)), (1, .long (lI (sm2 h0 kn i))), (3, .int (iI ((i : Int))))] [] (wTp g r qn qt qv kn kt kv sc ns tx tn pl) 0 0 Q := by
  intro n
  induction n with
  | zero =>
    intro i hi 
    have hi9 : 28 = i := by omega
    subst hi9
    refine j_iload_n C 2 dL_sum_33 rfl rfl ?_
    refine j_bipush C dL_sum_34 (by decide) ?_
    refine j_icmp_ge (tgt := 65) C (by omega) (by decide) dL_sum_36 (by decide) (fun c36 => ?_) (fun c36 => absurd c36 (by omega))
    refine J.sub (L1 := [(0, .ref (r 0)), (1, .long (lI (sm2 h0 kn 28)))]) [0, 1] rfl ?_
    exact kk
  | succ n ih =>
    intro i hi 
    refine j_iload_n C 2 dL_sum_33 rfl rfl ?_
    refine j_bipush C dL_sum_34 (by decide) ?_
    refine j_icmp_ge (tgt := 65) C (by omega) (by decide) dL_sum_36 (by decide) (fun c36 => absurd c36 (by omega)) (fun c36 => ?_)
    refine j_ldc2 (x := 31) C qw442 (by decide) dL_sum_39 ?_
    refine j_lload_n C 1 dL_sum_42 rfl rfl ?_
    refine j_lmul C dL_sum_43 ?_
    refine j_aload_n C 0 dL_sum_44 rfl rfl ?_
    refine j_iload_n C 2 dL_sum_45 rfl rfl ?_
    refine j_bipush C dL_sum_46 (by decide) ?_
    refine j_idiv C (by omega) (by decide) dL_sum_48 ?_
    refine j_iload_n C 2 dL_sum_49 rfl rfl ?_
    refine j_bipush C dL_sum_50 (by decide) ?_
    refine j_irem C (by omega) (by omega) dL_sum_52 ?_
    refine J.to (L1 := [(0, .ref (r 0)), (1, .long (lI (sm2 h0 kn i))), (3, .int (iI ((i : Int))))]) (S1 := [.int (iI ((i : Int) % 7)), .int (iI (((i : Int)) / 7)), .ref (r 0), .long (lI (31 * (sm2 h0 kn i)))]) (ws1 := (wTp g r qn qt qv kn kt kv sc ns tx tn pl)) rfl rfl (by rw [tmod_pos (show (0 : Int) ≤ (i : Int) by omega)]) ?_
    refine j_callSW (As := [.ref (r 0), .int (iI (((i : Int)) / 7)), .int (iI ((i : Int) % 7))]) (rest := [.long (lI (31 * (sm2 h0 kn i)))]) C yw_L_block qw456 (w_block l g r qn qt qv kn kt kv sc ns tx tn pl (((i : Int)) / 7) ((i : Int) % 7) hT (by omega) (by omega)) (by decide) rfl dL_sum_53 rfl (Nat.le_of_ble_eq_true rfl) (by decide) pf0 rfl (fun r9 w9 hq9 => ?_)
    obtain ⟨rfl, rfl⟩ := hq9
    refine J.to (L1 := [(0, .ref (r 0)), (1, .long (lI (sm2 h0 kn i))), (3, .int (iI ((i : Int))))]) (S1 := [.int (iI ((blkF kn (((i : Int)) / 7) ((i : Int) % 7)))), .long (lI (31 * (sm2 h0 kn i)))]) (ws1 := (wTp g r qn qt qv kn kt kv sc ns tx tn pl)) rfl rfl rfl ?_
    refine j_i2lw C dL_sum_56 ?_
    refine j_ladd C dL_sum_57 ?_
    refine j_lstore_n (L1 := [(1, .long (lI ((31 * (sm2 h0 kn i)) + (w32 (blkF kn (((i : Int)) / 7) ((i : Int) % 7)))))), (0, .ref (r 0)), (3, .int (iI ((i : Int))))]) C dL_sum_58 rfl (by decide) rfl ?_
    refine j_iinc (L1 := [(3, .int (iI (((i : Int)) + 1))), (1, .long (lI ((31 * (sm2 h0 kn i)) + (w32 (blkF kn (((i : Int)) / 7) ((i : Int) % 7)))))), (0, .ref (r 0))]) C 2 dL_sum_59 rfl (by decide) rfl ?_
    refine j_goto (tgt := 33) C dL_sum_62 (by decide) ?_
    refine J.sub (L1 := [(0, .ref (r 0)), (1, .long (lI ((31 * (sm2 h0 kn i)) + (w32 (blkF kn (((i : Int)) / 7) ((i : Int) % 7)))))), (3, .int (iI (((i : Int)) + 1)))]) [2, 1, 0] rfl ?_
    exact ih (i + 1) (by omega)

set_option maxRecDepth 100000 in
set_option maxHeartbeats 4000000 in
theorem lp_sum3 {p : Program} {l : Launch} {e : Env} {s : State} {m : MethodId} {args : Array Value} {below : List Frame} {meth : Method} {c : Code} {A : Nat → Prop} {Q : State → Prop} {g : Gh} {r : Nat → Nat} {qn qt : Nat → Nat} {qv : Nat → Nat → Nat} {kn : Nat → Nat → Int} {kv : Nat → Nat → Nat → Int} {sc : Int} {ns : Nat} {tx : Nat → Int} {tn : Nat} {pl : Int} {kt : Nat → Nat → Int} (C : Cx p g s m args c cL_sum 4 RL A) (hl : l.stackTraces = false) {h0 : Int} (hT : TOK kn kv sc ns tx tn) {P0 : Nat} (hP0 : kn 0 2 = (P0 : Int)) (kk : J p l e ({ frames := 9, cells := 0, slots := 0, locals := 167 } : Room) s m args below meth c g A 4 95 [(0, .ref (r 0)), (1, .long (lI (sm3 h0 kn P0)))] [] (wTp g r qn qt qv kn kt kv sc ns tx tn pl) 0 0 Q) : ∀ (n i : Nat), i + n = P0 → J p l e ({ frames := 9, cells := 0, slots := 0, locals := 167 } : Room) s m args below meth c g A 4 67 [(0, .ref (r 0)), (1, .long (lI (sm3 h0 kn i))), (3, .int (iI ((i : Int))))] [] (wTp g r qn qt qv kn kt kv sc ns tx tn pl) 0 0 Q := by
  intro n
  induction n with
  | zero =>
    intro i hi 
    have hi9 : P0 = i := by omega
    subst hi9
    have hP := hT.1.1.1
    refine j_iload_n C 2 dL_sum_67 rfl rfl ?_
    refine j_aload_n C 0 dL_sum_68 rfl rfl ?_
    refine j_iconst C dL_sum_69 ?_
    refine j_callSW (As := [.ref (r 0), .int (iI 3)]) (rest := [.int (iI ((P0 : Int)))]) C yw_L_value qw443 (w_value l g r qn qt qv kn kt kv sc ns tx tn pl 3 hT (by omega)) (by decide) rfl dL_sum_70 rfl (Nat.le_of_ble_eq_true rfl) (by decide) pf0 rfl (fun r9 w9 hq9 => ?_)
    obtain ⟨rfl, rfl⟩ := hq9
    refine J.to (L1 := [(0, .ref (r 0)), (1, .long (lI (sm3 h0 kn P0))), (3, .int (iI ((P0 : Int))))]) (S1 := [.int (iI (kn 0 2)), .int (iI ((P0 : Int)))]) (ws1 := (wTp g r qn qt qv kn kt kv sc ns tx tn pl)) rfl rfl rfl ?_
    refine j_icmp_ge (tgt := 95) C (by omega) (by omega) dL_sum_73 (by decide) (fun c73 => ?_) (fun c73 => absurd c73 (by omega))
    refine J.sub (L1 := [(0, .ref (r 0)), (1, .long (lI (sm3 h0 kn P0)))]) [0, 1] rfl ?_
    exact kk
  | succ n ih =>
    intro i hi 
    obtain ⟨hP, hE, hF, hrow, hwt, hht, hlen, hlat, hkept⟩ := id hT.1.1
    refine j_iload_n C 2 dL_sum_67 rfl rfl ?_
    refine j_aload_n C 0 dL_sum_68 rfl rfl ?_
    refine j_iconst C dL_sum_69 ?_
    refine j_callSW (As := [.ref (r 0), .int (iI 3)]) (rest := [.int (iI ((i : Int)))]) C yw_L_value qw443 (w_value l g r qn qt qv kn kt kv sc ns tx tn pl 3 hT (by omega)) (by decide) rfl dL_sum_70 rfl (Nat.le_of_ble_eq_true rfl) (by decide) pf0 rfl (fun r9 w9 hq9 => ?_)
    obtain ⟨rfl, rfl⟩ := hq9
    refine J.to (L1 := [(0, .ref (r 0)), (1, .long (lI (sm3 h0 kn i))), (3, .int (iI ((i : Int))))]) (S1 := [.int (iI (kn 0 2)), .int (iI ((i : Int)))]) (ws1 := (wTp g r qn qt qv kn kt kv sc ns tx tn pl)) rfl rfl rfl ?_
    refine j_icmp_ge (tgt := 95) C (by omega) (by omega) dL_sum_73 (by decide) (fun c73 => absurd c73 (by omega)) (fun c73 => ?_)
    refine j_ldc2 (x := 31) C qw442 (by decide) dL_sum_76 ?_
    refine j_lload_n C 1 dL_sum_79 rfl rfl ?_
    refine j_lmul C dL_sum_80 ?_
    refine j_aload_n C 0 dL_sum_81 rfl rfl ?_
    refine j_iload_n C 2 dL_sum_82 rfl rfl ?_
    refine j_callSW (As := [.ref (r 0), .int (iI ((i : Int)))]) (rest := [.long (lI (31 * (sm3 h0 kn i)))]) C yw_L_pulley qw468 (w_pulley l g r qn qt qv kn kt kv sc ns tx tn pl (i : Int) hT (by omega)) (by decide) rfl dL_sum_83 rfl (Nat.le_of_ble_eq_true rfl) (by decide) pf0 rfl (fun r9 w9 hq9 => ?_)
    obtain ⟨rfl, rfl⟩ := hq9
    refine J.to (L1 := [(0, .ref (r 0)), (1, .long (lI (sm3 h0 kn i))), (3, .int (iI ((i : Int))))]) (S1 := [.int (iI (kn 1 i)), .long (lI (31 * (sm3 h0 kn i)))]) (ws1 := (wTp g r qn qt qv kn kt kv sc ns tx tn pl)) rfl rfl rfl ?_
    refine j_i2lw C dL_sum_86 ?_
    refine j_ladd C dL_sum_87 ?_
    refine j_lstore_n (L1 := [(1, .long (lI ((31 * (sm3 h0 kn i)) + (w32 (kn 1 i))))), (0, .ref (r 0)), (3, .int (iI ((i : Int))))]) C dL_sum_88 rfl (by decide) rfl ?_
    refine j_iinc (L1 := [(3, .int (iI (((i : Int)) + 1))), (1, .long (lI ((31 * (sm3 h0 kn i)) + (w32 (kn 1 i))))), (0, .ref (r 0))]) C 2 dL_sum_89 rfl (by decide) rfl ?_
    refine j_goto (tgt := 67) C dL_sum_92 (by decide) ?_
    refine J.sub (L1 := [(0, .ref (r 0)), (1, .long (lI ((31 * (sm3 h0 kn i)) + (w32 (kn 1 i))))), (3, .int (iI (((i : Int)) + 1)))]) [2, 1, 0] rfl ?_
    exact ih (i + 1) (by omega)

set_option maxRecDepth 100000 in
set_option maxHeartbeats 4000000 in
theorem lp_sum4 {p : Program} {l : Launch} {e : Env} {s : State} {m : MethodId} {args : Array Value} {below : List Frame} {meth : Method} {c : Code} {A : Nat → Prop} {Q : State → Prop} {g : Gh} {r : Nat → Nat} {qn qt : Nat → Nat} {qv : Nat → Nat → Nat} {kn : Nat → Nat → Int} {kv : Nat → Nat → Nat → Int} {sc : Int} {ns : Nat} {tx : Nat → Int} {tn : Nat} {pl : Int} {kt : Nat → Nat → Int} (C : Cx p g s m args c cL_sum 4 RL A) (hl : l.stackTraces = false) {h0 : Int} (hT : TOK kn kv sc ns tx tn) {N0 : Nat} (hN0 : 3 * kn 0 6 = (N0 : Int)) (kk : J p l e ({ frames := 9, cells := 0, slots := 0, locals := 167 } : Room) s m args below meth c g A 4 133 [(0, .ref (r 0)), (1, .long (lI (sm4 h0 kn N0)))] [] (wTp g r qn qt qv kn kt kv sc ns tx tn pl) 0 0 Q) : ∀ (n i : Nat), i + n = N0 → J p l e ({ frames := 9, cells := 0, slots := 0, locals := 167 } : Room) s m args below meth c g A 4 97 [(0, .ref (r 0)), (1, .long (lI (sm4 h0 kn i))), (3, .int (iI ((i : Int))))] [] (wTp g r qn qt qv kn kt kv sc ns tx tn pl) 0 0 Q := by
  intro n
  induction n with
  | zero =>
    intro i hi 
    have hi9 : N0 = i := by omega
    subst hi9
    have hkept := hT.1.1.2.2.2.2.2.2.2.2
    refine j_iload_n C 2 dL_sum_97 rfl rfl ?_
    refine j_iconst C dL_sum_98 ?_
    refine j_aload_n C 0 dL_sum_99 rfl rfl ?_
    refine j_bipush C dL_sum_100 (by decide) ?_
    refine j_callSW (As := [.ref (r 0), .int (iI 9)]) (rest := [.int (iI 3), .int (iI ((N0 : Int)))]) C yw_L_value qw443 (w_value l g r qn qt qv kn kt kv sc ns tx tn pl 9 hT (by omega)) (by decide) rfl dL_sum_102 rfl (Nat.le_of_ble_eq_true rfl) (by decide) pf0 rfl (fun r9 w9 hq9 => ?_)
    obtain ⟨rfl, rfl⟩ := hq9
    refine J.to (L1 := [(0, .ref (r 0)), (1, .long (lI (sm4 h0 kn N0))), (3, .int (iI ((N0 : Int))))]) (S1 := [.int (iI (kn 0 6)), .int (iI 3), .int (iI ((N0 : Int)))]) (ws1 := (wTp g r qn qt qv kn kt kv sc ns tx tn pl)) rfl rfl rfl ?_
    refine j_imul C dL_sum_105 ?_
    refine j_icmp_ge (tgt := 133) C (by omega) (by omega) dL_sum_106 (by decide) (fun c106 => ?_) (fun c106 => absurd c106 (by omega))
    refine J.sub (L1 := [(0, .ref (r 0)), (1, .long (lI (sm4 h0 kn N0)))]) [0, 1] rfl ?_
    exact kk
  | succ n ih =>
    intro i hi 
    obtain ⟨hP, hE, hF, hrow, hwt, hht, hlen, hlat, hkept⟩ := id hT.1.1
    refine j_iload_n C 2 dL_sum_97 rfl rfl ?_
    refine j_iconst C dL_sum_98 ?_
    refine j_aload_n C 0 dL_sum_99 rfl rfl ?_
    refine j_bipush C dL_sum_100 (by decide) ?_
    refine j_callSW (As := [.ref (r 0), .int (iI 9)]) (rest := [.int (iI 3), .int (iI ((i : Int)))]) C yw_L_value qw443 (w_value l g r qn qt qv kn kt kv sc ns tx tn pl 9 hT (by omega)) (by decide) rfl dL_sum_102 rfl (Nat.le_of_ble_eq_true rfl) (by decide) pf0 rfl (fun r9 w9 hq9 => ?_)
    obtain ⟨rfl, rfl⟩ := hq9
    refine J.to (L1 := [(0, .ref (r 0)), (1, .long (lI (sm4 h0 kn i))), (3, .int (iI ((i : Int))))]) (S1 := [.int (iI (kn 0 6)), .int (iI 3), .int (iI ((i : Int)))]) (ws1 := (wTp g r qn qt qv kn kt kv sc ns tx tn pl)) rfl rfl rfl ?_
    refine j_imul C dL_sum_105 ?_
    refine j_icmp_ge (tgt := 133) C (by omega) (by omega) dL_sum_106 (by decide) (fun c106 => absurd c106 (by omega)) (fun c106 => ?_)
    refine j_ldc2 (x := 31) C qw442 (by decide) dL_sum_109 ?_
    refine j_lload_n C 1 dL_sum_112 rfl rfl ?_
    refine j_lmul C dL_sum_113 ?_
    refine j_aload_n C 0 dL_sum_114 rfl rfl ?_
    refine j_iload_n C 2 dL_sum_115 rfl rfl ?_
    refine j_iconst C dL_sum_116 ?_
    refine j_idiv C (by omega) (by decide) dL_sum_117 ?_
    refine j_iload_n C 2 dL_sum_118 rfl rfl ?_
    refine j_iconst C dL_sum_119 ?_
    refine j_irem C (by omega) (by omega) dL_sum_120 ?_
    refine J.to (L1 := [(0, .ref (r 0)), (1, .long (lI (sm4 h0 kn i))), (3, .int (iI ((i : Int))))]) (S1 := [.int (iI ((i : Int) % 3)), .int (iI (((i : Int)) / 3)), .ref (r 0), .long (lI (31 * (sm4 h0 kn i)))]) (ws1 := (wTp g r qn qt qv kn kt kv sc ns tx tn pl)) rfl rfl (by rw [tmod_pos (show (0 : Int) ≤ (i : Int) by omega)]) ?_
    refine j_callSW (As := [.ref (r 0), .int (iI (((i : Int)) / 3)), .int (iI ((i : Int) % 3))]) (rest := [.long (lI (31 * (sm4 h0 kn i)))]) C yw_L_entry qw481 (w_entry l g r qn qt qv kn kt kv sc ns tx tn pl (((i : Int)) / 3) ((i : Int) % 3) hT (by omega) (by omega)) (by decide) rfl dL_sum_121 rfl (Nat.le_of_ble_eq_true rfl) (by decide) pf0 rfl (fun r9 w9 hq9 => ?_)
    obtain ⟨rfl, rfl⟩ := hq9
    refine J.to (L1 := [(0, .ref (r 0)), (1, .long (lI (sm4 h0 kn i))), (3, .int (iI ((i : Int))))]) (S1 := [.int (iI ((kn 2 ((kn 0 9 - (((i : Int)) / 3)) % 16 * 3 + ((i : Int) % 3)).toNat))), .long (lI (31 * (sm4 h0 kn i)))]) (ws1 := (wTp g r qn qt qv kn kt kv sc ns tx tn pl)) rfl rfl rfl ?_
    refine j_i2lw C dL_sum_124 ?_
    refine j_ladd C dL_sum_125 ?_
    refine j_lstore_n (L1 := [(1, .long (lI ((31 * (sm4 h0 kn i)) + (w32 (kn 2 ((kn 0 9 - (((i : Int)) / 3)) % 16 * 3 + ((i : Int) % 3)).toNat))))), (0, .ref (r 0)), (3, .int (iI ((i : Int))))]) C dL_sum_126 rfl (by decide) rfl ?_
    refine j_iinc (L1 := [(3, .int (iI (((i : Int)) + 1))), (1, .long (lI ((31 * (sm4 h0 kn i)) + (w32 (kn 2 ((kn 0 9 - (((i : Int)) / 3)) % 16 * 3 + ((i : Int) % 3)).toNat))))), (0, .ref (r 0))]) C 2 dL_sum_127 rfl (by decide) rfl ?_
    refine j_goto (tgt := 97) C dL_sum_130 (by decide) ?_
    refine J.sub (L1 := [(0, .ref (r 0)), (1, .long (lI ((31 * (sm4 h0 kn i)) + (w32 (kn 2 ((kn 0 9 - (((i : Int)) / 3)) % 16 * 3 + ((i : Int) % 3)).toNat))))), (3, .int (iI (((i : Int)) + 1)))]) [2, 1, 0] rfl ?_
    exact ih (i + 1) (by omega)

set_option maxRecDepth 100000 in
set_option maxHeartbeats 4000000 in
theorem c_L_sum (l : Launch) (hl : l.stackTraces = false) (g : Gh) (r : Nat → Nat) (qn qt : Nat → Nat) (qv : Nat → Nat → Nat) (kn kt : Nat → Nat → Int) (kv : Nat → Nat → Nat → Int) (sc : Int) (ns : Nat) (tx : Nat → Int) (tn : Nat) (pl : Int) (hT : TOK kn kv sc ns tx tn) : CT l g yL_sum cL_sum 4 (some FieldType.long) ({ frames := 9, cells := 0, slots := 0, locals := 167 }) [.ref (r 0)] (wTp g r qn qt qv kn kt kv sc ns tx tn pl) (PE (some (.long (lI (sumV kn)))) (wTp g r qn qt qv kn kt kv sc ns tx tn pl)) := by
  refine CT.intro (L0 := [(0, .ref (r 0))]) (own := RL) (by decide) rfl (Nat.le_of_ble_eq_true rfl) rfl ?_
  intro pX eX sX mX argsX belowX methX cX A C hr hlk
  obtain ⟨hP, hE, hF, hrow, hwt, hht, hlen, hlat, hkept⟩ := id hT.1.1
  refine j_ldc2 (x := 17) C qw441 (by decide) dL_sum_0 ?_
  refine j_lstore_n (L1 := [(1, .long (lI 17)), (0, .ref (r 0))]) C dL_sum_3 rfl (by decide) rfl ?_
  refine j_iconst C dL_sum_4 ?_
  refine j_istore_n (L1 := [(3, .int (iI 0)), (1, .long (lI 17)), (0, .ref (r 0))]) C dL_sum_5 rfl (by decide) rfl ?_
  refine J.sub (L1 := [(0, .ref (r 0)), (1, .long (lI 17)), (3, .int (iI 0))]) [2, 1, 0] rfl ?_
  refine J.to (L1 := [(0, .ref (r 0)), (1, .long (lI (sm1 kn 0))), (3, .int (iI (((0 : Nat) : Int))))]) (S1 := []) (ws1 := (wTp g r qn qt qv kn kt kv sc ns tx tn pl)) rfl rfl rfl ?_
  refine lp_sum1 C hl hT ?_ 10 0 rfl
  refine j_iconst C dL_sum_31 ?_
  refine j_istore_n (L1 := [(3, .int (iI 0)), (0, .ref (r 0)), (1, .long (lI (sm1 kn 10)))]) C dL_sum_32 rfl (by decide) rfl ?_
  refine J.sub (L1 := [(0, .ref (r 0)), (1, .long (lI (sm1 kn 10))), (3, .int (iI 0))]) [1, 2, 0] rfl ?_
  refine J.to (L1 := [(0, .ref (r 0)), (1, .long (lI (sm2 (sm1 kn 10) kn 0))), (3, .int (iI (((0 : Nat) : Int))))]) (S1 := []) (ws1 := (wTp g r qn qt qv kn kt kv sc ns tx tn pl)) rfl rfl rfl ?_
  refine lp_sum2 (h0 := sm1 kn 10) C hl hT ?_ 28 0 rfl
  refine j_iconst C dL_sum_65 ?_
  refine j_istore_n (L1 := [(3, .int (iI 0)), (0, .ref (r 0)), (1, .long (lI (sm2 (sm1 kn 10) kn 28)))]) C dL_sum_66 rfl (by decide) rfl ?_
  refine J.sub (L1 := [(0, .ref (r 0)), (1, .long (lI (sm2 (sm1 kn 10) kn 28))), (3, .int (iI 0))]) [1, 2, 0] rfl ?_
  refine J.to (L1 := [(0, .ref (r 0)), (1, .long (lI (sm3 (sm2 (sm1 kn 10) kn 28) kn 0))), (3, .int (iI (((0 : Nat) : Int))))]) (S1 := []) (ws1 := (wTp g r qn qt qv kn kt kv sc ns tx tn pl)) rfl rfl rfl ?_
  refine lp_sum3 (h0 := sm2 (sm1 kn 10) kn 28) C hl hT (P0 := (kn 0 2).toNat) (by omega) ?_ (kn 0 2).toNat 0 (by omega)
  refine j_iconst C dL_sum_95 ?_
  refine j_istore_n (L1 := [(3, .int (iI 0)), (0, .ref (r 0)), (1, .long (lI (sm3 (sm2 (sm1 kn 10) kn 28) kn (kn 0 2).toNat)))]) C dL_sum_96 rfl (by decide) rfl ?_
  refine J.sub (L1 := [(0, .ref (r 0)), (1, .long (lI (sm3 (sm2 (sm1 kn 10) kn 28) kn (kn 0 2).toNat))), (3, .int (iI 0))]) [1, 2, 0] rfl ?_
  refine J.to (L1 := [(0, .ref (r 0)), (1, .long (lI (sm4 (sm3 (sm2 (sm1 kn 10) kn 28) kn (kn 0 2).toNat) kn 0))), (3, .int (iI (((0 : Nat) : Int))))]) (S1 := []) (ws1 := (wTp g r qn qt qv kn kt kv sc ns tx tn pl)) rfl rfl rfl ?_
  refine lp_sum4 (h0 := sm3 (sm2 (sm1 kn 10) kn 28) kn (kn 0 2).toNat) C hl hT (N0 := (3 * (kn 0 6).toNat)) (by omega) ?_ (3 * (kn 0 6).toNat) 0 (by omega)
  refine j_ldc2 (x := 31) C qw442 (by decide) dL_sum_133 ?_
  refine j_ldc2 (x := 31) C qw442 (by decide) dL_sum_136 ?_
  refine j_lload_n C 1 dL_sum_139 rfl rfl ?_
  refine j_lmul C dL_sum_140 ?_
  refine j_aload_n C 0 dL_sum_141 rfl rfl ?_
  refine j_iconst C dL_sum_142 ?_
  refine j_callV (As := [.int (iI 0)]) (rest := [.long (lI (31 * (sm4 (sm3 (sm2 (sm1 kn 10) kn 28) kn (kn 0 2).toNat) kn (3 * (kn 0 6).toNat)))), .long (lI 31)]) C yv_X4_work qw494 (c_X4_work l g r qn qt qv kn kt kv sc ns tx tn pl false hT) (by decide) 0 rfl rfl rfl dL_sum_143 rfl (Nat.le_of_ble_eq_true rfl) (by decide) pf0 rfl (fun r9 w9 hq9 => ?_)
  obtain ⟨rfl, rfl⟩ := hq9
  refine J.to (L1 := [(0, .ref (r 0)), (1, .long (lI (sm4 (sm3 (sm2 (sm1 kn 10) kn 28) kn (kn 0 2).toNat) kn (3 * (kn 0 6).toNat))))]) (S1 := [.long (lI (kn 0 7)), .long (lI (31 * (sm4 (sm3 (sm2 (sm1 kn 10) kn 28) kn (kn 0 2).toNat) kn (3 * (kn 0 6).toNat)))), .long (lI 31)]) (ws1 := (wTp g r qn qt qv kn kt kv sc ns tx tn pl)) rfl rfl rfl ?_
  refine j_ladd C dL_sum_146 ?_
  refine j_lmul C dL_sum_147 ?_
  refine j_aload_n C 0 dL_sum_148 rfl rfl ?_
  refine j_iconst C dL_sum_149 ?_
  refine j_callV (As := [.int (iI 1)]) (rest := [.long (lI (31 * ((31 * (sm4 (sm3 (sm2 (sm1 kn 10) kn 28) kn (kn 0 2).toNat) kn (3 * (kn 0 6).toNat))) + (kn 0 7))))]) C yv_X4_work qw494 (c_X4_work l g r qn qt qv kn kt kv sc ns tx tn pl true hT) (by decide) 0 rfl rfl rfl dL_sum_150 rfl (Nat.le_of_ble_eq_true rfl) (by decide) pf0 rfl (fun r9 w9 hq9 => ?_)
  obtain ⟨rfl, rfl⟩ := hq9
  refine J.to (L1 := [(0, .ref (r 0)), (1, .long (lI (sm4 (sm3 (sm2 (sm1 kn 10) kn 28) kn (kn 0 2).toNat) kn (3 * (kn 0 6).toNat))))]) (S1 := [.long (lI (kn 0 8)), .long (lI (31 * ((31 * (sm4 (sm3 (sm2 (sm1 kn 10) kn 28) kn (kn 0 2).toNat) kn (3 * (kn 0 6).toNat))) + (kn 0 7))))]) (ws1 := (wTp g r qn qt qv kn kt kv sc ns tx tn pl)) rfl rfl rfl ?_
  refine j_ladd C dL_sum_153 ?_
  exact j_lret C hr hlk dL_sum_154 ⟨rfl, rfl⟩ (by decide) (by decide)

set_option maxRecDepth 100000 in
set_option maxHeartbeats 4000000 in
theorem c_L_areLeast_t (l : Launch) (hl : l.stackTraces = false) (g : Gh) (r : Nat → Nat) (qn qt : Nat → Nat) (qv : Nat → Nat → Nat) (kn kt : Nat → Nat → Int) (kv : Nat → Nat → Nat → Int) (sc : Int) (ns : Nat) (tx : Nat → Int) (tn : Nat) (pl : Int) (hT : TOK kn kv sc ns tx tn) (b : Nat) (hb : b < 4) : CT l g yL_areLeast cL_areLeast 5 (some FieldType.boolean) ({ frames := 9, cells := 0, slots := 0, locals := 169 }) [.ref (r 0), .int (iI (((b : Nat) : Int))), .int (iI 1)] (wTp g r qn qt qv kn kt kv sc ns tx tn pl) (PE (some (.int (iI 1))) (wTp g r qn qt qv kn kt kv sc ns tx tn pl)) := by
  refine CT.intro (L0 := [(0, .ref (r 0)), (1, .int (iI (((b : Nat) : Int)))), (2, .int (iI 1))]) (own := RL) (by decide) rfl (Nat.le_of_ble_eq_true rfl) rfl ?_
  intro pX eX sX mX argsX belowX methX cX A C hr hlk
  have hk := hT.1.1
  have hls := lef_spec hk true b
  have hlr := lef_rng kn true b
  have hmr : 0 ≤ msf kn b ∧ msf kn b ≤ 21 := mst_rng hk (b : Int)
  have hw := hk.2.2.2.2.1 b hb
  have hp1 := plf_rng hk (h := true) (b := b) (f := 1000000) (by omega)
  refine j_aload_n C 0 dL_areLeast_0 rfl rfl ?_
  refine j_iload_n C 1 dL_areLeast_1 rfl rfl ?_
  refine j_iload_n C 2 dL_areLeast_2 rfl rfl ?_
  refine j_if_eq (tgt := 10) C (by decide) dL_areLeast_3 (by decide) (fun c3 => absurd c3 (by decide)) (fun c3 => ?_)
  refine j_iconst C dL_areLeast_6 ?_
  refine j_goto (tgt := 11) C dL_areLeast_7 (by decide) ?_
  refine j_callSW (As := [.ref (r 0), .int (iI (((b : Nat) : Int))), .int (iI 4)]) (rest := []) C yw_L_block qw456 (w_block l g r qn qt qv kn kt kv sc ns tx tn pl ((b : Nat) : Int) 4 hT (by omega) (by omega)) (by decide) rfl dL_areLeast_11 rfl (Nat.le_of_ble_eq_true rfl) (by decide) pf0 rfl (fun r9 w9 hq9 => ?_)
  obtain ⟨rfl, rfl⟩ := hq9
  refine J.to (L1 := [(0, .ref (r 0)), (1, .int (iI (((b : Nat) : Int)))), (2, .int (iI 1))]) (S1 := [.int (iI (lef kn true b))]) (ws1 := (wTp g r qn qt qv kn kt kv sc ns tx tn pl)) rfl rfl rfl ?_
  refine j_istore_n (L1 := [(3, .int (iI (lef kn true b))), (0, .ref (r 0)), (1, .int (iI (((b : Nat) : Int)))), (2, .int (iI 1))]) C dL_areLeast_14 rfl (by decide) rfl ?_
  refine j_aload_n C 1 dL_areLeast_15 rfl rfl ?_
  refine j_iload_n C 2 dL_areLeast_16 rfl rfl ?_
  refine j_iconst C dL_areLeast_17 ?_
  refine j_callSW (As := [.ref (r 0), .int (iI (((b : Nat) : Int))), .int (iI 0)]) (rest := []) C yw_L_block qw456 (w_block l g r qn qt qv kn kt kv sc ns tx tn pl ((b : Nat) : Int) 0 hT (by omega) (by omega)) (by decide) rfl dL_areLeast_18 rfl (Nat.le_of_ble_eq_true rfl) (by decide) pf0 rfl (fun r9 w9 hq9 => ?_)
  obtain ⟨rfl, rfl⟩ := hq9
  refine J.to (L1 := [(3, .int (iI (lef kn true b))), (0, .ref (r 0)), (1, .int (iI (((b : Nat) : Int)))), (2, .int (iI 1))]) (S1 := [.int (iI (kn 3 b))]) (ws1 := (wTp g r qn qt qv kn kt kv sc ns tx tn pl)) rfl rfl rfl ?_
  refine j_istore (L1 := [(4, .int (iI (kn 3 b))), (3, .int (iI (lef kn true b))), (0, .ref (r 0)), (1, .int (iI (((b : Nat) : Int)))), (2, .int (iI 1))]) C dL_areLeast_21 (by decide) rfl ?_
  refine j_iload_n C 1 dL_areLeast_23 rfl rfl ?_
  refine j_iconst C dL_areLeast_24 ?_
  refine j_icmp_ne (tgt := 79) C (by omega) (by decide) dL_areLeast_25 (by decide) (fun c25 => ?_) (fun c25 => ?_)
  · refine j_aload_n C 2 dL_areLeast_79 rfl rfl ?_
    refine j_iload_n C 3 dL_areLeast_80 rfl rfl ?_
    refine j_iconst C dL_areLeast_81 ?_
    refine j_callSW (As := [.ref (r 0), .int (iI (((b : Nat) : Int))), .int (iI 2)]) (rest := []) C yw_L_block qw456 (w_block l g r qn qt qv kn kt kv sc ns tx tn pl ((b : Nat) : Int) 2 hT (by omega) (by omega)) (by decide) rfl dL_areLeast_82 rfl (Nat.le_of_ble_eq_true rfl) (by decide) pf0 rfl (fun r9 w9 hq9 => ?_)
    obtain ⟨rfl, rfl⟩ := hq9
    refine J.to (L1 := [(4, .int (iI (kn 3 b))), (3, .int (iI (lef kn true b))), (0, .ref (r 0)), (1, .int (iI (((b : Nat) : Int)))), (2, .int (iI 1))]) (S1 := [.int (iI (msf kn b))]) (ws1 := (wTp g r qn qt qv kn kt kv sc ns tx tn pl)) rfl rfl rfl ?_
    refine j_if_le (tgt := 126) C (by omega) dL_areLeast_85 (by decide) (fun c85 => absurd c85 (by omega)) (fun c85 => ?_)
    refine j_aload_n C 2 dL_areLeast_88 rfl rfl ?_
    refine j_iload_n C 3 dL_areLeast_89 rfl rfl ?_
    refine j_iload_n C 1 dL_areLeast_90 rfl rfl ?_
    refine j_iload_n C 4 dL_areLeast_91 rfl rfl ?_
    refine j_callSW (As := [.ref (r 0), .int (iI (((b : Nat) : Int))), .int (iI (lef kn true b)), .int (iI 1)]) (rest := []) C yw_L_pull qw614 (w_pull l g r qn qt qv kn kt kv sc ns tx tn pl ((b : Nat) : Int) (lef kn true b) true hT (by omega) (by omega)) (by decide) rfl dL_areLeast_92 rfl (Nat.le_of_ble_eq_true rfl) (by decide) pf0 rfl (fun r9 w9 hq9 => ?_)
    obtain ⟨rfl, rfl⟩ := hq9
    refine J.to (L1 := [(4, .int (iI (kn 3 b))), (3, .int (iI (lef kn true b))), (0, .ref (r 0)), (1, .int (iI (((b : Nat) : Int)))), (2, .int (iI 1))]) (S1 := [.long (lI (plf kn true b (lef kn true b)))]) (ws1 := (wTp g r qn qt qv kn kt kv sc ns tx tn pl)) rfl rfl rfl ?_
    have hp2 := plf_rng hk (h := true) (b := b) (f := lef kn true b) (by omega)
    refine j_iload C 0 dL_areLeast_95 rfl ?_
    refine j_i2l C (by omega) dL_areLeast_97 ?_
    refine j_lif_lt (tgt := 126) C (by omega) (by omega) dL_areLeast_98 dL_areLeast_99 (by decide) (fun c98 => absurd c98 (by omega)) (fun c98 => ?_)
    refine j_iload_n C 1 dL_areLeast_102 rfl rfl ?_
    refine j_if_eq (tgt := 122) C (by omega) dL_areLeast_103 (by decide) (fun c103 => ?_) (fun c103 => ?_)
    · refine j_iconst C dL_areLeast_122 ?_
      refine j_goto (tgt := 127) C dL_areLeast_123 (by decide) ?_
      exact j_zret C hr hlk rfl dL_areLeast_127 ⟨rfl, rfl⟩ (by decide) (by decide)
    · refine j_aload_n C 2 dL_areLeast_106 rfl rfl ?_
      refine j_iload_n C 3 dL_areLeast_107 rfl rfl ?_
      refine j_iload_n C 1 dL_areLeast_108 rfl rfl ?_
      refine j_iconst C dL_areLeast_109 ?_
      refine j_isub C dL_areLeast_110 ?_
      refine j_iload_n C 4 dL_areLeast_111 rfl rfl ?_
      refine j_callSW (As := [.ref (r 0), .int (iI (((b : Nat) : Int))), .int (iI ((lef kn true b) - 1)), .int (iI 1)]) (rest := []) C yw_L_pull qw614 (w_pull l g r qn qt qv kn kt kv sc ns tx tn pl ((b : Nat) : Int) ((lef kn true b) - 1) true hT (by omega) (by omega)) (by decide) rfl dL_areLeast_112 rfl (Nat.le_of_ble_eq_true rfl) (by decide) pf0 rfl (fun r9 w9 hq9 => ?_)
      obtain ⟨rfl, rfl⟩ := hq9
      refine J.to (L1 := [(4, .int (iI (kn 3 b))), (3, .int (iI (lef kn true b))), (0, .ref (r 0)), (1, .int (iI (((b : Nat) : Int)))), (2, .int (iI 1))]) (S1 := [.long (lI (plf kn true b ((lef kn true b) - 1)))]) (ws1 := (wTp g r qn qt qv kn kt kv sc ns tx tn pl)) rfl rfl rfl ?_
      have hp3 := plf_rng hk (h := true) (b := b) (f := lef kn true b - 1) (by omega)
      refine j_iload C 0 dL_areLeast_115 rfl ?_
      refine j_i2l C (by omega) dL_areLeast_117 ?_
      refine j_lif_ge (tgt := 126) C (by omega) (by omega) dL_areLeast_118 dL_areLeast_119 (by decide) (fun c118 => absurd c118 (by omega)) (fun c118 => ?_)
      refine j_iconst C dL_areLeast_122 ?_
      refine j_goto (tgt := 127) C dL_areLeast_123 (by decide) ?_
      exact j_zret C hr hlk rfl dL_areLeast_127 ⟨rfl, rfl⟩ (by decide) (by decide)
  · refine j_aload_n C 2 dL_areLeast_28 rfl rfl ?_
    refine j_iload_n C 3 dL_areLeast_29 rfl rfl ?_
    refine j_iconst C dL_areLeast_30 ?_
    refine j_callSW (As := [.ref (r 0), .int (iI (((b : Nat) : Int))), .int (iI 2)]) (rest := []) C yw_L_block qw456 (w_block l g r qn qt qv kn kt kv sc ns tx tn pl ((b : Nat) : Int) 2 hT (by omega) (by omega)) (by decide) rfl dL_areLeast_31 rfl (Nat.le_of_ble_eq_true rfl) (by decide) pf0 rfl (fun r9 w9 hq9 => ?_)
    obtain ⟨rfl, rfl⟩ := hq9
    refine J.to (L1 := [(4, .int (iI (kn 3 b))), (3, .int (iI (lef kn true b))), (0, .ref (r 0)), (1, .int (iI (((b : Nat) : Int)))), (2, .int (iI 1))]) (S1 := [.int (iI (msf kn b))]) (ws1 := (wTp g r qn qt qv kn kt kv sc ns tx tn pl)) rfl rfl rfl ?_
    refine j_if_ne (tgt := 58) C (by omega) dL_areLeast_34 (by decide) (fun c34 => ?_) (fun c34 => ?_)
    · refine j_aload_n C 2 dL_areLeast_58 rfl rfl ?_
      refine j_iload_n C 3 dL_areLeast_59 rfl rfl ?_
      refine j_ldc (x := 1000000) C qw613 (by decide) dL_areLeast_60 ?_
      refine j_iload_n C 4 dL_areLeast_62 rfl rfl ?_
      refine j_callSW (As := [.ref (r 0), .int (iI (((b : Nat) : Int))), .int (iI 1000000), .int (iI 1)]) (rest := []) C yw_L_pull qw614 (w_pull l g r qn qt qv kn kt kv sc ns tx tn pl ((b : Nat) : Int) 1000000 true hT (by omega) (by omega)) (by decide) rfl dL_areLeast_63 rfl (Nat.le_of_ble_eq_true rfl) (by decide) pf0 rfl (fun r9 w9 hq9 => ?_)
      obtain ⟨rfl, rfl⟩ := hq9
      refine J.to (L1 := [(4, .int (iI (kn 3 b))), (3, .int (iI (lef kn true b))), (0, .ref (r 0)), (1, .int (iI (((b : Nat) : Int)))), (2, .int (iI 1))]) (S1 := [.long (lI (plf kn true b 1000000))]) (ws1 := (wTp g r qn qt qv kn kt kv sc ns tx tn pl)) rfl rfl rfl ?_
      refine j_iload C 0 dL_areLeast_66 rfl ?_
      refine j_i2l C (by omega) dL_areLeast_68 ?_
      refine j_lif_ge (tgt := 77) C (by omega) (by omega) dL_areLeast_69 dL_areLeast_70 (by decide) (fun c69 => absurd c69 (by omega)) (fun c69 => ?_)
      refine j_iconst C dL_areLeast_73 ?_
      refine j_goto (tgt := 78) C dL_areLeast_74 (by decide) ?_
      exact j_zret C hr hlk rfl dL_areLeast_78 ⟨rfl, rfl⟩ (by decide) (by decide)
    · refine j_aload_n C 2 dL_areLeast_37 rfl rfl ?_
      refine j_iload_n C 3 dL_areLeast_38 rfl rfl ?_
      refine j_ldc (x := 1000000) C qw613 (by decide) dL_areLeast_39 ?_
      refine j_iload_n C 4 dL_areLeast_41 rfl rfl ?_
      refine j_callSW (As := [.ref (r 0), .int (iI (((b : Nat) : Int))), .int (iI 1000000), .int (iI 1)]) (rest := []) C yw_L_pull qw614 (w_pull l g r qn qt qv kn kt kv sc ns tx tn pl ((b : Nat) : Int) 1000000 true hT (by omega) (by omega)) (by decide) rfl dL_areLeast_42 rfl (Nat.le_of_ble_eq_true rfl) (by decide) pf0 rfl (fun r9 w9 hq9 => ?_)
      obtain ⟨rfl, rfl⟩ := hq9
      refine J.to (L1 := [(4, .int (iI (kn 3 b))), (3, .int (iI (lef kn true b))), (0, .ref (r 0)), (1, .int (iI (((b : Nat) : Int)))), (2, .int (iI 1))]) (S1 := [.long (lI (plf kn true b 1000000))]) (ws1 := (wTp g r qn qt qv kn kt kv sc ns tx tn pl)) rfl rfl rfl ?_
      refine j_lconst (v := 0) C dL_areLeast_45 rfl ?_
      refine j_lif_ne (tgt := 54) C (by omega) (by decide) dL_areLeast_46 dL_areLeast_47 (by decide) (fun c46 => absurd c46 (by omega)) (fun c46 => ?_)
      refine j_iconst C dL_areLeast_50 ?_
      refine j_goto (tgt := 78) C dL_areLeast_51 (by decide) ?_
      exact j_zret C hr hlk rfl dL_areLeast_78 ⟨rfl, rfl⟩ (by decide) (by decide)

set_option maxRecDepth 100000 in
set_option maxHeartbeats 4000000 in
theorem c_L_areLeast_f (l : Launch) (hl : l.stackTraces = false) (g : Gh) (r : Nat → Nat) (qn qt : Nat → Nat) (qv : Nat → Nat → Nat) (kn kt : Nat → Nat → Int) (kv : Nat → Nat → Nat → Int) (sc : Int) (ns : Nat) (tx : Nat → Int) (tn : Nat) (pl : Int) (hT : TOK kn kv sc ns tx tn) (b : Nat) (hb : b < 4) : CT l g yL_areLeast cL_areLeast 5 (some FieldType.boolean) ({ frames := 9, cells := 0, slots := 0, locals := 169 }) [.ref (r 0), .int (iI (((b : Nat) : Int))), .int (iI 0)] (wTp g r qn qt qv kn kt kv sc ns tx tn pl) (PE (some (.int (iI 1))) (wTp g r qn qt qv kn kt kv sc ns tx tn pl)) := by
  refine CT.intro (L0 := [(0, .ref (r 0)), (1, .int (iI (((b : Nat) : Int)))), (2, .int (iI 0))]) (own := RL) (by decide) rfl (Nat.le_of_ble_eq_true rfl) rfl ?_
  intro pX eX sX mX argsX belowX methX cX A C hr hlk
  have hk := hT.1.1
  have hls := lef_spec hk false b
  have hlr := lef_rng kn false b
  have hmr : 0 ≤ msf kn b ∧ msf kn b ≤ 21 := mst_rng hk (b : Int)
  have hw := hk.2.2.2.2.1 b hb
  have hp1 := plf_rng hk (h := false) (b := b) (f := 1000000) (by omega)
  refine j_aload_n C 0 dL_areLeast_0 rfl rfl ?_
  refine j_iload_n C 1 dL_areLeast_1 rfl rfl ?_
  refine j_iload_n C 2 dL_areLeast_2 rfl rfl ?_
  refine j_if_eq (tgt := 10) C (by decide) dL_areLeast_3 (by decide) (fun c3 => ?_) (fun c3 => absurd c3 (by decide))
  refine j_iconst C dL_areLeast_10 ?_
  refine j_callSW (As := [.ref (r 0), .int (iI (((b : Nat) : Int))), .int (iI 5)]) (rest := []) C yw_L_block qw456 (w_block l g r qn qt qv kn kt kv sc ns tx tn pl ((b : Nat) : Int) 5 hT (by omega) (by omega)) (by decide) rfl dL_areLeast_11 rfl (Nat.le_of_ble_eq_true rfl) (by decide) pf0 rfl (fun r9 w9 hq9 => ?_)
  obtain ⟨rfl, rfl⟩ := hq9
  refine J.to (L1 := [(0, .ref (r 0)), (1, .int (iI (((b : Nat) : Int)))), (2, .int (iI 0))]) (S1 := [.int (iI (lef kn false b))]) (ws1 := (wTp g r qn qt qv kn kt kv sc ns tx tn pl)) rfl rfl rfl ?_
  refine j_istore_n (L1 := [(3, .int (iI (lef kn false b))), (0, .ref (r 0)), (1, .int (iI (((b : Nat) : Int)))), (2, .int (iI 0))]) C dL_areLeast_14 rfl (by decide) rfl ?_
  refine j_aload_n C 1 dL_areLeast_15 rfl rfl ?_
  refine j_iload_n C 2 dL_areLeast_16 rfl rfl ?_
  refine j_iconst C dL_areLeast_17 ?_
  refine j_callSW (As := [.ref (r 0), .int (iI (((b : Nat) : Int))), .int (iI 0)]) (rest := []) C yw_L_block qw456 (w_block l g r qn qt qv kn kt kv sc ns tx tn pl ((b : Nat) : Int) 0 hT (by omega) (by omega)) (by decide) rfl dL_areLeast_18 rfl (Nat.le_of_ble_eq_true rfl) (by decide) pf0 rfl (fun r9 w9 hq9 => ?_)
  obtain ⟨rfl, rfl⟩ := hq9
  refine J.to (L1 := [(3, .int (iI (lef kn false b))), (0, .ref (r 0)), (1, .int (iI (((b : Nat) : Int)))), (2, .int (iI 0))]) (S1 := [.int (iI (kn 3 b))]) (ws1 := (wTp g r qn qt qv kn kt kv sc ns tx tn pl)) rfl rfl rfl ?_
  refine j_istore (L1 := [(4, .int (iI (kn 3 b))), (3, .int (iI (lef kn false b))), (0, .ref (r 0)), (1, .int (iI (((b : Nat) : Int)))), (2, .int (iI 0))]) C dL_areLeast_21 (by decide) rfl ?_
  refine j_iload_n C 1 dL_areLeast_23 rfl rfl ?_
  refine j_iconst C dL_areLeast_24 ?_
  refine j_icmp_ne (tgt := 79) C (by omega) (by decide) dL_areLeast_25 (by decide) (fun c25 => ?_) (fun c25 => ?_)
  · refine j_aload_n C 2 dL_areLeast_79 rfl rfl ?_
    refine j_iload_n C 3 dL_areLeast_80 rfl rfl ?_
    refine j_iconst C dL_areLeast_81 ?_
    refine j_callSW (As := [.ref (r 0), .int (iI (((b : Nat) : Int))), .int (iI 2)]) (rest := []) C yw_L_block qw456 (w_block l g r qn qt qv kn kt kv sc ns tx tn pl ((b : Nat) : Int) 2 hT (by omega) (by omega)) (by decide) rfl dL_areLeast_82 rfl (Nat.le_of_ble_eq_true rfl) (by decide) pf0 rfl (fun r9 w9 hq9 => ?_)
    obtain ⟨rfl, rfl⟩ := hq9
    refine J.to (L1 := [(4, .int (iI (kn 3 b))), (3, .int (iI (lef kn false b))), (0, .ref (r 0)), (1, .int (iI (((b : Nat) : Int)))), (2, .int (iI 0))]) (S1 := [.int (iI (msf kn b))]) (ws1 := (wTp g r qn qt qv kn kt kv sc ns tx tn pl)) rfl rfl rfl ?_
    refine j_if_le (tgt := 126) C (by omega) dL_areLeast_85 (by decide) (fun c85 => absurd c85 (by omega)) (fun c85 => ?_)
    refine j_aload_n C 2 dL_areLeast_88 rfl rfl ?_
    refine j_iload_n C 3 dL_areLeast_89 rfl rfl ?_
    refine j_iload_n C 1 dL_areLeast_90 rfl rfl ?_
    refine j_iload_n C 4 dL_areLeast_91 rfl rfl ?_
    refine j_callSW (As := [.ref (r 0), .int (iI (((b : Nat) : Int))), .int (iI (lef kn false b)), .int (iI 0)]) (rest := []) C yw_L_pull qw614 (w_pull l g r qn qt qv kn kt kv sc ns tx tn pl ((b : Nat) : Int) (lef kn false b) false hT (by omega) (by omega)) (by decide) rfl dL_areLeast_92 rfl (Nat.le_of_ble_eq_true rfl) (by decide) pf0 rfl (fun r9 w9 hq9 => ?_)
    obtain ⟨rfl, rfl⟩ := hq9
    refine J.to (L1 := [(4, .int (iI (kn 3 b))), (3, .int (iI (lef kn false b))), (0, .ref (r 0)), (1, .int (iI (((b : Nat) : Int)))), (2, .int (iI 0))]) (S1 := [.long (lI (plf kn false b (lef kn false b)))]) (ws1 := (wTp g r qn qt qv kn kt kv sc ns tx tn pl)) rfl rfl rfl ?_
    have hp2 := plf_rng hk (h := false) (b := b) (f := lef kn false b) (by omega)
    refine j_iload C 0 dL_areLeast_95 rfl ?_
    refine j_i2l C (by omega) dL_areLeast_97 ?_
    refine j_lif_lt (tgt := 126) C (by omega) (by omega) dL_areLeast_98 dL_areLeast_99 (by decide) (fun c98 => absurd c98 (by omega)) (fun c98 => ?_)
    refine j_iload_n C 1 dL_areLeast_102 rfl rfl ?_
    refine j_if_eq (tgt := 122) C (by omega) dL_areLeast_103 (by decide) (fun c103 => ?_) (fun c103 => ?_)
    · refine j_iconst C dL_areLeast_122 ?_
      refine j_goto (tgt := 127) C dL_areLeast_123 (by decide) ?_
      exact j_zret C hr hlk rfl dL_areLeast_127 ⟨rfl, rfl⟩ (by decide) (by decide)
    · refine j_aload_n C 2 dL_areLeast_106 rfl rfl ?_
      refine j_iload_n C 3 dL_areLeast_107 rfl rfl ?_
      refine j_iload_n C 1 dL_areLeast_108 rfl rfl ?_
      refine j_iconst C dL_areLeast_109 ?_
      refine j_isub C dL_areLeast_110 ?_
      refine j_iload_n C 4 dL_areLeast_111 rfl rfl ?_
      refine j_callSW (As := [.ref (r 0), .int (iI (((b : Nat) : Int))), .int (iI ((lef kn false b) - 1)), .int (iI 0)]) (rest := []) C yw_L_pull qw614 (w_pull l g r qn qt qv kn kt kv sc ns tx tn pl ((b : Nat) : Int) ((lef kn false b) - 1) false hT (by omega) (by omega)) (by decide) rfl dL_areLeast_112 rfl (Nat.le_of_ble_eq_true rfl) (by decide) pf0 rfl (fun r9 w9 hq9 => ?_)
      obtain ⟨rfl, rfl⟩ := hq9
      refine J.to (L1 := [(4, .int (iI (kn 3 b))), (3, .int (iI (lef kn false b))), (0, .ref (r 0)), (1, .int (iI (((b : Nat) : Int)))), (2, .int (iI 0))]) (S1 := [.long (lI (plf kn false b ((lef kn false b) - 1)))]) (ws1 := (wTp g r qn qt qv kn kt kv sc ns tx tn pl)) rfl rfl rfl ?_
      have hp3 := plf_rng hk (h := false) (b := b) (f := lef kn false b - 1) (by omega)
      refine j_iload C 0 dL_areLeast_115 rfl ?_
      refine j_i2l C (by omega) dL_areLeast_117 ?_
      refine j_lif_ge (tgt := 126) C (by omega) (by omega) dL_areLeast_118 dL_areLeast_119 (by decide) (fun c118 => absurd c118 (by omega)) (fun c118 => ?_)
      refine j_iconst C dL_areLeast_122 ?_
      refine j_goto (tgt := 127) C dL_areLeast_123 (by decide) ?_
      exact j_zret C hr hlk rfl dL_areLeast_127 ⟨rfl, rfl⟩ (by decide) (by decide)
  · refine j_aload_n C 2 dL_areLeast_28 rfl rfl ?_
    refine j_iload_n C 3 dL_areLeast_29 rfl rfl ?_
    refine j_iconst C dL_areLeast_30 ?_
    refine j_callSW (As := [.ref (r 0), .int (iI (((b : Nat) : Int))), .int (iI 2)]) (rest := []) C yw_L_block qw456 (w_block l g r qn qt qv kn kt kv sc ns tx tn pl ((b : Nat) : Int) 2 hT (by omega) (by omega)) (by decide) rfl dL_areLeast_31 rfl (Nat.le_of_ble_eq_true rfl) (by decide) pf0 rfl (fun r9 w9 hq9 => ?_)
    obtain ⟨rfl, rfl⟩ := hq9
    refine J.to (L1 := [(4, .int (iI (kn 3 b))), (3, .int (iI (lef kn false b))), (0, .ref (r 0)), (1, .int (iI (((b : Nat) : Int)))), (2, .int (iI 0))]) (S1 := [.int (iI (msf kn b))]) (ws1 := (wTp g r qn qt qv kn kt kv sc ns tx tn pl)) rfl rfl rfl ?_
    refine j_if_ne (tgt := 58) C (by omega) dL_areLeast_34 (by decide) (fun c34 => ?_) (fun c34 => ?_)
    · refine j_aload_n C 2 dL_areLeast_58 rfl rfl ?_
      refine j_iload_n C 3 dL_areLeast_59 rfl rfl ?_
      refine j_ldc (x := 1000000) C qw613 (by decide) dL_areLeast_60 ?_
      refine j_iload_n C 4 dL_areLeast_62 rfl rfl ?_
      refine j_callSW (As := [.ref (r 0), .int (iI (((b : Nat) : Int))), .int (iI 1000000), .int (iI 0)]) (rest := []) C yw_L_pull qw614 (w_pull l g r qn qt qv kn kt kv sc ns tx tn pl ((b : Nat) : Int) 1000000 false hT (by omega) (by omega)) (by decide) rfl dL_areLeast_63 rfl (Nat.le_of_ble_eq_true rfl) (by decide) pf0 rfl (fun r9 w9 hq9 => ?_)
      obtain ⟨rfl, rfl⟩ := hq9
      refine J.to (L1 := [(4, .int (iI (kn 3 b))), (3, .int (iI (lef kn false b))), (0, .ref (r 0)), (1, .int (iI (((b : Nat) : Int)))), (2, .int (iI 0))]) (S1 := [.long (lI (plf kn false b 1000000))]) (ws1 := (wTp g r qn qt qv kn kt kv sc ns tx tn pl)) rfl rfl rfl ?_
      refine j_iload C 0 dL_areLeast_66 rfl ?_
      refine j_i2l C (by omega) dL_areLeast_68 ?_
      refine j_lif_ge (tgt := 77) C (by omega) (by omega) dL_areLeast_69 dL_areLeast_70 (by decide) (fun c69 => absurd c69 (by omega)) (fun c69 => ?_)
      refine j_iconst C dL_areLeast_73 ?_
      refine j_goto (tgt := 78) C dL_areLeast_74 (by decide) ?_
      exact j_zret C hr hlk rfl dL_areLeast_78 ⟨rfl, rfl⟩ (by decide) (by decide)
    · refine j_aload_n C 2 dL_areLeast_37 rfl rfl ?_
      refine j_iload_n C 3 dL_areLeast_38 rfl rfl ?_
      refine j_ldc (x := 1000000) C qw613 (by decide) dL_areLeast_39 ?_
      refine j_iload_n C 4 dL_areLeast_41 rfl rfl ?_
      refine j_callSW (As := [.ref (r 0), .int (iI (((b : Nat) : Int))), .int (iI 1000000), .int (iI 0)]) (rest := []) C yw_L_pull qw614 (w_pull l g r qn qt qv kn kt kv sc ns tx tn pl ((b : Nat) : Int) 1000000 false hT (by omega) (by omega)) (by decide) rfl dL_areLeast_42 rfl (Nat.le_of_ble_eq_true rfl) (by decide) pf0 rfl (fun r9 w9 hq9 => ?_)
      obtain ⟨rfl, rfl⟩ := hq9
      refine J.to (L1 := [(4, .int (iI (kn 3 b))), (3, .int (iI (lef kn false b))), (0, .ref (r 0)), (1, .int (iI (((b : Nat) : Int)))), (2, .int (iI 0))]) (S1 := [.long (lI (plf kn false b 1000000))]) (ws1 := (wTp g r qn qt qv kn kt kv sc ns tx tn pl)) rfl rfl rfl ?_
      refine j_lconst (v := 0) C dL_areLeast_45 rfl ?_
      refine j_lif_ne (tgt := 54) C (by omega) (by decide) dL_areLeast_46 dL_areLeast_47 (by decide) (fun c46 => absurd c46 (by omega)) (fun c46 => ?_)
      refine j_iconst C dL_areLeast_50 ?_
      refine j_goto (tgt := 78) C dL_areLeast_51 (by decide) ?_
      exact j_zret C hr hlk rfl dL_areLeast_78 ⟨rfl, rfl⟩ (by decide) (by decide)

