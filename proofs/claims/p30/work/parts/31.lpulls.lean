/-! the law: arePulls -/
set_option maxRecDepth 100000 in
set_option maxHeartbeats 4000000 in
theorem lp_pulls_t {p : Program} {l : Launch} {e : Env} {s : State} {m : MethodId} {args : Array Value} {below : List Frame} {meth : Method} {c : Code} {A : Nat → Prop} {Q : State → Prop} {g : Gh} {r : Nat → Nat} {qn qt : Nat → Nat} {qv : Nat → Nat → Nat} {kn : Nat → Nat → Int} {kv : Nat → Nat → Nat → Int} {sc : Int} {ns : Nat} {tx : Nat → Int} {tn : Nat} {pl : Int} {kt : Nat → Nat → Int} (C : Cx p g s m args c cL_arePulls 16 RL A) (hl : l.stackTraces = false) (hT : TOK kn kv sc ns tx tn) {b : Nat} (hb : b < 4) {f : Int} (hf : 0 ≤ f ∧ f < 5000) {N0 : Nat} (hN0 : passF kn = (N0 : Int)) (kk : J p l e ({ frames := 9, cells := 0, slots := 0, locals := 169 } : Room) s m args below meth c g A 16 192 [(0, .ref (r 0)), (1, .int (iI f)), (2, .int (iI ((b : Int)))), (3, .int (iI 1)), (9, .int (iI 1)), (10, .long (lI (pps kn true b f N0)))] [] (wTp g r qn qt qv kn kt kv sc ns tx tn pl) 0 0 Q) : ∀ (n i : Nat), i + n = N0 → J p l e ({ frames := 9, cells := 0, slots := 0, locals := 169 } : Room) s m args below meth c g A 16 51 [(0, .ref (r 0)), (1, .int (iI f)), (2, .int (iI ((b : Int)))), (3, .int (iI 1)), (4, .int (iI (kn 0 2))), (5, .int (iI (kn 0 3))), (6, .int (iI (kn 0 1))), (7, .long (lI (fbn (kn 0 1) true f i))), (9, .int (iI 1)), (10, .long (lI (pps kn true b f i))), (12, .int (iI ((i : Int) + 1)))] [] (wTp g r qn qt qv kn kt kv sc ns tx tn pl) 0 0 Q := by
  intro n
  induction n with
  | zero =>
    intro i hi 
    have hi9 : N0 = i := by omega
    subst hi9
    have hpf := passF_r hT.1.1
    refine j_iload C 10 dL_arePulls_51 rfl ?_
    refine j_aload_n C 0 dL_arePulls_53 rfl rfl ?_
    refine j_iconst C dL_arePulls_54 ?_
    refine j_callSW (As := [.ref (r 0), .int (iI 5)]) (rest := [.int (iI ((N0 : Int) + 1))]) C yw_L_value qw443 (w_value l g r qn qt qv kn kt kv sc ns tx tn pl 5 hT (by omega)) (by decide) rfl dL_arePulls_55 rfl (Nat.le_of_ble_eq_true rfl) (by decide) pf0 rfl (fun r9 w9 hq9 => ?_)
    obtain ⟨rfl, rfl⟩ := hq9
    refine J.to (L1 := [(0, .ref (r 0)), (1, .int (iI f)), (2, .int (iI ((b : Int)))), (3, .int (iI 1)), (4, .int (iI (kn 0 2))), (5, .int (iI (kn 0 3))), (6, .int (iI (kn 0 1))), (7, .long (lI (fbn (kn 0 1) true f N0))), (9, .int (iI 1)), (10, .long (lI (pps kn true b f N0))), (12, .int (iI ((N0 : Int) + 1)))]) (S1 := [.int (iI (passF kn)), .int (iI ((N0 : Int) + 1))]) (ws1 := (wTp g r qn qt qv kn kt kv sc ns tx tn pl)) rfl rfl rfl ?_
    refine j_icmp_gt (tgt := 192) C (by omega) (by omega) dL_arePulls_58 (by decide) (fun c58 => ?_) (fun c58 => absurd c58 (by omega))
    refine J.sub (L1 := [(0, .ref (r 0)), (1, .int (iI f)), (2, .int (iI ((b : Int)))), (3, .int (iI 1)), (9, .int (iI 1)), (10, .long (lI (pps kn true b f N0)))]) [0, 1, 2, 3, 8, 9] rfl ?_
    exact kk
  | succ n ih =>
    intro i hi 
    obtain ⟨hP, hE, hF, hrow, hwt, hht, hlen, hlat, hkept⟩ := id hT.1.1
    have hk := hT.1.1
    have hpf := passF_r hk
    have ht := fbn_le (F := kn 0 1) (h := true) (t := f) (n := i) hk.2.2.1 (by omega) (by omega)
    have hm := mulF ht.1 hk.2.2.1
    refine j_iload C 10 dL_arePulls_51 rfl ?_
    refine j_aload_n C 0 dL_arePulls_53 rfl rfl ?_
    refine j_iconst C dL_arePulls_54 ?_
    refine j_callSW (As := [.ref (r 0), .int (iI 5)]) (rest := [.int (iI ((i : Int) + 1))]) C yw_L_value qw443 (w_value l g r qn qt qv kn kt kv sc ns tx tn pl 5 hT (by omega)) (by decide) rfl dL_arePulls_55 rfl (Nat.le_of_ble_eq_true rfl) (by decide) pf0 rfl (fun r9 w9 hq9 => ?_)
    obtain ⟨rfl, rfl⟩ := hq9
    refine J.to (L1 := [(0, .ref (r 0)), (1, .int (iI f)), (2, .int (iI ((b : Int)))), (3, .int (iI 1)), (4, .int (iI (kn 0 2))), (5, .int (iI (kn 0 3))), (6, .int (iI (kn 0 1))), (7, .long (lI (fbn (kn 0 1) true f i))), (9, .int (iI 1)), (10, .long (lI (pps kn true b f i))), (12, .int (iI ((i : Int) + 1)))]) (S1 := [.int (iI (passF kn)), .int (iI ((i : Int) + 1))]) (ws1 := (wTp g r qn qt qv kn kt kv sc ns tx tn pl)) rfl rfl rfl ?_
    refine j_icmp_gt (tgt := 192) C (by omega) (by omega) dL_arePulls_58 (by decide) (fun c58 => absurd c58 (by omega)) (fun c58 => ?_)
    refine j_iload C 8 dL_arePulls_61 rfl ?_
    refine j_if_eq (tgt := 192) C (by decide) dL_arePulls_63 (by decide) (fun c63 => absurd c63 (by decide)) (fun c63 => ?_)
    refine j_aload_n C 0 dL_arePulls_66 rfl rfl ?_
    refine j_iload_n C 1 dL_arePulls_67 rfl rfl ?_
    refine j_iload C 10 dL_arePulls_68 rfl ?_
    refine j_iload_n C 3 dL_arePulls_70 rfl rfl ?_
    refine j_callSW (As := [.ref (r 0), .int (iI f), .int (iI ((i : Int) + 1)), .int (iI 1)]) (rest := []) C yw_L_force qw595 (w_force l g r qn qt qv kn kt kv sc ns tx tn pl f ((i : Int) + 1) true hT (by omega) (by omega)) (by decide) rfl dL_arePulls_71 rfl (Nat.le_of_ble_eq_true rfl) (by decide) pf0 rfl (fun r9 w9 hq9 => ?_)
    obtain ⟨rfl, rfl⟩ := hq9
    refine J.to (L1 := [(0, .ref (r 0)), (1, .int (iI f)), (2, .int (iI ((b : Int)))), (3, .int (iI 1)), (4, .int (iI (kn 0 2))), (5, .int (iI (kn 0 3))), (6, .int (iI (kn 0 1))), (7, .long (lI (fbn (kn 0 1) true f i))), (9, .int (iI 1)), (10, .long (lI (pps kn true b f i))), (12, .int (iI ((i : Int) + 1)))]) (S1 := [.long (lI (fbn (kn 0 1) true f (i + 1)))]) (ws1 := (wTp g r qn qt qv kn kt kv sc ns tx tn pl)) rfl rfl rfl ?_
    refine j_lstore (L1 := [(13, .long (lI (fbn (kn 0 1) true f (i + 1)))), (0, .ref (r 0)), (1, .int (iI f)), (2, .int (iI ((b : Int)))), (3, .int (iI 1)), (4, .int (iI (kn 0 2))), (5, .int (iI (kn 0 3))), (6, .int (iI (kn 0 1))), (7, .long (lI (fbn (kn 0 1) true f i))), (9, .int (iI 1)), (10, .long (lI (pps kn true b f i))), (12, .int (iI ((i : Int) + 1)))]) C dL_arePulls_74 (by decide) rfl ?_
    refine j_lload C 0 dL_arePulls_76 rfl ?_
    refine j_iload_n C 4 dL_arePulls_78 rfl rfl ?_
    refine j_if_eq (tgt := 98) C (by decide) dL_arePulls_79 (by decide) (fun c79 => absurd c79 (by decide)) (fun c79 => ?_)
    refine j_lload C 8 dL_arePulls_82 rfl ?_
    refine j_lload C 8 dL_arePulls_84 rfl ?_
    refine j_iload C 7 dL_arePulls_86 rfl ?_
    refine j_i2l C (by omega) dL_arePulls_88 ?_
    refine j_lmul C dL_arePulls_89 ?_
    refine j_ldc2 (x := 100) C qw626 (by decide) dL_arePulls_90 ?_
    refine j_ldiv C (by omega) (by decide) dL_arePulls_93 ?_
    refine j_lsub C dL_arePulls_94 ?_
    refine j_goto (tgt := 111) C dL_arePulls_95 (by decide) ?_
    refine j_lsameF (tgt := 119) C (rfl) dL_arePulls_111 dL_arePulls_112 (by decide) ?_
    refine j_iconst C dL_arePulls_115 ?_
    refine j_goto (tgt := 120) C dL_arePulls_116 (by decide) ?_
    refine j_istore (L1 := [(9, .int (iI 1)), (13, .long (lI (fbn (kn 0 1) true f (i + 1)))), (0, .ref (r 0)), (1, .int (iI f)), (2, .int (iI ((b : Int)))), (3, .int (iI 1)), (4, .int (iI (kn 0 2))), (5, .int (iI (kn 0 3))), (6, .int (iI (kn 0 1))), (7, .long (lI (fbn (kn 0 1) true f i))), (10, .long (lI (pps kn true b f i))), (12, .int (iI ((i : Int) + 1)))]) C dL_arePulls_120 (by decide) rfl ?_
    refine j_iload C 11 dL_arePulls_122 rfl ?_
    refine j_iconst C dL_arePulls_124 ?_
    refine j_iload C 6 dL_arePulls_125 rfl ?_
    refine j_imul C dL_arePulls_127 ?_
    refine j_icmp_gt (tgt := 153) C (by omega) (by omega) dL_arePulls_128 (by decide) (fun c128 => ?_) (fun c128 => ?_)
    · refine j_iload C 7 dL_arePulls_153 rfl ?_
      refine j_iload_n C 4 dL_arePulls_155 rfl rfl ?_
      refine j_icmp_ne (tgt := 163) C (by omega) (by omega) dL_arePulls_156 (by decide) (fun c156 => ?_) (fun c156 => ?_)
      · refine j_iconst C dL_arePulls_163 ?_
        refine j_istore (L1 := [(15, .int (iI 0)), (9, .int (iI 1)), (13, .long (lI (fbn (kn 0 1) true f (i + 1)))), (0, .ref (r 0)), (1, .int (iI f)), (2, .int (iI ((b : Int)))), (3, .int (iI 1)), (4, .int (iI (kn 0 2))), (5, .int (iI (kn 0 3))), (6, .int (iI (kn 0 1))), (7, .long (lI (fbn (kn 0 1) true f i))), (10, .long (lI (pps kn true b f i))), (12, .int (iI ((i : Int) + 1)))]) C dL_arePulls_164 (by decide) rfl ?_
        refine j_lload C 11 dL_arePulls_166 rfl ?_
        refine j_iload C 0 dL_arePulls_168 rfl ?_
        refine j_if_eq (tgt := 178) C (by decide) dL_arePulls_170 (by decide) (fun c170 => ?_) (fun c170 => absurd c170 (by decide))
        refine j_lconst (v := 0) C dL_arePulls_178 rfl ?_
        refine j_ladd C dL_arePulls_179 ?_
        refine J.to (L1 := [(15, .int (iI 0)), (9, .int (iI 1)), (13, .long (lI (fbn (kn 0 1) true f (i + 1)))), (0, .ref (r 0)), (1, .int (iI f)), (2, .int (iI ((b : Int)))), (3, .int (iI 1)), (4, .int (iI (kn 0 2))), (5, .int (iI (kn 0 3))), (6, .int (iI (kn 0 1))), (7, .long (lI (fbn (kn 0 1) true f i))), (10, .long (lI (pps kn true b f i))), (12, .int (iI ((i : Int) + 1)))]) (S1 := [.long (lI (pps kn true b f (i + 1)))]) (ws1 := (wTp g r qn qt qv kn kt kv sc ns tx tn pl)) rfl rfl (congrArg (fun x9 : Int => ([.long (lI x9)] : List Value)) (show ((pps kn true b f i) + 0 : Int) = pps kn true b f (i + 1) from (pps_f (fun h9 => c156 ((its_2 (by omega)).mp h9))))) ?_
        refine j_lstore (L1 := [(10, .long (lI (pps kn true b f (i + 1)))), (15, .int (iI 0)), (9, .int (iI 1)), (13, .long (lI (fbn (kn 0 1) true f (i + 1)))), (0, .ref (r 0)), (1, .int (iI f)), (2, .int (iI ((b : Int)))), (3, .int (iI 1)), (4, .int (iI (kn 0 2))), (5, .int (iI (kn 0 3))), (6, .int (iI (kn 0 1))), (7, .long (lI (fbn (kn 0 1) true f i))), (12, .int (iI ((i : Int) + 1)))]) C dL_arePulls_180 (by decide) rfl ?_
        refine j_lload C 3 dL_arePulls_182 rfl ?_
        refine j_lstore (L1 := [(7, .long (lI (fbn (kn 0 1) true f (i + 1)))), (10, .long (lI (pps kn true b f (i + 1)))), (15, .int (iI 0)), (9, .int (iI 1)), (13, .long (lI (fbn (kn 0 1) true f (i + 1)))), (0, .ref (r 0)), (1, .int (iI f)), (2, .int (iI ((b : Int)))), (3, .int (iI 1)), (4, .int (iI (kn 0 2))), (5, .int (iI (kn 0 3))), (6, .int (iI (kn 0 1))), (12, .int (iI ((i : Int) + 1)))]) C dL_arePulls_184 (by decide) rfl ?_
        refine j_iinc (L1 := [(12, .int (iI (((i : Int) + 1) + 1))), (7, .long (lI (fbn (kn 0 1) true f (i + 1)))), (10, .long (lI (pps kn true b f (i + 1)))), (15, .int (iI 0)), (9, .int (iI 1)), (13, .long (lI (fbn (kn 0 1) true f (i + 1)))), (0, .ref (r 0)), (1, .int (iI f)), (2, .int (iI ((b : Int)))), (3, .int (iI 1)), (4, .int (iI (kn 0 2))), (5, .int (iI (kn 0 3))), (6, .int (iI (kn 0 1)))]) C 12 dL_arePulls_186 rfl (by decide) rfl ?_
        refine j_goto (tgt := 51) C dL_arePulls_189 (by decide) ?_
        refine J.sub (L1 := [(0, .ref (r 0)), (1, .int (iI f)), (2, .int (iI ((b : Int)))), (3, .int (iI 1)), (4, .int (iI (kn 0 2))), (5, .int (iI (kn 0 3))), (6, .int (iI (kn 0 1))), (7, .long (lI (fbn (kn 0 1) true f (i + 1)))), (9, .int (iI 1)), (10, .long (lI (pps kn true b f (i + 1)))), (12, .int (iI (((i : Int) + 1) + 1)))]) [6, 7, 8, 9, 10, 11, 12, 1, 4, 2, 0] rfl ?_
        exact ih (i + 1) (by omega)
      · refine j_iconst C dL_arePulls_159 ?_
        refine j_goto (tgt := 164) C dL_arePulls_160 (by decide) ?_
        refine j_istore (L1 := [(15, .int (iI 1)), (9, .int (iI 1)), (13, .long (lI (fbn (kn 0 1) true f (i + 1)))), (0, .ref (r 0)), (1, .int (iI f)), (2, .int (iI ((b : Int)))), (3, .int (iI 1)), (4, .int (iI (kn 0 2))), (5, .int (iI (kn 0 3))), (6, .int (iI (kn 0 1))), (7, .long (lI (fbn (kn 0 1) true f i))), (10, .long (lI (pps kn true b f i))), (12, .int (iI ((i : Int) + 1)))]) C dL_arePulls_164 (by decide) rfl ?_
        refine j_lload C 11 dL_arePulls_166 rfl ?_
        refine j_iload C 0 dL_arePulls_168 rfl ?_
        refine j_if_eq (tgt := 178) C (by decide) dL_arePulls_170 (by decide) (fun c170 => absurd c170 (by decide)) (fun c170 => ?_)
        refine j_lload C 2 dL_arePulls_173 rfl ?_
        refine j_goto (tgt := 179) C dL_arePulls_175 (by decide) ?_
        refine j_ladd C dL_arePulls_179 ?_
        refine J.to (L1 := [(15, .int (iI 1)), (9, .int (iI 1)), (13, .long (lI (fbn (kn 0 1) true f (i + 1)))), (0, .ref (r 0)), (1, .int (iI f)), (2, .int (iI ((b : Int)))), (3, .int (iI 1)), (4, .int (iI (kn 0 2))), (5, .int (iI (kn 0 3))), (6, .int (iI (kn 0 1))), (7, .long (lI (fbn (kn 0 1) true f i))), (10, .long (lI (pps kn true b f i))), (12, .int (iI ((i : Int) + 1)))]) (S1 := [.long (lI (pps kn true b f (i + 1)))]) (ws1 := (wTp g r qn qt qv kn kt kv sc ns tx tn pl)) rfl rfl (congrArg (fun x9 : Int => ([.long (lI x9)] : List Value)) (show ((pps kn true b f i) + (fbn (kn 0 1) true f (i + 1)) : Int) = pps kn true b f (i + 1) from (pps_t ((its_2 (by omega)).mpr c156)))) ?_
        refine j_lstore (L1 := [(10, .long (lI (pps kn true b f (i + 1)))), (15, .int (iI 1)), (9, .int (iI 1)), (13, .long (lI (fbn (kn 0 1) true f (i + 1)))), (0, .ref (r 0)), (1, .int (iI f)), (2, .int (iI ((b : Int)))), (3, .int (iI 1)), (4, .int (iI (kn 0 2))), (5, .int (iI (kn 0 3))), (6, .int (iI (kn 0 1))), (7, .long (lI (fbn (kn 0 1) true f i))), (12, .int (iI ((i : Int) + 1)))]) C dL_arePulls_180 (by decide) rfl ?_
        refine j_lload C 3 dL_arePulls_182 rfl ?_
        refine j_lstore (L1 := [(7, .long (lI (fbn (kn 0 1) true f (i + 1)))), (10, .long (lI (pps kn true b f (i + 1)))), (15, .int (iI 1)), (9, .int (iI 1)), (13, .long (lI (fbn (kn 0 1) true f (i + 1)))), (0, .ref (r 0)), (1, .int (iI f)), (2, .int (iI ((b : Int)))), (3, .int (iI 1)), (4, .int (iI (kn 0 2))), (5, .int (iI (kn 0 3))), (6, .int (iI (kn 0 1))), (12, .int (iI ((i : Int) + 1)))]) C dL_arePulls_184 (by decide) rfl ?_
        refine j_iinc (L1 := [(12, .int (iI (((i : Int) + 1) + 1))), (7, .long (lI (fbn (kn 0 1) true f (i + 1)))), (10, .long (lI (pps kn true b f (i + 1)))), (15, .int (iI 1)), (9, .int (iI 1)), (13, .long (lI (fbn (kn 0 1) true f (i + 1)))), (0, .ref (r 0)), (1, .int (iI f)), (2, .int (iI ((b : Int)))), (3, .int (iI 1)), (4, .int (iI (kn 0 2))), (5, .int (iI (kn 0 3))), (6, .int (iI (kn 0 1)))]) C 12 dL_arePulls_186 rfl (by decide) rfl ?_
        refine j_goto (tgt := 51) C dL_arePulls_189 (by decide) ?_
        refine J.sub (L1 := [(0, .ref (r 0)), (1, .int (iI f)), (2, .int (iI ((b : Int)))), (3, .int (iI 1)), (4, .int (iI (kn 0 2))), (5, .int (iI (kn 0 3))), (6, .int (iI (kn 0 1))), (7, .long (lI (fbn (kn 0 1) true f (i + 1)))), (9, .int (iI 1)), (10, .long (lI (pps kn true b f (i + 1)))), (12, .int (iI (((i : Int) + 1) + 1)))]) [6, 7, 8, 9, 10, 11, 12, 1, 4, 2, 0] rfl ?_
        exact ih (i + 1) (by omega)
    · refine j_aload_n C 2 dL_arePulls_131 rfl rfl ?_
      refine j_iload C 11 dL_arePulls_132 rfl ?_
      refine j_iconst C dL_arePulls_134 ?_
      refine j_isub C dL_arePulls_135 ?_
      refine j_iconst C dL_arePulls_136 ?_
      refine j_idiv C (by omega) (by decide) dL_arePulls_137 ?_
      refine j_callSW (As := [.ref (r 0), .int (iI ((((i : Int) + 1) - 1) / 2))]) (rest := []) C yw_L_pulley qw468 (w_pulley l g r qn qt qv kn kt kv sc ns tx tn pl ((((i : Int) + 1) - 1) / 2) hT (by omega)) (by decide) rfl dL_arePulls_138 rfl (Nat.le_of_ble_eq_true rfl) (by decide) pf0 rfl (fun r9 w9 hq9 => ?_)
      obtain ⟨rfl, rfl⟩ := hq9
      refine J.to (L1 := [(9, .int (iI 1)), (13, .long (lI (fbn (kn 0 1) true f (i + 1)))), (0, .ref (r 0)), (1, .int (iI f)), (2, .int (iI ((b : Int)))), (3, .int (iI 1)), (4, .int (iI (kn 0 2))), (5, .int (iI (kn 0 3))), (6, .int (iI (kn 0 1))), (7, .long (lI (fbn (kn 0 1) true f i))), (10, .long (lI (pps kn true b f i))), (12, .int (iI ((i : Int) + 1)))]) (S1 := [.int (iI (kn 1 (((((i : Int) + 1) - 1) / 2).toNat)))]) (ws1 := (wTp g r qn qt qv kn kt kv sc ns tx tn pl)) rfl rfl rfl ?_
      have hrw := hrow (i / 2) (by omega)
      refine J.to (L1 := [(9, .int (iI 1)), (13, .long (lI (fbn (kn 0 1) true f (i + 1)))), (0, .ref (r 0)), (1, .int (iI f)), (2, .int (iI ((b : Int)))), (3, .int (iI 1)), (4, .int (iI (kn 0 2))), (5, .int (iI (kn 0 3))), (6, .int (iI (kn 0 1))), (7, .long (lI (fbn (kn 0 1) true f i))), (10, .long (lI (pps kn true b f i))), (12, .int (iI ((i : Int) + 1)))]) (S1 := [.int (iI (kn 1 (i / 2)))]) (ws1 := (wTp g r qn qt qv kn kt kv sc ns tx tn pl)) rfl rfl (congrArg (fun x9 : Int => ([.int (iI x9)] : List Value)) (show (kn 1 (((((i : Int) + 1) - 1) / 2).toNat) : Int) = kn 1 (i / 2) from (congrArg (kn 1) (by omega)))) ?_
      refine j_iload_n C 4 dL_arePulls_141 rfl rfl ?_
      refine j_icmp_ne (tgt := 149) C (by omega) (by omega) dL_arePulls_142 (by decide) (fun c142 => ?_) (fun c142 => ?_)
      · refine j_iconst C dL_arePulls_149 ?_
        refine j_goto (tgt := 164) C dL_arePulls_150 (by decide) ?_
        refine j_istore (L1 := [(15, .int (iI 0)), (9, .int (iI 1)), (13, .long (lI (fbn (kn 0 1) true f (i + 1)))), (0, .ref (r 0)), (1, .int (iI f)), (2, .int (iI ((b : Int)))), (3, .int (iI 1)), (4, .int (iI (kn 0 2))), (5, .int (iI (kn 0 3))), (6, .int (iI (kn 0 1))), (7, .long (lI (fbn (kn 0 1) true f i))), (10, .long (lI (pps kn true b f i))), (12, .int (iI ((i : Int) + 1)))]) C dL_arePulls_164 (by decide) rfl ?_
        refine j_lload C 11 dL_arePulls_166 rfl ?_
        refine j_iload C 0 dL_arePulls_168 rfl ?_
        refine j_if_eq (tgt := 178) C (by decide) dL_arePulls_170 (by decide) (fun c170 => ?_) (fun c170 => absurd c170 (by decide))
        refine j_lconst (v := 0) C dL_arePulls_178 rfl ?_
        refine j_ladd C dL_arePulls_179 ?_
        refine J.to (L1 := [(15, .int (iI 0)), (9, .int (iI 1)), (13, .long (lI (fbn (kn 0 1) true f (i + 1)))), (0, .ref (r 0)), (1, .int (iI f)), (2, .int (iI ((b : Int)))), (3, .int (iI 1)), (4, .int (iI (kn 0 2))), (5, .int (iI (kn 0 3))), (6, .int (iI (kn 0 1))), (7, .long (lI (fbn (kn 0 1) true f i))), (10, .long (lI (pps kn true b f i))), (12, .int (iI ((i : Int) + 1)))]) (S1 := [.long (lI (pps kn true b f (i + 1)))]) (ws1 := (wTp g r qn qt qv kn kt kv sc ns tx tn pl)) rfl rfl (congrArg (fun x9 : Int => ([.long (lI x9)] : List Value)) (show ((pps kn true b f i) + 0 : Int) = pps kn true b f (i + 1) from (pps_f (fun h9 => c142 ((its_1 (by omega)).mp h9))))) ?_
        refine j_lstore (L1 := [(10, .long (lI (pps kn true b f (i + 1)))), (15, .int (iI 0)), (9, .int (iI 1)), (13, .long (lI (fbn (kn 0 1) true f (i + 1)))), (0, .ref (r 0)), (1, .int (iI f)), (2, .int (iI ((b : Int)))), (3, .int (iI 1)), (4, .int (iI (kn 0 2))), (5, .int (iI (kn 0 3))), (6, .int (iI (kn 0 1))), (7, .long (lI (fbn (kn 0 1) true f i))), (12, .int (iI ((i : Int) + 1)))]) C dL_arePulls_180 (by decide) rfl ?_
        refine j_lload C 3 dL_arePulls_182 rfl ?_
        refine j_lstore (L1 := [(7, .long (lI (fbn (kn 0 1) true f (i + 1)))), (10, .long (lI (pps kn true b f (i + 1)))), (15, .int (iI 0)), (9, .int (iI 1)), (13, .long (lI (fbn (kn 0 1) true f (i + 1)))), (0, .ref (r 0)), (1, .int (iI f)), (2, .int (iI ((b : Int)))), (3, .int (iI 1)), (4, .int (iI (kn 0 2))), (5, .int (iI (kn 0 3))), (6, .int (iI (kn 0 1))), (12, .int (iI ((i : Int) + 1)))]) C dL_arePulls_184 (by decide) rfl ?_
        refine j_iinc (L1 := [(12, .int (iI (((i : Int) + 1) + 1))), (7, .long (lI (fbn (kn 0 1) true f (i + 1)))), (10, .long (lI (pps kn true b f (i + 1)))), (15, .int (iI 0)), (9, .int (iI 1)), (13, .long (lI (fbn (kn 0 1) true f (i + 1)))), (0, .ref (r 0)), (1, .int (iI f)), (2, .int (iI ((b : Int)))), (3, .int (iI 1)), (4, .int (iI (kn 0 2))), (5, .int (iI (kn 0 3))), (6, .int (iI (kn 0 1)))]) C 12 dL_arePulls_186 rfl (by decide) rfl ?_
        refine j_goto (tgt := 51) C dL_arePulls_189 (by decide) ?_
        refine J.sub (L1 := [(0, .ref (r 0)), (1, .int (iI f)), (2, .int (iI ((b : Int)))), (3, .int (iI 1)), (4, .int (iI (kn 0 2))), (5, .int (iI (kn 0 3))), (6, .int (iI (kn 0 1))), (7, .long (lI (fbn (kn 0 1) true f (i + 1)))), (9, .int (iI 1)), (10, .long (lI (pps kn true b f (i + 1)))), (12, .int (iI (((i : Int) + 1) + 1)))]) [6, 7, 8, 9, 10, 11, 12, 1, 4, 2, 0] rfl ?_
        exact ih (i + 1) (by omega)
      · refine j_iconst C dL_arePulls_145 ?_
        refine j_goto (tgt := 164) C dL_arePulls_146 (by decide) ?_
        refine j_istore (L1 := [(15, .int (iI 1)), (9, .int (iI 1)), (13, .long (lI (fbn (kn 0 1) true f (i + 1)))), (0, .ref (r 0)), (1, .int (iI f)), (2, .int (iI ((b : Int)))), (3, .int (iI 1)), (4, .int (iI (kn 0 2))), (5, .int (iI (kn 0 3))), (6, .int (iI (kn 0 1))), (7, .long (lI (fbn (kn 0 1) true f i))), (10, .long (lI (pps kn true b f i))), (12, .int (iI ((i : Int) + 1)))]) C dL_arePulls_164 (by decide) rfl ?_
        refine j_lload C 11 dL_arePulls_166 rfl ?_
        refine j_iload C 0 dL_arePulls_168 rfl ?_
        refine j_if_eq (tgt := 178) C (by decide) dL_arePulls_170 (by decide) (fun c170 => absurd c170 (by decide)) (fun c170 => ?_)
        refine j_lload C 2 dL_arePulls_173 rfl ?_
        refine j_goto (tgt := 179) C dL_arePulls_175 (by decide) ?_
        refine j_ladd C dL_arePulls_179 ?_
        refine J.to (L1 := [(15, .int (iI 1)), (9, .int (iI 1)), (13, .long (lI (fbn (kn 0 1) true f (i + 1)))), (0, .ref (r 0)), (1, .int (iI f)), (2, .int (iI ((b : Int)))), (3, .int (iI 1)), (4, .int (iI (kn 0 2))), (5, .int (iI (kn 0 3))), (6, .int (iI (kn 0 1))), (7, .long (lI (fbn (kn 0 1) true f i))), (10, .long (lI (pps kn true b f i))), (12, .int (iI ((i : Int) + 1)))]) (S1 := [.long (lI (pps kn true b f (i + 1)))]) (ws1 := (wTp g r qn qt qv kn kt kv sc ns tx tn pl)) rfl rfl (congrArg (fun x9 : Int => ([.long (lI x9)] : List Value)) (show ((pps kn true b f i) + (fbn (kn 0 1) true f (i + 1)) : Int) = pps kn true b f (i + 1) from (pps_t ((its_1 (by omega)).mpr c142)))) ?_
        refine j_lstore (L1 := [(10, .long (lI (pps kn true b f (i + 1)))), (15, .int (iI 1)), (9, .int (iI 1)), (13, .long (lI (fbn (kn 0 1) true f (i + 1)))), (0, .ref (r 0)), (1, .int (iI f)), (2, .int (iI ((b : Int)))), (3, .int (iI 1)), (4, .int (iI (kn 0 2))), (5, .int (iI (kn 0 3))), (6, .int (iI (kn 0 1))), (7, .long (lI (fbn (kn 0 1) true f i))), (12, .int (iI ((i : Int) + 1)))]) C dL_arePulls_180 (by decide) rfl ?_
        refine j_lload C 3 dL_arePulls_182 rfl ?_
        refine j_lstore (L1 := [(7, .long (lI (fbn (kn 0 1) true f (i + 1)))), (10, .long (lI (pps kn true b f (i + 1)))), (15, .int (iI 1)), (9, .int (iI 1)), (13, .long (lI (fbn (kn 0 1) true f (i + 1)))), (0, .ref (r 0)), (1, .int (iI f)), (2, .int (iI ((b : Int)))), (3, .int (iI 1)), (4, .int (iI (kn 0 2))), (5, .int (iI (kn 0 3))), (6, .int (iI (kn 0 1))), (12, .int (iI ((i : Int) + 1)))]) C dL_arePulls_184 (by decide) rfl ?_
        refine j_iinc (L1 := [(12, .int (iI (((i : Int) + 1) + 1))), (7, .long (lI (fbn (kn 0 1) true f (i + 1)))), (10, .long (lI (pps kn true b f (i + 1)))), (15, .int (iI 1)), (9, .int (iI 1)), (13, .long (lI (fbn (kn 0 1) true f (i + 1)))), (0, .ref (r 0)), (1, .int (iI f)), (2, .int (iI ((b : Int)))), (3, .int (iI 1)), (4, .int (iI (kn 0 2))), (5, .int (iI (kn 0 3))), (6, .int (iI (kn 0 1)))]) C 12 dL_arePulls_186 rfl (by decide) rfl ?_
        refine j_goto (tgt := 51) C dL_arePulls_189 (by decide) ?_
        refine J.sub (L1 := [(0, .ref (r 0)), (1, .int (iI f)), (2, .int (iI ((b : Int)))), (3, .int (iI 1)), (4, .int (iI (kn 0 2))), (5, .int (iI (kn 0 3))), (6, .int (iI (kn 0 1))), (7, .long (lI (fbn (kn 0 1) true f (i + 1)))), (9, .int (iI 1)), (10, .long (lI (pps kn true b f (i + 1)))), (12, .int (iI (((i : Int) + 1) + 1)))]) [6, 7, 8, 9, 10, 11, 12, 1, 4, 2, 0] rfl ?_
        exact ih (i + 1) (by omega)

set_option maxRecDepth 100000 in
set_option maxHeartbeats 4000000 in
theorem c_L_arePulls_t (l : Launch) (hl : l.stackTraces = false) (g : Gh) (r : Nat → Nat) (qn qt : Nat → Nat) (qv : Nat → Nat → Nat) (kn kt : Nat → Nat → Int) (kv : Nat → Nat → Nat → Int) (sc : Int) (ns : Nat) (tx : Nat → Int) (tn : Nat) (pl : Int) (hT : TOK kn kv sc ns tx tn) (b : Nat) (hb : b < 4) (f : Int) (hf : 0 ≤ f ∧ f < 5000) : CT l g yL_arePulls cL_arePulls 16 (some FieldType.boolean) ({ frames := 9, cells := 0, slots := 0, locals := 169 }) [.ref (r 0), .int (iI f), .int (iI (((b : Nat) : Int))), .int (iI 1)] (wTp g r qn qt qv kn kt kv sc ns tx tn pl) (PE (some (.int (iI 1))) (wTp g r qn qt qv kn kt kv sc ns tx tn pl)) := by
  refine CT.intro (L0 := [(0, .ref (r 0)), (1, .int (iI f)), (2, .int (iI (((b : Nat) : Int)))), (3, .int (iI 1))]) (own := RL) (by decide) rfl (Nat.le_of_ble_eq_true rfl) rfl ?_
  intro pX eX sX mX argsX belowX methX cX A C hr hlk
  obtain ⟨hP, hE, hF, hrow, hwt, hht, hlen, hlat, hkept⟩ := id hT.1.1
  have hk := hT.1.1
  have hpf := passF_r hk
  have he := pps_end (h := true) hk hb (f := f)
  have h1 := plf_mono hk (h := true) (b := b) (f := f) (f' := f + 1) (by omega) (by omega)
  have h2 := plf_rng hk (h := true) (b := b) (f := f) (by omega)
  have h3 := plf_rng hk (h := true) (b := b) (f := f + 1) (by omega)
  have h4 := plf_tf hk (b := b) (f := f) (by omega)
  have h5 := plf_rng hk (h := true) (b := b) (f := f) (by omega)
  have h6 := plf_rng hk (h := false) (b := b) (f := f) (by omega)
  refine j_aload_n C 0 dL_arePulls_0 rfl rfl ?_
  refine j_iconst C dL_arePulls_1 ?_
  refine j_callSW (As := [.ref (r 0), .int (iI 3)]) (rest := []) C yw_L_value qw443 (w_value l g r qn qt qv kn kt kv sc ns tx tn pl 3 hT (by omega)) (by decide) rfl dL_arePulls_2 rfl (Nat.le_of_ble_eq_true rfl) (by decide) pf0 rfl (fun r9 w9 hq9 => ?_)
  obtain ⟨rfl, rfl⟩ := hq9
  refine J.to (L1 := [(0, .ref (r 0)), (1, .int (iI f)), (2, .int (iI (((b : Nat) : Int)))), (3, .int (iI 1))]) (S1 := [.int (iI (kn 0 2))]) (ws1 := (wTp g r qn qt qv kn kt kv sc ns tx tn pl)) rfl rfl rfl ?_
  refine j_istore (L1 := [(4, .int (iI (kn 0 2))), (0, .ref (r 0)), (1, .int (iI f)), (2, .int (iI (((b : Nat) : Int)))), (3, .int (iI 1))]) C dL_arePulls_5 (by decide) rfl ?_
  refine j_aload_n C 1 dL_arePulls_7 rfl rfl ?_
  refine j_iconst C dL_arePulls_8 ?_
  refine j_callSW (As := [.ref (r 0), .int (iI 4)]) (rest := []) C yw_L_value qw443 (w_value l g r qn qt qv kn kt kv sc ns tx tn pl 4 hT (by omega)) (by decide) rfl dL_arePulls_9 rfl (Nat.le_of_ble_eq_true rfl) (by decide) pf0 rfl (fun r9 w9 hq9 => ?_)
  obtain ⟨rfl, rfl⟩ := hq9
  refine J.to (L1 := [(4, .int (iI (kn 0 2))), (0, .ref (r 0)), (1, .int (iI f)), (2, .int (iI (((b : Nat) : Int)))), (3, .int (iI 1))]) (S1 := [.int (iI (kn 0 3))]) (ws1 := (wTp g r qn qt qv kn kt kv sc ns tx tn pl)) rfl rfl rfl ?_
  refine j_istore (L1 := [(5, .int (iI (kn 0 3))), (4, .int (iI (kn 0 2))), (0, .ref (r 0)), (1, .int (iI f)), (2, .int (iI (((b : Nat) : Int)))), (3, .int (iI 1))]) C dL_arePulls_12 (by decide) rfl ?_
  refine j_aload_n C 2 dL_arePulls_14 rfl rfl ?_
  refine j_iconst C dL_arePulls_15 ?_
  refine j_callSW (As := [.ref (r 0), .int (iI 2)]) (rest := []) C yw_L_value qw443 (w_value l g r qn qt qv kn kt kv sc ns tx tn pl 2 hT (by omega)) (by decide) rfl dL_arePulls_16 rfl (Nat.le_of_ble_eq_true rfl) (by decide) pf0 rfl (fun r9 w9 hq9 => ?_)
  obtain ⟨rfl, rfl⟩ := hq9
  refine J.to (L1 := [(5, .int (iI (kn 0 3))), (4, .int (iI (kn 0 2))), (0, .ref (r 0)), (1, .int (iI f)), (2, .int (iI (((b : Nat) : Int)))), (3, .int (iI 1))]) (S1 := [.int (iI (kn 0 1))]) (ws1 := (wTp g r qn qt qv kn kt kv sc ns tx tn pl)) rfl rfl rfl ?_
  refine j_istore (L1 := [(6, .int (iI (kn 0 1))), (5, .int (iI (kn 0 3))), (4, .int (iI (kn 0 2))), (0, .ref (r 0)), (1, .int (iI f)), (2, .int (iI (((b : Nat) : Int)))), (3, .int (iI 1))]) C dL_arePulls_19 (by decide) rfl ?_
  refine j_aload_n C 3 dL_arePulls_21 rfl rfl ?_
  refine j_iload_n C 4 dL_arePulls_22 rfl rfl ?_
  refine j_iconst C dL_arePulls_23 ?_
  refine j_iload_n C 6 dL_arePulls_24 rfl rfl ?_
  refine j_callSW (As := [.ref (r 0), .int (iI f), .int (iI 0), .int (iI 1)]) (rest := []) C yw_L_force qw595 (w_force l g r qn qt qv kn kt kv sc ns tx tn pl f 0 true hT (by omega) (by omega)) (by decide) rfl dL_arePulls_25 rfl (Nat.le_of_ble_eq_true rfl) (by decide) pf0 rfl (fun r9 w9 hq9 => ?_)
  obtain ⟨rfl, rfl⟩ := hq9
  refine J.to (L1 := [(6, .int (iI (kn 0 1))), (5, .int (iI (kn 0 3))), (4, .int (iI (kn 0 2))), (0, .ref (r 0)), (1, .int (iI f)), (2, .int (iI (((b : Nat) : Int)))), (3, .int (iI 1))]) (S1 := [.long (lI (fbn (kn 0 1) true f 0))]) (ws1 := (wTp g r qn qt qv kn kt kv sc ns tx tn pl)) rfl rfl rfl ?_
  refine j_lstore (L1 := [(7, .long (lI (fbn (kn 0 1) true f 0))), (6, .int (iI (kn 0 1))), (5, .int (iI (kn 0 3))), (4, .int (iI (kn 0 2))), (0, .ref (r 0)), (1, .int (iI f)), (2, .int (iI (((b : Nat) : Int)))), (3, .int (iI 1))]) C dL_arePulls_28 (by decide) rfl ?_
  refine j_lload C 0 dL_arePulls_30 rfl ?_
  refine j_iload_n C 5 dL_arePulls_32 rfl rfl ?_
  refine j_i2l C (by omega) dL_arePulls_33 ?_
  refine j_lsameF (tgt := 42) C (rfl) dL_arePulls_34 dL_arePulls_35 (by decide) ?_
  refine j_iconst C dL_arePulls_38 ?_
  refine j_goto (tgt := 43) C dL_arePulls_39 (by decide) ?_
  refine j_istore (L1 := [(9, .int (iI 1)), (7, .long (lI (fbn (kn 0 1) true f 0))), (6, .int (iI (kn 0 1))), (5, .int (iI (kn 0 3))), (4, .int (iI (kn 0 2))), (0, .ref (r 0)), (1, .int (iI f)), (2, .int (iI (((b : Nat) : Int)))), (3, .int (iI 1))]) C dL_arePulls_43 (by decide) rfl ?_
  refine j_lconst (v := 0) C dL_arePulls_45 rfl ?_
  refine j_lstore (L1 := [(10, .long (lI 0)), (9, .int (iI 1)), (7, .long (lI (fbn (kn 0 1) true f 0))), (6, .int (iI (kn 0 1))), (5, .int (iI (kn 0 3))), (4, .int (iI (kn 0 2))), (0, .ref (r 0)), (1, .int (iI f)), (2, .int (iI (((b : Nat) : Int)))), (3, .int (iI 1))]) C dL_arePulls_46 (by decide) rfl ?_
  refine j_iconst C dL_arePulls_48 ?_
  refine j_istore (L1 := [(12, .int (iI 1)), (10, .long (lI 0)), (9, .int (iI 1)), (7, .long (lI (fbn (kn 0 1) true f 0))), (6, .int (iI (kn 0 1))), (5, .int (iI (kn 0 3))), (4, .int (iI (kn 0 2))), (0, .ref (r 0)), (1, .int (iI f)), (2, .int (iI (((b : Nat) : Int)))), (3, .int (iI 1))]) C dL_arePulls_49 (by decide) rfl ?_
  refine J.sub (L1 := [(0, .ref (r 0)), (1, .int (iI f)), (2, .int (iI (((b : Nat) : Int)))), (3, .int (iI 1)), (4, .int (iI (kn 0 2))), (5, .int (iI (kn 0 3))), (6, .int (iI (kn 0 1))), (7, .long (lI (fbn (kn 0 1) true f 0))), (9, .int (iI 1)), (10, .long (lI 0)), (12, .int (iI 1))]) [7, 8, 9, 10, 6, 5, 4, 3, 2, 1, 0] rfl ?_
  refine J.to (L1 := [(0, .ref (r 0)), (1, .int (iI f)), (2, .int (iI ((b : Int)))), (3, .int (iI 1)), (4, .int (iI (kn 0 2))), (5, .int (iI (kn 0 3))), (6, .int (iI (kn 0 1))), (7, .long (lI (fbn (kn 0 1) true f 0))), (9, .int (iI 1)), (10, .long (lI (pps kn true b f 0))), (12, .int (iI (((0 : Nat) : Int) + 1)))]) (S1 := []) (ws1 := (wTp g r qn qt qv kn kt kv sc ns tx tn pl)) rfl rfl rfl ?_
  refine lp_pulls_t C hl hT hb hf (N0 := (passF kn).toNat) (by omega) ?_ (passF kn).toNat 0 (by omega)
  refine j_iload C 4 dL_arePulls_192 rfl ?_
  refine j_if_eq (tgt := 247) C (by decide) dL_arePulls_194 (by decide) (fun c194 => absurd c194 (by decide)) (fun c194 => ?_)
  refine j_aload_n C 0 dL_arePulls_197 rfl rfl ?_
  refine j_iload_n C 2 dL_arePulls_198 rfl rfl ?_
  refine j_iload_n C 1 dL_arePulls_199 rfl rfl ?_
  refine j_iload_n C 3 dL_arePulls_200 rfl rfl ?_
  refine j_callSW (As := [.ref (r 0), .int (iI ((b : Int))), .int (iI f), .int (iI 1)]) (rest := []) C yw_L_pull qw614 (w_pull l g r qn qt qv kn kt kv sc ns tx tn pl (b : Int) f true hT (by omega) (by omega)) (by decide) rfl dL_arePulls_201 rfl (Nat.le_of_ble_eq_true rfl) (by decide) pf0 rfl (fun r9 w9 hq9 => ?_)
  obtain ⟨rfl, rfl⟩ := hq9
  refine J.to (L1 := [(0, .ref (r 0)), (1, .int (iI f)), (2, .int (iI ((b : Int)))), (3, .int (iI 1)), (9, .int (iI 1)), (10, .long (lI (pps kn true b f (passF kn).toNat)))]) (S1 := [.long (lI (plf kn true b f))]) (ws1 := (wTp g r qn qt qv kn kt kv sc ns tx tn pl)) rfl rfl rfl ?_
  refine j_lload C 5 dL_arePulls_204 rfl ?_
  refine j_lsameF (tgt := 247) C (he) dL_arePulls_206 dL_arePulls_207 (by decide) ?_
  refine j_aload_n C 0 dL_arePulls_210 rfl rfl ?_
  refine j_iload_n C 2 dL_arePulls_211 rfl rfl ?_
  refine j_iload_n C 1 dL_arePulls_212 rfl rfl ?_
  refine j_iconst C dL_arePulls_213 ?_
  refine j_iadd C dL_arePulls_214 ?_
  refine j_iload_n C 3 dL_arePulls_215 rfl rfl ?_
  refine j_callSW (As := [.ref (r 0), .int (iI ((b : Int))), .int (iI (f + 1)), .int (iI 1)]) (rest := []) C yw_L_pull qw614 (w_pull l g r qn qt qv kn kt kv sc ns tx tn pl (b : Int) (f + 1) true hT (by omega) (by omega)) (by decide) rfl dL_arePulls_216 rfl (Nat.le_of_ble_eq_true rfl) (by decide) pf0 rfl (fun r9 w9 hq9 => ?_)
  obtain ⟨rfl, rfl⟩ := hq9
  refine J.to (L1 := [(0, .ref (r 0)), (1, .int (iI f)), (2, .int (iI ((b : Int)))), (3, .int (iI 1)), (9, .int (iI 1)), (10, .long (lI (pps kn true b f (passF kn).toNat)))]) (S1 := [.long (lI (plf kn true b (f + 1)))]) (ws1 := (wTp g r qn qt qv kn kt kv sc ns tx tn pl)) rfl rfl rfl ?_
  refine j_lload C 5 dL_arePulls_219 rfl ?_
  refine j_lif_lt (tgt := 247) C (by omega) (by omega) dL_arePulls_221 dL_arePulls_222 (by decide) (fun c221 => absurd c221 (by omega)) (fun c221 => ?_)
  refine j_aload_n C 0 dL_arePulls_225 rfl rfl ?_
  refine j_iload_n C 2 dL_arePulls_226 rfl rfl ?_
  refine j_iload_n C 1 dL_arePulls_227 rfl rfl ?_
  refine j_iconst C dL_arePulls_228 ?_
  refine j_callSW (As := [.ref (r 0), .int (iI ((b : Int))), .int (iI f), .int (iI 0)]) (rest := []) C yw_L_pull qw614 (w_pull l g r qn qt qv kn kt kv sc ns tx tn pl (b : Int) f false hT (by omega) (by omega)) (by decide) rfl dL_arePulls_229 rfl (Nat.le_of_ble_eq_true rfl) (by decide) pf0 rfl (fun r9 w9 hq9 => ?_)
  obtain ⟨rfl, rfl⟩ := hq9
  refine J.to (L1 := [(0, .ref (r 0)), (1, .int (iI f)), (2, .int (iI ((b : Int)))), (3, .int (iI 1)), (9, .int (iI 1)), (10, .long (lI (pps kn true b f (passF kn).toNat)))]) (S1 := [.long (lI (plf kn false b f))]) (ws1 := (wTp g r qn qt qv kn kt kv sc ns tx tn pl)) rfl rfl rfl ?_
  refine j_aload_n C 0 dL_arePulls_232 rfl rfl ?_
  refine j_iload_n C 2 dL_arePulls_233 rfl rfl ?_
  refine j_iload_n C 1 dL_arePulls_234 rfl rfl ?_
  refine j_iconst C dL_arePulls_235 ?_
  refine j_callSW (As := [.ref (r 0), .int (iI ((b : Int))), .int (iI f), .int (iI 1)]) (rest := [.long (lI (plf kn false b f))]) C yw_L_pull qw614 (w_pull l g r qn qt qv kn kt kv sc ns tx tn pl (b : Int) f true hT (by omega) (by omega)) (by decide) rfl dL_arePulls_236 rfl (Nat.le_of_ble_eq_true rfl) (by decide) pf0 rfl (fun r9 w9 hq9 => ?_)
  obtain ⟨rfl, rfl⟩ := hq9
  refine J.to (L1 := [(0, .ref (r 0)), (1, .int (iI f)), (2, .int (iI ((b : Int)))), (3, .int (iI 1)), (9, .int (iI 1)), (10, .long (lI (pps kn true b f (passF kn).toNat)))]) (S1 := [.long (lI (plf kn true b f)), .long (lI (plf kn false b f))]) (ws1 := (wTp g r qn qt qv kn kt kv sc ns tx tn pl)) rfl rfl rfl ?_
  refine j_lif_lt (tgt := 247) C (by omega) (by omega) dL_arePulls_239 dL_arePulls_240 (by decide) (fun c239 => absurd c239 (by omega)) (fun c239 => ?_)
  refine j_iconst C dL_arePulls_243 ?_
  refine j_goto (tgt := 248) C dL_arePulls_244 (by decide) ?_
  exact j_zret C hr hlk rfl dL_arePulls_248 ⟨rfl, rfl⟩ (by decide) (by decide)

set_option maxRecDepth 100000 in
set_option maxHeartbeats 4000000 in
theorem lp_pulls_f {p : Program} {l : Launch} {e : Env} {s : State} {m : MethodId} {args : Array Value} {below : List Frame} {meth : Method} {c : Code} {A : Nat → Prop} {Q : State → Prop} {g : Gh} {r : Nat → Nat} {qn qt : Nat → Nat} {qv : Nat → Nat → Nat} {kn : Nat → Nat → Int} {kv : Nat → Nat → Nat → Int} {sc : Int} {ns : Nat} {tx : Nat → Int} {tn : Nat} {pl : Int} {kt : Nat → Nat → Int} (C : Cx p g s m args c cL_arePulls 16 RL A) (hl : l.stackTraces = false) (hT : TOK kn kv sc ns tx tn) {b : Nat} (hb : b < 4) {f : Int} (hf : 0 ≤ f ∧ f < 5000) {N0 : Nat} (hN0 : passF kn = (N0 : Int)) (kk : J p l e ({ frames := 9, cells := 0, slots := 0, locals := 169 } : Room) s m args below meth c g A 16 192 [(0, .ref (r 0)), (1, .int (iI f)), (2, .int (iI ((b : Int)))), (3, .int (iI 0)), (9, .int (iI 1)), (10, .long (lI (pps kn false b f N0)))] [] (wTp g r qn qt qv kn kt kv sc ns tx tn pl) 0 0 Q) : ∀ (n i : Nat), i + n = N0 → J p l e ({ frames := 9, cells := 0, slots := 0, locals := 169 } : Room) s m args below meth c g A 16 51 [(0, .ref (r 0)), (1, .int (iI f)), (2, .int (iI ((b : Int)))), (3, .int (iI 0)), (4, .int (iI (kn 0 2))), (5, .int (iI (kn 0 3))), (6, .int (iI (kn 0 1))), (7, .long (lI (fbn (kn 0 1) false f i))), (9, .int (iI 1)), (10, .long (lI (pps kn false b f i))), (12, .int (iI ((i : Int) + 1)))] [] (wTp g r qn qt qv kn kt kv sc ns tx tn pl) 0 0 Q := by
  intro n
  induction n with
  | zero =>
    intro i hi 
    have hi9 : N0 = i := by omega
    subst hi9
    have hpf := passF_r hT.1.1
    refine j_iload C 10 dL_arePulls_51 rfl ?_
    refine j_aload_n C 0 dL_arePulls_53 rfl rfl ?_
    refine j_iconst C dL_arePulls_54 ?_
    refine j_callSW (As := [.ref (r 0), .int (iI 5)]) (rest := [.int (iI ((N0 : Int) + 1))]) C yw_L_value qw443 (w_value l g r qn qt qv kn kt kv sc ns tx tn pl 5 hT (by omega)) (by decide) rfl dL_arePulls_55 rfl (Nat.le_of_ble_eq_true rfl) (by decide) pf0 rfl (fun r9 w9 hq9 => ?_)
    obtain ⟨rfl, rfl⟩ := hq9
    refine J.to (L1 := [(0, .ref (r 0)), (1, .int (iI f)), (2, .int (iI ((b : Int)))), (3, .int (iI 0)), (4, .int (iI (kn 0 2))), (5, .int (iI (kn 0 3))), (6, .int (iI (kn 0 1))), (7, .long (lI (fbn (kn 0 1) false f N0))), (9, .int (iI 1)), (10, .long (lI (pps kn false b f N0))), (12, .int (iI ((N0 : Int) + 1)))]) (S1 := [.int (iI (passF kn)), .int (iI ((N0 : Int) + 1))]) (ws1 := (wTp g r qn qt qv kn kt kv sc ns tx tn pl)) rfl rfl rfl ?_
    refine j_icmp_gt (tgt := 192) C (by omega) (by omega) dL_arePulls_58 (by decide) (fun c58 => ?_) (fun c58 => absurd c58 (by omega))
    refine J.sub (L1 := [(0, .ref (r 0)), (1, .int (iI f)), (2, .int (iI ((b : Int)))), (3, .int (iI 0)), (9, .int (iI 1)), (10, .long (lI (pps kn false b f N0)))]) [0, 1, 2, 3, 8, 9] rfl ?_
    exact kk
  | succ n ih =>
    intro i hi 
    obtain ⟨hP, hE, hF, hrow, hwt, hht, hlen, hlat, hkept⟩ := id hT.1.1
    have hk := hT.1.1
    have hpf := passF_r hk
    have ht := fbn_le (F := kn 0 1) (h := false) (t := f) (n := i) hk.2.2.1 (by omega) (by omega)
    have hm := mulF ht.1 hk.2.2.1
    refine j_iload C 10 dL_arePulls_51 rfl ?_
    refine j_aload_n C 0 dL_arePulls_53 rfl rfl ?_
    refine j_iconst C dL_arePulls_54 ?_
    refine j_callSW (As := [.ref (r 0), .int (iI 5)]) (rest := [.int (iI ((i : Int) + 1))]) C yw_L_value qw443 (w_value l g r qn qt qv kn kt kv sc ns tx tn pl 5 hT (by omega)) (by decide) rfl dL_arePulls_55 rfl (Nat.le_of_ble_eq_true rfl) (by decide) pf0 rfl (fun r9 w9 hq9 => ?_)
    obtain ⟨rfl, rfl⟩ := hq9
    refine J.to (L1 := [(0, .ref (r 0)), (1, .int (iI f)), (2, .int (iI ((b : Int)))), (3, .int (iI 0)), (4, .int (iI (kn 0 2))), (5, .int (iI (kn 0 3))), (6, .int (iI (kn 0 1))), (7, .long (lI (fbn (kn 0 1) false f i))), (9, .int (iI 1)), (10, .long (lI (pps kn false b f i))), (12, .int (iI ((i : Int) + 1)))]) (S1 := [.int (iI (passF kn)), .int (iI ((i : Int) + 1))]) (ws1 := (wTp g r qn qt qv kn kt kv sc ns tx tn pl)) rfl rfl rfl ?_
    refine j_icmp_gt (tgt := 192) C (by omega) (by omega) dL_arePulls_58 (by decide) (fun c58 => absurd c58 (by omega)) (fun c58 => ?_)
    refine j_iload C 8 dL_arePulls_61 rfl ?_
    refine j_if_eq (tgt := 192) C (by decide) dL_arePulls_63 (by decide) (fun c63 => absurd c63 (by decide)) (fun c63 => ?_)
    refine j_aload_n C 0 dL_arePulls_66 rfl rfl ?_
    refine j_iload_n C 1 dL_arePulls_67 rfl rfl ?_
    refine j_iload C 10 dL_arePulls_68 rfl ?_
    refine j_iload_n C 3 dL_arePulls_70 rfl rfl ?_
    refine j_callSW (As := [.ref (r 0), .int (iI f), .int (iI ((i : Int) + 1)), .int (iI 0)]) (rest := []) C yw_L_force qw595 (w_force l g r qn qt qv kn kt kv sc ns tx tn pl f ((i : Int) + 1) false hT (by omega) (by omega)) (by decide) rfl dL_arePulls_71 rfl (Nat.le_of_ble_eq_true rfl) (by decide) pf0 rfl (fun r9 w9 hq9 => ?_)
    obtain ⟨rfl, rfl⟩ := hq9
    refine J.to (L1 := [(0, .ref (r 0)), (1, .int (iI f)), (2, .int (iI ((b : Int)))), (3, .int (iI 0)), (4, .int (iI (kn 0 2))), (5, .int (iI (kn 0 3))), (6, .int (iI (kn 0 1))), (7, .long (lI (fbn (kn 0 1) false f i))), (9, .int (iI 1)), (10, .long (lI (pps kn false b f i))), (12, .int (iI ((i : Int) + 1)))]) (S1 := [.long (lI (fbn (kn 0 1) false f (i + 1)))]) (ws1 := (wTp g r qn qt qv kn kt kv sc ns tx tn pl)) rfl rfl rfl ?_
    refine j_lstore (L1 := [(13, .long (lI (fbn (kn 0 1) false f (i + 1)))), (0, .ref (r 0)), (1, .int (iI f)), (2, .int (iI ((b : Int)))), (3, .int (iI 0)), (4, .int (iI (kn 0 2))), (5, .int (iI (kn 0 3))), (6, .int (iI (kn 0 1))), (7, .long (lI (fbn (kn 0 1) false f i))), (9, .int (iI 1)), (10, .long (lI (pps kn false b f i))), (12, .int (iI ((i : Int) + 1)))]) C dL_arePulls_74 (by decide) rfl ?_
    refine j_lload C 0 dL_arePulls_76 rfl ?_
    refine j_iload_n C 4 dL_arePulls_78 rfl rfl ?_
    refine j_if_eq (tgt := 98) C (by decide) dL_arePulls_79 (by decide) (fun c79 => ?_) (fun c79 => absurd c79 (by decide))
    refine j_lload C 8 dL_arePulls_98 rfl ?_
    refine j_lload C 8 dL_arePulls_100 rfl ?_
    refine j_iload C 7 dL_arePulls_102 rfl ?_
    refine j_i2l C (by omega) dL_arePulls_104 ?_
    refine j_lmul C dL_arePulls_105 ?_
    refine j_ldc2 (x := 100) C qw626 (by decide) dL_arePulls_106 ?_
    refine j_ldiv C (by omega) (by decide) dL_arePulls_109 ?_
    refine j_ladd C dL_arePulls_110 ?_
    refine j_lsameF (tgt := 119) C (rfl) dL_arePulls_111 dL_arePulls_112 (by decide) ?_
    refine j_iconst C dL_arePulls_115 ?_
    refine j_goto (tgt := 120) C dL_arePulls_116 (by decide) ?_
    refine j_istore (L1 := [(9, .int (iI 1)), (13, .long (lI (fbn (kn 0 1) false f (i + 1)))), (0, .ref (r 0)), (1, .int (iI f)), (2, .int (iI ((b : Int)))), (3, .int (iI 0)), (4, .int (iI (kn 0 2))), (5, .int (iI (kn 0 3))), (6, .int (iI (kn 0 1))), (7, .long (lI (fbn (kn 0 1) false f i))), (10, .long (lI (pps kn false b f i))), (12, .int (iI ((i : Int) + 1)))]) C dL_arePulls_120 (by decide) rfl ?_
    refine j_iload C 11 dL_arePulls_122 rfl ?_
    refine j_iconst C dL_arePulls_124 ?_
    refine j_iload C 6 dL_arePulls_125 rfl ?_
    refine j_imul C dL_arePulls_127 ?_
    refine j_icmp_gt (tgt := 153) C (by omega) (by omega) dL_arePulls_128 (by decide) (fun c128 => ?_) (fun c128 => ?_)
    · refine j_iload C 7 dL_arePulls_153 rfl ?_
      refine j_iload_n C 4 dL_arePulls_155 rfl rfl ?_
      refine j_icmp_ne (tgt := 163) C (by omega) (by omega) dL_arePulls_156 (by decide) (fun c156 => ?_) (fun c156 => ?_)
      · refine j_iconst C dL_arePulls_163 ?_
        refine j_istore (L1 := [(15, .int (iI 0)), (9, .int (iI 1)), (13, .long (lI (fbn (kn 0 1) false f (i + 1)))), (0, .ref (r 0)), (1, .int (iI f)), (2, .int (iI ((b : Int)))), (3, .int (iI 0)), (4, .int (iI (kn 0 2))), (5, .int (iI (kn 0 3))), (6, .int (iI (kn 0 1))), (7, .long (lI (fbn (kn 0 1) false f i))), (10, .long (lI (pps kn false b f i))), (12, .int (iI ((i : Int) + 1)))]) C dL_arePulls_164 (by decide) rfl ?_
        refine j_lload C 11 dL_arePulls_166 rfl ?_
        refine j_iload C 0 dL_arePulls_168 rfl ?_
        refine j_if_eq (tgt := 178) C (by decide) dL_arePulls_170 (by decide) (fun c170 => ?_) (fun c170 => absurd c170 (by decide))
        refine j_lconst (v := 0) C dL_arePulls_178 rfl ?_
        refine j_ladd C dL_arePulls_179 ?_
        refine J.to (L1 := [(15, .int (iI 0)), (9, .int (iI 1)), (13, .long (lI (fbn (kn 0 1) false f (i + 1)))), (0, .ref (r 0)), (1, .int (iI f)), (2, .int (iI ((b : Int)))), (3, .int (iI 0)), (4, .int (iI (kn 0 2))), (5, .int (iI (kn 0 3))), (6, .int (iI (kn 0 1))), (7, .long (lI (fbn (kn 0 1) false f i))), (10, .long (lI (pps kn false b f i))), (12, .int (iI ((i : Int) + 1)))]) (S1 := [.long (lI (pps kn false b f (i + 1)))]) (ws1 := (wTp g r qn qt qv kn kt kv sc ns tx tn pl)) rfl rfl (congrArg (fun x9 : Int => ([.long (lI x9)] : List Value)) (show ((pps kn false b f i) + 0 : Int) = pps kn false b f (i + 1) from (pps_f (fun h9 => c156 ((its_2 (by omega)).mp h9))))) ?_
        refine j_lstore (L1 := [(10, .long (lI (pps kn false b f (i + 1)))), (15, .int (iI 0)), (9, .int (iI 1)), (13, .long (lI (fbn (kn 0 1) false f (i + 1)))), (0, .ref (r 0)), (1, .int (iI f)), (2, .int (iI ((b : Int)))), (3, .int (iI 0)), (4, .int (iI (kn 0 2))), (5, .int (iI (kn 0 3))), (6, .int (iI (kn 0 1))), (7, .long (lI (fbn (kn 0 1) false f i))), (12, .int (iI ((i : Int) + 1)))]) C dL_arePulls_180 (by decide) rfl ?_
        refine j_lload C 3 dL_arePulls_182 rfl ?_
        refine j_lstore (L1 := [(7, .long (lI (fbn (kn 0 1) false f (i + 1)))), (10, .long (lI (pps kn false b f (i + 1)))), (15, .int (iI 0)), (9, .int (iI 1)), (13, .long (lI (fbn (kn 0 1) false f (i + 1)))), (0, .ref (r 0)), (1, .int (iI f)), (2, .int (iI ((b : Int)))), (3, .int (iI 0)), (4, .int (iI (kn 0 2))), (5, .int (iI (kn 0 3))), (6, .int (iI (kn 0 1))), (12, .int (iI ((i : Int) + 1)))]) C dL_arePulls_184 (by decide) rfl ?_
        refine j_iinc (L1 := [(12, .int (iI (((i : Int) + 1) + 1))), (7, .long (lI (fbn (kn 0 1) false f (i + 1)))), (10, .long (lI (pps kn false b f (i + 1)))), (15, .int (iI 0)), (9, .int (iI 1)), (13, .long (lI (fbn (kn 0 1) false f (i + 1)))), (0, .ref (r 0)), (1, .int (iI f)), (2, .int (iI ((b : Int)))), (3, .int (iI 0)), (4, .int (iI (kn 0 2))), (5, .int (iI (kn 0 3))), (6, .int (iI (kn 0 1)))]) C 12 dL_arePulls_186 rfl (by decide) rfl ?_
        refine j_goto (tgt := 51) C dL_arePulls_189 (by decide) ?_
        refine J.sub (L1 := [(0, .ref (r 0)), (1, .int (iI f)), (2, .int (iI ((b : Int)))), (3, .int (iI 0)), (4, .int (iI (kn 0 2))), (5, .int (iI (kn 0 3))), (6, .int (iI (kn 0 1))), (7, .long (lI (fbn (kn 0 1) false f (i + 1)))), (9, .int (iI 1)), (10, .long (lI (pps kn false b f (i + 1)))), (12, .int (iI (((i : Int) + 1) + 1)))]) [6, 7, 8, 9, 10, 11, 12, 1, 4, 2, 0] rfl ?_
        exact ih (i + 1) (by omega)
      · refine j_iconst C dL_arePulls_159 ?_
        refine j_goto (tgt := 164) C dL_arePulls_160 (by decide) ?_
        refine j_istore (L1 := [(15, .int (iI 1)), (9, .int (iI 1)), (13, .long (lI (fbn (kn 0 1) false f (i + 1)))), (0, .ref (r 0)), (1, .int (iI f)), (2, .int (iI ((b : Int)))), (3, .int (iI 0)), (4, .int (iI (kn 0 2))), (5, .int (iI (kn 0 3))), (6, .int (iI (kn 0 1))), (7, .long (lI (fbn (kn 0 1) false f i))), (10, .long (lI (pps kn false b f i))), (12, .int (iI ((i : Int) + 1)))]) C dL_arePulls_164 (by decide) rfl ?_
        refine j_lload C 11 dL_arePulls_166 rfl ?_
        refine j_iload C 0 dL_arePulls_168 rfl ?_
        refine j_if_eq (tgt := 178) C (by decide) dL_arePulls_170 (by decide) (fun c170 => absurd c170 (by decide)) (fun c170 => ?_)
        refine j_lload C 2 dL_arePulls_173 rfl ?_
        refine j_goto (tgt := 179) C dL_arePulls_175 (by decide) ?_
        refine j_ladd C dL_arePulls_179 ?_
        refine J.to (L1 := [(15, .int (iI 1)), (9, .int (iI 1)), (13, .long (lI (fbn (kn 0 1) false f (i + 1)))), (0, .ref (r 0)), (1, .int (iI f)), (2, .int (iI ((b : Int)))), (3, .int (iI 0)), (4, .int (iI (kn 0 2))), (5, .int (iI (kn 0 3))), (6, .int (iI (kn 0 1))), (7, .long (lI (fbn (kn 0 1) false f i))), (10, .long (lI (pps kn false b f i))), (12, .int (iI ((i : Int) + 1)))]) (S1 := [.long (lI (pps kn false b f (i + 1)))]) (ws1 := (wTp g r qn qt qv kn kt kv sc ns tx tn pl)) rfl rfl (congrArg (fun x9 : Int => ([.long (lI x9)] : List Value)) (show ((pps kn false b f i) + (fbn (kn 0 1) false f (i + 1)) : Int) = pps kn false b f (i + 1) from (pps_t ((its_2 (by omega)).mpr c156)))) ?_
        refine j_lstore (L1 := [(10, .long (lI (pps kn false b f (i + 1)))), (15, .int (iI 1)), (9, .int (iI 1)), (13, .long (lI (fbn (kn 0 1) false f (i + 1)))), (0, .ref (r 0)), (1, .int (iI f)), (2, .int (iI ((b : Int)))), (3, .int (iI 0)), (4, .int (iI (kn 0 2))), (5, .int (iI (kn 0 3))), (6, .int (iI (kn 0 1))), (7, .long (lI (fbn (kn 0 1) false f i))), (12, .int (iI ((i : Int) + 1)))]) C dL_arePulls_180 (by decide) rfl ?_
        refine j_lload C 3 dL_arePulls_182 rfl ?_
        refine j_lstore (L1 := [(7, .long (lI (fbn (kn 0 1) false f (i + 1)))), (10, .long (lI (pps kn false b f (i + 1)))), (15, .int (iI 1)), (9, .int (iI 1)), (13, .long (lI (fbn (kn 0 1) false f (i + 1)))), (0, .ref (r 0)), (1, .int (iI f)), (2, .int (iI ((b : Int)))), (3, .int (iI 0)), (4, .int (iI (kn 0 2))), (5, .int (iI (kn 0 3))), (6, .int (iI (kn 0 1))), (12, .int (iI ((i : Int) + 1)))]) C dL_arePulls_184 (by decide) rfl ?_
        refine j_iinc (L1 := [(12, .int (iI (((i : Int) + 1) + 1))), (7, .long (lI (fbn (kn 0 1) false f (i + 1)))), (10, .long (lI (pps kn false b f (i + 1)))), (15, .int (iI 1)), (9, .int (iI 1)), (13, .long (lI (fbn (kn 0 1) false f (i + 1)))), (0, .ref (r 0)), (1, .int (iI f)), (2, .int (iI ((b : Int)))), (3, .int (iI 0)), (4, .int (iI (kn 0 2))), (5, .int (iI (kn 0 3))), (6, .int (iI (kn 0 1)))]) C 12 dL_arePulls_186 rfl (by decide) rfl ?_
        refine j_goto (tgt := 51) C dL_arePulls_189 (by decide) ?_
        refine J.sub (L1 := [(0, .ref (r 0)), (1, .int (iI f)), (2, .int (iI ((b : Int)))), (3, .int (iI 0)), (4, .int (iI (kn 0 2))), (5, .int (iI (kn 0 3))), (6, .int (iI (kn 0 1))), (7, .long (lI (fbn (kn 0 1) false f (i + 1)))), (9, .int (iI 1)), (10, .long (lI (pps kn false b f (i + 1)))), (12, .int (iI (((i : Int) + 1) + 1)))]) [6, 7, 8, 9, 10, 11, 12, 1, 4, 2, 0] rfl ?_
        exact ih (i + 1) (by omega)
    · refine j_aload_n C 2 dL_arePulls_131 rfl rfl ?_
      refine j_iload C 11 dL_arePulls_132 rfl ?_
      refine j_iconst C dL_arePulls_134 ?_
      refine j_isub C dL_arePulls_135 ?_
      refine j_iconst C dL_arePulls_136 ?_
      refine j_idiv C (by omega) (by decide) dL_arePulls_137 ?_
      refine j_callSW (As := [.ref (r 0), .int (iI ((((i : Int) + 1) - 1) / 2))]) (rest := []) C yw_L_pulley qw468 (w_pulley l g r qn qt qv kn kt kv sc ns tx tn pl ((((i : Int) + 1) - 1) / 2) hT (by omega)) (by decide) rfl dL_arePulls_138 rfl (Nat.le_of_ble_eq_true rfl) (by decide) pf0 rfl (fun r9 w9 hq9 => ?_)
      obtain ⟨rfl, rfl⟩ := hq9
      refine J.to (L1 := [(9, .int (iI 1)), (13, .long (lI (fbn (kn 0 1) false f (i + 1)))), (0, .ref (r 0)), (1, .int (iI f)), (2, .int (iI ((b : Int)))), (3, .int (iI 0)), (4, .int (iI (kn 0 2))), (5, .int (iI (kn 0 3))), (6, .int (iI (kn 0 1))), (7, .long (lI (fbn (kn 0 1) false f i))), (10, .long (lI (pps kn false b f i))), (12, .int (iI ((i : Int) + 1)))]) (S1 := [.int (iI (kn 1 (((((i : Int) + 1) - 1) / 2).toNat)))]) (ws1 := (wTp g r qn qt qv kn kt kv sc ns tx tn pl)) rfl rfl rfl ?_
      have hrw := hrow (i / 2) (by omega)
      refine J.to (L1 := [(9, .int (iI 1)), (13, .long (lI (fbn (kn 0 1) false f (i + 1)))), (0, .ref (r 0)), (1, .int (iI f)), (2, .int (iI ((b : Int)))), (3, .int (iI 0)), (4, .int (iI (kn 0 2))), (5, .int (iI (kn 0 3))), (6, .int (iI (kn 0 1))), (7, .long (lI (fbn (kn 0 1) false f i))), (10, .long (lI (pps kn false b f i))), (12, .int (iI ((i : Int) + 1)))]) (S1 := [.int (iI (kn 1 (i / 2)))]) (ws1 := (wTp g r qn qt qv kn kt kv sc ns tx tn pl)) rfl rfl (congrArg (fun x9 : Int => ([.int (iI x9)] : List Value)) (show (kn 1 (((((i : Int) + 1) - 1) / 2).toNat) : Int) = kn 1 (i / 2) from (congrArg (kn 1) (by omega)))) ?_
      refine j_iload_n C 4 dL_arePulls_141 rfl rfl ?_
      refine j_icmp_ne (tgt := 149) C (by omega) (by omega) dL_arePulls_142 (by decide) (fun c142 => ?_) (fun c142 => ?_)
      · refine j_iconst C dL_arePulls_149 ?_
        refine j_goto (tgt := 164) C dL_arePulls_150 (by decide) ?_
        refine j_istore (L1 := [(15, .int (iI 0)), (9, .int (iI 1)), (13, .long (lI (fbn (kn 0 1) false f (i + 1)))), (0, .ref (r 0)), (1, .int (iI f)), (2, .int (iI ((b : Int)))), (3, .int (iI 0)), (4, .int (iI (kn 0 2))), (5, .int (iI (kn 0 3))), (6, .int (iI (kn 0 1))), (7, .long (lI (fbn (kn 0 1) false f i))), (10, .long (lI (pps kn false b f i))), (12, .int (iI ((i : Int) + 1)))]) C dL_arePulls_164 (by decide) rfl ?_
        refine j_lload C 11 dL_arePulls_166 rfl ?_
        refine j_iload C 0 dL_arePulls_168 rfl ?_
        refine j_if_eq (tgt := 178) C (by decide) dL_arePulls_170 (by decide) (fun c170 => ?_) (fun c170 => absurd c170 (by decide))
        refine j_lconst (v := 0) C dL_arePulls_178 rfl ?_
        refine j_ladd C dL_arePulls_179 ?_
        refine J.to (L1 := [(15, .int (iI 0)), (9, .int (iI 1)), (13, .long (lI (fbn (kn 0 1) false f (i + 1)))), (0, .ref (r 0)), (1, .int (iI f)), (2, .int (iI ((b : Int)))), (3, .int (iI 0)), (4, .int (iI (kn 0 2))), (5, .int (iI (kn 0 3))), (6, .int (iI (kn 0 1))), (7, .long (lI (fbn (kn 0 1) false f i))), (10, .long (lI (pps kn false b f i))), (12, .int (iI ((i : Int) + 1)))]) (S1 := [.long (lI (pps kn false b f (i + 1)))]) (ws1 := (wTp g r qn qt qv kn kt kv sc ns tx tn pl)) rfl rfl (congrArg (fun x9 : Int => ([.long (lI x9)] : List Value)) (show ((pps kn false b f i) + 0 : Int) = pps kn false b f (i + 1) from (pps_f (fun h9 => c142 ((its_1 (by omega)).mp h9))))) ?_
        refine j_lstore (L1 := [(10, .long (lI (pps kn false b f (i + 1)))), (15, .int (iI 0)), (9, .int (iI 1)), (13, .long (lI (fbn (kn 0 1) false f (i + 1)))), (0, .ref (r 0)), (1, .int (iI f)), (2, .int (iI ((b : Int)))), (3, .int (iI 0)), (4, .int (iI (kn 0 2))), (5, .int (iI (kn 0 3))), (6, .int (iI (kn 0 1))), (7, .long (lI (fbn (kn 0 1) false f i))), (12, .int (iI ((i : Int) + 1)))]) C dL_arePulls_180 (by decide) rfl ?_
        refine j_lload C 3 dL_arePulls_182 rfl ?_
        refine j_lstore (L1 := [(7, .long (lI (fbn (kn 0 1) false f (i + 1)))), (10, .long (lI (pps kn false b f (i + 1)))), (15, .int (iI 0)), (9, .int (iI 1)), (13, .long (lI (fbn (kn 0 1) false f (i + 1)))), (0, .ref (r 0)), (1, .int (iI f)), (2, .int (iI ((b : Int)))), (3, .int (iI 0)), (4, .int (iI (kn 0 2))), (5, .int (iI (kn 0 3))), (6, .int (iI (kn 0 1))), (12, .int (iI ((i : Int) + 1)))]) C dL_arePulls_184 (by decide) rfl ?_
        refine j_iinc (L1 := [(12, .int (iI (((i : Int) + 1) + 1))), (7, .long (lI (fbn (kn 0 1) false f (i + 1)))), (10, .long (lI (pps kn false b f (i + 1)))), (15, .int (iI 0)), (9, .int (iI 1)), (13, .long (lI (fbn (kn 0 1) false f (i + 1)))), (0, .ref (r 0)), (1, .int (iI f)), (2, .int (iI ((b : Int)))), (3, .int (iI 0)), (4, .int (iI (kn 0 2))), (5, .int (iI (kn 0 3))), (6, .int (iI (kn 0 1)))]) C 12 dL_arePulls_186 rfl (by decide) rfl ?_
        refine j_goto (tgt := 51) C dL_arePulls_189 (by decide) ?_
        refine J.sub (L1 := [(0, .ref (r 0)), (1, .int (iI f)), (2, .int (iI ((b : Int)))), (3, .int (iI 0)), (4, .int (iI (kn 0 2))), (5, .int (iI (kn 0 3))), (6, .int (iI (kn 0 1))), (7, .long (lI (fbn (kn 0 1) false f (i + 1)))), (9, .int (iI 1)), (10, .long (lI (pps kn false b f (i + 1)))), (12, .int (iI (((i : Int) + 1) + 1)))]) [6, 7, 8, 9, 10, 11, 12, 1, 4, 2, 0] rfl ?_
        exact ih (i + 1) (by omega)
      · refine j_iconst C dL_arePulls_145 ?_
        refine j_goto (tgt := 164) C dL_arePulls_146 (by decide) ?_
        refine j_istore (L1 := [(15, .int (iI 1)), (9, .int (iI 1)), (13, .long (lI (fbn (kn 0 1) false f (i + 1)))), (0, .ref (r 0)), (1, .int (iI f)), (2, .int (iI ((b : Int)))), (3, .int (iI 0)), (4, .int (iI (kn 0 2))), (5, .int (iI (kn 0 3))), (6, .int (iI (kn 0 1))), (7, .long (lI (fbn (kn 0 1) false f i))), (10, .long (lI (pps kn false b f i))), (12, .int (iI ((i : Int) + 1)))]) C dL_arePulls_164 (by decide) rfl ?_
        refine j_lload C 11 dL_arePulls_166 rfl ?_
        refine j_iload C 0 dL_arePulls_168 rfl ?_
        refine j_if_eq (tgt := 178) C (by decide) dL_arePulls_170 (by decide) (fun c170 => absurd c170 (by decide)) (fun c170 => ?_)
        refine j_lload C 2 dL_arePulls_173 rfl ?_
        refine j_goto (tgt := 179) C dL_arePulls_175 (by decide) ?_
        refine j_ladd C dL_arePulls_179 ?_
        refine J.to (L1 := [(15, .int (iI 1)), (9, .int (iI 1)), (13, .long (lI (fbn (kn 0 1) false f (i + 1)))), (0, .ref (r 0)), (1, .int (iI f)), (2, .int (iI ((b : Int)))), (3, .int (iI 0)), (4, .int (iI (kn 0 2))), (5, .int (iI (kn 0 3))), (6, .int (iI (kn 0 1))), (7, .long (lI (fbn (kn 0 1) false f i))), (10, .long (lI (pps kn false b f i))), (12, .int (iI ((i : Int) + 1)))]) (S1 := [.long (lI (pps kn false b f (i + 1)))]) (ws1 := (wTp g r qn qt qv kn kt kv sc ns tx tn pl)) rfl rfl (congrArg (fun x9 : Int => ([.long (lI x9)] : List Value)) (show ((pps kn false b f i) + (fbn (kn 0 1) false f (i + 1)) : Int) = pps kn false b f (i + 1) from (pps_t ((its_1 (by omega)).mpr c142)))) ?_
        refine j_lstore (L1 := [(10, .long (lI (pps kn false b f (i + 1)))), (15, .int (iI 1)), (9, .int (iI 1)), (13, .long (lI (fbn (kn 0 1) false f (i + 1)))), (0, .ref (r 0)), (1, .int (iI f)), (2, .int (iI ((b : Int)))), (3, .int (iI 0)), (4, .int (iI (kn 0 2))), (5, .int (iI (kn 0 3))), (6, .int (iI (kn 0 1))), (7, .long (lI (fbn (kn 0 1) false f i))), (12, .int (iI ((i : Int) + 1)))]) C dL_arePulls_180 (by decide) rfl ?_
        refine j_lload C 3 dL_arePulls_182 rfl ?_
        refine j_lstore (L1 := [(7, .long (lI (fbn (kn 0 1) false f (i + 1)))), (10, .long (lI (pps kn false b f (i + 1)))), (15, .int (iI 1)), (9, .int (iI 1)), (13, .long (lI (fbn (kn 0 1) false f (i + 1)))), (0, .ref (r 0)), (1, .int (iI f)), (2, .int (iI ((b : Int)))), (3, .int (iI 0)), (4, .int (iI (kn 0 2))), (5, .int (iI (kn 0 3))), (6, .int (iI (kn 0 1))), (12, .int (iI ((i : Int) + 1)))]) C dL_arePulls_184 (by decide) rfl ?_
        refine j_iinc (L1 := [(12, .int (iI (((i : Int) + 1) + 1))), (7, .long (lI (fbn (kn 0 1) false f (i + 1)))), (10, .long (lI (pps kn false b f (i + 1)))), (15, .int (iI 1)), (9, .int (iI 1)), (13, .long (lI (fbn (kn 0 1) false f (i + 1)))), (0, .ref (r 0)), (1, .int (iI f)), (2, .int (iI ((b : Int)))), (3, .int (iI 0)), (4, .int (iI (kn 0 2))), (5, .int (iI (kn 0 3))), (6, .int (iI (kn 0 1)))]) C 12 dL_arePulls_186 rfl (by decide) rfl ?_
        refine j_goto (tgt := 51) C dL_arePulls_189 (by decide) ?_
        refine J.sub (L1 := [(0, .ref (r 0)), (1, .int (iI f)), (2, .int (iI ((b : Int)))), (3, .int (iI 0)), (4, .int (iI (kn 0 2))), (5, .int (iI (kn 0 3))), (6, .int (iI (kn 0 1))), (7, .long (lI (fbn (kn 0 1) false f (i + 1)))), (9, .int (iI 1)), (10, .long (lI (pps kn false b f (i + 1)))), (12, .int (iI (((i : Int) + 1) + 1)))]) [6, 7, 8, 9, 10, 11, 12, 1, 4, 2, 0] rfl ?_
        exact ih (i + 1) (by omega)

set_option maxRecDepth 100000 in
set_option maxHeartbeats 4000000 in
theorem c_L_arePulls_f (l : Launch) (hl : l.stackTraces = false) (g : Gh) (r : Nat → Nat) (qn qt : Nat → Nat) (qv : Nat → Nat → Nat) (kn kt : Nat → Nat → Int) (kv : Nat → Nat → Nat → Int) (sc : Int) (ns : Nat) (tx : Nat → Int) (tn : Nat) (pl : Int) (hT : TOK kn kv sc ns tx tn) (b : Nat) (hb : b < 4) (f : Int) (hf : 0 ≤ f ∧ f < 5000) : CT l g yL_arePulls cL_arePulls 16 (some FieldType.boolean) ({ frames := 9, cells := 0, slots := 0, locals := 169 }) [.ref (r 0), .int (iI f), .int (iI (((b : Nat) : Int))), .int (iI 0)] (wTp g r qn qt qv kn kt kv sc ns tx tn pl) (PE (some (.int (iI 1))) (wTp g r qn qt qv kn kt kv sc ns tx tn pl)) := by
  refine CT.intro (L0 := [(0, .ref (r 0)), (1, .int (iI f)), (2, .int (iI (((b : Nat) : Int)))), (3, .int (iI 0))]) (own := RL) (by decide) rfl (Nat.le_of_ble_eq_true rfl) rfl ?_
  intro pX eX sX mX argsX belowX methX cX A C hr hlk
  obtain ⟨hP, hE, hF, hrow, hwt, hht, hlen, hlat, hkept⟩ := id hT.1.1
  have hk := hT.1.1
  have hpf := passF_r hk
  have he := pps_end (h := false) hk hb (f := f)
  have h1 := plf_mono hk (h := false) (b := b) (f := f) (f' := f + 1) (by omega) (by omega)
  have h2 := plf_rng hk (h := false) (b := b) (f := f) (by omega)
  have h3 := plf_rng hk (h := false) (b := b) (f := f + 1) (by omega)
  have h4 := plf_tf hk (b := b) (f := f) (by omega)
  have h5 := plf_rng hk (h := true) (b := b) (f := f) (by omega)
  have h6 := plf_rng hk (h := false) (b := b) (f := f) (by omega)
  refine j_aload_n C 0 dL_arePulls_0 rfl rfl ?_
  refine j_iconst C dL_arePulls_1 ?_
  refine j_callSW (As := [.ref (r 0), .int (iI 3)]) (rest := []) C yw_L_value qw443 (w_value l g r qn qt qv kn kt kv sc ns tx tn pl 3 hT (by omega)) (by decide) rfl dL_arePulls_2 rfl (Nat.le_of_ble_eq_true rfl) (by decide) pf0 rfl (fun r9 w9 hq9 => ?_)
  obtain ⟨rfl, rfl⟩ := hq9
  refine J.to (L1 := [(0, .ref (r 0)), (1, .int (iI f)), (2, .int (iI (((b : Nat) : Int)))), (3, .int (iI 0))]) (S1 := [.int (iI (kn 0 2))]) (ws1 := (wTp g r qn qt qv kn kt kv sc ns tx tn pl)) rfl rfl rfl ?_
  refine j_istore (L1 := [(4, .int (iI (kn 0 2))), (0, .ref (r 0)), (1, .int (iI f)), (2, .int (iI (((b : Nat) : Int)))), (3, .int (iI 0))]) C dL_arePulls_5 (by decide) rfl ?_
  refine j_aload_n C 1 dL_arePulls_7 rfl rfl ?_
  refine j_iconst C dL_arePulls_8 ?_
  refine j_callSW (As := [.ref (r 0), .int (iI 4)]) (rest := []) C yw_L_value qw443 (w_value l g r qn qt qv kn kt kv sc ns tx tn pl 4 hT (by omega)) (by decide) rfl dL_arePulls_9 rfl (Nat.le_of_ble_eq_true rfl) (by decide) pf0 rfl (fun r9 w9 hq9 => ?_)
  obtain ⟨rfl, rfl⟩ := hq9
  refine J.to (L1 := [(4, .int (iI (kn 0 2))), (0, .ref (r 0)), (1, .int (iI f)), (2, .int (iI (((b : Nat) : Int)))), (3, .int (iI 0))]) (S1 := [.int (iI (kn 0 3))]) (ws1 := (wTp g r qn qt qv kn kt kv sc ns tx tn pl)) rfl rfl rfl ?_
  refine j_istore (L1 := [(5, .int (iI (kn 0 3))), (4, .int (iI (kn 0 2))), (0, .ref (r 0)), (1, .int (iI f)), (2, .int (iI (((b : Nat) : Int)))), (3, .int (iI 0))]) C dL_arePulls_12 (by decide) rfl ?_
  refine j_aload_n C 2 dL_arePulls_14 rfl rfl ?_
  refine j_iconst C dL_arePulls_15 ?_
  refine j_callSW (As := [.ref (r 0), .int (iI 2)]) (rest := []) C yw_L_value qw443 (w_value l g r qn qt qv kn kt kv sc ns tx tn pl 2 hT (by omega)) (by decide) rfl dL_arePulls_16 rfl (Nat.le_of_ble_eq_true rfl) (by decide) pf0 rfl (fun r9 w9 hq9 => ?_)
  obtain ⟨rfl, rfl⟩ := hq9
  refine J.to (L1 := [(5, .int (iI (kn 0 3))), (4, .int (iI (kn 0 2))), (0, .ref (r 0)), (1, .int (iI f)), (2, .int (iI (((b : Nat) : Int)))), (3, .int (iI 0))]) (S1 := [.int (iI (kn 0 1))]) (ws1 := (wTp g r qn qt qv kn kt kv sc ns tx tn pl)) rfl rfl rfl ?_
  refine j_istore (L1 := [(6, .int (iI (kn 0 1))), (5, .int (iI (kn 0 3))), (4, .int (iI (kn 0 2))), (0, .ref (r 0)), (1, .int (iI f)), (2, .int (iI (((b : Nat) : Int)))), (3, .int (iI 0))]) C dL_arePulls_19 (by decide) rfl ?_
  refine j_aload_n C 3 dL_arePulls_21 rfl rfl ?_
  refine j_iload_n C 4 dL_arePulls_22 rfl rfl ?_
  refine j_iconst C dL_arePulls_23 ?_
  refine j_iload_n C 6 dL_arePulls_24 rfl rfl ?_
  refine j_callSW (As := [.ref (r 0), .int (iI f), .int (iI 0), .int (iI 0)]) (rest := []) C yw_L_force qw595 (w_force l g r qn qt qv kn kt kv sc ns tx tn pl f 0 false hT (by omega) (by omega)) (by decide) rfl dL_arePulls_25 rfl (Nat.le_of_ble_eq_true rfl) (by decide) pf0 rfl (fun r9 w9 hq9 => ?_)
  obtain ⟨rfl, rfl⟩ := hq9
  refine J.to (L1 := [(6, .int (iI (kn 0 1))), (5, .int (iI (kn 0 3))), (4, .int (iI (kn 0 2))), (0, .ref (r 0)), (1, .int (iI f)), (2, .int (iI (((b : Nat) : Int)))), (3, .int (iI 0))]) (S1 := [.long (lI (fbn (kn 0 1) false f 0))]) (ws1 := (wTp g r qn qt qv kn kt kv sc ns tx tn pl)) rfl rfl rfl ?_
  refine j_lstore (L1 := [(7, .long (lI (fbn (kn 0 1) false f 0))), (6, .int (iI (kn 0 1))), (5, .int (iI (kn 0 3))), (4, .int (iI (kn 0 2))), (0, .ref (r 0)), (1, .int (iI f)), (2, .int (iI (((b : Nat) : Int)))), (3, .int (iI 0))]) C dL_arePulls_28 (by decide) rfl ?_
  refine j_lload C 0 dL_arePulls_30 rfl ?_
  refine j_iload_n C 5 dL_arePulls_32 rfl rfl ?_
  refine j_i2l C (by omega) dL_arePulls_33 ?_
  refine j_lsameF (tgt := 42) C (rfl) dL_arePulls_34 dL_arePulls_35 (by decide) ?_
  refine j_iconst C dL_arePulls_38 ?_
  refine j_goto (tgt := 43) C dL_arePulls_39 (by decide) ?_
  refine j_istore (L1 := [(9, .int (iI 1)), (7, .long (lI (fbn (kn 0 1) false f 0))), (6, .int (iI (kn 0 1))), (5, .int (iI (kn 0 3))), (4, .int (iI (kn 0 2))), (0, .ref (r 0)), (1, .int (iI f)), (2, .int (iI (((b : Nat) : Int)))), (3, .int (iI 0))]) C dL_arePulls_43 (by decide) rfl ?_
  refine j_lconst (v := 0) C dL_arePulls_45 rfl ?_
  refine j_lstore (L1 := [(10, .long (lI 0)), (9, .int (iI 1)), (7, .long (lI (fbn (kn 0 1) false f 0))), (6, .int (iI (kn 0 1))), (5, .int (iI (kn 0 3))), (4, .int (iI (kn 0 2))), (0, .ref (r 0)), (1, .int (iI f)), (2, .int (iI (((b : Nat) : Int)))), (3, .int (iI 0))]) C dL_arePulls_46 (by decide) rfl ?_
  refine j_iconst C dL_arePulls_48 ?_
  refine j_istore (L1 := [(12, .int (iI 1)), (10, .long (lI 0)), (9, .int (iI 1)), (7, .long (lI (fbn (kn 0 1) false f 0))), (6, .int (iI (kn 0 1))), (5, .int (iI (kn 0 3))), (4, .int (iI (kn 0 2))), (0, .ref (r 0)), (1, .int (iI f)), (2, .int (iI (((b : Nat) : Int)))), (3, .int (iI 0))]) C dL_arePulls_49 (by decide) rfl ?_
  refine J.sub (L1 := [(0, .ref (r 0)), (1, .int (iI f)), (2, .int (iI (((b : Nat) : Int)))), (3, .int (iI 0)), (4, .int (iI (kn 0 2))), (5, .int (iI (kn 0 3))), (6, .int (iI (kn 0 1))), (7, .long (lI (fbn (kn 0 1) false f 0))), (9, .int (iI 1)), (10, .long (lI 0)), (12, .int (iI 1))]) [7, 8, 9, 10, 6, 5, 4, 3, 2, 1, 0] rfl ?_
  refine J.to (L1 := [(0, .ref (r 0)), (1, .int (iI f)), (2, .int (iI ((b : Int)))), (3, .int (iI 0)), (4, .int (iI (kn 0 2))), (5, .int (iI (kn 0 3))), (6, .int (iI (kn 0 1))), (7, .long (lI (fbn (kn 0 1) false f 0))), (9, .int (iI 1)), (10, .long (lI (pps kn false b f 0))), (12, .int (iI (((0 : Nat) : Int) + 1)))]) (S1 := []) (ws1 := (wTp g r qn qt qv kn kt kv sc ns tx tn pl)) rfl rfl rfl ?_
  refine lp_pulls_f C hl hT hb hf (N0 := (passF kn).toNat) (by omega) ?_ (passF kn).toNat 0 (by omega)
  refine j_iload C 4 dL_arePulls_192 rfl ?_
  refine j_if_eq (tgt := 247) C (by decide) dL_arePulls_194 (by decide) (fun c194 => absurd c194 (by decide)) (fun c194 => ?_)
  refine j_aload_n C 0 dL_arePulls_197 rfl rfl ?_
  refine j_iload_n C 2 dL_arePulls_198 rfl rfl ?_
  refine j_iload_n C 1 dL_arePulls_199 rfl rfl ?_
  refine j_iload_n C 3 dL_arePulls_200 rfl rfl ?_
  refine j_callSW (As := [.ref (r 0), .int (iI ((b : Int))), .int (iI f), .int (iI 0)]) (rest := []) C yw_L_pull qw614 (w_pull l g r qn qt qv kn kt kv sc ns tx tn pl (b : Int) f false hT (by omega) (by omega)) (by decide) rfl dL_arePulls_201 rfl (Nat.le_of_ble_eq_true rfl) (by decide) pf0 rfl (fun r9 w9 hq9 => ?_)
  obtain ⟨rfl, rfl⟩ := hq9
  refine J.to (L1 := [(0, .ref (r 0)), (1, .int (iI f)), (2, .int (iI ((b : Int)))), (3, .int (iI 0)), (9, .int (iI 1)), (10, .long (lI (pps kn false b f (passF kn).toNat)))]) (S1 := [.long (lI (plf kn false b f))]) (ws1 := (wTp g r qn qt qv kn kt kv sc ns tx tn pl)) rfl rfl rfl ?_
  refine j_lload C 5 dL_arePulls_204 rfl ?_
  refine j_lsameF (tgt := 247) C (he) dL_arePulls_206 dL_arePulls_207 (by decide) ?_
  refine j_aload_n C 0 dL_arePulls_210 rfl rfl ?_
  refine j_iload_n C 2 dL_arePulls_211 rfl rfl ?_
  refine j_iload_n C 1 dL_arePulls_212 rfl rfl ?_
  refine j_iconst C dL_arePulls_213 ?_
  refine j_iadd C dL_arePulls_214 ?_
  refine j_iload_n C 3 dL_arePulls_215 rfl rfl ?_
  refine j_callSW (As := [.ref (r 0), .int (iI ((b : Int))), .int (iI (f + 1)), .int (iI 0)]) (rest := []) C yw_L_pull qw614 (w_pull l g r qn qt qv kn kt kv sc ns tx tn pl (b : Int) (f + 1) false hT (by omega) (by omega)) (by decide) rfl dL_arePulls_216 rfl (Nat.le_of_ble_eq_true rfl) (by decide) pf0 rfl (fun r9 w9 hq9 => ?_)
  obtain ⟨rfl, rfl⟩ := hq9
  refine J.to (L1 := [(0, .ref (r 0)), (1, .int (iI f)), (2, .int (iI ((b : Int)))), (3, .int (iI 0)), (9, .int (iI 1)), (10, .long (lI (pps kn false b f (passF kn).toNat)))]) (S1 := [.long (lI (plf kn false b (f + 1)))]) (ws1 := (wTp g r qn qt qv kn kt kv sc ns tx tn pl)) rfl rfl rfl ?_
  refine j_lload C 5 dL_arePulls_219 rfl ?_
  refine j_lif_lt (tgt := 247) C (by omega) (by omega) dL_arePulls_221 dL_arePulls_222 (by decide) (fun c221 => absurd c221 (by omega)) (fun c221 => ?_)
  refine j_aload_n C 0 dL_arePulls_225 rfl rfl ?_
  refine j_iload_n C 2 dL_arePulls_226 rfl rfl ?_
  refine j_iload_n C 1 dL_arePulls_227 rfl rfl ?_
  refine j_iconst C dL_arePulls_228 ?_
  refine j_callSW (As := [.ref (r 0), .int (iI ((b : Int))), .int (iI f), .int (iI 0)]) (rest := []) C yw_L_pull qw614 (w_pull l g r qn qt qv kn kt kv sc ns tx tn pl (b : Int) f false hT (by omega) (by omega)) (by decide) rfl dL_arePulls_229 rfl (Nat.le_of_ble_eq_true rfl) (by decide) pf0 rfl (fun r9 w9 hq9 => ?_)
  obtain ⟨rfl, rfl⟩ := hq9
  refine J.to (L1 := [(0, .ref (r 0)), (1, .int (iI f)), (2, .int (iI ((b : Int)))), (3, .int (iI 0)), (9, .int (iI 1)), (10, .long (lI (pps kn false b f (passF kn).toNat)))]) (S1 := [.long (lI (plf kn false b f))]) (ws1 := (wTp g r qn qt qv kn kt kv sc ns tx tn pl)) rfl rfl rfl ?_
  refine j_aload_n C 0 dL_arePulls_232 rfl rfl ?_
  refine j_iload_n C 2 dL_arePulls_233 rfl rfl ?_
  refine j_iload_n C 1 dL_arePulls_234 rfl rfl ?_
  refine j_iconst C dL_arePulls_235 ?_
  refine j_callSW (As := [.ref (r 0), .int (iI ((b : Int))), .int (iI f), .int (iI 1)]) (rest := [.long (lI (plf kn false b f))]) C yw_L_pull qw614 (w_pull l g r qn qt qv kn kt kv sc ns tx tn pl (b : Int) f true hT (by omega) (by omega)) (by decide) rfl dL_arePulls_236 rfl (Nat.le_of_ble_eq_true rfl) (by decide) pf0 rfl (fun r9 w9 hq9 => ?_)
  obtain ⟨rfl, rfl⟩ := hq9
  refine J.to (L1 := [(0, .ref (r 0)), (1, .int (iI f)), (2, .int (iI ((b : Int)))), (3, .int (iI 0)), (9, .int (iI 1)), (10, .long (lI (pps kn false b f (passF kn).toNat)))]) (S1 := [.long (lI (plf kn true b f)), .long (lI (plf kn false b f))]) (ws1 := (wTp g r qn qt qv kn kt kv sc ns tx tn pl)) rfl rfl rfl ?_
  refine j_lif_lt (tgt := 247) C (by omega) (by omega) dL_arePulls_239 dL_arePulls_240 (by decide) (fun c239 => absurd c239 (by omega)) (fun c239 => ?_)
  refine j_iconst C dL_arePulls_243 ?_
  refine j_goto (tgt := 248) C dL_arePulls_244 (by decide) ?_
  exact j_zret C hr hlk rfl dL_arePulls_248 ⟨rfl, rfl⟩ (by decide) (by decide)

