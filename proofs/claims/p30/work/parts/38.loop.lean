/-! the law's loop -/
theorem svs_3 {sc : Int} (h : 0 ≤ sc ∧ sc ≤ 4) : 3 ≤ svs (svs (svs sc)) ∧ svs (svs (svs sc)) ≤ 4 := by
  rcases (by omega : sc = 0 ∨ sc = 1 ∨ sc = 2 ∨ sc = 3 ∨ sc = 4) with rfl | rfl | rfl | rfl | rfl <;> decide
set_option maxRecDepth 100000 in
set_option maxHeartbeats 8000000 in
theorem law_loop {p : Program} {l : Launch} {e : Env} {s : State} {m : MethodId} {args : Array Value} {below : List Frame} {meth : Method} {c : Code} {A : Nat → Prop} {Q : State → Prop} {g : Gh} {r : Nat → Nat} {qn qt : Nat → Nat} {qv : Nat → Nat → Nat} {b0 n0 : Nat} {xs : Nat → Int32} (C : Cx p g s m args c cL_law 8 RL A) (hl : l.stackTraces = false) (hX : va_X b0 n0 xs s s.heap) (hbl : b0 < s.heap.size) (hbA : ¬ A b0) (hn0 : n0 ≤ 260) {c0 s0 : Nat} (hroom : c0 + 772 ≤ 709023 ∧ s0 + 4512 ≤ 6974398) (kk : ∀ (kn kt : Nat → Nat → Int) (kv : Nat → Nat → Nat → Int) (sc : Int) (ns : Nat) (tx : Nat → Int) (tn : Nat) (pl : Int), IV 152 kn kv sc ns tx tn → J p l e room_1 s m args below meth c g A 8 259 [(0, .ref b0), (1, .ref (r 0)), (2, .int (iI 1))] [] (wTp g r qn qt qv kn kt kv sc ns tx tn pl) (c0 + 750) (s0 + 4380) Q) : ∀ (d i : Nat), i + d = 30 → ∀ (kn kt : Nat → Nat → Int) (kv : Nat → Nat → Nat → Int) (sc : Int) (ns : Nat) (tx : Nat → Int) (tn : Nat) (pl : Int), IV (5 * i + 2) kn kv sc ns tx tn → J p l e room_1 s m args below meth c g A 8 55 [(0, .ref b0), (1, .ref (r 0)), (2, .int (iI 1)), (3, .int (iI ((i : Int))))] [] (wTp g r qn qt qv kn kt kv sc ns tx tn pl) (c0 + 25 * i) (s0 + 146 * i) Q := by
  intro d
  induction d with
  | zero =>
    intro i hi kn kt kv sc ns tx tn pl hI
    have hi9 : 30 = i := by omega
    subst hi9
    refine j_iload_n C 3 dL_law_55 rfl rfl ?_
    refine j_bipush C dL_law_56 (by decide) ?_
    refine j_icmp_ge (tgt := 259) C (by omega) (by decide) dL_law_58 (by decide) (fun c58 => ?_) (fun c58 => absurd c58 (by omega))
    refine J.sub (L1 := [(0, .ref b0), (1, .ref (r 0)), (2, .int (iI 1))]) [0, 1, 2] rfl ?_
    exact kk kn kt kv sc ns tx tn pl hI
  | succ d ih =>
    intro i hi kn kt kv sc ns tx tn pl hI
    have hT := hI.1
    refine j_iload_n C 3 dL_law_55 rfl rfl ?_
    refine j_bipush C dL_law_56 (by decide) ?_
    refine j_icmp_ge (tgt := 259) C (by omega) (by decide) dL_law_58 (by decide) (fun c58 => absurd c58 (by omega)) (fun c58 => ?_)
    refine j_iload_n C 2 dL_law_61 rfl rfl ?_
    refine j_if_eq (tgt := 259) C (by decide) dL_law_62 (by decide) (fun c62 => absurd c62 (by decide)) (fun c62 => ?_)
    refine j_aload_n C 0 dL_law_65 rfl rfl ?_
    refine j_iconst C dL_law_66 ?_
    refine j_iload_n C 3 dL_law_67 rfl rfl ?_
    refine j_imul C dL_law_68 ?_
    refine j_callCell (k := 2 * (i : Int)) (rest := []) C hX hbl hbA hn0 (by omega) qw149 (by decide) ⟨by show _ ≤ 709023; omega, by show _ ≤ 6974398; omega⟩ dL_law_69 (Nat.le_of_ble_eq_true rfl) (fun z1 hz1 => ?_)
    refine j_istore (L1 := [(4, .int (iI z1)), (0, .ref b0), (1, .ref (r 0)), (2, .int (iI 1)), (3, .int (iI ((i : Int))))]) C dL_law_72 (by decide) rfl ?_
    refine j_aload_n C 1 dL_law_74 rfl rfl ?_
    refine j_iconst C dL_law_75 ?_
    refine j_iload_n C 4 dL_law_76 rfl rfl ?_
    refine j_imul C dL_law_77 ?_
    refine j_iconst C dL_law_78 ?_
    refine j_iadd C dL_law_79 ?_
    refine j_callCell (k := 2 * (i : Int) + 1) (rest := []) C hX hbl hbA hn0 (by omega) qw149 (by decide) ⟨by show _ ≤ 709023; omega, by show _ ≤ 6974398; omega⟩ dL_law_80 (Nat.le_of_ble_eq_true rfl) (fun z2 hz2 => ?_)
    refine j_istore (L1 := [(5, .int (iI z2)), (4, .int (iI z1)), (0, .ref b0), (1, .ref (r 0)), (2, .int (iI 1)), (3, .int (iI ((i : Int))))]) C dL_law_83 (by decide) rfl ?_
    refine j_aload_n C 3 dL_law_85 rfl rfl ?_
    refine j_iload C 1 dL_law_86 rfl ?_
    refine j_iconst C dL_law_88 ?_
    refine j_ishrA C dL_law_89 (fun z3 hz3 => ?_)
    refine j_bipush C dL_law_90 (by decide) ?_
    refine j_callS (As := [.int (iI z3), .int (iI 14)]) (rest := [.ref (r 0)]) C ys_L_low qw153 (c_L_low l g z3 14 (by omega) (by omega)) (by decide) rfl dL_law_92 rfl (Nat.le_of_ble_eq_true rfl) ⟨by show _ + 0 ≤ 709023; omega, by show _ + 0 ≤ 6974398; omega⟩ (pfE (wTp g r qn qt qv kn kt kv sc ns tx tn pl)) rfl (fun r9 w9 hq9 => ?_)
    obtain ⟨rfl, rfl⟩ := hq9
    refine J.to (L1 := [(5, .int (iI z2)), (4, .int (iI z1)), (0, .ref b0), (1, .ref (r 0)), (2, .int (iI 1)), (3, .int (iI ((i : Int))))]) (S1 := [.int (iI (lwF z3 14)), .ref (r 0)]) (ws1 := (wTp g r qn qt qv kn kt kv sc ns tx tn pl)) rfl rfl rfl ?_
    refine J.wide (k := (c0 + 25 * i + 0)) (n := (s0 + 146 * i + 0)) (Nat.le_refl _) (Nat.le_refl _) ?_
    have hl4 := lwF_rng (x := z3) (n := 14) (by decide)
    refine j_iload C 1 dL_law_95 rfl ?_
    refine j_bipush C dL_law_97 (by decide) ?_
    refine j_ishrA C dL_law_99 (fun z5 hz5 => ?_)
    refine j_iload C 0 dL_law_100 rfl ?_
    refine j_callS (As := [.ref (r 0), .int (iI (lwF z3 14)), .int (iI z5), .int (iI z2)]) (rest := []) C ys_L_acts qw627 (c_L_acts l hl g r qn qt qv kn kt kv sc ns tx tn pl (5 * i + 2) hI (lwF z3 14) (by omega) z5 z2 (by omega) (by omega)) (by decide) rfl dL_law_102 rfl (Nat.le_of_ble_eq_true rfl) ⟨by show _ + 3 ≤ 709023; omega, by show _ + 14 ≤ 6974398; omega⟩ pf0 rfl (fun r9 w9 hq9 => ?_)
    obtain ⟨rfl, kn_6, kt_7, kv_8, sc_9, ns_10, tx_11, tn_12, pl_13, rfl, hI_14⟩ := hq9
    refine J.to (L1 := [(5, .int (iI z2)), (4, .int (iI z1)), (0, .ref b0), (1, .ref (r 0)), (2, .int (iI 1)), (3, .int (iI ((i : Int))))]) (S1 := [.int (iI 1)]) (ws1 := (wTp g r qn qt qv kn_6 kt_7 kv_8 sc_9 ns_10 tx_11 tn_12 pl_13)) rfl rfl rfl ?_
    refine J.wide (k := (c0 + 25 * i + 3)) (n := (s0 + 146 * i + 14)) (Nat.le_refl _) (Nat.le_refl _) ?_
    refine j_if_eq (tgt := 139) C (by decide) dL_law_105 (by decide) (fun c105 => absurd c105 (by decide)) (fun c105 => ?_)
    refine j_aload_n C 3 dL_law_108 rfl rfl ?_
    refine j_iload C 1 dL_law_109 rfl ?_
    refine j_iload C 0 dL_law_111 rfl ?_
    refine j_ixorA C dL_law_113 (fun z15 hz15 => ?_)
    refine j_callS (As := [.ref (r 0), .int (iI z15)]) (rest := []) C ys_L_fits qw607 (c_L_fits l hl g r qn qt qv kn_6 kt_7 kv_8 sc_9 ns_10 tx_11 tn_12 pl_13 hI_14.1 ⟨hI_14.2.1.1, by have h9 := hI_14.2.1.2; omega⟩ z15 (by omega)) (by decide) rfl dL_law_114 rfl (Nat.le_of_ble_eq_true rfl) ⟨by show _ + 0 ≤ 709023; omega, by show _ + 0 ≤ 6974398; omega⟩ pf0 rfl (fun r9 w9 hq9 => ?_)
    obtain ⟨rfl, kt_16, rfl⟩ := hq9
    refine J.to (L1 := [(5, .int (iI z2)), (4, .int (iI z1)), (0, .ref b0), (1, .ref (r 0)), (2, .int (iI 1)), (3, .int (iI ((i : Int))))]) (S1 := [.int (iI 1)]) (ws1 := (wTp g r qn qt qv kn_6 kt_16 kv_8 sc_9 ns_10 tx_11 tn_12 pl_13)) rfl rfl rfl ?_
    refine J.wide (k := (c0 + 25 * i + 3)) (n := (s0 + 146 * i + 14)) (Nat.le_refl _) (Nat.le_refl _) ?_
    refine j_if_eq (tgt := 139) C (by decide) dL_law_117 (by decide) (fun c117 => absurd c117 (by decide)) (fun c117 => ?_)
    refine j_iload_n C 5 dL_law_120 rfl rfl ?_
    refine j_bipush C dL_law_121 (by decide) ?_
    refine j_irem C (by omega) (by omega) dL_law_123 ?_
    refine J.to (L1 := [(5, .int (iI z2)), (4, .int (iI z1)), (0, .ref b0), (1, .ref (r 0)), (2, .int (iI 1)), (3, .int (iI ((i : Int))))]) (S1 := [.int (iI ((i : Int) % 7))]) (ws1 := (wTp g r qn qt qv kn_6 kt_16 kv_8 sc_9 ns_10 tx_11 tn_12 pl_13)) rfl rfl (by rw [tmod_pos (show (0 : Int) ≤ (i : Int) by omega)]) ?_
    refine j_iconst C dL_law_124 ?_
    have kj135_17 : ∀ (ktj17 : Nat → Nat → Int), J p l e room_1 s m args below meth c g A 8 135 [(5, .int (iI z2)), (4, .int (iI z1)), (0, .ref b0), (1, .ref (r 0)), (2, .int (iI 1)), (3, .int (iI ((i : Int))))] [] (wTp g r qn qt qv kn_6 ktj17 kv_8 sc_9 ns_10 tx_11 tn_12 pl_13) (c0 + 25 * i + 25) (s0 + 146 * i + 146) Q := by
      intro ktj17
      refine j_iconst C dL_law_135 ?_
      refine j_goto (tgt := 140) C dL_law_136 (by decide) ?_
      refine j_istore_n (L1 := [(2, .int (iI 1)), (5, .int (iI z2)), (4, .int (iI z1)), (0, .ref b0), (1, .ref (r 0)), (3, .int (iI ((i : Int))))]) C dL_law_140 rfl (by decide) rfl ?_
      refine j_iload_n C 0 dL_law_141 rfl rfl ?_
      refine j_if_eq (tgt := 253) C (by decide) dL_law_142 (by decide) (fun c142 => absurd c142 (by decide)) (fun c142 => ?_)
      refine j_iload_n C 5 dL_law_145 rfl rfl ?_
      refine j_iconst C dL_law_146 ?_
      refine j_irem C (by omega) (by omega) dL_law_147 ?_
      refine J.to (L1 := [(2, .int (iI 1)), (5, .int (iI z2)), (4, .int (iI z1)), (0, .ref b0), (1, .ref (r 0)), (3, .int (iI ((i : Int))))]) (S1 := [.int (iI ((i : Int) % 5))]) (ws1 := (wTp g r qn qt qv kn_6 ktj17 kv_8 sc_9 ns_10 tx_11 tn_12 pl_13)) rfl rfl (by rw [tmod_pos (show (0 : Int) ≤ (i : Int) by omega)]) ?_
      refine j_iconst C dL_law_148 ?_
      refine j_icmp_ne (tgt := 253) C (by omega) (by decide) dL_law_149 (by decide) (fun c149 => ?_) (fun c149 => ?_)
      · refine j_iinc (L1 := [(3, .int (iI (((i : Int)) + 1))), (2, .int (iI 1)), (5, .int (iI z2)), (4, .int (iI z1)), (0, .ref b0), (1, .ref (r 0))]) C 5 dL_law_253 rfl (by decide) rfl ?_
        refine j_goto (tgt := 55) C dL_law_256 (by decide) ?_
        refine J.sub (L1 := [(0, .ref b0), (1, .ref (r 0)), (2, .int (iI 1)), (3, .int (iI (((i : Int)) + 1)))]) [4, 5, 1, 0] rfl ?_
        refine J.wide (k := c0 + 25 * (i + 1)) (n := s0 + 146 * (i + 1)) (by omega) (by omega) ?_
        exact ih (i + 1) (by omega) kn_6 ktj17 kv_8 sc_9 ns_10 tx_11 tn_12 pl_13 (hI_14.le (by omega))
      · refine j_aload_n C 4 dL_law_152 rfl rfl ?_
        refine j_callS (As := [.ref (r 0)]) (rest := []) C ys_L_sum qw438 (c_L_sum l hl g r qn qt qv kn_6 ktj17 kv_8 sc_9 ns_10 tx_11 tn_12 pl_13 hI_14.1) (by decide) rfl dL_law_153 rfl (Nat.le_of_ble_eq_true rfl) ⟨by show _ + 0 ≤ 709023; omega, by show _ + 0 ≤ 6974398; omega⟩ pf0 rfl (fun r9 w9 hq9 => ?_)
        obtain ⟨rfl, rfl⟩ := hq9
        refine J.to (L1 := [(2, .int (iI 1)), (5, .int (iI z2)), (4, .int (iI z1)), (0, .ref b0), (1, .ref (r 0)), (3, .int (iI ((i : Int))))]) (S1 := [.long (lI (sumV kn_6))]) (ws1 := (wTp g r qn qt qv kn_6 ktj17 kv_8 sc_9 ns_10 tx_11 tn_12 pl_13)) rfl rfl rfl ?_
        refine J.wide (k := (c0 + 25 * i + 25)) (n := (s0 + 146 * i + 146)) (Nat.le_refl _) (Nat.le_refl _) ?_
        have hk := hI_14.1.1.1
        have hsc := hI_14.1.2.2.1
        have hns := hI_14.1.2.2.2.1
        refine j_lstore (L1 := [(6, .long (lI (sumV kn_6))), (2, .int (iI 1)), (5, .int (iI z2)), (4, .int (iI z1)), (0, .ref b0), (1, .ref (r 0)), (3, .int (iI ((i : Int))))]) C dL_law_156 (by decide) rfl ?_
        refine j_aload_n C 5 dL_law_158 rfl rfl ?_
        refine j_iload C 2 dL_law_159 rfl ?_
        refine j_iconst C dL_law_161 ?_
        refine j_callS (As := [.int (iI z2), .int (iI 4)]) (rest := [.ref (r 0)]) C ys_L_low qw153 (c_L_low l g z2 4 (by omega) (by omega)) (by decide) rfl dL_law_162 rfl (Nat.le_of_ble_eq_true rfl) ⟨by show _ + 0 ≤ 709023; omega, by show _ + 0 ≤ 6974398; omega⟩ (pfE (wTp g r qn qt qv kn_6 ktj17 kv_8 sc_9 ns_10 tx_11 tn_12 pl_13)) rfl (fun r9 w9 hq9 => ?_)
        obtain ⟨rfl, rfl⟩ := hq9
        refine J.to (L1 := [(6, .long (lI (sumV kn_6))), (2, .int (iI 1)), (5, .int (iI z2)), (4, .int (iI z1)), (0, .ref b0), (1, .ref (r 0)), (3, .int (iI ((i : Int))))]) (S1 := [.int (iI (lwF z2 4)), .ref (r 0)]) (ws1 := (wTp g r qn qt qv kn_6 ktj17 kv_8 sc_9 ns_10 tx_11 tn_12 pl_13)) rfl rfl rfl ?_
        refine J.wide (k := (c0 + 25 * i + 25)) (n := (s0 + 146 * i + 146)) (Nat.le_refl _) (Nat.le_refl _) ?_
        have hl19 := lwF_rng (x := z2) (n := 4) (by decide)
        refine j_iload C 2 dL_law_165 rfl ?_
        refine j_iconst C dL_law_167 ?_
        refine j_ishrA C dL_law_168 (fun z20 hz20 => ?_)
        refine j_ldc (x := 50001) C qw682 (by decide) dL_law_169 ?_
        refine j_callS (As := [.int (iI z20), .int (iI 50001)]) (rest := [.int (iI (lwF z2 4)), .ref (r 0)]) C ys_L_low qw153 (c_L_low l g z20 50001 (by omega) (by omega)) (by decide) rfl dL_law_171 rfl (Nat.le_of_ble_eq_true rfl) ⟨by show _ + 0 ≤ 709023; omega, by show _ + 0 ≤ 6974398; omega⟩ (pfE (wTp g r qn qt qv kn_6 ktj17 kv_8 sc_9 ns_10 tx_11 tn_12 pl_13)) rfl (fun r9 w9 hq9 => ?_)
        obtain ⟨rfl, rfl⟩ := hq9
        refine J.to (L1 := [(6, .long (lI (sumV kn_6))), (2, .int (iI 1)), (5, .int (iI z2)), (4, .int (iI z1)), (0, .ref b0), (1, .ref (r 0)), (3, .int (iI ((i : Int))))]) (S1 := [.int (iI (lwF z20 50001)), .int (iI (lwF z2 4)), .ref (r 0)]) (ws1 := (wTp g r qn qt qv kn_6 ktj17 kv_8 sc_9 ns_10 tx_11 tn_12 pl_13)) rfl rfl rfl ?_
        refine J.wide (k := (c0 + 25 * i + 25)) (n := (s0 + 146 * i + 146)) (Nat.le_refl _) (Nat.le_refl _) ?_
        have hl21 := lwF_rng (x := z20) (n := 50001) (by decide)
        refine j_callSW (As := [.ref (r 0), .int (iI (lwF z2 4)), .int (iI (lwF z20 50001))]) (rest := []) C yw_L_weight qw157 (w_weight l g r qn qt qv kn_6 ktj17 kv_8 sc_9 ns_10 tx_11 tn_12 pl_13 (lwF z2 4) (lwF z20 50001) hI_14.1 (by omega) (by omega)) (by decide) rfl dL_law_174 rfl (Nat.le_of_ble_eq_true rfl) ⟨by show _ + 0 ≤ 709023; omega, by show _ + 0 ≤ 6974398; omega⟩ pf0 rfl (fun r9 w9 hq9 => ?_)
        obtain ⟨rfl, rfl⟩ := hq9
        refine J.to (L1 := [(6, .long (lI (sumV kn_6))), (2, .int (iI 1)), (5, .int (iI z2)), (4, .int (iI z1)), (0, .ref b0), (1, .ref (r 0)), (3, .int (iI ((i : Int))))]) (S1 := [.int (iI ((kn_6 3 (lwF z2 4).toNat)))]) (ws1 := (wTp g r qn qt qv (va_up kn_6 3 (va_up (kn_6 3) (lwF z2 4).toNat (lwF z20 50001))) ktj17 (svk kn_6 kv_8 ns_10) (svs sc_9) (svn ns_10) tx_11 tn_12 pl_13)) rfl rfl rfl ?_
        refine J.wide (k := (c0 + 25 * i + 25)) (n := (s0 + 146 * i + 146)) (Nat.le_refl _) (Nat.le_refl _) ?_
        have hw1 := hk.2.2.2.2.1 (lwF z2 4).toNat (by omega)
        have hI1 := hI_14.w (b := (lwF z2 4).toNat) (w := lwF z20 50001) (by omega)
        refine j_if_lt (tgt := 251) C (by omega) dL_law_177 (by decide) (fun c177 => absurd c177 (by omega)) (fun c177 => ?_)
        refine j_aload_n C 5 dL_law_180 rfl rfl ?_
        refine j_iload C 3 dL_law_181 rfl ?_
        refine j_bipush C dL_law_183 (by decide) ?_
        refine j_callS (As := [.int (iI z1), .int (iI 31)]) (rest := [.ref (r 0)]) C ys_L_low qw153 (c_L_low l g z1 31 (by omega) (by omega)) (by decide) rfl dL_law_185 rfl (Nat.le_of_ble_eq_true rfl) ⟨by show _ + 0 ≤ 709023; omega, by show _ + 0 ≤ 6974398; omega⟩ (pfE (wTp g r qn qt qv (va_up kn_6 3 (va_up (kn_6 3) (lwF z2 4).toNat (lwF z20 50001))) ktj17 (svk kn_6 kv_8 ns_10) (svs sc_9) (svn ns_10) tx_11 tn_12 pl_13)) rfl (fun r9 w9 hq9 => ?_)
        obtain ⟨rfl, rfl⟩ := hq9
        refine J.to (L1 := [(6, .long (lI (sumV kn_6))), (2, .int (iI 1)), (5, .int (iI z2)), (4, .int (iI z1)), (0, .ref b0), (1, .ref (r 0)), (3, .int (iI ((i : Int))))]) (S1 := [.int (iI (lwF z1 31)), .ref (r 0)]) (ws1 := (wTp g r qn qt qv (va_up kn_6 3 (va_up (kn_6 3) (lwF z2 4).toNat (lwF z20 50001))) ktj17 (svk kn_6 kv_8 ns_10) (svs sc_9) (svn ns_10) tx_11 tn_12 pl_13)) rfl rfl rfl ?_
        refine J.wide (k := (c0 + 25 * i + 25)) (n := (s0 + 146 * i + 146)) (Nat.le_refl _) (Nat.le_refl _) ?_
        have hl22 := lwF_rng (x := z1) (n := 31) (by decide)
        refine j_callSW (As := [.ref (r 0), .int (iI (lwF z1 31))]) (rest := []) C yw_L_friction qw307 (w_friction l g r qn qt qv (va_up kn_6 3 (va_up (kn_6 3) (lwF z2 4).toNat (lwF z20 50001))) ktj17 (svk kn_6 kv_8 ns_10) (svs sc_9) (svn ns_10) tx_11 tn_12 pl_13 (lwF z1 31) hI1.1 (by omega)) (by decide) rfl dL_law_188 rfl (Nat.le_of_ble_eq_true rfl) ⟨by show _ + 0 ≤ 709023; omega, by show _ + 0 ≤ 6974398; omega⟩ pf0 rfl (fun r9 w9 hq9 => ?_)
        obtain ⟨rfl, rfl⟩ := hq9
        refine J.to (L1 := [(6, .long (lI (sumV kn_6))), (2, .int (iI 1)), (5, .int (iI z2)), (4, .int (iI z1)), (0, .ref b0), (1, .ref (r 0)), (3, .int (iI ((i : Int))))]) (S1 := [.int (iI (((va_up kn_6 3 (va_up (kn_6 3) (lwF z2 4).toNat (lwF z20 50001))) 0 1)))]) (ws1 := (wTp g r qn qt qv (va_up (va_up kn_6 3 (va_up (kn_6 3) (lwF z2 4).toNat (lwF z20 50001))) 0 (va_up ((va_up kn_6 3 (va_up (kn_6 3) (lwF z2 4).toNat (lwF z20 50001))) 0) 1 (lwF z1 31))) ktj17 (svk (va_up kn_6 3 (va_up (kn_6 3) (lwF z2 4).toNat (lwF z20 50001))) (svk kn_6 kv_8 ns_10) (svn ns_10)) (svs (svs sc_9)) (svn (svn ns_10)) tx_11 tn_12 pl_13)) rfl rfl rfl ?_
        refine J.wide (k := (c0 + 25 * i + 25)) (n := (s0 + 146 * i + 146)) (Nat.le_refl _) (Nat.le_refl _) ?_
        have hf1 := hI1.1.1.1.2.2.1
        have hI2 := hI1.f (f := lwF z1 31) (by omega)
        refine j_if_lt (tgt := 251) C (by omega) dL_law_191 (by decide) (fun c191 => absurd c191 (by omega)) (fun c191 => ?_)
        refine j_aload_n C 5 dL_law_194 rfl rfl ?_
        refine j_iload C 2 dL_law_195 rfl ?_
        refine j_sipush C dL_law_197 (by decide) ?_
        refine j_callS (As := [.int (iI z2), .int (iI 3000)]) (rest := [.ref (r 0)]) C ys_L_low qw153 (c_L_low l g z2 3000 (by omega) (by omega)) (by decide) rfl dL_law_200 rfl (Nat.le_of_ble_eq_true rfl) ⟨by show _ + 0 ≤ 709023; omega, by show _ + 0 ≤ 6974398; omega⟩ (pfE (wTp g r qn qt qv (va_up (va_up kn_6 3 (va_up (kn_6 3) (lwF z2 4).toNat (lwF z20 50001))) 0 (va_up ((va_up kn_6 3 (va_up (kn_6 3) (lwF z2 4).toNat (lwF z20 50001))) 0) 1 (lwF z1 31))) ktj17 (svk (va_up kn_6 3 (va_up (kn_6 3) (lwF z2 4).toNat (lwF z20 50001))) (svk kn_6 kv_8 ns_10) (svn ns_10)) (svs (svs sc_9)) (svn (svn ns_10)) tx_11 tn_12 pl_13)) rfl (fun r9 w9 hq9 => ?_)
        obtain ⟨rfl, rfl⟩ := hq9
        refine J.to (L1 := [(6, .long (lI (sumV kn_6))), (2, .int (iI 1)), (5, .int (iI z2)), (4, .int (iI z1)), (0, .ref b0), (1, .ref (r 0)), (3, .int (iI ((i : Int))))]) (S1 := [.int (iI (lwF z2 3000)), .ref (r 0)]) (ws1 := (wTp g r qn qt qv (va_up (va_up kn_6 3 (va_up (kn_6 3) (lwF z2 4).toNat (lwF z20 50001))) 0 (va_up ((va_up kn_6 3 (va_up (kn_6 3) (lwF z2 4).toNat (lwF z20 50001))) 0) 1 (lwF z1 31))) ktj17 (svk (va_up kn_6 3 (va_up (kn_6 3) (lwF z2 4).toNat (lwF z20 50001))) (svk kn_6 kv_8 ns_10) (svn ns_10)) (svs (svs sc_9)) (svn (svn ns_10)) tx_11 tn_12 pl_13)) rfl rfl rfl ?_
        refine J.wide (k := (c0 + 25 * i + 25)) (n := (s0 + 146 * i + 146)) (Nat.le_refl _) (Nat.le_refl _) ?_
        have hl23 := lwF_rng (x := z2) (n := 3000) (by decide)
        refine j_iload C 3 dL_law_203 rfl ?_
        refine j_ldc (x := 50000) C qw683 (by decide) dL_law_205 ?_
        refine j_callS (As := [.int (iI z1), .int (iI 50000)]) (rest := [.int (iI (lwF z2 3000)), .ref (r 0)]) C ys_L_low qw153 (c_L_low l g z1 50000 (by omega) (by omega)) (by decide) rfl dL_law_207 rfl (Nat.le_of_ble_eq_true rfl) ⟨by show _ + 0 ≤ 709023; omega, by show _ + 0 ≤ 6974398; omega⟩ (pfE (wTp g r qn qt qv (va_up (va_up kn_6 3 (va_up (kn_6 3) (lwF z2 4).toNat (lwF z20 50001))) 0 (va_up ((va_up kn_6 3 (va_up (kn_6 3) (lwF z2 4).toNat (lwF z20 50001))) 0) 1 (lwF z1 31))) ktj17 (svk (va_up kn_6 3 (va_up (kn_6 3) (lwF z2 4).toNat (lwF z20 50001))) (svk kn_6 kv_8 ns_10) (svn ns_10)) (svs (svs sc_9)) (svn (svn ns_10)) tx_11 tn_12 pl_13)) rfl (fun r9 w9 hq9 => ?_)
        obtain ⟨rfl, rfl⟩ := hq9
        refine J.to (L1 := [(6, .long (lI (sumV kn_6))), (2, .int (iI 1)), (5, .int (iI z2)), (4, .int (iI z1)), (0, .ref b0), (1, .ref (r 0)), (3, .int (iI ((i : Int))))]) (S1 := [.int (iI (lwF z1 50000)), .int (iI (lwF z2 3000)), .ref (r 0)]) (ws1 := (wTp g r qn qt qv (va_up (va_up kn_6 3 (va_up (kn_6 3) (lwF z2 4).toNat (lwF z20 50001))) 0 (va_up ((va_up kn_6 3 (va_up (kn_6 3) (lwF z2 4).toNat (lwF z20 50001))) 0) 1 (lwF z1 31))) ktj17 (svk (va_up kn_6 3 (va_up (kn_6 3) (lwF z2 4).toNat (lwF z20 50001))) (svk kn_6 kv_8 ns_10) (svn ns_10)) (svs (svs sc_9)) (svn (svn ns_10)) tx_11 tn_12 pl_13)) rfl rfl rfl ?_
        refine J.wide (k := (c0 + 25 * i + 25)) (n := (s0 + 146 * i + 146)) (Nat.le_refl _) (Nat.le_refl _) ?_
        have hl24 := lwF_rng (x := z1) (n := 50000) (by decide)
        refine j_callSW (As := [.ref (r 0), .int (iI (lwF z2 3000)), .int (iI (lwF z1 50000))]) (rest := []) C yw_L_hauls qw368 (w_hauls l g r qn qt qv (va_up (va_up kn_6 3 (va_up (kn_6 3) (lwF z2 4).toNat (lwF z20 50001))) 0 (va_up ((va_up kn_6 3 (va_up (kn_6 3) (lwF z2 4).toNat (lwF z20 50001))) 0) 1 (lwF z1 31))) ktj17 (svk (va_up kn_6 3 (va_up (kn_6 3) (lwF z2 4).toNat (lwF z20 50001))) (svk kn_6 kv_8 ns_10) (svn ns_10)) (svs (svs sc_9)) (svn (svn ns_10)) tx_11 tn_12 pl_13 (lwF z2 3000) (lwF z1 50000) hI2.1 (by omega) (by omega)) (by decide) rfl dL_law_210 rfl (Nat.le_of_ble_eq_true rfl) ⟨by show _ + 0 ≤ 709023; omega, by show _ + 0 ≤ 6974398; omega⟩ pf0 rfl (fun r9 w9 hq9 => ?_)
        obtain ⟨rfl, rfl⟩ := hq9
        refine J.to (L1 := [(6, .long (lI (sumV kn_6))), (2, .int (iI 1)), (5, .int (iI z2)), (4, .int (iI z1)), (0, .ref b0), (1, .ref (r 0)), (3, .int (iI ((i : Int))))]) (S1 := [.int (iI (((mup (lwF z2 3000) (lwF z1 50000) (va_up (va_up kn_6 3 (va_up (kn_6 3) (lwF z2 4).toNat (lwF z20 50001))) 0 (va_up ((va_up kn_6 3 (va_up (kn_6 3) (lwF z2 4).toNat (lwF z20 50001))) 0) 1 (lwF z1 31)))).2)))]) (ws1 := (wTp g r qn qt qv ((mup (lwF z2 3000) (lwF z1 50000) (va_up (va_up kn_6 3 (va_up (kn_6 3) (lwF z2 4).toNat (lwF z20 50001))) 0 (va_up ((va_up kn_6 3 (va_up (kn_6 3) (lwF z2 4).toNat (lwF z20 50001))) 0) 1 (lwF z1 31)))).1) ktj17 (svk (va_up (va_up kn_6 3 (va_up (kn_6 3) (lwF z2 4).toNat (lwF z20 50001))) 0 (va_up ((va_up kn_6 3 (va_up (kn_6 3) (lwF z2 4).toNat (lwF z20 50001))) 0) 1 (lwF z1 31))) (svk (va_up kn_6 3 (va_up (kn_6 3) (lwF z2 4).toNat (lwF z20 50001))) (svk kn_6 kv_8 ns_10) (svn ns_10)) (svn (svn ns_10))) (svs (svs (svs sc_9))) (svn (svn (svn ns_10))) tx_11 tn_12 pl_13)) rfl rfl rfl ?_
        refine J.wide (k := (c0 + 25 * i + 25)) (n := (s0 + 146 * i + 146)) (Nat.le_refl _) (Nat.le_refl _) ?_
        have hm1 := (HF_mup (k := va_up (va_up kn_6 3 (va_up (kn_6 3) (lwF z2 4).toNat (lwF z20 50001))) 0 (va_up ((va_up kn_6 3 (va_up (kn_6 3) (lwF z2 4).toNat (lwF z20 50001))) 0) 1 (lwF z1 31))) hI2.1.1.1 hI2.1.1.2 (f := lwF z2 3000) (v := lwF z1 50000) (by omega) (by omega)).1.1
        have hm2 := (HF_mup (k := va_up (va_up kn_6 3 (va_up (kn_6 3) (lwF z2 4).toNat (lwF z20 50001))) 0 (va_up ((va_up kn_6 3 (va_up (kn_6 3) (lwF z2 4).toNat (lwF z20 50001))) 0) 1 (lwF z1 31))) hI2.1.1.1 hI2.1.1.2 (f := lwF z2 3000) (v := lwF z1 50000) (by omega) (by omega)).1.2
        have hI3 := hI2.up (f := lwF z2 3000) (m := lwF z1 50000) (by omega) (by omega)
        have hs3 := svs_3 hsc
        refine j_if_lt (tgt := 251) C (by omega) dL_law_213 (by decide) (fun c213 => absurd c213 (by omega)) (fun c213 => ?_)
        refine j_aload_n C 5 dL_law_216 rfl rfl ?_
        refine j_callSW (As := [.ref (r 0)]) (rest := []) C yw_L_back qw430 (w_back l g r qn qt qv ((mup (lwF z2 3000) (lwF z1 50000) (va_up (va_up kn_6 3 (va_up (kn_6 3) (lwF z2 4).toNat (lwF z20 50001))) 0 (va_up ((va_up kn_6 3 (va_up (kn_6 3) (lwF z2 4).toNat (lwF z20 50001))) 0) 1 (lwF z1 31)))).1) ktj17 (svk (va_up (va_up kn_6 3 (va_up (kn_6 3) (lwF z2 4).toNat (lwF z20 50001))) 0 (va_up ((va_up kn_6 3 (va_up (kn_6 3) (lwF z2 4).toNat (lwF z20 50001))) 0) 1 (lwF z1 31))) (svk (va_up kn_6 3 (va_up (kn_6 3) (lwF z2 4).toNat (lwF z20 50001))) (svk kn_6 kv_8 ns_10) (svn ns_10)) (svn (svn ns_10))) (svs (svs (svs sc_9))) (svn (svn (svn ns_10))) tx_11 tn_12 pl_13 ⟨by omega, by omega⟩ (svn_lt _)) (by decide) rfl dL_law_217 rfl (Nat.le_of_ble_eq_true rfl) ⟨by show _ + 0 ≤ 709023; omega, by show _ + 0 ≤ 6974398; omega⟩ pf0 rfl (fun r9 w9 hq9 => ?_)
        obtain ⟨rfl, rfl⟩ := hq9
        refine J.to (L1 := [(6, .long (lI (sumV kn_6))), (2, .int (iI 1)), (5, .int (iI z2)), (4, .int (iI z1)), (0, .ref b0), (1, .ref (r 0)), (3, .int (iI ((i : Int))))]) (S1 := [.int (iI (((svs (svs (svs sc_9))) - 1)))]) (ws1 := (wTp g r qn qt qv (cpS ((svk (va_up (va_up kn_6 3 (va_up (kn_6 3) (lwF z2 4).toNat (lwF z20 50001))) 0 (va_up ((va_up kn_6 3 (va_up (kn_6 3) (lwF z2 4).toNat (lwF z20 50001))) 0) 1 (lwF z1 31))) (svk (va_up kn_6 3 (va_up (kn_6 3) (lwF z2 4).toNat (lwF z20 50001))) (svk kn_6 kv_8 ns_10) (svn ns_10)) (svn (svn ns_10))) (((svn (svn (svn ns_10))) + 3) % 4)) ((mup (lwF z2 3000) (lwF z1 50000) (va_up (va_up kn_6 3 (va_up (kn_6 3) (lwF z2 4).toNat (lwF z20 50001))) 0 (va_up ((va_up kn_6 3 (va_up (kn_6 3) (lwF z2 4).toNat (lwF z20 50001))) 0) 1 (lwF z1 31)))).1)) ktj17 (svk (va_up (va_up kn_6 3 (va_up (kn_6 3) (lwF z2 4).toNat (lwF z20 50001))) 0 (va_up ((va_up kn_6 3 (va_up (kn_6 3) (lwF z2 4).toNat (lwF z20 50001))) 0) 1 (lwF z1 31))) (svk (va_up kn_6 3 (va_up (kn_6 3) (lwF z2 4).toNat (lwF z20 50001))) (svk kn_6 kv_8 ns_10) (svn ns_10)) (svn (svn ns_10))) ((svs (svs (svs sc_9))) - 1) (((svn (svn (svn ns_10))) + 3) % 4) tx_11 tn_12 pl_13)) rfl rfl rfl ?_
        refine J.wide (k := (c0 + 25 * i + 25)) (n := (s0 + 146 * i + 146)) (Nat.le_refl _) (Nat.le_refl _) ?_
        have hI4 := hI3.undo (by omega)
        refine j_if_lt (tgt := 251) C (by omega) dL_law_220 (by decide) (fun c220 => absurd c220 (by omega)) (fun c220 => ?_)
        refine j_aload_n C 5 dL_law_223 rfl rfl ?_
        refine j_callSW (As := [.ref (r 0)]) (rest := []) C yw_L_back qw430 (w_back l g r qn qt qv (cpS ((svk (va_up (va_up kn_6 3 (va_up (kn_6 3) (lwF z2 4).toNat (lwF z20 50001))) 0 (va_up ((va_up kn_6 3 (va_up (kn_6 3) (lwF z2 4).toNat (lwF z20 50001))) 0) 1 (lwF z1 31))) (svk (va_up kn_6 3 (va_up (kn_6 3) (lwF z2 4).toNat (lwF z20 50001))) (svk kn_6 kv_8 ns_10) (svn ns_10)) (svn (svn ns_10))) (((svn (svn (svn ns_10))) + 3) % 4)) ((mup (lwF z2 3000) (lwF z1 50000) (va_up (va_up kn_6 3 (va_up (kn_6 3) (lwF z2 4).toNat (lwF z20 50001))) 0 (va_up ((va_up kn_6 3 (va_up (kn_6 3) (lwF z2 4).toNat (lwF z20 50001))) 0) 1 (lwF z1 31)))).1)) ktj17 (svk (va_up (va_up kn_6 3 (va_up (kn_6 3) (lwF z2 4).toNat (lwF z20 50001))) 0 (va_up ((va_up kn_6 3 (va_up (kn_6 3) (lwF z2 4).toNat (lwF z20 50001))) 0) 1 (lwF z1 31))) (svk (va_up kn_6 3 (va_up (kn_6 3) (lwF z2 4).toNat (lwF z20 50001))) (svk kn_6 kv_8 ns_10) (svn ns_10)) (svn (svn ns_10))) ((svs (svs (svs sc_9))) - 1) (((svn (svn (svn ns_10))) + 3) % 4) tx_11 tn_12 pl_13 ⟨by omega, by omega⟩ (Nat.mod_lt _ (by decide))) (by decide) rfl dL_law_224 rfl (Nat.le_of_ble_eq_true rfl) ⟨by show _ + 0 ≤ 709023; omega, by show _ + 0 ≤ 6974398; omega⟩ pf0 rfl (fun r9 w9 hq9 => ?_)
        obtain ⟨rfl, rfl⟩ := hq9
        refine J.to (L1 := [(6, .long (lI (sumV kn_6))), (2, .int (iI 1)), (5, .int (iI z2)), (4, .int (iI z1)), (0, .ref b0), (1, .ref (r 0)), (3, .int (iI ((i : Int))))]) (S1 := [.int (iI ((((svs (svs (svs sc_9))) - 1) - 1)))]) (ws1 := (wTp g r qn qt qv (cpS ((svk (va_up (va_up kn_6 3 (va_up (kn_6 3) (lwF z2 4).toNat (lwF z20 50001))) 0 (va_up ((va_up kn_6 3 (va_up (kn_6 3) (lwF z2 4).toNat (lwF z20 50001))) 0) 1 (lwF z1 31))) (svk (va_up kn_6 3 (va_up (kn_6 3) (lwF z2 4).toNat (lwF z20 50001))) (svk kn_6 kv_8 ns_10) (svn ns_10)) (svn (svn ns_10))) (((((svn (svn (svn ns_10))) + 3) % 4) + 3) % 4)) (cpS ((svk (va_up (va_up kn_6 3 (va_up (kn_6 3) (lwF z2 4).toNat (lwF z20 50001))) 0 (va_up ((va_up kn_6 3 (va_up (kn_6 3) (lwF z2 4).toNat (lwF z20 50001))) 0) 1 (lwF z1 31))) (svk (va_up kn_6 3 (va_up (kn_6 3) (lwF z2 4).toNat (lwF z20 50001))) (svk kn_6 kv_8 ns_10) (svn ns_10)) (svn (svn ns_10))) (((svn (svn (svn ns_10))) + 3) % 4)) ((mup (lwF z2 3000) (lwF z1 50000) (va_up (va_up kn_6 3 (va_up (kn_6 3) (lwF z2 4).toNat (lwF z20 50001))) 0 (va_up ((va_up kn_6 3 (va_up (kn_6 3) (lwF z2 4).toNat (lwF z20 50001))) 0) 1 (lwF z1 31)))).1))) ktj17 (svk (va_up (va_up kn_6 3 (va_up (kn_6 3) (lwF z2 4).toNat (lwF z20 50001))) 0 (va_up ((va_up kn_6 3 (va_up (kn_6 3) (lwF z2 4).toNat (lwF z20 50001))) 0) 1 (lwF z1 31))) (svk (va_up kn_6 3 (va_up (kn_6 3) (lwF z2 4).toNat (lwF z20 50001))) (svk kn_6 kv_8 ns_10) (svn ns_10)) (svn (svn ns_10))) (((svs (svs (svs sc_9))) - 1) - 1) (((((svn (svn (svn ns_10))) + 3) % 4) + 3) % 4) tx_11 tn_12 pl_13)) rfl rfl rfl ?_
        refine J.wide (k := (c0 + 25 * i + 25)) (n := (s0 + 146 * i + 146)) (Nat.le_refl _) (Nat.le_refl _) ?_
        have hI5 := hI4.undo (by omega)
        refine j_if_lt (tgt := 251) C (by omega) dL_law_227 (by decide) (fun c227 => absurd c227 (by omega)) (fun c227 => ?_)
        refine j_aload_n C 5 dL_law_230 rfl rfl ?_
        refine j_callSW (As := [.ref (r 0)]) (rest := []) C yw_L_back qw430 (w_back l g r qn qt qv (cpS ((svk (va_up (va_up kn_6 3 (va_up (kn_6 3) (lwF z2 4).toNat (lwF z20 50001))) 0 (va_up ((va_up kn_6 3 (va_up (kn_6 3) (lwF z2 4).toNat (lwF z20 50001))) 0) 1 (lwF z1 31))) (svk (va_up kn_6 3 (va_up (kn_6 3) (lwF z2 4).toNat (lwF z20 50001))) (svk kn_6 kv_8 ns_10) (svn ns_10)) (svn (svn ns_10))) (((((svn (svn (svn ns_10))) + 3) % 4) + 3) % 4)) (cpS ((svk (va_up (va_up kn_6 3 (va_up (kn_6 3) (lwF z2 4).toNat (lwF z20 50001))) 0 (va_up ((va_up kn_6 3 (va_up (kn_6 3) (lwF z2 4).toNat (lwF z20 50001))) 0) 1 (lwF z1 31))) (svk (va_up kn_6 3 (va_up (kn_6 3) (lwF z2 4).toNat (lwF z20 50001))) (svk kn_6 kv_8 ns_10) (svn ns_10)) (svn (svn ns_10))) (((svn (svn (svn ns_10))) + 3) % 4)) ((mup (lwF z2 3000) (lwF z1 50000) (va_up (va_up kn_6 3 (va_up (kn_6 3) (lwF z2 4).toNat (lwF z20 50001))) 0 (va_up ((va_up kn_6 3 (va_up (kn_6 3) (lwF z2 4).toNat (lwF z20 50001))) 0) 1 (lwF z1 31)))).1))) ktj17 (svk (va_up (va_up kn_6 3 (va_up (kn_6 3) (lwF z2 4).toNat (lwF z20 50001))) 0 (va_up ((va_up kn_6 3 (va_up (kn_6 3) (lwF z2 4).toNat (lwF z20 50001))) 0) 1 (lwF z1 31))) (svk (va_up kn_6 3 (va_up (kn_6 3) (lwF z2 4).toNat (lwF z20 50001))) (svk kn_6 kv_8 ns_10) (svn ns_10)) (svn (svn ns_10))) (((svs (svs (svs sc_9))) - 1) - 1) (((((svn (svn (svn ns_10))) + 3) % 4) + 3) % 4) tx_11 tn_12 pl_13 ⟨by omega, by omega⟩ (Nat.mod_lt _ (by decide))) (by decide) rfl dL_law_231 rfl (Nat.le_of_ble_eq_true rfl) ⟨by show _ + 0 ≤ 709023; omega, by show _ + 0 ≤ 6974398; omega⟩ pf0 rfl (fun r9 w9 hq9 => ?_)
        obtain ⟨rfl, rfl⟩ := hq9
        refine J.to (L1 := [(6, .long (lI (sumV kn_6))), (2, .int (iI 1)), (5, .int (iI z2)), (4, .int (iI z1)), (0, .ref b0), (1, .ref (r 0)), (3, .int (iI ((i : Int))))]) (S1 := [.int (iI (((((svs (svs (svs sc_9))) - 1) - 1) - 1)))]) (ws1 := (wTp g r qn qt qv (cpS ((svk (va_up (va_up kn_6 3 (va_up (kn_6 3) (lwF z2 4).toNat (lwF z20 50001))) 0 (va_up ((va_up kn_6 3 (va_up (kn_6 3) (lwF z2 4).toNat (lwF z20 50001))) 0) 1 (lwF z1 31))) (svk (va_up kn_6 3 (va_up (kn_6 3) (lwF z2 4).toNat (lwF z20 50001))) (svk kn_6 kv_8 ns_10) (svn ns_10)) (svn (svn ns_10))) (((((((svn (svn (svn ns_10))) + 3) % 4) + 3) % 4) + 3) % 4)) (cpS ((svk (va_up (va_up kn_6 3 (va_up (kn_6 3) (lwF z2 4).toNat (lwF z20 50001))) 0 (va_up ((va_up kn_6 3 (va_up (kn_6 3) (lwF z2 4).toNat (lwF z20 50001))) 0) 1 (lwF z1 31))) (svk (va_up kn_6 3 (va_up (kn_6 3) (lwF z2 4).toNat (lwF z20 50001))) (svk kn_6 kv_8 ns_10) (svn ns_10)) (svn (svn ns_10))) (((((svn (svn (svn ns_10))) + 3) % 4) + 3) % 4)) (cpS ((svk (va_up (va_up kn_6 3 (va_up (kn_6 3) (lwF z2 4).toNat (lwF z20 50001))) 0 (va_up ((va_up kn_6 3 (va_up (kn_6 3) (lwF z2 4).toNat (lwF z20 50001))) 0) 1 (lwF z1 31))) (svk (va_up kn_6 3 (va_up (kn_6 3) (lwF z2 4).toNat (lwF z20 50001))) (svk kn_6 kv_8 ns_10) (svn ns_10)) (svn (svn ns_10))) (((svn (svn (svn ns_10))) + 3) % 4)) ((mup (lwF z2 3000) (lwF z1 50000) (va_up (va_up kn_6 3 (va_up (kn_6 3) (lwF z2 4).toNat (lwF z20 50001))) 0 (va_up ((va_up kn_6 3 (va_up (kn_6 3) (lwF z2 4).toNat (lwF z20 50001))) 0) 1 (lwF z1 31)))).1)))) ktj17 (svk (va_up (va_up kn_6 3 (va_up (kn_6 3) (lwF z2 4).toNat (lwF z20 50001))) 0 (va_up ((va_up kn_6 3 (va_up (kn_6 3) (lwF z2 4).toNat (lwF z20 50001))) 0) 1 (lwF z1 31))) (svk (va_up kn_6 3 (va_up (kn_6 3) (lwF z2 4).toNat (lwF z20 50001))) (svk kn_6 kv_8 ns_10) (svn ns_10)) (svn (svn ns_10))) ((((svs (svs (svs sc_9))) - 1) - 1) - 1) (((((((svn (svn (svn ns_10))) + 3) % 4) + 3) % 4) + 3) % 4) tx_11 tn_12 pl_13)) rfl rfl rfl ?_
        refine J.wide (k := (c0 + 25 * i + 25)) (n := (s0 + 146 * i + 146)) (Nat.le_refl _) (Nat.le_refl _) ?_
        have hI6 := hI5.undo (by omega)
        refine j_if_lt (tgt := 251) C (by omega) dL_law_234 (by decide) (fun c234 => absurd c234 (by omega)) (fun c234 => ?_)
        refine j_aload_n C 5 dL_law_237 rfl rfl ?_
        refine j_callS (As := [.ref (r 0)]) (rest := []) C ys_L_sum qw438 (c_L_sum l hl g r qn qt qv (cpS ((svk (va_up (va_up kn_6 3 (va_up (kn_6 3) (lwF z2 4).toNat (lwF z20 50001))) 0 (va_up ((va_up kn_6 3 (va_up (kn_6 3) (lwF z2 4).toNat (lwF z20 50001))) 0) 1 (lwF z1 31))) (svk (va_up kn_6 3 (va_up (kn_6 3) (lwF z2 4).toNat (lwF z20 50001))) (svk kn_6 kv_8 ns_10) (svn ns_10)) (svn (svn ns_10))) (((((((svn (svn (svn ns_10))) + 3) % 4) + 3) % 4) + 3) % 4)) (cpS ((svk (va_up (va_up kn_6 3 (va_up (kn_6 3) (lwF z2 4).toNat (lwF z20 50001))) 0 (va_up ((va_up kn_6 3 (va_up (kn_6 3) (lwF z2 4).toNat (lwF z20 50001))) 0) 1 (lwF z1 31))) (svk (va_up kn_6 3 (va_up (kn_6 3) (lwF z2 4).toNat (lwF z20 50001))) (svk kn_6 kv_8 ns_10) (svn ns_10)) (svn (svn ns_10))) (((((svn (svn (svn ns_10))) + 3) % 4) + 3) % 4)) (cpS ((svk (va_up (va_up kn_6 3 (va_up (kn_6 3) (lwF z2 4).toNat (lwF z20 50001))) 0 (va_up ((va_up kn_6 3 (va_up (kn_6 3) (lwF z2 4).toNat (lwF z20 50001))) 0) 1 (lwF z1 31))) (svk (va_up kn_6 3 (va_up (kn_6 3) (lwF z2 4).toNat (lwF z20 50001))) (svk kn_6 kv_8 ns_10) (svn ns_10)) (svn (svn ns_10))) (((svn (svn (svn ns_10))) + 3) % 4)) ((mup (lwF z2 3000) (lwF z1 50000) (va_up (va_up kn_6 3 (va_up (kn_6 3) (lwF z2 4).toNat (lwF z20 50001))) 0 (va_up ((va_up kn_6 3 (va_up (kn_6 3) (lwF z2 4).toNat (lwF z20 50001))) 0) 1 (lwF z1 31)))).1)))) ktj17 (svk (va_up (va_up kn_6 3 (va_up (kn_6 3) (lwF z2 4).toNat (lwF z20 50001))) 0 (va_up ((va_up kn_6 3 (va_up (kn_6 3) (lwF z2 4).toNat (lwF z20 50001))) 0) 1 (lwF z1 31))) (svk (va_up kn_6 3 (va_up (kn_6 3) (lwF z2 4).toNat (lwF z20 50001))) (svk kn_6 kv_8 ns_10) (svn ns_10)) (svn (svn ns_10))) ((((svs (svs (svs sc_9))) - 1) - 1) - 1) (((((((svn (svn (svn ns_10))) + 3) % 4) + 3) % 4) + 3) % 4) tx_11 tn_12 pl_13 hI6.1) (by decide) rfl dL_law_238 rfl (Nat.le_of_ble_eq_true rfl) ⟨by show _ + 0 ≤ 709023; omega, by show _ + 0 ≤ 6974398; omega⟩ pf0 rfl (fun r9 w9 hq9 => ?_)
        obtain ⟨rfl, rfl⟩ := hq9
        refine J.to (L1 := [(6, .long (lI (sumV kn_6))), (2, .int (iI 1)), (5, .int (iI z2)), (4, .int (iI z1)), (0, .ref b0), (1, .ref (r 0)), (3, .int (iI ((i : Int))))]) (S1 := [.long (lI (sumV (cpS ((svk (va_up (va_up kn_6 3 (va_up (kn_6 3) (lwF z2 4).toNat (lwF z20 50001))) 0 (va_up ((va_up kn_6 3 (va_up (kn_6 3) (lwF z2 4).toNat (lwF z20 50001))) 0) 1 (lwF z1 31))) (svk (va_up kn_6 3 (va_up (kn_6 3) (lwF z2 4).toNat (lwF z20 50001))) (svk kn_6 kv_8 ns_10) (svn ns_10)) (svn (svn ns_10))) (((((((svn (svn (svn ns_10))) + 3) % 4) + 3) % 4) + 3) % 4)) (cpS ((svk (va_up (va_up kn_6 3 (va_up (kn_6 3) (lwF z2 4).toNat (lwF z20 50001))) 0 (va_up ((va_up kn_6 3 (va_up (kn_6 3) (lwF z2 4).toNat (lwF z20 50001))) 0) 1 (lwF z1 31))) (svk (va_up kn_6 3 (va_up (kn_6 3) (lwF z2 4).toNat (lwF z20 50001))) (svk kn_6 kv_8 ns_10) (svn ns_10)) (svn (svn ns_10))) (((((svn (svn (svn ns_10))) + 3) % 4) + 3) % 4)) (cpS ((svk (va_up (va_up kn_6 3 (va_up (kn_6 3) (lwF z2 4).toNat (lwF z20 50001))) 0 (va_up ((va_up kn_6 3 (va_up (kn_6 3) (lwF z2 4).toNat (lwF z20 50001))) 0) 1 (lwF z1 31))) (svk (va_up kn_6 3 (va_up (kn_6 3) (lwF z2 4).toNat (lwF z20 50001))) (svk kn_6 kv_8 ns_10) (svn ns_10)) (svn (svn ns_10))) (((svn (svn (svn ns_10))) + 3) % 4)) ((mup (lwF z2 3000) (lwF z1 50000) (va_up (va_up kn_6 3 (va_up (kn_6 3) (lwF z2 4).toNat (lwF z20 50001))) 0 (va_up ((va_up kn_6 3 (va_up (kn_6 3) (lwF z2 4).toNat (lwF z20 50001))) 0) 1 (lwF z1 31)))).1))))))]) (ws1 := (wTp g r qn qt qv (cpS ((svk (va_up (va_up kn_6 3 (va_up (kn_6 3) (lwF z2 4).toNat (lwF z20 50001))) 0 (va_up ((va_up kn_6 3 (va_up (kn_6 3) (lwF z2 4).toNat (lwF z20 50001))) 0) 1 (lwF z1 31))) (svk (va_up kn_6 3 (va_up (kn_6 3) (lwF z2 4).toNat (lwF z20 50001))) (svk kn_6 kv_8 ns_10) (svn ns_10)) (svn (svn ns_10))) (((((((svn (svn (svn ns_10))) + 3) % 4) + 3) % 4) + 3) % 4)) (cpS ((svk (va_up (va_up kn_6 3 (va_up (kn_6 3) (lwF z2 4).toNat (lwF z20 50001))) 0 (va_up ((va_up kn_6 3 (va_up (kn_6 3) (lwF z2 4).toNat (lwF z20 50001))) 0) 1 (lwF z1 31))) (svk (va_up kn_6 3 (va_up (kn_6 3) (lwF z2 4).toNat (lwF z20 50001))) (svk kn_6 kv_8 ns_10) (svn ns_10)) (svn (svn ns_10))) (((((svn (svn (svn ns_10))) + 3) % 4) + 3) % 4)) (cpS ((svk (va_up (va_up kn_6 3 (va_up (kn_6 3) (lwF z2 4).toNat (lwF z20 50001))) 0 (va_up ((va_up kn_6 3 (va_up (kn_6 3) (lwF z2 4).toNat (lwF z20 50001))) 0) 1 (lwF z1 31))) (svk (va_up kn_6 3 (va_up (kn_6 3) (lwF z2 4).toNat (lwF z20 50001))) (svk kn_6 kv_8 ns_10) (svn ns_10)) (svn (svn ns_10))) (((svn (svn (svn ns_10))) + 3) % 4)) ((mup (lwF z2 3000) (lwF z1 50000) (va_up (va_up kn_6 3 (va_up (kn_6 3) (lwF z2 4).toNat (lwF z20 50001))) 0 (va_up ((va_up kn_6 3 (va_up (kn_6 3) (lwF z2 4).toNat (lwF z20 50001))) 0) 1 (lwF z1 31)))).1)))) ktj17 (svk (va_up (va_up kn_6 3 (va_up (kn_6 3) (lwF z2 4).toNat (lwF z20 50001))) 0 (va_up ((va_up kn_6 3 (va_up (kn_6 3) (lwF z2 4).toNat (lwF z20 50001))) 0) 1 (lwF z1 31))) (svk (va_up kn_6 3 (va_up (kn_6 3) (lwF z2 4).toNat (lwF z20 50001))) (svk kn_6 kv_8 ns_10) (svn ns_10)) (svn (svn ns_10))) ((((svs (svs (svs sc_9))) - 1) - 1) - 1) (((((((svn (svn (svn ns_10))) + 3) % 4) + 3) % 4) + 3) % 4) tx_11 tn_12 pl_13)) rfl rfl rfl ?_
        refine J.wide (k := (c0 + 25 * i + 25)) (n := (s0 + 146 * i + 146)) (Nat.le_refl _) (Nat.le_refl _) ?_
        refine j_lload C 0 dL_law_241 rfl ?_
        refine j_lsameF (tgt := 251) C ((sv_3 (kb := k0S) (kc := k0S) hns).sum hI6.1.1.1) dL_law_243 dL_law_244 (by decide) ?_
        refine j_iconst C dL_law_247 ?_
        refine j_goto (tgt := 252) C dL_law_248 (by decide) ?_
        refine j_istore_n (L1 := [(2, .int (iI 1)), (6, .long (lI (sumV kn_6))), (5, .int (iI z2)), (4, .int (iI z1)), (0, .ref b0), (1, .ref (r 0)), (3, .int (iI ((i : Int))))]) C dL_law_252 rfl (by decide) rfl ?_
        refine j_iinc (L1 := [(3, .int (iI (((i : Int)) + 1))), (2, .int (iI 1)), (6, .long (lI (sumV kn_6))), (5, .int (iI z2)), (4, .int (iI z1)), (0, .ref b0), (1, .ref (r 0))]) C 6 dL_law_253 rfl (by decide) rfl ?_
        refine j_goto (tgt := 55) C dL_law_256 (by decide) ?_
        refine J.sub (L1 := [(0, .ref b0), (1, .ref (r 0)), (2, .int (iI 1)), (3, .int (iI (((i : Int)) + 1)))]) [5, 6, 1, 0] rfl ?_
        refine J.wide (k := c0 + 25 * (i + 1)) (n := s0 + 146 * (i + 1)) (by omega) (by omega) ?_
        exact ih (i + 1) (by omega) (cpS ((svk (va_up (va_up kn_6 3 (va_up (kn_6 3) (lwF z2 4).toNat (lwF z20 50001))) 0 (va_up ((va_up kn_6 3 (va_up (kn_6 3) (lwF z2 4).toNat (lwF z20 50001))) 0) 1 (lwF z1 31))) (svk (va_up kn_6 3 (va_up (kn_6 3) (lwF z2 4).toNat (lwF z20 50001))) (svk kn_6 kv_8 ns_10) (svn ns_10)) (svn (svn ns_10))) (((((((svn (svn (svn ns_10))) + 3) % 4) + 3) % 4) + 3) % 4)) (cpS ((svk (va_up (va_up kn_6 3 (va_up (kn_6 3) (lwF z2 4).toNat (lwF z20 50001))) 0 (va_up ((va_up kn_6 3 (va_up (kn_6 3) (lwF z2 4).toNat (lwF z20 50001))) 0) 1 (lwF z1 31))) (svk (va_up kn_6 3 (va_up (kn_6 3) (lwF z2 4).toNat (lwF z20 50001))) (svk kn_6 kv_8 ns_10) (svn ns_10)) (svn (svn ns_10))) (((((svn (svn (svn ns_10))) + 3) % 4) + 3) % 4)) (cpS ((svk (va_up (va_up kn_6 3 (va_up (kn_6 3) (lwF z2 4).toNat (lwF z20 50001))) 0 (va_up ((va_up kn_6 3 (va_up (kn_6 3) (lwF z2 4).toNat (lwF z20 50001))) 0) 1 (lwF z1 31))) (svk (va_up kn_6 3 (va_up (kn_6 3) (lwF z2 4).toNat (lwF z20 50001))) (svk kn_6 kv_8 ns_10) (svn ns_10)) (svn (svn ns_10))) (((svn (svn (svn ns_10))) + 3) % 4)) ((mup (lwF z2 3000) (lwF z1 50000) (va_up (va_up kn_6 3 (va_up (kn_6 3) (lwF z2 4).toNat (lwF z20 50001))) 0 (va_up ((va_up kn_6 3 (va_up (kn_6 3) (lwF z2 4).toNat (lwF z20 50001))) 0) 1 (lwF z1 31)))).1)))) ktj17 (svk (va_up (va_up kn_6 3 (va_up (kn_6 3) (lwF z2 4).toNat (lwF z20 50001))) 0 (va_up ((va_up kn_6 3 (va_up (kn_6 3) (lwF z2 4).toNat (lwF z20 50001))) 0) 1 (lwF z1 31))) (svk (va_up kn_6 3 (va_up (kn_6 3) (lwF z2 4).toNat (lwF z20 50001))) (svk kn_6 kv_8 ns_10) (svn ns_10)) (svn (svn ns_10))) ((((svs (svs (svs sc_9))) - 1) - 1) - 1) (((((((svn (svn (svn ns_10))) + 3) % 4) + 3) % 4) + 3) % 4) tx_11 tn_12 pl_13 (hI6.le (by omega))
    refine j_icmp_ne (tgt := 135) C (by omega) (by decide) dL_law_125 (by decide) (fun c125 => ?_) (fun c125 => ?_)
    · refine J.sub (L1 := [(5, .int (iI z2)), (4, .int (iI z1)), (0, .ref b0), (1, .ref (r 0)), (2, .int (iI 1)), (3, .int (iI ((i : Int))))]) [0, 1, 2, 3, 4, 5] rfl ?_
      refine J.wide (k := (c0 + 25 * i + 25)) (n := (s0 + 146 * i + 146)) (by omega) (by omega) ?_
      exact kj135_17 kt_16
    · refine j_aload_n C 3 dL_law_128 rfl rfl ?_
      refine j_callS (As := [.ref (r 0)]) (rest := []) C ys_L_refused qw498 (c_L_refused l hl g r qn qt qv kn_6 kt_16 kv_8 sc_9 ns_10 tx_11 tn_12 pl_13 hI_14.1) (by decide) rfl dL_law_129 rfl (Nat.le_of_ble_eq_true rfl) ⟨by show _ + 22 ≤ 709023; omega, by show _ + 132 ≤ 6974398; omega⟩ pf0 rfl (fun r9 w9 hq9 => ?_)
      obtain ⟨rfl, kt_25, rfl⟩ := hq9
      refine J.to (L1 := [(5, .int (iI z2)), (4, .int (iI z1)), (0, .ref b0), (1, .ref (r 0)), (2, .int (iI 1)), (3, .int (iI ((i : Int))))]) (S1 := [.int (iI 1)]) (ws1 := (wTp g r qn qt qv kn_6 kt_25 kv_8 sc_9 ns_10 tx_11 tn_12 pl_13)) rfl rfl rfl ?_
      refine J.wide (k := (c0 + 25 * i + 25)) (n := (s0 + 146 * i + 146)) (Nat.le_refl _) (Nat.le_refl _) ?_
      refine j_if_eq (tgt := 139) C (by decide) dL_law_132 (by decide) (fun c132 => absurd c132 (by decide)) (fun c132 => ?_)
      refine J.sub (L1 := [(5, .int (iI z2)), (4, .int (iI z1)), (0, .ref b0), (1, .ref (r 0)), (2, .int (iI 1)), (3, .int (iI ((i : Int))))]) [0, 1, 2, 3, 4, 5] rfl ?_
      exact kj135_17 kt_25

set_option maxRecDepth 100000 in
set_option maxHeartbeats 4000000 in
theorem law_go {p : Program} {l : Launch} {e : Env} {s : State} {m : MethodId} {args : Array Value} {below : List Frame} {meth : Method} {c : Code} {A : Nat → Prop} {Q : State → Prop} {g : Gh} {r : Nat → Nat} {qn qt : Nat → Nat} {qv : Nat → Nat → Nat} {b0 n0 : Nat} {xs : Nat → Int32} (C : Cx p g s m args c cL_law 8 RL A) (hl : l.stackTraces = false) (hX : va_X b0 n0 xs s s.heap) (hbl : b0 < s.heap.size) (hbA : ¬ A b0) (hn0 : n0 ≤ 260) (kk : ∀ (kn kt : Nat → Nat → Int) (kv : Nat → Nat → Nat → Int) (sc : Int) (ns : Nat) (tx : Nat → Int) (tn : Nat) (pl : Int), IV 152 kn kv sc ns tx tn → J p l e room_1 s m args below meth c g A 8 259 [(0, .ref b0), (1, .ref (r 0)), (2, .int (iI 1))] [] (wTp g r qn qt qv kn kt kv sc ns tx tn pl) (75 + 750) (733 + 4380) Q) : J p l e room_1 s m args below meth c g A 8 8 [(1, .ref (r 0)), (0, .ref b0)] [] (wTp g r qn qt qv k0S k0S (fun _ => k0S) 0 0 (fun _ => 0) 0 0) 52 595 Q := by
  have hq0 : hgA k0S = 20000 := by decide +kernel
  refine j_aload_n C 0 dL_law_8 rfl rfl ?_
  refine j_callSW (As := [.ref (r 0)]) (rest := []) C yw_L_back qw430 (w_back_x1 l hl g r qn qt qv k0S k0S (fun _ => k0S) 0 0 (fun _ => 0) 0 0 IV_0.1 rfl) (by decide) rfl dL_law_9 rfl (Nat.le_of_ble_eq_true rfl) (by decide) pf0 rfl (fun r9 w9 hq9 => ?_)
  obtain ⟨rfl, rfl⟩ := hq9
  refine J.to (L1 := [(1, .ref (r 0)), (0, .ref b0)]) (S1 := [.int (iI (-900000002))]) (ws1 := (wTp g r qn qt qv k0S k0S (fun _ => k0S) 0 0 (fun _ => 0) 0 0)) rfl rfl rfl ?_
  refine j_ldc (x := -900000002) C qw367 (by decide) dL_law_12 ?_
  refine j_icmp_ne (tgt := 51) C (by decide) (by decide) dL_law_14 (by decide) (fun c14 => absurd c14 (by decide)) (fun c14 => ?_)
  refine j_aload_n C 0 dL_law_17 rfl rfl ?_
  refine j_callS (As := [.ref (r 0)]) (rest := []) C ys_L_refused qw498 (c_L_refused l hl g r qn qt qv k0S k0S (fun _ => k0S) 0 0 (fun _ => 0) 0 0 IV_0.1) (by decide) rfl dL_law_18 rfl (Nat.le_of_ble_eq_true rfl) (by decide) pf0 rfl (fun r9 w9 hq9 => ?_)
  obtain ⟨rfl, kt_1, rfl⟩ := hq9
  refine J.to (L1 := [(1, .ref (r 0)), (0, .ref b0)]) (S1 := [.int (iI 1)]) (ws1 := (wTp g r qn qt qv k0S kt_1 (fun _ => k0S) 0 0 (fun _ => 0) 0 0)) rfl rfl rfl ?_
  refine j_if_eq (tgt := 51) C (by decide) dL_law_21 (by decide) (fun c21 => absurd c21 (by decide)) (fun c21 => ?_)
  refine j_aload_n C 0 dL_law_24 rfl rfl ?_
  refine j_aload_n C 1 dL_law_25 rfl rfl ?_
  refine j_iconst C dL_law_26 ?_
  refine j_callCell (k := 0) (rest := [.ref (r 0)]) C hX hbl hbA hn0 (by omega) qw149 (by decide) (by decide) dL_law_27 (Nat.le_of_ble_eq_true rfl) (fun z2 hz2 => ?_)
  refine j_callS (As := [.ref (r 0), .int (iI z2)]) (rest := []) C ys_L_fits qw607 (c_L_fits l hl g r qn qt qv k0S kt_1 (fun _ => k0S) 0 0 (fun _ => 0) 0 0 IV_0.1 (by decide +kernel) z2 (by omega)) (by decide) rfl dL_law_30 rfl (Nat.le_of_ble_eq_true rfl) (by decide) pf0 rfl (fun r9 w9 hq9 => ?_)
  obtain ⟨rfl, kt_3, rfl⟩ := hq9
  refine J.to (L1 := [(1, .ref (r 0)), (0, .ref b0)]) (S1 := [.int (iI 1)]) (ws1 := (wTp g r qn qt qv k0S kt_3 (fun _ => k0S) 0 0 (fun _ => 0) 0 0)) rfl rfl rfl ?_
  refine j_if_eq (tgt := 51) C (by decide) dL_law_33 (by decide) (fun c33 => absurd c33 (by decide)) (fun c33 => ?_)
  refine j_aload_n C 0 dL_law_36 rfl rfl ?_
  refine j_ldc (x := 200000) C qw680 (by decide) dL_law_37 ?_
  refine j_callSW (As := [.ref (r 0), .int (iI 200000)]) (rest := []) C yw_L_longer qw314 (w_longer l g r qn qt qv k0S kt_3 (fun _ => k0S) 0 0 (fun _ => 0) 0 0 200000 IV_0.1 (by omega) (by rw [hnd_len SOK_k0S]; omega)) (by decide) rfl dL_law_39 rfl (Nat.le_of_ble_eq_true rfl) (by decide) pf0 rfl (fun r9 w9 hq9 => ?_)
  obtain ⟨rfl, rfl⟩ := hq9
  refine J.to (L1 := [(1, .ref (r 0)), (0, .ref b0)]) (S1 := [.int (iI ((hnd (cpS (kLen k0S kt_3 200000) k0S))))]) (ws1 := (wTp g r qn qt qv (cpS (kLen k0S kt_3 200000) k0S) (kLen k0S kt_3 200000) (svk k0S (fun _ => k0S) 0) (svs 0) (svn 0) (fun _ => 0) 0 0)) rfl rfl rfl ?_
  have hI1 := IV_0.len (kt := kt_3) (x := 200000) (by omega) (by rw [hnd_len SOK_k0S]; omega)
  have hq1 : hnd (cpS (kLen k0S kt_3 200000) k0S) = 180000 := (hnd_cpS (SOK_len SOK_k0S (by omega))).trans ((hnd_len SOK_k0S).trans (by rw [hq0]; rfl))
  refine J.to (L1 := [(1, .ref (r 0)), (0, .ref b0)]) (S1 := [.int (iI 180000)]) (ws1 := (wTp g r qn qt qv (cpS (kLen k0S kt_3 200000) k0S) (kLen k0S kt_3 200000) (svk k0S (fun _ => k0S) 0) (svs 0) (svn 0) (fun _ => 0) 0 0)) rfl rfl (congrArg (fun x9 : Int => ([.int (iI x9)] : List Value)) (show ((hnd (cpS (kLen k0S kt_3 200000) k0S)) : Int) = 180000 from hq1)) ?_
  refine j_ldc (x := 180000) C qw681 (by decide) dL_law_42 ?_
  refine j_icmp_ne (tgt := 51) C (by decide) (by decide) dL_law_44 (by decide) (fun c44 => absurd c44 (by decide)) (fun c44 => ?_)
  refine j_iconst C dL_law_47 ?_
  refine j_goto (tgt := 52) C dL_law_48 (by decide) ?_
  refine j_istore_n (L1 := [(2, .int (iI 1)), (1, .ref (r 0)), (0, .ref b0)]) C dL_law_52 rfl (by decide) rfl ?_
  refine j_iconst C dL_law_53 ?_
  refine j_istore_n (L1 := [(3, .int (iI 0)), (2, .int (iI 1)), (1, .ref (r 0)), (0, .ref b0)]) C dL_law_54 rfl (by decide) rfl ?_
  refine J.sub (L1 := [(0, .ref b0), (1, .ref (r 0)), (2, .int (iI 1)), (3, .int (iI 0))]) [3, 2, 1, 0] rfl ?_
  refine J.to (L1 := [(0, .ref b0), (1, .ref (r 0)), (2, .int (iI 1)), (3, .int (iI (((0 : Nat) : Int))))]) (S1 := []) (ws1 := (wTp g r qn qt qv (cpS (kLen k0S kt_3 200000) k0S) (kLen k0S kt_3 200000) (svk k0S (fun _ => k0S) 0) (svs 0) (svn 0) (fun _ => 0) 0 0)) rfl rfl rfl ?_
  refine J.wide (k := 75 + 25 * 0) (n := 733 + 146 * 0) (by decide) (by decide) ?_
  exact law_loop (c0 := 75) (s0 := 733) C hl hX hbl hbA hn0 ⟨by decide, by decide⟩ kk 30 0 rfl (cpS (kLen k0S kt_3 200000) k0S) (kLen k0S kt_3 200000) (svk k0S (fun _ => k0S) 0) (svs 0) (svn 0) (fun _ => 0) 0 0 (hI1.le (by decide))

