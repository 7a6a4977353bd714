/-! the law: acts -/
set_option maxRecDepth 100000 in
set_option maxHeartbeats 4000000 in
theorem c_L_acts_0 (l : Launch) (hl : l.stackTraces = false) (g : Gh) (r : Nat → Nat) (qn qt : Nat → Nat) (qv : Nat → Nat → Nat) (kn kt : Nat → Nat → Int) (kv : Nat → Nat → Nat → Int) (sc : Int) (ns : Nat) (tx : Nat → Int) (tn : Nat) (pl : Int) (n : Nat) (hI : IV n kn kv sc ns tx tn) (x y : Int) (hx : -2147483648 ≤ x ∧ x < 2147483648) (hy : -2147483648 ≤ y ∧ y < 2147483648) : CT l g yL_acts cL_acts 7 (some FieldType.boolean) ({ frames := 11, cells := 3, slots := 14, locals := 233 }) [.ref (r 0), .int (iI 0), .int (iI x), .int (iI y)] (wTp g r qn qt qv kn kt kv sc ns tx tn pl) (AP g r qn qt qv (n + 1)) := by
  refine CT.intro (L0 := [(0, .ref (r 0)), (1, .int (iI 0)), (2, .int (iI x)), (3, .int (iI y))]) (own := RL) (by decide) rfl (Nat.le_of_ble_eq_true rfl) rfl ?_
  intro pX eX sX mX argsX belowX methX cX A C hr hlk
  have hT := hI.1
  obtain ⟨hP, hE, hF, hrow, hwt, hht, hlen, hlat, hkept⟩ := id hT.1.1
  have hk := hT.1.1
  have hh0 := hT.1.2
  have hhl := hnd_le hk
  have hpf := passF_r hk
  have hga : hgA kn = kn 0 0 - hnd kn := by show _ = kn 0 0 - (kn 0 0 - hgA kn); omega
  refine j_iload_n C 2 dL_acts_0 rfl rfl ?_
  refine j_iconst C dL_acts_1 ?_
  refine j_callS (As := [.int (iI x), .int (iI 4)]) (rest := []) C ys_L_low qw153 (c_L_low l g x 4 (by omega) (by omega)) (by decide) rfl dL_acts_2 rfl (Nat.le_of_ble_eq_true rfl) (by decide) (pfE (wTp g r qn qt qv kn kt kv sc ns tx tn pl)) rfl (fun r9 w9 hq9 => ?_)
  obtain ⟨rfl, rfl⟩ := hq9
  refine J.to (L1 := [(0, .ref (r 0)), (1, .int (iI 0)), (2, .int (iI x)), (3, .int (iI y))]) (S1 := [.int (iI (lwF x 4))]) (ws1 := (wTp g r qn qt qv kn kt kv sc ns tx tn pl)) rfl rfl rfl ?_
  have hl1 := lwF_rng (x := x) (n := 4) (by decide)
  obtain ⟨nb, hnb⟩ : ∃ nb : Nat, lwF x 4 = (nb : Int) := ⟨(lwF x 4).toNat, by omega⟩
  have hnb4 : nb < 4 := by omega
  have hwb := hwt nb hnb4
  have htb := hht nb hnb4
  refine J.to (L1 := [(0, .ref (r 0)), (1, .int (iI 0)), (2, .int (iI x)), (3, .int (iI y))]) (S1 := [.int (iI ((nb : Int)))]) (ws1 := (wTp g r qn qt qv kn kt kv sc ns tx tn pl)) rfl rfl (congrArg (fun x9 : Int => ([.int (iI x9)] : List Value)) (show (lwF x 4 : Int) = (nb : Int) from hnb)) ?_
  refine j_istore (L1 := [(4, .int (iI ((nb : Int)))), (0, .ref (r 0)), (1, .int (iI 0)), (2, .int (iI x)), (3, .int (iI y))]) C dL_acts_5 (by decide) rfl ?_
  refine j_iload_n C 2 dL_acts_7 rfl rfl ?_
  refine j_tswIn (tgt := 72) C (by decide) dL_acts_8 (by decide) rfl (by decide) ?_
  refine j_aload_n C 1 dL_acts_72 rfl rfl ?_
  refine j_iload_n C 4 dL_acts_73 rfl rfl ?_
  refine j_iconst C dL_acts_74 ?_
  refine j_callS (As := [.int (iI y), .int (iI 4)]) (rest := [.ref (r 0)]) C ys_L_low qw153 (c_L_low l g y 4 (by omega) (by omega)) (by decide) rfl dL_acts_75 rfl (Nat.le_of_ble_eq_true rfl) (by decide) (pfE (wTp g r qn qt qv kn kt kv sc ns tx tn pl)) rfl (fun r9 w9 hq9 => ?_)
  obtain ⟨rfl, rfl⟩ := hq9
  refine J.to (L1 := [(4, .int (iI ((nb : Int)))), (0, .ref (r 0)), (1, .int (iI 0)), (2, .int (iI x)), (3, .int (iI y))]) (S1 := [.int (iI (lwF y 4)), .ref (r 0)]) (ws1 := (wTp g r qn qt qv kn kt kv sc ns tx tn pl)) rfl rfl rfl ?_
  have hl2 := lwF_rng (x := y) (n := 4) (by decide)
  refine j_if_ne (tgt := 86) C (by omega) dL_acts_78 (by decide) (fun c78 => ?_) (fun c78 => ?_)
  · refine j_iload_n C 4 dL_acts_86 rfl rfl ?_
    refine j_iconst C dL_acts_87 ?_
    refine j_ishrA C dL_acts_88 (fun z3 hz3 => ?_)
    refine j_sipush C dL_acts_89 (by decide) ?_
    refine j_callS (As := [.int (iI z3), .int (iI 2000)]) (rest := [.ref (r 0)]) C ys_L_low qw153 (c_L_low l g z3 2000 (by omega) (by omega)) (by decide) rfl dL_acts_92 rfl (Nat.le_of_ble_eq_true rfl) (by decide) (pfE (wTp g r qn qt qv kn kt kv sc ns tx tn pl)) rfl (fun r9 w9 hq9 => ?_)
    obtain ⟨rfl, rfl⟩ := hq9
    refine J.to (L1 := [(4, .int (iI ((nb : Int)))), (0, .ref (r 0)), (1, .int (iI 0)), (2, .int (iI x)), (3, .int (iI y))]) (S1 := [.int (iI (lwF z3 2000)), .ref (r 0)]) (ws1 := (wTp g r qn qt qv kn kt kv sc ns tx tn pl)) rfl rfl rfl ?_
    have hl4 := lwF_rng (x := z3) (n := 2000) (by decide)
    refine j_iload_n C 3 dL_acts_95 rfl rfl ?_
    refine j_iconst C dL_acts_96 ?_
    refine j_ishrA C dL_acts_97 (fun z5 hz5 => ?_)
    refine j_ldc (x := 40000) C qw630 (by decide) dL_acts_98 ?_
    refine j_callS (As := [.int (iI z5), .int (iI 40000)]) (rest := [.int (iI (lwF z3 2000)), .ref (r 0)]) C ys_L_low qw153 (c_L_low l g z5 40000 (by omega) (by omega)) (by decide) rfl dL_acts_100 rfl (Nat.le_of_ble_eq_true rfl) (by decide) (pfE (wTp g r qn qt qv kn kt kv sc ns tx tn pl)) rfl (fun r9 w9 hq9 => ?_)
    obtain ⟨rfl, rfl⟩ := hq9
    refine J.to (L1 := [(4, .int (iI ((nb : Int)))), (0, .ref (r 0)), (1, .int (iI 0)), (2, .int (iI x)), (3, .int (iI y))]) (S1 := [.int (iI (lwF z5 40000)), .int (iI (lwF z3 2000)), .ref (r 0)]) (ws1 := (wTp g r qn qt qv kn kt kv sc ns tx tn pl)) rfl rfl rfl ?_
    have hl6 := lwF_rng (x := z5) (n := 40000) (by decide)
    refine j_callS (As := [.ref (r 0), .int (iI (lwF z3 2000)), .int (iI (lwF z5 40000))]) (rest := []) C ys_L_hauled qw631 (c_L_hauled l hl g r qn qt qv kn kt kv sc ns tx tn pl n hI (lwF z3 2000) (lwF z5 40000) (by omega) (by omega)) (by decide) rfl dL_acts_103 rfl (Nat.le_of_ble_eq_true rfl) (by decide) pf0 rfl (fun r9 w9 hq9 => ?_)
    obtain ⟨rfl, kn_7, kt_8, kv_9, sc_10, ns_11, tx_12, tn_13, pl_14, rfl, hI_15⟩ := hq9
    refine J.to (L1 := [(4, .int (iI ((nb : Int)))), (0, .ref (r 0)), (1, .int (iI 0)), (2, .int (iI x)), (3, .int (iI y))]) (S1 := [.int (iI 1)]) (ws1 := (wTp g r qn qt qv kn_7 kt_8 kv_9 sc_10 ns_11 tx_12 tn_13 pl_14)) rfl rfl rfl ?_
    exact j_zret C hr hlk rfl dL_acts_106 ⟨rfl, kn_7, kt_8, kv_9, sc_10, ns_11, tx_12, tn_13, pl_14, rfl, hI_15⟩ (by decide) (by decide)
  · refine j_ldc (x := 1000000) C qw613 (by decide) dL_acts_81 ?_
    refine j_goto (tgt := 95) C dL_acts_83 (by decide) ?_
    refine j_iload_n C 3 dL_acts_95 rfl rfl ?_
    refine j_iconst C dL_acts_96 ?_
    refine j_ishrA C dL_acts_97 (fun z16 hz16 => ?_)
    refine j_ldc (x := 40000) C qw630 (by decide) dL_acts_98 ?_
    refine j_callS (As := [.int (iI z16), .int (iI 40000)]) (rest := [.int (iI 1000000), .ref (r 0)]) C ys_L_low qw153 (c_L_low l g z16 40000 (by omega) (by omega)) (by decide) rfl dL_acts_100 rfl (Nat.le_of_ble_eq_true rfl) (by decide) (pfE (wTp g r qn qt qv kn kt kv sc ns tx tn pl)) rfl (fun r9 w9 hq9 => ?_)
    obtain ⟨rfl, rfl⟩ := hq9
    refine J.to (L1 := [(4, .int (iI ((nb : Int)))), (0, .ref (r 0)), (1, .int (iI 0)), (2, .int (iI x)), (3, .int (iI y))]) (S1 := [.int (iI (lwF z16 40000)), .int (iI 1000000), .ref (r 0)]) (ws1 := (wTp g r qn qt qv kn kt kv sc ns tx tn pl)) rfl rfl rfl ?_
    have hl17 := lwF_rng (x := z16) (n := 40000) (by decide)
    refine j_callS (As := [.ref (r 0), .int (iI 1000000), .int (iI (lwF z16 40000))]) (rest := []) C ys_L_hauled qw631 (c_L_hauled l hl g r qn qt qv kn kt kv sc ns tx tn pl n hI 1000000 (lwF z16 40000) (by omega) (by omega)) (by decide) rfl dL_acts_103 rfl (Nat.le_of_ble_eq_true rfl) (by decide) pf0 rfl (fun r9 w9 hq9 => ?_)
    obtain ⟨rfl, kn_18, kt_19, kv_20, sc_21, ns_22, tx_23, tn_24, pl_25, rfl, hI_26⟩ := hq9
    refine J.to (L1 := [(4, .int (iI ((nb : Int)))), (0, .ref (r 0)), (1, .int (iI 0)), (2, .int (iI x)), (3, .int (iI y))]) (S1 := [.int (iI 1)]) (ws1 := (wTp g r qn qt qv kn_18 kt_19 kv_20 sc_21 ns_22 tx_23 tn_24 pl_25)) rfl rfl rfl ?_
    exact j_zret C hr hlk rfl dL_acts_106 ⟨rfl, kn_18, kt_19, kv_20, sc_21, ns_22, tx_23, tn_24, pl_25, rfl, hI_26⟩ (by decide) (by decide)

set_option maxRecDepth 100000 in
set_option maxHeartbeats 4000000 in
theorem c_L_acts_1 (l : Launch) (hl : l.stackTraces = false) (g : Gh) (r : Nat → Nat) (qn qt : Nat → Nat) (qv : Nat → Nat → Nat) (kn kt : Nat → Nat → Int) (kv : Nat → Nat → Nat → Int) (sc : Int) (ns : Nat) (tx : Nat → Int) (tn : Nat) (pl : Int) (n : Nat) (hI : IV n kn kv sc ns tx tn) (x y : Int) (hx : -2147483648 ≤ x ∧ x < 2147483648) (hy : -2147483648 ≤ y ∧ y < 2147483648) : CT l g yL_acts cL_acts 7 (some FieldType.boolean) ({ frames := 11, cells := 3, slots := 14, locals := 233 }) [.ref (r 0), .int (iI 1), .int (iI x), .int (iI y)] (wTp g r qn qt qv kn kt kv sc ns tx tn pl) (AP g r qn qt qv (n + 1)) := by
  refine CT.intro (L0 := [(0, .ref (r 0)), (1, .int (iI 1)), (2, .int (iI x)), (3, .int (iI y))]) (own := RL) (by decide) rfl (Nat.le_of_ble_eq_true rfl) rfl ?_
  intro pX eX sX mX argsX belowX methX cX A C hr hlk
  have hT := hI.1
  obtain ⟨hP, hE, hF, hrow, hwt, hht, hlen, hlat, hkept⟩ := id hT.1.1
  have hk := hT.1.1
  have hh0 := hT.1.2
  have hhl := hnd_le hk
  have hpf := passF_r hk
  have hga : hgA kn = kn 0 0 - hnd kn := by show _ = kn 0 0 - (kn 0 0 - hgA kn); omega
  refine j_iload_n C 2 dL_acts_0 rfl rfl ?_
  refine j_iconst C dL_acts_1 ?_
  refine j_callS (As := [.int (iI x), .int (iI 4)]) (rest := []) C ys_L_low qw153 (c_L_low l g x 4 (by omega) (by omega)) (by decide) rfl dL_acts_2 rfl (Nat.le_of_ble_eq_true rfl) (by decide) (pfE (wTp g r qn qt qv kn kt kv sc ns tx tn pl)) rfl (fun r9 w9 hq9 => ?_)
  obtain ⟨rfl, rfl⟩ := hq9
  refine J.to (L1 := [(0, .ref (r 0)), (1, .int (iI 1)), (2, .int (iI x)), (3, .int (iI y))]) (S1 := [.int (iI (lwF x 4))]) (ws1 := (wTp g r qn qt qv kn kt kv sc ns tx tn pl)) rfl rfl rfl ?_
  have hl1 := lwF_rng (x := x) (n := 4) (by decide)
  obtain ⟨nb, hnb⟩ : ∃ nb : Nat, lwF x 4 = (nb : Int) := ⟨(lwF x 4).toNat, by omega⟩
  have hnb4 : nb < 4 := by omega
  have hwb := hwt nb hnb4
  have htb := hht nb hnb4
  refine J.to (L1 := [(0, .ref (r 0)), (1, .int (iI 1)), (2, .int (iI x)), (3, .int (iI y))]) (S1 := [.int (iI ((nb : Int)))]) (ws1 := (wTp g r qn qt qv kn kt kv sc ns tx tn pl)) rfl rfl (congrArg (fun x9 : Int => ([.int (iI x9)] : List Value)) (show (lwF x 4 : Int) = (nb : Int) from hnb)) ?_
  refine j_istore (L1 := [(4, .int (iI ((nb : Int)))), (0, .ref (r 0)), (1, .int (iI 1)), (2, .int (iI x)), (3, .int (iI y))]) C dL_acts_5 (by decide) rfl ?_
  refine j_iload_n C 2 dL_acts_7 rfl rfl ?_
  refine j_tswIn (tgt := 72) C (by decide) dL_acts_8 (by decide) rfl (by decide) ?_
  refine j_aload_n C 1 dL_acts_72 rfl rfl ?_
  refine j_iload_n C 4 dL_acts_73 rfl rfl ?_
  refine j_iconst C dL_acts_74 ?_
  refine j_callS (As := [.int (iI y), .int (iI 4)]) (rest := [.ref (r 0)]) C ys_L_low qw153 (c_L_low l g y 4 (by omega) (by omega)) (by decide) rfl dL_acts_75 rfl (Nat.le_of_ble_eq_true rfl) (by decide) (pfE (wTp g r qn qt qv kn kt kv sc ns tx tn pl)) rfl (fun r9 w9 hq9 => ?_)
  obtain ⟨rfl, rfl⟩ := hq9
  refine J.to (L1 := [(4, .int (iI ((nb : Int)))), (0, .ref (r 0)), (1, .int (iI 1)), (2, .int (iI x)), (3, .int (iI y))]) (S1 := [.int (iI (lwF y 4)), .ref (r 0)]) (ws1 := (wTp g r qn qt qv kn kt kv sc ns tx tn pl)) rfl rfl rfl ?_
  have hl2 := lwF_rng (x := y) (n := 4) (by decide)
  refine j_if_ne (tgt := 86) C (by omega) dL_acts_78 (by decide) (fun c78 => ?_) (fun c78 => ?_)
  · refine j_iload_n C 4 dL_acts_86 rfl rfl ?_
    refine j_iconst C dL_acts_87 ?_
    refine j_ishrA C dL_acts_88 (fun z3 hz3 => ?_)
    refine j_sipush C dL_acts_89 (by decide) ?_
    refine j_callS (As := [.int (iI z3), .int (iI 2000)]) (rest := [.ref (r 0)]) C ys_L_low qw153 (c_L_low l g z3 2000 (by omega) (by omega)) (by decide) rfl dL_acts_92 rfl (Nat.le_of_ble_eq_true rfl) (by decide) (pfE (wTp g r qn qt qv kn kt kv sc ns tx tn pl)) rfl (fun r9 w9 hq9 => ?_)
    obtain ⟨rfl, rfl⟩ := hq9
    refine J.to (L1 := [(4, .int (iI ((nb : Int)))), (0, .ref (r 0)), (1, .int (iI 1)), (2, .int (iI x)), (3, .int (iI y))]) (S1 := [.int (iI (lwF z3 2000)), .ref (r 0)]) (ws1 := (wTp g r qn qt qv kn kt kv sc ns tx tn pl)) rfl rfl rfl ?_
    have hl4 := lwF_rng (x := z3) (n := 2000) (by decide)
    refine j_iload_n C 3 dL_acts_95 rfl rfl ?_
    refine j_iconst C dL_acts_96 ?_
    refine j_ishrA C dL_acts_97 (fun z5 hz5 => ?_)
    refine j_ldc (x := 40000) C qw630 (by decide) dL_acts_98 ?_
    refine j_callS (As := [.int (iI z5), .int (iI 40000)]) (rest := [.int (iI (lwF z3 2000)), .ref (r 0)]) C ys_L_low qw153 (c_L_low l g z5 40000 (by omega) (by omega)) (by decide) rfl dL_acts_100 rfl (Nat.le_of_ble_eq_true rfl) (by decide) (pfE (wTp g r qn qt qv kn kt kv sc ns tx tn pl)) rfl (fun r9 w9 hq9 => ?_)
    obtain ⟨rfl, rfl⟩ := hq9
    refine J.to (L1 := [(4, .int (iI ((nb : Int)))), (0, .ref (r 0)), (1, .int (iI 1)), (2, .int (iI x)), (3, .int (iI y))]) (S1 := [.int (iI (lwF z5 40000)), .int (iI (lwF z3 2000)), .ref (r 0)]) (ws1 := (wTp g r qn qt qv kn kt kv sc ns tx tn pl)) rfl rfl rfl ?_
    have hl6 := lwF_rng (x := z5) (n := 40000) (by decide)
    refine j_callS (As := [.ref (r 0), .int (iI (lwF z3 2000)), .int (iI (lwF z5 40000))]) (rest := []) C ys_L_hauled qw631 (c_L_hauled l hl g r qn qt qv kn kt kv sc ns tx tn pl n hI (lwF z3 2000) (lwF z5 40000) (by omega) (by omega)) (by decide) rfl dL_acts_103 rfl (Nat.le_of_ble_eq_true rfl) (by decide) pf0 rfl (fun r9 w9 hq9 => ?_)
    obtain ⟨rfl, kn_7, kt_8, kv_9, sc_10, ns_11, tx_12, tn_13, pl_14, rfl, hI_15⟩ := hq9
    refine J.to (L1 := [(4, .int (iI ((nb : Int)))), (0, .ref (r 0)), (1, .int (iI 1)), (2, .int (iI x)), (3, .int (iI y))]) (S1 := [.int (iI 1)]) (ws1 := (wTp g r qn qt qv kn_7 kt_8 kv_9 sc_10 ns_11 tx_12 tn_13 pl_14)) rfl rfl rfl ?_
    exact j_zret C hr hlk rfl dL_acts_106 ⟨rfl, kn_7, kt_8, kv_9, sc_10, ns_11, tx_12, tn_13, pl_14, rfl, hI_15⟩ (by decide) (by decide)
  · refine j_ldc (x := 1000000) C qw613 (by decide) dL_acts_81 ?_
    refine j_goto (tgt := 95) C dL_acts_83 (by decide) ?_
    refine j_iload_n C 3 dL_acts_95 rfl rfl ?_
    refine j_iconst C dL_acts_96 ?_
    refine j_ishrA C dL_acts_97 (fun z16 hz16 => ?_)
    refine j_ldc (x := 40000) C qw630 (by decide) dL_acts_98 ?_
    refine j_callS (As := [.int (iI z16), .int (iI 40000)]) (rest := [.int (iI 1000000), .ref (r 0)]) C ys_L_low qw153 (c_L_low l g z16 40000 (by omega) (by omega)) (by decide) rfl dL_acts_100 rfl (Nat.le_of_ble_eq_true rfl) (by decide) (pfE (wTp g r qn qt qv kn kt kv sc ns tx tn pl)) rfl (fun r9 w9 hq9 => ?_)
    obtain ⟨rfl, rfl⟩ := hq9
    refine J.to (L1 := [(4, .int (iI ((nb : Int)))), (0, .ref (r 0)), (1, .int (iI 1)), (2, .int (iI x)), (3, .int (iI y))]) (S1 := [.int (iI (lwF z16 40000)), .int (iI 1000000), .ref (r 0)]) (ws1 := (wTp g r qn qt qv kn kt kv sc ns tx tn pl)) rfl rfl rfl ?_
    have hl17 := lwF_rng (x := z16) (n := 40000) (by decide)
    refine j_callS (As := [.ref (r 0), .int (iI 1000000), .int (iI (lwF z16 40000))]) (rest := []) C ys_L_hauled qw631 (c_L_hauled l hl g r qn qt qv kn kt kv sc ns tx tn pl n hI 1000000 (lwF z16 40000) (by omega) (by omega)) (by decide) rfl dL_acts_103 rfl (Nat.le_of_ble_eq_true rfl) (by decide) pf0 rfl (fun r9 w9 hq9 => ?_)
    obtain ⟨rfl, kn_18, kt_19, kv_20, sc_21, ns_22, tx_23, tn_24, pl_25, rfl, hI_26⟩ := hq9
    refine J.to (L1 := [(4, .int (iI ((nb : Int)))), (0, .ref (r 0)), (1, .int (iI 1)), (2, .int (iI x)), (3, .int (iI y))]) (S1 := [.int (iI 1)]) (ws1 := (wTp g r qn qt qv kn_18 kt_19 kv_20 sc_21 ns_22 tx_23 tn_24 pl_25)) rfl rfl rfl ?_
    exact j_zret C hr hlk rfl dL_acts_106 ⟨rfl, kn_18, kt_19, kv_20, sc_21, ns_22, tx_23, tn_24, pl_25, rfl, hI_26⟩ (by decide) (by decide)

set_option maxRecDepth 100000 in
set_option maxHeartbeats 4000000 in
theorem c_L_acts_2 (l : Launch) (hl : l.stackTraces = false) (g : Gh) (r : Nat → Nat) (qn qt : Nat → Nat) (qv : Nat → Nat → Nat) (kn kt : Nat → Nat → Int) (kv : Nat → Nat → Nat → Int) (sc : Int) (ns : Nat) (tx : Nat → Int) (tn : Nat) (pl : Int) (n : Nat) (hI : IV n kn kv sc ns tx tn) (x y : Int) (hx : -2147483648 ≤ x ∧ x < 2147483648) (hy : -2147483648 ≤ y ∧ y < 2147483648) : CT l g yL_acts cL_acts 7 (some FieldType.boolean) ({ frames := 11, cells := 3, slots := 14, locals := 233 }) [.ref (r 0), .int (iI 2), .int (iI x), .int (iI y)] (wTp g r qn qt qv kn kt kv sc ns tx tn pl) (AP g r qn qt qv (n + 1)) := by
  refine CT.intro (L0 := [(0, .ref (r 0)), (1, .int (iI 2)), (2, .int (iI x)), (3, .int (iI y))]) (own := RL) (by decide) rfl (Nat.le_of_ble_eq_true rfl) rfl ?_
  intro pX eX sX mX argsX belowX methX cX A C hr hlk
  have hT := hI.1
  obtain ⟨hP, hE, hF, hrow, hwt, hht, hlen, hlat, hkept⟩ := id hT.1.1
  have hk := hT.1.1
  have hh0 := hT.1.2
  have hhl := hnd_le hk
  have hpf := passF_r hk
  have hga : hgA kn = kn 0 0 - hnd kn := by show _ = kn 0 0 - (kn 0 0 - hgA kn); omega
  refine j_iload_n C 2 dL_acts_0 rfl rfl ?_
  refine j_iconst C dL_acts_1 ?_
  refine j_callS (As := [.int (iI x), .int (iI 4)]) (rest := []) C ys_L_low qw153 (c_L_low l g x 4 (by omega) (by omega)) (by decide) rfl dL_acts_2 rfl (Nat.le_of_ble_eq_true rfl) (by decide) (pfE (wTp g r qn qt qv kn kt kv sc ns tx tn pl)) rfl (fun r9 w9 hq9 => ?_)
  obtain ⟨rfl, rfl⟩ := hq9
  refine J.to (L1 := [(0, .ref (r 0)), (1, .int (iI 2)), (2, .int (iI x)), (3, .int (iI y))]) (S1 := [.int (iI (lwF x 4))]) (ws1 := (wTp g r qn qt qv kn kt kv sc ns tx tn pl)) rfl rfl rfl ?_
  have hl1 := lwF_rng (x := x) (n := 4) (by decide)
  obtain ⟨nb, hnb⟩ : ∃ nb : Nat, lwF x 4 = (nb : Int) := ⟨(lwF x 4).toNat, by omega⟩
  have hnb4 : nb < 4 := by omega
  have hwb := hwt nb hnb4
  have htb := hht nb hnb4
  refine J.to (L1 := [(0, .ref (r 0)), (1, .int (iI 2)), (2, .int (iI x)), (3, .int (iI y))]) (S1 := [.int (iI ((nb : Int)))]) (ws1 := (wTp g r qn qt qv kn kt kv sc ns tx tn pl)) rfl rfl (congrArg (fun x9 : Int => ([.int (iI x9)] : List Value)) (show (lwF x 4 : Int) = (nb : Int) from hnb)) ?_
  refine j_istore (L1 := [(4, .int (iI ((nb : Int)))), (0, .ref (r 0)), (1, .int (iI 2)), (2, .int (iI x)), (3, .int (iI y))]) C dL_acts_5 (by decide) rfl ?_
  refine j_iload_n C 2 dL_acts_7 rfl rfl ?_
  refine j_tswIn (tgt := 72) C (by decide) dL_acts_8 (by decide) rfl (by decide) ?_
  refine j_aload_n C 1 dL_acts_72 rfl rfl ?_
  refine j_iload_n C 4 dL_acts_73 rfl rfl ?_
  refine j_iconst C dL_acts_74 ?_
  refine j_callS (As := [.int (iI y), .int (iI 4)]) (rest := [.ref (r 0)]) C ys_L_low qw153 (c_L_low l g y 4 (by omega) (by omega)) (by decide) rfl dL_acts_75 rfl (Nat.le_of_ble_eq_true rfl) (by decide) (pfE (wTp g r qn qt qv kn kt kv sc ns tx tn pl)) rfl (fun r9 w9 hq9 => ?_)
  obtain ⟨rfl, rfl⟩ := hq9
  refine J.to (L1 := [(4, .int (iI ((nb : Int)))), (0, .ref (r 0)), (1, .int (iI 2)), (2, .int (iI x)), (3, .int (iI y))]) (S1 := [.int (iI (lwF y 4)), .ref (r 0)]) (ws1 := (wTp g r qn qt qv kn kt kv sc ns tx tn pl)) rfl rfl rfl ?_
  have hl2 := lwF_rng (x := y) (n := 4) (by decide)
  refine j_if_ne (tgt := 86) C (by omega) dL_acts_78 (by decide) (fun c78 => ?_) (fun c78 => ?_)
  · refine j_iload_n C 4 dL_acts_86 rfl rfl ?_
    refine j_iconst C dL_acts_87 ?_
    refine j_ishrA C dL_acts_88 (fun z3 hz3 => ?_)
    refine j_sipush C dL_acts_89 (by decide) ?_
    refine j_callS (As := [.int (iI z3), .int (iI 2000)]) (rest := [.ref (r 0)]) C ys_L_low qw153 (c_L_low l g z3 2000 (by omega) (by omega)) (by decide) rfl dL_acts_92 rfl (Nat.le_of_ble_eq_true rfl) (by decide) (pfE (wTp g r qn qt qv kn kt kv sc ns tx tn pl)) rfl (fun r9 w9 hq9 => ?_)
    obtain ⟨rfl, rfl⟩ := hq9
    refine J.to (L1 := [(4, .int (iI ((nb : Int)))), (0, .ref (r 0)), (1, .int (iI 2)), (2, .int (iI x)), (3, .int (iI y))]) (S1 := [.int (iI (lwF z3 2000)), .ref (r 0)]) (ws1 := (wTp g r qn qt qv kn kt kv sc ns tx tn pl)) rfl rfl rfl ?_
    have hl4 := lwF_rng (x := z3) (n := 2000) (by decide)
    refine j_iload_n C 3 dL_acts_95 rfl rfl ?_
    refine j_iconst C dL_acts_96 ?_
    refine j_ishrA C dL_acts_97 (fun z5 hz5 => ?_)
    refine j_ldc (x := 40000) C qw630 (by decide) dL_acts_98 ?_
    refine j_callS (As := [.int (iI z5), .int (iI 40000)]) (rest := [.int (iI (lwF z3 2000)), .ref (r 0)]) C ys_L_low qw153 (c_L_low l g z5 40000 (by omega) (by omega)) (by decide) rfl dL_acts_100 rfl (Nat.le_of_ble_eq_true rfl) (by decide) (pfE (wTp g r qn qt qv kn kt kv sc ns tx tn pl)) rfl (fun r9 w9 hq9 => ?_)
    obtain ⟨rfl, rfl⟩ := hq9
    refine J.to (L1 := [(4, .int (iI ((nb : Int)))), (0, .ref (r 0)), (1, .int (iI 2)), (2, .int (iI x)), (3, .int (iI y))]) (S1 := [.int (iI (lwF z5 40000)), .int (iI (lwF z3 2000)), .ref (r 0)]) (ws1 := (wTp g r qn qt qv kn kt kv sc ns tx tn pl)) rfl rfl rfl ?_
    have hl6 := lwF_rng (x := z5) (n := 40000) (by decide)
    refine j_callS (As := [.ref (r 0), .int (iI (lwF z3 2000)), .int (iI (lwF z5 40000))]) (rest := []) C ys_L_hauled qw631 (c_L_hauled l hl g r qn qt qv kn kt kv sc ns tx tn pl n hI (lwF z3 2000) (lwF z5 40000) (by omega) (by omega)) (by decide) rfl dL_acts_103 rfl (Nat.le_of_ble_eq_true rfl) (by decide) pf0 rfl (fun r9 w9 hq9 => ?_)
    obtain ⟨rfl, kn_7, kt_8, kv_9, sc_10, ns_11, tx_12, tn_13, pl_14, rfl, hI_15⟩ := hq9
    refine J.to (L1 := [(4, .int (iI ((nb : Int)))), (0, .ref (r 0)), (1, .int (iI 2)), (2, .int (iI x)), (3, .int (iI y))]) (S1 := [.int (iI 1)]) (ws1 := (wTp g r qn qt qv kn_7 kt_8 kv_9 sc_10 ns_11 tx_12 tn_13 pl_14)) rfl rfl rfl ?_
    exact j_zret C hr hlk rfl dL_acts_106 ⟨rfl, kn_7, kt_8, kv_9, sc_10, ns_11, tx_12, tn_13, pl_14, rfl, hI_15⟩ (by decide) (by decide)
  · refine j_ldc (x := 1000000) C qw613 (by decide) dL_acts_81 ?_
    refine j_goto (tgt := 95) C dL_acts_83 (by decide) ?_
    refine j_iload_n C 3 dL_acts_95 rfl rfl ?_
    refine j_iconst C dL_acts_96 ?_
    refine j_ishrA C dL_acts_97 (fun z16 hz16 => ?_)
    refine j_ldc (x := 40000) C qw630 (by decide) dL_acts_98 ?_
    refine j_callS (As := [.int (iI z16), .int (iI 40000)]) (rest := [.int (iI 1000000), .ref (r 0)]) C ys_L_low qw153 (c_L_low l g z16 40000 (by omega) (by omega)) (by decide) rfl dL_acts_100 rfl (Nat.le_of_ble_eq_true rfl) (by decide) (pfE (wTp g r qn qt qv kn kt kv sc ns tx tn pl)) rfl (fun r9 w9 hq9 => ?_)
    obtain ⟨rfl, rfl⟩ := hq9
    refine J.to (L1 := [(4, .int (iI ((nb : Int)))), (0, .ref (r 0)), (1, .int (iI 2)), (2, .int (iI x)), (3, .int (iI y))]) (S1 := [.int (iI (lwF z16 40000)), .int (iI 1000000), .ref (r 0)]) (ws1 := (wTp g r qn qt qv kn kt kv sc ns tx tn pl)) rfl rfl rfl ?_
    have hl17 := lwF_rng (x := z16) (n := 40000) (by decide)
    refine j_callS (As := [.ref (r 0), .int (iI 1000000), .int (iI (lwF z16 40000))]) (rest := []) C ys_L_hauled qw631 (c_L_hauled l hl g r qn qt qv kn kt kv sc ns tx tn pl n hI 1000000 (lwF z16 40000) (by omega) (by omega)) (by decide) rfl dL_acts_103 rfl (Nat.le_of_ble_eq_true rfl) (by decide) pf0 rfl (fun r9 w9 hq9 => ?_)
    obtain ⟨rfl, kn_18, kt_19, kv_20, sc_21, ns_22, tx_23, tn_24, pl_25, rfl, hI_26⟩ := hq9
    refine J.to (L1 := [(4, .int (iI ((nb : Int)))), (0, .ref (r 0)), (1, .int (iI 2)), (2, .int (iI x)), (3, .int (iI y))]) (S1 := [.int (iI 1)]) (ws1 := (wTp g r qn qt qv kn_18 kt_19 kv_20 sc_21 ns_22 tx_23 tn_24 pl_25)) rfl rfl rfl ?_
    exact j_zret C hr hlk rfl dL_acts_106 ⟨rfl, kn_18, kt_19, kv_20, sc_21, ns_22, tx_23, tn_24, pl_25, rfl, hI_26⟩ (by decide) (by decide)

set_option maxRecDepth 100000 in
set_option maxHeartbeats 4000000 in
theorem c_L_acts_3 (l : Launch) (hl : l.stackTraces = false) (g : Gh) (r : Nat → Nat) (qn qt : Nat → Nat) (qv : Nat → Nat → Nat) (kn kt : Nat → Nat → Int) (kv : Nat → Nat → Nat → Int) (sc : Int) (ns : Nat) (tx : Nat → Int) (tn : Nat) (pl : Int) (n : Nat) (hI : IV n kn kv sc ns tx tn) (x y : Int) (hx : -2147483648 ≤ x ∧ x < 2147483648) (hy : -2147483648 ≤ y ∧ y < 2147483648) : CT l g yL_acts cL_acts 7 (some FieldType.boolean) ({ frames := 11, cells := 3, slots := 14, locals := 233 }) [.ref (r 0), .int (iI 3), .int (iI x), .int (iI y)] (wTp g r qn qt qv kn kt kv sc ns tx tn pl) (AP g r qn qt qv (n + 1)) := by
  refine CT.intro (L0 := [(0, .ref (r 0)), (1, .int (iI 3)), (2, .int (iI x)), (3, .int (iI y))]) (own := RL) (by decide) rfl (Nat.le_of_ble_eq_true rfl) rfl ?_
  intro pX eX sX mX argsX belowX methX cX A C hr hlk
  have hT := hI.1
  obtain ⟨hP, hE, hF, hrow, hwt, hht, hlen, hlat, hkept⟩ := id hT.1.1
  have hk := hT.1.1
  have hh0 := hT.1.2
  have hhl := hnd_le hk
  have hpf := passF_r hk
  have hga : hgA kn = kn 0 0 - hnd kn := by show _ = kn 0 0 - (kn 0 0 - hgA kn); omega
  refine j_iload_n C 2 dL_acts_0 rfl rfl ?_
  refine j_iconst C dL_acts_1 ?_
  refine j_callS (As := [.int (iI x), .int (iI 4)]) (rest := []) C ys_L_low qw153 (c_L_low l g x 4 (by omega) (by omega)) (by decide) rfl dL_acts_2 rfl (Nat.le_of_ble_eq_true rfl) (by decide) (pfE (wTp g r qn qt qv kn kt kv sc ns tx tn pl)) rfl (fun r9 w9 hq9 => ?_)
  obtain ⟨rfl, rfl⟩ := hq9
  refine J.to (L1 := [(0, .ref (r 0)), (1, .int (iI 3)), (2, .int (iI x)), (3, .int (iI y))]) (S1 := [.int (iI (lwF x 4))]) (ws1 := (wTp g r qn qt qv kn kt kv sc ns tx tn pl)) rfl rfl rfl ?_
  have hl1 := lwF_rng (x := x) (n := 4) (by decide)
  obtain ⟨nb, hnb⟩ : ∃ nb : Nat, lwF x 4 = (nb : Int) := ⟨(lwF x 4).toNat, by omega⟩
  have hnb4 : nb < 4 := by omega
  have hwb := hwt nb hnb4
  have htb := hht nb hnb4
  refine J.to (L1 := [(0, .ref (r 0)), (1, .int (iI 3)), (2, .int (iI x)), (3, .int (iI y))]) (S1 := [.int (iI ((nb : Int)))]) (ws1 := (wTp g r qn qt qv kn kt kv sc ns tx tn pl)) rfl rfl (congrArg (fun x9 : Int => ([.int (iI x9)] : List Value)) (show (lwF x 4 : Int) = (nb : Int) from hnb)) ?_
  refine j_istore (L1 := [(4, .int (iI ((nb : Int)))), (0, .ref (r 0)), (1, .int (iI 3)), (2, .int (iI x)), (3, .int (iI y))]) C dL_acts_5 (by decide) rfl ?_
  refine j_iload_n C 2 dL_acts_7 rfl rfl ?_
  refine j_tswIn (tgt := 107) C (by decide) dL_acts_8 (by decide) rfl (by decide) ?_
  refine j_aload_n C 1 dL_acts_107 rfl rfl ?_
  refine j_iload_n C 4 dL_acts_108 rfl rfl ?_
  refine j_sipush C dL_acts_109 (by decide) ?_
  refine j_callS (As := [.int (iI y), .int (iI 2000)]) (rest := [.ref (r 0)]) C ys_L_low qw153 (c_L_low l g y 2000 (by omega) (by omega)) (by decide) rfl dL_acts_112 rfl (Nat.le_of_ble_eq_true rfl) (by decide) (pfE (wTp g r qn qt qv kn kt kv sc ns tx tn pl)) rfl (fun r9 w9 hq9 => ?_)
  obtain ⟨rfl, rfl⟩ := hq9
  refine J.to (L1 := [(4, .int (iI ((nb : Int)))), (0, .ref (r 0)), (1, .int (iI 3)), (2, .int (iI x)), (3, .int (iI y))]) (S1 := [.int (iI (lwF y 2000)), .ref (r 0)]) (ws1 := (wTp g r qn qt qv kn kt kv sc ns tx tn pl)) rfl rfl rfl ?_
  have hl2 := lwF_rng (x := y) (n := 2000) (by decide)
  refine j_iload_n C 3 dL_acts_115 rfl rfl ?_
  refine j_iconst C dL_acts_116 ?_
  refine j_ishrA C dL_acts_117 (fun z3 hz3 => ?_)
  refine j_ldc (x := 40000) C qw630 (by decide) dL_acts_118 ?_
  refine j_callS (As := [.int (iI z3), .int (iI 40000)]) (rest := [.int (iI (lwF y 2000)), .ref (r 0)]) C ys_L_low qw153 (c_L_low l g z3 40000 (by omega) (by omega)) (by decide) rfl dL_acts_120 rfl (Nat.le_of_ble_eq_true rfl) (by decide) (pfE (wTp g r qn qt qv kn kt kv sc ns tx tn pl)) rfl (fun r9 w9 hq9 => ?_)
  obtain ⟨rfl, rfl⟩ := hq9
  refine J.to (L1 := [(4, .int (iI ((nb : Int)))), (0, .ref (r 0)), (1, .int (iI 3)), (2, .int (iI x)), (3, .int (iI y))]) (S1 := [.int (iI (lwF z3 40000)), .int (iI (lwF y 2000)), .ref (r 0)]) (ws1 := (wTp g r qn qt qv kn kt kv sc ns tx tn pl)) rfl rfl rfl ?_
  have hl4 := lwF_rng (x := z3) (n := 40000) (by decide)
  refine j_callS (As := [.ref (r 0), .int (iI (lwF y 2000)), .int (iI (lwF z3 40000))]) (rest := []) C ys_L_letOut qw640 (c_L_letOut l hl g r qn qt qv kn kt kv sc ns tx tn pl n hI (lwF y 2000) (lwF z3 40000) (by omega) (by omega)) (by decide) rfl dL_acts_123 rfl (Nat.le_of_ble_eq_true rfl) (by decide) pf0 rfl (fun r9 w9 hq9 => ?_)
  obtain ⟨rfl, kn_5, kt_6, kv_7, sc_8, ns_9, tx_10, tn_11, pl_12, rfl, hI_13⟩ := hq9
  refine J.to (L1 := [(4, .int (iI ((nb : Int)))), (0, .ref (r 0)), (1, .int (iI 3)), (2, .int (iI x)), (3, .int (iI y))]) (S1 := [.int (iI 1)]) (ws1 := (wTp g r qn qt qv kn_5 kt_6 kv_7 sc_8 ns_9 tx_10 tn_11 pl_12)) rfl rfl rfl ?_
  exact j_zret C hr hlk rfl dL_acts_126 ⟨rfl, kn_5, kt_6, kv_7, sc_8, ns_9, tx_10, tn_11, pl_12, rfl, hI_13⟩ (by decide) (by decide)

set_option maxRecDepth 100000 in
set_option maxHeartbeats 4000000 in
theorem c_L_acts_4 (l : Launch) (hl : l.stackTraces = false) (g : Gh) (r : Nat → Nat) (qn qt : Nat → Nat) (qv : Nat → Nat → Nat) (kn kt : Nat → Nat → Int) (kv : Nat → Nat → Nat → Int) (sc : Int) (ns : Nat) (tx : Nat → Int) (tn : Nat) (pl : Int) (n : Nat) (hI : IV n kn kv sc ns tx tn) (x y : Int) (hx : -2147483648 ≤ x ∧ x < 2147483648) (hy : -2147483648 ≤ y ∧ y < 2147483648) : CT l g yL_acts cL_acts 7 (some FieldType.boolean) ({ frames := 11, cells := 3, slots := 14, locals := 233 }) [.ref (r 0), .int (iI 4), .int (iI x), .int (iI y)] (wTp g r qn qt qv kn kt kv sc ns tx tn pl) (AP g r qn qt qv (n + 1)) := by
  refine CT.intro (L0 := [(0, .ref (r 0)), (1, .int (iI 4)), (2, .int (iI x)), (3, .int (iI y))]) (own := RL) (by decide) rfl (Nat.le_of_ble_eq_true rfl) rfl ?_
  intro pX eX sX mX argsX belowX methX cX A C hr hlk
  have hT := hI.1
  obtain ⟨hP, hE, hF, hrow, hwt, hht, hlen, hlat, hkept⟩ := id hT.1.1
  have hk := hT.1.1
  have hh0 := hT.1.2
  have hhl := hnd_le hk
  have hpf := passF_r hk
  have hga : hgA kn = kn 0 0 - hnd kn := by show _ = kn 0 0 - (kn 0 0 - hgA kn); omega
  refine j_iload_n C 2 dL_acts_0 rfl rfl ?_
  refine j_iconst C dL_acts_1 ?_
  refine j_callS (As := [.int (iI x), .int (iI 4)]) (rest := []) C ys_L_low qw153 (c_L_low l g x 4 (by omega) (by omega)) (by decide) rfl dL_acts_2 rfl (Nat.le_of_ble_eq_true rfl) (by decide) (pfE (wTp g r qn qt qv kn kt kv sc ns tx tn pl)) rfl (fun r9 w9 hq9 => ?_)
  obtain ⟨rfl, rfl⟩ := hq9
  refine J.to (L1 := [(0, .ref (r 0)), (1, .int (iI 4)), (2, .int (iI x)), (3, .int (iI y))]) (S1 := [.int (iI (lwF x 4))]) (ws1 := (wTp g r qn qt qv kn kt kv sc ns tx tn pl)) rfl rfl rfl ?_
  have hl1 := lwF_rng (x := x) (n := 4) (by decide)
  obtain ⟨nb, hnb⟩ : ∃ nb : Nat, lwF x 4 = (nb : Int) := ⟨(lwF x 4).toNat, by omega⟩
  have hnb4 : nb < 4 := by omega
  have hwb := hwt nb hnb4
  have htb := hht nb hnb4
  refine J.to (L1 := [(0, .ref (r 0)), (1, .int (iI 4)), (2, .int (iI x)), (3, .int (iI y))]) (S1 := [.int (iI ((nb : Int)))]) (ws1 := (wTp g r qn qt qv kn kt kv sc ns tx tn pl)) rfl rfl (congrArg (fun x9 : Int => ([.int (iI x9)] : List Value)) (show (lwF x 4 : Int) = (nb : Int) from hnb)) ?_
  refine j_istore (L1 := [(4, .int (iI ((nb : Int)))), (0, .ref (r 0)), (1, .int (iI 4)), (2, .int (iI x)), (3, .int (iI y))]) C dL_acts_5 (by decide) rfl ?_
  refine j_iload_n C 2 dL_acts_7 rfl rfl ?_
  refine j_tswIn (tgt := 107) C (by decide) dL_acts_8 (by decide) rfl (by decide) ?_
  refine j_aload_n C 1 dL_acts_107 rfl rfl ?_
  refine j_iload_n C 4 dL_acts_108 rfl rfl ?_
  refine j_sipush C dL_acts_109 (by decide) ?_
  refine j_callS (As := [.int (iI y), .int (iI 2000)]) (rest := [.ref (r 0)]) C ys_L_low qw153 (c_L_low l g y 2000 (by omega) (by omega)) (by decide) rfl dL_acts_112 rfl (Nat.le_of_ble_eq_true rfl) (by decide) (pfE (wTp g r qn qt qv kn kt kv sc ns tx tn pl)) rfl (fun r9 w9 hq9 => ?_)
  obtain ⟨rfl, rfl⟩ := hq9
  refine J.to (L1 := [(4, .int (iI ((nb : Int)))), (0, .ref (r 0)), (1, .int (iI 4)), (2, .int (iI x)), (3, .int (iI y))]) (S1 := [.int (iI (lwF y 2000)), .ref (r 0)]) (ws1 := (wTp g r qn qt qv kn kt kv sc ns tx tn pl)) rfl rfl rfl ?_
  have hl2 := lwF_rng (x := y) (n := 2000) (by decide)
  refine j_iload_n C 3 dL_acts_115 rfl rfl ?_
  refine j_iconst C dL_acts_116 ?_
  refine j_ishrA C dL_acts_117 (fun z3 hz3 => ?_)
  refine j_ldc (x := 40000) C qw630 (by decide) dL_acts_118 ?_
  refine j_callS (As := [.int (iI z3), .int (iI 40000)]) (rest := [.int (iI (lwF y 2000)), .ref (r 0)]) C ys_L_low qw153 (c_L_low l g z3 40000 (by omega) (by omega)) (by decide) rfl dL_acts_120 rfl (Nat.le_of_ble_eq_true rfl) (by decide) (pfE (wTp g r qn qt qv kn kt kv sc ns tx tn pl)) rfl (fun r9 w9 hq9 => ?_)
  obtain ⟨rfl, rfl⟩ := hq9
  refine J.to (L1 := [(4, .int (iI ((nb : Int)))), (0, .ref (r 0)), (1, .int (iI 4)), (2, .int (iI x)), (3, .int (iI y))]) (S1 := [.int (iI (lwF z3 40000)), .int (iI (lwF y 2000)), .ref (r 0)]) (ws1 := (wTp g r qn qt qv kn kt kv sc ns tx tn pl)) rfl rfl rfl ?_
  have hl4 := lwF_rng (x := z3) (n := 40000) (by decide)
  refine j_callS (As := [.ref (r 0), .int (iI (lwF y 2000)), .int (iI (lwF z3 40000))]) (rest := []) C ys_L_letOut qw640 (c_L_letOut l hl g r qn qt qv kn kt kv sc ns tx tn pl n hI (lwF y 2000) (lwF z3 40000) (by omega) (by omega)) (by decide) rfl dL_acts_123 rfl (Nat.le_of_ble_eq_true rfl) (by decide) pf0 rfl (fun r9 w9 hq9 => ?_)
  obtain ⟨rfl, kn_5, kt_6, kv_7, sc_8, ns_9, tx_10, tn_11, pl_12, rfl, hI_13⟩ := hq9
  refine J.to (L1 := [(4, .int (iI ((nb : Int)))), (0, .ref (r 0)), (1, .int (iI 4)), (2, .int (iI x)), (3, .int (iI y))]) (S1 := [.int (iI 1)]) (ws1 := (wTp g r qn qt qv kn_5 kt_6 kv_7 sc_8 ns_9 tx_10 tn_11 pl_12)) rfl rfl rfl ?_
  exact j_zret C hr hlk rfl dL_acts_126 ⟨rfl, kn_5, kt_6, kv_7, sc_8, ns_9, tx_10, tn_11, pl_12, rfl, hI_13⟩ (by decide) (by decide)

set_option maxRecDepth 100000 in
set_option maxHeartbeats 4000000 in
theorem c_L_acts_5 (l : Launch) (hl : l.stackTraces = false) (g : Gh) (r : Nat → Nat) (qn qt : Nat → Nat) (qv : Nat → Nat → Nat) (kn kt : Nat → Nat → Int) (kv : Nat → Nat → Nat → Int) (sc : Int) (ns : Nat) (tx : Nat → Int) (tn : Nat) (pl : Int) (n : Nat) (hI : IV n kn kv sc ns tx tn) (x y : Int) (hx : -2147483648 ≤ x ∧ x < 2147483648) (hy : -2147483648 ≤ y ∧ y < 2147483648) : CT l g yL_acts cL_acts 7 (some FieldType.boolean) ({ frames := 11, cells := 3, slots := 14, locals := 233 }) [.ref (r 0), .int (iI 5), .int (iI x), .int (iI y)] (wTp g r qn qt qv kn kt kv sc ns tx tn pl) (AP g r qn qt qv (n + 1)) := by
  refine CT.intro (L0 := [(0, .ref (r 0)), (1, .int (iI 5)), (2, .int (iI x)), (3, .int (iI y))]) (own := RL) (by decide) rfl (Nat.le_of_ble_eq_true rfl) rfl ?_
  intro pX eX sX mX argsX belowX methX cX A C hr hlk
  have hT := hI.1
  obtain ⟨hP, hE, hF, hrow, hwt, hht, hlen, hlat, hkept⟩ := id hT.1.1
  have hk := hT.1.1
  have hh0 := hT.1.2
  have hhl := hnd_le hk
  have hpf := passF_r hk
  have hga : hgA kn = kn 0 0 - hnd kn := by show _ = kn 0 0 - (kn 0 0 - hgA kn); omega
  refine j_iload_n C 2 dL_acts_0 rfl rfl ?_
  refine j_iconst C dL_acts_1 ?_
  refine j_callS (As := [.int (iI x), .int (iI 4)]) (rest := []) C ys_L_low qw153 (c_L_low l g x 4 (by omega) (by omega)) (by decide) rfl dL_acts_2 rfl (Nat.le_of_ble_eq_true rfl) (by decide) (pfE (wTp g r qn qt qv kn kt kv sc ns tx tn pl)) rfl (fun r9 w9 hq9 => ?_)
  obtain ⟨rfl, rfl⟩ := hq9
  refine J.to (L1 := [(0, .ref (r 0)), (1, .int (iI 5)), (2, .int (iI x)), (3, .int (iI y))]) (S1 := [.int (iI (lwF x 4))]) (ws1 := (wTp g r qn qt qv kn kt kv sc ns tx tn pl)) rfl rfl rfl ?_
  have hl1 := lwF_rng (x := x) (n := 4) (by decide)
  obtain ⟨nb, hnb⟩ : ∃ nb : Nat, lwF x 4 = (nb : Int) := ⟨(lwF x 4).toNat, by omega⟩
  have hnb4 : nb < 4 := by omega
  have hwb := hwt nb hnb4
  have htb := hht nb hnb4
  refine J.to (L1 := [(0, .ref (r 0)), (1, .int (iI 5)), (2, .int (iI x)), (3, .int (iI y))]) (S1 := [.int (iI ((nb : Int)))]) (ws1 := (wTp g r qn qt qv kn kt kv sc ns tx tn pl)) rfl rfl (congrArg (fun x9 : Int => ([.int (iI x9)] : List Value)) (show (lwF x 4 : Int) = (nb : Int) from hnb)) ?_
  refine j_istore (L1 := [(4, .int (iI ((nb : Int)))), (0, .ref (r 0)), (1, .int (iI 5)), (2, .int (iI x)), (3, .int (iI y))]) C dL_acts_5 (by decide) rfl ?_
  refine j_iload_n C 2 dL_acts_7 rfl rfl ?_
  refine j_tswIn (tgt := 127) C (by decide) dL_acts_8 (by decide) rfl (by decide) ?_
  refine j_aload_n C 1 dL_acts_127 rfl rfl ?_
  refine j_iload C 0 dL_acts_128 rfl ?_
  refine j_iconst C dL_acts_130 ?_
  refine j_callSW (As := [.ref (r 0), .int (iI ((nb : Int))), .int (iI 0)]) (rest := []) C yw_L_block qw456 (w_block l g r qn qt qv kn kt kv sc ns tx tn pl (nb : Int) 0 hT (by omega) (by omega)) (by decide) rfl dL_acts_131 rfl (Nat.le_of_ble_eq_true rfl) (by decide) pf0 rfl (fun r9 w9 hq9 => ?_)
  obtain ⟨rfl, rfl⟩ := hq9
  refine J.to (L1 := [(4, .int (iI ((nb : Int)))), (0, .ref (r 0)), (1, .int (iI 5)), (2, .int (iI x)), (3, .int (iI y))]) (S1 := [.int (iI (kn 3 nb))]) (ws1 := (wTp g r qn qt qv kn kt kv sc ns tx tn pl)) rfl rfl rfl ?_
  refine j_istore (L1 := [(5, .int (iI (kn 3 nb))), (4, .int (iI ((nb : Int)))), (0, .ref (r 0)), (1, .int (iI 5)), (2, .int (iI x)), (3, .int (iI y))]) C dL_acts_134 (by decide) rfl ?_
  refine j_aload_n C 2 dL_acts_136 rfl rfl ?_
  refine j_iload C 1 dL_acts_137 rfl ?_
  refine j_iload_n C 5 dL_acts_139 rfl rfl ?_
  refine j_sipush C dL_acts_140 (by decide) ?_
  refine j_callS (As := [.int (iI y), .int (iI 6000)]) (rest := [.int (iI ((nb : Int))), .ref (r 0)]) C ys_L_low qw153 (c_L_low l g y 6000 (by omega) (by omega)) (by decide) rfl dL_acts_143 rfl (Nat.le_of_ble_eq_true rfl) (by decide) (pfE (wTp g r qn qt qv kn kt kv sc ns tx tn pl)) rfl (fun r9 w9 hq9 => ?_)
  obtain ⟨rfl, rfl⟩ := hq9
  refine J.to (L1 := [(5, .int (iI (kn 3 nb))), (4, .int (iI ((nb : Int)))), (0, .ref (r 0)), (1, .int (iI 5)), (2, .int (iI x)), (3, .int (iI y))]) (S1 := [.int (iI (lwF y 6000)), .int (iI ((nb : Int))), .ref (r 0)]) (ws1 := (wTp g r qn qt qv kn kt kv sc ns tx tn pl)) rfl rfl rfl ?_
  have hl2 := lwF_rng (x := y) (n := 6000) (by decide)
  refine j_callSW (As := [.ref (r 0), .int (iI ((nb : Int))), .int (iI (lwF y 6000))]) (rest := []) C yw_L_weight qw157 (w_weight l g r qn qt qv kn kt kv sc ns tx tn pl (nb : Int) (lwF y 6000) hT (by omega) (by omega)) (by decide) rfl dL_acts_146 rfl (Nat.le_of_ble_eq_true rfl) (by decide) pf0 rfl (fun r9 w9 hq9 => ?_)
  obtain ⟨rfl, rfl⟩ := hq9
  refine J.to (L1 := [(5, .int (iI (kn 3 nb))), (4, .int (iI ((nb : Int)))), (0, .ref (r 0)), (1, .int (iI 5)), (2, .int (iI x)), (3, .int (iI y))]) (S1 := [.int (iI ((kn 3 (nb : Int).toNat)))]) (ws1 := (wTp g r qn qt qv (va_up kn 3 (va_up (kn 3) (nb : Int).toNat (lwF y 6000))) kt (svk kn kv ns) (svs sc) (svn ns) tx tn pl)) rfl rfl rfl ?_
  have hI2 := hI.w (b := nb) (w := lwF y 6000) (by omega)
  refine J.to (L1 := [(5, .int (iI (kn 3 nb))), (4, .int (iI ((nb : Int)))), (0, .ref (r 0)), (1, .int (iI 5)), (2, .int (iI x)), (3, .int (iI y))]) (S1 := [.int (iI ((kn 3 (nb : Int).toNat)))]) (ws1 := (wTp g r qn qt qv (va_up kn 3 (va_up (kn 3) nb (lwF y 6000))) kt (svk kn kv ns) (svs sc) (svn ns) tx tn pl)) rfl rfl rfl ?_
  refine j_iload C 0 dL_acts_149 rfl ?_
  refine j_isameF C (rfl) dL_acts_151 (tgt := 175) (by decide) ?_
  refine j_aload_n C 2 dL_acts_154 rfl rfl ?_
  refine j_iload C 1 dL_acts_155 rfl ?_
  refine j_iconst C dL_acts_157 ?_
  refine j_callSW (As := [.ref (r 0), .int (iI ((nb : Int))), .int (iI 0)]) (rest := []) C yw_L_block qw456 (w_block l g r qn qt qv (va_up kn 3 (va_up (kn 3) nb (lwF y 6000))) kt (svk kn kv ns) (svs sc) (svn ns) tx tn pl (nb : Int) 0 hI2.1 (by omega) (by omega)) (by decide) rfl dL_acts_158 rfl (Nat.le_of_ble_eq_true rfl) (by decide) pf0 rfl (fun r9 w9 hq9 => ?_)
  obtain ⟨rfl, rfl⟩ := hq9
  refine J.to (L1 := [(5, .int (iI (kn 3 nb))), (4, .int (iI ((nb : Int)))), (0, .ref (r 0)), (1, .int (iI 5)), (2, .int (iI x)), (3, .int (iI y))]) (S1 := [.int (iI ((va_up kn 3 (va_up (kn 3) nb (lwF y 6000))) 3 nb))]) (ws1 := (wTp g r qn qt qv (va_up kn 3 (va_up (kn 3) nb (lwF y 6000))) kt (svk kn kv ns) (svs sc) (svn ns) tx tn pl)) rfl rfl rfl ?_
  refine j_iload_n C 5 dL_acts_161 rfl rfl ?_
  refine j_sipush C dL_acts_162 (by decide) ?_
  refine j_callS (As := [.int (iI y), .int (iI 6000)]) (rest := [.int (iI ((va_up kn 3 (va_up (kn 3) nb (lwF y 6000))) 3 nb))]) C ys_L_low qw153 (c_L_low l g y 6000 (by omega) (by omega)) (by decide) rfl dL_acts_165 rfl (Nat.le_of_ble_eq_true rfl) (by decide) (pfE (wTp g r qn qt qv (va_up kn 3 (va_up (kn 3) nb (lwF y 6000))) kt (svk kn kv ns) (svs sc) (svn ns) tx tn pl)) rfl (fun r9 w9 hq9 => ?_)
  obtain ⟨rfl, rfl⟩ := hq9
  refine J.to (L1 := [(5, .int (iI (kn 3 nb))), (4, .int (iI ((nb : Int)))), (0, .ref (r 0)), (1, .int (iI 5)), (2, .int (iI x)), (3, .int (iI y))]) (S1 := [.int (iI (lwF y 6000)), .int (iI ((va_up kn 3 (va_up (kn 3) nb (lwF y 6000))) 3 nb))]) (ws1 := (wTp g r qn qt qv (va_up kn 3 (va_up (kn 3) nb (lwF y 6000))) kt (svk kn kv ns) (svs sc) (svn ns) tx tn pl)) rfl rfl rfl ?_
  have hl3 := lwF_rng (x := y) (n := 6000) (by decide)
  refine j_isameF C ((va_eq (v := kn 3) (k := nb) (x := lwF y 6000))) dL_acts_168 (tgt := 175) (by decide) ?_
  refine j_iconst C dL_acts_171 ?_
  refine j_goto (tgt := 176) C dL_acts_172 (by decide) ?_
  exact j_zret C hr hlk rfl dL_acts_176 ⟨rfl, va_up kn 3 (va_up (kn 3) nb (lwF y 6000)), kt, svk kn kv ns, svs sc, svn ns, tx, tn, pl, rfl, hI2⟩ (by decide) (by decide)

set_option maxRecDepth 100000 in
set_option maxHeartbeats 4000000 in
theorem c_L_acts_6 (l : Launch) (hl : l.stackTraces = false) (g : Gh) (r : Nat → Nat) (qn qt : Nat → Nat) (qv : Nat → Nat → Nat) (kn kt : Nat → Nat → Int) (kv : Nat → Nat → Nat → Int) (sc : Int) (ns : Nat) (tx : Nat → Int) (tn : Nat) (pl : Int) (n : Nat) (hI : IV n kn kv sc ns tx tn) (x y : Int) (hx : -2147483648 ≤ x ∧ x < 2147483648) (hy : -2147483648 ≤ y ∧ y < 2147483648) : CT l g yL_acts cL_acts 7 (some FieldType.boolean) ({ frames := 11, cells := 3, slots := 14, locals := 233 }) [.ref (r 0), .int (iI 6), .int (iI x), .int (iI y)] (wTp g r qn qt qv kn kt kv sc ns tx tn pl) (AP g r qn qt qv (n + 1)) := by
  refine CT.intro (L0 := [(0, .ref (r 0)), (1, .int (iI 6)), (2, .int (iI x)), (3, .int (iI y))]) (own := RL) (by decide) rfl (Nat.le_of_ble_eq_true rfl) rfl ?_
  intro pX eX sX mX argsX belowX methX cX A C hr hlk
  have hT := hI.1
  obtain ⟨hP, hE, hF, hrow, hwt, hht, hlen, hlat, hkept⟩ := id hT.1.1
  have hk := hT.1.1
  have hh0 := hT.1.2
  have hhl := hnd_le hk
  have hpf := passF_r hk
  have hga : hgA kn = kn 0 0 - hnd kn := by show _ = kn 0 0 - (kn 0 0 - hgA kn); omega
  refine j_iload_n C 2 dL_acts_0 rfl rfl ?_
  refine j_iconst C dL_acts_1 ?_
  refine j_callS (As := [.int (iI x), .int (iI 4)]) (rest := []) C ys_L_low qw153 (c_L_low l g x 4 (by omega) (by omega)) (by decide) rfl dL_acts_2 rfl (Nat.le_of_ble_eq_true rfl) (by decide) (pfE (wTp g r qn qt qv kn kt kv sc ns tx tn pl)) rfl (fun r9 w9 hq9 => ?_)
  obtain ⟨rfl, rfl⟩ := hq9
  refine J.to (L1 := [(0, .ref (r 0)), (1, .int (iI 6)), (2, .int (iI x)), (3, .int (iI y))]) (S1 := [.int (iI (lwF x 4))]) (ws1 := (wTp g r qn qt qv kn kt kv sc ns tx tn pl)) rfl rfl rfl ?_
  have hl1 := lwF_rng (x := x) (n := 4) (by decide)
  obtain ⟨nb, hnb⟩ : ∃ nb : Nat, lwF x 4 = (nb : Int) := ⟨(lwF x 4).toNat, by omega⟩
  have hnb4 : nb < 4 := by omega
  have hwb := hwt nb hnb4
  have htb := hht nb hnb4
  refine J.to (L1 := [(0, .ref (r 0)), (1, .int (iI 6)), (2, .int (iI x)), (3, .int (iI y))]) (S1 := [.int (iI ((nb : Int)))]) (ws1 := (wTp g r qn qt qv kn kt kv sc ns tx tn pl)) rfl rfl (congrArg (fun x9 : Int => ([.int (iI x9)] : List Value)) (show (lwF x 4 : Int) = (nb : Int) from hnb)) ?_
  refine j_istore (L1 := [(4, .int (iI ((nb : Int)))), (0, .ref (r 0)), (1, .int (iI 6)), (2, .int (iI x)), (3, .int (iI y))]) C dL_acts_5 (by decide) rfl ?_
  refine j_iload_n C 2 dL_acts_7 rfl rfl ?_
  refine j_tswIn (tgt := 177) C (by decide) dL_acts_8 (by decide) rfl (by decide) ?_
  refine j_aload_n C 1 dL_acts_177 rfl rfl ?_
  refine j_iconst C dL_acts_178 ?_
  refine j_callSW (As := [.ref (r 0), .int (iI 2)]) (rest := []) C yw_L_value qw443 (w_value l g r qn qt qv kn kt kv sc ns tx tn pl 2 hT (by omega)) (by decide) rfl dL_acts_179 rfl (Nat.le_of_ble_eq_true rfl) (by decide) pf0 rfl (fun r9 w9 hq9 => ?_)
  obtain ⟨rfl, rfl⟩ := hq9
  refine J.to (L1 := [(4, .int (iI ((nb : Int)))), (0, .ref (r 0)), (1, .int (iI 6)), (2, .int (iI x)), (3, .int (iI y))]) (S1 := [.int (iI (kn 0 1))]) (ws1 := (wTp g r qn qt qv kn kt kv sc ns tx tn pl)) rfl rfl rfl ?_
  refine j_istore (L1 := [(5, .int (iI (kn 0 1))), (4, .int (iI ((nb : Int)))), (0, .ref (r 0)), (1, .int (iI 6)), (2, .int (iI x)), (3, .int (iI y))]) C dL_acts_182 (by decide) rfl ?_
  refine j_aload_n C 2 dL_acts_184 rfl rfl ?_
  refine j_iload_n C 5 dL_acts_185 rfl rfl ?_
  refine j_bipush C dL_acts_186 (by decide) ?_
  refine j_callS (As := [.int (iI y), .int (iI 31)]) (rest := [.ref (r 0)]) C ys_L_low qw153 (c_L_low l g y 31 (by omega) (by omega)) (by decide) rfl dL_acts_188 rfl (Nat.le_of_ble_eq_true rfl) (by decide) (pfE (wTp g r qn qt qv kn kt kv sc ns tx tn pl)) rfl (fun r9 w9 hq9 => ?_)
  obtain ⟨rfl, rfl⟩ := hq9
  refine J.to (L1 := [(5, .int (iI (kn 0 1))), (4, .int (iI ((nb : Int)))), (0, .ref (r 0)), (1, .int (iI 6)), (2, .int (iI x)), (3, .int (iI y))]) (S1 := [.int (iI (lwF y 31)), .ref (r 0)]) (ws1 := (wTp g r qn qt qv kn kt kv sc ns tx tn pl)) rfl rfl rfl ?_
  have hl2 := lwF_rng (x := y) (n := 31) (by decide)
  refine j_callSW (As := [.ref (r 0), .int (iI (lwF y 31))]) (rest := []) C yw_L_friction qw307 (w_friction l g r qn qt qv kn kt kv sc ns tx tn pl (lwF y 31) hT (by omega)) (by decide) rfl dL_acts_191 rfl (Nat.le_of_ble_eq_true rfl) (by decide) pf0 rfl (fun r9 w9 hq9 => ?_)
  obtain ⟨rfl, rfl⟩ := hq9
  refine J.to (L1 := [(5, .int (iI (kn 0 1))), (4, .int (iI ((nb : Int)))), (0, .ref (r 0)), (1, .int (iI 6)), (2, .int (iI x)), (3, .int (iI y))]) (S1 := [.int (iI ((kn 0 1)))]) (ws1 := (wTp g r qn qt qv (va_up kn 0 (va_up (kn 0) 1 (lwF y 31))) kt (svk kn kv ns) (svs sc) (svn ns) tx tn pl)) rfl rfl rfl ?_
  have hI2 := hI.f (f := lwF y 31) (by omega)
  refine j_iload C 0 dL_acts_194 rfl ?_
  refine j_isameF C (rfl) dL_acts_196 (tgt := 217) (by decide) ?_
  refine j_aload_n C 2 dL_acts_199 rfl rfl ?_
  refine j_iconst C dL_acts_200 ?_
  refine j_callSW (As := [.ref (r 0), .int (iI 2)]) (rest := []) C yw_L_value qw443 (w_value l g r qn qt qv (va_up kn 0 (va_up (kn 0) 1 (lwF y 31))) kt (svk kn kv ns) (svs sc) (svn ns) tx tn pl 2 hI2.1 (by omega)) (by decide) rfl dL_acts_201 rfl (Nat.le_of_ble_eq_true rfl) (by decide) pf0 rfl (fun r9 w9 hq9 => ?_)
  obtain ⟨rfl, rfl⟩ := hq9
  refine J.to (L1 := [(5, .int (iI (kn 0 1))), (4, .int (iI ((nb : Int)))), (0, .ref (r 0)), (1, .int (iI 6)), (2, .int (iI x)), (3, .int (iI y))]) (S1 := [.int (iI ((va_up kn 0 (va_up (kn 0) 1 (lwF y 31))) 0 1))]) (ws1 := (wTp g r qn qt qv (va_up kn 0 (va_up (kn 0) 1 (lwF y 31))) kt (svk kn kv ns) (svs sc) (svn ns) tx tn pl)) rfl rfl rfl ?_
  refine j_iload_n C 5 dL_acts_204 rfl rfl ?_
  refine j_bipush C dL_acts_205 (by decide) ?_
  refine j_callS (As := [.int (iI y), .int (iI 31)]) (rest := [.int (iI ((va_up kn 0 (va_up (kn 0) 1 (lwF y 31))) 0 1))]) C ys_L_low qw153 (c_L_low l g y 31 (by omega) (by omega)) (by decide) rfl dL_acts_207 rfl (Nat.le_of_ble_eq_true rfl) (by decide) (pfE (wTp g r qn qt qv (va_up kn 0 (va_up (kn 0) 1 (lwF y 31))) kt (svk kn kv ns) (svs sc) (svn ns) tx tn pl)) rfl (fun r9 w9 hq9 => ?_)
  obtain ⟨rfl, rfl⟩ := hq9
  refine J.to (L1 := [(5, .int (iI (kn 0 1))), (4, .int (iI ((nb : Int)))), (0, .ref (r 0)), (1, .int (iI 6)), (2, .int (iI x)), (3, .int (iI y))]) (S1 := [.int (iI (lwF y 31)), .int (iI ((va_up kn 0 (va_up (kn 0) 1 (lwF y 31))) 0 1))]) (ws1 := (wTp g r qn qt qv (va_up kn 0 (va_up (kn 0) 1 (lwF y 31))) kt (svk kn kv ns) (svs sc) (svn ns) tx tn pl)) rfl rfl rfl ?_
  have hl3 := lwF_rng (x := y) (n := 31) (by decide)
  refine j_isameF C (rfl) dL_acts_210 (tgt := 217) (by decide) ?_
  refine j_iconst C dL_acts_213 ?_
  refine j_goto (tgt := 218) C dL_acts_214 (by decide) ?_
  exact j_zret C hr hlk rfl dL_acts_218 ⟨rfl, va_up kn 0 (va_up (kn 0) 1 (lwF y 31)), kt, svk kn kv ns, svs sc, svn ns, tx, tn, pl, rfl, hI2⟩ (by decide) (by decide)

set_option maxRecDepth 100000 in
set_option maxHeartbeats 4000000 in
theorem c_L_acts_7 (l : Launch) (hl : l.stackTraces = false) (g : Gh) (r : Nat → Nat) (qn qt : Nat → Nat) (qv : Nat → Nat → Nat) (kn kt : Nat → Nat → Int) (kv : Nat → Nat → Nat → Int) (sc : Int) (ns : Nat) (tx : Nat → Int) (tn : Nat) (pl : Int) (n : Nat) (hI : IV n kn kv sc ns tx tn) (x y : Int) (hx : -2147483648 ≤ x ∧ x < 2147483648) (hy : -2147483648 ≤ y ∧ y < 2147483648) : CT l g yL_acts cL_acts 7 (some FieldType.boolean) ({ frames := 11, cells := 3, slots := 14, locals := 233 }) [.ref (r 0), .int (iI 7), .int (iI x), .int (iI y)] (wTp g r qn qt qv kn kt kv sc ns tx tn pl) (AP g r qn qt qv (n + 1)) := by
  refine CT.intro (L0 := [(0, .ref (r 0)), (1, .int (iI 7)), (2, .int (iI x)), (3, .int (iI y))]) (own := RL) (by decide) rfl (Nat.le_of_ble_eq_true rfl) rfl ?_
  intro pX eX sX mX argsX belowX methX cX A C hr hlk
  have hT := hI.1
  obtain ⟨hP, hE, hF, hrow, hwt, hht, hlen, hlat, hkept⟩ := id hT.1.1
  have hk := hT.1.1
  have hh0 := hT.1.2
  have hhl := hnd_le hk
  have hpf := passF_r hk
  have hga : hgA kn = kn 0 0 - hnd kn := by show _ = kn 0 0 - (kn 0 0 - hgA kn); omega
  refine j_iload_n C 2 dL_acts_0 rfl rfl ?_
  refine j_iconst C dL_acts_1 ?_
  refine j_callS (As := [.int (iI x), .int (iI 4)]) (rest := []) C ys_L_low qw153 (c_L_low l g x 4 (by omega) (by omega)) (by decide) rfl dL_acts_2 rfl (Nat.le_of_ble_eq_true rfl) (by decide) (pfE (wTp g r qn qt qv kn kt kv sc ns tx tn pl)) rfl (fun r9 w9 hq9 => ?_)
  obtain ⟨rfl, rfl⟩ := hq9
  refine J.to (L1 := [(0, .ref (r 0)), (1, .int (iI 7)), (2, .int (iI x)), (3, .int (iI y))]) (S1 := [.int (iI (lwF x 4))]) (ws1 := (wTp g r qn qt qv kn kt kv sc ns tx tn pl)) rfl rfl rfl ?_
  have hl1 := lwF_rng (x := x) (n := 4) (by decide)
  obtain ⟨nb, hnb⟩ : ∃ nb : Nat, lwF x 4 = (nb : Int) := ⟨(lwF x 4).toNat, by omega⟩
  have hnb4 : nb < 4 := by omega
  have hwb := hwt nb hnb4
  have htb := hht nb hnb4
  refine J.to (L1 := [(0, .ref (r 0)), (1, .int (iI 7)), (2, .int (iI x)), (3, .int (iI y))]) (S1 := [.int (iI ((nb : Int)))]) (ws1 := (wTp g r qn qt qv kn kt kv sc ns tx tn pl)) rfl rfl (congrArg (fun x9 : Int => ([.int (iI x9)] : List Value)) (show (lwF x 4 : Int) = (nb : Int) from hnb)) ?_
  refine j_istore (L1 := [(4, .int (iI ((nb : Int)))), (0, .ref (r 0)), (1, .int (iI 7)), (2, .int (iI x)), (3, .int (iI y))]) C dL_acts_5 (by decide) rfl ?_
  refine j_iload_n C 2 dL_acts_7 rfl rfl ?_
  refine j_tswIn (tgt := 219) C (by decide) dL_acts_8 (by decide) rfl (by decide) ?_
  refine j_sipush C dL_acts_219 (by decide) ?_
  refine j_iload_n C 4 dL_acts_222 rfl rfl ?_
  refine j_ldc (x := 299001) C qw643 (by decide) dL_acts_223 ?_
  refine j_callS (As := [.int (iI y), .int (iI 299001)]) (rest := [.int (iI 1000)]) C ys_L_low qw153 (c_L_low l g y 299001 (by omega) (by omega)) (by decide) rfl dL_acts_225 rfl (Nat.le_of_ble_eq_true rfl) (by decide) (pfE (wTp g r qn qt qv kn kt kv sc ns tx tn pl)) rfl (fun r9 w9 hq9 => ?_)
  obtain ⟨rfl, rfl⟩ := hq9
  refine J.to (L1 := [(4, .int (iI ((nb : Int)))), (0, .ref (r 0)), (1, .int (iI 7)), (2, .int (iI x)), (3, .int (iI y))]) (S1 := [.int (iI (lwF y 299001)), .int (iI 1000)]) (ws1 := (wTp g r qn qt qv kn kt kv sc ns tx tn pl)) rfl rfl rfl ?_
  have hl2 := lwF_rng (x := y) (n := 299001) (by decide)
  refine j_iadd C dL_acts_228 ?_
  refine j_istore (L1 := [(5, .int (iI (1000 + (lwF y 299001)))), (4, .int (iI ((nb : Int)))), (0, .ref (r 0)), (1, .int (iI 7)), (2, .int (iI x)), (3, .int (iI y))]) C dL_acts_229 (by decide) rfl ?_
  by_cases hlo : 1000 + (lwF y 299001) < hgA kn
  · refine j_aload_n C 2 dL_acts_231 rfl rfl ?_
    refine j_iload C 0 dL_acts_232 rfl ?_
    refine j_callSW (As := [.ref (r 0), .int (iI (1000 + (lwF y 299001)))]) (rest := []) C yw_L_longer qw314 (w_longer_x2 l hl g r qn qt qv kn kt kv sc ns tx tn pl (1000 + (lwF y 299001)) hT (by omega) (by rw [hnd_len hk]; omega)) (by decide) rfl dL_acts_234 rfl (Nat.le_of_ble_eq_true rfl) (by decide) pf0 rfl (fun r9 w9 hq9 => ?_)
    obtain ⟨rfl, rfl⟩ := hq9
    refine J.to (L1 := [(5, .int (iI (1000 + (lwF y 299001)))), (4, .int (iI ((nb : Int)))), (0, .ref (r 0)), (1, .int (iI 7)), (2, .int (iI x)), (3, .int (iI y))]) (S1 := [.int (iI (-900000002))]) (ws1 := (wTp g r qn qt qv kn (kLen kn kt (1000 + (lwF y 299001))) kv sc ns tx tn pl)) rfl rfl rfl ?_
    refine j_istore (L1 := [(6, .int (iI (-900000002))), (5, .int (iI (1000 + (lwF y 299001)))), (4, .int (iI ((nb : Int)))), (0, .ref (r 0)), (1, .int (iI 7)), (2, .int (iI x)), (3, .int (iI y))]) C dL_acts_237 (by decide) rfl ?_
    refine j_iload C 0 dL_acts_239 rfl ?_
    refine j_iload C 1 dL_acts_241 rfl ?_
    refine j_aload_n C 3 dL_acts_243 rfl rfl ?_
    refine j_bipush C dL_acts_244 (by decide) ?_
    refine j_callSW (As := [.ref (r 0), .int (iI 6)]) (rest := [.int (iI (1000 + (lwF y 299001))), .int (iI (-900000002))]) C yw_L_value qw443 (w_value l g r qn qt qv kn (kLen kn kt (1000 + (lwF y 299001))) kv sc ns tx tn pl 6 hT (by omega)) (by decide) rfl dL_acts_246 rfl (Nat.le_of_ble_eq_true rfl) (by decide) pf0 rfl (fun r9 w9 hq9 => ?_)
    obtain ⟨rfl, rfl⟩ := hq9
    refine J.to (L1 := [(6, .int (iI (-900000002))), (5, .int (iI (1000 + (lwF y 299001)))), (4, .int (iI ((nb : Int)))), (0, .ref (r 0)), (1, .int (iI 7)), (2, .int (iI x)), (3, .int (iI y))]) (S1 := [.int (iI (hgA kn)), .int (iI (1000 + (lwF y 299001))), .int (iI (-900000002))]) (ws1 := (wTp g r qn qt qv kn (kLen kn kt (1000 + (lwF y 299001))) kv sc ns tx tn pl)) rfl rfl rfl ?_
    refine j_icmp_ge (tgt := 257) C (by omega) (by omega) dL_acts_249 (by decide) (fun c249 => absurd c249 (by omega)) (fun c249 => ?_)
    refine j_ldc (x := -900000002) C qw367 (by decide) dL_acts_252 ?_
    refine j_goto (tgt := 266) C dL_acts_254 (by decide) ?_
    refine j_isameF C (rfl) dL_acts_266 (tgt := 273) (by decide) ?_
    refine j_iconst C dL_acts_269 ?_
    refine j_goto (tgt := 274) C dL_acts_270 (by decide) ?_
    exact j_zret C hr hlk rfl dL_acts_274 ⟨rfl, kn, kLen kn kt (1000 + (lwF y 299001)), kv, sc, ns, tx, tn, pl, rfl, hI.le (by omega)⟩ (by decide) (by decide)
  · refine j_aload_n C 2 dL_acts_231 rfl rfl ?_
    refine j_iload C 0 dL_acts_232 rfl ?_
    refine j_callSW (As := [.ref (r 0), .int (iI (1000 + (lwF y 299001)))]) (rest := []) C yw_L_longer qw314 (w_longer l g r qn qt qv kn kt kv sc ns tx tn pl (1000 + (lwF y 299001)) hT (by omega) (by rw [hnd_len hk]; omega)) (by decide) rfl dL_acts_234 rfl (Nat.le_of_ble_eq_true rfl) (by decide) pf0 rfl (fun r9 w9 hq9 => ?_)
    obtain ⟨rfl, rfl⟩ := hq9
    refine J.to (L1 := [(5, .int (iI (1000 + (lwF y 299001)))), (4, .int (iI ((nb : Int)))), (0, .ref (r 0)), (1, .int (iI 7)), (2, .int (iI x)), (3, .int (iI y))]) (S1 := [.int (iI ((hnd (cpS (kLen kn kt (1000 + (lwF y 299001))) kn))))]) (ws1 := (wTp g r qn qt qv (cpS (kLen kn kt (1000 + (lwF y 299001))) kn) (kLen kn kt (1000 + (lwF y 299001))) (svk kn kv ns) (svs sc) (svn ns) tx tn pl)) rfl rfl rfl ?_
    have hI2 := hI.len (kt := kt) (x := 1000 + (lwF y 299001)) (by omega) (by rw [hnd_len hk]; omega)
    have hq1 : hnd (cpS (kLen kn kt (1000 + (lwF y 299001))) kn) = 1000 + (lwF y 299001) - hgA kn := (hnd_cpS (SOK_len hk (by omega))).trans (hnd_len hk)
    have hq2 : hgA (cpS (kLen kn kt (1000 + (lwF y 299001))) kn) = hgA kn := ((KE_cp _ kn).hg (SOK_cpS (SOK_len hk (by omega)))).trans ((KE_cp kn kt).hg (SOK_cpS hk))
    refine j_istore (L1 := [(6, .int (iI ((hnd (cpS (kLen kn kt (1000 + (lwF y 299001))) kn))))), (5, .int (iI (1000 + (lwF y 299001)))), (4, .int (iI ((nb : Int)))), (0, .ref (r 0)), (1, .int (iI 7)), (2, .int (iI x)), (3, .int (iI y))]) C dL_acts_237 (by decide) rfl ?_
    refine j_iload C 0 dL_acts_239 rfl ?_
    refine j_iload C 1 dL_acts_241 rfl ?_
    refine j_aload_n C 3 dL_acts_243 rfl rfl ?_
    refine j_bipush C dL_acts_244 (by decide) ?_
    refine j_callSW (As := [.ref (r 0), .int (iI 6)]) (rest := [.int (iI (1000 + (lwF y 299001))), .int (iI ((hnd (cpS (kLen kn kt (1000 + (lwF y 299001))) kn))))]) C yw_L_value qw443 (w_value l g r qn qt qv (cpS (kLen kn kt (1000 + (lwF y 299001))) kn) (kLen kn kt (1000 + (lwF y 299001))) (svk kn kv ns) (svs sc) (svn ns) tx tn pl 6 hI2.1 (by omega)) (by decide) rfl dL_acts_246 rfl (Nat.le_of_ble_eq_true rfl) (by decide) pf0 rfl (fun r9 w9 hq9 => ?_)
    obtain ⟨rfl, rfl⟩ := hq9
    refine J.to (L1 := [(6, .int (iI ((hnd (cpS (kLen kn kt (1000 + (lwF y 299001))) kn))))), (5, .int (iI (1000 + (lwF y 299001)))), (4, .int (iI ((nb : Int)))), (0, .ref (r 0)), (1, .int (iI 7)), (2, .int (iI x)), (3, .int (iI y))]) (S1 := [.int (iI (hgA (cpS (kLen kn kt (1000 + (lwF y 299001))) kn))), .int (iI (1000 + (lwF y 299001))), .int (iI ((hnd (cpS (kLen kn kt (1000 + (lwF y 299001))) kn))))]) (ws1 := (wTp g r qn qt qv (cpS (kLen kn kt (1000 + (lwF y 299001))) kn) (kLen kn kt (1000 + (lwF y 299001))) (svk kn kv ns) (svs sc) (svn ns) tx tn pl)) rfl rfl rfl ?_
    refine j_icmp_ge (tgt := 257) C (by omega) (by omega) dL_acts_249 (by decide) (fun c249 => ?_) (fun c249 => absurd c249 (by omega))
    refine j_iload C 1 dL_acts_257 rfl ?_
    refine j_aload_n C 3 dL_acts_259 rfl rfl ?_
    refine j_bipush C dL_acts_260 (by decide) ?_
    refine j_callSW (As := [.ref (r 0), .int (iI 6)]) (rest := [.int (iI (1000 + (lwF y 299001))), .int (iI ((hnd (cpS (kLen kn kt (1000 + (lwF y 299001))) kn))))]) C yw_L_value qw443 (w_value l g r qn qt qv (cpS (kLen kn kt (1000 + (lwF y 299001))) kn) (kLen kn kt (1000 + (lwF y 299001))) (svk kn kv ns) (svs sc) (svn ns) tx tn pl 6 hI2.1 (by omega)) (by decide) rfl dL_acts_262 rfl (Nat.le_of_ble_eq_true rfl) (by decide) pf0 rfl (fun r9 w9 hq9 => ?_)
    obtain ⟨rfl, rfl⟩ := hq9
    refine J.to (L1 := [(6, .int (iI ((hnd (cpS (kLen kn kt (1000 + (lwF y 299001))) kn))))), (5, .int (iI (1000 + (lwF y 299001)))), (4, .int (iI ((nb : Int)))), (0, .ref (r 0)), (1, .int (iI 7)), (2, .int (iI x)), (3, .int (iI y))]) (S1 := [.int (iI (hgA (cpS (kLen kn kt (1000 + (lwF y 299001))) kn))), .int (iI (1000 + (lwF y 299001))), .int (iI ((hnd (cpS (kLen kn kt (1000 + (lwF y 299001))) kn))))]) (ws1 := (wTp g r qn qt qv (cpS (kLen kn kt (1000 + (lwF y 299001))) kn) (kLen kn kt (1000 + (lwF y 299001))) (svk kn kv ns) (svs sc) (svn ns) tx tn pl)) rfl rfl rfl ?_
    refine j_isub C dL_acts_265 ?_
    refine j_isameF C ((hq1.trans (by rw [hq2]))) dL_acts_266 (tgt := 273) (by decide) ?_
    refine j_iconst C dL_acts_269 ?_
    refine j_goto (tgt := 274) C dL_acts_270 (by decide) ?_
    exact j_zret C hr hlk rfl dL_acts_274 ⟨rfl, cpS (kLen kn kt (1000 + (lwF y 299001))) kn, kLen kn kt (1000 + (lwF y 299001)), svk kn kv ns, svs sc, svn ns, tx, tn, pl, rfl, hI2⟩ (by decide) (by decide)

set_option maxRecDepth 100000 in
set_option maxHeartbeats 4000000 in
theorem c_L_acts_8 (l : Launch) (hl : l.stackTraces = false) (g : Gh) (r : Nat → Nat) (qn qt : Nat → Nat) (qv : Nat → Nat → Nat) (kn kt : Nat → Nat → Int) (kv : Nat → Nat → Nat → Int) (sc : Int) (ns : Nat) (tx : Nat → Int) (tn : Nat) (pl : Int) (n : Nat) (hI : IV n kn kv sc ns tx tn) (x y : Int) (hx : -2147483648 ≤ x ∧ x < 2147483648) (hy : -2147483648 ≤ y ∧ y < 2147483648) : CT l g yL_acts cL_acts 7 (some FieldType.boolean) ({ frames := 11, cells := 3, slots := 14, locals := 233 }) [.ref (r 0), .int (iI 8), .int (iI x), .int (iI y)] (wTp g r qn qt qv kn kt kv sc ns tx tn pl) (AP g r qn qt qv (n + 1)) := by
  refine CT.intro (L0 := [(0, .ref (r 0)), (1, .int (iI 8)), (2, .int (iI x)), (3, .int (iI y))]) (own := RL) (by decide) rfl (Nat.le_of_ble_eq_true rfl) rfl ?_
  intro pX eX sX mX argsX belowX methX cX A C hr hlk
  have hT := hI.1
  obtain ⟨hP, hE, hF, hrow, hwt, hht, hlen, hlat, hkept⟩ := id hT.1.1
  have hk := hT.1.1
  have hh0 := hT.1.2
  have hhl := hnd_le hk
  have hpf := passF_r hk
  have hga : hgA kn = kn 0 0 - hnd kn := by show _ = kn 0 0 - (kn 0 0 - hgA kn); omega
  refine j_iload_n C 2 dL_acts_0 rfl rfl ?_
  refine j_iconst C dL_acts_1 ?_
  refine j_callS (As := [.int (iI x), .int (iI 4)]) (rest := []) C ys_L_low qw153 (c_L_low l g x 4 (by omega) (by omega)) (by decide) rfl dL_acts_2 rfl (Nat.le_of_ble_eq_true rfl) (by decide) (pfE (wTp g r qn qt qv kn kt kv sc ns tx tn pl)) rfl (fun r9 w9 hq9 => ?_)
  obtain ⟨rfl, rfl⟩ := hq9
  refine J.to (L1 := [(0, .ref (r 0)), (1, .int (iI 8)), (2, .int (iI x)), (3, .int (iI y))]) (S1 := [.int (iI (lwF x 4))]) (ws1 := (wTp g r qn qt qv kn kt kv sc ns tx tn pl)) rfl rfl rfl ?_
  have hl1 := lwF_rng (x := x) (n := 4) (by decide)
  obtain ⟨nb, hnb⟩ : ∃ nb : Nat, lwF x 4 = (nb : Int) := ⟨(lwF x 4).toNat, by omega⟩
  have hnb4 : nb < 4 := by omega
  have hwb := hwt nb hnb4
  have htb := hht nb hnb4
  refine J.to (L1 := [(0, .ref (r 0)), (1, .int (iI 8)), (2, .int (iI x)), (3, .int (iI y))]) (S1 := [.int (iI ((nb : Int)))]) (ws1 := (wTp g r qn qt qv kn kt kv sc ns tx tn pl)) rfl rfl (congrArg (fun x9 : Int => ([.int (iI x9)] : List Value)) (show (lwF x 4 : Int) = (nb : Int) from hnb)) ?_
  refine j_istore (L1 := [(4, .int (iI ((nb : Int)))), (0, .ref (r 0)), (1, .int (iI 8)), (2, .int (iI x)), (3, .int (iI y))]) C dL_acts_5 (by decide) rfl ?_
  refine j_iload_n C 2 dL_acts_7 rfl rfl ?_
  refine j_tswIn (tgt := 275) C (by decide) dL_acts_8 (by decide) rfl (by decide) ?_
  refine j_aload_n C 1 dL_acts_275 rfl rfl ?_
  refine j_iconst C dL_acts_276 ?_
  refine j_callSW (As := [.ref (r 0), .int (iI 3)]) (rest := []) C yw_L_value qw443 (w_value l g r qn qt qv kn kt kv sc ns tx tn pl 3 hT (by omega)) (by decide) rfl dL_acts_277 rfl (Nat.le_of_ble_eq_true rfl) (by decide) pf0 rfl (fun r9 w9 hq9 => ?_)
  obtain ⟨rfl, rfl⟩ := hq9
  refine J.to (L1 := [(4, .int (iI ((nb : Int)))), (0, .ref (r 0)), (1, .int (iI 8)), (2, .int (iI x)), (3, .int (iI y))]) (S1 := [.int (iI (kn 0 2))]) (ws1 := (wTp g r qn qt qv kn kt kv sc ns tx tn pl)) rfl rfl rfl ?_
  refine j_istore (L1 := [(5, .int (iI (kn 0 2))), (4, .int (iI ((nb : Int)))), (0, .ref (r 0)), (1, .int (iI 8)), (2, .int (iI x)), (3, .int (iI y))]) C dL_acts_280 (by decide) rfl ?_
  have had := hnd_add (kt := kt) hk (b := (nb : Int)) (by omega)
  have htt : kn 4 ((nb : Int)).toNat = kn 4 nb := rfl
  rcases (by omega : kn 0 2 = 10 ∨ (kn 0 2 < 10 ∧ hnd (kAdd kn kt (nb : Int)) < 0) ∨ (kn 0 2 < 10 ∧ 0 ≤ hnd (kAdd kn kt (nb : Int)))) with hrd | hrd | hrd
  · refine j_aload_n C 2 dL_acts_282 rfl rfl ?_
    refine j_iload C 1 dL_acts_283 rfl ?_
    refine j_callSW (As := [.ref (r 0), .int (iI ((nb : Int)))]) (rest := []) C yw_L_more qw501 (w_more_x2 l hl g r qn qt qv kn kt kv sc ns tx tn pl (nb : Int) hT (by omega) (by omega)) (by decide) rfl dL_acts_285 rfl (Nat.le_of_ble_eq_true rfl) (by decide) pf0 rfl (fun r9 w9 hq9 => ?_)
    obtain ⟨rfl, rfl⟩ := hq9
    refine J.to (L1 := [(5, .int (iI (kn 0 2))), (4, .int (iI ((nb : Int)))), (0, .ref (r 0)), (1, .int (iI 8)), (2, .int (iI x)), (3, .int (iI y))]) (S1 := [.int (iI (-900000002))]) (ws1 := (wTp g r qn qt qv kn kt kv sc ns tx tn pl)) rfl rfl rfl ?_
    refine j_istore (L1 := [(6, .int (iI (-900000002))), (5, .int (iI (kn 0 2))), (4, .int (iI ((nb : Int)))), (0, .ref (r 0)), (1, .int (iI 8)), (2, .int (iI x)), (3, .int (iI y))]) C dL_acts_288 (by decide) rfl ?_
    refine j_iload C 0 dL_acts_290 rfl ?_
    refine j_ldc (x := -900000002) C qw367 (by decide) dL_acts_292 ?_
    refine j_icmp_ne (tgt := 333) C (by decide) (by decide) dL_acts_294 (by decide) (fun c294 => absurd c294 (by decide)) (fun c294 => ?_)
    refine j_iload C 1 dL_acts_297 rfl ?_
    refine j_bipush C dL_acts_299 (by decide) ?_
    refine j_icmp_eq (tgt := 325) C (by omega) (by decide) dL_acts_301 (by decide) (fun c301 => ?_) (fun c301 => absurd c301 (by omega))
    refine j_iconst C dL_acts_325 ?_
    refine j_goto (tgt := 358) C dL_acts_326 (by decide) ?_
    exact j_zret C hr hlk rfl dL_acts_358 ⟨rfl, kn, kt, kv, sc, ns, tx, tn, pl, rfl, hI.le (by omega)⟩ (by decide) (by decide)
  · refine j_aload_n C 2 dL_acts_282 rfl rfl ?_
    refine j_iload C 1 dL_acts_283 rfl ?_
    refine j_callSW (As := [.ref (r 0), .int (iI ((nb : Int)))]) (rest := []) C yw_L_more qw501 (w_more_x3 l hl g r qn qt qv kn kt kv sc ns tx tn pl (nb : Int) hT (by omega) (by omega) hrd.2) (by decide) rfl dL_acts_285 rfl (Nat.le_of_ble_eq_true rfl) (by decide) pf0 rfl (fun r9 w9 hq9 => ?_)
    obtain ⟨rfl, rfl⟩ := hq9
    refine J.to (L1 := [(5, .int (iI (kn 0 2))), (4, .int (iI ((nb : Int)))), (0, .ref (r 0)), (1, .int (iI 8)), (2, .int (iI x)), (3, .int (iI y))]) (S1 := [.int (iI (-900000002))]) (ws1 := (wTp g r qn qt qv kn (kAdd kn kt (nb : Int)) kv sc ns tx tn pl)) rfl rfl rfl ?_
    refine j_istore (L1 := [(6, .int (iI (-900000002))), (5, .int (iI (kn 0 2))), (4, .int (iI ((nb : Int)))), (0, .ref (r 0)), (1, .int (iI 8)), (2, .int (iI x)), (3, .int (iI y))]) C dL_acts_288 (by decide) rfl ?_
    refine j_iload C 0 dL_acts_290 rfl ?_
    refine j_ldc (x := -900000002) C qw367 (by decide) dL_acts_292 ?_
    refine j_icmp_ne (tgt := 333) C (by decide) (by decide) dL_acts_294 (by decide) (fun c294 => absurd c294 (by decide)) (fun c294 => ?_)
    refine j_iload C 1 dL_acts_297 rfl ?_
    refine j_bipush C dL_acts_299 (by decide) ?_
    refine j_icmp_eq (tgt := 325) C (by omega) (by decide) dL_acts_301 (by decide) (fun c301 => absurd c301 (by omega)) (fun c301 => ?_)
    refine j_aload_n C 3 dL_acts_304 rfl rfl ?_
    refine j_iconst C dL_acts_305 ?_
    refine j_callSW (As := [.ref (r 0), .int (iI 1)]) (rest := []) C yw_L_value qw443 (w_value l g r qn qt qv kn (kAdd kn kt (nb : Int)) kv sc ns tx tn pl 1 hT (by omega)) (by decide) rfl dL_acts_306 rfl (Nat.le_of_ble_eq_true rfl) (by decide) pf0 rfl (fun r9 w9 hq9 => ?_)
    obtain ⟨rfl, rfl⟩ := hq9
    refine J.to (L1 := [(6, .int (iI (-900000002))), (5, .int (iI (kn 0 2))), (4, .int (iI ((nb : Int)))), (0, .ref (r 0)), (1, .int (iI 8)), (2, .int (iI x)), (3, .int (iI y))]) (S1 := [.int (iI (hnd kn))]) (ws1 := (wTp g r qn qt qv kn (kAdd kn kt (nb : Int)) kv sc ns tx tn pl)) rfl rfl rfl ?_
    refine j_iconst C dL_acts_309 ?_
    refine j_sipush C dL_acts_310 (by decide) ?_
    refine j_aload_n C 3 dL_acts_313 rfl rfl ?_
    refine j_iload C 2 dL_acts_314 rfl ?_
    refine j_iconst C dL_acts_316 ?_
    refine j_callSW (As := [.ref (r 0), .int (iI ((nb : Int))), .int (iI 1)]) (rest := [.int (iI 10000), .int (iI 2), .int (iI (hnd kn))]) C yw_L_block qw456 (w_block l g r qn qt qv kn (kAdd kn kt (nb : Int)) kv sc ns tx tn pl (nb : Int) 1 hT (by omega) (by omega)) (by decide) rfl dL_acts_317 rfl (Nat.le_of_ble_eq_true rfl) (by decide) pf0 rfl (fun r9 w9 hq9 => ?_)
    obtain ⟨rfl, rfl⟩ := hq9
    refine J.to (L1 := [(6, .int (iI (-900000002))), (5, .int (iI (kn 0 2))), (4, .int (iI ((nb : Int)))), (0, .ref (r 0)), (1, .int (iI 8)), (2, .int (iI x)), (3, .int (iI y))]) (S1 := [.int (iI (kn 4 nb)), .int (iI 10000), .int (iI 2), .int (iI (hnd kn))]) (ws1 := (wTp g r qn qt qv kn (kAdd kn kt (nb : Int)) kv sc ns tx tn pl)) rfl rfl rfl ?_
    refine j_isub C dL_acts_320 ?_
    refine j_imul C dL_acts_321 ?_
    refine j_icmp_ge (tgt := 329) C (by omega) (by omega) dL_acts_322 (by decide) (fun c322 => absurd c322 (by omega)) (fun c322 => ?_)
    refine j_iconst C dL_acts_325 ?_
    refine j_goto (tgt := 358) C dL_acts_326 (by decide) ?_
    exact j_zret C hr hlk rfl dL_acts_358 ⟨rfl, kn, kAdd kn kt (nb : Int), kv, sc, ns, tx, tn, pl, rfl, hI.le (by omega)⟩ (by decide) (by decide)
  · refine j_aload_n C 2 dL_acts_282 rfl rfl ?_
    refine j_iload C 1 dL_acts_283 rfl ?_
    refine j_callSW (As := [.ref (r 0), .int (iI ((nb : Int)))]) (rest := []) C yw_L_more qw501 (w_more l g r qn qt qv kn kt kv sc ns tx tn pl (nb : Int) hT (by omega) (by omega) hrd.2) (by decide) rfl dL_acts_285 rfl (Nat.le_of_ble_eq_true rfl) (by decide) pf0 rfl (fun r9 w9 hq9 => ?_)
    obtain ⟨rfl, rfl⟩ := hq9
    refine J.to (L1 := [(5, .int (iI (kn 0 2))), (4, .int (iI ((nb : Int)))), (0, .ref (r 0)), (1, .int (iI 8)), (2, .int (iI x)), (3, .int (iI y))]) (S1 := [.int (iI ((kn 0 2 + 1)))]) (ws1 := (wTp g r qn qt qv (cpS (kAdd kn kt (nb : Int)) kn) (kAdd kn kt (nb : Int)) (svk kn kv ns) (svs sc) (svn ns) tx tn pl)) rfl rfl rfl ?_
    have hI2 := hI.add (kt := kt) (b := (nb : Int)) (by omega) hrd.1 hrd.2
    refine j_istore (L1 := [(6, .int (iI ((kn 0 2 + 1)))), (5, .int (iI (kn 0 2))), (4, .int (iI ((nb : Int)))), (0, .ref (r 0)), (1, .int (iI 8)), (2, .int (iI x)), (3, .int (iI y))]) C dL_acts_288 (by decide) rfl ?_
    refine j_iload C 0 dL_acts_290 rfl ?_
    refine j_ldc (x := -900000002) C qw367 (by decide) dL_acts_292 ?_
    refine j_icmp_ne (tgt := 333) C (by omega) (by decide) dL_acts_294 (by decide) (fun c294 => ?_) (fun c294 => absurd c294 (by omega))
    refine j_iload C 0 dL_acts_333 rfl ?_
    refine j_iload C 1 dL_acts_335 rfl ?_
    refine j_iconst C dL_acts_337 ?_
    refine j_iadd C dL_acts_338 ?_
    refine j_isameF C (rfl) dL_acts_339 (tgt := 357) (by decide) ?_
    refine j_aload_n C 3 dL_acts_342 rfl rfl ?_
    refine j_iload C 1 dL_acts_343 rfl ?_
    refine j_callSW (As := [.ref (r 0), .int (iI (kn 0 2))]) (rest := []) C yw_L_pulley qw468 (w_pulley l g r qn qt qv (cpS (kAdd kn kt (nb : Int)) kn) (kAdd kn kt (nb : Int)) (svk kn kv ns) (svs sc) (svn ns) tx tn pl (kn 0 2) hI2.1 ⟨by omega, by show kn 0 2 < kn 0 2 + 1; omega⟩) (by decide) rfl dL_acts_345 rfl (Nat.le_of_ble_eq_true rfl) (by decide) pf0 rfl (fun r9 w9 hq9 => ?_)
    obtain ⟨rfl, rfl⟩ := hq9
    refine J.to (L1 := [(6, .int (iI ((kn 0 2 + 1)))), (5, .int (iI (kn 0 2))), (4, .int (iI ((nb : Int)))), (0, .ref (r 0)), (1, .int (iI 8)), (2, .int (iI x)), (3, .int (iI y))]) (S1 := [.int (iI ((cpS (kAdd kn kt (nb : Int)) kn) 1 ((kn 0 2).toNat)))]) (ws1 := (wTp g r qn qt qv (cpS (kAdd kn kt (nb : Int)) kn) (kAdd kn kt (nb : Int)) (svk kn kv ns) (svs sc) (svn ns) tx tn pl)) rfl rfl rfl ?_
    refine j_iload C 2 dL_acts_348 rfl ?_
    refine j_isameF C ((by show cpy 10 (va_up (cpS kn kt 1) (kn 0 2).toNat (nb : Int)) (kn 1) (kn 0 2).toNat = (nb : Int); rw [cpy_lt (by omega), va_eq])) dL_acts_350 (tgt := 357) (by decide) ?_
    refine j_iconst C dL_acts_353 ?_
    refine j_goto (tgt := 358) C dL_acts_354 (by decide) ?_
    exact j_zret C hr hlk rfl dL_acts_358 ⟨rfl, cpS (kAdd kn kt (nb : Int)) kn, kAdd kn kt (nb : Int), svk kn kv ns, svs sc, svn ns, tx, tn, pl, rfl, hI2⟩ (by decide) (by decide)

set_option maxRecDepth 100000 in
set_option maxHeartbeats 4000000 in
theorem c_L_acts_9 (l : Launch) (hl : l.stackTraces = false) (g : Gh) (r : Nat → Nat) (qn qt : Nat → Nat) (qv : Nat → Nat → Nat) (kn kt : Nat → Nat → Int) (kv : Nat → Nat → Nat → Int) (sc : Int) (ns : Nat) (tx : Nat → Int) (tn : Nat) (pl : Int) (n : Nat) (hI : IV n kn kv sc ns tx tn) (x y : Int) (hx : -2147483648 ≤ x ∧ x < 2147483648) (hy : -2147483648 ≤ y ∧ y < 2147483648) : CT l g yL_acts cL_acts 7 (some FieldType.boolean) ({ frames := 11, cells := 3, slots := 14, locals := 233 }) [.ref (r 0), .int (iI 9), .int (iI x), .int (iI y)] (wTp g r qn qt qv kn kt kv sc ns tx tn pl) (AP g r qn qt qv (n + 1)) := by
  refine CT.intro (L0 := [(0, .ref (r 0)), (1, .int (iI 9)), (2, .int (iI x)), (3, .int (iI y))]) (own := RL) (by decide) rfl (Nat.le_of_ble_eq_true rfl) rfl ?_
  intro pX eX sX mX argsX belowX methX cX A C hr hlk
  have hT := hI.1
  obtain ⟨hP, hE, hF, hrow, hwt, hht, hlen, hlat, hkept⟩ := id hT.1.1
  have hk := hT.1.1
  have hh0 := hT.1.2
  have hhl := hnd_le hk
  have hpf := passF_r hk
  have hga : hgA kn = kn 0 0 - hnd kn := by show _ = kn 0 0 - (kn 0 0 - hgA kn); omega
  refine j_iload_n C 2 dL_acts_0 rfl rfl ?_
  refine j_iconst C dL_acts_1 ?_
  refine j_callS (As := [.int (iI x), .int (iI 4)]) (rest := []) C ys_L_low qw153 (c_L_low l g x 4 (by omega) (by omega)) (by decide) rfl dL_acts_2 rfl (Nat.le_of_ble_eq_true rfl) (by decide) (pfE (wTp g r qn qt qv kn kt kv sc ns tx tn pl)) rfl (fun r9 w9 hq9 => ?_)
  obtain ⟨rfl, rfl⟩ := hq9
  refine J.to (L1 := [(0, .ref (r 0)), (1, .int (iI 9)), (2, .int (iI x)), (3, .int (iI y))]) (S1 := [.int (iI (lwF x 4))]) (ws1 := (wTp g r qn qt qv kn kt kv sc ns tx tn pl)) rfl rfl rfl ?_
  have hl1 := lwF_rng (x := x) (n := 4) (by decide)
  obtain ⟨nb, hnb⟩ : ∃ nb : Nat, lwF x 4 = (nb : Int) := ⟨(lwF x 4).toNat, by omega⟩
  have hnb4 : nb < 4 := by omega
  have hwb := hwt nb hnb4
  have htb := hht nb hnb4
  refine J.to (L1 := [(0, .ref (r 0)), (1, .int (iI 9)), (2, .int (iI x)), (3, .int (iI y))]) (S1 := [.int (iI ((nb : Int)))]) (ws1 := (wTp g r qn qt qv kn kt kv sc ns tx tn pl)) rfl rfl (congrArg (fun x9 : Int => ([.int (iI x9)] : List Value)) (show (lwF x 4 : Int) = (nb : Int) from hnb)) ?_
  refine j_istore (L1 := [(4, .int (iI ((nb : Int)))), (0, .ref (r 0)), (1, .int (iI 9)), (2, .int (iI x)), (3, .int (iI y))]) C dL_acts_5 (by decide) rfl ?_
  refine j_iload_n C 2 dL_acts_7 rfl rfl ?_
  refine j_tswIn (tgt := 275) C (by decide) dL_acts_8 (by decide) rfl (by decide) ?_
  refine j_aload_n C 1 dL_acts_275 rfl rfl ?_
  refine j_iconst C dL_acts_276 ?_
  refine j_callSW (As := [.ref (r 0), .int (iI 3)]) (rest := []) C yw_L_value qw443 (w_value l g r qn qt qv kn kt kv sc ns tx tn pl 3 hT (by omega)) (by decide) rfl dL_acts_277 rfl (Nat.le_of_ble_eq_true rfl) (by decide) pf0 rfl (fun r9 w9 hq9 => ?_)
  obtain ⟨rfl, rfl⟩ := hq9
  refine J.to (L1 := [(4, .int (iI ((nb : Int)))), (0, .ref (r 0)), (1, .int (iI 9)), (2, .int (iI x)), (3, .int (iI y))]) (S1 := [.int (iI (kn 0 2))]) (ws1 := (wTp g r qn qt qv kn kt kv sc ns tx tn pl)) rfl rfl rfl ?_
  refine j_istore (L1 := [(5, .int (iI (kn 0 2))), (4, .int (iI ((nb : Int)))), (0, .ref (r 0)), (1, .int (iI 9)), (2, .int (iI x)), (3, .int (iI y))]) C dL_acts_280 (by decide) rfl ?_
  have had := hnd_add (kt := kt) hk (b := (nb : Int)) (by omega)
  have htt : kn 4 ((nb : Int)).toNat = kn 4 nb := rfl
  rcases (by omega : kn 0 2 = 10 ∨ (kn 0 2 < 10 ∧ hnd (kAdd kn kt (nb : Int)) < 0) ∨ (kn 0 2 < 10 ∧ 0 ≤ hnd (kAdd kn kt (nb : Int)))) with hrd | hrd | hrd
  · refine j_aload_n C 2 dL_acts_282 rfl rfl ?_
    refine j_iload C 1 dL_acts_283 rfl ?_
    refine j_callSW (As := [.ref (r 0), .int (iI ((nb : Int)))]) (rest := []) C yw_L_more qw501 (w_more_x2 l hl g r qn qt qv kn kt kv sc ns tx tn pl (nb : Int) hT (by omega) (by omega)) (by decide) rfl dL_acts_285 rfl (Nat.le_of_ble_eq_true rfl) (by decide) pf0 rfl (fun r9 w9 hq9 => ?_)
    obtain ⟨rfl, rfl⟩ := hq9
    refine J.to (L1 := [(5, .int (iI (kn 0 2))), (4, .int (iI ((nb : Int)))), (0, .ref (r 0)), (1, .int (iI 9)), (2, .int (iI x)), (3, .int (iI y))]) (S1 := [.int (iI (-900000002))]) (ws1 := (wTp g r qn qt qv kn kt kv sc ns tx tn pl)) rfl rfl rfl ?_
    refine j_istore (L1 := [(6, .int (iI (-900000002))), (5, .int (iI (kn 0 2))), (4, .int (iI ((nb : Int)))), (0, .ref (r 0)), (1, .int (iI 9)), (2, .int (iI x)), (3, .int (iI y))]) C dL_acts_288 (by decide) rfl ?_
    refine j_iload C 0 dL_acts_290 rfl ?_
    refine j_ldc (x := -900000002) C qw367 (by decide) dL_acts_292 ?_
    refine j_icmp_ne (tgt := 333) C (by decide) (by decide) dL_acts_294 (by decide) (fun c294 => absurd c294 (by decide)) (fun c294 => ?_)
    refine j_iload C 1 dL_acts_297 rfl ?_
    refine j_bipush C dL_acts_299 (by decide) ?_
    refine j_icmp_eq (tgt := 325) C (by omega) (by decide) dL_acts_301 (by decide) (fun c301 => ?_) (fun c301 => absurd c301 (by omega))
    refine j_iconst C dL_acts_325 ?_
    refine j_goto (tgt := 358) C dL_acts_326 (by decide) ?_
    exact j_zret C hr hlk rfl dL_acts_358 ⟨rfl, kn, kt, kv, sc, ns, tx, tn, pl, rfl, hI.le (by omega)⟩ (by decide) (by decide)
  · refine j_aload_n C 2 dL_acts_282 rfl rfl ?_
    refine j_iload C 1 dL_acts_283 rfl ?_
    refine j_callSW (As := [.ref (r 0), .int (iI ((nb : Int)))]) (rest := []) C yw_L_more qw501 (w_more_x3 l hl g r qn qt qv kn kt kv sc ns tx tn pl (nb : Int) hT (by omega) (by omega) hrd.2) (by decide) rfl dL_acts_285 rfl (Nat.le_of_ble_eq_true rfl) (by decide) pf0 rfl (fun r9 w9 hq9 => ?_)
    obtain ⟨rfl, rfl⟩ := hq9
    refine J.to (L1 := [(5, .int (iI (kn 0 2))), (4, .int (iI ((nb : Int)))), (0, .ref (r 0)), (1, .int (iI 9)), (2, .int (iI x)), (3, .int (iI y))]) (S1 := [.int (iI (-900000002))]) (ws1 := (wTp g r qn qt qv kn (kAdd kn kt (nb : Int)) kv sc ns tx tn pl)) rfl rfl rfl ?_
    refine j_istore (L1 := [(6, .int (iI (-900000002))), (5, .int (iI (kn 0 2))), (4, .int (iI ((nb : Int)))), (0, .ref (r 0)), (1, .int (iI 9)), (2, .int (iI x)), (3, .int (iI y))]) C dL_acts_288 (by decide) rfl ?_
    refine j_iload C 0 dL_acts_290 rfl ?_
    refine j_ldc (x := -900000002) C qw367 (by decide) dL_acts_292 ?_
    refine j_icmp_ne (tgt := 333) C (by decide) (by decide) dL_acts_294 (by decide) (fun c294 => absurd c294 (by decide)) (fun c294 => ?_)
    refine j_iload C 1 dL_acts_297 rfl ?_
    refine j_bipush C dL_acts_299 (by decide) ?_
    refine j_icmp_eq (tgt := 325) C (by omega) (by decide) dL_acts_301 (by decide) (fun c301 => absurd c301 (by omega)) (fun c301 => ?_)
    refine j_aload_n C 3 dL_acts_304 rfl rfl ?_
    refine j_iconst C dL_acts_305 ?_
    refine j_callSW (As := [.ref (r 0), .int (iI 1)]) (rest := []) C yw_L_value qw443 (w_value l g r qn qt qv kn (kAdd kn kt (nb : Int)) kv sc ns tx tn pl 1 hT (by omega)) (by decide) rfl dL_acts_306 rfl (Nat.le_of_ble_eq_true rfl) (by decide) pf0 rfl (fun r9 w9 hq9 => ?_)
    obtain ⟨rfl, rfl⟩ := hq9
    refine J.to (L1 := [(6, .int (iI (-900000002))), (5, .int (iI (kn 0 2))), (4, .int (iI ((nb : Int)))), (0, .ref (r 0)), (1, .int (iI 9)), (2, .int (iI x)), (3, .int (iI y))]) (S1 := [.int (iI (hnd kn))]) (ws1 := (wTp g r qn qt qv kn (kAdd kn kt (nb : Int)) kv sc ns tx tn pl)) rfl rfl rfl ?_
    refine j_iconst C dL_acts_309 ?_
    refine j_sipush C dL_acts_310 (by decide) ?_
    refine j_aload_n C 3 dL_acts_313 rfl rfl ?_
    refine j_iload C 2 dL_acts_314 rfl ?_
    refine j_iconst C dL_acts_316 ?_
    refine j_callSW (As := [.ref (r 0), .int (iI ((nb : Int))), .int (iI 1)]) (rest := [.int (iI 10000), .int (iI 2), .int (iI (hnd kn))]) C yw_L_block qw456 (w_block l g r qn qt qv kn (kAdd kn kt (nb : Int)) kv sc ns tx tn pl (nb : Int) 1 hT (by omega) (by omega)) (by decide) rfl dL_acts_317 rfl (Nat.le_of_ble_eq_true rfl) (by decide) pf0 rfl (fun r9 w9 hq9 => ?_)
    obtain ⟨rfl, rfl⟩ := hq9
    refine J.to (L1 := [(6, .int (iI (-900000002))), (5, .int (iI (kn 0 2))), (4, .int (iI ((nb : Int)))), (0, .ref (r 0)), (1, .int (iI 9)), (2, .int (iI x)), (3, .int (iI y))]) (S1 := [.int (iI (kn 4 nb)), .int (iI 10000), .int (iI 2), .int (iI (hnd kn))]) (ws1 := (wTp g r qn qt qv kn (kAdd kn kt (nb : Int)) kv sc ns tx tn pl)) rfl rfl rfl ?_
    refine j_isub C dL_acts_320 ?_
    refine j_imul C dL_acts_321 ?_
    refine j_icmp_ge (tgt := 329) C (by omega) (by omega) dL_acts_322 (by decide) (fun c322 => absurd c322 (by omega)) (fun c322 => ?_)
    refine j_iconst C dL_acts_325 ?_
    refine j_goto (tgt := 358) C dL_acts_326 (by decide) ?_
    exact j_zret C hr hlk rfl dL_acts_358 ⟨rfl, kn, kAdd kn kt (nb : Int), kv, sc, ns, tx, tn, pl, rfl, hI.le (by omega)⟩ (by decide) (by decide)
  · refine j_aload_n C 2 dL_acts_282 rfl rfl ?_
    refine j_iload C 1 dL_acts_283 rfl ?_
    refine j_callSW (As := [.ref (r 0), .int (iI ((nb : Int)))]) (rest := []) C yw_L_more qw501 (w_more l g r qn qt qv kn kt kv sc ns tx tn pl (nb : Int) hT (by omega) (by omega) hrd.2) (by decide) rfl dL_acts_285 rfl (Nat.le_of_ble_eq_true rfl) (by decide) pf0 rfl (fun r9 w9 hq9 => ?_)
    obtain ⟨rfl, rfl⟩ := hq9
    refine J.to (L1 := [(5, .int (iI (kn 0 2))), (4, .int (iI ((nb : Int)))), (0, .ref (r 0)), (1, .int (iI 9)), (2, .int (iI x)), (3, .int (iI y))]) (S1 := [.int (iI ((kn 0 2 + 1)))]) (ws1 := (wTp g r qn qt qv (cpS (kAdd kn kt (nb : Int)) kn) (kAdd kn kt (nb : Int)) (svk kn kv ns) (svs sc) (svn ns) tx tn pl)) rfl rfl rfl ?_
    have hI2 := hI.add (kt := kt) (b := (nb : Int)) (by omega) hrd.1 hrd.2
    refine j_istore (L1 := [(6, .int (iI ((kn 0 2 + 1)))), (5, .int (iI (kn 0 2))), (4, .int (iI ((nb : Int)))), (0, .ref (r 0)), (1, .int (iI 9)), (2, .int (iI x)), (3, .int (iI y))]) C dL_acts_288 (by decide) rfl ?_
    refine j_iload C 0 dL_acts_290 rfl ?_
    refine j_ldc (x := -900000002) C qw367 (by decide) dL_acts_292 ?_
    refine j_icmp_ne (tgt := 333) C (by omega) (by decide) dL_acts_294 (by decide) (fun c294 => ?_) (fun c294 => absurd c294 (by omega))
    refine j_iload C 0 dL_acts_333 rfl ?_
    refine j_iload C 1 dL_acts_335 rfl ?_
    refine j_iconst C dL_acts_337 ?_
    refine j_iadd C dL_acts_338 ?_
    refine j_isameF C (rfl) dL_acts_339 (tgt := 357) (by decide) ?_
    refine j_aload_n C 3 dL_acts_342 rfl rfl ?_
    refine j_iload C 1 dL_acts_343 rfl ?_
    refine j_callSW (As := [.ref (r 0), .int (iI (kn 0 2))]) (rest := []) C yw_L_pulley qw468 (w_pulley l g r qn qt qv (cpS (kAdd kn kt (nb : Int)) kn) (kAdd kn kt (nb : Int)) (svk kn kv ns) (svs sc) (svn ns) tx tn pl (kn 0 2) hI2.1 ⟨by omega, by show kn 0 2 < kn 0 2 + 1; omega⟩) (by decide) rfl dL_acts_345 rfl (Nat.le_of_ble_eq_true rfl) (by decide) pf0 rfl (fun r9 w9 hq9 => ?_)
    obtain ⟨rfl, rfl⟩ := hq9
    refine J.to (L1 := [(6, .int (iI ((kn 0 2 + 1)))), (5, .int (iI (kn 0 2))), (4, .int (iI ((nb : Int)))), (0, .ref (r 0)), (1, .int (iI 9)), (2, .int (iI x)), (3, .int (iI y))]) (S1 := [.int (iI ((cpS (kAdd kn kt (nb : Int)) kn) 1 ((kn 0 2).toNat)))]) (ws1 := (wTp g r qn qt qv (cpS (kAdd kn kt (nb : Int)) kn) (kAdd kn kt (nb : Int)) (svk kn kv ns) (svs sc) (svn ns) tx tn pl)) rfl rfl rfl ?_
    refine j_iload C 2 dL_acts_348 rfl ?_
    refine j_isameF C ((by show cpy 10 (va_up (cpS kn kt 1) (kn 0 2).toNat (nb : Int)) (kn 1) (kn 0 2).toNat = (nb : Int); rw [cpy_lt (by omega), va_eq])) dL_acts_350 (tgt := 357) (by decide) ?_
    refine j_iconst C dL_acts_353 ?_
    refine j_goto (tgt := 358) C dL_acts_354 (by decide) ?_
    exact j_zret C hr hlk rfl dL_acts_358 ⟨rfl, cpS (kAdd kn kt (nb : Int)) kn, kAdd kn kt (nb : Int), svk kn kv ns, svs sc, svn ns, tx, tn, pl, rfl, hI2⟩ (by decide) (by decide)

set_option maxRecDepth 100000 in
set_option maxHeartbeats 4000000 in
theorem c_L_acts_10 (l : Launch) (hl : l.stackTraces = false) (g : Gh) (r : Nat → Nat) (qn qt : Nat → Nat) (qv : Nat → Nat → Nat) (kn kt : Nat → Nat → Int) (kv : Nat → Nat → Nat → Int) (sc : Int) (ns : Nat) (tx : Nat → Int) (tn : Nat) (pl : Int) (n : Nat) (hI : IV n kn kv sc ns tx tn) (x y : Int) (hx : -2147483648 ≤ x ∧ x < 2147483648) (hy : -2147483648 ≤ y ∧ y < 2147483648) : CT l g yL_acts cL_acts 7 (some FieldType.boolean) ({ frames := 11, cells := 3, slots := 14, locals := 233 }) [.ref (r 0), .int (iI 10), .int (iI x), .int (iI y)] (wTp g r qn qt qv kn kt kv sc ns tx tn pl) (AP g r qn qt qv (n + 1)) := by
  refine CT.intro (L0 := [(0, .ref (r 0)), (1, .int (iI 10)), (2, .int (iI x)), (3, .int (iI y))]) (own := RL) (by decide) rfl (Nat.le_of_ble_eq_true rfl) rfl ?_
  intro pX eX sX mX argsX belowX methX cX A C hr hlk
  have hT := hI.1
  obtain ⟨hP, hE, hF, hrow, hwt, hht, hlen, hlat, hkept⟩ := id hT.1.1
  have hk := hT.1.1
  have hh0 := hT.1.2
  have hhl := hnd_le hk
  have hpf := passF_r hk
  have hga : hgA kn = kn 0 0 - hnd kn := by show _ = kn 0 0 - (kn 0 0 - hgA kn); omega
  refine j_iload_n C 2 dL_acts_0 rfl rfl ?_
  refine j_iconst C dL_acts_1 ?_
  refine j_callS (As := [.int (iI x), .int (iI 4)]) (rest := []) C ys_L_low qw153 (c_L_low l g x 4 (by omega) (by omega)) (by decide) rfl dL_acts_2 rfl (Nat.le_of_ble_eq_true rfl) (by decide) (pfE (wTp g r qn qt qv kn kt kv sc ns tx tn pl)) rfl (fun r9 w9 hq9 => ?_)
  obtain ⟨rfl, rfl⟩ := hq9
  refine J.to (L1 := [(0, .ref (r 0)), (1, .int (iI 10)), (2, .int (iI x)), (3, .int (iI y))]) (S1 := [.int (iI (lwF x 4))]) (ws1 := (wTp g r qn qt qv kn kt kv sc ns tx tn pl)) rfl rfl rfl ?_
  have hl1 := lwF_rng (x := x) (n := 4) (by decide)
  obtain ⟨nb, hnb⟩ : ∃ nb : Nat, lwF x 4 = (nb : Int) := ⟨(lwF x 4).toNat, by omega⟩
  have hnb4 : nb < 4 := by omega
  have hwb := hwt nb hnb4
  have htb := hht nb hnb4
  refine J.to (L1 := [(0, .ref (r 0)), (1, .int (iI 10)), (2, .int (iI x)), (3, .int (iI y))]) (S1 := [.int (iI ((nb : Int)))]) (ws1 := (wTp g r qn qt qv kn kt kv sc ns tx tn pl)) rfl rfl (congrArg (fun x9 : Int => ([.int (iI x9)] : List Value)) (show (lwF x 4 : Int) = (nb : Int) from hnb)) ?_
  refine j_istore (L1 := [(4, .int (iI ((nb : Int)))), (0, .ref (r 0)), (1, .int (iI 10)), (2, .int (iI x)), (3, .int (iI y))]) C dL_acts_5 (by decide) rfl ?_
  refine j_iload_n C 2 dL_acts_7 rfl rfl ?_
  refine j_tswIn (tgt := 359) C (by decide) dL_acts_8 (by decide) rfl (by decide) ?_
  refine j_aload_n C 1 dL_acts_359 rfl rfl ?_
  refine j_iconst C dL_acts_360 ?_
  refine j_callSW (As := [.ref (r 0), .int (iI 3)]) (rest := []) C yw_L_value qw443 (w_value l g r qn qt qv kn kt kv sc ns tx tn pl 3 hT (by omega)) (by decide) rfl dL_acts_361 rfl (Nat.le_of_ble_eq_true rfl) (by decide) pf0 rfl (fun r9 w9 hq9 => ?_)
  obtain ⟨rfl, rfl⟩ := hq9
  refine J.to (L1 := [(4, .int (iI ((nb : Int)))), (0, .ref (r 0)), (1, .int (iI 10)), (2, .int (iI x)), (3, .int (iI y))]) (S1 := [.int (iI (kn 0 2))]) (ws1 := (wTp g r qn qt qv kn kt kv sc ns tx tn pl)) rfl rfl rfl ?_
  refine j_istore (L1 := [(5, .int (iI (kn 0 2))), (4, .int (iI ((nb : Int)))), (0, .ref (r 0)), (1, .int (iI 10)), (2, .int (iI x)), (3, .int (iI y))]) C dL_acts_364 (by decide) rfl ?_
  refine j_iload C 0 dL_acts_366 rfl ?_
  refine j_if_ne (tgt := 376) C (by omega) dL_acts_368 (by decide) (fun c368 => ?_) (fun c368 => ?_)
  · refine j_aload_n C 2 dL_acts_376 rfl rfl ?_
    refine j_iload C 0 dL_acts_377 rfl ?_
    refine j_iconst C dL_acts_379 ?_
    refine j_isub C dL_acts_380 ?_
    refine j_callSW (As := [.ref (r 0), .int (iI ((kn 0 2) - 1))]) (rest := []) C yw_L_pulley qw468 (w_pulley l g r qn qt qv kn kt kv sc ns tx tn pl ((kn 0 2) - 1) hT (by omega)) (by decide) rfl dL_acts_381 rfl (Nat.le_of_ble_eq_true rfl) (by decide) pf0 rfl (fun r9 w9 hq9 => ?_)
    obtain ⟨rfl, rfl⟩ := hq9
    refine J.to (L1 := [(5, .int (iI (kn 0 2))), (4, .int (iI ((nb : Int)))), (0, .ref (r 0)), (1, .int (iI 10)), (2, .int (iI x)), (3, .int (iI y))]) (S1 := [.int (iI (kn 1 (((kn 0 2) - 1).toNat)))]) (ws1 := (wTp g r qn qt qv kn kt kv sc ns tx tn pl)) rfl rfl rfl ?_
    refine j_istore (L1 := [(6, .int (iI (kn 1 (((kn 0 2) - 1).toNat)))), (5, .int (iI (kn 0 2))), (4, .int (iI ((nb : Int)))), (0, .ref (r 0)), (1, .int (iI 10)), (2, .int (iI x)), (3, .int (iI y))]) C dL_acts_384 (by decide) rfl ?_
    refine j_aload_n C 3 dL_acts_386 rfl rfl ?_
    refine j_callSW (As := [.ref (r 0)]) (rest := []) C yw_L_less qw583 (w_less l g r qn qt qv kn kt kv sc ns tx tn pl hT (by omega)) (by decide) rfl dL_acts_387 rfl (Nat.le_of_ble_eq_true rfl) (by decide) pf0 rfl (fun r9 w9 hq9 => ?_)
    obtain ⟨rfl, rfl⟩ := hq9
    refine J.to (L1 := [(6, .int (iI (kn 1 (((kn 0 2) - 1).toNat)))), (5, .int (iI (kn 0 2))), (4, .int (iI ((nb : Int)))), (0, .ref (r 0)), (1, .int (iI 10)), (2, .int (iI x)), (3, .int (iI y))]) (S1 := [.int (iI ((kn 1 (kn 0 2 - 1).toNat)))]) (ws1 := (wTp g r qn qt qv (kTake kn) kt (svk kn kv ns) (svs sc) (svn ns) tx tn pl)) rfl rfl rfl ?_
    have hI2 := hI.take (by omega)
    refine j_iload C 0 dL_acts_390 rfl ?_
    refine j_isameF C (rfl) dL_acts_392 (tgt := 420) (by decide) ?_
    refine j_aload_n C 3 dL_acts_395 rfl rfl ?_
    refine j_iconst C dL_acts_396 ?_
    refine j_callSW (As := [.ref (r 0), .int (iI 3)]) (rest := []) C yw_L_value qw443 (w_value l g r qn qt qv (kTake kn) kt (svk kn kv ns) (svs sc) (svn ns) tx tn pl 3 hI2.1 (by omega)) (by decide) rfl dL_acts_397 rfl (Nat.le_of_ble_eq_true rfl) (by decide) pf0 rfl (fun r9 w9 hq9 => ?_)
    obtain ⟨rfl, rfl⟩ := hq9
    refine J.to (L1 := [(6, .int (iI (kn 1 (((kn 0 2) - 1).toNat)))), (5, .int (iI (kn 0 2))), (4, .int (iI ((nb : Int)))), (0, .ref (r 0)), (1, .int (iI 10)), (2, .int (iI x)), (3, .int (iI y))]) (S1 := [.int (iI ((kTake kn) 0 2))]) (ws1 := (wTp g r qn qt qv (kTake kn) kt (svk kn kv ns) (svs sc) (svn ns) tx tn pl)) rfl rfl rfl ?_
    refine j_iload C 1 dL_acts_400 rfl ?_
    refine j_if_ne (tgt := 409) C (by omega) dL_acts_402 (by decide) (fun c402 => ?_) (fun c402 => absurd c402 (by omega))
    refine j_iload C 1 dL_acts_409 rfl ?_
    refine j_iconst C dL_acts_411 ?_
    refine j_isub C dL_acts_412 ?_
    refine j_isameF C (rfl) dL_acts_413 (tgt := 420) (by decide) ?_
    refine j_iconst C dL_acts_416 ?_
    refine j_goto (tgt := 421) C dL_acts_417 (by decide) ?_
    exact j_zret C hr hlk rfl dL_acts_421 ⟨rfl, kTake kn, kt, svk kn kv ns, svs sc, svn ns, tx, tn, pl, rfl, hI2⟩ (by decide) (by decide)
  · refine j_ldc (x := -900000002) C qw367 (by decide) dL_acts_371 ?_
    refine j_goto (tgt := 384) C dL_acts_373 (by decide) ?_
    refine j_istore (L1 := [(6, .int (iI (-900000002))), (5, .int (iI (kn 0 2))), (4, .int (iI ((nb : Int)))), (0, .ref (r 0)), (1, .int (iI 10)), (2, .int (iI x)), (3, .int (iI y))]) C dL_acts_384 (by decide) rfl ?_
    refine j_aload_n C 3 dL_acts_386 rfl rfl ?_
    refine j_callSW (As := [.ref (r 0)]) (rest := []) C yw_L_less qw583 (w_less_x1 l hl g r qn qt qv kn kt kv sc ns tx tn pl hT (by omega)) (by decide) rfl dL_acts_387 rfl (Nat.le_of_ble_eq_true rfl) (by decide) pf0 rfl (fun r9 w9 hq9 => ?_)
    obtain ⟨rfl, rfl⟩ := hq9
    refine J.to (L1 := [(6, .int (iI (-900000002))), (5, .int (iI (kn 0 2))), (4, .int (iI ((nb : Int)))), (0, .ref (r 0)), (1, .int (iI 10)), (2, .int (iI x)), (3, .int (iI y))]) (S1 := [.int (iI (-900000002))]) (ws1 := (wTp g r qn qt qv kn kt kv sc ns tx tn pl)) rfl rfl rfl ?_
    refine j_iload C 0 dL_acts_390 rfl ?_
    refine j_isameF C (rfl) dL_acts_392 (tgt := 420) (by decide) ?_
    refine j_aload_n C 3 dL_acts_395 rfl rfl ?_
    refine j_iconst C dL_acts_396 ?_
    refine j_callSW (As := [.ref (r 0), .int (iI 3)]) (rest := []) C yw_L_value qw443 (w_value l g r qn qt qv kn kt kv sc ns tx tn pl 3 hT (by omega)) (by decide) rfl dL_acts_397 rfl (Nat.le_of_ble_eq_true rfl) (by decide) pf0 rfl (fun r9 w9 hq9 => ?_)
    obtain ⟨rfl, rfl⟩ := hq9
    refine J.to (L1 := [(6, .int (iI (-900000002))), (5, .int (iI (kn 0 2))), (4, .int (iI ((nb : Int)))), (0, .ref (r 0)), (1, .int (iI 10)), (2, .int (iI x)), (3, .int (iI y))]) (S1 := [.int (iI (kn 0 2))]) (ws1 := (wTp g r qn qt qv kn kt kv sc ns tx tn pl)) rfl rfl rfl ?_
    refine j_iload C 1 dL_acts_400 rfl ?_
    refine j_if_ne (tgt := 409) C (by omega) dL_acts_402 (by decide) (fun c402 => absurd c402 (by omega)) (fun c402 => ?_)
    refine j_iconst C dL_acts_405 ?_
    refine j_goto (tgt := 413) C dL_acts_406 (by decide) ?_
    refine j_isameF C ((by omega)) dL_acts_413 (tgt := 420) (by decide) ?_
    refine j_iconst C dL_acts_416 ?_
    refine j_goto (tgt := 421) C dL_acts_417 (by decide) ?_
    exact j_zret C hr hlk rfl dL_acts_421 ⟨rfl, kn, kt, kv, sc, ns, tx, tn, pl, rfl, hI.le (by omega)⟩ (by decide) (by decide)

set_option maxRecDepth 100000 in
set_option maxHeartbeats 4000000 in
theorem c_L_acts_11 (l : Launch) (hl : l.stackTraces = false) (g : Gh) (r : Nat → Nat) (qn qt : Nat → Nat) (qv : Nat → Nat → Nat) (kn kt : Nat → Nat → Int) (kv : Nat → Nat → Nat → Int) (sc : Int) (ns : Nat) (tx : Nat → Int) (tn : Nat) (pl : Int) (n : Nat) (hI : IV n kn kv sc ns tx tn) (x y : Int) (hx : -2147483648 ≤ x ∧ x < 2147483648) (hy : -2147483648 ≤ y ∧ y < 2147483648) : CT l g yL_acts cL_acts 7 (some FieldType.boolean) ({ frames := 11, cells := 3, slots := 14, locals := 233 }) [.ref (r 0), .int (iI 11), .int (iI x), .int (iI y)] (wTp g r qn qt qv kn kt kv sc ns tx tn pl) (AP g r qn qt qv (n + 1)) := by
  refine CT.intro (L0 := [(0, .ref (r 0)), (1, .int (iI 11)), (2, .int (iI x)), (3, .int (iI y))]) (own := RL) (by decide) rfl (Nat.le_of_ble_eq_true rfl) rfl ?_
  intro pX eX sX mX argsX belowX methX cX A C hr hlk
  have hT := hI.1
  obtain ⟨hP, hE, hF, hrow, hwt, hht, hlen, hlat, hkept⟩ := id hT.1.1
  have hk := hT.1.1
  have hh0 := hT.1.2
  have hhl := hnd_le hk
  have hpf := passF_r hk
  have hga : hgA kn = kn 0 0 - hnd kn := by show _ = kn 0 0 - (kn 0 0 - hgA kn); omega
  refine j_iload_n C 2 dL_acts_0 rfl rfl ?_
  refine j_iconst C dL_acts_1 ?_
  refine j_callS (As := [.int (iI x), .int (iI 4)]) (rest := []) C ys_L_low qw153 (c_L_low l g x 4 (by omega) (by omega)) (by decide) rfl dL_acts_2 rfl (Nat.le_of_ble_eq_true rfl) (by decide) (pfE (wTp g r qn qt qv kn kt kv sc ns tx tn pl)) rfl (fun r9 w9 hq9 => ?_)
  obtain ⟨rfl, rfl⟩ := hq9
  refine J.to (L1 := [(0, .ref (r 0)), (1, .int (iI 11)), (2, .int (iI x)), (3, .int (iI y))]) (S1 := [.int (iI (lwF x 4))]) (ws1 := (wTp g r qn qt qv kn kt kv sc ns tx tn pl)) rfl rfl rfl ?_
  have hl1 := lwF_rng (x := x) (n := 4) (by decide)
  obtain ⟨nb, hnb⟩ : ∃ nb : Nat, lwF x 4 = (nb : Int) := ⟨(lwF x 4).toNat, by omega⟩
  have hnb4 : nb < 4 := by omega
  have hwb := hwt nb hnb4
  have htb := hht nb hnb4
  refine J.to (L1 := [(0, .ref (r 0)), (1, .int (iI 11)), (2, .int (iI x)), (3, .int (iI y))]) (S1 := [.int (iI ((nb : Int)))]) (ws1 := (wTp g r qn qt qv kn kt kv sc ns tx tn pl)) rfl rfl (congrArg (fun x9 : Int => ([.int (iI x9)] : List Value)) (show (lwF x 4 : Int) = (nb : Int) from hnb)) ?_
  refine j_istore (L1 := [(4, .int (iI ((nb : Int)))), (0, .ref (r 0)), (1, .int (iI 11)), (2, .int (iI x)), (3, .int (iI y))]) C dL_acts_5 (by decide) rfl ?_
  refine j_iload_n C 2 dL_acts_7 rfl rfl ?_
  refine j_tswIn (tgt := 422) C (by decide) dL_acts_8 (by decide) rfl (by decide) ?_
  refine j_aload_n C 1 dL_acts_422 rfl rfl ?_
  refine j_callS (As := [.ref (r 0)]) (rest := []) C ys_L_isRead qw644 (c_L_isRead l hl g r qn qt qv kn kt kv sc ns tx tn pl n hI) (by decide) rfl dL_acts_423 rfl (Nat.le_of_ble_eq_true rfl) (by decide) pf0 rfl (fun r9 w9 hq9 => ?_)
  obtain ⟨rfl, kn_2, kt_3, kv_4, sc_5, ns_6, tx_7, tn_8, pl_9, rfl, hI_10⟩ := hq9
  refine J.to (L1 := [(4, .int (iI ((nb : Int)))), (0, .ref (r 0)), (1, .int (iI 11)), (2, .int (iI x)), (3, .int (iI y))]) (S1 := [.int (iI 1)]) (ws1 := (wTp g r qn qt qv kn_2 kt_3 kv_4 sc_5 ns_6 tx_7 tn_8 pl_9)) rfl rfl rfl ?_
  exact j_zret C hr hlk rfl dL_acts_426 ⟨rfl, kn_2, kt_3, kv_4, sc_5, ns_6, tx_7, tn_8, pl_9, rfl, hI_10⟩ (by decide) (by decide)

set_option maxRecDepth 100000 in
set_option maxHeartbeats 4000000 in
theorem c_L_acts_12 (l : Launch) (hl : l.stackTraces = false) (g : Gh) (r : Nat → Nat) (qn qt : Nat → Nat) (qv : Nat → Nat → Nat) (kn kt : Nat → Nat → Int) (kv : Nat → Nat → Nat → Int) (sc : Int) (ns : Nat) (tx : Nat → Int) (tn : Nat) (pl : Int) (n : Nat) (hI : IV n kn kv sc ns tx tn) (x y : Int) (hx : -2147483648 ≤ x ∧ x < 2147483648) (hy : -2147483648 ≤ y ∧ y < 2147483648) : CT l g yL_acts cL_acts 7 (some FieldType.boolean) ({ frames := 11, cells := 3, slots := 14, locals := 233 }) [.ref (r 0), .int (iI 12), .int (iI x), .int (iI y)] (wTp g r qn qt qv kn kt kv sc ns tx tn pl) (AP g r qn qt qv (n + 1)) := by
  refine CT.intro (L0 := [(0, .ref (r 0)), (1, .int (iI 12)), (2, .int (iI x)), (3, .int (iI y))]) (own := RL) (by decide) rfl (Nat.le_of_ble_eq_true rfl) rfl ?_
  intro pX eX sX mX argsX belowX methX cX A C hr hlk
  have hT := hI.1
  obtain ⟨hP, hE, hF, hrow, hwt, hht, hlen, hlat, hkept⟩ := id hT.1.1
  have hk := hT.1.1
  have hh0 := hT.1.2
  have hhl := hnd_le hk
  have hpf := passF_r hk
  have hga : hgA kn = kn 0 0 - hnd kn := by show _ = kn 0 0 - (kn 0 0 - hgA kn); omega
  refine j_iload_n C 2 dL_acts_0 rfl rfl ?_
  refine j_iconst C dL_acts_1 ?_
  refine j_callS (As := [.int (iI x), .int (iI 4)]) (rest := []) C ys_L_low qw153 (c_L_low l g x 4 (by omega) (by omega)) (by decide) rfl dL_acts_2 rfl (Nat.le_of_ble_eq_true rfl) (by decide) (pfE (wTp g r qn qt qv kn kt kv sc ns tx tn pl)) rfl (fun r9 w9 hq9 => ?_)
  obtain ⟨rfl, rfl⟩ := hq9
  refine J.to (L1 := [(0, .ref (r 0)), (1, .int (iI 12)), (2, .int (iI x)), (3, .int (iI y))]) (S1 := [.int (iI (lwF x 4))]) (ws1 := (wTp g r qn qt qv kn kt kv sc ns tx tn pl)) rfl rfl rfl ?_
  have hl1 := lwF_rng (x := x) (n := 4) (by decide)
  obtain ⟨nb, hnb⟩ : ∃ nb : Nat, lwF x 4 = (nb : Int) := ⟨(lwF x 4).toNat, by omega⟩
  have hnb4 : nb < 4 := by omega
  have hwb := hwt nb hnb4
  have htb := hht nb hnb4
  refine J.to (L1 := [(0, .ref (r 0)), (1, .int (iI 12)), (2, .int (iI x)), (3, .int (iI y))]) (S1 := [.int (iI ((nb : Int)))]) (ws1 := (wTp g r qn qt qv kn kt kv sc ns tx tn pl)) rfl rfl (congrArg (fun x9 : Int => ([.int (iI x9)] : List Value)) (show (lwF x 4 : Int) = (nb : Int) from hnb)) ?_
  refine j_istore (L1 := [(4, .int (iI ((nb : Int)))), (0, .ref (r 0)), (1, .int (iI 12)), (2, .int (iI x)), (3, .int (iI y))]) C dL_acts_5 (by decide) rfl ?_
  refine j_iload_n C 2 dL_acts_7 rfl rfl ?_
  refine j_tswOut (tgt := 427) C (by decide) dL_acts_8 (by omega) (by decide) ?_
  refine j_aload_n C 1 dL_acts_427 rfl rfl ?_
  refine j_iconst C dL_acts_428 ?_
  refine j_callSW (As := [.ref (r 0), .int (iI 4)]) (rest := []) C yw_L_value qw443 (w_value l g r qn qt qv kn kt kv sc ns tx tn pl 4 hT (by omega)) (by decide) rfl dL_acts_429 rfl (Nat.le_of_ble_eq_true rfl) (by decide) pf0 rfl (fun r9 w9 hq9 => ?_)
  obtain ⟨rfl, rfl⟩ := hq9
  refine J.to (L1 := [(4, .int (iI ((nb : Int)))), (0, .ref (r 0)), (1, .int (iI 12)), (2, .int (iI x)), (3, .int (iI y))]) (S1 := [.int (iI (kn 0 3))]) (ws1 := (wTp g r qn qt qv kn kt kv sc ns tx tn pl)) rfl rfl rfl ?_
  refine j_istore (L1 := [(5, .int (iI (kn 0 3))), (4, .int (iI ((nb : Int)))), (0, .ref (r 0)), (1, .int (iI 12)), (2, .int (iI x)), (3, .int (iI y))]) C dL_acts_432 (by decide) rfl ?_
  have hl5 := lwF_rng (x := y) (n := 5) (by decide)
  rcases (by omega : hnd (kEnd kn kt (lwF y 5)) < 0 ∨ 0 ≤ hnd (kEnd kn kt (lwF y 5))) with hrd | hrd
  · refine j_aload_n C 2 dL_acts_434 rfl rfl ?_
    refine j_iload_n C 5 dL_acts_435 rfl rfl ?_
    refine j_iconst C dL_acts_436 ?_
    refine j_callS (As := [.int (iI y), .int (iI 5)]) (rest := [.ref (r 0)]) C ys_L_low qw153 (c_L_low l g y 5 (by omega) (by omega)) (by decide) rfl dL_acts_437 rfl (Nat.le_of_ble_eq_true rfl) (by decide) (pfE (wTp g r qn qt qv kn kt kv sc ns tx tn pl)) rfl (fun r9 w9 hq9 => ?_)
    obtain ⟨rfl, rfl⟩ := hq9
    refine J.to (L1 := [(5, .int (iI (kn 0 3))), (4, .int (iI ((nb : Int)))), (0, .ref (r 0)), (1, .int (iI 12)), (2, .int (iI x)), (3, .int (iI y))]) (S1 := [.int (iI (lwF y 5)), .ref (r 0)]) (ws1 := (wTp g r qn qt qv kn kt kv sc ns tx tn pl)) rfl rfl rfl ?_
    have hl2 := lwF_rng (x := y) (n := 5) (by decide)
    refine j_callSW (As := [.ref (r 0), .int (iI (lwF y 5))]) (rest := []) C yw_L_ends qw514 (w_ends_x2 l hl g r qn qt qv kn kt kv sc ns tx tn pl (lwF y 5) hT (by omega) hrd) (by decide) rfl dL_acts_440 rfl (Nat.le_of_ble_eq_true rfl) (by decide) pf0 rfl (fun r9 w9 hq9 => ?_)
    obtain ⟨rfl, rfl⟩ := hq9
    refine J.to (L1 := [(5, .int (iI (kn 0 3))), (4, .int (iI ((nb : Int)))), (0, .ref (r 0)), (1, .int (iI 12)), (2, .int (iI x)), (3, .int (iI y))]) (S1 := [.int (iI (-900000002))]) (ws1 := (wTp g r qn qt qv kn (kEnd kn kt (lwF y 5)) kv sc ns tx tn pl)) rfl rfl rfl ?_
    refine j_istore (L1 := [(6, .int (iI (-900000002))), (5, .int (iI (kn 0 3))), (4, .int (iI ((nb : Int)))), (0, .ref (r 0)), (1, .int (iI 12)), (2, .int (iI x)), (3, .int (iI y))]) C dL_acts_443 (by decide) rfl ?_
    refine j_iload C 0 dL_acts_445 rfl ?_
    refine j_ldc (x := -900000002) C qw367 (by decide) dL_acts_447 ?_
    refine j_icmp_ne (tgt := 470) C (by decide) (by decide) dL_acts_449 (by decide) (fun c449 => absurd c449 (by decide)) (fun c449 => ?_)
    refine j_aload_n C 3 dL_acts_452 rfl rfl ?_
    refine j_iconst C dL_acts_453 ?_
    refine j_callSW (As := [.ref (r 0), .int (iI 4)]) (rest := []) C yw_L_value qw443 (w_value l g r qn qt qv kn (kEnd kn kt (lwF y 5)) kv sc ns tx tn pl 4 hT (by omega)) (by decide) rfl dL_acts_454 rfl (Nat.le_of_ble_eq_true rfl) (by decide) pf0 rfl (fun r9 w9 hq9 => ?_)
    obtain ⟨rfl, rfl⟩ := hq9
    refine J.to (L1 := [(6, .int (iI (-900000002))), (5, .int (iI (kn 0 3))), (4, .int (iI ((nb : Int)))), (0, .ref (r 0)), (1, .int (iI 12)), (2, .int (iI x)), (3, .int (iI y))]) (S1 := [.int (iI (kn 0 3))]) (ws1 := (wTp g r qn qt qv kn (kEnd kn kt (lwF y 5)) kv sc ns tx tn pl)) rfl rfl rfl ?_
    refine j_iload C 1 dL_acts_457 rfl ?_
    refine j_isameF C (rfl) dL_acts_459 (tgt := 466) (by decide) ?_
    refine j_iconst C dL_acts_462 ?_
    refine j_goto (tgt := 495) C dL_acts_463 (by decide) ?_
    exact j_zret C hr hlk rfl dL_acts_495 ⟨rfl, kn, kEnd kn kt (lwF y 5), kv, sc, ns, tx, tn, pl, rfl, hI.le (by omega)⟩ (by decide) (by decide)
  · refine j_aload_n C 2 dL_acts_434 rfl rfl ?_
    refine j_iload_n C 5 dL_acts_435 rfl rfl ?_
    refine j_iconst C dL_acts_436 ?_
    refine j_callS (As := [.int (iI y), .int (iI 5)]) (rest := [.ref (r 0)]) C ys_L_low qw153 (c_L_low l g y 5 (by omega) (by omega)) (by decide) rfl dL_acts_437 rfl (Nat.le_of_ble_eq_true rfl) (by decide) (pfE (wTp g r qn qt qv kn kt kv sc ns tx tn pl)) rfl (fun r9 w9 hq9 => ?_)
    obtain ⟨rfl, rfl⟩ := hq9
    refine J.to (L1 := [(5, .int (iI (kn 0 3))), (4, .int (iI ((nb : Int)))), (0, .ref (r 0)), (1, .int (iI 12)), (2, .int (iI x)), (3, .int (iI y))]) (S1 := [.int (iI (lwF y 5)), .ref (r 0)]) (ws1 := (wTp g r qn qt qv kn kt kv sc ns tx tn pl)) rfl rfl rfl ?_
    have hl3 := lwF_rng (x := y) (n := 5) (by decide)
    refine j_callSW (As := [.ref (r 0), .int (iI (lwF y 5))]) (rest := []) C yw_L_ends qw514 (w_ends l g r qn qt qv kn kt kv sc ns tx tn pl (lwF y 5) hT (by omega) hrd) (by decide) rfl dL_acts_440 rfl (Nat.le_of_ble_eq_true rfl) (by decide) pf0 rfl (fun r9 w9 hq9 => ?_)
    obtain ⟨rfl, rfl⟩ := hq9
    refine J.to (L1 := [(5, .int (iI (kn 0 3))), (4, .int (iI ((nb : Int)))), (0, .ref (r 0)), (1, .int (iI 12)), (2, .int (iI x)), (3, .int (iI y))]) (S1 := [.int (iI ((kn 0 3)))]) (ws1 := (wTp g r qn qt qv (cpS (kEnd kn kt (lwF y 5)) kn) (kEnd kn kt (lwF y 5)) (svk kn kv ns) (svs sc) (svn ns) tx tn pl)) rfl rfl rfl ?_
    have hI2 := hI.en (kt := kt) (x := lwF y 5) (by omega) hrd
    refine j_istore (L1 := [(6, .int (iI ((kn 0 3)))), (5, .int (iI (kn 0 3))), (4, .int (iI ((nb : Int)))), (0, .ref (r 0)), (1, .int (iI 12)), (2, .int (iI x)), (3, .int (iI y))]) C dL_acts_443 (by decide) rfl ?_
    refine j_iload C 0 dL_acts_445 rfl ?_
    refine j_ldc (x := -900000002) C qw367 (by decide) dL_acts_447 ?_
    refine j_icmp_ne (tgt := 470) C (by omega) (by decide) dL_acts_449 (by decide) (fun c449 => ?_) (fun c449 => absurd c449 (by omega))
    refine j_iload C 0 dL_acts_470 rfl ?_
    refine j_iload C 1 dL_acts_472 rfl ?_
    refine j_isameF C (rfl) dL_acts_474 (tgt := 494) (by decide) ?_
    refine j_aload_n C 3 dL_acts_477 rfl rfl ?_
    refine j_iconst C dL_acts_478 ?_
    refine j_callSW (As := [.ref (r 0), .int (iI 4)]) (rest := []) C yw_L_value qw443 (w_value l g r qn qt qv (cpS (kEnd kn kt (lwF y 5)) kn) (kEnd kn kt (lwF y 5)) (svk kn kv ns) (svs sc) (svn ns) tx tn pl 4 hI2.1 (by omega)) (by decide) rfl dL_acts_479 rfl (Nat.le_of_ble_eq_true rfl) (by decide) pf0 rfl (fun r9 w9 hq9 => ?_)
    obtain ⟨rfl, rfl⟩ := hq9
    refine J.to (L1 := [(6, .int (iI ((kn 0 3)))), (5, .int (iI (kn 0 3))), (4, .int (iI ((nb : Int)))), (0, .ref (r 0)), (1, .int (iI 12)), (2, .int (iI x)), (3, .int (iI y))]) (S1 := [.int (iI ((cpS (kEnd kn kt (lwF y 5)) kn) 0 3))]) (ws1 := (wTp g r qn qt qv (cpS (kEnd kn kt (lwF y 5)) kn) (kEnd kn kt (lwF y 5)) (svk kn kv ns) (svs sc) (svn ns) tx tn pl)) rfl rfl rfl ?_
    refine j_iload_n C 6 dL_acts_482 rfl rfl ?_
    refine j_iconst C dL_acts_483 ?_
    refine j_callS (As := [.int (iI y), .int (iI 5)]) (rest := [.int (iI ((cpS (kEnd kn kt (lwF y 5)) kn) 0 3))]) C ys_L_low qw153 (c_L_low l g y 5 (by omega) (by omega)) (by decide) rfl dL_acts_484 rfl (Nat.le_of_ble_eq_true rfl) (by decide) (pfE (wTp g r qn qt qv (cpS (kEnd kn kt (lwF y 5)) kn) (kEnd kn kt (lwF y 5)) (svk kn kv ns) (svs sc) (svn ns) tx tn pl)) rfl (fun r9 w9 hq9 => ?_)
    obtain ⟨rfl, rfl⟩ := hq9
    refine J.to (L1 := [(6, .int (iI ((kn 0 3)))), (5, .int (iI (kn 0 3))), (4, .int (iI ((nb : Int)))), (0, .ref (r 0)), (1, .int (iI 12)), (2, .int (iI x)), (3, .int (iI y))]) (S1 := [.int (iI (lwF y 5)), .int (iI ((cpS (kEnd kn kt (lwF y 5)) kn) 0 3))]) (ws1 := (wTp g r qn qt qv (cpS (kEnd kn kt (lwF y 5)) kn) (kEnd kn kt (lwF y 5)) (svk kn kv ns) (svs sc) (svn ns) tx tn pl)) rfl rfl rfl ?_
    have hl4 := lwF_rng (x := y) (n := 5) (by decide)
    refine j_isameF C (rfl) dL_acts_487 (tgt := 494) (by decide) ?_
    refine j_iconst C dL_acts_490 ?_
    refine j_goto (tgt := 495) C dL_acts_491 (by decide) ?_
    exact j_zret C hr hlk rfl dL_acts_495 ⟨rfl, cpS (kEnd kn kt (lwF y 5)) kn, kEnd kn kt (lwF y 5), svk kn kv ns, svs sc, svn ns, tx, tn, pl, rfl, hI2⟩ (by decide) (by decide)

set_option maxRecDepth 100000 in
set_option maxHeartbeats 4000000 in
theorem c_L_acts_13 (l : Launch) (hl : l.stackTraces = false) (g : Gh) (r : Nat → Nat) (qn qt : Nat → Nat) (qv : Nat → Nat → Nat) (kn kt : Nat → Nat → Int) (kv : Nat → Nat → Nat → Int) (sc : Int) (ns : Nat) (tx : Nat → Int) (tn : Nat) (pl : Int) (n : Nat) (hI : IV n kn kv sc ns tx tn) (x y : Int) (hx : -2147483648 ≤ x ∧ x < 2147483648) (hy : -2147483648 ≤ y ∧ y < 2147483648) : CT l g yL_acts cL_acts 7 (some FieldType.boolean) ({ frames := 11, cells := 3, slots := 14, locals := 233 }) [.ref (r 0), .int (iI 13), .int (iI x), .int (iI y)] (wTp g r qn qt qv kn kt kv sc ns tx tn pl) (AP g r qn qt qv (n + 1)) := by
  refine CT.intro (L0 := [(0, .ref (r 0)), (1, .int (iI 13)), (2, .int (iI x)), (3, .int (iI y))]) (own := RL) (by decide) rfl (Nat.le_of_ble_eq_true rfl) rfl ?_
  intro pX eX sX mX argsX belowX methX cX A C hr hlk
  have hT := hI.1
  obtain ⟨hP, hE, hF, hrow, hwt, hht, hlen, hlat, hkept⟩ := id hT.1.1
  have hk := hT.1.1
  have hh0 := hT.1.2
  have hhl := hnd_le hk
  have hpf := passF_r hk
  have hga : hgA kn = kn 0 0 - hnd kn := by show _ = kn 0 0 - (kn 0 0 - hgA kn); omega
  refine j_iload_n C 2 dL_acts_0 rfl rfl ?_
  refine j_iconst C dL_acts_1 ?_
  refine j_callS (As := [.int (iI x), .int (iI 4)]) (rest := []) C ys_L_low qw153 (c_L_low l g x 4 (by omega) (by omega)) (by decide) rfl dL_acts_2 rfl (Nat.le_of_ble_eq_true rfl) (by decide) (pfE (wTp g r qn qt qv kn kt kv sc ns tx tn pl)) rfl (fun r9 w9 hq9 => ?_)
  obtain ⟨rfl, rfl⟩ := hq9
  refine J.to (L1 := [(0, .ref (r 0)), (1, .int (iI 13)), (2, .int (iI x)), (3, .int (iI y))]) (S1 := [.int (iI (lwF x 4))]) (ws1 := (wTp g r qn qt qv kn kt kv sc ns tx tn pl)) rfl rfl rfl ?_
  have hl1 := lwF_rng (x := x) (n := 4) (by decide)
  obtain ⟨nb, hnb⟩ : ∃ nb : Nat, lwF x 4 = (nb : Int) := ⟨(lwF x 4).toNat, by omega⟩
  have hnb4 : nb < 4 := by omega
  have hwb := hwt nb hnb4
  have htb := hht nb hnb4
  refine J.to (L1 := [(0, .ref (r 0)), (1, .int (iI 13)), (2, .int (iI x)), (3, .int (iI y))]) (S1 := [.int (iI ((nb : Int)))]) (ws1 := (wTp g r qn qt qv kn kt kv sc ns tx tn pl)) rfl rfl (congrArg (fun x9 : Int => ([.int (iI x9)] : List Value)) (show (lwF x 4 : Int) = (nb : Int) from hnb)) ?_
  refine j_istore (L1 := [(4, .int (iI ((nb : Int)))), (0, .ref (r 0)), (1, .int (iI 13)), (2, .int (iI x)), (3, .int (iI y))]) C dL_acts_5 (by decide) rfl ?_
  refine j_iload_n C 2 dL_acts_7 rfl rfl ?_
  refine j_tswOut (tgt := 427) C (by decide) dL_acts_8 (by omega) (by decide) ?_
  refine j_aload_n C 1 dL_acts_427 rfl rfl ?_
  refine j_iconst C dL_acts_428 ?_
  refine j_callSW (As := [.ref (r 0), .int (iI 4)]) (rest := []) C yw_L_value qw443 (w_value l g r qn qt qv kn kt kv sc ns tx tn pl 4 hT (by omega)) (by decide) rfl dL_acts_429 rfl (Nat.le_of_ble_eq_true rfl) (by decide) pf0 rfl (fun r9 w9 hq9 => ?_)
  obtain ⟨rfl, rfl⟩ := hq9
  refine J.to (L1 := [(4, .int (iI ((nb : Int)))), (0, .ref (r 0)), (1, .int (iI 13)), (2, .int (iI x)), (3, .int (iI y))]) (S1 := [.int (iI (kn 0 3))]) (ws1 := (wTp g r qn qt qv kn kt kv sc ns tx tn pl)) rfl rfl rfl ?_
  refine j_istore (L1 := [(5, .int (iI (kn 0 3))), (4, .int (iI ((nb : Int)))), (0, .ref (r 0)), (1, .int (iI 13)), (2, .int (iI x)), (3, .int (iI y))]) C dL_acts_432 (by decide) rfl ?_
  have hl5 := lwF_rng (x := y) (n := 5) (by decide)
  rcases (by omega : hnd (kEnd kn kt (lwF y 5)) < 0 ∨ 0 ≤ hnd (kEnd kn kt (lwF y 5))) with hrd | hrd
  · refine j_aload_n C 2 dL_acts_434 rfl rfl ?_
    refine j_iload_n C 5 dL_acts_435 rfl rfl ?_
    refine j_iconst C dL_acts_436 ?_
    refine j_callS (As := [.int (iI y), .int (iI 5)]) (rest := [.ref (r 0)]) C ys_L_low qw153 (c_L_low l g y 5 (by omega) (by omega)) (by decide) rfl dL_acts_437 rfl (Nat.le_of_ble_eq_true rfl) (by decide) (pfE (wTp g r qn qt qv kn kt kv sc ns tx tn pl)) rfl (fun r9 w9 hq9 => ?_)
    obtain ⟨rfl, rfl⟩ := hq9
    refine J.to (L1 := [(5, .int (iI (kn 0 3))), (4, .int (iI ((nb : Int)))), (0, .ref (r 0)), (1, .int (iI 13)), (2, .int (iI x)), (3, .int (iI y))]) (S1 := [.int (iI (lwF y 5)), .ref (r 0)]) (ws1 := (wTp g r qn qt qv kn kt kv sc ns tx tn pl)) rfl rfl rfl ?_
    have hl2 := lwF_rng (x := y) (n := 5) (by decide)
    refine j_callSW (As := [.ref (r 0), .int (iI (lwF y 5))]) (rest := []) C yw_L_ends qw514 (w_ends_x2 l hl g r qn qt qv kn kt kv sc ns tx tn pl (lwF y 5) hT (by omega) hrd) (by decide) rfl dL_acts_440 rfl (Nat.le_of_ble_eq_true rfl) (by decide) pf0 rfl (fun r9 w9 hq9 => ?_)
    obtain ⟨rfl, rfl⟩ := hq9
    refine J.to (L1 := [(5, .int (iI (kn 0 3))), (4, .int (iI ((nb : Int)))), (0, .ref (r 0)), (1, .int (iI 13)), (2, .int (iI x)), (3, .int (iI y))]) (S1 := [.int (iI (-900000002))]) (ws1 := (wTp g r qn qt qv kn (kEnd kn kt (lwF y 5)) kv sc ns tx tn pl)) rfl rfl rfl ?_
    refine j_istore (L1 := [(6, .int (iI (-900000002))), (5, .int (iI (kn 0 3))), (4, .int (iI ((nb : Int)))), (0, .ref (r 0)), (1, .int (iI 13)), (2, .int (iI x)), (3, .int (iI y))]) C dL_acts_443 (by decide) rfl ?_
    refine j_iload C 0 dL_acts_445 rfl ?_
    refine j_ldc (x := -900000002) C qw367 (by decide) dL_acts_447 ?_
    refine j_icmp_ne (tgt := 470) C (by decide) (by decide) dL_acts_449 (by decide) (fun c449 => absurd c449 (by decide)) (fun c449 => ?_)
    refine j_aload_n C 3 dL_acts_452 rfl rfl ?_
    refine j_iconst C dL_acts_453 ?_
    refine j_callSW (As := [.ref (r 0), .int (iI 4)]) (rest := []) C yw_L_value qw443 (w_value l g r qn qt qv kn (kEnd kn kt (lwF y 5)) kv sc ns tx tn pl 4 hT (by omega)) (by decide) rfl dL_acts_454 rfl (Nat.le_of_ble_eq_true rfl) (by decide) pf0 rfl (fun r9 w9 hq9 => ?_)
    obtain ⟨rfl, rfl⟩ := hq9
    refine J.to (L1 := [(6, .int (iI (-900000002))), (5, .int (iI (kn 0 3))), (4, .int (iI ((nb : Int)))), (0, .ref (r 0)), (1, .int (iI 13)), (2, .int (iI x)), (3, .int (iI y))]) (S1 := [.int (iI (kn 0 3))]) (ws1 := (wTp g r qn qt qv kn (kEnd kn kt (lwF y 5)) kv sc ns tx tn pl)) rfl rfl rfl ?_
    refine j_iload C 1 dL_acts_457 rfl ?_
    refine j_isameF C (rfl) dL_acts_459 (tgt := 466) (by decide) ?_
    refine j_iconst C dL_acts_462 ?_
    refine j_goto (tgt := 495) C dL_acts_463 (by decide) ?_
    exact j_zret C hr hlk rfl dL_acts_495 ⟨rfl, kn, kEnd kn kt (lwF y 5), kv, sc, ns, tx, tn, pl, rfl, hI.le (by omega)⟩ (by decide) (by decide)
  · refine j_aload_n C 2 dL_acts_434 rfl rfl ?_
    refine j_iload_n C 5 dL_acts_435 rfl rfl ?_
    refine j_iconst C dL_acts_436 ?_
    refine j_callS (As := [.int (iI y), .int (iI 5)]) (rest := [.ref (r 0)]) C ys_L_low qw153 (c_L_low l g y 5 (by omega) (by omega)) (by decide) rfl dL_acts_437 rfl (Nat.le_of_ble_eq_true rfl) (by decide) (pfE (wTp g r qn qt qv kn kt kv sc ns tx tn pl)) rfl (fun r9 w9 hq9 => ?_)
    obtain ⟨rfl, rfl⟩ := hq9
    refine J.to (L1 := [(5, .int (iI (kn 0 3))), (4, .int (iI ((nb : Int)))), (0, .ref (r 0)), (1, .int (iI 13)), (2, .int (iI x)), (3, .int (iI y))]) (S1 := [.int (iI (lwF y 5)), .ref (r 0)]) (ws1 := (wTp g r qn qt qv kn kt kv sc ns tx tn pl)) rfl rfl rfl ?_
    have hl3 := lwF_rng (x := y) (n := 5) (by decide)
    refine j_callSW (As := [.ref (r 0), .int (iI (lwF y 5))]) (rest := []) C yw_L_ends qw514 (w_ends l g r qn qt qv kn kt kv sc ns tx tn pl (lwF y 5) hT (by omega) hrd) (by decide) rfl dL_acts_440 rfl (Nat.le_of_ble_eq_true rfl) (by decide) pf0 rfl (fun r9 w9 hq9 => ?_)
    obtain ⟨rfl, rfl⟩ := hq9
    refine J.to (L1 := [(5, .int (iI (kn 0 3))), (4, .int (iI ((nb : Int)))), (0, .ref (r 0)), (1, .int (iI 13)), (2, .int (iI x)), (3, .int (iI y))]) (S1 := [.int (iI ((kn 0 3)))]) (ws1 := (wTp g r qn qt qv (cpS (kEnd kn kt (lwF y 5)) kn) (kEnd kn kt (lwF y 5)) (svk kn kv ns) (svs sc) (svn ns) tx tn pl)) rfl rfl rfl ?_
    have hI2 := hI.en (kt := kt) (x := lwF y 5) (by omega) hrd
    refine j_istore (L1 := [(6, .int (iI ((kn 0 3)))), (5, .int (iI (kn 0 3))), (4, .int (iI ((nb : Int)))), (0, .ref (r 0)), (1, .int (iI 13)), (2, .int (iI x)), (3, .int (iI y))]) C dL_acts_443 (by decide) rfl ?_
    refine j_iload C 0 dL_acts_445 rfl ?_
    refine j_ldc (x := -900000002) C qw367 (by decide) dL_acts_447 ?_
    refine j_icmp_ne (tgt := 470) C (by omega) (by decide) dL_acts_449 (by decide) (fun c449 => ?_) (fun c449 => absurd c449 (by omega))
    refine j_iload C 0 dL_acts_470 rfl ?_
    refine j_iload C 1 dL_acts_472 rfl ?_
    refine j_isameF C (rfl) dL_acts_474 (tgt := 494) (by decide) ?_
    refine j_aload_n C 3 dL_acts_477 rfl rfl ?_
    refine j_iconst C dL_acts_478 ?_
    refine j_callSW (As := [.ref (r 0), .int (iI 4)]) (rest := []) C yw_L_value qw443 (w_value l g r qn qt qv (cpS (kEnd kn kt (lwF y 5)) kn) (kEnd kn kt (lwF y 5)) (svk kn kv ns) (svs sc) (svn ns) tx tn pl 4 hI2.1 (by omega)) (by decide) rfl dL_acts_479 rfl (Nat.le_of_ble_eq_true rfl) (by decide) pf0 rfl (fun r9 w9 hq9 => ?_)
    obtain ⟨rfl, rfl⟩ := hq9
    refine J.to (L1 := [(6, .int (iI ((kn 0 3)))), (5, .int (iI (kn 0 3))), (4, .int (iI ((nb : Int)))), (0, .ref (r 0)), (1, .int (iI 13)), (2, .int (iI x)), (3, .int (iI y))]) (S1 := [.int (iI ((cpS (kEnd kn kt (lwF y 5)) kn) 0 3))]) (ws1 := (wTp g r qn qt qv (cpS (kEnd kn kt (lwF y 5)) kn) (kEnd kn kt (lwF y 5)) (svk kn kv ns) (svs sc) (svn ns) tx tn pl)) rfl rfl rfl ?_
    refine j_iload_n C 6 dL_acts_482 rfl rfl ?_
    refine j_iconst C dL_acts_483 ?_
    refine j_callS (As := [.int (iI y), .int (iI 5)]) (rest := [.int (iI ((cpS (kEnd kn kt (lwF y 5)) kn) 0 3))]) C ys_L_low qw153 (c_L_low l g y 5 (by omega) (by omega)) (by decide) rfl dL_acts_484 rfl (Nat.le_of_ble_eq_true rfl) (by decide) (pfE (wTp g r qn qt qv (cpS (kEnd kn kt (lwF y 5)) kn) (kEnd kn kt (lwF y 5)) (svk kn kv ns) (svs sc) (svn ns) tx tn pl)) rfl (fun r9 w9 hq9 => ?_)
    obtain ⟨rfl, rfl⟩ := hq9
    refine J.to (L1 := [(6, .int (iI ((kn 0 3)))), (5, .int (iI (kn 0 3))), (4, .int (iI ((nb : Int)))), (0, .ref (r 0)), (1, .int (iI 13)), (2, .int (iI x)), (3, .int (iI y))]) (S1 := [.int (iI (lwF y 5)), .int (iI ((cpS (kEnd kn kt (lwF y 5)) kn) 0 3))]) (ws1 := (wTp g r qn qt qv (cpS (kEnd kn kt (lwF y 5)) kn) (kEnd kn kt (lwF y 5)) (svk kn kv ns) (svs sc) (svn ns) tx tn pl)) rfl rfl rfl ?_
    have hl4 := lwF_rng (x := y) (n := 5) (by decide)
    refine j_isameF C (rfl) dL_acts_487 (tgt := 494) (by decide) ?_
    refine j_iconst C dL_acts_490 ?_
    refine j_goto (tgt := 495) C dL_acts_491 (by decide) ?_
    exact j_zret C hr hlk rfl dL_acts_495 ⟨rfl, cpS (kEnd kn kt (lwF y 5)) kn, kEnd kn kt (lwF y 5), svk kn kv ns, svs sc, svn ns, tx, tn, pl, rfl, hI2⟩ (by decide) (by decide)

theorem c_L_acts (l : Launch) (hl : l.stackTraces = false) (g : Gh) (r : Nat → Nat) (qn qt : Nat → Nat) (qv : Nat → Nat → Nat) (kn kt : Nat → Nat → Int) (kv : Nat → Nat → Nat → Int) (sc : Int) (ns : Nat) (tx : Nat → Int) (tn : Nat) (pl : Int) (n : Nat) (hI : IV n kn kv sc ns tx tn) (w : Int) (hw : 0 ≤ w ∧ w < 14) (x y : Int) (hx : -2147483648 ≤ x ∧ x < 2147483648) (hy : -2147483648 ≤ y ∧ y < 2147483648) : CT l g yL_acts cL_acts 7 (some FieldType.boolean) ({ frames := 11, cells := 3, slots := 14, locals := 233 }) [.ref (r 0), .int (iI w), .int (iI x), .int (iI y)] (wTp g r qn qt qv kn kt kv sc ns tx tn pl) (AP g r qn qt qv (n + 1)) := by
  rcases (by omega : w = 0 ∨ w = 1 ∨ w = 2 ∨ w = 3 ∨ w = 4 ∨ w = 5 ∨ w = 6 ∨ w = 7 ∨ w = 8 ∨ w = 9 ∨ w = 10 ∨ w = 11 ∨ w = 12 ∨ w = 13) with rfl | rfl | rfl | rfl | rfl | rfl | rfl | rfl | rfl | rfl | rfl | rfl | rfl | rfl
  · exact c_L_acts_0 l hl g r qn qt qv kn kt kv sc ns tx tn pl n hI x y hx hy
  · exact c_L_acts_1 l hl g r qn qt qv kn kt kv sc ns tx tn pl n hI x y hx hy
  · exact c_L_acts_2 l hl g r qn qt qv kn kt kv sc ns tx tn pl n hI x y hx hy
  · exact c_L_acts_3 l hl g r qn qt qv kn kt kv sc ns tx tn pl n hI x y hx hy
  · exact c_L_acts_4 l hl g r qn qt qv kn kt kv sc ns tx tn pl n hI x y hx hy
  · exact c_L_acts_5 l hl g r qn qt qv kn kt kv sc ns tx tn pl n hI x y hx hy
  · exact c_L_acts_6 l hl g r qn qt qv kn kt kv sc ns tx tn pl n hI x y hx hy
  · exact c_L_acts_7 l hl g r qn qt qv kn kt kv sc ns tx tn pl n hI x y hx hy
  · exact c_L_acts_8 l hl g r qn qt qv kn kt kv sc ns tx tn pl n hI x y hx hy
  · exact c_L_acts_9 l hl g r qn qt qv kn kt kv sc ns tx tn pl n hI x y hx hy
  · exact c_L_acts_10 l hl g r qn qt qv kn kt kv sc ns tx tn pl n hI x y hx hy
  · exact c_L_acts_11 l hl g r qn qt qv kn kt kv sc ns tx tn pl n hI x y hx hy
  · exact c_L_acts_12 l hl g r qn qt qv kn kt kv sc ns tx tn pl n hI x y hx hy
  · exact c_L_acts_13 l hl g r qn qt qv kn kt kv sc ns tx tn pl n hI x y hx hy
