/-! the law: refused -/
theorem w_swapped_x9 (l : Launch) (hl : l.stackTraces = false) (g : Gh) (r : Nat → Nat) (qn qt : Nat → Nat) (qv : Nat → Nat → Nat) (kn kt : Nat → Nat → Int) (kv : Nat → Nat → Nat → Int) (sc : Int) (ns : Nat) (tx : Nat → Int) (tn : Nat) (pl : Int) (b x y : Int) (hT : TOK kn kv sc ns tx tn) (hrb : -2147483648 ≤ b ∧ b < 2147483648) (hrx : -2147483648 ≤ x ∧ x < 2147483648) (hry : -2147483648 ≤ y ∧ y < 2147483648) (hb4 : 0 ≤ b ∧ b < 4) (hx0 : 0 ≤ x) (hj : kn 0 2 ≤ y) (hy0 : 0 ≤ y) : CW l g yL_swapped cL_swapped 5 (some FieldType.int) [(0, 7, 8, 15)] ({ frames := 8, cells := 1, slots := 6, locals := 144 }) [.ref (r 0), .int (iI b), .int (iI x), .int (iI y)] (wTp g r qn qt qv kn kt kv sc ns tx tn pl) (PE (some (.int (iI (-900000003)))) (wTp g r qn qt qv kn kt kv sc ns tx tn pl)) := by
  by_cases hx : kn 0 2 ≤ x
  · exact w_swapped_x2 l hl g r qn qt qv kn kt kv sc ns tx tn pl b x y hT hrb hrx hry hb4 (by omega)
  · exact w_swapped_x3 l hl g r qn qt qv kn kt kv sc ns tx tn pl b x y hT hrb hrx hry hb4 (by omega) (by omega)
set_option maxRecDepth 100000 in
set_option maxHeartbeats 4000000 in
theorem c_L_refused (l : Launch) (hl : l.stackTraces = false) (g : Gh) (r : Nat → Nat) (qn qt : Nat → Nat) (qv : Nat → Nat → Nat) (kn kt : Nat → Nat → Int) (kv : Nat → Nat → Nat → Int) (sc : Int) (ns : Nat) (tx : Nat → Int) (tn : Nat) (pl : Int) (hT : TOK kn kv sc ns tx tn) : CT l g yL_refused cL_refused 4 (some FieldType.boolean) ({ frames := 10, cells := 22, slots := 132, locals := 196 }) [.ref (r 0)] (wTp g r qn qt qv kn kt kv sc ns tx tn pl) (fun r9 w9 => r9 = some (.int (iI 1)) ∧ ∃ kt9 : Nat → Nat → Int, w9 = wTp g r qn qt qv kn kt9 kv sc ns tx tn pl) := by
  refine CT.intro (L0 := [(0, .ref (r 0))]) (own := RL) (by decide) rfl (Nat.le_of_ble_eq_true rfl) rfl ?_
  intro pX eX sX mX argsX belowX methX cX A C hr hlk
  obtain ⟨hP, hE, hF, hrow, hwt, hht, hlen, hlat, hkept⟩ := id hT.1.1
  have hk := hT.1.1
  have hh0 := hT.1.2
  have hpf := passF_r hk
  have hhl := hnd_le hk
  have hga : hgA kn = kn 0 0 - hnd kn := by show _ = kn 0 0 - (kn 0 0 - hgA kn); omega
  refine j_aload_n C 0 dL_refused_0 rfl rfl ?_
  refine j_callS (As := [.ref (r 0)]) (rest := []) C ys_L_sum qw438 (c_L_sum l hl g r qn qt qv kn kt kv sc ns tx tn pl hT) (by decide) rfl dL_refused_1 rfl (Nat.le_of_ble_eq_true rfl) (by decide) pf0 rfl (fun r9 w9 hq9 => ?_)
  obtain ⟨rfl, rfl⟩ := hq9
  refine J.to (L1 := [(0, .ref (r 0))]) (S1 := [.long (lI (sumV kn))]) (ws1 := (wTp g r qn qt qv kn kt kv sc ns tx tn pl)) rfl rfl rfl ?_
  refine j_lstore_n (L1 := [(1, .long (lI (sumV kn))), (0, .ref (r 0))]) C dL_refused_4 rfl (by decide) rfl ?_
  refine j_aload_n C 1 dL_refused_5 rfl rfl ?_
  refine j_iconst C dL_refused_6 ?_
  refine j_iconst C dL_refused_7 ?_
  refine j_callSW (As := [.ref (r 0), .int (iI 4), .int (iI 0)]) (rest := []) C yw_L_weight qw157 (w_weight_x1 l hl g r qn qt qv kn kt kv sc ns tx tn pl 4 0 hT (by omega) (by omega) (by omega)) (by decide) rfl dL_refused_8 rfl (Nat.le_of_ble_eq_true rfl) (by decide) pf0 rfl (fun r9 w9 hq9 => ?_)
  obtain ⟨rfl, rfl⟩ := hq9
  refine J.to (L1 := [(1, .long (lI (sumV kn))), (0, .ref (r 0))]) (S1 := [.int (iI (-900000003))]) (ws1 := (wTp g r qn qt qv kn kt kv sc ns tx tn pl)) rfl rfl rfl ?_
  refine j_ldc (x := -900000003) C qw305 (by decide) dL_refused_11 ?_
  refine j_icmp_ne (tgt := 214) C (by decide) (by decide) dL_refused_13 (by decide) (fun c13 => absurd c13 (by decide)) (fun c13 => ?_)
  refine j_aload_n C 1 dL_refused_16 rfl rfl ?_
  refine j_iconst C dL_refused_17 ?_
  refine j_iconst C dL_refused_18 ?_
  refine j_callSW (As := [.ref (r 0), .int (iI 0), .int (iI (-1))]) (rest := []) C yw_L_weight qw157 (w_weight_x2 l hl g r qn qt qv kn kt kv sc ns tx tn pl 0 (-1) hT (by omega) (by omega) (by omega) (by omega)) (by decide) rfl dL_refused_19 rfl (Nat.le_of_ble_eq_true rfl) (by decide) pf0 rfl (fun r9 w9 hq9 => ?_)
  obtain ⟨rfl, rfl⟩ := hq9
  refine J.to (L1 := [(1, .long (lI (sumV kn))), (0, .ref (r 0))]) (S1 := [.int (iI (-900000001))]) (ws1 := (wTp g r qn qt qv kn kt kv sc ns tx tn pl)) rfl rfl rfl ?_
  refine j_ldc (x := -900000001) C qw306 (by decide) dL_refused_22 ?_
  refine j_icmp_ne (tgt := 214) C (by decide) (by decide) dL_refused_24 (by decide) (fun c24 => absurd c24 (by decide)) (fun c24 => ?_)
  refine j_aload_n C 1 dL_refused_27 rfl rfl ?_
  refine j_bipush C dL_refused_28 (by decide) ?_
  refine j_callSW (As := [.ref (r 0), .int (iI 31)]) (rest := []) C yw_L_friction qw307 (w_friction_x1 l hl g r qn qt qv kn kt kv sc ns tx tn pl 31 hT (by omega) (by omega)) (by decide) rfl dL_refused_30 rfl (Nat.le_of_ble_eq_true rfl) (by decide) pf0 rfl (fun r9 w9 hq9 => ?_)
  obtain ⟨rfl, rfl⟩ := hq9
  refine J.to (L1 := [(1, .long (lI (sumV kn))), (0, .ref (r 0))]) (S1 := [.int (iI (-900000001))]) (ws1 := (wTp g r qn qt qv kn kt kv sc ns tx tn pl)) rfl rfl rfl ?_
  refine j_ldc (x := -900000001) C qw306 (by decide) dL_refused_33 ?_
  refine j_icmp_ne (tgt := 214) C (by decide) (by decide) dL_refused_35 (by decide) (fun c35 => absurd c35 (by decide)) (fun c35 => ?_)
  refine j_aload_n C 1 dL_refused_38 rfl rfl ?_
  refine j_sipush C dL_refused_39 (by decide) ?_
  refine j_callSW (As := [.ref (r 0), .int (iI 999)]) (rest := []) C yw_L_longer qw314 (w_longer_x1 l hl g r qn qt qv kn kt kv sc ns tx tn pl 999 hT (by omega) (by omega)) (by decide) rfl dL_refused_42 rfl (Nat.le_of_ble_eq_true rfl) (by decide) pf0 rfl (fun r9 w9 hq9 => ?_)
  obtain ⟨rfl, rfl⟩ := hq9
  refine J.to (L1 := [(1, .long (lI (sumV kn))), (0, .ref (r 0))]) (S1 := [.int (iI (-900000001))]) (ws1 := (wTp g r qn qt qv kn kt kv sc ns tx tn pl)) rfl rfl rfl ?_
  refine j_ldc (x := -900000001) C qw306 (by decide) dL_refused_45 ?_
  refine j_icmp_ne (tgt := 214) C (by decide) (by decide) dL_refused_47 (by decide) (fun c47 => absurd c47 (by decide)) (fun c47 => ?_)
  refine j_aload_n C 1 dL_refused_50 rfl rfl ?_
  refine j_iconst C dL_refused_51 ?_
  refine j_callSW (As := [.ref (r 0), .int (iI 4)]) (rest := []) C yw_L_more qw501 (w_more_x1 l hl g r qn qt qv kn kt kv sc ns tx tn pl 4 hT (by omega) (by omega)) (by decide) rfl dL_refused_52 rfl (Nat.le_of_ble_eq_true rfl) (by decide) pf0 rfl (fun r9 w9 hq9 => ?_)
  obtain ⟨rfl, rfl⟩ := hq9
  refine J.to (L1 := [(1, .long (lI (sumV kn))), (0, .ref (r 0))]) (S1 := [.int (iI (-900000003))]) (ws1 := (wTp g r qn qt qv kn kt kv sc ns tx tn pl)) rfl rfl rfl ?_
  refine j_ldc (x := -900000003) C qw305 (by decide) dL_refused_55 ?_
  refine j_icmp_ne (tgt := 214) C (by decide) (by decide) dL_refused_57 (by decide) (fun c57 => absurd c57 (by decide)) (fun c57 => ?_)
  refine j_aload_n C 1 dL_refused_60 rfl rfl ?_
  refine j_iconst C dL_refused_61 ?_
  refine j_callSW (As := [.ref (r 0), .int (iI 5)]) (rest := []) C yw_L_ends qw514 (w_ends_x1 l hl g r qn qt qv kn kt kv sc ns tx tn pl 5 hT (by omega) (by omega)) (by decide) rfl dL_refused_62 rfl (Nat.le_of_ble_eq_true rfl) (by decide) pf0 rfl (fun r9 w9 hq9 => ?_)
  obtain ⟨rfl, rfl⟩ := hq9
  refine J.to (L1 := [(1, .long (lI (sumV kn))), (0, .ref (r 0))]) (S1 := [.int (iI (-900000003))]) (ws1 := (wTp g r qn qt qv kn kt kv sc ns tx tn pl)) rfl rfl rfl ?_
  refine j_ldc (x := -900000003) C qw305 (by decide) dL_refused_65 ?_
  refine j_icmp_ne (tgt := 214) C (by decide) (by decide) dL_refused_67 (by decide) (fun c67 => absurd c67 (by decide)) (fun c67 => ?_)
  refine j_aload_n C 1 dL_refused_70 rfl rfl ?_
  refine j_iconst C dL_refused_71 ?_
  refine j_iconst C dL_refused_72 ?_
  refine j_callSW (As := [.ref (r 0), .int (iI (-1)), .int (iI 0)]) (rest := []) C yw_L_hauls qw368 (w_hauls_x1 l hl g r qn qt qv kn kt kv sc ns tx tn pl (-1) 0 hT (by omega) (by omega) (by omega)) (by decide) rfl dL_refused_73 rfl (Nat.le_of_ble_eq_true rfl) (by decide) pf0 rfl (fun r9 w9 hq9 => ?_)
  obtain ⟨rfl, rfl⟩ := hq9
  refine J.to (L1 := [(1, .long (lI (sumV kn))), (0, .ref (r 0))]) (S1 := [.int (iI (-900000001))]) (ws1 := (wTp g r qn qt qv kn kt kv sc ns tx tn pl)) rfl rfl rfl ?_
  refine j_ldc (x := -900000001) C qw306 (by decide) dL_refused_76 ?_
  refine j_icmp_ne (tgt := 214) C (by decide) (by decide) dL_refused_78 (by decide) (fun c78 => absurd c78 (by decide)) (fun c78 => ?_)
  refine j_aload_n C 1 dL_refused_81 rfl rfl ?_
  refine j_iconst C dL_refused_82 ?_
  refine j_ldc (x := 100001) C qw522 (by decide) dL_refused_83 ?_
  refine j_callSW (As := [.ref (r 0), .int (iI 0), .int (iI 100001)]) (rest := []) C yw_L_lets qw523 (w_lets_x2 l hl g r qn qt qv kn kt kv sc ns tx tn pl 0 100001 hT (by omega) (by omega) (by omega) (by omega)) (by decide) rfl dL_refused_85 rfl (Nat.le_of_ble_eq_true rfl) (by decide) pf0 rfl (fun r9 w9 hq9 => ?_)
  obtain ⟨rfl, rfl⟩ := hq9
  refine J.to (L1 := [(1, .long (lI (sumV kn))), (0, .ref (r 0))]) (S1 := [.int (iI (-900000001))]) (ws1 := (wTp g r qn qt qv kn kt kv sc ns tx tn pl)) rfl rfl rfl ?_
  refine j_ldc (x := -900000001) C qw306 (by decide) dL_refused_88 ?_
  refine j_icmp_ne (tgt := 214) C (by decide) (by decide) dL_refused_90 (by decide) (fun c90 => absurd c90 (by decide)) (fun c90 => ?_)
  refine j_aload_n C 1 dL_refused_93 rfl rfl ?_
  refine j_iconst C dL_refused_94 ?_
  refine j_iconst C dL_refused_95 ?_
  refine j_callSW (As := [.ref (r 0), .int (iI (-1)), .int (iI 0)]) (rest := []) C yw_L_block qw456 (w_block_x1 l hl g r qn qt qv kn kt kv sc ns tx tn pl (-1) 0 hT (by omega) (by omega) (by omega)) (by decide) rfl dL_refused_96 rfl (Nat.le_of_ble_eq_true rfl) (by decide) pf0 rfl (fun r9 w9 hq9 => ?_)
  obtain ⟨rfl, rfl⟩ := hq9
  refine J.to (L1 := [(1, .long (lI (sumV kn))), (0, .ref (r 0))]) (S1 := [.int (iI (-900000003))]) (ws1 := (wTp g r qn qt qv kn kt kv sc ns tx tn pl)) rfl rfl rfl ?_
  refine j_ldc (x := -900000003) C qw305 (by decide) dL_refused_99 ?_
  refine j_icmp_ne (tgt := 214) C (by decide) (by decide) dL_refused_101 (by decide) (fun c101 => absurd c101 (by decide)) (fun c101 => ?_)
  refine j_aload_n C 1 dL_refused_104 rfl rfl ?_
  refine j_iconst C dL_refused_105 ?_
  refine j_bipush C dL_refused_106 (by decide) ?_
  refine j_callSW (As := [.ref (r 0), .int (iI 0), .int (iI 7)]) (rest := []) C yw_L_block qw456 (w_block_x2 l hl g r qn qt qv kn kt kv sc ns tx tn pl 0 7 hT (by omega) (by omega) (by omega) (by omega)) (by decide) rfl dL_refused_108 rfl (Nat.le_of_ble_eq_true rfl) (by decide) pf0 rfl (fun r9 w9 hq9 => ?_)
  obtain ⟨rfl, rfl⟩ := hq9
  refine J.to (L1 := [(1, .long (lI (sumV kn))), (0, .ref (r 0))]) (S1 := [.int (iI (-900000001))]) (ws1 := (wTp g r qn qt qv kn kt kv sc ns tx tn pl)) rfl rfl rfl ?_
  refine j_ldc (x := -900000001) C qw306 (by decide) dL_refused_111 ?_
  refine j_icmp_ne (tgt := 214) C (by decide) (by decide) dL_refused_113 (by decide) (fun c113 => absurd c113 (by decide)) (fun c113 => ?_)
  refine j_aload_n C 1 dL_refused_116 rfl rfl ?_
  refine j_bipush C dL_refused_117 (by decide) ?_
  refine j_callSW (As := [.ref (r 0), .int (iI 10)]) (rest := []) C yw_L_pulley qw468 (w_pulley_x1 l hl g r qn qt qv kn kt kv sc ns tx tn pl 10 hT (by omega) (by omega)) (by decide) rfl dL_refused_119 rfl (Nat.le_of_ble_eq_true rfl) (by decide) pf0 rfl (fun r9 w9 hq9 => ?_)
  obtain ⟨rfl, rfl⟩ := hq9
  refine J.to (L1 := [(1, .long (lI (sumV kn))), (0, .ref (r 0))]) (S1 := [.int (iI (-900000003))]) (ws1 := (wTp g r qn qt qv kn kt kv sc ns tx tn pl)) rfl rfl rfl ?_
  refine j_ldc (x := -900000003) C qw305 (by decide) dL_refused_122 ?_
  refine j_icmp_ne (tgt := 214) C (by decide) (by decide) dL_refused_124 (by decide) (fun c124 => absurd c124 (by decide)) (fun c124 => ?_)
  refine j_aload_n C 1 dL_refused_127 rfl rfl ?_
  refine j_bipush C dL_refused_128 (by decide) ?_
  refine j_iconst C dL_refused_130 ?_
  refine j_callSW (As := [.ref (r 0), .int (iI 16), .int (iI 0)]) (rest := []) C yw_L_entry qw481 (w_entry_x1 l hl g r qn qt qv kn kt kv sc ns tx tn pl 16 0 hT (by omega) (by omega) (by omega)) (by decide) rfl dL_refused_131 rfl (Nat.le_of_ble_eq_true rfl) (by decide) pf0 rfl (fun r9 w9 hq9 => ?_)
  obtain ⟨rfl, rfl⟩ := hq9
  refine J.to (L1 := [(1, .long (lI (sumV kn))), (0, .ref (r 0))]) (S1 := [.int (iI (-900000003))]) (ws1 := (wTp g r qn qt qv kn kt kv sc ns tx tn pl)) rfl rfl rfl ?_
  refine j_ldc (x := -900000003) C qw305 (by decide) dL_refused_134 ?_
  refine j_icmp_ne (tgt := 214) C (by decide) (by decide) dL_refused_136 (by decide) (fun c136 => absurd c136 (by decide)) (fun c136 => ?_)
  refine j_aload_n C 1 dL_refused_139 rfl rfl ?_
  refine j_bipush C dL_refused_140 (by decide) ?_
  refine j_callSW (As := [.ref (r 0), .int (iI 10)]) (rest := []) C yw_L_value qw443 (w_value_x1 l hl g r qn qt qv kn kt kv sc ns tx tn pl 10 hT (by omega) (by omega)) (by decide) rfl dL_refused_142 rfl (Nat.le_of_ble_eq_true rfl) (by decide) pf0 rfl (fun r9 w9 hq9 => ?_)
  obtain ⟨rfl, rfl⟩ := hq9
  refine J.to (L1 := [(1, .long (lI (sumV kn))), (0, .ref (r 0))]) (S1 := [.int (iI (-900000001))]) (ws1 := (wTp g r qn qt qv kn kt kv sc ns tx tn pl)) rfl rfl rfl ?_
  refine j_ldc (x := -900000001) C qw306 (by decide) dL_refused_145 ?_
  refine j_icmp_ne (tgt := 214) C (by decide) (by decide) dL_refused_147 (by decide) (fun c147 => absurd c147 (by decide)) (fun c147 => ?_)
  refine j_aload_n C 1 dL_refused_150 rfl rfl ?_
  refine j_iconst C dL_refused_151 ?_
  refine j_ldc (x := 1000001) C qw535 (by decide) dL_refused_152 ?_
  refine j_callSW (As := [.ref (r 0), .int (iI 0), .int (iI 1000001)]) (rest := []) C yw_L_need qw536 (w_need_x2 l hl g r qn qt qv kn kt kv sc ns tx tn pl 0 1000001 hT (by omega) (by omega) (by omega) (by omega)) (by decide) rfl dL_refused_154 rfl (Nat.le_of_ble_eq_true rfl) (by decide) pf0 rfl (fun r9 w9 hq9 => ?_)
  obtain ⟨rfl, rfl⟩ := hq9
  refine J.to (L1 := [(1, .long (lI (sumV kn))), (0, .ref (r 0))]) (S1 := [.int (iI (-900000001))]) (ws1 := (wTp g r qn qt qv kn kt kv sc ns tx tn pl)) rfl rfl rfl ?_
  refine j_ldc (x := -900000001) C qw306 (by decide) dL_refused_157 ?_
  refine j_icmp_ne (tgt := 214) C (by decide) (by decide) dL_refused_159 (by decide) (fun c159 => absurd c159 (by decide)) (fun c159 => ?_)
  refine j_aload_n C 1 dL_refused_162 rfl rfl ?_
  refine j_iconst C dL_refused_163 ?_
  refine j_iconst C dL_refused_164 ?_
  refine j_iconst C dL_refused_165 ?_
  refine j_callSW (As := [.ref (r 0), .int (iI 0), .int (iI 0), .int (iI (-1))]) (rest := []) C yw_L_rise qw548 (w_rise_x3 l hl g r qn qt qv kn kt kv sc ns tx tn pl 0 0 (-1) hT (by omega) (by omega) (by omega) (by omega) (by omega) (by omega)) (by decide) rfl dL_refused_166 rfl (Nat.le_of_ble_eq_true rfl) (by decide) pf0 rfl (fun r9 w9 hq9 => ?_)
  obtain ⟨rfl, rfl⟩ := hq9
  refine J.to (L1 := [(1, .long (lI (sumV kn))), (0, .ref (r 0))]) (S1 := [.int (iI (-900000001))]) (ws1 := (wTp g r qn qt qv kn kt kv sc ns tx tn pl)) rfl rfl rfl ?_
  refine j_ldc (x := -900000001) C qw306 (by decide) dL_refused_169 ?_
  refine j_icmp_ne (tgt := 214) C (by decide) (by decide) dL_refused_171 (by decide) (fun c171 => absurd c171 (by decide)) (fun c171 => ?_)
  refine j_aload_n C 1 dL_refused_174 rfl rfl ?_
  refine j_sipush C dL_refused_175 (by decide) ?_
  refine j_callSW (As := [.ref (r 0), .int (iI 200)]) (rest := []) C yw_L_types qw555 (w_types_x1 l hl g r qn qt qv kn kt kv sc ns tx tn pl 200 hT (by omega) (by omega)) (by decide) rfl dL_refused_178 rfl (Nat.le_of_ble_eq_true rfl) (by decide) pf0 rfl (fun r9 w9 hq9 => ?_)
  obtain ⟨rfl, rfl⟩ := hq9
  refine J.to (L1 := [(1, .long (lI (sumV kn))), (0, .ref (r 0))]) (S1 := [.int (iI (-900000001))]) (ws1 := (wTp g r qn qt qv kn kt kv sc ns tx tn pl)) rfl rfl rfl ?_
  refine j_ldc (x := -900000001) C qw306 (by decide) dL_refused_181 ?_
  refine j_icmp_ne (tgt := 214) C (by decide) (by decide) dL_refused_183 (by decide) (fun c183 => absurd c183 (by decide)) (fun c183 => ?_)
  refine j_aload_n C 1 dL_refused_186 rfl rfl ?_
  refine j_bipush C dL_refused_187 (by decide) ?_
  refine j_callSW (As := [.ref (r 0), .int (iI 9)]) (rest := []) C yw_L_best qw564 (w_best_x1 l hl g r qn qt qv kn kt kv sc ns tx tn pl 9 hT (by omega) (by omega)) (by decide) rfl dL_refused_189 rfl (Nat.le_of_ble_eq_true rfl) (by decide) pf0 rfl (fun r9 w9 hq9 => ?_)
  obtain ⟨rfl, rfl⟩ := hq9
  refine J.to (L1 := [(1, .long (lI (sumV kn))), (0, .ref (r 0))]) (S1 := [.int (iI (-900000003))]) (ws1 := (wTp g r qn qt qv kn kt kv sc ns tx tn pl)) rfl rfl rfl ?_
  refine j_ldc (x := -900000003) C qw305 (by decide) dL_refused_192 ?_
  refine j_icmp_ne (tgt := 214) C (by decide) (by decide) dL_refused_194 (by decide) (fun c194 => absurd c194 (by decide)) (fun c194 => ?_)
  refine j_aload_n C 1 dL_refused_197 rfl rfl ?_
  refine j_iconst C dL_refused_198 ?_
  refine j_iconst C dL_refused_199 ?_
  refine j_bipush C dL_refused_200 (by decide) ?_
  refine j_callSW (As := [.ref (r 0), .int (iI 0), .int (iI 0), .int (iI 10)]) (rest := []) C yw_L_swapped qw571 (w_swapped_x9 l hl g r qn qt qv kn kt kv sc ns tx tn pl 0 0 10 hT (by omega) (by omega) (by omega) (by omega) (by omega) (by omega) (by omega)) (by decide) rfl dL_refused_202 rfl (Nat.le_of_ble_eq_true rfl) (by decide) pf0 rfl (fun r9 w9 hq9 => ?_)
  obtain ⟨rfl, rfl⟩ := hq9
  refine J.to (L1 := [(1, .long (lI (sumV kn))), (0, .ref (r 0))]) (S1 := [.int (iI (-900000003))]) (ws1 := (wTp g r qn qt qv kn kt kv sc ns tx tn pl)) rfl rfl rfl ?_
  refine j_ldc (x := -900000003) C qw305 (by decide) dL_refused_205 ?_
  refine j_icmp_ne (tgt := 214) C (by decide) (by decide) dL_refused_207 (by decide) (fun c207 => absurd c207 (by decide)) (fun c207 => ?_)
  refine j_iconst C dL_refused_210 ?_
  refine j_goto (tgt := 215) C dL_refused_211 (by decide) ?_
  refine j_istore_n (L1 := [(3, .int (iI 1)), (1, .long (lI (sumV kn))), (0, .ref (r 0))]) C dL_refused_215 rfl (by decide) rfl ?_
  refine j_iload_n C 0 dL_refused_216 rfl rfl ?_
  refine j_if_eq (tgt := 310) C (by decide) dL_refused_217 (by decide) (fun c217 => absurd c217 (by decide)) (fun c217 => ?_)
  refine j_aload_n C 2 dL_refused_220 rfl rfl ?_
  refine j_bipush C dL_refused_221 (by decide) ?_
  refine j_callSW (As := [.ref (r 0), .int (iI 6)]) (rest := []) C yw_L_value qw443 (w_value l g r qn qt qv kn kt kv sc ns tx tn pl 6 hT (by omega)) (by decide) rfl dL_refused_223 rfl (Nat.le_of_ble_eq_true rfl) (by decide) pf0 rfl (fun r9 w9 hq9 => ?_)
  obtain ⟨rfl, rfl⟩ := hq9
  refine J.to (L1 := [(3, .int (iI 1)), (1, .long (lI (sumV kn))), (0, .ref (r 0))]) (S1 := [.int (iI (hgA kn))]) (ws1 := (wTp g r qn qt qv kn kt kv sc ns tx tn pl)) rfl rfl rfl ?_
  refine j_sipush C dL_refused_226 (by decide) ?_
  have kj249_1 : ∀ (ktj1 : Nat → Nat → Int), J pX l eX ({ frames := 10, cells := 22, slots := 132, locals := 196 } : Room) sX mX argsX belowX methX cX g A 4 249 [(3, .int (iI 1)), (1, .long (lI (sumV kn))), (0, .ref (r 0))] [] (wTp g r qn qt qv kn ktj1 kv sc ns tx tn pl) 19 114 (MQ belowX (QE g A (fun r9 w9 => r9 = some (.int (iI 1)) ∧ ∃ kt9 : Nat → Nat → Int, w9 = wTp g r qn qt qv kn kt9 kv sc ns tx tn pl)) argsX sX 22 132 A) := by
    intro ktj1
    refine j_aload_n C 2 dL_refused_249 rfl rfl ?_
    refine j_iconst C dL_refused_250 ?_
    refine j_callSW (As := [.ref (r 0), .int (iI 3)]) (rest := []) C yw_L_value qw443 (w_value l g r qn qt qv kn ktj1 kv sc ns tx tn pl 3 hT (by omega)) (by decide) rfl dL_refused_251 rfl (Nat.le_of_ble_eq_true rfl) (by decide) pf0 rfl (fun r9 w9 hq9 => ?_)
    obtain ⟨rfl, rfl⟩ := hq9
    refine J.to (L1 := [(3, .int (iI 1)), (1, .long (lI (sumV kn))), (0, .ref (r 0))]) (S1 := [.int (iI (kn 0 2))]) (ws1 := (wTp g r qn qt qv kn ktj1 kv sc ns tx tn pl)) rfl rfl rfl ?_
    have kj266_3 : ∀ (ktj3 : Nat → Nat → Int), J pX l eX ({ frames := 10, cells := 22, slots := 132, locals := 196 } : Room) sX mX argsX belowX methX cX g A 4 266 [(3, .int (iI 1)), (1, .long (lI (sumV kn))), (0, .ref (r 0))] [] (wTp g r qn qt qv kn ktj3 kv sc ns tx tn pl) 20 120 (MQ belowX (QE g A (fun r9 w9 => r9 = some (.int (iI 1)) ∧ ∃ kt9 : Nat → Nat → Int, w9 = wTp g r qn qt qv kn kt9 kv sc ns tx tn pl)) argsX sX 22 132 A) := by
      intro ktj3
      refine j_aload_n C 2 dL_refused_266 rfl rfl ?_
      refine j_iconst C dL_refused_267 ?_
      refine j_callSW (As := [.ref (r 0), .int (iI 3)]) (rest := []) C yw_L_value qw443 (w_value l g r qn qt qv kn ktj3 kv sc ns tx tn pl 3 hT (by omega)) (by decide) rfl dL_refused_268 rfl (Nat.le_of_ble_eq_true rfl) (by decide) pf0 rfl (fun r9 w9 hq9 => ?_)
      obtain ⟨rfl, rfl⟩ := hq9
      refine J.to (L1 := [(3, .int (iI 1)), (1, .long (lI (sumV kn))), (0, .ref (r 0))]) (S1 := [.int (iI (kn 0 2))]) (ws1 := (wTp g r qn qt qv kn ktj3 kv sc ns tx tn pl)) rfl rfl rfl ?_
      refine j_bipush C dL_refused_271 (by decide) ?_
      have kj286_5 : ∀ (ktj5 : Nat → Nat → Int), J pX l eX ({ frames := 10, cells := 22, slots := 132, locals := 196 } : Room) sX mX argsX belowX methX cX g A 4 286 [(3, .int (iI 1)), (1, .long (lI (sumV kn))), (0, .ref (r 0))] [] (wTp g r qn qt qv kn ktj5 kv sc ns tx tn pl) 21 126 (MQ belowX (QE g A (fun r9 w9 => r9 = some (.int (iI 1)) ∧ ∃ kt9 : Nat → Nat → Int, w9 = wTp g r qn qt qv kn kt9 kv sc ns tx tn pl)) argsX sX 22 132 A) := by
        intro ktj5
        refine j_aload_n C 2 dL_refused_286 rfl rfl ?_
        refine j_iconst C dL_refused_287 ?_
        refine j_aload_n C 2 dL_refused_288 rfl rfl ?_
        refine j_iconst C dL_refused_289 ?_
        refine j_callSW (As := [.ref (r 0), .int (iI 5)]) (rest := [.int (iI 0), .ref (r 0)]) C yw_L_value qw443 (w_value l g r qn qt qv kn ktj5 kv sc ns tx tn pl 5 hT (by omega)) (by decide) rfl dL_refused_290 rfl (Nat.le_of_ble_eq_true rfl) (by decide) pf0 rfl (fun r9 w9 hq9 => ?_)
        obtain ⟨rfl, rfl⟩ := hq9
        refine J.to (L1 := [(3, .int (iI 1)), (1, .long (lI (sumV kn))), (0, .ref (r 0))]) (S1 := [.int (iI (passF kn)), .int (iI 0), .ref (r 0)]) (ws1 := (wTp g r qn qt qv kn ktj5 kv sc ns tx tn pl)) rfl rfl rfl ?_
        refine j_iconst C dL_refused_293 ?_
        refine j_iadd C dL_refused_294 ?_
        refine j_iconst C dL_refused_295 ?_
        refine j_callSW (As := [.ref (r 0), .int (iI 0), .int (iI ((passF kn) + 1)), .int (iI 1)]) (rest := []) C yw_L_force qw595 (w_force_x2 l hl g r qn qt qv kn ktj5 kv sc ns tx tn pl 0 ((passF kn) + 1) true hT (by omega) (by omega) (by omega) (by omega)) (by decide) rfl dL_refused_296 rfl (Nat.le_of_ble_eq_true rfl) (by decide) pf0 rfl (fun r9 w9 hq9 => ?_)
        obtain ⟨rfl, rfl⟩ := hq9
        refine J.to (L1 := [(3, .int (iI 1)), (1, .long (lI (sumV kn))), (0, .ref (r 0))]) (S1 := [.long (lI (-900000001))]) (ws1 := (wTp g r qn qt qv kn ktj5 kv sc ns tx tn pl)) rfl rfl rfl ?_
        refine j_ldc2 (x := -900000001) C qw606 (by decide) dL_refused_299 ?_
        refine j_lsameF (tgt := 310) C (rfl) dL_refused_302 dL_refused_303 (by decide) ?_
        refine j_iconst C dL_refused_306 ?_
        refine j_goto (tgt := 311) C dL_refused_307 (by decide) ?_
        refine j_istore_n (L1 := [(3, .int (iI 1)), (1, .long (lI (sumV kn))), (0, .ref (r 0))]) C dL_refused_311 rfl (by decide) rfl ?_
        refine j_iload_n C 0 dL_refused_312 rfl rfl ?_
        refine j_if_eq (tgt := 329) C (by decide) dL_refused_313 (by decide) (fun c313 => absurd c313 (by decide)) (fun c313 => ?_)
        refine j_aload_n C 2 dL_refused_316 rfl rfl ?_
        refine j_callS (As := [.ref (r 0)]) (rest := []) C ys_L_sum qw438 (c_L_sum l hl g r qn qt qv kn ktj5 kv sc ns tx tn pl hT) (by decide) rfl dL_refused_317 rfl (Nat.le_of_ble_eq_true rfl) (by decide) pf0 rfl (fun r9 w9 hq9 => ?_)
        obtain ⟨rfl, rfl⟩ := hq9
        refine J.to (L1 := [(3, .int (iI 1)), (1, .long (lI (sumV kn))), (0, .ref (r 0))]) (S1 := [.long (lI (sumV kn))]) (ws1 := (wTp g r qn qt qv kn ktj5 kv sc ns tx tn pl)) rfl rfl rfl ?_
        refine j_lload_n C 1 dL_refused_320 rfl rfl ?_
        refine j_lsameF (tgt := 329) C (rfl) dL_refused_321 dL_refused_322 (by decide) ?_
        refine j_iconst C dL_refused_325 ?_
        refine j_goto (tgt := 330) C dL_refused_326 (by decide) ?_
        exact j_zret C hr hlk rfl dL_refused_330 ⟨rfl, ktj5, rfl⟩ (by decide) (by decide)
      refine j_icmp_lt (tgt := 286) C (by omega) (by decide) dL_refused_273 (by decide) (fun c273 => ?_) (fun c273 => ?_)
      · refine J.sub (L1 := [(3, .int (iI 1)), (1, .long (lI (sumV kn))), (0, .ref (r 0))]) [0, 1, 2] rfl ?_
        refine J.wide (k := 21) (n := 126) (by decide) (by decide) ?_
        exact kj286_5 ktj3
      · refine j_aload_n C 2 dL_refused_276 rfl rfl ?_
        refine j_iconst C dL_refused_277 ?_
        refine j_callSW (As := [.ref (r 0), .int (iI 0)]) (rest := []) C yw_L_more qw501 (w_more_x2 l hl g r qn qt qv kn ktj3 kv sc ns tx tn pl 0 hT (by omega) (by omega)) (by decide) rfl dL_refused_278 rfl (Nat.le_of_ble_eq_true rfl) (by decide) pf0 rfl (fun r9 w9 hq9 => ?_)
        obtain ⟨rfl, rfl⟩ := hq9
        refine J.to (L1 := [(3, .int (iI 1)), (1, .long (lI (sumV kn))), (0, .ref (r 0))]) (S1 := [.int (iI (-900000002))]) (ws1 := (wTp g r qn qt qv kn ktj3 kv sc ns tx tn pl)) rfl rfl rfl ?_
        refine j_ldc (x := -900000002) C qw367 (by decide) dL_refused_281 ?_
        refine j_icmp_ne (tgt := 310) C (by decide) (by decide) dL_refused_283 (by decide) (fun c283 => absurd c283 (by decide)) (fun c283 => ?_)
        refine J.sub (L1 := [(3, .int (iI 1)), (1, .long (lI (sumV kn))), (0, .ref (r 0))]) [0, 1, 2] rfl ?_
        exact kj286_5 ktj3
    refine j_if_gt (tgt := 266) C (by omega) dL_refused_254 (by decide) (fun c254 => ?_) (fun c254 => ?_)
    · refine J.sub (L1 := [(3, .int (iI 1)), (1, .long (lI (sumV kn))), (0, .ref (r 0))]) [0, 1, 2] rfl ?_
      refine J.wide (k := 20) (n := 120) (by decide) (by decide) ?_
      exact kj266_3 ktj1
    · refine j_aload_n C 2 dL_refused_257 rfl rfl ?_
      refine j_callSW (As := [.ref (r 0)]) (rest := []) C yw_L_less qw583 (w_less_x1 l hl g r qn qt qv kn ktj1 kv sc ns tx tn pl hT (by omega)) (by decide) rfl dL_refused_258 rfl (Nat.le_of_ble_eq_true rfl) (by decide) pf0 rfl (fun r9 w9 hq9 => ?_)
      obtain ⟨rfl, rfl⟩ := hq9
      refine J.to (L1 := [(3, .int (iI 1)), (1, .long (lI (sumV kn))), (0, .ref (r 0))]) (S1 := [.int (iI (-900000002))]) (ws1 := (wTp g r qn qt qv kn ktj1 kv sc ns tx tn pl)) rfl rfl rfl ?_
      refine j_ldc (x := -900000002) C qw367 (by decide) dL_refused_261 ?_
      refine j_icmp_ne (tgt := 310) C (by decide) (by decide) dL_refused_263 (by decide) (fun c263 => absurd c263 (by decide)) (fun c263 => ?_)
      refine J.sub (L1 := [(3, .int (iI 1)), (1, .long (lI (sumV kn))), (0, .ref (r 0))]) [0, 1, 2] rfl ?_
      exact kj266_3 ktj1
  refine j_icmp_lt (tgt := 249) C (by omega) (by decide) dL_refused_229 (by decide) (fun c229 => ?_) (fun c229 => ?_)
  · refine J.sub (L1 := [(3, .int (iI 1)), (1, .long (lI (sumV kn))), (0, .ref (r 0))]) [0, 1, 2] rfl ?_
    refine J.wide (k := 19) (n := 114) (by decide) (by decide) ?_
    exact kj249_1 kt
  · refine j_aload_n C 2 dL_refused_232 rfl rfl ?_
    refine j_aload_n C 2 dL_refused_233 rfl rfl ?_
    refine j_bipush C dL_refused_234 (by decide) ?_
    refine j_callSW (As := [.ref (r 0), .int (iI 6)]) (rest := [.ref (r 0)]) C yw_L_value qw443 (w_value l g r qn qt qv kn kt kv sc ns tx tn pl 6 hT (by omega)) (by decide) rfl dL_refused_236 rfl (Nat.le_of_ble_eq_true rfl) (by decide) pf0 rfl (fun r9 w9 hq9 => ?_)
    obtain ⟨rfl, rfl⟩ := hq9
    refine J.to (L1 := [(3, .int (iI 1)), (1, .long (lI (sumV kn))), (0, .ref (r 0))]) (S1 := [.int (iI (hgA kn)), .ref (r 0)]) (ws1 := (wTp g r qn qt qv kn kt kv sc ns tx tn pl)) rfl rfl rfl ?_
    refine j_iconst C dL_refused_239 ?_
    refine j_isub C dL_refused_240 ?_
    refine j_callSW (As := [.ref (r 0), .int (iI ((hgA kn) - 1))]) (rest := []) C yw_L_longer qw314 (w_longer_x2 l hl g r qn qt qv kn kt kv sc ns tx tn pl ((hgA kn) - 1) hT (by omega) (by rw [hnd_len hk]; omega)) (by decide) rfl dL_refused_241 rfl (Nat.le_of_ble_eq_true rfl) (by decide) pf0 rfl (fun r9 w9 hq9 => ?_)
    obtain ⟨rfl, rfl⟩ := hq9
    refine J.to (L1 := [(3, .int (iI 1)), (1, .long (lI (sumV kn))), (0, .ref (r 0))]) (S1 := [.int (iI (-900000002))]) (ws1 := (wTp g r qn qt qv kn (kLen kn kt ((hgA kn) - 1)) kv sc ns tx tn pl)) rfl rfl rfl ?_
    refine j_ldc (x := -900000002) C qw367 (by decide) dL_refused_244 ?_
    refine j_icmp_ne (tgt := 310) C (by decide) (by decide) dL_refused_246 (by decide) (fun c246 => absurd c246 (by decide)) (fun c246 => ?_)
    refine J.sub (L1 := [(3, .int (iI 1)), (1, .long (lI (sumV kn))), (0, .ref (r 0))]) [0, 1, 2] rfl ?_
    exact kj249_1 (kLen kn kt ((hgA kn) - 1))

