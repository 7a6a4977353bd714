/-! the law: isRead -/
theorem svs_rng {sc : Int} (h : 0 ≤ sc ∧ sc ≤ 4) : 0 < svs sc ∧ svs sc ≤ 4 := by
  show 0 < (if 4 < sc + 1 then 4 else sc + 1) ∧ (if 4 < sc + 1 then 4 else sc + 1) ≤ 4
  split <;> omega
theorem svn_lt (ns : Nat) : svn ns < 4 := Nat.mod_lt _ (by decide)
theorem txt_iv {n : Nat} {kn : Nat → Nat → Int} {kv : Nat → Nat → Nat → Int} {sc : Int} {ns : Nat} {tx : Nat → Int} {tn : Nat} (h : IV n kn kv sc ns tx tn) (i : Nat) (hi : (i : Int) ≤ kn 0 2) : IV n kn kv sc ns (cpy i (fun j => 48 + kn 1 j) tx) i := by
  obtain ⟨⟨g0, g3, g4, g5, g6, g7⟩, h8⟩ := h
  have hP := g0.1.1
  refine ⟨⟨g0, g3, g4, g5, by omega, fun j hj => ?_⟩, h8⟩
  rw [cpy_lt hj]
  have := g0.1.2.2.2.1 j (by omega)
  show 0 ≤ 48 + kn 1 j ∧ 48 + kn 1 j ≤ 127
  omega
theorem txt_mk (f tx : Nat → Int) (P : Nat) (E : Int) : TXT (va_up (va_up (cpy P (fun j => 48 + f j) tx) P 46) (P + 1) (48 + E)) (P + 1 + 1) P f E := by
  refine ⟨rfl, fun i hi => ?_, ?_, va_eq⟩
  · rw [va_ne (by omega), va_ne (by omega), cpy_lt hi]
  · rw [va_ne (by omega)]
    exact va_eq
set_option maxRecDepth 100000 in
set_option maxHeartbeats 4000000 in
theorem lp_read1 {p : Program} {l : Launch} {e : Env} {s : State} {m : MethodId} {args : Array Value} {below : List Frame} {meth : Method} {c : Code} {A : Nat → Prop} {Q : State → Prop} {g : Gh} {r : Nat → Nat} {qn qt : Nat → Nat} {qv : Nat → Nat → Nat} {kn : Nat → Nat → Int} {kv : Nat → Nat → Nat → Int} {sc : Int} {ns : Nat} {tx : Nat → Int} {pl : Int} {kt : Nat → Nat → Int} (C : Cx p g s m args c cL_isRead 10 RL A) (hl : l.stackTraces = false) {n9 P0 : Nat} (hk : SOK kn) (hP0 : kn 0 2 = (P0 : Int)) (hIr : ∀ i : Nat, i ≤ P0 → IV n9 kn kv sc ns (cpy i (fun j => 48 + kn 1 j) tx) i) (kk : J p l e ({ frames := 10, cells := 0, slots := 0, locals := 190 } : Room) s m args below meth c g A 10 62 [(0, .ref (r 0)), (2, .int (iI 1)), (3, .int (iI (kn 0 2)))] [] (wTp g r qn qt qv kn kt kv sc ns (cpy P0 (fun j => 48 + kn 1 j) tx) P0 pl) 0 0 Q) : ∀ (n i : Nat), i + n = P0 → J p l e ({ frames := 10, cells := 0, slots := 0, locals := 190 } : Room) s m args below meth c g A 10 24 [(0, .ref (r 0)), (2, .int (iI 1)), (3, .int (iI (kn 0 2))), (4, .int (iI ((i : Int))))] [] (wTp g r qn qt qv kn kt kv sc ns (cpy i (fun j => 48 + kn 1 j) tx) i pl) 0 0 Q := by
  intro n
  induction n with
  | zero =>
    intro i hi 
    have hi9 : P0 = i := by omega
    subst hi9
    have hP := hk.1
    refine j_iload C 3 dL_isRead_24 rfl ?_
    refine j_iload_n C 2 dL_isRead_26 rfl rfl ?_
    refine j_icmp_ge (tgt := 62) C (by omega) (by omega) dL_isRead_27 (by decide) (fun c27 => ?_) (fun c27 => absurd c27 (by omega))
    refine J.sub (L1 := [(0, .ref (r 0)), (2, .int (iI 1)), (3, .int (iI (kn 0 2)))]) [0, 1, 2] rfl ?_
    exact kk
  | succ n ih =>
    intro i hi 
    obtain ⟨hP, hE, hF, hrow, hwt, hht, hlen, hlat, hkept⟩ := id hk
    refine j_iload C 3 dL_isRead_24 rfl ?_
    refine j_iload_n C 2 dL_isRead_26 rfl rfl ?_
    refine j_icmp_ge (tgt := 62) C (by omega) (by omega) dL_isRead_27 (by decide) (fun c27 => absurd c27 (by omega)) (fun c27 => ?_)
    refine j_iload_n C 1 dL_isRead_30 rfl rfl ?_
    refine j_if_eq (tgt := 62) C (by decide) dL_isRead_31 (by decide) (fun c31 => absurd c31 (by decide)) (fun c31 => ?_)
    refine j_aload_n C 0 dL_isRead_34 rfl rfl ?_
    refine j_bipush C dL_isRead_35 (by decide) ?_
    refine j_aload_n C 0 dL_isRead_37 rfl rfl ?_
    refine j_iload C 3 dL_isRead_38 rfl ?_
    refine j_callSW (As := [.ref (r 0), .int (iI ((i : Int)))]) (rest := [.int (iI 48), .ref (r 0)]) C yw_L_pulley qw468 (w_pulley l g r qn qt qv kn kt kv sc ns (cpy i (fun j => 48 + kn 1 j) tx) i pl (i : Int) ((hIr i (by omega)).1) (by omega)) (by decide) rfl dL_isRead_40 rfl (Nat.le_of_ble_eq_true rfl) (by decide) pf0 rfl (fun r9 w9 hq9 => ?_)
    obtain ⟨rfl, rfl⟩ := hq9
    refine J.to (L1 := [(0, .ref (r 0)), (2, .int (iI 1)), (3, .int (iI (kn 0 2))), (4, .int (iI ((i : Int))))]) (S1 := [.int (iI (kn 1 i)), .int (iI 48), .ref (r 0)]) (ws1 := (wTp g r qn qt qv kn kt kv sc ns (cpy i (fun j => 48 + kn 1 j) tx) i pl)) rfl rfl rfl ?_
    have hrw := hrow i (by omega)
    refine j_iadd C dL_isRead_43 ?_
    refine j_callSW (As := [.ref (r 0), .int (iI (48 + (kn 1 i)))]) (rest := []) C yw_L_types qw555 (w_types l g r qn qt qv kn kt kv sc ns (cpy i (fun j => 48 + kn 1 j) tx) i pl (48 + (kn 1 i)) ((hIr i (by omega)).1) (by omega) (by omega)) (by decide) rfl dL_isRead_44 rfl (Nat.le_of_ble_eq_true rfl) (by decide) pf0 rfl (fun r9 w9 hq9 => ?_)
    obtain ⟨rfl, rfl⟩ := hq9
    refine J.to (L1 := [(0, .ref (r 0)), (2, .int (iI 1)), (3, .int (iI (kn 0 2))), (4, .int (iI ((i : Int))))]) (S1 := [.int (iI (((i : Int) + 1)))]) (ws1 := (wTp g r qn qt qv kn kt kv sc ns (va_up (cpy i (fun j => 48 + kn 1 j) tx) i (48 + (kn 1 i))) (i + 1) pl)) rfl rfl rfl ?_
    refine j_if_le (tgt := 54) C (by omega) dL_isRead_47 (by decide) (fun c47 => absurd c47 (by omega)) (fun c47 => ?_)
    refine j_iconst C dL_isRead_50 ?_
    refine j_goto (tgt := 55) C dL_isRead_51 (by decide) ?_
    refine j_istore_n (L1 := [(2, .int (iI 1)), (0, .ref (r 0)), (3, .int (iI (kn 0 2))), (4, .int (iI ((i : Int))))]) C dL_isRead_55 rfl (by decide) rfl ?_
    refine j_iinc (L1 := [(4, .int (iI (((i : Int)) + 1))), (2, .int (iI 1)), (0, .ref (r 0)), (3, .int (iI (kn 0 2)))]) C 3 dL_isRead_56 rfl (by decide) rfl ?_
    refine j_goto (tgt := 24) C dL_isRead_59 (by decide) ?_
    refine J.sub (L1 := [(0, .ref (r 0)), (2, .int (iI 1)), (3, .int (iI (kn 0 2))), (4, .int (iI (((i : Int)) + 1)))]) [2, 1, 3, 0] rfl ?_
    rw [cpy_succ i (fun j => 48 + kn 1 j) tx]
    exact ih (i + 1) (by omega)

set_option maxRecDepth 100000 in
set_option maxHeartbeats 4000000 in
theorem lp_read2 {p : Program} {l : Launch} {e : Env} {s : State} {m : MethodId} {args : Array Value} {below : List Frame} {meth : Method} {c : Code} {A : Nat → Prop} {Q : State → Prop} {g : Gh} {r : Nat → Nat} {qn qt : Nat → Nat} {qv : Nat → Nat → Nat} {kv : Nat → Nat → Nat → Int} {sc : Int} {ns : Nat} {tx : Nat → Int} {tn : Nat} {pl : Int} {kt : Nat → Nat → Int} (C : Cx p g s m args c cL_isRead 10 RL A) (hl : l.stackTraces = false) {K : Nat → Nat → Int} (hTK : TOK K kv sc ns tx tn) {sm : Int} (hK0 : ∀ b : Nat, b < 4 → K 4 b = 0) (kk : J p l e ({ frames := 10, cells := 0, slots := 0, locals := 190 } : Room) s m args below meth c g A 10 247 [(0, .ref (r 0)), (2, .int (iI 1)), (6, .long (lI sm))] [] (wTp g r qn qt qv K kt kv sc ns tx tn pl) 0 0 Q) : ∀ (n i : Nat), i + n = 4 → J p l e ({ frames := 10, cells := 0, slots := 0, locals := 190 } : Room) s m args below meth c g A 10 215 [(0, .ref (r 0)), (2, .int (iI 1)), (6, .long (lI sm)), (9, .int (iI ((i : Int))))] [] (wTp g r qn qt qv K kt kv sc ns tx tn pl) 0 0 Q := by
  intro n
  induction n with
  | zero =>
    intro i hi 
    have hi9 : 4 = i := by omega
    subst hi9
    refine j_iload C 3 dL_isRead_215 rfl ?_
    refine j_iconst C dL_isRead_217 ?_
    refine j_icmp_ge (tgt := 247) C (by omega) (by decide) dL_isRead_218 (by decide) (fun c218 => ?_) (fun c218 => absurd c218 (by omega))
    refine J.sub (L1 := [(0, .ref (r 0)), (2, .int (iI 1)), (6, .long (lI sm))]) [0, 1, 2] rfl ?_
    exact kk
  | succ n ih =>
    intro i hi 
    have hi4 : i < 4 := by omega
    have hki := hK0 i hi4
    refine j_iload C 3 dL_isRead_215 rfl ?_
    refine j_iconst C dL_isRead_217 ?_
    refine j_icmp_ge (tgt := 247) C (by omega) (by decide) dL_isRead_218 (by decide) (fun c218 => absurd c218 (by omega)) (fun c218 => ?_)
    refine j_iload_n C 1 dL_isRead_221 rfl rfl ?_
    refine j_if_eq (tgt := 247) C (by decide) dL_isRead_222 (by decide) (fun c222 => absurd c222 (by decide)) (fun c222 => ?_)
    refine j_aload_n C 0 dL_isRead_225 rfl rfl ?_
    refine j_iload C 3 dL_isRead_226 rfl ?_
    refine j_iconst C dL_isRead_228 ?_
    refine j_callSW (As := [.ref (r 0), .int (iI ((i : Int))), .int (iI 1)]) (rest := []) C yw_L_block qw456 (w_block l g r qn qt qv K kt kv sc ns tx tn pl (i : Int) 1 hTK (by omega) (by omega)) (by decide) rfl dL_isRead_229 rfl (Nat.le_of_ble_eq_true rfl) (by decide) pf0 rfl (fun r9 w9 hq9 => ?_)
    obtain ⟨rfl, rfl⟩ := hq9
    refine J.to (L1 := [(0, .ref (r 0)), (2, .int (iI 1)), (6, .long (lI sm)), (9, .int (iI ((i : Int))))]) (S1 := [.int (iI (K 4 i))]) (ws1 := (wTp g r qn qt qv K kt kv sc ns tx tn pl)) rfl rfl rfl ?_
    refine j_if_ne (tgt := 239) C (by omega) dL_isRead_232 (by decide) (fun c232 => absurd c232 (by omega)) (fun c232 => ?_)
    refine j_iconst C dL_isRead_235 ?_
    refine j_goto (tgt := 240) C dL_isRead_236 (by decide) ?_
    refine j_istore_n (L1 := [(2, .int (iI 1)), (0, .ref (r 0)), (6, .long (lI sm)), (9, .int (iI ((i : Int))))]) C dL_isRead_240 rfl (by decide) rfl ?_
    refine j_iinc (L1 := [(9, .int (iI (((i : Int)) + 1))), (2, .int (iI 1)), (0, .ref (r 0)), (6, .long (lI sm))]) C 3 dL_isRead_241 rfl (by decide) rfl ?_
    refine j_goto (tgt := 215) C dL_isRead_244 (by decide) ?_
    refine J.sub (L1 := [(0, .ref (r 0)), (2, .int (iI 1)), (6, .long (lI sm)), (9, .int (iI (((i : Int)) + 1)))]) [2, 1, 3, 0] rfl ?_
    exact ih (i + 1) (by omega)

set_option maxRecDepth 100000 in
set_option maxHeartbeats 4000000 in
theorem c_L_isRead (l : Launch) (hl : l.stackTraces = false) (g : Gh) (r : Nat → Nat) (qn qt : Nat → Nat) (qv : Nat → Nat → Nat) (kn kt : Nat → Nat → Int) (kv : Nat → Nat → Nat → Int) (sc : Int) (ns : Nat) (tx : Nat → Int) (tn : Nat) (pl : Int) (n : Nat) (hI : IV n kn kv sc ns tx tn) : CT l g yL_isRead cL_isRead 10 (some FieldType.boolean) ({ frames := 10, cells := 0, slots := 0, locals := 190 }) [.ref (r 0)] (wTp g r qn qt qv kn kt kv sc ns tx tn pl) (AP g r qn qt qv (n + 1)) := by
  refine CT.intro (L0 := [(0, .ref (r 0))]) (own := RL) (by decide) rfl (Nat.le_of_ble_eq_true rfl) rfl ?_
  intro pX eX sX mX argsX belowX methX cX A C hr hlk
  have hT := hI.1
  obtain ⟨hP, hE, hF, hrow, hwt, hht, hlen, hlat, hkept⟩ := id hT.1.1
  have hk := hT.1.1
  have hh0 := hT.1.2
  obtain ⟨P0, hP0⟩ : ∃ P0 : Nat, kn 0 2 = (P0 : Int) := ⟨(kn 0 2).toNat, by omega⟩
  have hIr : ∀ i : Nat, i ≤ P0 → IV n kn kv sc ns (cpy i (fun j => 48 + kn 1 j) tx) i := fun i hi => txt_iv hI i (by omega)
  have hsv := svs_rng hT.2.2.1
  have hnv := svn_lt ns
  have hns5 := hT.2.2.2.1
  have htn := hT.2.2.2.2.1
  have hpf := passF_r hk
  refine j_aload_n C 0 dL_isRead_0 rfl rfl ?_
  refine j_callV (As := []) (rest := []) C yv_X4_clearText qw647 (c_X4_clearText l g r qn qt qv kn kt kv sc ns tx tn pl hT) (by decide) 0 rfl rfl rfl dL_isRead_1 rfl (Nat.le_of_ble_eq_true rfl) (by decide) pf0 rfl (fun r9 w9 hq9 => ?_)
  obtain ⟨rfl, rfl⟩ := hq9
  refine J.to (L1 := [(0, .ref (r 0))]) (S1 := [.int (iI (((tn : Int))))]) (ws1 := (wTp g r qn qt qv kn kt kv sc ns tx 0 pl)) rfl rfl rfl ?_
  refine j_istore_n (L1 := [(1, .int (iI (((tn : Int))))), (0, .ref (r 0))]) C dL_isRead_4 rfl (by decide) rfl ?_
  refine j_iload_n C 0 dL_isRead_5 rfl rfl ?_
  refine j_if_lt (tgt := 13) C (by omega) dL_isRead_6 (by decide) (fun c6 => absurd c6 (by omega)) (fun c6 => ?_)
  refine j_iconst C dL_isRead_9 ?_
  refine j_goto (tgt := 14) C dL_isRead_10 (by decide) ?_
  refine j_istore_n (L1 := [(2, .int (iI 1)), (1, .int (iI (((tn : Int))))), (0, .ref (r 0))]) C dL_isRead_14 rfl (by decide) rfl ?_
  refine j_aload_n C 2 dL_isRead_15 rfl rfl ?_
  refine j_iconst C dL_isRead_16 ?_
  refine j_callSW (As := [.ref (r 0), .int (iI 3)]) (rest := []) C yw_L_value qw443 (w_value l g r qn qt qv kn kt kv sc ns tx 0 pl 3 hI.clr.1 (by omega)) (by decide) rfl dL_isRead_17 rfl (Nat.le_of_ble_eq_true rfl) (by decide) pf0 rfl (fun r9 w9 hq9 => ?_)
  obtain ⟨rfl, rfl⟩ := hq9
  refine J.to (L1 := [(2, .int (iI 1)), (1, .int (iI (((tn : Int))))), (0, .ref (r 0))]) (S1 := [.int (iI (kn 0 2))]) (ws1 := (wTp g r qn qt qv kn kt kv sc ns tx 0 pl)) rfl rfl rfl ?_
  refine j_istore_n (L1 := [(3, .int (iI (kn 0 2))), (2, .int (iI 1)), (1, .int (iI (((tn : Int))))), (0, .ref (r 0))]) C dL_isRead_20 rfl (by decide) rfl ?_
  refine j_iconst C dL_isRead_21 ?_
  refine j_istore (L1 := [(4, .int (iI 0)), (3, .int (iI (kn 0 2))), (2, .int (iI 1)), (1, .int (iI (((tn : Int))))), (0, .ref (r 0))]) C dL_isRead_22 (by decide) rfl ?_
  refine J.sub (L1 := [(0, .ref (r 0)), (2, .int (iI 1)), (3, .int (iI (kn 0 2))), (4, .int (iI 0))]) [4, 2, 1, 0] rfl ?_
  refine J.to (L1 := [(0, .ref (r 0)), (2, .int (iI 1)), (3, .int (iI (kn 0 2))), (4, .int (iI (((0 : Nat) : Int))))]) (S1 := []) (ws1 := (wTp g r qn qt qv kn kt kv sc ns (cpy 0 (fun j => 48 + kn 1 j) tx) 0 pl)) rfl rfl rfl ?_
  refine lp_read1 C hl hk hP0 hIr ?_ P0 0 (by omega)
  refine j_iload_n C 1 dL_isRead_62 rfl rfl ?_
  refine j_if_eq (tgt := 97) C (by decide) dL_isRead_63 (by decide) (fun c63 => absurd c63 (by decide)) (fun c63 => ?_)
  refine j_aload_n C 0 dL_isRead_66 rfl rfl ?_
  refine j_bipush C dL_isRead_67 (by decide) ?_
  refine j_callSW (As := [.ref (r 0), .int (iI 46)]) (rest := []) C yw_L_types qw555 (w_types l g r qn qt qv kn kt kv sc ns (cpy P0 (fun j => 48 + kn 1 j) tx) P0 pl 46 ((hIr P0 (by omega)).1) (by omega) (by omega)) (by decide) rfl dL_isRead_69 rfl (Nat.le_of_ble_eq_true rfl) (by decide) pf0 rfl (fun r9 w9 hq9 => ?_)
  obtain ⟨rfl, rfl⟩ := hq9
  refine J.to (L1 := [(0, .ref (r 0)), (2, .int (iI 1)), (3, .int (iI (kn 0 2)))]) (S1 := [.int (iI (((P0 : Int) + 1)))]) (ws1 := (wTp g r qn qt qv kn kt kv sc ns (va_up (cpy P0 (fun j => 48 + kn 1 j) tx) P0 46) (P0 + 1) pl)) rfl rfl rfl ?_
  have hI1 := (hIr P0 (Nat.le_refl _)).app (x := 46) (by omega) (by omega)
  refine j_if_le (tgt := 97) C (by omega) dL_isRead_72 (by decide) (fun c72 => absurd c72 (by omega)) (fun c72 => ?_)
  refine j_aload_n C 0 dL_isRead_75 rfl rfl ?_
  refine j_bipush C dL_isRead_76 (by decide) ?_
  refine j_aload_n C 0 dL_isRead_78 rfl rfl ?_
  refine j_iconst C dL_isRead_79 ?_
  refine j_callSW (As := [.ref (r 0), .int (iI 4)]) (rest := [.int (iI 48), .ref (r 0)]) C yw_L_value qw443 (w_value l g r qn qt qv kn kt kv sc ns (va_up (cpy P0 (fun j => 48 + kn 1 j) tx) P0 46) (P0 + 1) pl 4 hI1.1 (by omega)) (by decide) rfl dL_isRead_80 rfl (Nat.le_of_ble_eq_true rfl) (by decide) pf0 rfl (fun r9 w9 hq9 => ?_)
  obtain ⟨rfl, rfl⟩ := hq9
  refine J.to (L1 := [(0, .ref (r 0)), (2, .int (iI 1)), (3, .int (iI (kn 0 2)))]) (S1 := [.int (iI (kn 0 3)), .int (iI 48), .ref (r 0)]) (ws1 := (wTp g r qn qt qv kn kt kv sc ns (va_up (cpy P0 (fun j => 48 + kn 1 j) tx) P0 46) (P0 + 1) pl)) rfl rfl rfl ?_
  refine j_iadd C dL_isRead_83 ?_
  refine j_callSW (As := [.ref (r 0), .int (iI (48 + (kn 0 3)))]) (rest := []) C yw_L_types qw555 (w_types l g r qn qt qv kn kt kv sc ns (va_up (cpy P0 (fun j => 48 + kn 1 j) tx) P0 46) (P0 + 1) pl (48 + (kn 0 3)) hI1.1 (by omega) (by omega)) (by decide) rfl dL_isRead_84 rfl (Nat.le_of_ble_eq_true rfl) (by decide) pf0 rfl (fun r9 w9 hq9 => ?_)
  obtain ⟨rfl, rfl⟩ := hq9
  refine J.to (L1 := [(0, .ref (r 0)), (2, .int (iI 1)), (3, .int (iI (kn 0 2)))]) (S1 := [.int (iI ((((P0 + 1) : Int) + 1)))]) (ws1 := (wTp g r qn qt qv kn kt kv sc ns (va_up (va_up (cpy P0 (fun j => 48 + kn 1 j) tx) P0 46) (P0 + 1) (48 + (kn 0 3))) ((P0 + 1) + 1) pl)) rfl rfl rfl ?_
  have hI2 := hI1.app (x := 48 + kn 0 3) (by omega) (by omega)
  refine J.to (L1 := [(0, .ref (r 0)), (2, .int (iI 1)), (3, .int (iI (kn 0 2)))]) (S1 := [.int (iI ((((P0 + 1) : Int) + 1)))]) (ws1 := (wTp g r qn qt qv kn kt kv sc ns (va_up (va_up (cpy P0 (fun j => 48 + kn 1 j) tx) P0 46) (P0 + 1) (48 + kn 0 3)) (P0 + 1 + 1) pl)) rfl rfl rfl ?_
  have hTX := txt_mk (kn 1) tx P0 (kn 0 3)
  have hrr : ∀ i, i < P0 → 0 ≤ kn 1 i ∧ kn 1 i ≤ 3 := fun i hi => hrow i (by omega)
  have hfl := txt_flt hTX (by omega) hrr (by omega)
  have hpr := txt_prs hTX (by omega) hrr (cpS kn kt)
  have hpq : hnd (prs (va_up (va_up (cpy P0 (fun j => 48 + kn 1 j) tx) P0 46) (P0 + 1) (48 + kn 0 3)) (P0 + 1 + 1) (cpS kn kt)) = kn 0 0 - 10000 * passF kn := by rw [hnd_txt hTX (by omega) hrr (by omega)]; unfold passF; rw [hP0]; rfl
  refine j_iload_n C 2 dL_isRead_87 rfl rfl ?_
  refine j_iconst C dL_isRead_88 ?_
  refine j_iadd C dL_isRead_89 ?_
  refine j_isameF C ((by omega)) dL_isRead_90 (tgt := 97) (by decide) ?_
  refine j_iconst C dL_isRead_93 ?_
  refine j_goto (tgt := 98) C dL_isRead_94 (by decide) ?_
  refine j_istore_n (L1 := [(2, .int (iI 1)), (0, .ref (r 0)), (3, .int (iI (kn 0 2)))]) C dL_isRead_98 rfl (by decide) rfl ?_
  refine j_aload_n C 1 dL_isRead_99 rfl rfl ?_
  refine j_iconst C dL_isRead_100 ?_
  refine j_callSW (As := [.ref (r 0), .int (iI 4)]) (rest := []) C yw_L_value qw443 (w_value l g r qn qt qv kn kt kv sc ns (va_up (va_up (cpy P0 (fun j => 48 + kn 1 j) tx) P0 46) (P0 + 1) (48 + kn 0 3)) (P0 + 1 + 1) pl 4 hI2.1 (by omega)) (by decide) rfl dL_isRead_101 rfl (Nat.le_of_ble_eq_true rfl) (by decide) pf0 rfl (fun r9 w9 hq9 => ?_)
  obtain ⟨rfl, rfl⟩ := hq9
  refine J.to (L1 := [(2, .int (iI 1)), (0, .ref (r 0)), (3, .int (iI (kn 0 2)))]) (S1 := [.int (iI (kn 0 3))]) (ws1 := (wTp g r qn qt qv kn kt kv sc ns (va_up (va_up (cpy P0 (fun j => 48 + kn 1 j) tx) P0 46) (P0 + 1) (48 + kn 0 3)) (P0 + 1 + 1) pl)) rfl rfl rfl ?_
  refine j_istore (L1 := [(4, .int (iI (kn 0 3))), (2, .int (iI 1)), (0, .ref (r 0)), (3, .int (iI (kn 0 2)))]) C dL_isRead_104 (by decide) rfl ?_
  refine j_aload_n C 2 dL_isRead_106 rfl rfl ?_
  refine j_iconst C dL_isRead_107 ?_
  refine j_callSW (As := [.ref (r 0), .int (iI 0)]) (rest := []) C yw_L_value qw443 (w_value l g r qn qt qv kn kt kv sc ns (va_up (va_up (cpy P0 (fun j => 48 + kn 1 j) tx) P0 46) (P0 + 1) (48 + kn 0 3)) (P0 + 1 + 1) pl 0 hI2.1 (by omega)) (by decide) rfl dL_isRead_108 rfl (Nat.le_of_ble_eq_true rfl) (by decide) pf0 rfl (fun r9 w9 hq9 => ?_)
  obtain ⟨rfl, rfl⟩ := hq9
  refine J.to (L1 := [(4, .int (iI (kn 0 3))), (2, .int (iI 1)), (0, .ref (r 0)), (3, .int (iI (kn 0 2)))]) (S1 := [.int (iI (kn 0 0))]) (ws1 := (wTp g r qn qt qv kn kt kv sc ns (va_up (va_up (cpy P0 (fun j => 48 + kn 1 j) tx) P0 46) (P0 + 1) (48 + kn 0 3)) (P0 + 1 + 1) pl)) rfl rfl rfl ?_
  refine j_sipush C dL_isRead_111 (by decide) ?_
  refine j_aload_n C 2 dL_isRead_114 rfl rfl ?_
  refine j_iconst C dL_isRead_115 ?_
  refine j_callSW (As := [.ref (r 0), .int (iI 5)]) (rest := [.int (iI 10000), .int (iI (kn 0 0))]) C yw_L_value qw443 (w_value l g r qn qt qv kn kt kv sc ns (va_up (va_up (cpy P0 (fun j => 48 + kn 1 j) tx) P0 46) (P0 + 1) (48 + kn 0 3)) (P0 + 1 + 1) pl 5 hI2.1 (by omega)) (by decide) rfl dL_isRead_116 rfl (Nat.le_of_ble_eq_true rfl) (by decide) pf0 rfl (fun r9 w9 hq9 => ?_)
  obtain ⟨rfl, rfl⟩ := hq9
  refine J.to (L1 := [(4, .int (iI (kn 0 3))), (2, .int (iI 1)), (0, .ref (r 0)), (3, .int (iI (kn 0 2)))]) (S1 := [.int (iI (passF kn)), .int (iI 10000), .int (iI (kn 0 0))]) (ws1 := (wTp g r qn qt qv kn kt kv sc ns (va_up (va_up (cpy P0 (fun j => 48 + kn 1 j) tx) P0 46) (P0 + 1) (48 + kn 0 3)) (P0 + 1 + 1) pl)) rfl rfl rfl ?_
  refine j_imul C dL_isRead_119 ?_
  refine j_isub C dL_isRead_120 ?_
  refine j_istore (L1 := [(5, .int (iI ((kn 0 0) - (10000 * (passF kn))))), (4, .int (iI (kn 0 3))), (2, .int (iI 1)), (0, .ref (r 0)), (3, .int (iI (kn 0 2)))]) C dL_isRead_121 (by decide) rfl ?_
  refine j_aload_n C 3 dL_isRead_123 rfl rfl ?_
  refine j_callS (As := [.ref (r 0)]) (rest := []) C ys_L_sum qw438 (c_L_sum l hl g r qn qt qv kn kt kv sc ns (va_up (va_up (cpy P0 (fun j => 48 + kn 1 j) tx) P0 46) (P0 + 1) (48 + kn 0 3)) (P0 + 1 + 1) pl hI2.1) (by decide) rfl dL_isRead_124 rfl (Nat.le_of_ble_eq_true rfl) (by decide) pf0 rfl (fun r9 w9 hq9 => ?_)
  obtain ⟨rfl, rfl⟩ := hq9
  refine J.to (L1 := [(5, .int (iI ((kn 0 0) - (10000 * (passF kn))))), (4, .int (iI (kn 0 3))), (2, .int (iI 1)), (0, .ref (r 0)), (3, .int (iI (kn 0 2)))]) (S1 := [.long (lI (sumV kn))]) (ws1 := (wTp g r qn qt qv kn kt kv sc ns (va_up (va_up (cpy P0 (fun j => 48 + kn 1 j) tx) P0 46) (P0 + 1) (48 + kn 0 3)) (P0 + 1 + 1) pl)) rfl rfl rfl ?_
  refine j_lstore (L1 := [(6, .long (lI (sumV kn))), (5, .int (iI ((kn 0 0) - (10000 * (passF kn))))), (4, .int (iI (kn 0 3))), (2, .int (iI 1)), (0, .ref (r 0)), (3, .int (iI (kn 0 2)))]) C dL_isRead_127 (by decide) rfl ?_
  by_cases hhd : kn 0 0 - 10000 * passF kn < 0
  · refine j_aload_n C 4 dL_isRead_129 rfl rfl ?_
    refine j_callV (As := []) (rest := []) C yv_X4_parse qw651 (c_X4_parse_2 l g r qn qt qv kn kt kv sc ns (va_up (va_up (cpy P0 (fun j => 48 + kn 1 j) tx) P0 46) (P0 + 1) (48 + kn 0 3)) (P0 + 1 + 1) pl hI2.1 hfl (by rw [hpq]; omega)) (by decide) 0 rfl rfl rfl dL_isRead_130 rfl (Nat.le_of_ble_eq_true rfl) (by decide) pf0 rfl (fun r9 w9 hq9 => ?_)
    obtain ⟨rfl, kt_1, pl_2, rfl⟩ := hq9
    refine J.to (L1 := [(6, .long (lI (sumV kn))), (5, .int (iI ((kn 0 0) - (10000 * (passF kn))))), (4, .int (iI (kn 0 3))), (2, .int (iI 1)), (0, .ref (r 0)), (3, .int (iI (kn 0 2)))]) (S1 := [.int (iI (-1))]) (ws1 := (wTp g r qn qt qv kn kt_1 kv sc ns (va_up (va_up (cpy P0 (fun j => 48 + kn 1 j) tx) P0 46) (P0 + 1) (48 + kn 0 3)) (P0 + 1 + 1) pl_2)) rfl rfl rfl ?_
    refine j_istore (L1 := [(8, .int (iI (-1))), (6, .long (lI (sumV kn))), (5, .int (iI ((kn 0 0) - (10000 * (passF kn))))), (4, .int (iI (kn 0 3))), (2, .int (iI 1)), (0, .ref (r 0)), (3, .int (iI (kn 0 2)))]) C dL_isRead_133 (by decide) rfl ?_
    refine j_iload C 2 dL_isRead_135 rfl ?_
    refine j_if_ge (tgt := 166) C (by omega) dL_isRead_137 (by decide) (fun c137 => absurd c137 (by omega)) (fun c137 => ?_)
    refine j_iload_n C 4 dL_isRead_140 rfl rfl ?_
    refine j_if_eq (tgt := 164) C (by decide) dL_isRead_141 (by decide) (fun c141 => absurd c141 (by decide)) (fun c141 => ?_)
    refine j_iload C 0 dL_isRead_144 rfl ?_
    refine j_iconst C dL_isRead_146 ?_
    refine j_icmp_ne (tgt := 164) C (by decide) (by decide) dL_isRead_147 (by decide) (fun c147 => absurd c147 (by decide)) (fun c147 => ?_)
    refine j_aload_n C 5 dL_isRead_150 rfl rfl ?_
    refine j_callS (As := [.ref (r 0)]) (rest := []) C ys_L_sum qw438 (c_L_sum l hl g r qn qt qv kn kt_1 kv sc ns (va_up (va_up (cpy P0 (fun j => 48 + kn 1 j) tx) P0 46) (P0 + 1) (48 + kn 0 3)) (P0 + 1 + 1) pl_2 hI2.1) (by decide) rfl dL_isRead_151 rfl (Nat.le_of_ble_eq_true rfl) (by decide) pf0 rfl (fun r9 w9 hq9 => ?_)
    obtain ⟨rfl, rfl⟩ := hq9
    refine J.to (L1 := [(8, .int (iI (-1))), (6, .long (lI (sumV kn))), (5, .int (iI ((kn 0 0) - (10000 * (passF kn))))), (4, .int (iI (kn 0 3))), (2, .int (iI 1)), (0, .ref (r 0)), (3, .int (iI (kn 0 2)))]) (S1 := [.long (lI (sumV kn))]) (ws1 := (wTp g r qn qt qv kn kt_1 kv sc ns (va_up (va_up (cpy P0 (fun j => 48 + kn 1 j) tx) P0 46) (P0 + 1) (48 + kn 0 3)) (P0 + 1 + 1) pl_2)) rfl rfl rfl ?_
    refine j_lload C 1 dL_isRead_154 rfl ?_
    refine j_lsameF (tgt := 164) C (rfl) dL_isRead_156 dL_isRead_157 (by decide) ?_
    refine j_iconst C dL_isRead_160 ?_
    refine j_goto (tgt := 165) C dL_isRead_161 (by decide) ?_
    exact j_zret C hr hlk rfl dL_isRead_165 ⟨rfl, kn, kt_1, kv, sc, ns, (va_up (va_up (cpy P0 (fun j => 48 + kn 1 j) tx) P0 46) (P0 + 1) (48 + kn 0 3)), (P0 + 1 + 1), pl_2, rfl, hI2.le (by omega)⟩ (by decide) (by decide)
  · refine j_aload_n C 4 dL_isRead_129 rfl rfl ?_
    refine j_callV (As := []) (rest := []) C yv_X4_parse qw651 (c_X4_parse_3 l g r qn qt qv kn kt kv sc ns (va_up (va_up (cpy P0 (fun j => 48 + kn 1 j) tx) P0 46) (P0 + 1) (48 + kn 0 3)) (P0 + 1 + 1) pl hI2.1 hfl (by rw [hpq]; omega)) (by decide) 0 rfl rfl rfl dL_isRead_130 rfl (Nat.le_of_ble_eq_true rfl) (by decide) pf0 rfl (fun r9 w9 hq9 => ?_)
    obtain ⟨rfl, kt_3, pl_4, rfl⟩ := hq9
    refine J.to (L1 := [(6, .long (lI (sumV kn))), (5, .int (iI ((kn 0 0) - (10000 * (passF kn))))), (4, .int (iI (kn 0 3))), (2, .int (iI 1)), (0, .ref (r 0)), (3, .int (iI (kn 0 2)))]) (S1 := [.int (iI ((hnd (cpS (prs (va_up (va_up (cpy P0 (fun j => 48 + kn 1 j) tx) P0 46) (P0 + 1) (48 + kn 0 3)) (P0 + 1 + 1) (cpS kn kt)) kn))))]) (ws1 := (wTp g r qn qt qv (cpS (prs (va_up (va_up (cpy P0 (fun j => 48 + kn 1 j) tx) P0 46) (P0 + 1) (48 + kn 0 3)) (P0 + 1 + 1) (cpS kn kt)) kn) kt_3 (svk kn kv ns) (svs sc) (svn ns) (va_up (va_up (cpy P0 (fun j => 48 + kn 1 j) tx) P0 46) (P0 + 1) (48 + kn 0 3)) (P0 + 1 + 1) pl_4)) rfl rfl rfl ?_
    have hI3 : IV (n + 1) (cpS (prs (va_up (va_up (cpy P0 (fun j => 48 + kn 1 j) tx) P0 46) (P0 + 1) (48 + kn 0 3)) (P0 + 1 + 1) (cpS kn kt)) kn) (svk kn kv ns) (svs sc) (svn ns) (va_up (va_up (cpy P0 (fun j => 48 + kn 1 j) tx) P0 46) (P0 + 1) (48 + kn 0 3)) (P0 + 1 + 1) := hI2.prs hfl (by rw [hpq]; omega)
    have hk1 : hnd (cpS (prs (va_up (va_up (cpy P0 (fun j => 48 + kn 1 j) tx) P0 46) (P0 + 1) (48 + kn 0 3)) (P0 + 1 + 1) (cpS kn kt)) kn) = kn 0 0 - 10000 * passF kn := (hnd_cpS (SOK_prs (SOK_cpS hk) hfl)).trans hpq
    have hk2 : (cpS (prs (va_up (va_up (cpy P0 (fun j => 48 + kn 1 j) tx) P0 46) (P0 + 1) (48 + kn 0 3)) (P0 + 1 + 1) (cpS kn kt)) kn) 0 2 = kn 0 2 := by rw [hpr]; exact hP0.symm
    have hk3 : (cpS (prs (va_up (va_up (cpy P0 (fun j => 48 + kn 1 j) tx) P0 46) (P0 + 1) (48 + kn 0 3)) (P0 + 1 + 1) (cpS kn kt)) kn) 0 3 = kn 0 3 := by rw [hpr]; rfl
    have hk4 : ∀ b : Nat, b < 4 → (cpS (prs (va_up (va_up (cpy P0 (fun j => 48 + kn 1 j) tx) P0 46) (P0 + 1) (48 + kn 0 3)) (P0 + 1 + 1) (cpS kn kt)) kn) 4 b = 0 := fun b hb => by rw [hpr]; show cpy 4 (lay0 4 _) _ b = 0; rw [cpy_lt hb]; unfold lay0; exact if_pos hb
    refine J.to (L1 := [(6, .long (lI (sumV kn))), (5, .int (iI ((kn 0 0) - (10000 * (passF kn))))), (4, .int (iI (kn 0 3))), (2, .int (iI 1)), (0, .ref (r 0)), (3, .int (iI (kn 0 2)))]) (S1 := [.int (iI (hnd (cpS (prs (va_up (va_up (cpy P0 (fun j => 48 + kn 1 j) tx) P0 46) (P0 + 1) (48 + kn 0 3)) (P0 + 1 + 1) (cpS kn kt)) kn)))]) (ws1 := (wTp g r qn qt qv (cpS (prs (va_up (va_up (cpy P0 (fun j => 48 + kn 1 j) tx) P0 46) (P0 + 1) (48 + kn 0 3)) (P0 + 1 + 1) (cpS kn kt)) kn) kt_3 (svk kn kv ns) (svs sc) (svn ns) (va_up (va_up (cpy P0 (fun j => 48 + kn 1 j) tx) P0 46) (P0 + 1) (48 + kn 0 3)) (P0 + 1 + 1) pl_4)) rfl rfl rfl ?_
    refine j_istore (L1 := [(8, .int (iI (hnd (cpS (prs (va_up (va_up (cpy P0 (fun j => 48 + kn 1 j) tx) P0 46) (P0 + 1) (48 + kn 0 3)) (P0 + 1 + 1) (cpS kn kt)) kn)))), (6, .long (lI (sumV kn))), (5, .int (iI ((kn 0 0) - (10000 * (passF kn))))), (4, .int (iI (kn 0 3))), (2, .int (iI 1)), (0, .ref (r 0)), (3, .int (iI (kn 0 2)))]) C dL_isRead_133 (by decide) rfl ?_
    refine j_iload C 2 dL_isRead_135 rfl ?_
    refine j_if_ge (tgt := 166) C (by omega) dL_isRead_137 (by decide) (fun c137 => ?_) (fun c137 => absurd c137 (by omega))
    refine j_iload_n C 4 dL_isRead_166 rfl rfl ?_
    refine j_if_eq (tgt := 210) C (by decide) dL_isRead_167 (by decide) (fun c167 => absurd c167 (by decide)) (fun c167 => ?_)
    refine j_iload C 0 dL_isRead_170 rfl ?_
    refine j_iload C 2 dL_isRead_172 rfl ?_
    refine j_isameF C (hk1) dL_isRead_174 (tgt := 210) (by decide) ?_
    refine j_aload_n C 5 dL_isRead_177 rfl rfl ?_
    refine j_iconst C dL_isRead_178 ?_
    refine j_callSW (As := [.ref (r 0), .int (iI 1)]) (rest := []) C yw_L_value qw443 (w_value l g r qn qt qv (cpS (prs (va_up (va_up (cpy P0 (fun j => 48 + kn 1 j) tx) P0 46) (P0 + 1) (48 + kn 0 3)) (P0 + 1 + 1) (cpS kn kt)) kn) kt_3 (svk kn kv ns) (svs sc) (svn ns) (va_up (va_up (cpy P0 (fun j => 48 + kn 1 j) tx) P0 46) (P0 + 1) (48 + kn 0 3)) (P0 + 1 + 1) pl_4 1 hI3.1 (by omega)) (by decide) rfl dL_isRead_179 rfl (Nat.le_of_ble_eq_true rfl) (by decide) pf0 rfl (fun r9 w9 hq9 => ?_)
    obtain ⟨rfl, rfl⟩ := hq9
    refine J.to (L1 := [(8, .int (iI (hnd (cpS (prs (va_up (va_up (cpy P0 (fun j => 48 + kn 1 j) tx) P0 46) (P0 + 1) (48 + kn 0 3)) (P0 + 1 + 1) (cpS kn kt)) kn)))), (6, .long (lI (sumV kn))), (5, .int (iI ((kn 0 0) - (10000 * (passF kn))))), (4, .int (iI (kn 0 3))), (2, .int (iI 1)), (0, .ref (r 0)), (3, .int (iI (kn 0 2)))]) (S1 := [.int (iI (hnd (cpS (prs (va_up (va_up (cpy P0 (fun j => 48 + kn 1 j) tx) P0 46) (P0 + 1) (48 + kn 0 3)) (P0 + 1 + 1) (cpS kn kt)) kn)))]) (ws1 := (wTp g r qn qt qv (cpS (prs (va_up (va_up (cpy P0 (fun j => 48 + kn 1 j) tx) P0 46) (P0 + 1) (48 + kn 0 3)) (P0 + 1 + 1) (cpS kn kt)) kn) kt_3 (svk kn kv ns) (svs sc) (svn ns) (va_up (va_up (cpy P0 (fun j => 48 + kn 1 j) tx) P0 46) (P0 + 1) (48 + kn 0 3)) (P0 + 1 + 1) pl_4)) rfl rfl rfl ?_
    refine j_iload C 2 dL_isRead_182 rfl ?_
    refine j_isameF C (hk1) dL_isRead_184 (tgt := 210) (by decide) ?_
    refine j_aload_n C 5 dL_isRead_187 rfl rfl ?_
    refine j_iconst C dL_isRead_188 ?_
    refine j_callSW (As := [.ref (r 0), .int (iI 3)]) (rest := []) C yw_L_value qw443 (w_value l g r qn qt qv (cpS (prs (va_up (va_up (cpy P0 (fun j => 48 + kn 1 j) tx) P0 46) (P0 + 1) (48 + kn 0 3)) (P0 + 1 + 1) (cpS kn kt)) kn) kt_3 (svk kn kv ns) (svs sc) (svn ns) (va_up (va_up (cpy P0 (fun j => 48 + kn 1 j) tx) P0 46) (P0 + 1) (48 + kn 0 3)) (P0 + 1 + 1) pl_4 3 hI3.1 (by omega)) (by decide) rfl dL_isRead_189 rfl (Nat.le_of_ble_eq_true rfl) (by decide) pf0 rfl (fun r9 w9 hq9 => ?_)
    obtain ⟨rfl, rfl⟩ := hq9
    refine J.to (L1 := [(8, .int (iI (hnd (cpS (prs (va_up (va_up (cpy P0 (fun j => 48 + kn 1 j) tx) P0 46) (P0 + 1) (48 + kn 0 3)) (P0 + 1 + 1) (cpS kn kt)) kn)))), (6, .long (lI (sumV kn))), (5, .int (iI ((kn 0 0) - (10000 * (passF kn))))), (4, .int (iI (kn 0 3))), (2, .int (iI 1)), (0, .ref (r 0)), (3, .int (iI (kn 0 2)))]) (S1 := [.int (iI ((cpS (prs (va_up (va_up (cpy P0 (fun j => 48 + kn 1 j) tx) P0 46) (P0 + 1) (48 + kn 0 3)) (P0 + 1 + 1) (cpS kn kt)) kn) 0 2))]) (ws1 := (wTp g r qn qt qv (cpS (prs (va_up (va_up (cpy P0 (fun j => 48 + kn 1 j) tx) P0 46) (P0 + 1) (48 + kn 0 3)) (P0 + 1 + 1) (cpS kn kt)) kn) kt_3 (svk kn kv ns) (svs sc) (svn ns) (va_up (va_up (cpy P0 (fun j => 48 + kn 1 j) tx) P0 46) (P0 + 1) (48 + kn 0 3)) (P0 + 1 + 1) pl_4)) rfl rfl rfl ?_
    refine j_iload_n C 6 dL_isRead_192 rfl rfl ?_
    refine j_isameF C (hk2) dL_isRead_193 (tgt := 210) (by decide) ?_
    refine j_aload_n C 5 dL_isRead_196 rfl rfl ?_
    refine j_iconst C dL_isRead_197 ?_
    refine j_callSW (As := [.ref (r 0), .int (iI 4)]) (rest := []) C yw_L_value qw443 (w_value l g r qn qt qv (cpS (prs (va_up (va_up (cpy P0 (fun j => 48 + kn 1 j) tx) P0 46) (P0 + 1) (48 + kn 0 3)) (P0 + 1 + 1) (cpS kn kt)) kn) kt_3 (svk kn kv ns) (svs sc) (svn ns) (va_up (va_up (cpy P0 (fun j => 48 + kn 1 j) tx) P0 46) (P0 + 1) (48 + kn 0 3)) (P0 + 1 + 1) pl_4 4 hI3.1 (by omega)) (by decide) rfl dL_isRead_198 rfl (Nat.le_of_ble_eq_true rfl) (by decide) pf0 rfl (fun r9 w9 hq9 => ?_)
    obtain ⟨rfl, rfl⟩ := hq9
    refine J.to (L1 := [(8, .int (iI (hnd (cpS (prs (va_up (va_up (cpy P0 (fun j => 48 + kn 1 j) tx) P0 46) (P0 + 1) (48 + kn 0 3)) (P0 + 1 + 1) (cpS kn kt)) kn)))), (6, .long (lI (sumV kn))), (5, .int (iI ((kn 0 0) - (10000 * (passF kn))))), (4, .int (iI (kn 0 3))), (2, .int (iI 1)), (0, .ref (r 0)), (3, .int (iI (kn 0 2)))]) (S1 := [.int (iI ((cpS (prs (va_up (va_up (cpy P0 (fun j => 48 + kn 1 j) tx) P0 46) (P0 + 1) (48 + kn 0 3)) (P0 + 1 + 1) (cpS kn kt)) kn) 0 3))]) (ws1 := (wTp g r qn qt qv (cpS (prs (va_up (va_up (cpy P0 (fun j => 48 + kn 1 j) tx) P0 46) (P0 + 1) (48 + kn 0 3)) (P0 + 1 + 1) (cpS kn kt)) kn) kt_3 (svk kn kv ns) (svs sc) (svn ns) (va_up (va_up (cpy P0 (fun j => 48 + kn 1 j) tx) P0 46) (P0 + 1) (48 + kn 0 3)) (P0 + 1 + 1) pl_4)) rfl rfl rfl ?_
    refine j_iload C 3 dL_isRead_201 rfl ?_
    refine j_isameF C (hk3) dL_isRead_203 (tgt := 210) (by decide) ?_
    refine j_iconst C dL_isRead_206 ?_
    refine j_goto (tgt := 211) C dL_isRead_207 (by decide) ?_
    refine j_istore_n (L1 := [(2, .int (iI 1)), (8, .int (iI (hnd (cpS (prs (va_up (va_up (cpy P0 (fun j => 48 + kn 1 j) tx) P0 46) (P0 + 1) (48 + kn 0 3)) (P0 + 1 + 1) (cpS kn kt)) kn)))), (6, .long (lI (sumV kn))), (5, .int (iI ((kn 0 0) - (10000 * (passF kn))))), (4, .int (iI (kn 0 3))), (0, .ref (r 0)), (3, .int (iI (kn 0 2)))]) C dL_isRead_211 rfl (by decide) rfl ?_
    refine j_iconst C dL_isRead_212 ?_
    refine j_istore (L1 := [(9, .int (iI 0)), (2, .int (iI 1)), (8, .int (iI (hnd (cpS (prs (va_up (va_up (cpy P0 (fun j => 48 + kn 1 j) tx) P0 46) (P0 + 1) (48 + kn 0 3)) (P0 + 1 + 1) (cpS kn kt)) kn)))), (6, .long (lI (sumV kn))), (5, .int (iI ((kn 0 0) - (10000 * (passF kn))))), (4, .int (iI (kn 0 3))), (0, .ref (r 0)), (3, .int (iI (kn 0 2)))]) C dL_isRead_213 (by decide) rfl ?_
    refine J.sub (L1 := [(0, .ref (r 0)), (2, .int (iI 1)), (6, .long (lI (sumV kn))), (9, .int (iI 0))]) [6, 1, 3, 0] rfl ?_
    refine J.to (L1 := [(0, .ref (r 0)), (2, .int (iI 1)), (6, .long (lI (sumV kn))), (9, .int (iI (((0 : Nat) : Int))))]) (S1 := []) (ws1 := (wTp g r qn qt qv (cpS (prs (va_up (va_up (cpy P0 (fun j => 48 + kn 1 j) tx) P0 46) (P0 + 1) (48 + kn 0 3)) (P0 + 1 + 1) (cpS kn kt)) kn) kt_3 (svk kn kv ns) (svs sc) (svn ns) (va_up (va_up (cpy P0 (fun j => 48 + kn 1 j) tx) P0 46) (P0 + 1) (48 + kn 0 3)) (P0 + 1 + 1) pl_4)) rfl rfl rfl ?_
    refine lp_read2 C hl (K := cpS (prs (va_up (va_up (cpy P0 (fun j => 48 + kn 1 j) tx) P0 46) (P0 + 1) (48 + kn 0 3)) (P0 + 1 + 1) (cpS kn kt)) kn) hI3.1 hk4 ?_ 4 0 rfl
    refine j_iload_n C 1 dL_isRead_247 rfl rfl ?_
    refine j_if_eq (tgt := 272) C (by decide) dL_isRead_248 (by decide) (fun c248 => absurd c248 (by decide)) (fun c248 => ?_)
    refine j_aload_n C 0 dL_isRead_251 rfl rfl ?_
    refine j_callSW (As := [.ref (r 0)]) (rest := []) C yw_L_back qw430 (w_back l g r qn qt qv (cpS (prs (va_up (va_up (cpy P0 (fun j => 48 + kn 1 j) tx) P0 46) (P0 + 1) (48 + kn 0 3)) (P0 + 1 + 1) (cpS kn kt)) kn) kt_3 (svk kn kv ns) (svs sc) (svn ns) (va_up (va_up (cpy P0 (fun j => 48 + kn 1 j) tx) P0 46) (P0 + 1) (48 + kn 0 3)) (P0 + 1 + 1) pl_4 hsv hnv) (by decide) rfl dL_isRead_252 rfl (Nat.le_of_ble_eq_true rfl) (by decide) pf0 rfl (fun r9 w9 hq9 => ?_)
    obtain ⟨rfl, rfl⟩ := hq9
    refine J.to (L1 := [(0, .ref (r 0)), (2, .int (iI 1)), (6, .long (lI (sumV kn)))]) (S1 := [.int (iI (((svs sc) - 1)))]) (ws1 := (wTp g r qn qt qv (cpS ((svk kn kv ns) (((svn ns) + 3) % 4)) (cpS (prs (va_up (va_up (cpy P0 (fun j => 48 + kn 1 j) tx) P0 46) (P0 + 1) (48 + kn 0 3)) (P0 + 1 + 1) (cpS kn kt)) kn)) kt_3 (svk kn kv ns) ((svs sc) - 1) (((svn ns) + 3) % 4) (va_up (va_up (cpy P0 (fun j => 48 + kn 1 j) tx) P0 46) (P0 + 1) (48 + kn 0 3)) (P0 + 1 + 1) pl_4)) rfl rfl rfl ?_
    have hI4 := hI3.undo hsv.1
    refine j_if_lt (tgt := 272) C (by omega) dL_isRead_255 (by decide) (fun c255 => absurd c255 (by omega)) (fun c255 => ?_)
    refine j_aload_n C 0 dL_isRead_258 rfl rfl ?_
    refine j_callS (As := [.ref (r 0)]) (rest := []) C ys_L_sum qw438 (c_L_sum l hl g r qn qt qv (cpS ((svk kn kv ns) (((svn ns) + 3) % 4)) (cpS (prs (va_up (va_up (cpy P0 (fun j => 48 + kn 1 j) tx) P0 46) (P0 + 1) (48 + kn 0 3)) (P0 + 1 + 1) (cpS kn kt)) kn)) kt_3 (svk kn kv ns) ((svs sc) - 1) (((svn ns) + 3) % 4) (va_up (va_up (cpy P0 (fun j => 48 + kn 1 j) tx) P0 46) (P0 + 1) (48 + kn 0 3)) (P0 + 1 + 1) pl_4 hI4.1) (by decide) rfl dL_isRead_259 rfl (Nat.le_of_ble_eq_true rfl) (by decide) pf0 rfl (fun r9 w9 hq9 => ?_)
    obtain ⟨rfl, rfl⟩ := hq9
    refine J.to (L1 := [(0, .ref (r 0)), (2, .int (iI 1)), (6, .long (lI (sumV kn)))]) (S1 := [.long (lI (sumV (cpS ((svk kn kv ns) (((svn ns) + 3) % 4)) (cpS (prs (va_up (va_up (cpy P0 (fun j => 48 + kn 1 j) tx) P0 46) (P0 + 1) (48 + kn 0 3)) (P0 + 1 + 1) (cpS kn kt)) kn))))]) (ws1 := (wTp g r qn qt qv (cpS ((svk kn kv ns) (((svn ns) + 3) % 4)) (cpS (prs (va_up (va_up (cpy P0 (fun j => 48 + kn 1 j) tx) P0 46) (P0 + 1) (48 + kn 0 3)) (P0 + 1 + 1) (cpS kn kt)) kn)) kt_3 (svk kn kv ns) ((svs sc) - 1) (((svn ns) + 3) % 4) (va_up (va_up (cpy P0 (fun j => 48 + kn 1 j) tx) P0 46) (P0 + 1) (48 + kn 0 3)) (P0 + 1 + 1) pl_4)) rfl rfl rfl ?_
    refine j_lload C 2 dL_isRead_262 rfl ?_
    refine j_lsameF (tgt := 272) C ((sv_back (kn := kn) (kv := kv) hns5).sum hI4.1.1.1) dL_isRead_264 dL_isRead_265 (by decide) ?_
    refine j_iconst C dL_isRead_268 ?_
    refine j_goto (tgt := 273) C dL_isRead_269 (by decide) ?_
    exact j_zret C hr hlk rfl dL_isRead_273 ⟨rfl, (cpS ((svk kn kv ns) (((svn ns) + 3) % 4)) (cpS (prs (va_up (va_up (cpy P0 (fun j => 48 + kn 1 j) tx) P0 46) (P0 + 1) (48 + kn 0 3)) (P0 + 1 + 1) (cpS kn kt)) kn)), kt_3, (svk kn kv ns), ((svs sc) - 1), (((svn ns) + 3) % 4), (va_up (va_up (cpy P0 (fun j => 48 + kn 1 j) tx) P0 46) (P0 + 1) (48 + kn 0 3)), (P0 + 1 + 1), pl_4, rfl, hI4⟩ (by decide) (by decide)

