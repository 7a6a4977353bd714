/-! the law's loop -/
set_option maxRecDepth 100000 in
set_option maxHeartbeats 4000000 in
theorem law_step {p : Program} {l : Launch} {e : Env} {s : State} {m : MethodId}  {args : Array Value} {below : List Frame} {meth : Method} {c : Code} {g : Gh} {A : Nat → Prop} {r u : Nat → Nat} {qn qt : Nat → Nat} {qv : Nat → Nat → Nat} {od b0 n0 : Nat} {xs : Nat → Int32} {Q : State → Prop} {n cells slots : Nat} (C : Cx p g s m args c cL_law 9 RL A) (kk : LJ p l e s m args below meth c g A r u qn qt qv od b0 Q 23 (n + 1) (4 * ((n + 1 : Nat) : Int)) cells slots) : LJ p l e s m args below meth c g A r u qn qt qv od b0 Q 1603 (n + 1) (4 * (n : Int)) cells slots := by
  intro kn kt kv sc ns tx tn pl v pa sd rr rq sv ap nw th rm rd hh o hI
  refine j_iinc (L1 := [(4, .int (iI (4 * (n : Int) + 4))), (0, .ref b0), (1, .ref (r 0)), (2, .ref (u 0)), (3, .ref od)]) C 4 dL_law_1603 rfl (by decide) rfl ?_
  refine j_goto (tgt := 23) C dL_law_1606 (by decide) ?_
  refine J.sub (L1 := [(0, .ref b0), (1, .ref (r 0)), (2, .ref (u 0)), (3, .ref od), (4, .int (iI (4 * (n : Int) + 4)))]) [1, 2, 3, 4, 0] rfl ?_
  have e9 : 4 * (n : Int) + 4 = 4 * ((n + 1 : Nat) : Int) := by omega
  rw [e9]
  exact kk kn kt kv sc ns tx tn pl v pa sd rr rq sv ap nw th rm rd hh o hI
set_option maxRecDepth 100000 in
set_option maxHeartbeats 4000000 in
theorem law_loop {p : Program} {l : Launch} {e : Env} {s : State} {m : MethodId}  {args : Array Value} {below : List Frame} {meth : Method} {c : Code} {g : Gh} {A : Nat → Prop} {r u : Nat → Nat} {qn qt : Nat → Nat} {qv : Nat → Nat → Nat} {od b0 n0 : Nat} {xs : Nat → Int32} {Q : State → Prop} {c0 s0 : Nat} (C : Cx p g s m args c cL_law 9 RL A) (hl : l.stackTraces = false) (hX : va_X b0 n0 xs s s.heap) (hbl : b0 < s.heap.size) (hbA : ¬ A b0) (hn0 : n0 ≤ 2048) (hroom : c0 + 512 ≤ room_1.cells ∧ s0 + 3072 ≤ room_1.slots) (kk : ∀ (n : Nat) (x : Int), n ≤ 512 → LJ p l e s m args below meth c g A r u qn qt qv od b0 Q 1609 n x (c0 + n) (s0 + 6 * n)) : ∀ (d n : Nat), n + d = 512 → LJ p l e s m args below meth c g A r u qn qt qv od b0 Q 23 n (4 * (n : Int)) (c0 + n) (s0 + 6 * n) := by
  intro d
  induction d with
  | zero =>
    intro n hn kn kt kv sc ns tx tn pl v pa sd rr rq sv ap nw th rm rd hh o hI
    refine j_iload C 4 dL_law_23 rfl ?_
    refine j_aload_n C 0 dL_law_25 rfl rfl ?_
    refine j_slen C hX hbl hbA dL_law_26 ?_
    refine j_iconst C dL_law_27 ?_
    refine j_isub C dL_law_28 ?_
    exact j_icmp_gt (tgt := 1609) C (by omega) (by omega) dL_law_29 (by decide) (fun _ => kk n _ (by omega) kn kt kv sc ns tx tn pl v pa sd rr rq sv ap nw th rm rd hh o hI) (fun h9 => absurd h9 (by omega))
  | succ d ih =>
    intro n hn kn kt kv sc ns tx tn pl v pa sd rr rq sv ap nw th rm rd hh o hI
    refine j_iload C 4 dL_law_23 rfl ?_
    refine j_aload_n C 0 dL_law_25 rfl rfl ?_
    refine j_slen C hX hbl hbA dL_law_26 ?_
    refine j_iconst C dL_law_27 ?_
    refine j_isub C dL_law_28 ?_
    refine j_icmp_gt (tgt := 1609) C (by omega) (by omega) dL_law_29 (by decide) (fun _ => kk n _ (by omega) kn kt kv sc ns tx tn pl v pa sd rr rq sv ap nw th rm rd hh o hI) (fun h9 => ?_)
    have hc : c0 + n + 1 ≤ room_1.cells ∧ s0 + 6 * n + 6 ≤ room_1.slots := by omega
    have k1 := ih (n + 1) (by omega)
    rw [show c0 + (n + 1) = c0 + n + 1 by omega, show s0 + 6 * (n + 1) = s0 + 6 * n + 6 by omega] at k1
    have ks := law_step (n0 := n0) (xs := xs) C k1
    refine j_aload_n C 0 dL_law_32 rfl rfl ?_
    refine j_iload C 4 dL_law_33 rfl ?_
    refine j_sld C hX hbl hbA (4 * n) (by omega) (by omega) (by omega) (z := (xs (4 * n)).toInt) rfl dL_law_35 ?_
    refine j_bipush C dL_law_36 (by decide) ?_
    refine j_iand C dL_law_38 ?_
    have hw := rngI (iI (xs (4 * n)).toInt &&& iI 31)
    generalize (iI (xs (4 * n)).toInt &&& iI 31).toInt = w at hw ⊢
    rcases (by omega : w = 0 ∨ w = 1 ∨ w = 2 ∨ w = 3 ∨ w = 4 ∨ w = 5 ∨ w = 6 ∨ w = 7 ∨ w = 8 ∨ w = 9 ∨ w = 10 ∨ w = 11 ∨ w = 12 ∨ w = 13 ∨ w = 14 ∨ w = 15 ∨ w = 16 ∨ w = 17 ∨ w = 18 ∨ w = 19 ∨ w = 20 ∨ w = 21 ∨ w = 22 ∨ w = 23 ∨ w = 24 ∨ w = 25 ∨ w = 26 ∨ (w < 0 ∨ 26 < w)) with rfl | rfl | rfl | rfl | rfl | rfl | rfl | rfl | rfl | rfl | rfl | rfl | rfl | rfl | rfl | rfl | rfl | rfl | rfl | rfl | rfl | rfl | rfl | rfl | rfl | rfl | rfl | hd
    · refine j_tswIn (tgt := 160) C (by decide) dL_law_39 (by decide) rfl (by decide) ?_
      exact law_0 C hl hX hbl hbA hn0 (by omega) hc ks kn kt kv sc ns tx tn pl v pa sd rr rq sv ap nw th rm rd hh o hI
    · refine j_tswIn (tgt := 228) C (by decide) dL_law_39 (by decide) rfl (by decide) ?_
      exact law_1 C hl hX hbl hbA hn0 (by omega) hc ks kn kt kv sc ns tx tn pl v pa sd rr rq sv ap nw th rm rd hh o hI
    · refine j_tswIn (tgt := 284) C (by decide) dL_law_39 (by decide) rfl (by decide) ?_
      exact law_2 C hl hX hbl hbA hn0 (by omega) hc ks kn kt kv sc ns tx tn pl v pa sd rr rq sv ap nw th rm rd hh o hI
    · refine j_tswIn (tgt := 340) C (by decide) dL_law_39 (by decide) rfl (by decide) ?_
      exact law_3 C hl hX hbl hbA hn0 (by omega) hc ks kn kt kv sc ns tx tn pl v pa sd rr rq sv ap nw th rm rd hh o hI
    · refine j_tswIn (tgt := 396) C (by decide) dL_law_39 (by decide) rfl (by decide) ?_
      exact law_4 C hl hX hbl hbA hn0 (by omega) hc ks kn kt kv sc ns tx tn pl v pa sd rr rq sv ap nw th rm rd hh o hI
    · refine j_tswIn (tgt := 440) C (by decide) dL_law_39 (by decide) rfl (by decide) ?_
      exact law_5 C hl hX hbl hbA hn0 (by omega) hc ks kn kt kv sc ns tx tn pl v pa sd rr rq sv ap nw th rm rd hh o hI
    · refine j_tswIn (tgt := 496) C (by decide) dL_law_39 (by decide) rfl (by decide) ?_
      exact law_6 C hl hX hbl hbA hn0 (by omega) hc ks kn kt kv sc ns tx tn pl v pa sd rr rq sv ap nw th rm rd hh o hI
    · refine j_tswIn (tgt := 564) C (by decide) dL_law_39 (by decide) rfl (by decide) ?_
      exact law_7 C hl hX hbl hbA hn0 (by omega) hc ks kn kt kv sc ns tx tn pl v pa sd rr rq sv ap nw th rm rd hh o hI
    · refine j_tswIn (tgt := 632) C (by decide) dL_law_39 (by decide) rfl (by decide) ?_
      exact law_8 C hl hX hbl hbA hn0 (by omega) hc ks kn kt kv sc ns tx tn pl v pa sd rr rq sv ap nw th rm rd hh o hI
    · refine j_tswIn (tgt := 700) C (by decide) dL_law_39 (by decide) rfl (by decide) ?_
      exact law_9 C hl hX hbl hbA hn0 (by omega) hc ks kn kt kv sc ns tx tn pl v pa sd rr rq sv ap nw th rm rd hh o hI
    · refine j_tswIn (tgt := 756) C (by decide) dL_law_39 (by decide) rfl (by decide) ?_
      exact law_10 C hl hX hbl hbA hn0 (by omega) hc ks kn kt kv sc ns tx tn pl v pa sd rr rq sv ap nw th rm rd hh o hI
    · refine j_tswIn (tgt := 851) C (by decide) dL_law_39 (by decide) rfl (by decide) ?_
      exact law_11 C hl hX hbl hbA hn0 (by omega) hc ks kn kt kv sc ns tx tn pl v pa sd rr rq sv ap nw th rm rd hh o hI
    · refine j_tswIn (tgt := 946) C (by decide) dL_law_39 (by decide) rfl (by decide) ?_
      exact law_12 C hl hX hbl hbA hn0 (by omega) hc ks kn kt kv sc ns tx tn pl v pa sd rr rq sv ap nw th rm rd hh o hI
    · refine j_tswIn (tgt := 1002) C (by decide) dL_law_39 (by decide) rfl (by decide) ?_
      exact law_13 C hl hX hbl hbA hn0 (by omega) hc ks kn kt kv sc ns tx tn pl v pa sd rr rq sv ap nw th rm rd hh o hI
    · refine j_tswIn (tgt := 1044) C (by decide) dL_law_39 (by decide) rfl (by decide) ?_
      exact law_14 C hl hX hbl hbA hn0 (by omega) hc ks kn kt kv sc ns tx tn pl v pa sd rr rq sv ap nw th rm rd hh o hI
    · refine j_tswIn (tgt := 1112) C (by decide) dL_law_39 (by decide) rfl (by decide) ?_
      exact law_15 C hl hX hbl hbA hn0 (by omega) hc ks kn kt kv sc ns tx tn pl v pa sd rr rq sv ap nw th rm rd hh o hI
    · refine j_tswIn (tgt := 1125) C (by decide) dL_law_39 (by decide) rfl (by decide) ?_
      exact law_16 C hl hX hbl hbA hn0 (by omega) hc ks kn kt kv sc ns tx tn pl v pa sd rr rq sv ap nw th rm rd hh o hI
    · refine j_tswIn (tgt := 1138) C (by decide) dL_law_39 (by decide) rfl (by decide) ?_
      exact law_17 C hl hX hbl hbA hn0 (by omega) hc ks kn kt kv sc ns tx tn pl v pa sd rr rq sv ap nw th rm rd hh o hI
    · refine j_tswIn (tgt := 1206) C (by decide) dL_law_39 (by decide) rfl (by decide) ?_
      exact law_18 C hl hX hbl hbA hn0 (by omega) hc ks kn kt kv sc ns tx tn pl v pa sd rr rq sv ap nw th rm rd hh o hI
    · refine j_tswIn (tgt := 1262) C (by decide) dL_law_39 (by decide) rfl (by decide) ?_
      exact law_19 C hl hX hbl hbA hn0 (by omega) hc ks kn kt kv sc ns tx tn pl v pa sd rr rq sv ap nw th rm rd hh o hI
    · refine j_tswIn (tgt := 1342) C (by decide) dL_law_39 (by decide) rfl (by decide) ?_
      exact law_20 C hl hX hbl hbA hn0 (by omega) hc ks kn kt kv sc ns tx tn pl v pa sd rr rq sv ap nw th rm rd hh o hI
    · refine j_tswIn (tgt := 1422) C (by decide) dL_law_39 (by decide) rfl (by decide) ?_
      exact law_21 C hl hX hbl hbA hn0 (by omega) hc ks kn kt kv sc ns tx tn pl v pa sd rr rq sv ap nw th rm rd hh o hI
    · refine j_tswIn (tgt := 1463) C (by decide) dL_law_39 (by decide) rfl (by decide) ?_
      exact law_22 C hl hX hbl hbA hn0 (by omega) hc ks kn kt kv sc ns tx tn pl v pa sd rr rq sv ap nw th rm rd hh o hI
    · refine j_tswIn (tgt := 1519) C (by decide) dL_law_39 (by decide) rfl (by decide) ?_
      exact law_23 C hl hX hbl hbA hn0 (by omega) hc ks kn kt kv sc ns tx tn pl v pa sd rr rq sv ap nw th rm rd hh o hI
    · refine j_tswIn (tgt := 1532) C (by decide) dL_law_39 (by decide) rfl (by decide) ?_
      exact law_24 C hl hX hbl hbA hn0 (by omega) hc ks kn kt kv sc ns tx tn pl v pa sd rr rq sv ap nw th rm rd hh o hI
    · refine j_tswIn (tgt := 1545) C (by decide) dL_law_39 (by decide) rfl (by decide) ?_
      exact law_25 C hl hX hbl hbA hn0 (by omega) hc ks kn kt kv sc ns tx tn pl v pa sd rr rq sv ap nw th rm rd hh o hI
    · refine j_tswIn (tgt := 1589) C (by decide) dL_law_39 (by decide) rfl (by decide) ?_
      exact law_26 C hl hX hbl hbA hn0 (by omega) hc ks kn kt kv sc ns tx tn pl v pa sd rr rq sv ap nw th rm rd hh o hI
    · refine j_tswOut (tgt := 1603) C hw dL_law_39 hd (by decide) ?_
      exact J.wide (Nat.le_add_right _ 1) (Nat.le_add_right _ 6) (ks kn kt kv sc ns tx tn pl v pa sd rr rq sv ap nw th rm rd hh o hI.next)
