/-! the law: fits -/
theorem als_4 {k : Nat → Nat → Int} (hk : SOK k) : psF (fun j => msf k j) 4 = passF k := by
  have h1 := hk.1
  have h2 := hk.2.1
  have hs := cnt_sum (f := k 1) (n := (k 0 2).toNat) (fun i hi => hk.2.2.2.1 i (by omega))
  rw [psF_4]
  show strn (k 1) (k 0 2).toNat (k 0 3) 0 + strn (k 1) (k 0 2).toNat (k 0 3) 1 + strn (k 1) (k 0 2).toNat (k 0 3) 2 + strn (k 1) (k 0 2).toNat (k 0 3) 3 = _
  unfold strn passF
  rcases (by omega : k 0 3 = 0 ∨ k 0 3 = 1 ∨ k 0 3 = 2 ∨ k 0 3 = 3 ∨ k 0 3 = 4) with e | e | e | e | e
  · rw [e, if_pos rfl, if_neg (by decide), if_neg (by decide), if_neg (by decide), if_neg (by decide)]; omega
  · rw [e, if_neg (by decide), if_pos rfl, if_neg (by decide), if_neg (by decide), if_neg (by decide)]; omega
  · rw [e, if_neg (by decide), if_neg (by decide), if_pos rfl, if_neg (by decide), if_neg (by decide)]; omega
  · rw [e, if_neg (by decide), if_neg (by decide), if_neg (by decide), if_pos rfl, if_neg (by decide)]; omega
  · rw [e, if_neg (by decide), if_neg (by decide), if_neg (by decide), if_neg (by decide), if_pos rfl]; omega
theorem rise_0c {k kt : Nat → Nat → Int} {f v : Int} {b : Nat} (hk : SOK k) (hb : b < 4) (h : msf k b = 0) : (mup f v (cpS k kt)).1 4 b - k 4 b = 0 := by
  have h1 := rise_0 (k := cpS k kt) (f := f) (v := v) (SOK_cpS hk) hb (((KE_cp k kt).st (SOK_cpS hk) (b : Int)).trans h)
  have h2 : cpS k kt 4 b = k 4 b := (KE_cp k kt).2.2.2.2 b hb
  rw [h2] at h1
  exact h1
set_option maxRecDepth 100000 in
set_option maxHeartbeats 4000000 in
theorem lp_fits1 {p : Program} {l : Launch} {e : Env} {s : State} {m : MethodId} {args : Array Value} {below : List Frame} {meth : Method} {c : Code} {A : Nat → Prop} {Q : State → Prop} {g : Gh} {r : Nat → Nat} {qn qt : Nat → Nat} {qv : Nat → Nat → Nat} {kn : Nat → Nat → Int} {kv : Nat → Nat → Nat → Int} {sc : Int} {ns : Nat} {tx : Nat → Int} {tn : Nat} {pl : Int} {kt : Nat → Nat → Int} (C : Cx p g s m args c cL_fits 11 RL A) (hl : l.stackTraces = false) (hT : TOK kn kv sc ns tx tn) {x h4 h5 : Int} {b : Nat} (hb : b < 4) {P0 : Nat} (hP0 : kn 0 2 = (P0 : Int)) (kk : J p l e ({ frames := 10, cells := 0, slots := 0, locals := 204 } : Room) s m args below meth c g A 11 157 [(0, .ref (r 0)), (1, .int (iI x)), (2, .int (iI (kn 0 2))), (3, .int (iI (kn 0 3))), (4, .int (iI h4)), (5, .int (iI h5)), (6, .int (iI 1)), (7, .int (iI ((b : Int)))), (8, .int (iI (cnt (kn 1) (b : Int) P0)))] [] (wTp g r qn qt qv kn kt kv sc ns tx tn pl) 0 0 Q) : ∀ (n i : Nat), i + n = P0 → J p l e ({ frames := 10, cells := 0, slots := 0, locals := 204 } : Room) s m args below meth c g A 11 124 [(0, .ref (r 0)), (1, .int (iI x)), (2, .int (iI (kn 0 2))), (3, .int (iI (kn 0 3))), (4, .int (iI h4)), (5, .int (iI h5)), (6, .int (iI 1)), (7, .int (iI ((b : Int)))), (8, .int (iI (cnt (kn 1) (b : Int) i))), (9, .int (iI ((i : Int))))] [] (wTp g r qn qt qv kn kt kv sc ns tx tn pl) 0 0 Q := by
  intro n
  induction n with
  | zero =>
    intro i hi 
    have hi9 : P0 = i := by omega
    subst hi9
    have hP := hT.1.1.1
    refine j_iload C 9 dL_fits_124 rfl ?_
    refine j_iload_n C 2 dL_fits_126 rfl rfl ?_
    refine j_icmp_ge (tgt := 157) C (by omega) (by omega) dL_fits_127 (by decide) (fun c127 => ?_) (fun c127 => absurd c127 (by omega))
    refine J.sub (L1 := [(0, .ref (r 0)), (1, .int (iI x)), (2, .int (iI (kn 0 2))), (3, .int (iI (kn 0 3))), (4, .int (iI h4)), (5, .int (iI h5)), (6, .int (iI 1)), (7, .int (iI ((b : Int)))), (8, .int (iI (cnt (kn 1) (b : Int) P0)))]) [0, 1, 2, 3, 4, 5, 6, 7, 8] rfl ?_
    exact kk
  | succ n ih =>
    intro i hi 
    obtain ⟨hP, hE, hF, hrow, hwt, hht, hlen, hlat, hkept⟩ := id hT.1.1
    refine j_iload C 9 dL_fits_124 rfl ?_
    refine j_iload_n C 2 dL_fits_126 rfl rfl ?_
    refine j_icmp_ge (tgt := 157) C (by omega) (by omega) dL_fits_127 (by decide) (fun c127 => absurd c127 (by omega)) (fun c127 => ?_)
    refine j_iload C 8 dL_fits_130 rfl ?_
    refine j_aload_n C 0 dL_fits_132 rfl rfl ?_
    refine j_iload C 9 dL_fits_133 rfl ?_
    refine j_callSW (As := [.ref (r 0), .int (iI ((i : Int)))]) (rest := [.int (iI (cnt (kn 1) (b : Int) i))]) C yw_L_pulley qw468 (w_pulley l g r qn qt qv kn kt kv sc ns tx tn pl (i : Int) hT (by omega)) (by decide) rfl dL_fits_135 rfl (Nat.le_of_ble_eq_true rfl) (by decide) pf0 rfl (fun r9 w9 hq9 => ?_)
    obtain ⟨rfl, rfl⟩ := hq9
    refine J.to (L1 := [(0, .ref (r 0)), (1, .int (iI x)), (2, .int (iI (kn 0 2))), (3, .int (iI (kn 0 3))), (4, .int (iI h4)), (5, .int (iI h5)), (6, .int (iI 1)), (7, .int (iI ((b : Int)))), (8, .int (iI (cnt (kn 1) (b : Int) i))), (9, .int (iI ((i : Int))))]) (S1 := [.int (iI (kn 1 i)), .int (iI (cnt (kn 1) (b : Int) i))]) (ws1 := (wTp g r qn qt qv kn kt kv sc ns tx tn pl)) rfl rfl rfl ?_
    have hrw := hrow i (by omega)
    refine j_iload C 7 dL_fits_138 rfl ?_
    refine j_icmp_ne (tgt := 147) C (by omega) (by omega) dL_fits_140 (by decide) (fun c140 => ?_) (fun c140 => ?_)
    · refine j_iconst C dL_fits_147 ?_
      refine j_iadd C dL_fits_148 ?_
      refine J.to (L1 := [(0, .ref (r 0)), (1, .int (iI x)), (2, .int (iI (kn 0 2))), (3, .int (iI (kn 0 3))), (4, .int (iI h4)), (5, .int (iI h5)), (6, .int (iI 1)), (7, .int (iI ((b : Int)))), (8, .int (iI (cnt (kn 1) (b : Int) i))), (9, .int (iI ((i : Int))))]) (S1 := [.int (iI (cnt (kn 1) (b : Int) (i + 1)))]) (ws1 := (wTp g r qn qt qv kn kt kv sc ns tx tn pl)) rfl rfl (congrArg (fun x9 : Int => ([.int (iI x9)] : List Value)) (show ((cnt (kn 1) (b : Int) i) + 0 : Int) = cnt (kn 1) (b : Int) (i + 1) from (by rw [cnt, if_neg c140]))) ?_
      refine j_istore (L1 := [(8, .int (iI (cnt (kn 1) (b : Int) (i + 1)))), (0, .ref (r 0)), (1, .int (iI x)), (2, .int (iI (kn 0 2))), (3, .int (iI (kn 0 3))), (4, .int (iI h4)), (5, .int (iI h5)), (6, .int (iI 1)), (7, .int (iI ((b : Int)))), (9, .int (iI ((i : Int))))]) C dL_fits_149 (by decide) rfl ?_
      refine j_iinc (L1 := [(9, .int (iI (((i : Int)) + 1))), (8, .int (iI (cnt (kn 1) (b : Int) (i + 1)))), (0, .ref (r 0)), (1, .int (iI x)), (2, .int (iI (kn 0 2))), (3, .int (iI (kn 0 3))), (4, .int (iI h4)), (5, .int (iI h5)), (6, .int (iI 1)), (7, .int (iI ((b : Int))))]) C 9 dL_fits_151 rfl (by decide) rfl ?_
      refine j_goto (tgt := 124) C dL_fits_154 (by decide) ?_
      refine J.sub (L1 := [(0, .ref (r 0)), (1, .int (iI x)), (2, .int (iI (kn 0 2))), (3, .int (iI (kn 0 3))), (4, .int (iI h4)), (5, .int (iI h5)), (6, .int (iI 1)), (7, .int (iI ((b : Int)))), (8, .int (iI (cnt (kn 1) (b : Int) (i + 1)))), (9, .int (iI (((i : Int)) + 1)))]) [2, 3, 4, 5, 6, 7, 8, 9, 1, 0] rfl ?_
      exact ih (i + 1) (by omega)
    · refine j_iconst C dL_fits_143 ?_
      refine j_goto (tgt := 148) C dL_fits_144 (by decide) ?_
      refine j_iadd C dL_fits_148 ?_
      refine J.to (L1 := [(0, .ref (r 0)), (1, .int (iI x)), (2, .int (iI (kn 0 2))), (3, .int (iI (kn 0 3))), (4, .int (iI h4)), (5, .int (iI h5)), (6, .int (iI 1)), (7, .int (iI ((b : Int)))), (8, .int (iI (cnt (kn 1) (b : Int) i))), (9, .int (iI ((i : Int))))]) (S1 := [.int (iI (cnt (kn 1) (b : Int) (i + 1)))]) (ws1 := (wTp g r qn qt qv kn kt kv sc ns tx tn pl)) rfl rfl (congrArg (fun x9 : Int => ([.int (iI x9)] : List Value)) (show ((cnt (kn 1) (b : Int) i) + 1 : Int) = cnt (kn 1) (b : Int) (i + 1) from (by rw [cnt, if_pos c140]))) ?_
      refine j_istore (L1 := [(8, .int (iI (cnt (kn 1) (b : Int) (i + 1)))), (0, .ref (r 0)), (1, .int (iI x)), (2, .int (iI (kn 0 2))), (3, .int (iI (kn 0 3))), (4, .int (iI h4)), (5, .int (iI h5)), (6, .int (iI 1)), (7, .int (iI ((b : Int)))), (9, .int (iI ((i : Int))))]) C dL_fits_149 (by decide) rfl ?_
      refine j_iinc (L1 := [(9, .int (iI (((i : Int)) + 1))), (8, .int (iI (cnt (kn 1) (b : Int) (i + 1)))), (0, .ref (r 0)), (1, .int (iI x)), (2, .int (iI (kn 0 2))), (3, .int (iI (kn 0 3))), (4, .int (iI h4)), (5, .int (iI h5)), (6, .int (iI 1)), (7, .int (iI ((b : Int))))]) C 9 dL_fits_151 rfl (by decide) rfl ?_
      refine j_goto (tgt := 124) C dL_fits_154 (by decide) ?_
      refine J.sub (L1 := [(0, .ref (r 0)), (1, .int (iI x)), (2, .int (iI (kn 0 2))), (3, .int (iI (kn 0 3))), (4, .int (iI h4)), (5, .int (iI h5)), (6, .int (iI 1)), (7, .int (iI ((b : Int)))), (8, .int (iI (cnt (kn 1) (b : Int) (i + 1)))), (9, .int (iI (((i : Int)) + 1)))]) [2, 3, 4, 5, 6, 7, 8, 9, 1, 0] rfl ?_
      exact ih (i + 1) (by omega)

set_option maxRecDepth 100000 in
set_option maxHeartbeats 4000000 in
theorem lp_fits2 {p : Program} {l : Launch} {e : Env} {s : State} {m : MethodId} {args : Array Value} {below : List Frame} {meth : Method} {c : Code} {A : Nat → Prop} {Q : State → Prop} {g : Gh} {r : Nat → Nat} {qn qt : Nat → Nat} {qv : Nat → Nat → Nat} {kn : Nat → Nat → Int} {kv : Nat → Nat → Nat → Int} {sc : Int} {ns : Nat} {tx : Nat → Int} {tn : Nat} {pl : Int} (C : Cx p g s m args c cL_fits 11 RL A) (hl : l.stackTraces = false) (hT : TOK kn kv sc ns tx tn) {x : Int} (kk : ∀ (kt : Nat → Nat → Int), J p l e ({ frames := 10, cells := 0, slots := 0, locals := 204 } : Room) s m args below meth c g A 11 313 [(0, .ref (r 0)), (1, .int (iI x)), (2, .int (iI (kn 0 2))), (3, .int (iI (kn 0 3))), (4, .int (iI (hng (kn 1) (kn 0 2).toNat (kn 0 3) (kn 4) 4))), (5, .int (iI (psF (fun j => msf kn j) 4))), (6, .int (iI 1))] [] (wTp g r qn qt qv kn kt kv sc ns tx tn pl) 0 0 Q) : ∀ (n i : Nat), i + n = 4 → ∀ (kt : Nat → Nat → Int), J p l e ({ frames := 10, cells := 0, slots := 0, locals := 204 } : Room) s m args below meth c g A 11 107 [(0, .ref (r 0)), (1, .int (iI x)), (2, .int (iI (kn 0 2))), (3, .int (iI (kn 0 3))), (4, .int (iI (hng (kn 1) (kn 0 2).toNat (kn 0 3) (kn 4) i))), (5, .int (iI (psF (fun j => msf kn j) i))), (6, .int (iI 1)), (7, .int (iI ((i : Int))))] [] (wTp g r qn qt qv kn kt kv sc ns tx tn pl) 0 0 Q := by
  intro n
  induction n with
  | zero =>
    intro i hi kt
    have hi9 : 4 = i := by omega
    subst hi9
    refine j_iload C 7 dL_fits_107 rfl ?_
    refine j_iconst C dL_fits_109 ?_
    refine j_icmp_ge (tgt := 313) C (by omega) (by decide) dL_fits_110 (by decide) (fun c110 => ?_) (fun c110 => absurd c110 (by omega))
    refine J.sub (L1 := [(0, .ref (r 0)), (1, .int (iI x)), (2, .int (iI (kn 0 2))), (3, .int (iI (kn 0 3))), (4, .int (iI (hng (kn 1) (kn 0 2).toNat (kn 0 3) (kn 4) 4))), (5, .int (iI (psF (fun j => msf kn j) 4))), (6, .int (iI 1))]) [0, 1, 2, 3, 4, 5, 6] rfl ?_
    exact kk kt
  | succ n ih =>
    intro i hi kt
    obtain ⟨hP, hE, hF, hrow, hwt, hht, hlen, hlat, hkept⟩ := id hT.1.1
    have hi4 : i < 4 := by omega
    have hk := hT.1.1
    have hhi := hht i hi4
    have hmi : 0 ≤ msf kn i ∧ msf kn i ≤ 21 := mst_rng hk (i : Int)
    refine j_iload C 7 dL_fits_107 rfl ?_
    refine j_iconst C dL_fits_109 ?_
    refine j_icmp_ge (tgt := 313) C (by omega) (by decide) dL_fits_110 (by decide) (fun c110 => absurd c110 (by omega)) (fun c110 => ?_)
    refine j_iload C 6 dL_fits_113 rfl ?_
    refine j_if_eq (tgt := 313) C (by decide) dL_fits_115 (by decide) (fun c115 => absurd c115 (by decide)) (fun c115 => ?_)
    refine j_iconst C dL_fits_118 ?_
    refine j_istore (L1 := [(8, .int (iI 0)), (0, .ref (r 0)), (1, .int (iI x)), (2, .int (iI (kn 0 2))), (3, .int (iI (kn 0 3))), (4, .int (iI (hng (kn 1) (kn 0 2).toNat (kn 0 3) (kn 4) i))), (5, .int (iI (psF (fun j => msf kn j) i))), (6, .int (iI 1)), (7, .int (iI ((i : Int))))]) C dL_fits_119 (by decide) rfl ?_
    refine j_iconst C dL_fits_121 ?_
    refine j_istore (L1 := [(9, .int (iI 0)), (8, .int (iI 0)), (0, .ref (r 0)), (1, .int (iI x)), (2, .int (iI (kn 0 2))), (3, .int (iI (kn 0 3))), (4, .int (iI (hng (kn 1) (kn 0 2).toNat (kn 0 3) (kn 4) i))), (5, .int (iI (psF (fun j => msf kn j) i))), (6, .int (iI 1)), (7, .int (iI ((i : Int))))]) C dL_fits_122 (by decide) rfl ?_
    refine J.sub (L1 := [(0, .ref (r 0)), (1, .int (iI x)), (2, .int (iI (kn 0 2))), (3, .int (iI (kn 0 3))), (4, .int (iI (hng (kn 1) (kn 0 2).toNat (kn 0 3) (kn 4) i))), (5, .int (iI (psF (fun j => msf kn j) i))), (6, .int (iI 1)), (7, .int (iI ((i : Int)))), (8, .int (iI 0)), (9, .int (iI 0))]) [2, 3, 4, 5, 6, 7, 8, 9, 1, 0] rfl ?_
    refine J.to (L1 := [(0, .ref (r 0)), (1, .int (iI x)), (2, .int (iI (kn 0 2))), (3, .int (iI (kn 0 3))), (4, .int (iI (hng (kn 1) (kn 0 2).toNat (kn 0 3) (kn 4) i))), (5, .int (iI (psF (fun j => msf kn j) i))), (6, .int (iI 1)), (7, .int (iI ((i : Int)))), (8, .int (iI (cnt (kn 1) (i : Int) 0))), (9, .int (iI (((0 : Nat) : Int))))]) (S1 := []) (ws1 := (wTp g r qn qt qv kn kt kv sc ns tx tn pl)) rfl rfl rfl ?_
    refine lp_fits1 (b := i) C hl hT hi4 (P0 := (kn 0 2).toNat) (by omega) ?_ (kn 0 2).toNat 0 (by omega)
    refine j_aload_n C 0 dL_fits_157 rfl rfl ?_
    refine j_iload C 7 dL_fits_158 rfl ?_
    refine j_iconst C dL_fits_160 ?_
    refine j_callSW (As := [.ref (r 0), .int (iI ((i : Int))), .int (iI 2)]) (rest := []) C yw_L_block qw456 (w_block l g r qn qt qv kn kt kv sc ns tx tn pl (i : Int) 2 hT (by omega) (by omega)) (by decide) rfl dL_fits_161 rfl (Nat.le_of_ble_eq_true rfl) (by decide) pf0 rfl (fun r9 w9 hq9 => ?_)
    obtain ⟨rfl, rfl⟩ := hq9
    refine J.to (L1 := [(0, .ref (r 0)), (1, .int (iI x)), (2, .int (iI (kn 0 2))), (3, .int (iI (kn 0 3))), (4, .int (iI (hng (kn 1) (kn 0 2).toNat (kn 0 3) (kn 4) i))), (5, .int (iI (psF (fun j => msf kn j) i))), (6, .int (iI 1)), (7, .int (iI ((i : Int)))), (8, .int (iI (cnt (kn 1) (i : Int) (kn 0 2).toNat)))]) (S1 := [.int (iI (msf kn i))]) (ws1 := (wTp g r qn qt qv kn kt kv sc ns tx tn pl)) rfl rfl rfl ?_
    refine j_istore (L1 := [(9, .int (iI (msf kn i))), (0, .ref (r 0)), (1, .int (iI x)), (2, .int (iI (kn 0 2))), (3, .int (iI (kn 0 3))), (4, .int (iI (hng (kn 1) (kn 0 2).toNat (kn 0 3) (kn 4) i))), (5, .int (iI (psF (fun j => msf kn j) i))), (6, .int (iI 1)), (7, .int (iI ((i : Int)))), (8, .int (iI (cnt (kn 1) (i : Int) (kn 0 2).toNat)))]) C dL_fits_164 (by decide) rfl ?_
    refine j_aload_n C 1 dL_fits_166 rfl rfl ?_
    refine j_iload C 8 dL_fits_167 rfl ?_
    refine j_iconst C dL_fits_169 ?_
    refine j_callSW (As := [.ref (r 0), .int (iI ((i : Int))), .int (iI 1)]) (rest := []) C yw_L_block qw456 (w_block l g r qn qt qv kn kt kv sc ns tx tn pl (i : Int) 1 hT (by omega) (by omega)) (by decide) rfl dL_fits_170 rfl (Nat.le_of_ble_eq_true rfl) (by decide) pf0 rfl (fun r9 w9 hq9 => ?_)
    obtain ⟨rfl, rfl⟩ := hq9
    refine J.to (L1 := [(9, .int (iI (msf kn i))), (0, .ref (r 0)), (1, .int (iI x)), (2, .int (iI (kn 0 2))), (3, .int (iI (kn 0 3))), (4, .int (iI (hng (kn 1) (kn 0 2).toNat (kn 0 3) (kn 4) i))), (5, .int (iI (psF (fun j => msf kn j) i))), (6, .int (iI 1)), (7, .int (iI ((i : Int)))), (8, .int (iI (cnt (kn 1) (i : Int) (kn 0 2).toNat)))]) (S1 := [.int (iI (kn 4 i))]) (ws1 := (wTp g r qn qt qv kn kt kv sc ns tx tn pl)) rfl rfl rfl ?_
    refine j_istore (L1 := [(10, .int (iI (kn 4 i))), (9, .int (iI (msf kn i))), (0, .ref (r 0)), (1, .int (iI x)), (2, .int (iI (kn 0 2))), (3, .int (iI (kn 0 3))), (4, .int (iI (hng (kn 1) (kn 0 2).toNat (kn 0 3) (kn 4) i))), (5, .int (iI (psF (fun j => msf kn j) i))), (6, .int (iI 1)), (7, .int (iI ((i : Int)))), (8, .int (iI (cnt (kn 1) (i : Int) (kn 0 2).toNat)))]) C dL_fits_173 (by decide) rfl ?_
    refine j_aload_n C 2 dL_fits_175 rfl rfl ?_
    refine j_iload C 9 dL_fits_176 rfl ?_
    refine j_iconst C dL_fits_178 ?_
    refine j_callSW (As := [.ref (r 0), .int (iI ((i : Int))), .int (iI 3)]) (rest := []) C yw_L_block qw456 (w_block l g r qn qt qv kn kt kv sc ns tx tn pl (i : Int) 3 hT (by omega) (by omega)) (by decide) rfl dL_fits_179 rfl (Nat.le_of_ble_eq_true rfl) (by decide) pf0 rfl (fun r9 w9 hq9 => ?_)
    obtain ⟨rfl, rfl⟩ := hq9
    refine J.to (L1 := [(10, .int (iI (kn 4 i))), (9, .int (iI (msf kn i))), (0, .ref (r 0)), (1, .int (iI x)), (2, .int (iI (kn 0 2))), (3, .int (iI (kn 0 3))), (4, .int (iI (hng (kn 1) (kn 0 2).toNat (kn 0 3) (kn 4) i))), (5, .int (iI (psF (fun j => msf kn j) i))), (6, .int (iI 1)), (7, .int (iI ((i : Int)))), (8, .int (iI (cnt (kn 1) (i : Int) (kn 0 2).toNat)))]) (S1 := [.int (iI (cnt (kn 1) ((i : Nat) : Int) (kn 0 2).toNat))]) (ws1 := (wTp g r qn qt qv kn kt kv sc ns tx tn pl)) rfl rfl rfl ?_
    refine j_iload C 10 dL_fits_182 rfl ?_
    refine j_isameF C (rfl) dL_fits_184 (tgt := 283) (by decide) ?_
    refine j_iload C 1 dL_fits_187 rfl ?_
    refine j_iconst C dL_fits_189 ?_
    refine j_iload C 10 dL_fits_190 rfl ?_
    refine j_imul C dL_fits_192 ?_
    refine j_iload_n C 5 dL_fits_193 rfl rfl ?_
    refine j_iload C 9 dL_fits_194 rfl ?_
    have kj208_0 : J p l e ({ frames := 10, cells := 0, slots := 0, locals := 204 } : Room) s m args below meth c g A 11 208 [(10, .int (iI (kn 4 i))), (9, .int (iI (msf kn i))), (0, .ref (r 0)), (1, .int (iI x)), (2, .int (iI (kn 0 2))), (3, .int (iI (kn 0 3))), (4, .int (iI (hng (kn 1) (kn 0 2).toNat (kn 0 3) (kn 4) i))), (5, .int (iI (psF (fun j => msf kn j) i))), (6, .int (iI 1)), (7, .int (iI ((i : Int)))), (8, .int (iI (cnt (kn 1) (i : Int) (kn 0 2).toNat)))] [] (wTp g r qn qt qv kn kt kv sc ns tx tn pl) 0 0 Q := by
      refine j_iload C 0 dL_fits_208 rfl ?_
      refine j_if_lt (tgt := 283) C (by omega) dL_fits_210 (by decide) (fun c210 => absurd c210 (by omega)) (fun c210 => ?_)
      refine j_iload C 0 dL_fits_213 rfl ?_
      refine j_sipush C dL_fits_215 (by decide) ?_
      refine j_icmp_gt (tgt := 283) C (by omega) (by decide) dL_fits_218 (by decide) (fun c218 => absurd c218 (by omega)) (fun c218 => ?_)
      refine j_aload_n C 2 dL_fits_221 rfl rfl ?_
      refine j_iload C 9 dL_fits_222 rfl ?_
      refine j_bipush C dL_fits_224 (by decide) ?_
      refine j_callSW (As := [.ref (r 0), .int (iI ((i : Int))), .int (iI 6)]) (rest := []) C yw_L_block qw456 (w_block l g r qn qt qv kn kt kv sc ns tx tn pl (i : Int) 6 hT (by omega) (by omega)) (by decide) rfl dL_fits_226 rfl (Nat.le_of_ble_eq_true rfl) (by decide) pf0 rfl (fun r9 w9 hq9 => ?_)
      obtain ⟨rfl, rfl⟩ := hq9
      refine J.to (L1 := [(10, .int (iI (kn 4 i))), (9, .int (iI (msf kn i))), (0, .ref (r 0)), (1, .int (iI x)), (2, .int (iI (kn 0 2))), (3, .int (iI (kn 0 3))), (4, .int (iI (hng (kn 1) (kn 0 2).toNat (kn 0 3) (kn 4) i))), (5, .int (iI (psF (fun j => msf kn j) i))), (6, .int (iI 1)), (7, .int (iI ((i : Int)))), (8, .int (iI (cnt (kn 1) (i : Int) (kn 0 2).toNat)))]) (S1 := [.int (iI (msf kn i * (9000 - kn 4 i)))]) (ws1 := (wTp g r qn qt qv kn kt kv sc ns tx tn pl)) rfl rfl rfl ?_
      refine j_iload C 1 dL_fits_229 rfl ?_
      refine j_sipush C dL_fits_231 (by decide) ?_
      refine j_iload C 0 dL_fits_234 rfl ?_
      refine j_isub C dL_fits_236 ?_
      refine j_imul C dL_fits_237 ?_
      refine j_isameF C (rfl) dL_fits_238 (tgt := 283) (by decide) ?_
      refine j_aload_n C 2 dL_fits_241 rfl rfl ?_
      refine j_iload C 9 dL_fits_242 rfl ?_
      refine j_iconst C dL_fits_244 ?_
      refine j_callS (As := [.ref (r 0), .int (iI ((i : Int))), .int (iI 1)]) (rest := []) C ys_L_areLeast qw610 (c_L_areLeast_t l hl g r qn qt qv kn kt kv sc ns tx tn pl hT i (by omega)) (by decide) rfl dL_fits_245 rfl (Nat.le_of_ble_eq_true rfl) (by decide) pf0 rfl (fun r9 w9 hq9 => ?_)
      obtain ⟨rfl, rfl⟩ := hq9
      refine J.to (L1 := [(10, .int (iI (kn 4 i))), (9, .int (iI (msf kn i))), (0, .ref (r 0)), (1, .int (iI x)), (2, .int (iI (kn 0 2))), (3, .int (iI (kn 0 3))), (4, .int (iI (hng (kn 1) (kn 0 2).toNat (kn 0 3) (kn 4) i))), (5, .int (iI (psF (fun j => msf kn j) i))), (6, .int (iI 1)), (7, .int (iI ((i : Int)))), (8, .int (iI (cnt (kn 1) (i : Int) (kn 0 2).toNat)))]) (S1 := [.int (iI 1)]) (ws1 := (wTp g r qn qt qv kn kt kv sc ns tx tn pl)) rfl rfl rfl ?_
      refine j_if_eq (tgt := 283) C (by decide) dL_fits_248 (by decide) (fun c248 => absurd c248 (by decide)) (fun c248 => ?_)
      refine j_aload_n C 2 dL_fits_251 rfl rfl ?_
      refine j_iload C 9 dL_fits_252 rfl ?_
      refine j_iconst C dL_fits_254 ?_
      refine j_callS (As := [.ref (r 0), .int (iI ((i : Int))), .int (iI 0)]) (rest := []) C ys_L_areLeast qw610 (c_L_areLeast_f l hl g r qn qt qv kn kt kv sc ns tx tn pl hT i (by omega)) (by decide) rfl dL_fits_255 rfl (Nat.le_of_ble_eq_true rfl) (by decide) pf0 rfl (fun r9 w9 hq9 => ?_)
      obtain ⟨rfl, rfl⟩ := hq9
      refine J.to (L1 := [(10, .int (iI (kn 4 i))), (9, .int (iI (msf kn i))), (0, .ref (r 0)), (1, .int (iI x)), (2, .int (iI (kn 0 2))), (3, .int (iI (kn 0 3))), (4, .int (iI (hng (kn 1) (kn 0 2).toNat (kn 0 3) (kn 4) i))), (5, .int (iI (psF (fun j => msf kn j) i))), (6, .int (iI 1)), (7, .int (iI ((i : Int)))), (8, .int (iI (cnt (kn 1) (i : Int) (kn 0 2).toNat)))]) (S1 := [.int (iI 1)]) (ws1 := (wTp g r qn qt qv kn kt kv sc ns tx tn pl)) rfl rfl rfl ?_
      refine j_if_eq (tgt := 283) C (by decide) dL_fits_258 (by decide) (fun c258 => absurd c258 (by decide)) (fun c258 => ?_)
      refine j_iload C 1 dL_fits_261 rfl ?_
      refine j_if_gt (tgt := 279) C (by omega) dL_fits_263 (by decide) (fun c263 => ?_) (fun c263 => ?_)
      · refine j_iconst C dL_fits_279 ?_
        refine j_goto (tgt := 284) C dL_fits_280 (by decide) ?_
        refine j_istore (L1 := [(6, .int (iI 1)), (10, .int (iI (kn 4 i))), (9, .int (iI (msf kn i))), (0, .ref (r 0)), (1, .int (iI x)), (2, .int (iI (kn 0 2))), (3, .int (iI (kn 0 3))), (4, .int (iI (hng (kn 1) (kn 0 2).toNat (kn 0 3) (kn 4) i))), (5, .int (iI (psF (fun j => msf kn j) i))), (7, .int (iI ((i : Int)))), (8, .int (iI (cnt (kn 1) (i : Int) (kn 0 2).toNat)))]) C dL_fits_284 (by decide) rfl ?_
        refine j_iload C 7 dL_fits_286 rfl ?_
        refine j_iload C 2 dL_fits_288 rfl ?_
        refine j_sipush C dL_fits_290 (by decide) ?_
        refine j_iload C 1 dL_fits_293 rfl ?_
        refine j_isub C dL_fits_295 ?_
        refine j_imul C dL_fits_296 ?_
        refine j_iadd C dL_fits_297 ?_
        refine j_istore (L1 := [(4, .int (iI ((hng (kn 1) (kn 0 2).toNat (kn 0 3) (kn 4) i) + ((msf kn i) * (10000 - (kn 4 i)))))), (6, .int (iI 1)), (10, .int (iI (kn 4 i))), (9, .int (iI (msf kn i))), (0, .ref (r 0)), (1, .int (iI x)), (2, .int (iI (kn 0 2))), (3, .int (iI (kn 0 3))), (5, .int (iI (psF (fun j => msf kn j) i))), (7, .int (iI ((i : Int)))), (8, .int (iI (cnt (kn 1) (i : Int) (kn 0 2).toNat)))]) C dL_fits_298 (by decide) rfl ?_
        refine j_iload C 8 dL_fits_300 rfl ?_
        refine j_iload C 3 dL_fits_302 rfl ?_
        refine j_iadd C dL_fits_304 ?_
        refine j_istore (L1 := [(5, .int (iI ((psF (fun j => msf kn j) i) + (msf kn i)))), (4, .int (iI ((hng (kn 1) (kn 0 2).toNat (kn 0 3) (kn 4) i) + ((msf kn i) * (10000 - (kn 4 i)))))), (6, .int (iI 1)), (10, .int (iI (kn 4 i))), (9, .int (iI (msf kn i))), (0, .ref (r 0)), (1, .int (iI x)), (2, .int (iI (kn 0 2))), (3, .int (iI (kn 0 3))), (7, .int (iI ((i : Int)))), (8, .int (iI (cnt (kn 1) (i : Int) (kn 0 2).toNat)))]) C dL_fits_305 (by decide) rfl ?_
        refine j_iinc (L1 := [(7, .int (iI (((i : Int)) + 1))), (5, .int (iI ((psF (fun j => msf kn j) i) + (msf kn i)))), (4, .int (iI ((hng (kn 1) (kn 0 2).toNat (kn 0 3) (kn 4) i) + ((msf kn i) * (10000 - (kn 4 i)))))), (6, .int (iI 1)), (10, .int (iI (kn 4 i))), (9, .int (iI (msf kn i))), (0, .ref (r 0)), (1, .int (iI x)), (2, .int (iI (kn 0 2))), (3, .int (iI (kn 0 3))), (8, .int (iI (cnt (kn 1) (i : Int) (kn 0 2).toNat)))]) C 9 dL_fits_307 rfl (by decide) rfl ?_
        refine j_goto (tgt := 107) C dL_fits_310 (by decide) ?_
        refine J.sub (L1 := [(0, .ref (r 0)), (1, .int (iI x)), (2, .int (iI (kn 0 2))), (3, .int (iI (kn 0 3))), (4, .int (iI ((hng (kn 1) (kn 0 2).toNat (kn 0 3) (kn 4) i) + ((msf kn i) * (10000 - (kn 4 i)))))), (5, .int (iI ((psF (fun j => msf kn j) i) + (msf kn i)))), (6, .int (iI 1)), (7, .int (iI (((i : Int)) + 1)))]) [6, 7, 8, 9, 2, 1, 3, 0] rfl ?_
        exact ih (i + 1) (by omega) kt
      · refine j_aload_n C 2 dL_fits_266 rfl rfl ?_
        refine j_iload C 9 dL_fits_267 rfl ?_
        refine j_ldc (x := 1000000) C qw613 (by decide) dL_fits_269 ?_
        refine j_ldc (x := 100000) C qw622 (by decide) dL_fits_271 ?_
        refine j_callSW (As := [.ref (r 0), .int (iI ((i : Int))), .int (iI 1000000), .int (iI 100000)]) (rest := []) C yw_L_rise qw548 (w_rise l g r qn qt qv kn kt kv sc ns tx tn pl (i : Int) 1000000 100000 hT (by omega) (by omega) (by omega)) (by decide) rfl dL_fits_273 rfl (Nat.le_of_ble_eq_true rfl) (by decide) pf0 rfl (fun r9 w9 hq9 => ?_)
        obtain ⟨rfl, kt_2, rfl⟩ := hq9
        refine J.to (L1 := [(10, .int (iI (kn 4 i))), (9, .int (iI (msf kn i))), (0, .ref (r 0)), (1, .int (iI x)), (2, .int (iI (kn 0 2))), (3, .int (iI (kn 0 3))), (4, .int (iI (hng (kn 1) (kn 0 2).toNat (kn 0 3) (kn 4) i))), (5, .int (iI (psF (fun j => msf kn j) i))), (6, .int (iI 1)), (7, .int (iI ((i : Int)))), (8, .int (iI (cnt (kn 1) (i : Int) (kn 0 2).toNat)))]) (S1 := [.int (iI ((mup 1000000 100000 (cpS kn kt)).1 4 i - kn 4 i))]) (ws1 := (wTp g r qn qt qv kn kt_2 kv sc ns tx tn pl)) rfl rfl rfl ?_
        refine J.to (L1 := [(10, .int (iI (kn 4 i))), (9, .int (iI (msf kn i))), (0, .ref (r 0)), (1, .int (iI x)), (2, .int (iI (kn 0 2))), (3, .int (iI (kn 0 3))), (4, .int (iI (hng (kn 1) (kn 0 2).toNat (kn 0 3) (kn 4) i))), (5, .int (iI (psF (fun j => msf kn j) i))), (6, .int (iI 1)), (7, .int (iI ((i : Int)))), (8, .int (iI (cnt (kn 1) (i : Int) (kn 0 2).toNat)))]) (S1 := [.int (iI 0)]) (ws1 := (wTp g r qn qt qv kn kt_2 kv sc ns tx tn pl)) rfl rfl (congrArg (fun x9 : Int => ([.int (iI x9)] : List Value)) (show ((mup 1000000 100000 (cpS kn kt)).1 4 i - kn 4 i : Int) = 0 from (rise_0c hk hi4 (by omega)))) ?_
        refine j_if_ne (tgt := 283) C (by decide) dL_fits_276 (by decide) (fun c276 => absurd c276 (by decide)) (fun c276 => ?_)
        refine j_iconst C dL_fits_279 ?_
        refine j_goto (tgt := 284) C dL_fits_280 (by decide) ?_
        refine j_istore (L1 := [(6, .int (iI 1)), (10, .int (iI (kn 4 i))), (9, .int (iI (msf kn i))), (0, .ref (r 0)), (1, .int (iI x)), (2, .int (iI (kn 0 2))), (3, .int (iI (kn 0 3))), (4, .int (iI (hng (kn 1) (kn 0 2).toNat (kn 0 3) (kn 4) i))), (5, .int (iI (psF (fun j => msf kn j) i))), (7, .int (iI ((i : Int)))), (8, .int (iI (cnt (kn 1) (i : Int) (kn 0 2).toNat)))]) C dL_fits_284 (by decide) rfl ?_
        refine j_iload C 7 dL_fits_286 rfl ?_
        refine j_iload C 2 dL_fits_288 rfl ?_
        refine j_sipush C dL_fits_290 (by decide) ?_
        refine j_iload C 1 dL_fits_293 rfl ?_
        refine j_isub C dL_fits_295 ?_
        refine j_imul C dL_fits_296 ?_
        refine j_iadd C dL_fits_297 ?_
        refine j_istore (L1 := [(4, .int (iI ((hng (kn 1) (kn 0 2).toNat (kn 0 3) (kn 4) i) + ((msf kn i) * (10000 - (kn 4 i)))))), (6, .int (iI 1)), (10, .int (iI (kn 4 i))), (9, .int (iI (msf kn i))), (0, .ref (r 0)), (1, .int (iI x)), (2, .int (iI (kn 0 2))), (3, .int (iI (kn 0 3))), (5, .int (iI (psF (fun j => msf kn j) i))), (7, .int (iI ((i : Int)))), (8, .int (iI (cnt (kn 1) (i : Int) (kn 0 2).toNat)))]) C dL_fits_298 (by decide) rfl ?_
        refine j_iload C 8 dL_fits_300 rfl ?_
        refine j_iload C 3 dL_fits_302 rfl ?_
        refine j_iadd C dL_fits_304 ?_
        refine j_istore (L1 := [(5, .int (iI ((psF (fun j => msf kn j) i) + (msf kn i)))), (4, .int (iI ((hng (kn 1) (kn 0 2).toNat (kn 0 3) (kn 4) i) + ((msf kn i) * (10000 - (kn 4 i)))))), (6, .int (iI 1)), (10, .int (iI (kn 4 i))), (9, .int (iI (msf kn i))), (0, .ref (r 0)), (1, .int (iI x)), (2, .int (iI (kn 0 2))), (3, .int (iI (kn 0 3))), (7, .int (iI ((i : Int)))), (8, .int (iI (cnt (kn 1) (i : Int) (kn 0 2).toNat)))]) C dL_fits_305 (by decide) rfl ?_
        refine j_iinc (L1 := [(7, .int (iI (((i : Int)) + 1))), (5, .int (iI ((psF (fun j => msf kn j) i) + (msf kn i)))), (4, .int (iI ((hng (kn 1) (kn 0 2).toNat (kn 0 3) (kn 4) i) + ((msf kn i) * (10000 - (kn 4 i)))))), (6, .int (iI 1)), (10, .int (iI (kn 4 i))), (9, .int (iI (msf kn i))), (0, .ref (r 0)), (1, .int (iI x)), (2, .int (iI (kn 0 2))), (3, .int (iI (kn 0 3))), (8, .int (iI (cnt (kn 1) (i : Int) (kn 0 2).toNat)))]) C 9 dL_fits_307 rfl (by decide) rfl ?_
        refine j_goto (tgt := 107) C dL_fits_310 (by decide) ?_
        refine J.sub (L1 := [(0, .ref (r 0)), (1, .int (iI x)), (2, .int (iI (kn 0 2))), (3, .int (iI (kn 0 3))), (4, .int (iI ((hng (kn 1) (kn 0 2).toNat (kn 0 3) (kn 4) i) + ((msf kn i) * (10000 - (kn 4 i)))))), (5, .int (iI ((psF (fun j => msf kn j) i) + (msf kn i)))), (6, .int (iI 1)), (7, .int (iI (((i : Int)) + 1)))]) [6, 7, 8, 9, 2, 1, 3, 0] rfl ?_
        exact ih (i + 1) (by omega) kt_2
    refine j_icmp_ne (tgt := 203) C (by omega) (by omega) dL_fits_196 (by decide) (fun c196 => ?_) (fun c196 => ?_)
    · refine j_iconst C dL_fits_203 ?_
      refine j_iadd C dL_fits_204 ?_
      refine j_isameF C ((by show strn (kn 1) (kn 0 2).toNat (kn 0 3) (i : Int) = _; unfold strn; rw [if_neg c196])) dL_fits_205 (tgt := 283) (by decide) ?_
      refine J.sub (L1 := [(10, .int (iI (kn 4 i))), (9, .int (iI (msf kn i))), (0, .ref (r 0)), (1, .int (iI x)), (2, .int (iI (kn 0 2))), (3, .int (iI (kn 0 3))), (4, .int (iI (hng (kn 1) (kn 0 2).toNat (kn 0 3) (kn 4) i))), (5, .int (iI (psF (fun j => msf kn j) i))), (6, .int (iI 1)), (7, .int (iI ((i : Int)))), (8, .int (iI (cnt (kn 1) (i : Int) (kn 0 2).toNat)))]) [0, 1, 2, 3, 4, 5, 6, 7, 8, 9, 10] rfl ?_
      exact kj208_0
    · refine j_iconst C dL_fits_199 ?_
      refine j_goto (tgt := 204) C dL_fits_200 (by decide) ?_
      refine j_iadd C dL_fits_204 ?_
      refine j_isameF C ((by show strn (kn 1) (kn 0 2).toNat (kn 0 3) (i : Int) = _; unfold strn; rw [if_pos c196])) dL_fits_205 (tgt := 283) (by decide) ?_
      refine J.sub (L1 := [(10, .int (iI (kn 4 i))), (9, .int (iI (msf kn i))), (0, .ref (r 0)), (1, .int (iI x)), (2, .int (iI (kn 0 2))), (3, .int (iI (kn 0 3))), (4, .int (iI (hng (kn 1) (kn 0 2).toNat (kn 0 3) (kn 4) i))), (5, .int (iI (psF (fun j => msf kn j) i))), (6, .int (iI 1)), (7, .int (iI ((i : Int)))), (8, .int (iI (cnt (kn 1) (i : Int) (kn 0 2).toNat)))]) [0, 1, 2, 3, 4, 5, 6, 7, 8, 9, 10] rfl ?_
      exact kj208_0

set_option maxRecDepth 100000 in
set_option maxHeartbeats 4000000 in
theorem c_L_fits (l : Launch) (hl : l.stackTraces = false) (g : Gh) (r : Nat → Nat) (qn qt : Nat → Nat) (qv : Nat → Nat → Nat) (kn kt : Nat → Nat → Int) (kv : Nat → Nat → Nat → Int) (sc : Int) (ns : Nat) (tx : Nat → Int) (tn : Nat) (pl : Int) (hT : TOK kn kv sc ns tx tn) (hw7 : 0 ≤ kn 0 7 ∧ kn 0 7 ≤ 1000000000000000) (x : Int) (hx : -2147483648 ≤ x ∧ x < 2147483648) : CT l g yL_fits cL_fits 11 (some FieldType.boolean) ({ frames := 10, cells := 0, slots := 0, locals := 204 }) [.ref (r 0), .int (iI x)] (wTp g r qn qt qv kn kt kv sc ns tx tn pl) (fun r9 w9 => r9 = some (.int (iI 1)) ∧ ∃ kt9 : Nat → Nat → Int, w9 = wTp g r qn qt qv kn kt9 kv sc ns tx tn pl) := by
  refine CT.intro (L0 := [(0, .ref (r 0)), (1, .int (iI x))]) (own := RL) (by decide) rfl (Nat.le_of_ble_eq_true rfl) rfl ?_
  intro pX eX sX mX argsX belowX methX cX A C hr hlk
  obtain ⟨hP, hE, hF, hrow, hwt, hht, hlen, hlat, hkept⟩ := id hT.1.1
  have hk := hT.1.1
  have hh0 := hT.1.2
  have hhl := hnd_le hk
  have hpf := passF_r hk
  refine j_aload_n C 0 dL_fits_0 rfl rfl ?_
  refine j_iconst C dL_fits_1 ?_
  refine j_callSW (As := [.ref (r 0), .int (iI 3)]) (rest := []) C yw_L_value qw443 (w_value l g r qn qt qv kn kt kv sc ns tx tn pl 3 hT (by omega)) (by decide) rfl dL_fits_2 rfl (Nat.le_of_ble_eq_true rfl) (by decide) pf0 rfl (fun r9 w9 hq9 => ?_)
  obtain ⟨rfl, rfl⟩ := hq9
  refine J.to (L1 := [(0, .ref (r 0)), (1, .int (iI x))]) (S1 := [.int (iI (kn 0 2))]) (ws1 := (wTp g r qn qt qv kn kt kv sc ns tx tn pl)) rfl rfl rfl ?_
  refine j_istore_n (L1 := [(2, .int (iI (kn 0 2))), (0, .ref (r 0)), (1, .int (iI x))]) C dL_fits_5 rfl (by decide) rfl ?_
  refine j_aload_n C 1 dL_fits_6 rfl rfl ?_
  refine j_iconst C dL_fits_7 ?_
  refine j_callSW (As := [.ref (r 0), .int (iI 4)]) (rest := []) C yw_L_value qw443 (w_value l g r qn qt qv kn kt kv sc ns tx tn pl 4 hT (by omega)) (by decide) rfl dL_fits_8 rfl (Nat.le_of_ble_eq_true rfl) (by decide) pf0 rfl (fun r9 w9 hq9 => ?_)
  obtain ⟨rfl, rfl⟩ := hq9
  refine J.to (L1 := [(2, .int (iI (kn 0 2))), (0, .ref (r 0)), (1, .int (iI x))]) (S1 := [.int (iI (kn 0 3))]) (ws1 := (wTp g r qn qt qv kn kt kv sc ns tx tn pl)) rfl rfl rfl ?_
  refine j_istore_n (L1 := [(3, .int (iI (kn 0 3))), (2, .int (iI (kn 0 2))), (0, .ref (r 0)), (1, .int (iI x))]) C dL_fits_11 rfl (by decide) rfl ?_
  refine j_iconst C dL_fits_12 ?_
  refine j_istore (L1 := [(4, .int (iI 0)), (3, .int (iI (kn 0 3))), (2, .int (iI (kn 0 2))), (0, .ref (r 0)), (1, .int (iI x))]) C dL_fits_13 (by decide) rfl ?_
  refine j_iconst C dL_fits_15 ?_
  refine j_istore (L1 := [(5, .int (iI 0)), (4, .int (iI 0)), (3, .int (iI (kn 0 3))), (2, .int (iI (kn 0 2))), (0, .ref (r 0)), (1, .int (iI x))]) C dL_fits_16 (by decide) rfl ?_
  refine j_iload_n C 3 dL_fits_18 rfl rfl ?_
  refine j_if_lt (tgt := 101) C (by omega) dL_fits_19 (by decide) (fun c19 => absurd c19 (by omega)) (fun c19 => ?_)
  refine j_iload_n C 3 dL_fits_22 rfl rfl ?_
  refine j_bipush C dL_fits_23 (by decide) ?_
  refine j_icmp_ge (tgt := 101) C (by omega) (by decide) dL_fits_25 (by decide) (fun c25 => absurd c25 (by omega)) (fun c25 => ?_)
  refine j_iload_n C 2 dL_fits_28 rfl rfl ?_
  refine j_if_lt (tgt := 101) C (by omega) dL_fits_29 (by decide) (fun c29 => absurd c29 (by omega)) (fun c29 => ?_)
  refine j_iload_n C 2 dL_fits_32 rfl rfl ?_
  refine j_iconst C dL_fits_33 ?_
  refine j_icmp_ge (tgt := 101) C (by omega) (by decide) dL_fits_34 (by decide) (fun c34 => absurd c34 (by omega)) (fun c34 => ?_)
  refine j_aload_n C 4 dL_fits_37 rfl rfl ?_
  refine j_iconst C dL_fits_38 ?_
  refine j_callSW (As := [.ref (r 0), .int (iI 1)]) (rest := []) C yw_L_value qw443 (w_value l g r qn qt qv kn kt kv sc ns tx tn pl 1 hT (by omega)) (by decide) rfl dL_fits_39 rfl (Nat.le_of_ble_eq_true rfl) (by decide) pf0 rfl (fun r9 w9 hq9 => ?_)
  obtain ⟨rfl, rfl⟩ := hq9
  refine J.to (L1 := [(5, .int (iI 0)), (4, .int (iI 0)), (3, .int (iI (kn 0 3))), (2, .int (iI (kn 0 2))), (0, .ref (r 0)), (1, .int (iI x))]) (S1 := [.int (iI (hnd kn))]) (ws1 := (wTp g r qn qt qv kn kt kv sc ns tx tn pl)) rfl rfl rfl ?_
  refine j_if_lt (tgt := 101) C (by omega) dL_fits_42 (by decide) (fun c42 => absurd c42 (by omega)) (fun c42 => ?_)
  refine j_aload_n C 4 dL_fits_45 rfl rfl ?_
  refine j_iconst C dL_fits_46 ?_
  refine j_callSW (As := [.ref (r 0), .int (iI 5)]) (rest := []) C yw_L_value qw443 (w_value l g r qn qt qv kn kt kv sc ns tx tn pl 5 hT (by omega)) (by decide) rfl dL_fits_47 rfl (Nat.le_of_ble_eq_true rfl) (by decide) pf0 rfl (fun r9 w9 hq9 => ?_)
  obtain ⟨rfl, rfl⟩ := hq9
  refine J.to (L1 := [(5, .int (iI 0)), (4, .int (iI 0)), (3, .int (iI (kn 0 3))), (2, .int (iI (kn 0 2))), (0, .ref (r 0)), (1, .int (iI x))]) (S1 := [.int (iI (passF kn))]) (ws1 := (wTp g r qn qt qv kn kt kv sc ns tx tn pl)) rfl rfl rfl ?_
  refine j_iconst C dL_fits_50 ?_
  refine j_iload_n C 3 dL_fits_51 rfl rfl ?_
  refine j_imul C dL_fits_52 ?_
  refine j_iload_n C 2 dL_fits_53 rfl rfl ?_
  refine j_iconst C dL_fits_54 ?_
  have kj67_0 : J pX l eX ({ frames := 10, cells := 0, slots := 0, locals := 204 } : Room) sX mX argsX belowX methX cX g A 11 67 [(5, .int (iI 0)), (4, .int (iI 0)), (3, .int (iI (kn 0 3))), (2, .int (iI (kn 0 2))), (0, .ref (r 0)), (1, .int (iI x))] [] (wTp g r qn qt qv kn kt kv sc ns tx tn pl) 0 0 (MQ belowX (QE g A (fun r9 w9 => r9 = some (.int (iI 1)) ∧ ∃ kt9 : Nat → Nat → Int, w9 = wTp g r qn qt qv kn kt9 kv sc ns tx tn pl)) argsX sX 0 0 A) := by
    refine j_aload_n C 4 dL_fits_67 rfl rfl ?_
    refine j_bipush C dL_fits_68 (by decide) ?_
    refine j_callSW (As := [.ref (r 0), .int (iI 9)]) (rest := []) C yw_L_value qw443 (w_value l g r qn qt qv kn kt kv sc ns tx tn pl 9 hT (by omega)) (by decide) rfl dL_fits_70 rfl (Nat.le_of_ble_eq_true rfl) (by decide) pf0 rfl (fun r9 w9 hq9 => ?_)
    obtain ⟨rfl, rfl⟩ := hq9
    refine J.to (L1 := [(5, .int (iI 0)), (4, .int (iI 0)), (3, .int (iI (kn 0 3))), (2, .int (iI (kn 0 2))), (0, .ref (r 0)), (1, .int (iI x))]) (S1 := [.int (iI (kn 0 6))]) (ws1 := (wTp g r qn qt qv kn kt kv sc ns tx tn pl)) rfl rfl rfl ?_
    refine j_if_lt (tgt := 101) C (by omega) dL_fits_73 (by decide) (fun c73 => absurd c73 (by omega)) (fun c73 => ?_)
    refine j_aload_n C 4 dL_fits_76 rfl rfl ?_
    refine j_bipush C dL_fits_77 (by decide) ?_
    refine j_callSW (As := [.ref (r 0), .int (iI 9)]) (rest := []) C yw_L_value qw443 (w_value l g r qn qt qv kn kt kv sc ns tx tn pl 9 hT (by omega)) (by decide) rfl dL_fits_79 rfl (Nat.le_of_ble_eq_true rfl) (by decide) pf0 rfl (fun r9 w9 hq9 => ?_)
    obtain ⟨rfl, rfl⟩ := hq9
    refine J.to (L1 := [(5, .int (iI 0)), (4, .int (iI 0)), (3, .int (iI (kn 0 3))), (2, .int (iI (kn 0 2))), (0, .ref (r 0)), (1, .int (iI x))]) (S1 := [.int (iI (kn 0 6))]) (ws1 := (wTp g r qn qt qv kn kt kv sc ns tx tn pl)) rfl rfl rfl ?_
    refine j_bipush C dL_fits_82 (by decide) ?_
    refine j_icmp_ge (tgt := 101) C (by omega) (by decide) dL_fits_84 (by decide) (fun c84 => absurd c84 (by omega)) (fun c84 => ?_)
    refine j_aload_n C 4 dL_fits_87 rfl rfl ?_
    refine j_iconst C dL_fits_88 ?_
    refine j_callV (As := [.int (iI 0)]) (rest := []) C yv_X4_work qw494 (c_X4_work l g r qn qt qv kn kt kv sc ns tx tn pl false hT) (by decide) 0 rfl rfl rfl dL_fits_89 rfl (Nat.le_of_ble_eq_true rfl) (by decide) pf0 rfl (fun r9 w9 hq9 => ?_)
    obtain ⟨rfl, rfl⟩ := hq9
    refine J.to (L1 := [(5, .int (iI 0)), (4, .int (iI 0)), (3, .int (iI (kn 0 3))), (2, .int (iI (kn 0 2))), (0, .ref (r 0)), (1, .int (iI x))]) (S1 := [.long (lI (kn 0 7))]) (ws1 := (wTp g r qn qt qv kn kt kv sc ns tx tn pl)) rfl rfl rfl ?_
    refine j_lconst (v := 0) C dL_fits_92 rfl ?_
    refine j_lif_lt (tgt := 101) C (by omega) (by decide) dL_fits_93 dL_fits_94 (by decide) (fun c93 => absurd c93 (by omega)) (fun c93 => ?_)
    refine j_iconst C dL_fits_97 ?_
    refine j_goto (tgt := 102) C dL_fits_98 (by decide) ?_
    refine j_istore (L1 := [(6, .int (iI 1)), (5, .int (iI 0)), (4, .int (iI 0)), (3, .int (iI (kn 0 3))), (2, .int (iI (kn 0 2))), (0, .ref (r 0)), (1, .int (iI x))]) C dL_fits_102 (by decide) rfl ?_
    refine j_iconst C dL_fits_104 ?_
    refine j_istore (L1 := [(7, .int (iI 0)), (6, .int (iI 1)), (5, .int (iI 0)), (4, .int (iI 0)), (3, .int (iI (kn 0 3))), (2, .int (iI (kn 0 2))), (0, .ref (r 0)), (1, .int (iI x))]) C dL_fits_105 (by decide) rfl ?_
    refine J.sub (L1 := [(0, .ref (r 0)), (1, .int (iI x)), (2, .int (iI (kn 0 2))), (3, .int (iI (kn 0 3))), (4, .int (iI 0)), (5, .int (iI 0)), (6, .int (iI 1)), (7, .int (iI 0))]) [6, 7, 5, 4, 3, 2, 1, 0] rfl ?_
    refine J.to (L1 := [(0, .ref (r 0)), (1, .int (iI x)), (2, .int (iI (kn 0 2))), (3, .int (iI (kn 0 3))), (4, .int (iI (hng (kn 1) (kn 0 2).toNat (kn 0 3) (kn 4) 0))), (5, .int (iI (psF (fun j => msf kn j) 0))), (6, .int (iI 1)), (7, .int (iI (((0 : Nat) : Int))))]) (S1 := []) (ws1 := (wTp g r qn qt qv kn kt kv sc ns tx tn pl)) rfl rfl rfl ?_
    refine lp_fits2 C hl hT (fun kt2 => ?_) 4 0 rfl kt
    refine j_iload C 6 dL_fits_313 rfl ?_
    refine j_if_eq (tgt := 359) C (by decide) dL_fits_315 (by decide) (fun c315 => absurd c315 (by decide)) (fun c315 => ?_)
    refine j_aload_n C 0 dL_fits_318 rfl rfl ?_
    refine j_bipush C dL_fits_319 (by decide) ?_
    refine j_callSW (As := [.ref (r 0), .int (iI 6)]) (rest := []) C yw_L_value qw443 (w_value l g r qn qt qv kn kt2 kv sc ns tx tn pl 6 hT (by omega)) (by decide) rfl dL_fits_321 rfl (Nat.le_of_ble_eq_true rfl) (by decide) pf0 rfl (fun r9 w9 hq9 => ?_)
    obtain ⟨rfl, rfl⟩ := hq9
    refine J.to (L1 := [(0, .ref (r 0)), (1, .int (iI x)), (2, .int (iI (kn 0 2))), (3, .int (iI (kn 0 3))), (4, .int (iI (hng (kn 1) (kn 0 2).toNat (kn 0 3) (kn 4) 4))), (5, .int (iI (psF (fun j => msf kn j) 4))), (6, .int (iI 1))]) (S1 := [.int (iI (hgA kn))]) (ws1 := (wTp g r qn qt qv kn kt2 kv sc ns tx tn pl)) rfl rfl rfl ?_
    refine j_iload C 4 dL_fits_324 rfl ?_
    refine j_isameF C (rfl) dL_fits_326 (tgt := 359) (by decide) ?_
    refine j_aload_n C 0 dL_fits_329 rfl rfl ?_
    refine j_iconst C dL_fits_330 ?_
    refine j_callSW (As := [.ref (r 0), .int (iI 1)]) (rest := []) C yw_L_value qw443 (w_value l g r qn qt qv kn kt2 kv sc ns tx tn pl 1 hT (by omega)) (by decide) rfl dL_fits_331 rfl (Nat.le_of_ble_eq_true rfl) (by decide) pf0 rfl (fun r9 w9 hq9 => ?_)
    obtain ⟨rfl, rfl⟩ := hq9
    refine J.to (L1 := [(0, .ref (r 0)), (1, .int (iI x)), (2, .int (iI (kn 0 2))), (3, .int (iI (kn 0 3))), (4, .int (iI (hng (kn 1) (kn 0 2).toNat (kn 0 3) (kn 4) 4))), (5, .int (iI (psF (fun j => msf kn j) 4))), (6, .int (iI 1))]) (S1 := [.int (iI (hnd kn))]) (ws1 := (wTp g r qn qt qv kn kt2 kv sc ns tx tn pl)) rfl rfl rfl ?_
    refine j_iload C 4 dL_fits_334 rfl ?_
    refine j_iadd C dL_fits_336 ?_
    refine j_aload_n C 0 dL_fits_337 rfl rfl ?_
    refine j_iconst C dL_fits_338 ?_
    refine j_callSW (As := [.ref (r 0), .int (iI 0)]) (rest := [.int (iI ((hnd kn) + (hng (kn 1) (kn 0 2).toNat (kn 0 3) (kn 4) 4)))]) C yw_L_value qw443 (w_value l g r qn qt qv kn kt2 kv sc ns tx tn pl 0 hT (by omega)) (by decide) rfl dL_fits_339 rfl (Nat.le_of_ble_eq_true rfl) (by decide) pf0 rfl (fun r9 w9 hq9 => ?_)
    obtain ⟨rfl, rfl⟩ := hq9
    refine J.to (L1 := [(0, .ref (r 0)), (1, .int (iI x)), (2, .int (iI (kn 0 2))), (3, .int (iI (kn 0 3))), (4, .int (iI (hng (kn 1) (kn 0 2).toNat (kn 0 3) (kn 4) 4))), (5, .int (iI (psF (fun j => msf kn j) 4))), (6, .int (iI 1))]) (S1 := [.int (iI (kn 0 0)), .int (iI ((hnd kn) + (hng (kn 1) (kn 0 2).toNat (kn 0 3) (kn 4) 4)))]) (ws1 := (wTp g r qn qt qv kn kt2 kv sc ns tx tn pl)) rfl rfl rfl ?_
    refine j_isameF C ((by show (kn 0 0 - hgA kn) + hgA kn = kn 0 0; omega)) dL_fits_342 (tgt := 359) (by decide) ?_
    refine j_iload C 5 dL_fits_345 rfl ?_
    refine j_aload_n C 0 dL_fits_347 rfl rfl ?_
    refine j_iconst C dL_fits_348 ?_
    refine j_callSW (As := [.ref (r 0), .int (iI 5)]) (rest := [.int (iI (psF (fun j => msf kn j) 4))]) C yw_L_value qw443 (w_value l g r qn qt qv kn kt2 kv sc ns tx tn pl 5 hT (by omega)) (by decide) rfl dL_fits_349 rfl (Nat.le_of_ble_eq_true rfl) (by decide) pf0 rfl (fun r9 w9 hq9 => ?_)
    obtain ⟨rfl, rfl⟩ := hq9
    refine J.to (L1 := [(0, .ref (r 0)), (1, .int (iI x)), (2, .int (iI (kn 0 2))), (3, .int (iI (kn 0 3))), (4, .int (iI (hng (kn 1) (kn 0 2).toNat (kn 0 3) (kn 4) 4))), (5, .int (iI (psF (fun j => msf kn j) 4))), (6, .int (iI 1))]) (S1 := [.int (iI (passF kn)), .int (iI (psF (fun j => msf kn j) 4))]) (ws1 := (wTp g r qn qt qv kn kt2 kv sc ns tx tn pl)) rfl rfl rfl ?_
    refine j_isameF C (als_4 hk) dL_fits_352 (tgt := 359) (by decide) ?_
    refine j_iconst C dL_fits_355 ?_
    refine j_goto (tgt := 360) C dL_fits_356 (by decide) ?_
    refine j_istore (L1 := [(6, .int (iI 1)), (0, .ref (r 0)), (1, .int (iI x)), (2, .int (iI (kn 0 2))), (3, .int (iI (kn 0 3))), (4, .int (iI (hng (kn 1) (kn 0 2).toNat (kn 0 3) (kn 4) 4))), (5, .int (iI (psF (fun j => msf kn j) 4)))]) C dL_fits_360 (by decide) rfl ?_
    refine j_iload C 0 dL_fits_362 rfl ?_
    refine j_if_eq (tgt := 407) C (by decide) dL_fits_364 (by decide) (fun c364 => absurd c364 (by decide)) (fun c364 => ?_)
    refine j_aload_n C 1 dL_fits_367 rfl rfl ?_
    refine j_iload_n C 2 dL_fits_368 rfl rfl ?_
    refine j_sipush C dL_fits_369 (by decide) ?_
    refine j_callS (As := [.int (iI x), .int (iI 5000)]) (rest := [.ref (r 0)]) C ys_L_low qw153 (c_L_low l g x 5000 (by omega) (by omega)) (by decide) rfl dL_fits_372 rfl (Nat.le_of_ble_eq_true rfl) (by decide) (pfE (wTp g r qn qt qv kn kt2 kv sc ns tx tn pl)) rfl (fun r9 w9 hq9 => ?_)
    obtain ⟨rfl, rfl⟩ := hq9
    refine J.to (L1 := [(6, .int (iI 1)), (0, .ref (r 0)), (1, .int (iI x)), (2, .int (iI (kn 0 2))), (3, .int (iI (kn 0 3))), (4, .int (iI (hng (kn 1) (kn 0 2).toNat (kn 0 3) (kn 4) 4))), (5, .int (iI (psF (fun j => msf kn j) 4)))]) (S1 := [.int (iI (lwF x 5000)), .ref (r 0)]) (ws1 := (wTp g r qn qt qv kn kt2 kv sc ns tx tn pl)) rfl rfl rfl ?_
    have hl2 := lwF_rng (x := x) (n := 5000) (by decide)
    refine j_iload_n C 2 dL_fits_375 rfl rfl ?_
    refine j_iconst C dL_fits_376 ?_
    refine j_ishrA C dL_fits_377 (fun z3 hz3 => ?_)
    refine j_iconst C dL_fits_378 ?_
    refine j_callS (As := [.int (iI z3), .int (iI 4)]) (rest := [.int (iI (lwF x 5000)), .ref (r 0)]) C ys_L_low qw153 (c_L_low l g z3 4 (by omega) (by omega)) (by decide) rfl dL_fits_379 rfl (Nat.le_of_ble_eq_true rfl) (by decide) (pfE (wTp g r qn qt qv kn kt2 kv sc ns tx tn pl)) rfl (fun r9 w9 hq9 => ?_)
    obtain ⟨rfl, rfl⟩ := hq9
    refine J.to (L1 := [(6, .int (iI 1)), (0, .ref (r 0)), (1, .int (iI x)), (2, .int (iI (kn 0 2))), (3, .int (iI (kn 0 3))), (4, .int (iI (hng (kn 1) (kn 0 2).toNat (kn 0 3) (kn 4) 4))), (5, .int (iI (psF (fun j => msf kn j) 4)))]) (S1 := [.int (iI (lwF z3 4)), .int (iI (lwF x 5000)), .ref (r 0)]) (ws1 := (wTp g r qn qt qv kn kt2 kv sc ns tx tn pl)) rfl rfl rfl ?_
    have hl4 := lwF_rng (x := z3) (n := 4) (by decide)
    obtain ⟨nb, hnb⟩ : ∃ nb : Nat, lwF z3 4 = (nb : Int) := ⟨(lwF z3 4).toNat, by omega⟩
    refine J.to (L1 := [(6, .int (iI 1)), (0, .ref (r 0)), (1, .int (iI x)), (2, .int (iI (kn 0 2))), (3, .int (iI (kn 0 3))), (4, .int (iI (hng (kn 1) (kn 0 2).toNat (kn 0 3) (kn 4) 4))), (5, .int (iI (psF (fun j => msf kn j) 4)))]) (S1 := [.int (iI ((nb : Int))), .int (iI (lwF x 5000)), .ref (r 0)]) (ws1 := (wTp g r qn qt qv kn kt2 kv sc ns tx tn pl)) rfl rfl (congrArg (fun x9 : Int => ([.int (iI x9), .int (iI (lwF x 5000)), .ref (r 0)] : List Value)) (show (lwF z3 4 : Int) = (nb : Int) from hnb)) ?_
    refine j_iload_n C 2 dL_fits_382 rfl rfl ?_
    refine j_iconst C dL_fits_383 ?_
    refine j_ishrA C dL_fits_384 (fun z5 hz5 => ?_)
    refine j_iconst C dL_fits_385 ?_
    refine j_callS (As := [.int (iI z5), .int (iI 2)]) (rest := [.int (iI ((nb : Int))), .int (iI (lwF x 5000)), .ref (r 0)]) C ys_L_low qw153 (c_L_low l g z5 2 (by omega) (by omega)) (by decide) rfl dL_fits_386 rfl (Nat.le_of_ble_eq_true rfl) (by decide) (pfE (wTp g r qn qt qv kn kt2 kv sc ns tx tn pl)) rfl (fun r9 w9 hq9 => ?_)
    obtain ⟨rfl, rfl⟩ := hq9
    refine J.to (L1 := [(6, .int (iI 1)), (0, .ref (r 0)), (1, .int (iI x)), (2, .int (iI (kn 0 2))), (3, .int (iI (kn 0 3))), (4, .int (iI (hng (kn 1) (kn 0 2).toNat (kn 0 3) (kn 4) 4))), (5, .int (iI (psF (fun j => msf kn j) 4)))]) (S1 := [.int (iI (lwF z5 2)), .int (iI ((nb : Int))), .int (iI (lwF x 5000)), .ref (r 0)]) (ws1 := (wTp g r qn qt qv kn kt2 kv sc ns tx tn pl)) rfl rfl rfl ?_
    have hl6 := lwF_rng (x := z5) (n := 2) (by decide)
    refine j_if_ne (tgt := 396) C (by omega) dL_fits_389 (by decide) (fun c389 => ?_) (fun c389 => ?_)
    · refine j_iconst C dL_fits_396 ?_
      refine j_callS (As := [.ref (r 0), .int (iI (lwF x 5000)), .int (iI ((nb : Int))), .int (iI 0)]) (rest := []) C ys_L_arePulls qw623 (c_L_arePulls_f l hl g r qn qt qv kn kt2 kv sc ns tx tn pl hT nb (by omega) (lwF x 5000) (by omega)) (by decide) rfl dL_fits_397 rfl (Nat.le_of_ble_eq_true rfl) (by decide) pf0 rfl (fun r9 w9 hq9 => ?_)
      obtain ⟨rfl, rfl⟩ := hq9
      refine J.to (L1 := [(6, .int (iI 1)), (0, .ref (r 0)), (1, .int (iI x)), (2, .int (iI (kn 0 2))), (3, .int (iI (kn 0 3))), (4, .int (iI (hng (kn 1) (kn 0 2).toNat (kn 0 3) (kn 4) 4))), (5, .int (iI (psF (fun j => msf kn j) 4)))]) (S1 := [.int (iI 1)]) (ws1 := (wTp g r qn qt qv kn kt2 kv sc ns tx tn pl)) rfl rfl rfl ?_
      refine j_if_eq (tgt := 407) C (by decide) dL_fits_400 (by decide) (fun c400 => absurd c400 (by decide)) (fun c400 => ?_)
      refine j_iconst C dL_fits_403 ?_
      refine j_goto (tgt := 408) C dL_fits_404 (by decide) ?_
      exact j_zret C hr hlk rfl dL_fits_408 ⟨rfl, kt2, rfl⟩ (by decide) (by decide)
    · refine j_iconst C dL_fits_392 ?_
      refine j_goto (tgt := 397) C dL_fits_393 (by decide) ?_
      refine j_callS (As := [.ref (r 0), .int (iI (lwF x 5000)), .int (iI ((nb : Int))), .int (iI 1)]) (rest := []) C ys_L_arePulls qw623 (c_L_arePulls_t l hl g r qn qt qv kn kt2 kv sc ns tx tn pl hT nb (by omega) (lwF x 5000) (by omega)) (by decide) rfl dL_fits_397 rfl (Nat.le_of_ble_eq_true rfl) (by decide) pf0 rfl (fun r9 w9 hq9 => ?_)
      obtain ⟨rfl, rfl⟩ := hq9
      refine J.to (L1 := [(6, .int (iI 1)), (0, .ref (r 0)), (1, .int (iI x)), (2, .int (iI (kn 0 2))), (3, .int (iI (kn 0 3))), (4, .int (iI (hng (kn 1) (kn 0 2).toNat (kn 0 3) (kn 4) 4))), (5, .int (iI (psF (fun j => msf kn j) 4)))]) (S1 := [.int (iI 1)]) (ws1 := (wTp g r qn qt qv kn kt2 kv sc ns tx tn pl)) rfl rfl rfl ?_
      refine j_if_eq (tgt := 407) C (by decide) dL_fits_400 (by decide) (fun c400 => absurd c400 (by decide)) (fun c400 => ?_)
      refine j_iconst C dL_fits_403 ?_
      refine j_goto (tgt := 408) C dL_fits_404 (by decide) ?_
      exact j_zret C hr hlk rfl dL_fits_408 ⟨rfl, kt2, rfl⟩ (by decide) (by decide)
  refine j_icmp_ge (tgt := 62) C (by omega) (by decide) dL_fits_55 (by decide) (fun c55 => ?_) (fun c55 => ?_)
  · refine j_iconst C dL_fits_62 ?_
    refine j_iadd C dL_fits_63 ?_
    refine j_isameF C ((by unfold passF; rw [if_pos (by omega)])) dL_fits_64 (tgt := 101) (by decide) ?_
    refine J.sub (L1 := [(5, .int (iI 0)), (4, .int (iI 0)), (3, .int (iI (kn 0 3))), (2, .int (iI (kn 0 2))), (0, .ref (r 0)), (1, .int (iI x))]) [0, 1, 2, 3, 4, 5] rfl ?_
    exact kj67_0
  · refine j_iconst C dL_fits_58 ?_
    refine j_goto (tgt := 63) C dL_fits_59 (by decide) ?_
    refine j_iadd C dL_fits_63 ?_
    refine j_isameF C ((by unfold passF; rw [if_neg (by omega)])) dL_fits_64 (tgt := 101) (by decide) ?_
    refine J.sub (L1 := [(5, .int (iI 0)), (4, .int (iI 0)), (3, .int (iI (kn 0 3))), (2, .int (iI (kn 0 2))), (0, .ref (r 0)), (1, .int (iI x))]) [0, 1, 2, 3, 4, 5] rfl ?_
    exact kj67_0

