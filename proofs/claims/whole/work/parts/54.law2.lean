/-! the law's cases 6 to 9 -/
set_option maxRecDepth 100000 in
set_option maxHeartbeats 4000000 in
theorem law_6 {p : Program} {l : Launch} {e : Env} {s : State} {m : MethodId} {args : Array Value} {below : List Frame} {meth : Method} {c : Code} {g : Gh} {A : Nat → Prop} {r u : Nat → Nat} {qn qt : Nat → Nat} {qv : Nat → Nat → Nat} {od b0 n0 n : Nat} {xs : Nat → Int32} {Q : State → Prop} {cells slots : Nat} (C : Cx p g s m args c cL_law 9 RL A) (hl : l.stackTraces = false) (hX : va_X b0 n0 xs s s.heap) (hbl : b0 < s.heap.size) (hbA : ¬ A b0) (hn0 : n0 ≤ 2048) (hn : 4 * n + 3 < n0) (hc : cells + 1 ≤ room_1.cells ∧ slots + 6 ≤ room_1.slots) (kk : LJ p l e s m args below meth c g A r u qn qt qv od b0 Q 1603 (n + 1) (4 * (n : Int)) (cells + 1) (slots + 6)) : LJ p l e s m args below meth c g A r u qn qt qv od b0 Q 496 n (4 * (n : Int)) cells slots := by
  intro kn kt kv sc ns tx tn pl v pa sd rr rq sv ap nw th rm rd hh o hI
  have hR := hI.2.2.2.1
  have hk := hI.1.1.1
  have hm := rel_ok hR hk
  have hscv := hI.2.2.2.2.2.1.1
  have hsv : sv ≤ 4 := hI.2.2.2.2.2.1.2
  have hns := hI.1.2.2.2.1
  have htn := hI.1.2.2.2.2.1
  have htx := hI.1.2.2.2.2.2
  have r2 := hR.1 2 (by decide)
  have hk2 := hk.1
  have hcA : cells + 1 + 0 ≤ room_1.cells ∧ slots + 6 + 0 ≤ room_1.slots := hc
  have hc0 : cells + 0 ≤ room_1.cells ∧ slots + 0 ≤ room_1.slots := ⟨Nat.le_of_succ_le hc.1, by omega⟩
  have hv1 : cells + 0 ≤ cells + 1 := Nat.le_add_right cells 1
  have hv2 : slots + 0 ≤ slots + 6 := Nat.le_add_right slots 6
  have hw1 : cells + 1 ≤ cells + 1 := Nat.le_refl _
  have hw2 : slots + 6 ≤ slots + 6 := Nat.le_refl _
  obtain ⟨x1, e1⟩ : ∃ x1 : Int, (xs (4 * n + 1)).toInt = x1 := ⟨_, rfl⟩
  have h1 := rngI (xs (4 * n + 1))
  rw [e1] at h1
  obtain ⟨x2, e2⟩ : ∃ x2 : Int, (xs (4 * n + 2)).toInt = x2 := ⟨_, rfl⟩
  have h2 := rngI (xs (4 * n + 2))
  rw [e2] at h2
  by_cases q1 : 0 ≤ x1 ∧ x1 ≤ 1000000
  · by_cases q2 : 0 ≤ x2 ∧ x2 ≤ 100000
    · refine j_aload_n C 1 dL_law_496 rfl rfl ?_
      refine j_aload_n C 0 dL_law_497 rfl rfl ?_
      refine j_iload C 4 dL_law_498 rfl ?_
      refine j_iconst C dL_law_500 ?_
      refine j_iadd C dL_law_501 ?_
      refine j_sld C hX hbl hbA (4 * n + 1) (by omega) (by omega) (by omega) e1 dL_law_502 ?_
      refine j_aload_n C 0 dL_law_503 rfl rfl ?_
      refine j_iload C 4 dL_law_504 rfl ?_
      refine j_iconst C dL_law_506 ?_
      refine j_iadd C dL_law_507 ?_
      refine j_sld C hX hbl hbA (4 * n + 2) (by omega) (by omega) (by omega) e2 dL_law_508 ?_
      refine j_aload_n C 3 dL_law_509 rfl rfl ?_
      refine j_callSW (As := [.ref (r 0), .int (iI x1), .int (iI x2), .ref od]) (rest := []) C yw_L_haul qw509 (w_haul_0 l g r qn qt qv kn kt kv sc ns tx tn pl od o x1 x2 hI.1 (by omega) (by omega)) (by decide) rfl dL_law_510 rfl (Nat.le_of_ble_eq_true rfl) hc0 (pfL (wMd g u v pa sd tx rr rq (sv : Int) (tn : Int) th (ap : Int) rm rd (nw : Int) hh)) rfl (fun r9 w9 hq9 => ?_)
      obtain ⟨rfl, kt1, pl1, rfl⟩ := hq9
      refine J.to (L1 := [(0, .ref b0), (1, .ref (r 0)), (2, .ref (u 0)), (3, .ref od), (4, .int (iI (4 * (n : Int))))]) (S1 := [.int (iI 0)]) (ws1 := wLw g r u qn qt qv od ((mup x1 x2 kn).1) kt1 (svk kn kv ns) (svs sc) (svn ns) tx tn pl1 v pa sd rr rq sv ap nw th rm rd hh (va_up o 0 (w32 (((mup x1 x2 kn).2)))) tx tn) rfl rfl rfl ?_
      refine J.wide (k := cells + 1) (n := slots + 6) hv1 hv2 ?_
      refine j_istore (L1 := [(5, .int (iI 0)), (0, .ref b0), (1, .ref (r 0)), (2, .ref (u 0)), (3, .ref od), (4, .int (iI (4 * (n : Int))))]) C dL_law_513 (by decide) rfl ?_
      refine j_aload_n C 3 dL_law_515 rfl rfl ?_
      refine j_aload_n C 1 dL_law_516 rfl rfl ?_
      refine j_iload C 5 dL_law_517 rfl ?_
      refine j_iconst C dL_law_519 ?_
      refine j_iadd C dL_law_520 ?_
      refine j_sld C hX hbl hbA (4 * n + 1) (by omega) (by omega) (by omega) e1 dL_law_521 ?_
      refine j_aload_n C 1 dL_law_522 rfl rfl ?_
      refine j_iload C 5 dL_law_523 rfl ?_
      refine j_iconst C dL_law_525 ?_
      refine j_iadd C dL_law_526 ?_
      refine j_sld C hX hbl hbA (4 * n + 2) (by omega) (by omega) (by omega) e2 dL_law_527 ?_
      refine j_callV (As := [.int (iI x1), .int (iI x2)]) (rest := []) C yv_X5_haul qw782 (c_X5_haul_ok l g u v pa sd tx rr rq sv (tn : Int) th (ap : Int) rm rd (nw : Int) hh x1 x2 hm hsv (by omega) (by omega)) (by decide) 0 rfl rfl rfl dL_law_528 rfl (Nat.le_of_ble_eq_true rfl) hcA (pfR ([(u 3, aL g 75 sd), (u 4, aI g 60 tx), (u 5, aI g 10 rr), (u 6, aI g 4 rq)] ++ ((od, aL g 1 (va_up o 0 (w32 (((mup x1 x2 kn).2))))) :: wTp g r qn qt qv ((mup x1 x2 kn).1) kt1 (svk kn kv ns) (svs sc) (svn ns) tx tn pl1))) rfl (fun r9 w9 hq9 => ?_)
      obtain ⟨rfl, rfl⟩ := hq9
      refine J.to (L1 := [(5, .int (iI 0)), (0, .ref b0), (1, .ref (r 0)), (2, .ref (u 0)), (3, .ref od), (4, .int (iI (4 * (n : Int))))]) (S1 := [.int (iI ((hauV x1 x2 v).2))]) (ws1 := wLw g r u qn qt qv od ((mup x1 x2 kn).1) kt1 (svk kn kv ns) (svs sc) (svn ns) tx tn pl1 ((hauV x1 x2 v).1) (svP v pa sv) sd rr rq (svN sv) ap nw 0 rm rd hh (va_up o 0 (w32 (((mup x1 x2 kn).2)))) tx tn) rfl rfl rfl ?_
      refine J.wide (k := (cells + 1)) (n := (slots + 6)) (Nat.le_refl _) (Nat.le_refl _) ?_
      refine j_istore (L1 := [(6, .int (iI ((hauV x1 x2 v).2))), (5, .int (iI 0)), (0, .ref b0), (1, .ref (r 0)), (2, .ref (u 0)), (3, .ref od), (4, .int (iI (4 * (n : Int))))]) C dL_law_531 (by decide) rfl ?_
      refine j_aload_n C 4 dL_law_533 rfl rfl ?_
      refine j_callV (As := []) (rest := []) C yv_X5_thrown qw706 (c_X5_thrown l g u ((hauV x1 x2 v).1) ((svN sv : Nat) : Int) (tn : Int) 0 (ap : Int) rm rd (nw : Int) hh) (by decide) 0 rfl rfl rfl dL_law_534 rfl (Nat.le_of_ble_eq_true rfl) hcA (pfR ([(u 1, aL g 75 ((hauV x1 x2 v).1)), (u 2, aL g 300 (svP v pa sv)), (u 3, aL g 75 sd), (u 4, aI g 60 tx), (u 5, aI g 10 rr), (u 6, aI g 4 rq)] ++ ((od, aL g 1 (va_up o 0 (w32 (((mup x1 x2 kn).2))))) :: wTp g r qn qt qv ((mup x1 x2 kn).1) kt1 (svk kn kv ns) (svs sc) (svn ns) tx tn pl1))) rfl (fun r9 w9 hq9 => ?_)
      obtain ⟨rfl, rfl⟩ := hq9
      refine J.to (L1 := [(6, .int (iI ((hauV x1 x2 v).2))), (5, .int (iI 0)), (0, .ref b0), (1, .ref (r 0)), (2, .ref (u 0)), (3, .ref od), (4, .int (iI (4 * (n : Int))))]) (S1 := [.int (iI 0)]) (ws1 := wLw g r u qn qt qv od ((mup x1 x2 kn).1) kt1 (svk kn kv ns) (svs sc) (svn ns) tx tn pl1 ((hauV x1 x2 v).1) (svP v pa sv) sd rr rq (svN sv) ap nw 0 rm rd hh (va_up o 0 (w32 (((mup x1 x2 kn).2)))) tx tn) rfl rfl rfl ?_
      refine J.wide (k := (cells + 1)) (n := (slots + 6)) (Nat.le_refl _) (Nat.le_refl _) ?_
      refine j_iload C 1 dL_law_537 rfl ?_
      refine j_isame (tgt := 544) C rfl dL_law_539 (by decide) ?_
      refine j_iload C 1 dL_law_544 rfl ?_
      refine j_if_ne (tgt := 561) C (by decide) dL_law_546 (by decide) (fun h9 => absurd h9 (by decide)) (fun _ => ?_)
      refine j_aload_n C 5 dL_law_549 rfl rfl ?_
      refine j_iconst C dL_law_550 ?_
      refine j_lald (f := va_up o 0 (w32 (((mup x1 x2 kn).2)))) C 7 0 rfl rfl (by decide) (by decide) dL_law_551 ?_
      refine J.to (L1 := [(6, .int (iI ((hauV x1 x2 v).2))), (5, .int (iI 0)), (0, .ref b0), (1, .ref (r 0)), (2, .ref (u 0)), (3, .ref od), (4, .int (iI (4 * (n : Int))))]) (S1 := [.long (lI (w32 (((mup x1 x2 kn).2))))]) (ws1 := wLw g r u qn qt qv od ((mup x1 x2 kn).1) kt1 (svk kn kv ns) (svs sc) (svn ns) tx tn pl1 ((hauV x1 x2 v).1) (svP v pa sv) sd rr rq (svN sv) ap nw 0 rm rd hh (va_up o 0 (w32 (((mup x1 x2 kn).2)))) tx tn) rfl rfl rfl ?_
      refine j_iload C 0 dL_law_552 rfl ?_
      refine j_i2lw C dL_law_554 ?_
      have heq : (((mup x1 x2 kn).2) : Int) = ((hauV x1 x2 v).2) := (rel_mup hR hk q2.1).2
      refine j_lsame (tgt := 561) C (congrArg w32 heq) dL_law_555 dL_law_556 (by decide) ?_
      refine j_goto (tgt := 1603) C dL_law_561 (by decide) ?_
      refine J.sub (L1 := [(0, .ref b0), (1, .ref (r 0)), (2, .ref (u 0)), (3, .ref od), (4, .int (iI (4 * (n : Int))))]) [2, 3, 4, 5, 6] rfl ?_
      exact kk ((mup x1 x2 kn).1) kt1 (svk kn kv ns) (svs sc) (svn ns) tx tn pl1 ((hauV x1 x2 v).1) (svP v pa sv) sd rr rq (svN sv) ap nw 0 rm rd hh (va_up o 0 (w32 (((mup x1 x2 kn).2)))) (hI.up q1 q2)
    · refine j_aload_n C 1 dL_law_496 rfl rfl ?_
      refine j_aload_n C 0 dL_law_497 rfl rfl ?_
      refine j_iload C 4 dL_law_498 rfl ?_
      refine j_iconst C dL_law_500 ?_
      refine j_iadd C dL_law_501 ?_
      refine j_sld C hX hbl hbA (4 * n + 1) (by omega) (by omega) (by omega) e1 dL_law_502 ?_
      refine j_aload_n C 0 dL_law_503 rfl rfl ?_
      refine j_iload C 4 dL_law_504 rfl ?_
      refine j_iconst C dL_law_506 ?_
      refine j_iadd C dL_law_507 ?_
      refine j_sld C hX hbl hbA (4 * n + 2) (by omega) (by omega) (by omega) e2 dL_law_508 ?_
      refine j_aload_n C 3 dL_law_509 rfl rfl ?_
      refine j_callSW (As := [.ref (r 0), .int (iI x1), .int (iI x2), .ref od]) (rest := []) C yw_L_haul qw509 (w_haul_1b l hl g r qn qt qv kn kt kv sc ns tx tn pl od o x1 x2 hI.1 (by omega) (by omega) (by omega) (by omega)) (by decide) rfl dL_law_510 rfl (Nat.le_of_ble_eq_true rfl) hc (pfL (wMd g u v pa sd tx rr rq (sv : Int) (tn : Int) th (ap : Int) rm rd (nw : Int) hh)) rfl (fun r9 w9 hq9 => ?_)
      obtain ⟨rfl, kt1, pl1, rfl⟩ := hq9
      refine J.to (L1 := [(0, .ref b0), (1, .ref (r 0)), (2, .ref (u 0)), (3, .ref od), (4, .int (iI (4 * (n : Int))))]) (S1 := [.int (iI 1)]) (ws1 := wLw g r u qn qt qv od kn kt1 kv sc ns tx tn pl1 v pa sd rr rq sv ap nw th rm rd hh o tx tn) rfl rfl rfl ?_
      refine J.wide (k := cells + 1) (n := slots + 6) hw1 hw2 ?_
      refine j_istore (L1 := [(5, .int (iI 1)), (0, .ref b0), (1, .ref (r 0)), (2, .ref (u 0)), (3, .ref od), (4, .int (iI (4 * (n : Int))))]) C dL_law_513 (by decide) rfl ?_
      refine j_aload_n C 3 dL_law_515 rfl rfl ?_
      refine j_aload_n C 1 dL_law_516 rfl rfl ?_
      refine j_iload C 5 dL_law_517 rfl ?_
      refine j_iconst C dL_law_519 ?_
      refine j_iadd C dL_law_520 ?_
      refine j_sld C hX hbl hbA (4 * n + 1) (by omega) (by omega) (by omega) e1 dL_law_521 ?_
      refine j_aload_n C 1 dL_law_522 rfl rfl ?_
      refine j_iload C 5 dL_law_523 rfl ?_
      refine j_iconst C dL_law_525 ?_
      refine j_iadd C dL_law_526 ?_
      refine j_sld C hX hbl hbA (4 * n + 2) (by omega) (by omega) (by omega) e2 dL_law_527 ?_
      refine j_callV (As := [.int (iI x1), .int (iI x2)]) (rest := []) C yv_X5_haul qw782 (c_X5_haul_n2 l g u v pa sd tx rr rq sv (tn : Int) th (ap : Int) rm rd (nw : Int) hh x1 x2 hm hsv (by omega) (by omega) (by omega) (by omega)) (by decide) 0 rfl rfl rfl dL_law_528 rfl (Nat.le_of_ble_eq_true rfl) hcA (pfR ([(u 3, aL g 75 sd), (u 4, aI g 60 tx), (u 5, aI g 10 rr), (u 6, aI g 4 rq)] ++ ((od, aL g 1 (o)) :: wTp g r qn qt qv kn kt1 kv sc ns tx tn pl1))) rfl (fun r9 w9 hq9 => ?_)
      obtain ⟨rfl, rfl⟩ := hq9
      refine J.to (L1 := [(5, .int (iI 1)), (0, .ref b0), (1, .ref (r 0)), (2, .ref (u 0)), (3, .ref od), (4, .int (iI (4 * (n : Int))))]) (S1 := [.int (iI 0)]) (ws1 := wLw g r u qn qt qv od kn kt1 kv sc ns tx tn pl1 v pa sd rr rq sv ap nw 1 rm rd hh o tx tn) rfl rfl rfl ?_
      refine J.wide (k := (cells + 1)) (n := (slots + 6)) (Nat.le_refl _) (Nat.le_refl _) ?_
      refine j_istore (L1 := [(6, .int (iI 0)), (5, .int (iI 1)), (0, .ref b0), (1, .ref (r 0)), (2, .ref (u 0)), (3, .ref od), (4, .int (iI (4 * (n : Int))))]) C dL_law_531 (by decide) rfl ?_
      refine j_aload_n C 4 dL_law_533 rfl rfl ?_
      refine j_callV (As := []) (rest := []) C yv_X5_thrown qw706 (c_X5_thrown l g u v (sv : Int) (tn : Int) 1 (ap : Int) rm rd (nw : Int) hh) (by decide) 0 rfl rfl rfl dL_law_534 rfl (Nat.le_of_ble_eq_true rfl) hcA (pfR ([(u 1, aL g 75 v), (u 2, aL g 300 pa), (u 3, aL g 75 sd), (u 4, aI g 60 tx), (u 5, aI g 10 rr), (u 6, aI g 4 rq)] ++ ((od, aL g 1 (o)) :: wTp g r qn qt qv kn kt1 kv sc ns tx tn pl1))) rfl (fun r9 w9 hq9 => ?_)
      obtain ⟨rfl, rfl⟩ := hq9
      refine J.to (L1 := [(6, .int (iI 0)), (5, .int (iI 1)), (0, .ref b0), (1, .ref (r 0)), (2, .ref (u 0)), (3, .ref od), (4, .int (iI (4 * (n : Int))))]) (S1 := [.int (iI 1)]) (ws1 := wLw g r u qn qt qv od kn kt1 kv sc ns tx tn pl1 v pa sd rr rq sv ap nw 1 rm rd hh o tx tn) rfl rfl rfl ?_
      refine J.wide (k := (cells + 1)) (n := (slots + 6)) (Nat.le_refl _) (Nat.le_refl _) ?_
      refine j_iload C 1 dL_law_537 rfl ?_
      refine j_isame (tgt := 544) C rfl dL_law_539 (by decide) ?_
      refine j_iload C 1 dL_law_544 rfl ?_
      refine j_if_ne (tgt := 561) C (by decide) dL_law_546 (by decide) (fun _ => ?_) (fun h9 => absurd h9 (by decide))
      refine j_goto (tgt := 1603) C dL_law_561 (by decide) ?_
      refine J.sub (L1 := [(0, .ref b0), (1, .ref (r 0)), (2, .ref (u 0)), (3, .ref od), (4, .int (iI (4 * (n : Int))))]) [2, 3, 4, 5, 6] rfl ?_
      exact kk kn kt1 kv sc ns tx tn pl1 v pa sd rr rq sv ap nw 1 rm rd hh o hI.next
  · refine j_aload_n C 1 dL_law_496 rfl rfl ?_
    refine j_aload_n C 0 dL_law_497 rfl rfl ?_
    refine j_iload C 4 dL_law_498 rfl ?_
    refine j_iconst C dL_law_500 ?_
    refine j_iadd C dL_law_501 ?_
    refine j_sld C hX hbl hbA (4 * n + 1) (by omega) (by omega) (by omega) e1 dL_law_502 ?_
    refine j_aload_n C 0 dL_law_503 rfl rfl ?_
    refine j_iload C 4 dL_law_504 rfl ?_
    refine j_iconst C dL_law_506 ?_
    refine j_iadd C dL_law_507 ?_
    refine j_sld C hX hbl hbA (4 * n + 2) (by omega) (by omega) (by omega) e2 dL_law_508 ?_
    refine j_aload_n C 3 dL_law_509 rfl rfl ?_
    refine j_callSW (As := [.ref (r 0), .int (iI x1), .int (iI x2), .ref od]) (rest := []) C yw_L_haul qw509 (w_haul_1 l hl g r qn qt qv kn kt kv sc ns tx tn pl od o x1 x2 hI.1 (by omega) (by omega) (by omega)) (by decide) rfl dL_law_510 rfl (Nat.le_of_ble_eq_true rfl) hc (pfL (wMd g u v pa sd tx rr rq (sv : Int) (tn : Int) th (ap : Int) rm rd (nw : Int) hh)) rfl (fun r9 w9 hq9 => ?_)
    obtain ⟨rfl, kt1, pl1, rfl⟩ := hq9
    refine J.to (L1 := [(0, .ref b0), (1, .ref (r 0)), (2, .ref (u 0)), (3, .ref od), (4, .int (iI (4 * (n : Int))))]) (S1 := [.int (iI 1)]) (ws1 := wLw g r u qn qt qv od kn kt1 kv sc ns tx tn pl1 v pa sd rr rq sv ap nw th rm rd hh o tx tn) rfl rfl rfl ?_
    refine J.wide (k := cells + 1) (n := slots + 6) hw1 hw2 ?_
    refine j_istore (L1 := [(5, .int (iI 1)), (0, .ref b0), (1, .ref (r 0)), (2, .ref (u 0)), (3, .ref od), (4, .int (iI (4 * (n : Int))))]) C dL_law_513 (by decide) rfl ?_
    refine j_aload_n C 3 dL_law_515 rfl rfl ?_
    refine j_aload_n C 1 dL_law_516 rfl rfl ?_
    refine j_iload C 5 dL_law_517 rfl ?_
    refine j_iconst C dL_law_519 ?_
    refine j_iadd C dL_law_520 ?_
    refine j_sld C hX hbl hbA (4 * n + 1) (by omega) (by omega) (by omega) e1 dL_law_521 ?_
    refine j_aload_n C 1 dL_law_522 rfl rfl ?_
    refine j_iload C 5 dL_law_523 rfl ?_
    refine j_iconst C dL_law_525 ?_
    refine j_iadd C dL_law_526 ?_
    refine j_sld C hX hbl hbA (4 * n + 2) (by omega) (by omega) (by omega) e2 dL_law_527 ?_
    refine j_callV (As := [.int (iI x1), .int (iI x2)]) (rest := []) C yv_X5_haul qw782 (c_X5_haul_n1 l g u v pa sd tx rr rq sv (tn : Int) th (ap : Int) rm rd (nw : Int) hh x1 x2 hm hsv (by omega) (by omega) (by omega)) (by decide) 0 rfl rfl rfl dL_law_528 rfl (Nat.le_of_ble_eq_true rfl) hcA (pfR ([(u 3, aL g 75 sd), (u 4, aI g 60 tx), (u 5, aI g 10 rr), (u 6, aI g 4 rq)] ++ ((od, aL g 1 (o)) :: wTp g r qn qt qv kn kt1 kv sc ns tx tn pl1))) rfl (fun r9 w9 hq9 => ?_)
    obtain ⟨rfl, rfl⟩ := hq9
    refine J.to (L1 := [(5, .int (iI 1)), (0, .ref b0), (1, .ref (r 0)), (2, .ref (u 0)), (3, .ref od), (4, .int (iI (4 * (n : Int))))]) (S1 := [.int (iI 0)]) (ws1 := wLw g r u qn qt qv od kn kt1 kv sc ns tx tn pl1 v pa sd rr rq sv ap nw 1 rm rd hh o tx tn) rfl rfl rfl ?_
    refine J.wide (k := (cells + 1)) (n := (slots + 6)) (Nat.le_refl _) (Nat.le_refl _) ?_
    refine j_istore (L1 := [(6, .int (iI 0)), (5, .int (iI 1)), (0, .ref b0), (1, .ref (r 0)), (2, .ref (u 0)), (3, .ref od), (4, .int (iI (4 * (n : Int))))]) C dL_law_531 (by decide) rfl ?_
    refine j_aload_n C 4 dL_law_533 rfl rfl ?_
    refine j_callV (As := []) (rest := []) C yv_X5_thrown qw706 (c_X5_thrown l g u v (sv : Int) (tn : Int) 1 (ap : Int) rm rd (nw : Int) hh) (by decide) 0 rfl rfl rfl dL_law_534 rfl (Nat.le_of_ble_eq_true rfl) hcA (pfR ([(u 1, aL g 75 v), (u 2, aL g 300 pa), (u 3, aL g 75 sd), (u 4, aI g 60 tx), (u 5, aI g 10 rr), (u 6, aI g 4 rq)] ++ ((od, aL g 1 (o)) :: wTp g r qn qt qv kn kt1 kv sc ns tx tn pl1))) rfl (fun r9 w9 hq9 => ?_)
    obtain ⟨rfl, rfl⟩ := hq9
    refine J.to (L1 := [(6, .int (iI 0)), (5, .int (iI 1)), (0, .ref b0), (1, .ref (r 0)), (2, .ref (u 0)), (3, .ref od), (4, .int (iI (4 * (n : Int))))]) (S1 := [.int (iI 1)]) (ws1 := wLw g r u qn qt qv od kn kt1 kv sc ns tx tn pl1 v pa sd rr rq sv ap nw 1 rm rd hh o tx tn) rfl rfl rfl ?_
    refine J.wide (k := (cells + 1)) (n := (slots + 6)) (Nat.le_refl _) (Nat.le_refl _) ?_
    refine j_iload C 1 dL_law_537 rfl ?_
    refine j_isame (tgt := 544) C rfl dL_law_539 (by decide) ?_
    refine j_iload C 1 dL_law_544 rfl ?_
    refine j_if_ne (tgt := 561) C (by decide) dL_law_546 (by decide) (fun _ => ?_) (fun h9 => absurd h9 (by decide))
    refine j_goto (tgt := 1603) C dL_law_561 (by decide) ?_
    refine J.sub (L1 := [(0, .ref b0), (1, .ref (r 0)), (2, .ref (u 0)), (3, .ref od), (4, .int (iI (4 * (n : Int))))]) [2, 3, 4, 5, 6] rfl ?_
    exact kk kn kt1 kv sc ns tx tn pl1 v pa sd rr rq sv ap nw 1 rm rd hh o hI.next
set_option maxRecDepth 100000 in
set_option maxHeartbeats 4000000 in
theorem law_7 {p : Program} {l : Launch} {e : Env} {s : State} {m : MethodId} {args : Array Value} {below : List Frame} {meth : Method} {c : Code} {g : Gh} {A : Nat → Prop} {r u : Nat → Nat} {qn qt : Nat → Nat} {qv : Nat → Nat → Nat} {od b0 n0 n : Nat} {xs : Nat → Int32} {Q : State → Prop} {cells slots : Nat} (C : Cx p g s m args c cL_law 9 RL A) (hl : l.stackTraces = false) (hX : va_X b0 n0 xs s s.heap) (hbl : b0 < s.heap.size) (hbA : ¬ A b0) (hn0 : n0 ≤ 2048) (hn : 4 * n + 3 < n0) (hc : cells + 1 ≤ room_1.cells ∧ slots + 6 ≤ room_1.slots) (kk : LJ p l e s m args below meth c g A r u qn qt qv od b0 Q 1603 (n + 1) (4 * (n : Int)) (cells + 1) (slots + 6)) : LJ p l e s m args below meth c g A r u qn qt qv od b0 Q 564 n (4 * (n : Int)) cells slots := by
  intro kn kt kv sc ns tx tn pl v pa sd rr rq sv ap nw th rm rd hh o hI
  have hR := hI.2.2.2.1
  have hk := hI.1.1.1
  have hm := rel_ok hR hk
  have hscv := hI.2.2.2.2.2.1.1
  have hsv : sv ≤ 4 := hI.2.2.2.2.2.1.2
  have hns := hI.1.2.2.2.1
  have htn := hI.1.2.2.2.2.1
  have htx := hI.1.2.2.2.2.2
  have r2 := hR.1 2 (by decide)
  have hk2 := hk.1
  have hcA : cells + 1 + 0 ≤ room_1.cells ∧ slots + 6 + 0 ≤ room_1.slots := hc
  have hc0 : cells + 0 ≤ room_1.cells ∧ slots + 0 ≤ room_1.slots := ⟨Nat.le_of_succ_le hc.1, by omega⟩
  have hv1 : cells + 0 ≤ cells + 1 := Nat.le_add_right cells 1
  have hv2 : slots + 0 ≤ slots + 6 := Nat.le_add_right slots 6
  have hw1 : cells + 1 ≤ cells + 1 := Nat.le_refl _
  have hw2 : slots + 6 ≤ slots + 6 := Nat.le_refl _
  obtain ⟨x1, e1⟩ : ∃ x1 : Int, (xs (4 * n + 1)).toInt = x1 := ⟨_, rfl⟩
  have h1 := rngI (xs (4 * n + 1))
  rw [e1] at h1
  obtain ⟨x2, e2⟩ : ∃ x2 : Int, (xs (4 * n + 2)).toInt = x2 := ⟨_, rfl⟩
  have h2 := rngI (xs (4 * n + 2))
  rw [e2] at h2
  have hhn : 0 ≤ hndV v := by rw [← rel_hnd hR]; exact hI.1.1.2
  by_cases q1 : 0 ≤ x1 ∧ x1 ≤ 1000000
  · by_cases q2 : 0 ≤ x2 ∧ x2 ≤ 100000
    · refine j_aload_n C 1 dL_law_564 rfl rfl ?_
      refine j_aload_n C 0 dL_law_565 rfl rfl ?_
      refine j_iload C 4 dL_law_566 rfl ?_
      refine j_iconst C dL_law_568 ?_
      refine j_iadd C dL_law_569 ?_
      refine j_sld C hX hbl hbA (4 * n + 1) (by omega) (by omega) (by omega) e1 dL_law_570 ?_
      refine j_aload_n C 0 dL_law_571 rfl rfl ?_
      refine j_iload C 4 dL_law_572 rfl ?_
      refine j_iconst C dL_law_574 ?_
      refine j_iadd C dL_law_575 ?_
      refine j_sld C hX hbl hbA (4 * n + 2) (by omega) (by omega) (by omega) e2 dL_law_576 ?_
      refine j_aload_n C 3 dL_law_577 rfl rfl ?_
      refine j_callSW (As := [.ref (r 0), .int (iI x1), .int (iI x2), .ref od]) (rest := []) C yw_L_letOut qw543 (w_letOut_0 l g r qn qt qv kn kt kv sc ns tx tn pl od o x1 x2 hI.1 (by omega) (by omega)) (by decide) rfl dL_law_578 rfl (Nat.le_of_ble_eq_true rfl) hc0 (pfL (wMd g u v pa sd tx rr rq (sv : Int) (tn : Int) th (ap : Int) rm rd (nw : Int) hh)) rfl (fun r9 w9 hq9 => ?_)
      obtain ⟨rfl, kt1, pl1, rfl⟩ := hq9
      refine J.to (L1 := [(0, .ref b0), (1, .ref (r 0)), (2, .ref (u 0)), (3, .ref od), (4, .int (iI (4 * (n : Int))))]) (S1 := [.int (iI 0)]) (ws1 := wLw g r u qn qt qv od ((mdn x1 x2 kn).1) kt1 (svk kn kv ns) (svs sc) (svn ns) tx tn pl1 v pa sd rr rq sv ap nw th rm rd hh (va_up o 0 (w32 (((mdn x1 x2 kn).2)))) tx tn) rfl rfl rfl ?_
      refine J.wide (k := cells + 1) (n := slots + 6) hv1 hv2 ?_
      refine j_istore (L1 := [(5, .int (iI 0)), (0, .ref b0), (1, .ref (r 0)), (2, .ref (u 0)), (3, .ref od), (4, .int (iI (4 * (n : Int))))]) C dL_law_581 (by decide) rfl ?_
      refine j_aload_n C 3 dL_law_583 rfl rfl ?_
      refine j_aload_n C 1 dL_law_584 rfl rfl ?_
      refine j_iload C 5 dL_law_585 rfl ?_
      refine j_iconst C dL_law_587 ?_
      refine j_iadd C dL_law_588 ?_
      refine j_sld C hX hbl hbA (4 * n + 1) (by omega) (by omega) (by omega) e1 dL_law_589 ?_
      refine j_aload_n C 1 dL_law_590 rfl rfl ?_
      refine j_iload C 5 dL_law_591 rfl ?_
      refine j_iconst C dL_law_593 ?_
      refine j_iadd C dL_law_594 ?_
      refine j_sld C hX hbl hbA (4 * n + 2) (by omega) (by omega) (by omega) e2 dL_law_595 ?_
      refine j_callV (As := [.int (iI x1), .int (iI x2)]) (rest := []) C yv_X5_letOut qw823 (c_X5_letOut_ok l g u v pa sd tx rr rq sv (tn : Int) th (ap : Int) rm rd (nw : Int) hh x1 x2 hm hsv (by omega) (by omega) hhn) (by decide) 0 rfl rfl rfl dL_law_596 rfl (Nat.le_of_ble_eq_true rfl) hcA (pfR ([(u 3, aL g 75 sd), (u 4, aI g 60 tx), (u 5, aI g 10 rr), (u 6, aI g 4 rq)] ++ ((od, aL g 1 (va_up o 0 (w32 (((mdn x1 x2 kn).2))))) :: wTp g r qn qt qv ((mdn x1 x2 kn).1) kt1 (svk kn kv ns) (svs sc) (svn ns) tx tn pl1))) rfl (fun r9 w9 hq9 => ?_)
      obtain ⟨rfl, rfl⟩ := hq9
      refine J.to (L1 := [(5, .int (iI 0)), (0, .ref b0), (1, .ref (r 0)), (2, .ref (u 0)), (3, .ref od), (4, .int (iI (4 * (n : Int))))]) (S1 := [.int (iI ((letV x1 x2 v).2))]) (ws1 := wLw g r u qn qt qv od ((mdn x1 x2 kn).1) kt1 (svk kn kv ns) (svs sc) (svn ns) tx tn pl1 ((letV x1 x2 v).1) (svP v pa sv) sd rr rq (svN sv) ap nw 0 rm rd hh (va_up o 0 (w32 (((mdn x1 x2 kn).2)))) tx tn) rfl rfl rfl ?_
      refine J.wide (k := (cells + 1)) (n := (slots + 6)) (Nat.le_refl _) (Nat.le_refl _) ?_
      refine j_istore (L1 := [(6, .int (iI ((letV x1 x2 v).2))), (5, .int (iI 0)), (0, .ref b0), (1, .ref (r 0)), (2, .ref (u 0)), (3, .ref od), (4, .int (iI (4 * (n : Int))))]) C dL_law_599 (by decide) rfl ?_
      refine j_aload_n C 4 dL_law_601 rfl rfl ?_
      refine j_callV (As := []) (rest := []) C yv_X5_thrown qw706 (c_X5_thrown l g u ((letV x1 x2 v).1) ((svN sv : Nat) : Int) (tn : Int) 0 (ap : Int) rm rd (nw : Int) hh) (by decide) 0 rfl rfl rfl dL_law_602 rfl (Nat.le_of_ble_eq_true rfl) hcA (pfR ([(u 1, aL g 75 ((letV x1 x2 v).1)), (u 2, aL g 300 (svP v pa sv)), (u 3, aL g 75 sd), (u 4, aI g 60 tx), (u 5, aI g 10 rr), (u 6, aI g 4 rq)] ++ ((od, aL g 1 (va_up o 0 (w32 (((mdn x1 x2 kn).2))))) :: wTp g r qn qt qv ((mdn x1 x2 kn).1) kt1 (svk kn kv ns) (svs sc) (svn ns) tx tn pl1))) rfl (fun r9 w9 hq9 => ?_)
      obtain ⟨rfl, rfl⟩ := hq9
      refine J.to (L1 := [(6, .int (iI ((letV x1 x2 v).2))), (5, .int (iI 0)), (0, .ref b0), (1, .ref (r 0)), (2, .ref (u 0)), (3, .ref od), (4, .int (iI (4 * (n : Int))))]) (S1 := [.int (iI 0)]) (ws1 := wLw g r u qn qt qv od ((mdn x1 x2 kn).1) kt1 (svk kn kv ns) (svs sc) (svn ns) tx tn pl1 ((letV x1 x2 v).1) (svP v pa sv) sd rr rq (svN sv) ap nw 0 rm rd hh (va_up o 0 (w32 (((mdn x1 x2 kn).2)))) tx tn) rfl rfl rfl ?_
      refine J.wide (k := (cells + 1)) (n := (slots + 6)) (Nat.le_refl _) (Nat.le_refl _) ?_
      refine j_iload C 1 dL_law_605 rfl ?_
      refine j_isame (tgt := 612) C rfl dL_law_607 (by decide) ?_
      refine j_iload C 1 dL_law_612 rfl ?_
      refine j_if_ne (tgt := 629) C (by decide) dL_law_614 (by decide) (fun h9 => absurd h9 (by decide)) (fun _ => ?_)
      refine j_aload_n C 5 dL_law_617 rfl rfl ?_
      refine j_iconst C dL_law_618 ?_
      refine j_lald (f := va_up o 0 (w32 (((mdn x1 x2 kn).2)))) C 7 0 rfl rfl (by decide) (by decide) dL_law_619 ?_
      refine J.to (L1 := [(6, .int (iI ((letV x1 x2 v).2))), (5, .int (iI 0)), (0, .ref b0), (1, .ref (r 0)), (2, .ref (u 0)), (3, .ref od), (4, .int (iI (4 * (n : Int))))]) (S1 := [.long (lI (w32 (((mdn x1 x2 kn).2))))]) (ws1 := wLw g r u qn qt qv od ((mdn x1 x2 kn).1) kt1 (svk kn kv ns) (svs sc) (svn ns) tx tn pl1 ((letV x1 x2 v).1) (svP v pa sv) sd rr rq (svN sv) ap nw 0 rm rd hh (va_up o 0 (w32 (((mdn x1 x2 kn).2)))) tx tn) rfl rfl rfl ?_
      refine j_iload C 0 dL_law_620 rfl ?_
      refine j_i2lw C dL_law_622 ?_
      have heq : (((mdn x1 x2 kn).2) : Int) = ((letV x1 x2 v).2) := (rel_mdn hR hk q2.1 hI.1.1.2).2
      refine j_lsame (tgt := 629) C (congrArg w32 heq) dL_law_623 dL_law_624 (by decide) ?_
      refine j_goto (tgt := 1603) C dL_law_629 (by decide) ?_
      refine J.sub (L1 := [(0, .ref b0), (1, .ref (r 0)), (2, .ref (u 0)), (3, .ref od), (4, .int (iI (4 * (n : Int))))]) [2, 3, 4, 5, 6] rfl ?_
      exact kk ((mdn x1 x2 kn).1) kt1 (svk kn kv ns) (svs sc) (svn ns) tx tn pl1 ((letV x1 x2 v).1) (svP v pa sv) sd rr rq (svN sv) ap nw 0 rm rd hh (va_up o 0 (w32 (((mdn x1 x2 kn).2)))) (hI.dn q2)
    · refine j_aload_n C 1 dL_law_564 rfl rfl ?_
      refine j_aload_n C 0 dL_law_565 rfl rfl ?_
      refine j_iload C 4 dL_law_566 rfl ?_
      refine j_iconst C dL_law_568 ?_
      refine j_iadd C dL_law_569 ?_
      refine j_sld C hX hbl hbA (4 * n + 1) (by omega) (by omega) (by omega) e1 dL_law_570 ?_
      refine j_aload_n C 0 dL_law_571 rfl rfl ?_
      refine j_iload C 4 dL_law_572 rfl ?_
      refine j_iconst C dL_law_574 ?_
      refine j_iadd C dL_law_575 ?_
      refine j_sld C hX hbl hbA (4 * n + 2) (by omega) (by omega) (by omega) e2 dL_law_576 ?_
      refine j_aload_n C 3 dL_law_577 rfl rfl ?_
      refine j_callSW (As := [.ref (r 0), .int (iI x1), .int (iI x2), .ref od]) (rest := []) C yw_L_letOut qw543 (w_letOut_1b l hl g r qn qt qv kn kt kv sc ns tx tn pl od o x1 x2 hI.1 (by omega) (by omega) (by omega) (by omega)) (by decide) rfl dL_law_578 rfl (Nat.le_of_ble_eq_true rfl) hc (pfL (wMd g u v pa sd tx rr rq (sv : Int) (tn : Int) th (ap : Int) rm rd (nw : Int) hh)) rfl (fun r9 w9 hq9 => ?_)
      obtain ⟨rfl, kt1, pl1, rfl⟩ := hq9
      refine J.to (L1 := [(0, .ref b0), (1, .ref (r 0)), (2, .ref (u 0)), (3, .ref od), (4, .int (iI (4 * (n : Int))))]) (S1 := [.int (iI 1)]) (ws1 := wLw g r u qn qt qv od kn kt1 kv sc ns tx tn pl1 v pa sd rr rq sv ap nw th rm rd hh o tx tn) rfl rfl rfl ?_
      refine J.wide (k := cells + 1) (n := slots + 6) hw1 hw2 ?_
      refine j_istore (L1 := [(5, .int (iI 1)), (0, .ref b0), (1, .ref (r 0)), (2, .ref (u 0)), (3, .ref od), (4, .int (iI (4 * (n : Int))))]) C dL_law_581 (by decide) rfl ?_
      refine j_aload_n C 3 dL_law_583 rfl rfl ?_
      refine j_aload_n C 1 dL_law_584 rfl rfl ?_
      refine j_iload C 5 dL_law_585 rfl ?_
      refine j_iconst C dL_law_587 ?_
      refine j_iadd C dL_law_588 ?_
      refine j_sld C hX hbl hbA (4 * n + 1) (by omega) (by omega) (by omega) e1 dL_law_589 ?_
      refine j_aload_n C 1 dL_law_590 rfl rfl ?_
      refine j_iload C 5 dL_law_591 rfl ?_
      refine j_iconst C dL_law_593 ?_
      refine j_iadd C dL_law_594 ?_
      refine j_sld C hX hbl hbA (4 * n + 2) (by omega) (by omega) (by omega) e2 dL_law_595 ?_
      refine j_callV (As := [.int (iI x1), .int (iI x2)]) (rest := []) C yv_X5_letOut qw823 (c_X5_letOut_n2 l g u v pa sd tx rr rq sv (tn : Int) th (ap : Int) rm rd (nw : Int) hh x1 x2 hm hsv (by omega) (by omega) (by omega) (by omega)) (by decide) 0 rfl rfl rfl dL_law_596 rfl (Nat.le_of_ble_eq_true rfl) hcA (pfR ([(u 3, aL g 75 sd), (u 4, aI g 60 tx), (u 5, aI g 10 rr), (u 6, aI g 4 rq)] ++ ((od, aL g 1 (o)) :: wTp g r qn qt qv kn kt1 kv sc ns tx tn pl1))) rfl (fun r9 w9 hq9 => ?_)
      obtain ⟨rfl, rfl⟩ := hq9
      refine J.to (L1 := [(5, .int (iI 1)), (0, .ref b0), (1, .ref (r 0)), (2, .ref (u 0)), (3, .ref od), (4, .int (iI (4 * (n : Int))))]) (S1 := [.int (iI 0)]) (ws1 := wLw g r u qn qt qv od kn kt1 kv sc ns tx tn pl1 v pa sd rr rq sv ap nw 1 rm rd hh o tx tn) rfl rfl rfl ?_
      refine J.wide (k := (cells + 1)) (n := (slots + 6)) (Nat.le_refl _) (Nat.le_refl _) ?_
      refine j_istore (L1 := [(6, .int (iI 0)), (5, .int (iI 1)), (0, .ref b0), (1, .ref (r 0)), (2, .ref (u 0)), (3, .ref od), (4, .int (iI (4 * (n : Int))))]) C dL_law_599 (by decide) rfl ?_
      refine j_aload_n C 4 dL_law_601 rfl rfl ?_
      refine j_callV (As := []) (rest := []) C yv_X5_thrown qw706 (c_X5_thrown l g u v (sv : Int) (tn : Int) 1 (ap : Int) rm rd (nw : Int) hh) (by decide) 0 rfl rfl rfl dL_law_602 rfl (Nat.le_of_ble_eq_true rfl) hcA (pfR ([(u 1, aL g 75 v), (u 2, aL g 300 pa), (u 3, aL g 75 sd), (u 4, aI g 60 tx), (u 5, aI g 10 rr), (u 6, aI g 4 rq)] ++ ((od, aL g 1 (o)) :: wTp g r qn qt qv kn kt1 kv sc ns tx tn pl1))) rfl (fun r9 w9 hq9 => ?_)
      obtain ⟨rfl, rfl⟩ := hq9
      refine J.to (L1 := [(6, .int (iI 0)), (5, .int (iI 1)), (0, .ref b0), (1, .ref (r 0)), (2, .ref (u 0)), (3, .ref od), (4, .int (iI (4 * (n : Int))))]) (S1 := [.int (iI 1)]) (ws1 := wLw g r u qn qt qv od kn kt1 kv sc ns tx tn pl1 v pa sd rr rq sv ap nw 1 rm rd hh o tx tn) rfl rfl rfl ?_
      refine J.wide (k := (cells + 1)) (n := (slots + 6)) (Nat.le_refl _) (Nat.le_refl _) ?_
      refine j_iload C 1 dL_law_605 rfl ?_
      refine j_isame (tgt := 612) C rfl dL_law_607 (by decide) ?_
      refine j_iload C 1 dL_law_612 rfl ?_
      refine j_if_ne (tgt := 629) C (by decide) dL_law_614 (by decide) (fun _ => ?_) (fun h9 => absurd h9 (by decide))
      refine j_goto (tgt := 1603) C dL_law_629 (by decide) ?_
      refine J.sub (L1 := [(0, .ref b0), (1, .ref (r 0)), (2, .ref (u 0)), (3, .ref od), (4, .int (iI (4 * (n : Int))))]) [2, 3, 4, 5, 6] rfl ?_
      exact kk kn kt1 kv sc ns tx tn pl1 v pa sd rr rq sv ap nw 1 rm rd hh o hI.next
  · refine j_aload_n C 1 dL_law_564 rfl rfl ?_
    refine j_aload_n C 0 dL_law_565 rfl rfl ?_
    refine j_iload C 4 dL_law_566 rfl ?_
    refine j_iconst C dL_law_568 ?_
    refine j_iadd C dL_law_569 ?_
    refine j_sld C hX hbl hbA (4 * n + 1) (by omega) (by omega) (by omega) e1 dL_law_570 ?_
    refine j_aload_n C 0 dL_law_571 rfl rfl ?_
    refine j_iload C 4 dL_law_572 rfl ?_
    refine j_iconst C dL_law_574 ?_
    refine j_iadd C dL_law_575 ?_
    refine j_sld C hX hbl hbA (4 * n + 2) (by omega) (by omega) (by omega) e2 dL_law_576 ?_
    refine j_aload_n C 3 dL_law_577 rfl rfl ?_
    refine j_callSW (As := [.ref (r 0), .int (iI x1), .int (iI x2), .ref od]) (rest := []) C yw_L_letOut qw543 (w_letOut_1 l hl g r qn qt qv kn kt kv sc ns tx tn pl od o x1 x2 hI.1 (by omega) (by omega) (by omega)) (by decide) rfl dL_law_578 rfl (Nat.le_of_ble_eq_true rfl) hc (pfL (wMd g u v pa sd tx rr rq (sv : Int) (tn : Int) th (ap : Int) rm rd (nw : Int) hh)) rfl (fun r9 w9 hq9 => ?_)
    obtain ⟨rfl, kt1, pl1, rfl⟩ := hq9
    refine J.to (L1 := [(0, .ref b0), (1, .ref (r 0)), (2, .ref (u 0)), (3, .ref od), (4, .int (iI (4 * (n : Int))))]) (S1 := [.int (iI 1)]) (ws1 := wLw g r u qn qt qv od kn kt1 kv sc ns tx tn pl1 v pa sd rr rq sv ap nw th rm rd hh o tx tn) rfl rfl rfl ?_
    refine J.wide (k := cells + 1) (n := slots + 6) hw1 hw2 ?_
    refine j_istore (L1 := [(5, .int (iI 1)), (0, .ref b0), (1, .ref (r 0)), (2, .ref (u 0)), (3, .ref od), (4, .int (iI (4 * (n : Int))))]) C dL_law_581 (by decide) rfl ?_
    refine j_aload_n C 3 dL_law_583 rfl rfl ?_
    refine j_aload_n C 1 dL_law_584 rfl rfl ?_
    refine j_iload C 5 dL_law_585 rfl ?_
    refine j_iconst C dL_law_587 ?_
    refine j_iadd C dL_law_588 ?_
    refine j_sld C hX hbl hbA (4 * n + 1) (by omega) (by omega) (by omega) e1 dL_law_589 ?_
    refine j_aload_n C 1 dL_law_590 rfl rfl ?_
    refine j_iload C 5 dL_law_591 rfl ?_
    refine j_iconst C dL_law_593 ?_
    refine j_iadd C dL_law_594 ?_
    refine j_sld C hX hbl hbA (4 * n + 2) (by omega) (by omega) (by omega) e2 dL_law_595 ?_
    refine j_callV (As := [.int (iI x1), .int (iI x2)]) (rest := []) C yv_X5_letOut qw823 (c_X5_letOut_n1 l g u v pa sd tx rr rq sv (tn : Int) th (ap : Int) rm rd (nw : Int) hh x1 x2 hm hsv (by omega) (by omega) (by omega)) (by decide) 0 rfl rfl rfl dL_law_596 rfl (Nat.le_of_ble_eq_true rfl) hcA (pfR ([(u 3, aL g 75 sd), (u 4, aI g 60 tx), (u 5, aI g 10 rr), (u 6, aI g 4 rq)] ++ ((od, aL g 1 (o)) :: wTp g r qn qt qv kn kt1 kv sc ns tx tn pl1))) rfl (fun r9 w9 hq9 => ?_)
    obtain ⟨rfl, rfl⟩ := hq9
    refine J.to (L1 := [(5, .int (iI 1)), (0, .ref b0), (1, .ref (r 0)), (2, .ref (u 0)), (3, .ref od), (4, .int (iI (4 * (n : Int))))]) (S1 := [.int (iI 0)]) (ws1 := wLw g r u qn qt qv od kn kt1 kv sc ns tx tn pl1 v pa sd rr rq sv ap nw 1 rm rd hh o tx tn) rfl rfl rfl ?_
    refine J.wide (k := (cells + 1)) (n := (slots + 6)) (Nat.le_refl _) (Nat.le_refl _) ?_
    refine j_istore (L1 := [(6, .int (iI 0)), (5, .int (iI 1)), (0, .ref b0), (1, .ref (r 0)), (2, .ref (u 0)), (3, .ref od), (4, .int (iI (4 * (n : Int))))]) C dL_law_599 (by decide) rfl ?_
    refine j_aload_n C 4 dL_law_601 rfl rfl ?_
    refine j_callV (As := []) (rest := []) C yv_X5_thrown qw706 (c_X5_thrown l g u v (sv : Int) (tn : Int) 1 (ap : Int) rm rd (nw : Int) hh) (by decide) 0 rfl rfl rfl dL_law_602 rfl (Nat.le_of_ble_eq_true rfl) hcA (pfR ([(u 1, aL g 75 v), (u 2, aL g 300 pa), (u 3, aL g 75 sd), (u 4, aI g 60 tx), (u 5, aI g 10 rr), (u 6, aI g 4 rq)] ++ ((od, aL g 1 (o)) :: wTp g r qn qt qv kn kt1 kv sc ns tx tn pl1))) rfl (fun r9 w9 hq9 => ?_)
    obtain ⟨rfl, rfl⟩ := hq9
    refine J.to (L1 := [(6, .int (iI 0)), (5, .int (iI 1)), (0, .ref b0), (1, .ref (r 0)), (2, .ref (u 0)), (3, .ref od), (4, .int (iI (4 * (n : Int))))]) (S1 := [.int (iI 1)]) (ws1 := wLw g r u qn qt qv od kn kt1 kv sc ns tx tn pl1 v pa sd rr rq sv ap nw 1 rm rd hh o tx tn) rfl rfl rfl ?_
    refine J.wide (k := (cells + 1)) (n := (slots + 6)) (Nat.le_refl _) (Nat.le_refl _) ?_
    refine j_iload C 1 dL_law_605 rfl ?_
    refine j_isame (tgt := 612) C rfl dL_law_607 (by decide) ?_
    refine j_iload C 1 dL_law_612 rfl ?_
    refine j_if_ne (tgt := 629) C (by decide) dL_law_614 (by decide) (fun _ => ?_) (fun h9 => absurd h9 (by decide))
    refine j_goto (tgt := 1603) C dL_law_629 (by decide) ?_
    refine J.sub (L1 := [(0, .ref b0), (1, .ref (r 0)), (2, .ref (u 0)), (3, .ref od), (4, .int (iI (4 * (n : Int))))]) [2, 3, 4, 5, 6] rfl ?_
    exact kk kn kt1 kv sc ns tx tn pl1 v pa sd rr rq sv ap nw 1 rm rd hh o hI.next
set_option maxRecDepth 100000 in
set_option maxHeartbeats 4000000 in
theorem law_8 {p : Program} {l : Launch} {e : Env} {s : State} {m : MethodId} {args : Array Value} {below : List Frame} {meth : Method} {c : Code} {g : Gh} {A : Nat → Prop} {r u : Nat → Nat} {qn qt : Nat → Nat} {qv : Nat → Nat → Nat} {od b0 n0 n : Nat} {xs : Nat → Int32} {Q : State → Prop} {cells slots : Nat} (C : Cx p g s m args c cL_law 9 RL A) (hl : l.stackTraces = false) (hX : va_X b0 n0 xs s s.heap) (hbl : b0 < s.heap.size) (hbA : ¬ A b0) (hn0 : n0 ≤ 2048) (hn : 4 * n + 3 < n0) (hc : cells + 1 ≤ room_1.cells ∧ slots + 6 ≤ room_1.slots) (kk : LJ p l e s m args below meth c g A r u qn qt qv od b0 Q 1603 (n + 1) (4 * (n : Int)) (cells + 1) (slots + 6)) : LJ p l e s m args below meth c g A r u qn qt qv od b0 Q 632 n (4 * (n : Int)) cells slots := by
  intro kn kt kv sc ns tx tn pl v pa sd rr rq sv ap nw th rm rd hh o hI
  have hR := hI.2.2.2.1
  have hk := hI.1.1.1
  have hm := rel_ok hR hk
  have hscv := hI.2.2.2.2.2.1.1
  have hsv : sv ≤ 4 := hI.2.2.2.2.2.1.2
  have hns := hI.1.2.2.2.1
  have htn := hI.1.2.2.2.2.1
  have htx := hI.1.2.2.2.2.2
  have r2 := hR.1 2 (by decide)
  have hk2 := hk.1
  have hcA : cells + 1 + 0 ≤ room_1.cells ∧ slots + 6 + 0 ≤ room_1.slots := hc
  have hc0 : cells + 0 ≤ room_1.cells ∧ slots + 0 ≤ room_1.slots := ⟨Nat.le_of_succ_le hc.1, by omega⟩
  have hv1 : cells + 0 ≤ cells + 1 := Nat.le_add_right cells 1
  have hv2 : slots + 0 ≤ slots + 6 := Nat.le_add_right slots 6
  have hw1 : cells + 1 ≤ cells + 1 := Nat.le_refl _
  have hw2 : slots + 6 ≤ slots + 6 := Nat.le_refl _
  obtain ⟨x1, e1⟩ : ∃ x1 : Int, (xs (4 * n + 1)).toInt = x1 := ⟨_, rfl⟩
  have h1 := rngI (xs (4 * n + 1))
  rw [e1] at h1
  obtain ⟨x2, e2⟩ : ∃ x2 : Int, (xs (4 * n + 2)).toInt = x2 := ⟨_, rfl⟩
  have h2 := rngI (xs (4 * n + 2))
  rw [e2] at h2
  by_cases q1 : 0 ≤ x1 ∧ x1 < 4
  · by_cases q2 : 0 ≤ x2 ∧ x2 ≤ 6
    · refine j_aload_n C 1 dL_law_632 rfl rfl ?_
      refine j_aload_n C 0 dL_law_633 rfl rfl ?_
      refine j_iload C 4 dL_law_634 rfl ?_
      refine j_iconst C dL_law_636 ?_
      refine j_iadd C dL_law_637 ?_
      refine j_sld C hX hbl hbA (4 * n + 1) (by omega) (by omega) (by omega) e1 dL_law_638 ?_
      refine j_aload_n C 0 dL_law_639 rfl rfl ?_
      refine j_iload C 4 dL_law_640 rfl ?_
      refine j_iconst C dL_law_642 ?_
      refine j_iadd C dL_law_643 ?_
      refine j_sld C hX hbl hbA (4 * n + 2) (by omega) (by omega) (by omega) e2 dL_law_644 ?_
      refine j_aload_n C 3 dL_law_645 rfl rfl ?_
      refine j_callSW (As := [.ref (r 0), .int (iI x1), .int (iI x2), .ref od]) (rest := []) C yw_L_block qw555 (w_block_0 l g r qn qt qv kn kt kv sc ns tx tn pl od o x1 x2 hI.1 (by omega) (by omega)) (by decide) rfl dL_law_646 rfl (Nat.le_of_ble_eq_true rfl) hc0 (pfL (wMd g u v pa sd tx rr rq (sv : Int) (tn : Int) th (ap : Int) rm rd (nw : Int) hh)) rfl (fun r9 w9 hq9 => ?_)
      obtain ⟨rfl, kt1, pl1, rfl⟩ := hq9
      refine J.to (L1 := [(0, .ref b0), (1, .ref (r 0)), (2, .ref (u 0)), (3, .ref od), (4, .int (iI (4 * (n : Int))))]) (S1 := [.int (iI 0)]) (ws1 := wLw g r u qn qt qv od kn kt1 kv sc ns tx tn pl1 v pa sd rr rq sv ap nw th rm rd hh (va_up o 0 (w32 ((blkF kn x1 x2)))) tx tn) rfl rfl rfl ?_
      refine J.wide (k := cells + 1) (n := slots + 6) hv1 hv2 ?_
      refine j_istore (L1 := [(5, .int (iI 0)), (0, .ref b0), (1, .ref (r 0)), (2, .ref (u 0)), (3, .ref od), (4, .int (iI (4 * (n : Int))))]) C dL_law_649 (by decide) rfl ?_
      refine j_aload_n C 3 dL_law_651 rfl rfl ?_
      refine j_aload_n C 1 dL_law_652 rfl rfl ?_
      refine j_iload C 5 dL_law_653 rfl ?_
      refine j_iconst C dL_law_655 ?_
      refine j_iadd C dL_law_656 ?_
      refine j_sld C hX hbl hbA (4 * n + 1) (by omega) (by omega) (by omega) e1 dL_law_657 ?_
      refine j_aload_n C 1 dL_law_658 rfl rfl ?_
      refine j_iload C 5 dL_law_659 rfl ?_
      refine j_iconst C dL_law_661 ?_
      refine j_iadd C dL_law_662 ?_
      refine j_sld C hX hbl hbA (4 * n + 2) (by omega) (by omega) (by omega) e2 dL_law_663 ?_
      refine j_callV (As := [.int (iI x1), .int (iI x2)]) (rest := []) C yv_X5_block qw831 (c_X5_block_ok l g u v pa sd tx rr rq sv (tn : Int) th (ap : Int) rm rd (nw : Int) hh x1 x2 hm hsv (by omega) (by omega)) (by decide) 0 rfl rfl rfl dL_law_664 rfl (Nat.le_of_ble_eq_true rfl) hcA (pfR ([(u 3, aL g 75 sd), (u 4, aI g 60 tx), (u 5, aI g 10 rr), (u 6, aI g 4 rq)] ++ ((od, aL g 1 (va_up o 0 (w32 ((blkF kn x1 x2))))) :: wTp g r qn qt qv kn kt1 kv sc ns tx tn pl1))) rfl (fun r9 w9 hq9 => ?_)
      obtain ⟨rfl, rfl⟩ := hq9
      refine J.to (L1 := [(5, .int (iI 0)), (0, .ref b0), (1, .ref (r 0)), (2, .ref (u 0)), (3, .ref od), (4, .int (iI (4 * (n : Int))))]) (S1 := [.int (iI (blkF (kV v) x1 x2))]) (ws1 := wLw g r u qn qt qv od kn kt1 kv sc ns tx tn pl1 v pa sd rr rq sv ap nw 0 rm rd hh (va_up o 0 (w32 ((blkF kn x1 x2)))) tx tn) rfl rfl rfl ?_
      refine J.wide (k := (cells + 1)) (n := (slots + 6)) (Nat.le_refl _) (Nat.le_refl _) ?_
      refine j_istore (L1 := [(6, .int (iI (blkF (kV v) x1 x2))), (5, .int (iI 0)), (0, .ref b0), (1, .ref (r 0)), (2, .ref (u 0)), (3, .ref od), (4, .int (iI (4 * (n : Int))))]) C dL_law_667 (by decide) rfl ?_
      refine j_aload_n C 4 dL_law_669 rfl rfl ?_
      refine j_callV (As := []) (rest := []) C yv_X5_thrown qw706 (c_X5_thrown l g u v (sv : Int) (tn : Int) 0 (ap : Int) rm rd (nw : Int) hh) (by decide) 0 rfl rfl rfl dL_law_670 rfl (Nat.le_of_ble_eq_true rfl) hcA (pfR ([(u 1, aL g 75 v), (u 2, aL g 300 pa), (u 3, aL g 75 sd), (u 4, aI g 60 tx), (u 5, aI g 10 rr), (u 6, aI g 4 rq)] ++ ((od, aL g 1 (va_up o 0 (w32 ((blkF kn x1 x2))))) :: wTp g r qn qt qv kn kt1 kv sc ns tx tn pl1))) rfl (fun r9 w9 hq9 => ?_)
      obtain ⟨rfl, rfl⟩ := hq9
      refine J.to (L1 := [(6, .int (iI (blkF (kV v) x1 x2))), (5, .int (iI 0)), (0, .ref b0), (1, .ref (r 0)), (2, .ref (u 0)), (3, .ref od), (4, .int (iI (4 * (n : Int))))]) (S1 := [.int (iI 0)]) (ws1 := wLw g r u qn qt qv od kn kt1 kv sc ns tx tn pl1 v pa sd rr rq sv ap nw 0 rm rd hh (va_up o 0 (w32 ((blkF kn x1 x2)))) tx tn) rfl rfl rfl ?_
      refine J.wide (k := (cells + 1)) (n := (slots + 6)) (Nat.le_refl _) (Nat.le_refl _) ?_
      refine j_iload C 1 dL_law_673 rfl ?_
      refine j_isame (tgt := 680) C rfl dL_law_675 (by decide) ?_
      refine j_iload C 1 dL_law_680 rfl ?_
      refine j_if_ne (tgt := 697) C (by decide) dL_law_682 (by decide) (fun h9 => absurd h9 (by decide)) (fun _ => ?_)
      refine j_aload_n C 5 dL_law_685 rfl rfl ?_
      refine j_iconst C dL_law_686 ?_
      refine j_lald (f := va_up o 0 (w32 ((blkF kn x1 x2)))) C 7 0 rfl rfl (by decide) (by decide) dL_law_687 ?_
      refine J.to (L1 := [(6, .int (iI (blkF (kV v) x1 x2))), (5, .int (iI 0)), (0, .ref b0), (1, .ref (r 0)), (2, .ref (u 0)), (3, .ref od), (4, .int (iI (4 * (n : Int))))]) (S1 := [.long (lI (w32 ((blkF kn x1 x2))))]) (ws1 := wLw g r u qn qt qv od kn kt1 kv sc ns tx tn pl1 v pa sd rr rq sv ap nw 0 rm rd hh (va_up o 0 (w32 ((blkF kn x1 x2)))) tx tn) rfl rfl rfl ?_
      refine j_iload C 0 dL_law_688 rfl ?_
      refine j_i2lw C dL_law_690 ?_
      have heq : ((blkF kn x1 x2) : Int) = (blkF (kV v) x1 x2) := rel_blk hR q1 x2
      refine j_lsame (tgt := 697) C (congrArg w32 heq) dL_law_691 dL_law_692 (by decide) ?_
      refine j_goto (tgt := 1603) C dL_law_697 (by decide) ?_
      refine J.sub (L1 := [(0, .ref b0), (1, .ref (r 0)), (2, .ref (u 0)), (3, .ref od), (4, .int (iI (4 * (n : Int))))]) [2, 3, 4, 5, 6] rfl ?_
      exact kk kn kt1 kv sc ns tx tn pl1 v pa sd rr rq sv ap nw 0 rm rd hh (va_up o 0 (w32 ((blkF kn x1 x2)))) hI.next
    · refine j_aload_n C 1 dL_law_632 rfl rfl ?_
      refine j_aload_n C 0 dL_law_633 rfl rfl ?_
      refine j_iload C 4 dL_law_634 rfl ?_
      refine j_iconst C dL_law_636 ?_
      refine j_iadd C dL_law_637 ?_
      refine j_sld C hX hbl hbA (4 * n + 1) (by omega) (by omega) (by omega) e1 dL_law_638 ?_
      refine j_aload_n C 0 dL_law_639 rfl rfl ?_
      refine j_iload C 4 dL_law_640 rfl ?_
      refine j_iconst C dL_law_642 ?_
      refine j_iadd C dL_law_643 ?_
      refine j_sld C hX hbl hbA (4 * n + 2) (by omega) (by omega) (by omega) e2 dL_law_644 ?_
      refine j_aload_n C 3 dL_law_645 rfl rfl ?_
      refine j_callSW (As := [.ref (r 0), .int (iI x1), .int (iI x2), .ref od]) (rest := []) C yw_L_block qw555 (w_block_2 l hl g r qn qt qv kn kt kv sc ns tx tn pl od o x1 x2 hI.1 (by omega) (by omega) (by omega) (by omega)) (by decide) rfl dL_law_646 rfl (Nat.le_of_ble_eq_true rfl) hc (pfL (wMd g u v pa sd tx rr rq (sv : Int) (tn : Int) th (ap : Int) rm rd (nw : Int) hh)) rfl (fun r9 w9 hq9 => ?_)
      obtain ⟨rfl, kt1, pl1, rfl⟩ := hq9
      refine J.to (L1 := [(0, .ref b0), (1, .ref (r 0)), (2, .ref (u 0)), (3, .ref od), (4, .int (iI (4 * (n : Int))))]) (S1 := [.int (iI 2)]) (ws1 := wLw g r u qn qt qv od kn kt1 kv sc ns tx tn pl1 v pa sd rr rq sv ap nw th rm rd hh o tx tn) rfl rfl rfl ?_
      refine J.wide (k := cells + 1) (n := slots + 6) hw1 hw2 ?_
      refine j_istore (L1 := [(5, .int (iI 2)), (0, .ref b0), (1, .ref (r 0)), (2, .ref (u 0)), (3, .ref od), (4, .int (iI (4 * (n : Int))))]) C dL_law_649 (by decide) rfl ?_
      refine j_aload_n C 3 dL_law_651 rfl rfl ?_
      refine j_aload_n C 1 dL_law_652 rfl rfl ?_
      refine j_iload C 5 dL_law_653 rfl ?_
      refine j_iconst C dL_law_655 ?_
      refine j_iadd C dL_law_656 ?_
      refine j_sld C hX hbl hbA (4 * n + 1) (by omega) (by omega) (by omega) e1 dL_law_657 ?_
      refine j_aload_n C 1 dL_law_658 rfl rfl ?_
      refine j_iload C 5 dL_law_659 rfl ?_
      refine j_iconst C dL_law_661 ?_
      refine j_iadd C dL_law_662 ?_
      refine j_sld C hX hbl hbA (4 * n + 2) (by omega) (by omega) (by omega) e2 dL_law_663 ?_
      refine j_callV (As := [.int (iI x1), .int (iI x2)]) (rest := []) C yv_X5_block qw831 (c_X5_block_n2 l g u v pa sd tx rr rq sv (tn : Int) th (ap : Int) rm rd (nw : Int) hh x1 x2 hm hsv (by omega) (by omega) (by omega) (by omega)) (by decide) 0 rfl rfl rfl dL_law_664 rfl (Nat.le_of_ble_eq_true rfl) hcA (pfR ([(u 3, aL g 75 sd), (u 4, aI g 60 tx), (u 5, aI g 10 rr), (u 6, aI g 4 rq)] ++ ((od, aL g 1 (o)) :: wTp g r qn qt qv kn kt1 kv sc ns tx tn pl1))) rfl (fun r9 w9 hq9 => ?_)
      obtain ⟨rfl, rfl⟩ := hq9
      refine J.to (L1 := [(5, .int (iI 2)), (0, .ref b0), (1, .ref (r 0)), (2, .ref (u 0)), (3, .ref od), (4, .int (iI (4 * (n : Int))))]) (S1 := [.int (iI 0)]) (ws1 := wLw g r u qn qt qv od kn kt1 kv sc ns tx tn pl1 v pa sd rr rq sv ap nw 2 rm rd hh o tx tn) rfl rfl rfl ?_
      refine J.wide (k := (cells + 1)) (n := (slots + 6)) (Nat.le_refl _) (Nat.le_refl _) ?_
      refine j_istore (L1 := [(6, .int (iI 0)), (5, .int (iI 2)), (0, .ref b0), (1, .ref (r 0)), (2, .ref (u 0)), (3, .ref od), (4, .int (iI (4 * (n : Int))))]) C dL_law_667 (by decide) rfl ?_
      refine j_aload_n C 4 dL_law_669 rfl rfl ?_
      refine j_callV (As := []) (rest := []) C yv_X5_thrown qw706 (c_X5_thrown l g u v (sv : Int) (tn : Int) 2 (ap : Int) rm rd (nw : Int) hh) (by decide) 0 rfl rfl rfl dL_law_670 rfl (Nat.le_of_ble_eq_true rfl) hcA (pfR ([(u 1, aL g 75 v), (u 2, aL g 300 pa), (u 3, aL g 75 sd), (u 4, aI g 60 tx), (u 5, aI g 10 rr), (u 6, aI g 4 rq)] ++ ((od, aL g 1 (o)) :: wTp g r qn qt qv kn kt1 kv sc ns tx tn pl1))) rfl (fun r9 w9 hq9 => ?_)
      obtain ⟨rfl, rfl⟩ := hq9
      refine J.to (L1 := [(6, .int (iI 0)), (5, .int (iI 2)), (0, .ref b0), (1, .ref (r 0)), (2, .ref (u 0)), (3, .ref od), (4, .int (iI (4 * (n : Int))))]) (S1 := [.int (iI 2)]) (ws1 := wLw g r u qn qt qv od kn kt1 kv sc ns tx tn pl1 v pa sd rr rq sv ap nw 2 rm rd hh o tx tn) rfl rfl rfl ?_
      refine J.wide (k := (cells + 1)) (n := (slots + 6)) (Nat.le_refl _) (Nat.le_refl _) ?_
      refine j_iload C 1 dL_law_673 rfl ?_
      refine j_isame (tgt := 680) C rfl dL_law_675 (by decide) ?_
      refine j_iload C 1 dL_law_680 rfl ?_
      refine j_if_ne (tgt := 697) C (by decide) dL_law_682 (by decide) (fun _ => ?_) (fun h9 => absurd h9 (by decide))
      refine j_goto (tgt := 1603) C dL_law_697 (by decide) ?_
      refine J.sub (L1 := [(0, .ref b0), (1, .ref (r 0)), (2, .ref (u 0)), (3, .ref od), (4, .int (iI (4 * (n : Int))))]) [2, 3, 4, 5, 6] rfl ?_
      exact kk kn kt1 kv sc ns tx tn pl1 v pa sd rr rq sv ap nw 2 rm rd hh o hI.next
  · refine j_aload_n C 1 dL_law_632 rfl rfl ?_
    refine j_aload_n C 0 dL_law_633 rfl rfl ?_
    refine j_iload C 4 dL_law_634 rfl ?_
    refine j_iconst C dL_law_636 ?_
    refine j_iadd C dL_law_637 ?_
    refine j_sld C hX hbl hbA (4 * n + 1) (by omega) (by omega) (by omega) e1 dL_law_638 ?_
    refine j_aload_n C 0 dL_law_639 rfl rfl ?_
    refine j_iload C 4 dL_law_640 rfl ?_
    refine j_iconst C dL_law_642 ?_
    refine j_iadd C dL_law_643 ?_
    refine j_sld C hX hbl hbA (4 * n + 2) (by omega) (by omega) (by omega) e2 dL_law_644 ?_
    refine j_aload_n C 3 dL_law_645 rfl rfl ?_
    refine j_callSW (As := [.ref (r 0), .int (iI x1), .int (iI x2), .ref od]) (rest := []) C yw_L_block qw555 (w_block_1 l hl g r qn qt qv kn kt kv sc ns tx tn pl od o x1 x2 hI.1 (by omega) (by omega) (by omega)) (by decide) rfl dL_law_646 rfl (Nat.le_of_ble_eq_true rfl) hc (pfL (wMd g u v pa sd tx rr rq (sv : Int) (tn : Int) th (ap : Int) rm rd (nw : Int) hh)) rfl (fun r9 w9 hq9 => ?_)
    obtain ⟨rfl, kt1, pl1, rfl⟩ := hq9
    refine J.to (L1 := [(0, .ref b0), (1, .ref (r 0)), (2, .ref (u 0)), (3, .ref od), (4, .int (iI (4 * (n : Int))))]) (S1 := [.int (iI 1)]) (ws1 := wLw g r u qn qt qv od kn kt1 kv sc ns tx tn pl1 v pa sd rr rq sv ap nw th rm rd hh o tx tn) rfl rfl rfl ?_
    refine J.wide (k := cells + 1) (n := slots + 6) hw1 hw2 ?_
    refine j_istore (L1 := [(5, .int (iI 1)), (0, .ref b0), (1, .ref (r 0)), (2, .ref (u 0)), (3, .ref od), (4, .int (iI (4 * (n : Int))))]) C dL_law_649 (by decide) rfl ?_
    refine j_aload_n C 3 dL_law_651 rfl rfl ?_
    refine j_aload_n C 1 dL_law_652 rfl rfl ?_
    refine j_iload C 5 dL_law_653 rfl ?_
    refine j_iconst C dL_law_655 ?_
    refine j_iadd C dL_law_656 ?_
    refine j_sld C hX hbl hbA (4 * n + 1) (by omega) (by omega) (by omega) e1 dL_law_657 ?_
    refine j_aload_n C 1 dL_law_658 rfl rfl ?_
    refine j_iload C 5 dL_law_659 rfl ?_
    refine j_iconst C dL_law_661 ?_
    refine j_iadd C dL_law_662 ?_
    refine j_sld C hX hbl hbA (4 * n + 2) (by omega) (by omega) (by omega) e2 dL_law_663 ?_
    refine j_callV (As := [.int (iI x1), .int (iI x2)]) (rest := []) C yv_X5_block qw831 (c_X5_block_n1 l g u v pa sd tx rr rq sv (tn : Int) th (ap : Int) rm rd (nw : Int) hh x1 x2 hm hsv (by omega) (by omega) (by omega)) (by decide) 0 rfl rfl rfl dL_law_664 rfl (Nat.le_of_ble_eq_true rfl) hcA (pfR ([(u 3, aL g 75 sd), (u 4, aI g 60 tx), (u 5, aI g 10 rr), (u 6, aI g 4 rq)] ++ ((od, aL g 1 (o)) :: wTp g r qn qt qv kn kt1 kv sc ns tx tn pl1))) rfl (fun r9 w9 hq9 => ?_)
    obtain ⟨rfl, rfl⟩ := hq9
    refine J.to (L1 := [(5, .int (iI 1)), (0, .ref b0), (1, .ref (r 0)), (2, .ref (u 0)), (3, .ref od), (4, .int (iI (4 * (n : Int))))]) (S1 := [.int (iI 0)]) (ws1 := wLw g r u qn qt qv od kn kt1 kv sc ns tx tn pl1 v pa sd rr rq sv ap nw 1 rm rd hh o tx tn) rfl rfl rfl ?_
    refine J.wide (k := (cells + 1)) (n := (slots + 6)) (Nat.le_refl _) (Nat.le_refl _) ?_
    refine j_istore (L1 := [(6, .int (iI 0)), (5, .int (iI 1)), (0, .ref b0), (1, .ref (r 0)), (2, .ref (u 0)), (3, .ref od), (4, .int (iI (4 * (n : Int))))]) C dL_law_667 (by decide) rfl ?_
    refine j_aload_n C 4 dL_law_669 rfl rfl ?_
    refine j_callV (As := []) (rest := []) C yv_X5_thrown qw706 (c_X5_thrown l g u v (sv : Int) (tn : Int) 1 (ap : Int) rm rd (nw : Int) hh) (by decide) 0 rfl rfl rfl dL_law_670 rfl (Nat.le_of_ble_eq_true rfl) hcA (pfR ([(u 1, aL g 75 v), (u 2, aL g 300 pa), (u 3, aL g 75 sd), (u 4, aI g 60 tx), (u 5, aI g 10 rr), (u 6, aI g 4 rq)] ++ ((od, aL g 1 (o)) :: wTp g r qn qt qv kn kt1 kv sc ns tx tn pl1))) rfl (fun r9 w9 hq9 => ?_)
    obtain ⟨rfl, rfl⟩ := hq9
    refine J.to (L1 := [(6, .int (iI 0)), (5, .int (iI 1)), (0, .ref b0), (1, .ref (r 0)), (2, .ref (u 0)), (3, .ref od), (4, .int (iI (4 * (n : Int))))]) (S1 := [.int (iI 1)]) (ws1 := wLw g r u qn qt qv od kn kt1 kv sc ns tx tn pl1 v pa sd rr rq sv ap nw 1 rm rd hh o tx tn) rfl rfl rfl ?_
    refine J.wide (k := (cells + 1)) (n := (slots + 6)) (Nat.le_refl _) (Nat.le_refl _) ?_
    refine j_iload C 1 dL_law_673 rfl ?_
    refine j_isame (tgt := 680) C rfl dL_law_675 (by decide) ?_
    refine j_iload C 1 dL_law_680 rfl ?_
    refine j_if_ne (tgt := 697) C (by decide) dL_law_682 (by decide) (fun _ => ?_) (fun h9 => absurd h9 (by decide))
    refine j_goto (tgt := 1603) C dL_law_697 (by decide) ?_
    refine J.sub (L1 := [(0, .ref b0), (1, .ref (r 0)), (2, .ref (u 0)), (3, .ref od), (4, .int (iI (4 * (n : Int))))]) [2, 3, 4, 5, 6] rfl ?_
    exact kk kn kt1 kv sc ns tx tn pl1 v pa sd rr rq sv ap nw 1 rm rd hh o hI.next
set_option maxRecDepth 100000 in
set_option maxHeartbeats 4000000 in
theorem law_9 {p : Program} {l : Launch} {e : Env} {s : State} {m : MethodId} {args : Array Value} {below : List Frame} {meth : Method} {c : Code} {g : Gh} {A : Nat → Prop} {r u : Nat → Nat} {qn qt : Nat → Nat} {qv : Nat → Nat → Nat} {od b0 n0 n : Nat} {xs : Nat → Int32} {Q : State → Prop} {cells slots : Nat} (C : Cx p g s m args c cL_law 9 RL A) (hl : l.stackTraces = false) (hX : va_X b0 n0 xs s s.heap) (hbl : b0 < s.heap.size) (hbA : ¬ A b0) (hn0 : n0 ≤ 2048) (hn : 4 * n + 3 < n0) (hc : cells + 1 ≤ room_1.cells ∧ slots + 6 ≤ room_1.slots) (kk : LJ p l e s m args below meth c g A r u qn qt qv od b0 Q 1603 (n + 1) (4 * (n : Int)) (cells + 1) (slots + 6)) : LJ p l e s m args below meth c g A r u qn qt qv od b0 Q 700 n (4 * (n : Int)) cells slots := by
  intro kn kt kv sc ns tx tn pl v pa sd rr rq sv ap nw th rm rd hh o hI
  have hR := hI.2.2.2.1
  have hk := hI.1.1.1
  have hm := rel_ok hR hk
  have hscv := hI.2.2.2.2.2.1.1
  have hsv : sv ≤ 4 := hI.2.2.2.2.2.1.2
  have hns := hI.1.2.2.2.1
  have htn := hI.1.2.2.2.2.1
  have htx := hI.1.2.2.2.2.2
  have r2 := hR.1 2 (by decide)
  have hk2 := hk.1
  have hcA : cells + 1 + 0 ≤ room_1.cells ∧ slots + 6 + 0 ≤ room_1.slots := hc
  have hc0 : cells + 0 ≤ room_1.cells ∧ slots + 0 ≤ room_1.slots := ⟨Nat.le_of_succ_le hc.1, by omega⟩
  have hv1 : cells + 0 ≤ cells + 1 := Nat.le_add_right cells 1
  have hv2 : slots + 0 ≤ slots + 6 := Nat.le_add_right slots 6
  have hw1 : cells + 1 ≤ cells + 1 := Nat.le_refl _
  have hw2 : slots + 6 ≤ slots + 6 := Nat.le_refl _
  obtain ⟨x1, e1⟩ : ∃ x1 : Int, (xs (4 * n + 1)).toInt = x1 := ⟨_, rfl⟩
  have h1 := rngI (xs (4 * n + 1))
  rw [e1] at h1
  by_cases q1 : 0 ≤ x1 ∧ x1 < kn 0 2
  · refine j_aload_n C 1 dL_law_700 rfl rfl ?_
    refine j_aload_n C 0 dL_law_701 rfl rfl ?_
    refine j_iload C 4 dL_law_702 rfl ?_
    refine j_iconst C dL_law_704 ?_
    refine j_iadd C dL_law_705 ?_
    refine j_sld C hX hbl hbA (4 * n + 1) (by omega) (by omega) (by omega) e1 dL_law_706 ?_
    refine j_aload_n C 3 dL_law_707 rfl rfl ?_
    refine j_callSW (As := [.ref (r 0), .int (iI x1), .ref od]) (rest := []) C yw_L_pulley qw559 (w_pulley_0 l g r qn qt qv kn kt kv sc ns tx tn pl od o x1 hI.1 (by omega)) (by decide) rfl dL_law_708 rfl (Nat.le_of_ble_eq_true rfl) hc0 (pfL (wMd g u v pa sd tx rr rq (sv : Int) (tn : Int) th (ap : Int) rm rd (nw : Int) hh)) rfl (fun r9 w9 hq9 => ?_)
    obtain ⟨rfl, kt1, pl1, rfl⟩ := hq9
    refine J.to (L1 := [(0, .ref b0), (1, .ref (r 0)), (2, .ref (u 0)), (3, .ref od), (4, .int (iI (4 * (n : Int))))]) (S1 := [.int (iI 0)]) (ws1 := wLw g r u qn qt qv od kn kt1 kv sc ns tx tn pl1 v pa sd rr rq sv ap nw th rm rd hh (va_up o 0 (w32 ((kn 1 x1.toNat)))) tx tn) rfl rfl rfl ?_
    refine J.wide (k := cells + 1) (n := slots + 6) hv1 hv2 ?_
    refine j_istore (L1 := [(5, .int (iI 0)), (0, .ref b0), (1, .ref (r 0)), (2, .ref (u 0)), (3, .ref od), (4, .int (iI (4 * (n : Int))))]) C dL_law_711 (by decide) rfl ?_
    refine j_aload_n C 3 dL_law_713 rfl rfl ?_
    refine j_aload_n C 1 dL_law_714 rfl rfl ?_
    refine j_iload C 5 dL_law_715 rfl ?_
    refine j_iconst C dL_law_717 ?_
    refine j_iadd C dL_law_718 ?_
    refine j_sld C hX hbl hbA (4 * n + 1) (by omega) (by omega) (by omega) e1 dL_law_719 ?_
    refine j_callV (As := [.int (iI x1)]) (rest := []) C yv_X5_pulley qw840 (c_X5_pulley_ok l g u v pa sd tx rr rq sv (tn : Int) th (ap : Int) rm rd (nw : Int) hh x1 hm hsv (by omega)) (by decide) 0 rfl rfl rfl dL_law_720 rfl (Nat.le_of_ble_eq_true rfl) hcA (pfR ([(u 3, aL g 75 sd), (u 4, aI g 60 tx), (u 5, aI g 10 rr), (u 6, aI g 4 rq)] ++ ((od, aL g 1 (va_up o 0 (w32 ((kn 1 x1.toNat))))) :: wTp g r qn qt qv kn kt1 kv sc ns tx tn pl1))) rfl (fun r9 w9 hq9 => ?_)
    obtain ⟨rfl, rfl⟩ := hq9
    refine J.to (L1 := [(5, .int (iI 0)), (0, .ref b0), (1, .ref (r 0)), (2, .ref (u 0)), (3, .ref od), (4, .int (iI (4 * (n : Int))))]) (S1 := [.int (iI (vR v x1.toNat))]) (ws1 := wLw g r u qn qt qv od kn kt1 kv sc ns tx tn pl1 v pa sd rr rq sv ap nw 0 rm rd hh (va_up o 0 (w32 ((kn 1 x1.toNat)))) tx tn) rfl rfl rfl ?_
    refine J.wide (k := (cells + 1)) (n := (slots + 6)) (Nat.le_refl _) (Nat.le_refl _) ?_
    refine j_istore (L1 := [(6, .int (iI (vR v x1.toNat))), (5, .int (iI 0)), (0, .ref b0), (1, .ref (r 0)), (2, .ref (u 0)), (3, .ref od), (4, .int (iI (4 * (n : Int))))]) C dL_law_723 (by decide) rfl ?_
    refine j_aload_n C 4 dL_law_725 rfl rfl ?_
    refine j_callV (As := []) (rest := []) C yv_X5_thrown qw706 (c_X5_thrown l g u v (sv : Int) (tn : Int) 0 (ap : Int) rm rd (nw : Int) hh) (by decide) 0 rfl rfl rfl dL_law_726 rfl (Nat.le_of_ble_eq_true rfl) hcA (pfR ([(u 1, aL g 75 v), (u 2, aL g 300 pa), (u 3, aL g 75 sd), (u 4, aI g 60 tx), (u 5, aI g 10 rr), (u 6, aI g 4 rq)] ++ ((od, aL g 1 (va_up o 0 (w32 ((kn 1 x1.toNat))))) :: wTp g r qn qt qv kn kt1 kv sc ns tx tn pl1))) rfl (fun r9 w9 hq9 => ?_)
    obtain ⟨rfl, rfl⟩ := hq9
    refine J.to (L1 := [(6, .int (iI (vR v x1.toNat))), (5, .int (iI 0)), (0, .ref b0), (1, .ref (r 0)), (2, .ref (u 0)), (3, .ref od), (4, .int (iI (4 * (n : Int))))]) (S1 := [.int (iI 0)]) (ws1 := wLw g r u qn qt qv od kn kt1 kv sc ns tx tn pl1 v pa sd rr rq sv ap nw 0 rm rd hh (va_up o 0 (w32 ((kn 1 x1.toNat)))) tx tn) rfl rfl rfl ?_
    refine J.wide (k := (cells + 1)) (n := (slots + 6)) (Nat.le_refl _) (Nat.le_refl _) ?_
    refine j_iload C 1 dL_law_729 rfl ?_
    refine j_isame (tgt := 736) C rfl dL_law_731 (by decide) ?_
    refine j_iload C 1 dL_law_736 rfl ?_
    refine j_if_ne (tgt := 753) C (by decide) dL_law_738 (by decide) (fun h9 => absurd h9 (by decide)) (fun _ => ?_)
    refine j_aload_n C 5 dL_law_741 rfl rfl ?_
    refine j_iconst C dL_law_742 ?_
    refine j_lald (f := va_up o 0 (w32 ((kn 1 x1.toNat)))) C 7 0 rfl rfl (by decide) (by decide) dL_law_743 ?_
    refine J.to (L1 := [(6, .int (iI (vR v x1.toNat))), (5, .int (iI 0)), (0, .ref b0), (1, .ref (r 0)), (2, .ref (u 0)), (3, .ref od), (4, .int (iI (4 * (n : Int))))]) (S1 := [.long (lI (w32 ((kn 1 x1.toNat))))]) (ws1 := wLw g r u qn qt qv od kn kt1 kv sc ns tx tn pl1 v pa sd rr rq sv ap nw 0 rm rd hh (va_up o 0 (w32 ((kn 1 x1.toNat)))) tx tn) rfl rfl rfl ?_
    refine j_iload C 0 dL_law_744 rfl ?_
    refine j_i2lw C dL_law_746 ?_
    have heq : ((kn 1 x1.toNat) : Int) = (vR v x1.toNat) := hR.2.1 x1.toNat (by omega)
    refine j_lsame (tgt := 753) C (congrArg w32 heq) dL_law_747 dL_law_748 (by decide) ?_
    refine j_goto (tgt := 1603) C dL_law_753 (by decide) ?_
    refine J.sub (L1 := [(0, .ref b0), (1, .ref (r 0)), (2, .ref (u 0)), (3, .ref od), (4, .int (iI (4 * (n : Int))))]) [2, 3, 4, 5, 6] rfl ?_
    exact kk kn kt1 kv sc ns tx tn pl1 v pa sd rr rq sv ap nw 0 rm rd hh (va_up o 0 (w32 ((kn 1 x1.toNat)))) hI.next
  · refine j_aload_n C 1 dL_law_700 rfl rfl ?_
    refine j_aload_n C 0 dL_law_701 rfl rfl ?_
    refine j_iload C 4 dL_law_702 rfl ?_
    refine j_iconst C dL_law_704 ?_
    refine j_iadd C dL_law_705 ?_
    refine j_sld C hX hbl hbA (4 * n + 1) (by omega) (by omega) (by omega) e1 dL_law_706 ?_
    refine j_aload_n C 3 dL_law_707 rfl rfl ?_
    refine j_callSW (As := [.ref (r 0), .int (iI x1), .ref od]) (rest := []) C yw_L_pulley qw559 (w_pulley_1 l hl g r qn qt qv kn kt kv sc ns tx tn pl od o x1 hI.1 (by omega) (by omega)) (by decide) rfl dL_law_708 rfl (Nat.le_of_ble_eq_true rfl) hc (pfL (wMd g u v pa sd tx rr rq (sv : Int) (tn : Int) th (ap : Int) rm rd (nw : Int) hh)) rfl (fun r9 w9 hq9 => ?_)
    obtain ⟨rfl, kt1, pl1, rfl⟩ := hq9
    refine J.to (L1 := [(0, .ref b0), (1, .ref (r 0)), (2, .ref (u 0)), (3, .ref od), (4, .int (iI (4 * (n : Int))))]) (S1 := [.int (iI 1)]) (ws1 := wLw g r u qn qt qv od kn kt1 kv sc ns tx tn pl1 v pa sd rr rq sv ap nw th rm rd hh o tx tn) rfl rfl rfl ?_
    refine J.wide (k := cells + 1) (n := slots + 6) hw1 hw2 ?_
    refine j_istore (L1 := [(5, .int (iI 1)), (0, .ref b0), (1, .ref (r 0)), (2, .ref (u 0)), (3, .ref od), (4, .int (iI (4 * (n : Int))))]) C dL_law_711 (by decide) rfl ?_
    refine j_aload_n C 3 dL_law_713 rfl rfl ?_
    refine j_aload_n C 1 dL_law_714 rfl rfl ?_
    refine j_iload C 5 dL_law_715 rfl ?_
    refine j_iconst C dL_law_717 ?_
    refine j_iadd C dL_law_718 ?_
    refine j_sld C hX hbl hbA (4 * n + 1) (by omega) (by omega) (by omega) e1 dL_law_719 ?_
    refine j_callV (As := [.int (iI x1)]) (rest := []) C yv_X5_pulley qw840 (c_X5_pulley_n1 l g u v pa sd tx rr rq sv (tn : Int) th (ap : Int) rm rd (nw : Int) hh x1 hm hsv (by omega) (by omega)) (by decide) 0 rfl rfl rfl dL_law_720 rfl (Nat.le_of_ble_eq_true rfl) hcA (pfR ([(u 3, aL g 75 sd), (u 4, aI g 60 tx), (u 5, aI g 10 rr), (u 6, aI g 4 rq)] ++ ((od, aL g 1 (o)) :: wTp g r qn qt qv kn kt1 kv sc ns tx tn pl1))) rfl (fun r9 w9 hq9 => ?_)
    obtain ⟨rfl, rfl⟩ := hq9
    refine J.to (L1 := [(5, .int (iI 1)), (0, .ref b0), (1, .ref (r 0)), (2, .ref (u 0)), (3, .ref od), (4, .int (iI (4 * (n : Int))))]) (S1 := [.int (iI 0)]) (ws1 := wLw g r u qn qt qv od kn kt1 kv sc ns tx tn pl1 v pa sd rr rq sv ap nw 1 rm rd hh o tx tn) rfl rfl rfl ?_
    refine J.wide (k := (cells + 1)) (n := (slots + 6)) (Nat.le_refl _) (Nat.le_refl _) ?_
    refine j_istore (L1 := [(6, .int (iI 0)), (5, .int (iI 1)), (0, .ref b0), (1, .ref (r 0)), (2, .ref (u 0)), (3, .ref od), (4, .int (iI (4 * (n : Int))))]) C dL_law_723 (by decide) rfl ?_
    refine j_aload_n C 4 dL_law_725 rfl rfl ?_
    refine j_callV (As := []) (rest := []) C yv_X5_thrown qw706 (c_X5_thrown l g u v (sv : Int) (tn : Int) 1 (ap : Int) rm rd (nw : Int) hh) (by decide) 0 rfl rfl rfl dL_law_726 rfl (Nat.le_of_ble_eq_true rfl) hcA (pfR ([(u 1, aL g 75 v), (u 2, aL g 300 pa), (u 3, aL g 75 sd), (u 4, aI g 60 tx), (u 5, aI g 10 rr), (u 6, aI g 4 rq)] ++ ((od, aL g 1 (o)) :: wTp g r qn qt qv kn kt1 kv sc ns tx tn pl1))) rfl (fun r9 w9 hq9 => ?_)
    obtain ⟨rfl, rfl⟩ := hq9
    refine J.to (L1 := [(6, .int (iI 0)), (5, .int (iI 1)), (0, .ref b0), (1, .ref (r 0)), (2, .ref (u 0)), (3, .ref od), (4, .int (iI (4 * (n : Int))))]) (S1 := [.int (iI 1)]) (ws1 := wLw g r u qn qt qv od kn kt1 kv sc ns tx tn pl1 v pa sd rr rq sv ap nw 1 rm rd hh o tx tn) rfl rfl rfl ?_
    refine J.wide (k := (cells + 1)) (n := (slots + 6)) (Nat.le_refl _) (Nat.le_refl _) ?_
    refine j_iload C 1 dL_law_729 rfl ?_
    refine j_isame (tgt := 736) C rfl dL_law_731 (by decide) ?_
    refine j_iload C 1 dL_law_736 rfl ?_
    refine j_if_ne (tgt := 753) C (by decide) dL_law_738 (by decide) (fun _ => ?_) (fun h9 => absurd h9 (by decide))
    refine j_goto (tgt := 1603) C dL_law_753 (by decide) ?_
    refine J.sub (L1 := [(0, .ref b0), (1, .ref (r 0)), (2, .ref (u 0)), (3, .ref od), (4, .int (iI (4 * (n : Int))))]) [2, 3, 4, 5, 6] rfl ?_
    exact kk kn kt1 kv sc ns tx tn pl1 v pa sd rr rq sv ap nw 1 rm rd hh o hI.next
