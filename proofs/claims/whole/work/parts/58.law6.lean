/-! the law's cases 24 to 26 -/
set_option maxRecDepth 100000 in
set_option maxHeartbeats 4000000 in
theorem law_24 {p : Program} {l : Launch} {e : Env} {s : State} {m : MethodId} {args : Array Value} {below : List Frame} {meth : Method} {c : Code} {g : Gh} {A : Nat → Prop} {r u : Nat → Nat} {qn qt : Nat → Nat} {qv : Nat → Nat → Nat} {od b0 n0 n : Nat} {xs : Nat → Int32} {Q : State → Prop} {cells slots : Nat} (C : Cx p g s m args c cL_law 9 RL A) (hl : l.stackTraces = false) (hX : va_X b0 n0 xs s s.heap) (hbl : b0 < s.heap.size) (hbA : ¬ A b0) (hn0 : n0 ≤ 2048) (hn : 4 * n + 3 < n0) (hc : cells + 1 ≤ room_1.cells ∧ slots + 6 ≤ room_1.slots) (kk : LJ p l e s m args below meth c g A r u qn qt qv od b0 Q 1603 (n + 1) (4 * (n : Int)) (cells + 1) (slots + 6)) : LJ p l e s m args below meth c g A r u qn qt qv od b0 Q 1532 n (4 * (n : Int)) cells slots := by
  intro kn kt kv sc ns tx tn pl v pa sd rr rq sv ap nw th rm rd hh o hI
  have hR := hI.2.2.2.1
  have hk := hI.1.1.1
  have hm := rel_ok hR hk
  have hscv := hI.2.2.2.2.2.1.1
  have hsv : sv ≤ 4 := hI.2.2.2.2.2.1.2
  have hns := hI.1.2.2.2.1
  have htn := hI.1.2.2.2.2.1
  have htx := hI.1.2.2.2.2.2
  have r2 := hR.1 2 (by decide)
  have hk2 := hk.1
  have hcA : cells + 1 + 0 ≤ room_1.cells ∧ slots + 6 + 0 ≤ room_1.slots := hc
  have hc0 : cells + 0 ≤ room_1.cells ∧ slots + 0 ≤ room_1.slots := ⟨Nat.le_of_succ_le hc.1, by omega⟩
  have hv1 : cells + 0 ≤ cells + 1 := Nat.le_add_right cells 1
  have hv2 : slots + 0 ≤ slots + 6 := Nat.le_add_right slots 6
  have hw1 : cells + 1 ≤ cells + 1 := Nat.le_refl _
  have hw2 : slots + 6 ≤ slots + 6 := Nat.le_refl _
  by_cases q1 : pFlt tx tn = -1
  · have e9 := hnd_prs (rel_cp (kt := kt) hR hk) q1
    by_cases q2 : 0 ≤ hanP tx tn v
    · refine j_aload_n C 1 dL_law_1532 rfl rfl ?_
      refine j_callV (As := []) (rest := []) C yv_X4_parse qw222 (c_X4_parse_3 l g r qn qt qv kn kt kv sc ns tx tn pl hI.1 q1 (by rw [e9]; omega)) (by decide) 8 rfl rfl rfl dL_law_1533 rfl (Nat.le_of_ble_eq_true rfl) hc0 (pfL (wMd g u v pa sd tx rr rq (sv : Int) (tn : Int) th (ap : Int) rm rd (nw : Int) hh ++ [(od, aL g 1 (o))])) rfl (fun r9 w9 hq9 => ?_)
      obtain ⟨rfl, kt9, pl9, rfl⟩ := hq9
      refine J.to (L1 := [(0, .ref b0), (1, .ref (r 0)), (2, .ref (u 0)), (3, .ref od), (4, .int (iI (4 * (n : Int))))]) (S1 := [.int (iI (hnd (cpS (prs tx tn (cpS kn kt)) kn)))]) (ws1 := wLw g r u qn qt qv od (cpS (prs tx tn (cpS kn kt)) kn) kt9 (svk kn kv ns) (svs sc) (svn ns) tx tn pl9 v pa sd rr rq sv ap nw th rm rd hh o tx tn) rfl rfl rfl ?_
      refine J.wide (k := cells) (n := slots) (Nat.le_refl _) (Nat.le_refl _) ?_
      refine j_aload_n C 2 dL_law_1536 rfl rfl ?_
      refine j_callV (As := []) (rest := [.int (iI (hnd (cpS (prs tx tn (cpS kn kt)) kn)))]) C yv_X5_parse qw926 (c_X5_parse_3 l g u v pa sd tx rr rq sv tn ap nw th rm rd hh hm hsv (by omega) htx q1 (by omega)) (by decide) 0 rfl rfl rfl dL_law_1537 rfl (Nat.le_of_ble_eq_true rfl) hc0 (pfR (((od, aL g 1 (o)) :: wTp g r qn qt qv (cpS (prs tx tn (cpS kn kt)) kn) kt9 (svk kn kv ns) (svs sc) (svn ns) tx tn pl9))) rfl (fun r9 w9 hq9 => ?_)
      obtain ⟨rfl, ap9, nw9, rq9, hW9, rfl⟩ := hq9
      refine J.to (L1 := [(0, .ref b0), (1, .ref (r 0)), (2, .ref (u 0)), (3, .ref od), (4, .int (iI (4 * (n : Int))))]) (S1 := [.int (iI (hanP tx tn v)), .int (iI (hnd (cpS (prs tx tn (cpS kn kt)) kn)))]) (ws1 := wLw g r u qn qt qv od (cpS (prs tx tn (cpS kn kt)) kn) kt9 (svk kn kv ns) (svs sc) (svn ns) tx tn pl9 (prV v tx (pP tx tn) (tx (pP tx tn + 1) - 48) nw9 rq9) (svP v pa sv) sd (cpy (pP tx tn) (fun j => tx j - 48) rr) rq9 (svN sv) ap9 nw9 0 (pP tx tn : Int) (tx (pP tx tn + 1) - 48) hh o tx tn) rfl rfl rfl ?_
      refine J.wide (k := cells) (n := slots) (Nat.le_refl _) (Nat.le_refl _) ?_
      have heq : (hnd (cpS (prs tx tn (cpS kn kt)) kn) : Int) = (hanP tx tn v) := (hnd_cpS (SOK_prs (SOK_cpS hk) q1)).trans e9
      refine j_isame (tgt := 1603) C heq dL_law_1540 (by decide) ?_
      refine J.wide (k := cells + 1) (n := slots + 6) (Nat.le_add_right cells 1) (Nat.le_add_right slots 6) ?_
      exact kk (cpS (prs tx tn (cpS kn kt)) kn) kt9 (svk kn kv ns) (svs sc) (svn ns) tx tn pl9 (prV v tx (pP tx tn) (tx (pP tx tn + 1) - 48) nw9 rq9) (svP v pa sv) sd (cpy (pP tx tn) (fun j => tx j - 48) rr) rq9 (svN sv) ap9 nw9 0 (pP tx tn : Int) (tx (pP tx tn + 1) - 48) hh o (hI.prs q1 (by rw [e9]; exact q2) hW9)
    · refine j_aload_n C 1 dL_law_1532 rfl rfl ?_
      refine j_callV (As := []) (rest := []) C yv_X4_parse qw222 (c_X4_parse_2 l g r qn qt qv kn kt kv sc ns tx tn pl hI.1 q1 (by rw [e9]; omega)) (by decide) 8 rfl rfl rfl dL_law_1533 rfl (Nat.le_of_ble_eq_true rfl) hc0 (pfL (wMd g u v pa sd tx rr rq (sv : Int) (tn : Int) th (ap : Int) rm rd (nw : Int) hh ++ [(od, aL g 1 (o))])) rfl (fun r9 w9 hq9 => ?_)
      obtain ⟨rfl, kt9, pl9, rfl⟩ := hq9
      refine J.to (L1 := [(0, .ref b0), (1, .ref (r 0)), (2, .ref (u 0)), (3, .ref od), (4, .int (iI (4 * (n : Int))))]) (S1 := [.int (iI (-1))]) (ws1 := wLw g r u qn qt qv od kn kt9 kv sc ns tx tn pl9 v pa sd rr rq sv ap nw th rm rd hh o tx tn) rfl rfl rfl ?_
      refine J.wide (k := cells) (n := slots) (Nat.le_refl _) (Nat.le_refl _) ?_
      refine j_aload_n C 2 dL_law_1536 rfl rfl ?_
      refine j_callV (As := []) (rest := [.int (iI (-1))]) C yv_X5_parse qw926 (c_X5_parse_2 l g u v pa sd tx rr rq sv tn ap nw th rm rd hh hm hsv (by omega) htx q1 (by omega)) (by decide) 0 rfl rfl rfl dL_law_1537 rfl (Nat.le_of_ble_eq_true rfl) hc0 (pfR (((od, aL g 1 (o)) :: wTp g r qn qt qv kn kt9 kv sc ns tx tn pl9))) rfl (fun r9 w9 hq9 => ?_)
      obtain ⟨rfl, ap9, nw9, rm9, rd9, rr9, rq9, rfl⟩ := hq9
      refine J.to (L1 := [(0, .ref b0), (1, .ref (r 0)), (2, .ref (u 0)), (3, .ref od), (4, .int (iI (4 * (n : Int))))]) (S1 := [.int (iI (-1)), .int (iI (-1))]) (ws1 := wLw g r u qn qt qv od kn kt9 kv sc ns tx tn pl9 v pa sd rr9 rq9 sv ap9 nw9 0 rm9 rd9 hh o tx tn) rfl rfl rfl ?_
      refine J.wide (k := cells) (n := slots) (Nat.le_refl _) (Nat.le_refl _) ?_
      refine j_isame (tgt := 1603) C rfl dL_law_1540 (by decide) ?_
      refine J.wide (k := cells + 1) (n := slots + 6) (Nat.le_add_right cells 1) (Nat.le_add_right slots 6) ?_
      exact kk kn kt9 kv sc ns tx tn pl9 v pa sd rr9 rq9 sv ap9 nw9 0 rm9 rd9 hh o hI.next
  · refine j_aload_n C 1 dL_law_1532 rfl rfl ?_
    refine j_callV (As := []) (rest := []) C yv_X4_parse qw222 (c_X4_parse_1 l g r qn qt qv kn kt kv sc ns tx tn pl hI.1 q1) (by decide) 8 rfl rfl rfl dL_law_1533 rfl (Nat.le_of_ble_eq_true rfl) hc0 (pfL (wMd g u v pa sd tx rr rq (sv : Int) (tn : Int) th (ap : Int) rm rd (nw : Int) hh ++ [(od, aL g 1 (o))])) rfl (fun r9 w9 hq9 => ?_)
    obtain ⟨rfl, kt9, pl9, rfl⟩ := hq9
    refine J.to (L1 := [(0, .ref b0), (1, .ref (r 0)), (2, .ref (u 0)), (3, .ref od), (4, .int (iI (4 * (n : Int))))]) (S1 := [.int (iI (-10 - pFlt tx tn))]) (ws1 := wLw g r u qn qt qv od kn kt9 kv sc ns tx tn pl9 v pa sd rr rq sv ap nw th rm rd hh o tx tn) rfl rfl rfl ?_
    refine J.wide (k := cells) (n := slots) (Nat.le_refl _) (Nat.le_refl _) ?_
    refine j_aload_n C 2 dL_law_1536 rfl rfl ?_
    refine j_callV (As := []) (rest := [.int (iI (-10 - pFlt tx tn))]) C yv_X5_parse qw926 (c_X5_parse_1 l g u v pa sd tx rr rq sv tn ap nw th rm rd hh hm hsv (by omega) htx q1) (by decide) 0 rfl rfl rfl dL_law_1537 rfl (Nat.le_of_ble_eq_true rfl) hc0 (pfR (((od, aL g 1 (o)) :: wTp g r qn qt qv kn kt9 kv sc ns tx tn pl9))) rfl (fun r9 w9 hq9 => ?_)
    obtain ⟨rfl, ap9, nw9, rm9, rd9, rr9, rq9, rfl⟩ := hq9
    refine J.to (L1 := [(0, .ref b0), (1, .ref (r 0)), (2, .ref (u 0)), (3, .ref od), (4, .int (iI (4 * (n : Int))))]) (S1 := [.int (iI (-10 - pFlt tx tn)), .int (iI (-10 - pFlt tx tn))]) (ws1 := wLw g r u qn qt qv od kn kt9 kv sc ns tx tn pl9 v pa sd rr9 rq9 sv ap9 nw9 0 rm9 rd9 hh o tx tn) rfl rfl rfl ?_
    refine J.wide (k := cells) (n := slots) (Nat.le_refl _) (Nat.le_refl _) ?_
    refine j_isame (tgt := 1603) C rfl dL_law_1540 (by decide) ?_
    refine J.wide (k := cells + 1) (n := slots + 6) (Nat.le_add_right cells 1) (Nat.le_add_right slots 6) ?_
    exact kk kn kt9 kv sc ns tx tn pl9 v pa sd rr9 rq9 sv ap9 nw9 0 rm9 rd9 hh o hI.next
set_option maxRecDepth 100000 in
set_option maxHeartbeats 4000000 in
theorem law_25 {p : Program} {l : Launch} {e : Env} {s : State} {m : MethodId} {args : Array Value} {below : List Frame} {meth : Method} {c : Code} {g : Gh} {A : Nat → Prop} {r u : Nat → Nat} {qn qt : Nat → Nat} {qv : Nat → Nat → Nat} {od b0 n0 n : Nat} {xs : Nat → Int32} {Q : State → Prop} {cells slots : Nat} (C : Cx p g s m args c cL_law 9 RL A) (hl : l.stackTraces = false) (hX : va_X b0 n0 xs s s.heap) (hbl : b0 < s.heap.size) (hbA : ¬ A b0) (hn0 : n0 ≤ 2048) (hn : 4 * n + 3 < n0) (hc : cells + 1 ≤ room_1.cells ∧ slots + 6 ≤ room_1.slots) (kk : LJ p l e s m args below meth c g A r u qn qt qv od b0 Q 1603 (n + 1) (4 * (n : Int)) (cells + 1) (slots + 6)) : LJ p l e s m args below meth c g A r u qn qt qv od b0 Q 1545 n (4 * (n : Int)) cells slots := by
  intro kn kt kv sc ns tx tn pl v pa sd rr rq sv ap nw th rm rd hh o hI
  have hR := hI.2.2.2.1
  have hk := hI.1.1.1
  have hm := rel_ok hR hk
  have hscv := hI.2.2.2.2.2.1.1
  have hsv : sv ≤ 4 := hI.2.2.2.2.2.1.2
  have hns := hI.1.2.2.2.1
  have htn := hI.1.2.2.2.2.1
  have htx := hI.1.2.2.2.2.2
  have r2 := hR.1 2 (by decide)
  have hk2 := hk.1
  have hcA : cells + 1 + 0 ≤ room_1.cells ∧ slots + 6 + 0 ≤ room_1.slots := hc
  have hc0 : cells + 0 ≤ room_1.cells ∧ slots + 0 ≤ room_1.slots := ⟨Nat.le_of_succ_le hc.1, by omega⟩
  have hv1 : cells + 0 ≤ cells + 1 := Nat.le_add_right cells 1
  have hv2 : slots + 0 ≤ slots + 6 := Nat.le_add_right slots 6
  have hw1 : cells + 1 ≤ cells + 1 := Nat.le_refl _
  have hw2 : slots + 6 ≤ slots + 6 := Nat.le_refl _
  by_cases q1 : 0 < sv
  · obtain ⟨sv1, rfl⟩ : ∃ sv1, sv = sv1 + 1 := ⟨sv - 1, by omega⟩
    refine j_aload_n C 1 dL_law_1545 rfl rfl ?_
    refine j_aload_n C 3 dL_law_1546 rfl rfl ?_
    refine j_callSW (As := [.ref (r 0), .ref od]) (rest := []) C yw_L_undo qw644 (w_undo_0 l g r qn qt qv kn kt kv sc ns tx tn pl od o (by omega) hns) (by decide) rfl dL_law_1547 rfl (Nat.le_of_ble_eq_true rfl) hc0 (pfL (wMd g u v pa sd tx rr rq ((sv1 + 1 : Nat) : Int) (tn : Int) th (ap : Int) rm rd (nw : Int) hh)) rfl (fun r9 w9 hq9 => ?_)
    obtain ⟨rfl, kt1, pl1, rfl⟩ := hq9
    refine J.to (L1 := [(0, .ref b0), (1, .ref (r 0)), (2, .ref (u 0)), (3, .ref od), (4, .int (iI (4 * (n : Int))))]) (S1 := [.int (iI 0)]) (ws1 := wLw g r u qn qt qv od (cpS (kv ((ns + 3) % 4)) kn) kt1 kv (sc - 1) ((ns + 3) % 4) tx tn pl1 v pa sd rr rq (sv1 + 1) ap nw th rm rd hh (va_up o 0 (w32 ((sc - 1)))) tx tn) rfl rfl rfl ?_
    refine J.wide (k := cells + 1) (n := slots + 6) hv1 hv2 ?_
    refine j_istore (L1 := [(5, .int (iI 0)), (0, .ref b0), (1, .ref (r 0)), (2, .ref (u 0)), (3, .ref od), (4, .int (iI (4 * (n : Int))))]) C dL_law_1550 (by decide) rfl ?_
    refine j_aload_n C 3 dL_law_1552 rfl rfl ?_
    refine j_callV (As := []) (rest := []) C yv_X5_undo qw943 (c_X5_undo_ok l g u v pa sd tx rr rq sv1 (tn : Int) th (ap : Int) rm rd (nw : Int) hh hsv) (by decide) 0 rfl rfl rfl dL_law_1553 rfl (Nat.le_of_ble_eq_true rfl) hcA (pfR ([(u 3, aL g 75 sd), (u 4, aI g 60 tx), (u 5, aI g 10 rr), (u 6, aI g 4 rq)] ++ ((od, aL g 1 (va_up o 0 (w32 ((sc - 1))))) :: wTp g r qn qt qv (cpS (kv ((ns + 3) % 4)) kn) kt1 kv (sc - 1) ((ns + 3) % 4) tx tn pl1))) rfl (fun r9 w9 hq9 => ?_)
    obtain ⟨rfl, rfl⟩ := hq9
    refine J.to (L1 := [(5, .int (iI 0)), (0, .ref b0), (1, .ref (r 0)), (2, .ref (u 0)), (3, .ref od), (4, .int (iI (4 * (n : Int))))]) (S1 := [.int (iI (sv1 : Int))]) (ws1 := wLw g r u qn qt qv od (cpS (kv ((ns + 3) % 4)) kn) kt1 kv (sc - 1) ((ns + 3) % 4) tx tn pl1 (cpy 75 (fun j => pa (75 * sv1 + j)) v) pa sd rr rq sv1 ap nw 0 rm rd hh (va_up o 0 (w32 ((sc - 1)))) tx tn) rfl rfl rfl ?_
    refine J.wide (k := (cells + 1)) (n := (slots + 6)) (Nat.le_refl _) (Nat.le_refl _) ?_
    refine j_istore (L1 := [(6, .int (iI (sv1 : Int))), (5, .int (iI 0)), (0, .ref b0), (1, .ref (r 0)), (2, .ref (u 0)), (3, .ref od), (4, .int (iI (4 * (n : Int))))]) C dL_law_1556 (by decide) rfl ?_
    refine j_aload_n C 4 dL_law_1558 rfl rfl ?_
    refine j_callV (As := []) (rest := []) C yv_X5_thrown qw706 (c_X5_thrown l g u (cpy 75 (fun j => pa (75 * sv1 + j)) v) (sv1 : Int) (tn : Int) 0 (ap : Int) rm rd (nw : Int) hh) (by decide) 0 rfl rfl rfl dL_law_1559 rfl (Nat.le_of_ble_eq_true rfl) hcA (pfR ([(u 1, aL g 75 (cpy 75 (fun j => pa (75 * sv1 + j)) v)), (u 2, aL g 300 pa), (u 3, aL g 75 sd), (u 4, aI g 60 tx), (u 5, aI g 10 rr), (u 6, aI g 4 rq)] ++ ((od, aL g 1 (va_up o 0 (w32 ((sc - 1))))) :: wTp g r qn qt qv (cpS (kv ((ns + 3) % 4)) kn) kt1 kv (sc - 1) ((ns + 3) % 4) tx tn pl1))) rfl (fun r9 w9 hq9 => ?_)
    obtain ⟨rfl, rfl⟩ := hq9
    refine J.to (L1 := [(6, .int (iI (sv1 : Int))), (5, .int (iI 0)), (0, .ref b0), (1, .ref (r 0)), (2, .ref (u 0)), (3, .ref od), (4, .int (iI (4 * (n : Int))))]) (S1 := [.int (iI 0)]) (ws1 := wLw g r u qn qt qv od (cpS (kv ((ns + 3) % 4)) kn) kt1 kv (sc - 1) ((ns + 3) % 4) tx tn pl1 (cpy 75 (fun j => pa (75 * sv1 + j)) v) pa sd rr rq sv1 ap nw 0 rm rd hh (va_up o 0 (w32 ((sc - 1)))) tx tn) rfl rfl rfl ?_
    refine J.wide (k := (cells + 1)) (n := (slots + 6)) (Nat.le_refl _) (Nat.le_refl _) ?_
    refine j_iload C 1 dL_law_1562 rfl ?_
    refine j_isame (tgt := 1569) C rfl dL_law_1564 (by decide) ?_
    refine j_iload C 1 dL_law_1569 rfl ?_
    refine j_if_ne (tgt := 1586) C (by decide) dL_law_1571 (by decide) (fun h9 => absurd h9 (by decide)) (fun _ => ?_)
    refine j_aload_n C 5 dL_law_1574 rfl rfl ?_
    refine j_iconst C dL_law_1575 ?_
    refine j_lald (f := va_up o 0 (w32 ((sc - 1)))) C 7 0 rfl rfl (by decide) (by decide) dL_law_1576 ?_
    refine J.to (L1 := [(6, .int (iI (sv1 : Int))), (5, .int (iI 0)), (0, .ref b0), (1, .ref (r 0)), (2, .ref (u 0)), (3, .ref od), (4, .int (iI (4 * (n : Int))))]) (S1 := [.long (lI (w32 ((sc - 1))))]) (ws1 := wLw g r u qn qt qv od (cpS (kv ((ns + 3) % 4)) kn) kt1 kv (sc - 1) ((ns + 3) % 4) tx tn pl1 (cpy 75 (fun j => pa (75 * sv1 + j)) v) pa sd rr rq sv1 ap nw 0 rm rd hh (va_up o 0 (w32 ((sc - 1)))) tx tn) rfl rfl rfl ?_
    refine j_iload C 0 dL_law_1577 rfl ?_
    refine j_i2lw C dL_law_1579 ?_
    have heq : ((sc - 1) : Int) = (sv1 : Int) := by omega
    refine j_lsame (tgt := 1586) C (congrArg w32 heq) dL_law_1580 dL_law_1581 (by decide) ?_
    refine j_goto (tgt := 1603) C dL_law_1586 (by decide) ?_
    refine J.sub (L1 := [(0, .ref b0), (1, .ref (r 0)), (2, .ref (u 0)), (3, .ref od), (4, .int (iI (4 * (n : Int))))]) [2, 3, 4, 5, 6] rfl ?_
    exact kk (cpS (kv ((ns + 3) % 4)) kn) kt1 kv (sc - 1) ((ns + 3) % 4) tx tn pl1 (cpy 75 (fun j => pa (75 * sv1 + j)) v) pa sd rr rq sv1 ap nw 0 rm rd hh (va_up o 0 (w32 ((sc - 1)))) hI.undo
  · obtain rfl : sv = 0 := by omega
    refine j_aload_n C 1 dL_law_1545 rfl rfl ?_
    refine j_aload_n C 3 dL_law_1546 rfl rfl ?_
    refine j_callSW (As := [.ref (r 0), .ref od]) (rest := []) C yw_L_undo qw644 (w_undo_1 l hl g r qn qt qv kn kt kv sc ns tx tn pl od o hI.1 (by omega)) (by decide) rfl dL_law_1547 rfl (Nat.le_of_ble_eq_true rfl) hc (pfL (wMd g u v pa sd tx rr rq ((0 : Nat) : Int) (tn : Int) th (ap : Int) rm rd (nw : Int) hh)) rfl (fun r9 w9 hq9 => ?_)
    obtain ⟨rfl, kt1, pl1, rfl⟩ := hq9
    refine J.to (L1 := [(0, .ref b0), (1, .ref (r 0)), (2, .ref (u 0)), (3, .ref od), (4, .int (iI (4 * (n : Int))))]) (S1 := [.int (iI 1)]) (ws1 := wLw g r u qn qt qv od kn kt1 kv sc ns tx tn pl1 v pa sd rr rq 0 ap nw th rm rd hh o tx tn) rfl rfl rfl ?_
    refine J.wide (k := cells + 1) (n := slots + 6) hw1 hw2 ?_
    refine j_istore (L1 := [(5, .int (iI 1)), (0, .ref b0), (1, .ref (r 0)), (2, .ref (u 0)), (3, .ref od), (4, .int (iI (4 * (n : Int))))]) C dL_law_1550 (by decide) rfl ?_
    refine j_aload_n C 3 dL_law_1552 rfl rfl ?_
    refine j_callV (As := []) (rest := []) C yv_X5_undo qw943 (c_X5_undo_n1 l g u v pa sd tx rr rq (tn : Int) th (ap : Int) rm rd (nw : Int) hh) (by decide) 0 rfl rfl rfl dL_law_1553 rfl (Nat.le_of_ble_eq_true rfl) hcA (pfR ([(u 3, aL g 75 sd), (u 4, aI g 60 tx), (u 5, aI g 10 rr), (u 6, aI g 4 rq)] ++ ((od, aL g 1 (o)) :: wTp g r qn qt qv kn kt1 kv sc ns tx tn pl1))) rfl (fun r9 w9 hq9 => ?_)
    obtain ⟨rfl, rfl⟩ := hq9
    refine J.to (L1 := [(5, .int (iI 1)), (0, .ref b0), (1, .ref (r 0)), (2, .ref (u 0)), (3, .ref od), (4, .int (iI (4 * (n : Int))))]) (S1 := [.int (iI 0)]) (ws1 := wLw g r u qn qt qv od kn kt1 kv sc ns tx tn pl1 v pa sd rr rq 0 ap nw 1 rm rd hh o tx tn) rfl rfl rfl ?_
    refine J.wide (k := (cells + 1)) (n := (slots + 6)) (Nat.le_refl _) (Nat.le_refl _) ?_
    refine j_istore (L1 := [(6, .int (iI 0)), (5, .int (iI 1)), (0, .ref b0), (1, .ref (r 0)), (2, .ref (u 0)), (3, .ref od), (4, .int (iI (4 * (n : Int))))]) C dL_law_1556 (by decide) rfl ?_
    refine j_aload_n C 4 dL_law_1558 rfl rfl ?_
    refine j_callV (As := []) (rest := []) C yv_X5_thrown qw706 (c_X5_thrown l g u v ((0 : Nat) : Int) (tn : Int) 1 (ap : Int) rm rd (nw : Int) hh) (by decide) 0 rfl rfl rfl dL_law_1559 rfl (Nat.le_of_ble_eq_true rfl) hcA (pfR ([(u 1, aL g 75 v), (u 2, aL g 300 pa), (u 3, aL g 75 sd), (u 4, aI g 60 tx), (u 5, aI g 10 rr), (u 6, aI g 4 rq)] ++ ((od, aL g 1 (o)) :: wTp g r qn qt qv kn kt1 kv sc ns tx tn pl1))) rfl (fun r9 w9 hq9 => ?_)
    obtain ⟨rfl, rfl⟩ := hq9
    refine J.to (L1 := [(6, .int (iI 0)), (5, .int (iI 1)), (0, .ref b0), (1, .ref (r 0)), (2, .ref (u 0)), (3, .ref od), (4, .int (iI (4 * (n : Int))))]) (S1 := [.int (iI 1)]) (ws1 := wLw g r u qn qt qv od kn kt1 kv sc ns tx tn pl1 v pa sd rr rq 0 ap nw 1 rm rd hh o tx tn) rfl rfl rfl ?_
    refine J.wide (k := (cells + 1)) (n := (slots + 6)) (Nat.le_refl _) (Nat.le_refl _) ?_
    refine j_iload C 1 dL_law_1562 rfl ?_
    refine j_isame (tgt := 1569) C rfl dL_law_1564 (by decide) ?_
    refine j_iload C 1 dL_law_1569 rfl ?_
    refine j_if_ne (tgt := 1586) C (by decide) dL_law_1571 (by decide) (fun _ => ?_) (fun h9 => absurd h9 (by decide))
    refine j_goto (tgt := 1603) C dL_law_1586 (by decide) ?_
    refine J.sub (L1 := [(0, .ref b0), (1, .ref (r 0)), (2, .ref (u 0)), (3, .ref od), (4, .int (iI (4 * (n : Int))))]) [2, 3, 4, 5, 6] rfl ?_
    exact kk kn kt1 kv sc ns tx tn pl1 v pa sd rr rq 0 ap nw 1 rm rd hh o hI.next
set_option maxRecDepth 100000 in
set_option maxHeartbeats 4000000 in
theorem law_26 {p : Program} {l : Launch} {e : Env} {s : State} {m : MethodId} {args : Array Value} {below : List Frame} {meth : Method} {c : Code} {g : Gh} {A : Nat → Prop} {r u : Nat → Nat} {qn qt : Nat → Nat} {qv : Nat → Nat → Nat} {od b0 n0 n : Nat} {xs : Nat → Int32} {Q : State → Prop} {cells slots : Nat} (C : Cx p g s m args c cL_law 9 RL A) (hl : l.stackTraces = false) (hX : va_X b0 n0 xs s s.heap) (hbl : b0 < s.heap.size) (hbA : ¬ A b0) (hn0 : n0 ≤ 2048) (hn : 4 * n + 3 < n0) (hc : cells + 1 ≤ room_1.cells ∧ slots + 6 ≤ room_1.slots) (kk : LJ p l e s m args below meth c g A r u qn qt qv od b0 Q 1603 (n + 1) (4 * (n : Int)) (cells + 1) (slots + 6)) : LJ p l e s m args below meth c g A r u qn qt qv od b0 Q 1589 n (4 * (n : Int)) cells slots := by
  intro kn kt kv sc ns tx tn pl v pa sd rr rq sv ap nw th rm rd hh o hI
  have hR := hI.2.2.2.1
  have hk := hI.1.1.1
  have hm := rel_ok hR hk
  have hscv := hI.2.2.2.2.2.1.1
  have hsv : sv ≤ 4 := hI.2.2.2.2.2.1.2
  have hns := hI.1.2.2.2.1
  have htn := hI.1.2.2.2.2.1
  have htx := hI.1.2.2.2.2.2
  have r2 := hR.1 2 (by decide)
  have hk2 := hk.1
  have hcA : cells + 1 + 0 ≤ room_1.cells ∧ slots + 6 + 0 ≤ room_1.slots := hc
  have hc0 : cells + 0 ≤ room_1.cells ∧ slots + 0 ≤ room_1.slots := ⟨Nat.le_of_succ_le hc.1, by omega⟩
  have hv1 : cells + 0 ≤ cells + 1 := Nat.le_add_right cells 1
  have hv2 : slots + 0 ≤ slots + 6 := Nat.le_add_right slots 6
  have hw1 : cells + 1 ≤ cells + 1 := Nat.le_refl _
  have hw2 : slots + 6 ≤ slots + 6 := Nat.le_refl _
  refine j_aload_n C 1 dL_law_1589 rfl rfl ?_
  refine j_callV (As := []) (rest := []) C yv_X4_digest qw308 (c_X4_digest l g r qn qt qv kn kt kv sc ns tx tn pl hI.1 hI.2.1) (by decide) 8 rfl rfl rfl dL_law_1590 rfl (Nat.le_of_ble_eq_true rfl) hc0 (pfL (wMd g u v pa sd tx rr rq (sv : Int) (tn : Int) th (ap : Int) rm rd (nw : Int) hh ++ [(od, aL g 1 (o))])) rfl (fun r9 w9 hq9 => ?_)
  obtain ⟨rfl, rfl⟩ := hq9
  refine J.to (L1 := [(0, .ref b0), (1, .ref (r 0)), (2, .ref (u 0)), (3, .ref od), (4, .int (iI (4 * (n : Int))))]) (S1 := [.long (lI (dig kn (tn : Int) sc))]) (ws1 := wLw g r u qn qt qv od kn kt kv sc ns tx tn pl v pa sd rr rq sv ap nw th rm rd hh o tx tn) rfl rfl rfl ?_
  refine J.wide (k := cells) (n := slots) (Nat.le_refl _) (Nat.le_refl _) ?_
  refine j_aload_n C 2 dL_law_1593 rfl rfl ?_
  refine j_callV (As := []) (rest := [.long (lI (dig kn (tn : Int) sc))]) C yv_X5_digest qw947 (c_X5_digest l g u v sv tn th (ap : Int) rm rd (nw : Int) hh hm hsv htn) (by decide) 0 rfl rfl rfl dL_law_1594 rfl (Nat.le_of_ble_eq_true rfl) hc0 (pfR ([(u 2, aL g 300 pa), (u 3, aL g 75 sd), (u 4, aI g 60 tx), (u 5, aI g 10 rr), (u 6, aI g 4 rq)] ++ ((od, aL g 1 (o)) :: wTp g r qn qt qv kn kt kv sc ns tx tn pl))) rfl (fun r9 w9 hq9 => ?_)
  obtain ⟨rfl, rfl⟩ := hq9
  refine J.to (L1 := [(0, .ref b0), (1, .ref (r 0)), (2, .ref (u 0)), (3, .ref od), (4, .int (iI (4 * (n : Int))))]) (S1 := [.long (lI (digV v (tn : Int) (sv : Int))), .long (lI (dig kn (tn : Int) sc))]) (ws1 := wLw g r u qn qt qv od kn kt kv sc ns tx tn pl v pa sd rr rq sv ap nw 0 rm rd (digV v (tn : Int) (sv : Int)) o tx tn) rfl rfl rfl ?_
  refine J.wide (k := cells) (n := slots) (Nat.le_refl _) (Nat.le_refl _) ?_
  have heq : (dig kn (tn : Int) sc : Int) = (digV v (tn : Int) (sv : Int)) := by rw [hscv]; exact rel_dig hR hk _ _
  refine j_lsame (tgt := 1603) C heq dL_law_1597 dL_law_1598 (by decide) ?_
  refine J.wide (k := cells + 1) (n := slots + 6) (Nat.le_add_right cells 1) (Nat.le_add_right slots 6) ?_
  exact kk kn kt kv sc ns tx tn pl v pa sd rr rq sv ap nw 0 rm rd (digV v (tn : Int) (sv : Int)) o hI.next
