/-! the law's cases 2 to 5 -/
set_option maxRecDepth 100000 in
set_option maxHeartbeats 4000000 in
theorem law_2 {p : Program} {l : Launch} {e : Env} {s : State} {m : MethodId} {args : Array Value} {below : List Frame} {meth : Method} {c : Code} {g : Gh} {A : Nat → Prop} {r u : Nat → Nat} {qn qt : Nat → Nat} {qv : Nat → Nat → Nat} {od b0 n0 n : Nat} {xs : Nat → Int32} {Q : State → Prop} {cells slots : Nat} (C : Cx p g s m args c cL_law 9 RL A) (hl : l.stackTraces = false) (hX : va_X b0 n0 xs s s.heap) (hbl : b0 < s.heap.size) (hbA : ¬ A b0) (hn0 : n0 ≤ 2048) (hn : 4 * n + 3 < n0) (hc : cells + 1 ≤ room_1.cells ∧ slots + 6 ≤ room_1.slots) (kk : LJ p l e s m args below meth c g A r u qn qt qv od b0 Q 1603 (n + 1) (4 * (n : Int)) (cells + 1) (slots + 6)) : LJ p l e s m args below meth c g A r u qn qt qv od b0 Q 284 n (4 * (n : Int)) cells slots := by
  intro kn kt kv sc ns tx tn pl v pa sd rr rq sv ap nw th rm rd hh o hI
  have hR := hI.2.2.2.1
  have hk := hI.1.1.1
  have hm := rel_ok hR hk
  have hscv := hI.2.2.2.2.2.1.1
  have hsv : sv ≤ 4 := hI.2.2.2.2.2.1.2
  have hns := hI.1.2.2.2.1
  have htn := hI.1.2.2.2.2.1
  have htx := hI.1.2.2.2.2.2
  have r2 := hR.1 2 (by decide)
  have hk2 := hk.1
  have hcA : cells + 1 + 0 ≤ room_1.cells ∧ slots + 6 + 0 ≤ room_1.slots := hc
  have hc0 : cells + 0 ≤ room_1.cells ∧ slots + 0 ≤ room_1.slots := ⟨Nat.le_of_succ_le hc.1, by omega⟩
  have hv1 : cells + 0 ≤ cells + 1 := Nat.le_add_right cells 1
  have hv2 : slots + 0 ≤ slots + 6 := Nat.le_add_right slots 6
  have hw1 : cells + 1 ≤ cells + 1 := Nat.le_refl _
  have hw2 : slots + 6 ≤ slots + 6 := Nat.le_refl _
  obtain ⟨x1, e1⟩ : ∃ x1 : Int, (xs (4 * n + 1)).toInt = x1 := ⟨_, rfl⟩
  have h1 := rngI (xs (4 * n + 1))
  rw [e1] at h1
  have e9 := hnd_len (kt := kt) hR hk (x := x1)
  by_cases q1 : 1000 ≤ x1 ∧ x1 ≤ 300000
  · by_cases q2 : hanV v ≤ x1
    · refine j_aload_n C 1 dL_law_284 rfl rfl ?_
      refine j_aload_n C 0 dL_law_285 rfl rfl ?_
      refine j_iload C 4 dL_law_286 rfl ?_
      refine j_iconst C dL_law_288 ?_
      refine j_iadd C dL_law_289 ?_
      refine j_sld C hX hbl hbA (4 * n + 1) (by omega) (by omega) (by omega) e1 dL_law_290 ?_
      refine j_aload_n C 3 dL_law_291 rfl rfl ?_
      refine j_callSW (As := [.ref (r 0), .int (iI x1), .ref od]) (rest := []) C yw_L_setLength qw450 (w_setLength_0 l g r qn qt qv kn kt kv sc ns tx tn pl od o x1 hI.1 (by omega) (by rw [e9]; omega)) (by decide) rfl dL_law_292 rfl (Nat.le_of_ble_eq_true rfl) hc0 (pfL (wMd g u v pa sd tx rr rq (sv : Int) (tn : Int) th (ap : Int) rm rd (nw : Int) hh)) rfl (fun r9 w9 hq9 => ?_)
      obtain ⟨rfl, kt1, pl1, rfl⟩ := hq9
      refine J.to (L1 := [(0, .ref b0), (1, .ref (r 0)), (2, .ref (u 0)), (3, .ref od), (4, .int (iI (4 * (n : Int))))]) (S1 := [.int (iI 0)]) (ws1 := wLw g r u qn qt qv od (cpS (kLen kn kt x1) kn) kt1 (svk kn kv ns) (svs sc) (svn ns) tx tn pl1 v pa sd rr rq sv ap nw th rm rd hh (va_up o 0 (w32 ((hnd (cpS (kLen kn kt x1) kn))))) tx tn) rfl rfl rfl ?_
      refine J.wide (k := cells + 1) (n := slots + 6) hv1 hv2 ?_
      refine j_istore (L1 := [(5, .int (iI 0)), (0, .ref b0), (1, .ref (r 0)), (2, .ref (u 0)), (3, .ref od), (4, .int (iI (4 * (n : Int))))]) C dL_law_295 (by decide) rfl ?_
      refine j_aload_n C 3 dL_law_297 rfl rfl ?_
      refine j_aload_n C 1 dL_law_298 rfl rfl ?_
      refine j_iload C 5 dL_law_299 rfl ?_
      refine j_iconst C dL_law_301 ?_
      refine j_iadd C dL_law_302 ?_
      refine j_sld C hX hbl hbA (4 * n + 1) (by omega) (by omega) (by omega) e1 dL_law_303 ?_
      refine j_callV (As := [.int (iI x1)]) (rest := []) C yv_X5_setLength qw743 (c_X5_setLength_ok l g u v pa sd tx rr rq sv (tn : Int) th (ap : Int) rm rd (nw : Int) hh x1 hm hsv (by omega) (by omega)) (by decide) 0 rfl rfl rfl dL_law_304 rfl (Nat.le_of_ble_eq_true rfl) hcA (pfR ([(u 3, aL g 75 sd), (u 4, aI g 60 tx), (u 5, aI g 10 rr), (u 6, aI g 4 rq)] ++ ((od, aL g 1 (va_up o 0 (w32 ((hnd (cpS (kLen kn kt x1) kn)))))) :: wTp g r qn qt qv (cpS (kLen kn kt x1) kn) kt1 (svk kn kv ns) (svs sc) (svn ns) tx tn pl1))) rfl (fun r9 w9 hq9 => ?_)
      obtain ⟨rfl, rfl⟩ := hq9
      refine J.to (L1 := [(5, .int (iI 0)), (0, .ref b0), (1, .ref (r 0)), (2, .ref (u 0)), (3, .ref od), (4, .int (iI (4 * (n : Int))))]) (S1 := [.int (iI (hndV (va_up v 0 x1)))]) (ws1 := wLw g r u qn qt qv od (cpS (kLen kn kt x1) kn) kt1 (svk kn kv ns) (svs sc) (svn ns) tx tn pl1 (va_up v 0 x1) (svP v pa sv) sd rr rq (svN sv) ap nw 0 rm rd hh (va_up o 0 (w32 ((hnd (cpS (kLen kn kt x1) kn))))) tx tn) rfl rfl rfl ?_
      refine J.wide (k := (cells + 1)) (n := (slots + 6)) (Nat.le_refl _) (Nat.le_refl _) ?_
      refine j_istore (L1 := [(6, .int (iI (hndV (va_up v 0 x1)))), (5, .int (iI 0)), (0, .ref b0), (1, .ref (r 0)), (2, .ref (u 0)), (3, .ref od), (4, .int (iI (4 * (n : Int))))]) C dL_law_307 (by decide) rfl ?_
      refine j_aload_n C 4 dL_law_309 rfl rfl ?_
      refine j_callV (As := []) (rest := []) C yv_X5_thrown qw706 (c_X5_thrown l g u (va_up v 0 x1) ((svN sv : Nat) : Int) (tn : Int) 0 (ap : Int) rm rd (nw : Int) hh) (by decide) 0 rfl rfl rfl dL_law_310 rfl (Nat.le_of_ble_eq_true rfl) hcA (pfR ([(u 1, aL g 75 (va_up v 0 x1)), (u 2, aL g 300 (svP v pa sv)), (u 3, aL g 75 sd), (u 4, aI g 60 tx), (u 5, aI g 10 rr), (u 6, aI g 4 rq)] ++ ((od, aL g 1 (va_up o 0 (w32 ((hnd (cpS (kLen kn kt x1) kn)))))) :: wTp g r qn qt qv (cpS (kLen kn kt x1) kn) kt1 (svk kn kv ns) (svs sc) (svn ns) tx tn pl1))) rfl (fun r9 w9 hq9 => ?_)
      obtain ⟨rfl, rfl⟩ := hq9
      refine J.to (L1 := [(6, .int (iI (hndV (va_up v 0 x1)))), (5, .int (iI 0)), (0, .ref b0), (1, .ref (r 0)), (2, .ref (u 0)), (3, .ref od), (4, .int (iI (4 * (n : Int))))]) (S1 := [.int (iI 0)]) (ws1 := wLw g r u qn qt qv od (cpS (kLen kn kt x1) kn) kt1 (svk kn kv ns) (svs sc) (svn ns) tx tn pl1 (va_up v 0 x1) (svP v pa sv) sd rr rq (svN sv) ap nw 0 rm rd hh (va_up o 0 (w32 ((hnd (cpS (kLen kn kt x1) kn))))) tx tn) rfl rfl rfl ?_
      refine J.wide (k := (cells + 1)) (n := (slots + 6)) (Nat.le_refl _) (Nat.le_refl _) ?_
      refine j_iload C 1 dL_law_313 rfl ?_
      refine j_isame (tgt := 320) C rfl dL_law_315 (by decide) ?_
      refine j_iload C 1 dL_law_320 rfl ?_
      refine j_if_ne (tgt := 337) C (by decide) dL_law_322 (by decide) (fun h9 => absurd h9 (by decide)) (fun _ => ?_)
      refine j_aload_n C 5 dL_law_325 rfl rfl ?_
      refine j_iconst C dL_law_326 ?_
      refine j_lald (f := va_up o 0 (w32 ((hnd (cpS (kLen kn kt x1) kn))))) C 7 0 rfl rfl (by decide) (by decide) dL_law_327 ?_
      refine J.to (L1 := [(6, .int (iI (hndV (va_up v 0 x1)))), (5, .int (iI 0)), (0, .ref b0), (1, .ref (r 0)), (2, .ref (u 0)), (3, .ref od), (4, .int (iI (4 * (n : Int))))]) (S1 := [.long (lI (w32 ((hnd (cpS (kLen kn kt x1) kn)))))]) (ws1 := wLw g r u qn qt qv od (cpS (kLen kn kt x1) kn) kt1 (svk kn kv ns) (svs sc) (svn ns) tx tn pl1 (va_up v 0 x1) (svP v pa sv) sd rr rq (svN sv) ap nw 0 rm rd hh (va_up o 0 (w32 ((hnd (cpS (kLen kn kt x1) kn))))) tx tn) rfl rfl rfl ?_
      refine j_iload C 0 dL_law_328 rfl ?_
      refine j_i2lw C dL_law_330 ?_
      have heq : ((hnd (cpS (kLen kn kt x1) kn)) : Int) = (hndV (va_up v 0 x1)) := (hnd_cpS (SOK_len hk q1)).trans (rel_hnd (rel_len hR hk))
      refine j_lsame (tgt := 337) C (congrArg w32 heq) dL_law_331 dL_law_332 (by decide) ?_
      refine j_goto (tgt := 1603) C dL_law_337 (by decide) ?_
      refine J.sub (L1 := [(0, .ref b0), (1, .ref (r 0)), (2, .ref (u 0)), (3, .ref od), (4, .int (iI (4 * (n : Int))))]) [2, 3, 4, 5, 6] rfl ?_
      exact kk (cpS (kLen kn kt x1) kn) kt1 (svk kn kv ns) (svs sc) (svn ns) tx tn pl1 (va_up v 0 x1) (svP v pa sv) sd rr rq (svN sv) ap nw 0 rm rd hh (va_up o 0 (w32 ((hnd (cpS (kLen kn kt x1) kn))))) (hI.len q1 (by rw [e9]; omega))
    · refine j_aload_n C 1 dL_law_284 rfl rfl ?_
      refine j_aload_n C 0 dL_law_285 rfl rfl ?_
      refine j_iload C 4 dL_law_286 rfl ?_
      refine j_iconst C dL_law_288 ?_
      refine j_iadd C dL_law_289 ?_
      refine j_sld C hX hbl hbA (4 * n + 1) (by omega) (by omega) (by omega) e1 dL_law_290 ?_
      refine j_aload_n C 3 dL_law_291 rfl rfl ?_
      refine j_callSW (As := [.ref (r 0), .int (iI x1), .ref od]) (rest := []) C yw_L_setLength qw450 (w_setLength_2 l hl g r qn qt qv kn kt kv sc ns tx tn pl od o x1 hI.1 (by omega) (by rw [e9]; omega)) (by decide) rfl dL_law_292 rfl (Nat.le_of_ble_eq_true rfl) hc (pfL (wMd g u v pa sd tx rr rq (sv : Int) (tn : Int) th (ap : Int) rm rd (nw : Int) hh)) rfl (fun r9 w9 hq9 => ?_)
      obtain ⟨rfl, kt1, pl1, rfl⟩ := hq9
      refine J.to (L1 := [(0, .ref b0), (1, .ref (r 0)), (2, .ref (u 0)), (3, .ref od), (4, .int (iI (4 * (n : Int))))]) (S1 := [.int (iI 2)]) (ws1 := wLw g r u qn qt qv od kn kt1 kv sc ns tx tn pl1 v pa sd rr rq sv ap nw th rm rd hh o tx tn) rfl rfl rfl ?_
      refine J.wide (k := cells + 1) (n := slots + 6) hw1 hw2 ?_
      refine j_istore (L1 := [(5, .int (iI 2)), (0, .ref b0), (1, .ref (r 0)), (2, .ref (u 0)), (3, .ref od), (4, .int (iI (4 * (n : Int))))]) C dL_law_295 (by decide) rfl ?_
      refine j_aload_n C 3 dL_law_297 rfl rfl ?_
      refine j_aload_n C 1 dL_law_298 rfl rfl ?_
      refine j_iload C 5 dL_law_299 rfl ?_
      refine j_iconst C dL_law_301 ?_
      refine j_iadd C dL_law_302 ?_
      refine j_sld C hX hbl hbA (4 * n + 1) (by omega) (by omega) (by omega) e1 dL_law_303 ?_
      refine j_callV (As := [.int (iI x1)]) (rest := []) C yv_X5_setLength qw743 (c_X5_setLength_n2 l g u v pa sd tx rr rq sv (tn : Int) th (ap : Int) rm rd (nw : Int) hh x1 hm hsv (by omega) (by omega)) (by decide) 0 rfl rfl rfl dL_law_304 rfl (Nat.le_of_ble_eq_true rfl) hcA (pfR ([(u 3, aL g 75 sd), (u 4, aI g 60 tx), (u 5, aI g 10 rr), (u 6, aI g 4 rq)] ++ ((od, aL g 1 (o)) :: wTp g r qn qt qv kn kt1 kv sc ns tx tn pl1))) rfl (fun r9 w9 hq9 => ?_)
      obtain ⟨rfl, rfl⟩ := hq9
      refine J.to (L1 := [(5, .int (iI 2)), (0, .ref b0), (1, .ref (r 0)), (2, .ref (u 0)), (3, .ref od), (4, .int (iI (4 * (n : Int))))]) (S1 := [.int (iI 0)]) (ws1 := wLw g r u qn qt qv od kn kt1 kv sc ns tx tn pl1 v pa sd rr rq sv ap nw 2 rm rd hh o tx tn) rfl rfl rfl ?_
      refine J.wide (k := (cells + 1)) (n := (slots + 6)) (Nat.le_refl _) (Nat.le_refl _) ?_
      refine j_istore (L1 := [(6, .int (iI 0)), (5, .int (iI 2)), (0, .ref b0), (1, .ref (r 0)), (2, .ref (u 0)), (3, .ref od), (4, .int (iI (4 * (n : Int))))]) C dL_law_307 (by decide) rfl ?_
      refine j_aload_n C 4 dL_law_309 rfl rfl ?_
      refine j_callV (As := []) (rest := []) C yv_X5_thrown qw706 (c_X5_thrown l g u v (sv : Int) (tn : Int) 2 (ap : Int) rm rd (nw : Int) hh) (by decide) 0 rfl rfl rfl dL_law_310 rfl (Nat.le_of_ble_eq_true rfl) hcA (pfR ([(u 1, aL g 75 v), (u 2, aL g 300 pa), (u 3, aL g 75 sd), (u 4, aI g 60 tx), (u 5, aI g 10 rr), (u 6, aI g 4 rq)] ++ ((od, aL g 1 (o)) :: wTp g r qn qt qv kn kt1 kv sc ns tx tn pl1))) rfl (fun r9 w9 hq9 => ?_)
      obtain ⟨rfl, rfl⟩ := hq9
      refine J.to (L1 := [(6, .int (iI 0)), (5, .int (iI 2)), (0, .ref b0), (1, .ref (r 0)), (2, .ref (u 0)), (3, .ref od), (4, .int (iI (4 * (n : Int))))]) (S1 := [.int (iI 2)]) (ws1 := wLw g r u qn qt qv od kn kt1 kv sc ns tx tn pl1 v pa sd rr rq sv ap nw 2 rm rd hh o tx tn) rfl rfl rfl ?_
      refine J.wide (k := (cells + 1)) (n := (slots + 6)) (Nat.le_refl _) (Nat.le_refl _) ?_
      refine j_iload C 1 dL_law_313 rfl ?_
      refine j_isame (tgt := 320) C rfl dL_law_315 (by decide) ?_
      refine j_iload C 1 dL_law_320 rfl ?_
      refine j_if_ne (tgt := 337) C (by decide) dL_law_322 (by decide) (fun _ => ?_) (fun h9 => absurd h9 (by decide))
      refine j_goto (tgt := 1603) C dL_law_337 (by decide) ?_
      refine J.sub (L1 := [(0, .ref b0), (1, .ref (r 0)), (2, .ref (u 0)), (3, .ref od), (4, .int (iI (4 * (n : Int))))]) [2, 3, 4, 5, 6] rfl ?_
      exact kk kn kt1 kv sc ns tx tn pl1 v pa sd rr rq sv ap nw 2 rm rd hh o hI.next
  · refine j_aload_n C 1 dL_law_284 rfl rfl ?_
    refine j_aload_n C 0 dL_law_285 rfl rfl ?_
    refine j_iload C 4 dL_law_286 rfl ?_
    refine j_iconst C dL_law_288 ?_
    refine j_iadd C dL_law_289 ?_
    refine j_sld C hX hbl hbA (4 * n + 1) (by omega) (by omega) (by omega) e1 dL_law_290 ?_
    refine j_aload_n C 3 dL_law_291 rfl rfl ?_
    refine j_callSW (As := [.ref (r 0), .int (iI x1), .ref od]) (rest := []) C yw_L_setLength qw450 (w_setLength_1 l hl g r qn qt qv kn kt kv sc ns tx tn pl od o x1 hI.1 (by omega) (by omega)) (by decide) rfl dL_law_292 rfl (Nat.le_of_ble_eq_true rfl) hc (pfL (wMd g u v pa sd tx rr rq (sv : Int) (tn : Int) th (ap : Int) rm rd (nw : Int) hh)) rfl (fun r9 w9 hq9 => ?_)
    obtain ⟨rfl, kt1, pl1, rfl⟩ := hq9
    refine J.to (L1 := [(0, .ref b0), (1, .ref (r 0)), (2, .ref (u 0)), (3, .ref od), (4, .int (iI (4 * (n : Int))))]) (S1 := [.int (iI 1)]) (ws1 := wLw g r u qn qt qv od kn kt1 kv sc ns tx tn pl1 v pa sd rr rq sv ap nw th rm rd hh o tx tn) rfl rfl rfl ?_
    refine J.wide (k := cells + 1) (n := slots + 6) hw1 hw2 ?_
    refine j_istore (L1 := [(5, .int (iI 1)), (0, .ref b0), (1, .ref (r 0)), (2, .ref (u 0)), (3, .ref od), (4, .int (iI (4 * (n : Int))))]) C dL_law_295 (by decide) rfl ?_
    refine j_aload_n C 3 dL_law_297 rfl rfl ?_
    refine j_aload_n C 1 dL_law_298 rfl rfl ?_
    refine j_iload C 5 dL_law_299 rfl ?_
    refine j_iconst C dL_law_301 ?_
    refine j_iadd C dL_law_302 ?_
    refine j_sld C hX hbl hbA (4 * n + 1) (by omega) (by omega) (by omega) e1 dL_law_303 ?_
    refine j_callV (As := [.int (iI x1)]) (rest := []) C yv_X5_setLength qw743 (c_X5_setLength_n1 l g u v pa sd tx rr rq sv (tn : Int) th (ap : Int) rm rd (nw : Int) hh x1 hm hsv (by omega) (by omega)) (by decide) 0 rfl rfl rfl dL_law_304 rfl (Nat.le_of_ble_eq_true rfl) hcA (pfR ([(u 3, aL g 75 sd), (u 4, aI g 60 tx), (u 5, aI g 10 rr), (u 6, aI g 4 rq)] ++ ((od, aL g 1 (o)) :: wTp g r qn qt qv kn kt1 kv sc ns tx tn pl1))) rfl (fun r9 w9 hq9 => ?_)
    obtain ⟨rfl, rfl⟩ := hq9
    refine J.to (L1 := [(5, .int (iI 1)), (0, .ref b0), (1, .ref (r 0)), (2, .ref (u 0)), (3, .ref od), (4, .int (iI (4 * (n : Int))))]) (S1 := [.int (iI 0)]) (ws1 := wLw g r u qn qt qv od kn kt1 kv sc ns tx tn pl1 v pa sd rr rq sv ap nw 1 rm rd hh o tx tn) rfl rfl rfl ?_
    refine J.wide (k := (cells + 1)) (n := (slots + 6)) (Nat.le_refl _) (Nat.le_refl _) ?_
    refine j_istore (L1 := [(6, .int (iI 0)), (5, .int (iI 1)), (0, .ref b0), (1, .ref (r 0)), (2, .ref (u 0)), (3, .ref od), (4, .int (iI (4 * (n : Int))))]) C dL_law_307 (by decide) rfl ?_
    refine j_aload_n C 4 dL_law_309 rfl rfl ?_
    refine j_callV (As := []) (rest := []) C yv_X5_thrown qw706 (c_X5_thrown l g u v (sv : Int) (tn : Int) 1 (ap : Int) rm rd (nw : Int) hh) (by decide) 0 rfl rfl rfl dL_law_310 rfl (Nat.le_of_ble_eq_true rfl) hcA (pfR ([(u 1, aL g 75 v), (u 2, aL g 300 pa), (u 3, aL g 75 sd), (u 4, aI g 60 tx), (u 5, aI g 10 rr), (u 6, aI g 4 rq)] ++ ((od, aL g 1 (o)) :: wTp g r qn qt qv kn kt1 kv sc ns tx tn pl1))) rfl (fun r9 w9 hq9 => ?_)
    obtain ⟨rfl, rfl⟩ := hq9
    refine J.to (L1 := [(6, .int (iI 0)), (5, .int (iI 1)), (0, .ref b0), (1, .ref (r 0)), (2, .ref (u 0)), (3, .ref od), (4, .int (iI (4 * (n : Int))))]) (S1 := [.int (iI 1)]) (ws1 := wLw g r u qn qt qv od kn kt1 kv sc ns tx tn pl1 v pa sd rr rq sv ap nw 1 rm rd hh o tx tn) rfl rfl rfl ?_
    refine J.wide (k := (cells + 1)) (n := (slots + 6)) (Nat.le_refl _) (Nat.le_refl _) ?_
    refine j_iload C 1 dL_law_313 rfl ?_
    refine j_isame (tgt := 320) C rfl dL_law_315 (by decide) ?_
    refine j_iload C 1 dL_law_320 rfl ?_
    refine j_if_ne (tgt := 337) C (by decide) dL_law_322 (by decide) (fun _ => ?_) (fun h9 => absurd h9 (by decide))
    refine j_goto (tgt := 1603) C dL_law_337 (by decide) ?_
    refine J.sub (L1 := [(0, .ref b0), (1, .ref (r 0)), (2, .ref (u 0)), (3, .ref od), (4, .int (iI (4 * (n : Int))))]) [2, 3, 4, 5, 6] rfl ?_
    exact kk kn kt1 kv sc ns tx tn pl1 v pa sd rr rq sv ap nw 1 rm rd hh o hI.next
set_option maxRecDepth 100000 in
set_option maxHeartbeats 4000000 in
theorem law_3 {p : Program} {l : Launch} {e : Env} {s : State} {m : MethodId} {args : Array Value} {below : List Frame} {meth : Method} {c : Code} {g : Gh} {A : Nat → Prop} {r u : Nat → Nat} {qn qt : Nat → Nat} {qv : Nat → Nat → Nat} {od b0 n0 n : Nat} {xs : Nat → Int32} {Q : State → Prop} {cells slots : Nat} (C : Cx p g s m args c cL_law 9 RL A) (hl : l.stackTraces = false) (hX : va_X b0 n0 xs s s.heap) (hbl : b0 < s.heap.size) (hbA : ¬ A b0) (hn0 : n0 ≤ 2048) (hn : 4 * n + 3 < n0) (hc : cells + 1 ≤ room_1.cells ∧ slots + 6 ≤ room_1.slots) (kk : LJ p l e s m args below meth c g A r u qn qt qv od b0 Q 1603 (n + 1) (4 * (n : Int)) (cells + 1) (slots + 6)) : LJ p l e s m args below meth c g A r u qn qt qv od b0 Q 340 n (4 * (n : Int)) cells slots := by
  intro kn kt kv sc ns tx tn pl v pa sd rr rq sv ap nw th rm rd hh o hI
  have hR := hI.2.2.2.1
  have hk := hI.1.1.1
  have hm := rel_ok hR hk
  have hscv := hI.2.2.2.2.2.1.1
  have hsv : sv ≤ 4 := hI.2.2.2.2.2.1.2
  have hns := hI.1.2.2.2.1
  have htn := hI.1.2.2.2.2.1
  have htx := hI.1.2.2.2.2.2
  have r2 := hR.1 2 (by decide)
  have hk2 := hk.1
  have hcA : cells + 1 + 0 ≤ room_1.cells ∧ slots + 6 + 0 ≤ room_1.slots := hc
  have hc0 : cells + 0 ≤ room_1.cells ∧ slots + 0 ≤ room_1.slots := ⟨Nat.le_of_succ_le hc.1, by omega⟩
  have hv1 : cells + 0 ≤ cells + 1 := Nat.le_add_right cells 1
  have hv2 : slots + 0 ≤ slots + 6 := Nat.le_add_right slots 6
  have hw1 : cells + 1 ≤ cells + 1 := Nat.le_refl _
  have hw2 : slots + 6 ≤ slots + 6 := Nat.le_refl _
  obtain ⟨x1, e1⟩ : ∃ x1 : Int, (xs (4 * n + 1)).toInt = x1 := ⟨_, rfl⟩
  have h1 := rngI (xs (4 * n + 1))
  rw [e1] at h1
  by_cases q1 : 0 ≤ x1 ∧ x1 < 4
  · by_cases q2 : kn 0 2 < 10
    · have e9 := hnd_add (kt := kt) hR hk q1
      by_cases q3 : 2 * (10000 - vH v x1.toNat) ≤ hndV v
      · refine j_aload_n C 1 dL_law_340 rfl rfl ?_
        refine j_aload_n C 0 dL_law_341 rfl rfl ?_
        refine j_iload C 4 dL_law_342 rfl ?_
        refine j_iconst C dL_law_344 ?_
        refine j_iadd C dL_law_345 ?_
        refine j_sld C hX hbl hbA (4 * n + 1) (by omega) (by omega) (by omega) e1 dL_law_346 ?_
        refine j_aload_n C 3 dL_law_347 rfl rfl ?_
        refine j_callSW (As := [.ref (r 0), .int (iI x1), .ref od]) (rest := []) C yw_L_addPulley qw479 (w_addPulley_0 l g r qn qt qv kn kt kv sc ns tx tn pl od o x1 hI.1 (by omega) (by omega) (by rw [e9]; omega)) (by decide) rfl dL_law_348 rfl (Nat.le_of_ble_eq_true rfl) hc0 (pfL (wMd g u v pa sd tx rr rq (sv : Int) (tn : Int) th (ap : Int) rm rd (nw : Int) hh)) rfl (fun r9 w9 hq9 => ?_)
        obtain ⟨rfl, kt1, pl1, rfl⟩ := hq9
        refine J.to (L1 := [(0, .ref b0), (1, .ref (r 0)), (2, .ref (u 0)), (3, .ref od), (4, .int (iI (4 * (n : Int))))]) (S1 := [.int (iI 0)]) (ws1 := wLw g r u qn qt qv od (cpS (kAdd kn kt x1) kn) kt1 (svk kn kv ns) (svs sc) (svn ns) tx tn pl1 v pa sd rr rq sv ap nw th rm rd hh (va_up o 0 (w32 ((kn 0 2 + 1)))) tx tn) rfl rfl rfl ?_
        refine J.wide (k := cells + 1) (n := slots + 6) hv1 hv2 ?_
        refine j_istore (L1 := [(5, .int (iI 0)), (0, .ref b0), (1, .ref (r 0)), (2, .ref (u 0)), (3, .ref od), (4, .int (iI (4 * (n : Int))))]) C dL_law_351 (by decide) rfl ?_
        refine j_aload_n C 3 dL_law_353 rfl rfl ?_
        refine j_aload_n C 1 dL_law_354 rfl rfl ?_
        refine j_iload C 5 dL_law_355 rfl ?_
        refine j_iconst C dL_law_357 ?_
        refine j_iadd C dL_law_358 ?_
        refine j_sld C hX hbl hbA (4 * n + 1) (by omega) (by omega) (by omega) e1 dL_law_359 ?_
        refine j_callV (As := [.int (iI x1)]) (rest := []) C yv_X5_addPulley qw764 (c_X5_addPulley_ok l g u v pa sd tx rr rq sv (tn : Int) th (ap : Int) rm rd (nw : Int) hh x1 hm hsv (by omega) (by omega) (by omega)) (by decide) 0 rfl rfl rfl dL_law_360 rfl (Nat.le_of_ble_eq_true rfl) hcA (pfR ([(u 3, aL g 75 sd), (u 4, aI g 60 tx), (u 5, aI g 10 rr), (u 6, aI g 4 rq)] ++ ((od, aL g 1 (va_up o 0 (w32 ((kn 0 2 + 1))))) :: wTp g r qn qt qv (cpS (kAdd kn kt x1) kn) kt1 (svk kn kv ns) (svs sc) (svn ns) tx tn pl1))) rfl (fun r9 w9 hq9 => ?_)
        obtain ⟨rfl, rfl⟩ := hq9
        refine J.to (L1 := [(5, .int (iI 0)), (0, .ref b0), (1, .ref (r 0)), (2, .ref (u 0)), (3, .ref od), (4, .int (iI (4 * (n : Int))))]) (S1 := [.int (iI (v 2 + 1))]) (ws1 := wLw g r u qn qt qv od (cpS (kAdd kn kt x1) kn) kt1 (svk kn kv ns) (svs sc) (svn ns) tx tn pl1 (va_up (va_up v (17 + (v 2).toNat) x1) 2 (v 2 + 1)) (svP v pa sv) sd rr rq (svN sv) ap nw 0 rm rd hh (va_up o 0 (w32 ((kn 0 2 + 1)))) tx tn) rfl rfl rfl ?_
        refine J.wide (k := (cells + 1)) (n := (slots + 6)) (Nat.le_refl _) (Nat.le_refl _) ?_
        refine j_istore (L1 := [(6, .int (iI (v 2 + 1))), (5, .int (iI 0)), (0, .ref b0), (1, .ref (r 0)), (2, .ref (u 0)), (3, .ref od), (4, .int (iI (4 * (n : Int))))]) C dL_law_363 (by decide) rfl ?_
        refine j_aload_n C 4 dL_law_365 rfl rfl ?_
        refine j_callV (As := []) (rest := []) C yv_X5_thrown qw706 (c_X5_thrown l g u (va_up (va_up v (17 + (v 2).toNat) x1) 2 (v 2 + 1)) ((svN sv : Nat) : Int) (tn : Int) 0 (ap : Int) rm rd (nw : Int) hh) (by decide) 0 rfl rfl rfl dL_law_366 rfl (Nat.le_of_ble_eq_true rfl) hcA (pfR ([(u 1, aL g 75 (va_up (va_up v (17 + (v 2).toNat) x1) 2 (v 2 + 1))), (u 2, aL g 300 (svP v pa sv)), (u 3, aL g 75 sd), (u 4, aI g 60 tx), (u 5, aI g 10 rr), (u 6, aI g 4 rq)] ++ ((od, aL g 1 (va_up o 0 (w32 ((kn 0 2 + 1))))) :: wTp g r qn qt qv (cpS (kAdd kn kt x1) kn) kt1 (svk kn kv ns) (svs sc) (svn ns) tx tn pl1))) rfl (fun r9 w9 hq9 => ?_)
        obtain ⟨rfl, rfl⟩ := hq9
        refine J.to (L1 := [(6, .int (iI (v 2 + 1))), (5, .int (iI 0)), (0, .ref b0), (1, .ref (r 0)), (2, .ref (u 0)), (3, .ref od), (4, .int (iI (4 * (n : Int))))]) (S1 := [.int (iI 0)]) (ws1 := wLw g r u qn qt qv od (cpS (kAdd kn kt x1) kn) kt1 (svk kn kv ns) (svs sc) (svn ns) tx tn pl1 (va_up (va_up v (17 + (v 2).toNat) x1) 2 (v 2 + 1)) (svP v pa sv) sd rr rq (svN sv) ap nw 0 rm rd hh (va_up o 0 (w32 ((kn 0 2 + 1)))) tx tn) rfl rfl rfl ?_
        refine J.wide (k := (cells + 1)) (n := (slots + 6)) (Nat.le_refl _) (Nat.le_refl _) ?_
        refine j_iload C 1 dL_law_369 rfl ?_
        refine j_isame (tgt := 376) C rfl dL_law_371 (by decide) ?_
        refine j_iload C 1 dL_law_376 rfl ?_
        refine j_if_ne (tgt := 393) C (by decide) dL_law_378 (by decide) (fun h9 => absurd h9 (by decide)) (fun _ => ?_)
        refine j_aload_n C 5 dL_law_381 rfl rfl ?_
        refine j_iconst C dL_law_382 ?_
        refine j_lald (f := va_up o 0 (w32 ((kn 0 2 + 1)))) C 7 0 rfl rfl (by decide) (by decide) dL_law_383 ?_
        refine J.to (L1 := [(6, .int (iI (v 2 + 1))), (5, .int (iI 0)), (0, .ref b0), (1, .ref (r 0)), (2, .ref (u 0)), (3, .ref od), (4, .int (iI (4 * (n : Int))))]) (S1 := [.long (lI (w32 ((kn 0 2 + 1))))]) (ws1 := wLw g r u qn qt qv od (cpS (kAdd kn kt x1) kn) kt1 (svk kn kv ns) (svs sc) (svn ns) tx tn pl1 (va_up (va_up v (17 + (v 2).toNat) x1) 2 (v 2 + 1)) (svP v pa sv) sd rr rq (svN sv) ap nw 0 rm rd hh (va_up o 0 (w32 ((kn 0 2 + 1)))) tx tn) rfl rfl rfl ?_
        refine j_iload C 0 dL_law_384 rfl ?_
        refine j_i2lw C dL_law_386 ?_
        have heq : ((kn 0 2 + 1) : Int) = (v 2 + 1) := by rw [r2]
        refine j_lsame (tgt := 393) C (congrArg w32 heq) dL_law_387 dL_law_388 (by decide) ?_
        refine j_goto (tgt := 1603) C dL_law_393 (by decide) ?_
        refine J.sub (L1 := [(0, .ref b0), (1, .ref (r 0)), (2, .ref (u 0)), (3, .ref od), (4, .int (iI (4 * (n : Int))))]) [2, 3, 4, 5, 6] rfl ?_
        exact kk (cpS (kAdd kn kt x1) kn) kt1 (svk kn kv ns) (svs sc) (svn ns) tx tn pl1 (va_up (va_up v (17 + (v 2).toNat) x1) 2 (v 2 + 1)) (svP v pa sv) sd rr rq (svN sv) ap nw 0 rm rd hh (va_up o 0 (w32 ((kn 0 2 + 1)))) (hI.add q1 q2 (by rw [e9]; omega))
      · refine j_aload_n C 1 dL_law_340 rfl rfl ?_
        refine j_aload_n C 0 dL_law_341 rfl rfl ?_
        refine j_iload C 4 dL_law_342 rfl ?_
        refine j_iconst C dL_law_344 ?_
        refine j_iadd C dL_law_345 ?_
        refine j_sld C hX hbl hbA (4 * n + 1) (by omega) (by omega) (by omega) e1 dL_law_346 ?_
        refine j_aload_n C 3 dL_law_347 rfl rfl ?_
        refine j_callSW (As := [.ref (r 0), .int (iI x1), .ref od]) (rest := []) C yw_L_addPulley qw479 (w_addPulley_2b l hl g r qn qt qv kn kt kv sc ns tx tn pl od o x1 hI.1 (by omega) (by omega) (by rw [e9]; omega)) (by decide) rfl dL_law_348 rfl (Nat.le_of_ble_eq_true rfl) hc (pfL (wMd g u v pa sd tx rr rq (sv : Int) (tn : Int) th (ap : Int) rm rd (nw : Int) hh)) rfl (fun r9 w9 hq9 => ?_)
        obtain ⟨rfl, kt1, pl1, rfl⟩ := hq9
        refine J.to (L1 := [(0, .ref b0), (1, .ref (r 0)), (2, .ref (u 0)), (3, .ref od), (4, .int (iI (4 * (n : Int))))]) (S1 := [.int (iI 2)]) (ws1 := wLw g r u qn qt qv od kn kt1 kv sc ns tx tn pl1 v pa sd rr rq sv ap nw th rm rd hh o tx tn) rfl rfl rfl ?_
        refine J.wide (k := cells + 1) (n := slots + 6) hw1 hw2 ?_
        refine j_istore (L1 := [(5, .int (iI 2)), (0, .ref b0), (1, .ref (r 0)), (2, .ref (u 0)), (3, .ref od), (4, .int (iI (4 * (n : Int))))]) C dL_law_351 (by decide) rfl ?_
        refine j_aload_n C 3 dL_law_353 rfl rfl ?_
        refine j_aload_n C 1 dL_law_354 rfl rfl ?_
        refine j_iload C 5 dL_law_355 rfl ?_
        refine j_iconst C dL_law_357 ?_
        refine j_iadd C dL_law_358 ?_
        refine j_sld C hX hbl hbA (4 * n + 1) (by omega) (by omega) (by omega) e1 dL_law_359 ?_
        refine j_callV (As := [.int (iI x1)]) (rest := []) C yv_X5_addPulley qw764 (c_X5_addPulley_n3 l g u v pa sd tx rr rq sv (tn : Int) th (ap : Int) rm rd (nw : Int) hh x1 hm hsv (by omega) (by omega) (by omega)) (by decide) 0 rfl rfl rfl dL_law_360 rfl (Nat.le_of_ble_eq_true rfl) hcA (pfR ([(u 3, aL g 75 sd), (u 4, aI g 60 tx), (u 5, aI g 10 rr), (u 6, aI g 4 rq)] ++ ((od, aL g 1 (o)) :: wTp g r qn qt qv kn kt1 kv sc ns tx tn pl1))) rfl (fun r9 w9 hq9 => ?_)
        obtain ⟨rfl, rfl⟩ := hq9
        refine J.to (L1 := [(5, .int (iI 2)), (0, .ref b0), (1, .ref (r 0)), (2, .ref (u 0)), (3, .ref od), (4, .int (iI (4 * (n : Int))))]) (S1 := [.int (iI 0)]) (ws1 := wLw g r u qn qt qv od kn kt1 kv sc ns tx tn pl1 v pa sd rr rq sv ap nw 2 rm rd hh o tx tn) rfl rfl rfl ?_
        refine J.wide (k := (cells + 1)) (n := (slots + 6)) (Nat.le_refl _) (Nat.le_refl _) ?_
        refine j_istore (L1 := [(6, .int (iI 0)), (5, .int (iI 2)), (0, .ref b0), (1, .ref (r 0)), (2, .ref (u 0)), (3, .ref od), (4, .int (iI (4 * (n : Int))))]) C dL_law_363 (by decide) rfl ?_
        refine j_aload_n C 4 dL_law_365 rfl rfl ?_
        refine j_callV (As := []) (rest := []) C yv_X5_thrown qw706 (c_X5_thrown l g u v (sv : Int) (tn : Int) 2 (ap : Int) rm rd (nw : Int) hh) (by decide) 0 rfl rfl rfl dL_law_366 rfl (Nat.le_of_ble_eq_true rfl) hcA (pfR ([(u 1, aL g 75 v), (u 2, aL g 300 pa), (u 3, aL g 75 sd), (u 4, aI g 60 tx), (u 5, aI g 10 rr), (u 6, aI g 4 rq)] ++ ((od, aL g 1 (o)) :: wTp g r qn qt qv kn kt1 kv sc ns tx tn pl1))) rfl (fun r9 w9 hq9 => ?_)
        obtain ⟨rfl, rfl⟩ := hq9
        refine J.to (L1 := [(6, .int (iI 0)), (5, .int (iI 2)), (0, .ref b0), (1, .ref (r 0)), (2, .ref (u 0)), (3, .ref od), (4, .int (iI (4 * (n : Int))))]) (S1 := [.int (iI 2)]) (ws1 := wLw g r u qn qt qv od kn kt1 kv sc ns tx tn pl1 v pa sd rr rq sv ap nw 2 rm rd hh o tx tn) rfl rfl rfl ?_
        refine J.wide (k := (cells + 1)) (n := (slots + 6)) (Nat.le_refl _) (Nat.le_refl _) ?_
        refine j_iload C 1 dL_law_369 rfl ?_
        refine j_isame (tgt := 376) C rfl dL_law_371 (by decide) ?_
        refine j_iload C 1 dL_law_376 rfl ?_
        refine j_if_ne (tgt := 393) C (by decide) dL_law_378 (by decide) (fun _ => ?_) (fun h9 => absurd h9 (by decide))
        refine j_goto (tgt := 1603) C dL_law_393 (by decide) ?_
        refine J.sub (L1 := [(0, .ref b0), (1, .ref (r 0)), (2, .ref (u 0)), (3, .ref od), (4, .int (iI (4 * (n : Int))))]) [2, 3, 4, 5, 6] rfl ?_
        exact kk kn kt1 kv sc ns tx tn pl1 v pa sd rr rq sv ap nw 2 rm rd hh o hI.next
    · refine j_aload_n C 1 dL_law_340 rfl rfl ?_
      refine j_aload_n C 0 dL_law_341 rfl rfl ?_
      refine j_iload C 4 dL_law_342 rfl ?_
      refine j_iconst C dL_law_344 ?_
      refine j_iadd C dL_law_345 ?_
      refine j_sld C hX hbl hbA (4 * n + 1) (by omega) (by omega) (by omega) e1 dL_law_346 ?_
      refine j_aload_n C 3 dL_law_347 rfl rfl ?_
      refine j_callSW (As := [.ref (r 0), .int (iI x1), .ref od]) (rest := []) C yw_L_addPulley qw479 (w_addPulley_2 l hl g r qn qt qv kn kt kv sc ns tx tn pl od o x1 hI.1 (by omega) (by omega)) (by decide) rfl dL_law_348 rfl (Nat.le_of_ble_eq_true rfl) hc (pfL (wMd g u v pa sd tx rr rq (sv : Int) (tn : Int) th (ap : Int) rm rd (nw : Int) hh)) rfl (fun r9 w9 hq9 => ?_)
      obtain ⟨rfl, kt1, pl1, rfl⟩ := hq9
      refine J.to (L1 := [(0, .ref b0), (1, .ref (r 0)), (2, .ref (u 0)), (3, .ref od), (4, .int (iI (4 * (n : Int))))]) (S1 := [.int (iI 2)]) (ws1 := wLw g r u qn qt qv od kn kt1 kv sc ns tx tn pl1 v pa sd rr rq sv ap nw th rm rd hh o tx tn) rfl rfl rfl ?_
      refine J.wide (k := cells + 1) (n := slots + 6) hw1 hw2 ?_
      refine j_istore (L1 := [(5, .int (iI 2)), (0, .ref b0), (1, .ref (r 0)), (2, .ref (u 0)), (3, .ref od), (4, .int (iI (4 * (n : Int))))]) C dL_law_351 (by decide) rfl ?_
      refine j_aload_n C 3 dL_law_353 rfl rfl ?_
      refine j_aload_n C 1 dL_law_354 rfl rfl ?_
      refine j_iload C 5 dL_law_355 rfl ?_
      refine j_iconst C dL_law_357 ?_
      refine j_iadd C dL_law_358 ?_
      refine j_sld C hX hbl hbA (4 * n + 1) (by omega) (by omega) (by omega) e1 dL_law_359 ?_
      refine j_callV (As := [.int (iI x1)]) (rest := []) C yv_X5_addPulley qw764 (c_X5_addPulley_n2 l g u v pa sd tx rr rq sv (tn : Int) th (ap : Int) rm rd (nw : Int) hh x1 hm hsv (by omega) (by omega)) (by decide) 0 rfl rfl rfl dL_law_360 rfl (Nat.le_of_ble_eq_true rfl) hcA (pfR ([(u 3, aL g 75 sd), (u 4, aI g 60 tx), (u 5, aI g 10 rr), (u 6, aI g 4 rq)] ++ ((od, aL g 1 (o)) :: wTp g r qn qt qv kn kt1 kv sc ns tx tn pl1))) rfl (fun r9 w9 hq9 => ?_)
      obtain ⟨rfl, rfl⟩ := hq9
      refine J.to (L1 := [(5, .int (iI 2)), (0, .ref b0), (1, .ref (r 0)), (2, .ref (u 0)), (3, .ref od), (4, .int (iI (4 * (n : Int))))]) (S1 := [.int (iI 0)]) (ws1 := wLw g r u qn qt qv od kn kt1 kv sc ns tx tn pl1 v pa sd rr rq sv ap nw 2 rm rd hh o tx tn) rfl rfl rfl ?_
      refine J.wide (k := (cells + 1)) (n := (slots + 6)) (Nat.le_refl _) (Nat.le_refl _) ?_
      refine j_istore (L1 := [(6, .int (iI 0)), (5, .int (iI 2)), (0, .ref b0), (1, .ref (r 0)), (2, .ref (u 0)), (3, .ref od), (4, .int (iI (4 * (n : Int))))]) C dL_law_363 (by decide) rfl ?_
      refine j_aload_n C 4 dL_law_365 rfl rfl ?_
      refine j_callV (As := []) (rest := []) C yv_X5_thrown qw706 (c_X5_thrown l g u v (sv : Int) (tn : Int) 2 (ap : Int) rm rd (nw : Int) hh) (by decide) 0 rfl rfl rfl dL_law_366 rfl (Nat.le_of_ble_eq_true rfl) hcA (pfR ([(u 1, aL g 75 v), (u 2, aL g 300 pa), (u 3, aL g 75 sd), (u 4, aI g 60 tx), (u 5, aI g 10 rr), (u 6, aI g 4 rq)] ++ ((od, aL g 1 (o)) :: wTp g r qn qt qv kn kt1 kv sc ns tx tn pl1))) rfl (fun r9 w9 hq9 => ?_)
      obtain ⟨rfl, rfl⟩ := hq9
      refine J.to (L1 := [(6, .int (iI 0)), (5, .int (iI 2)), (0, .ref b0), (1, .ref (r 0)), (2, .ref (u 0)), (3, .ref od), (4, .int (iI (4 * (n : Int))))]) (S1 := [.int (iI 2)]) (ws1 := wLw g r u qn qt qv od kn kt1 kv sc ns tx tn pl1 v pa sd rr rq sv ap nw 2 rm rd hh o tx tn) rfl rfl rfl ?_
      refine J.wide (k := (cells + 1)) (n := (slots + 6)) (Nat.le_refl _) (Nat.le_refl _) ?_
      refine j_iload C 1 dL_law_369 rfl ?_
      refine j_isame (tgt := 376) C rfl dL_law_371 (by decide) ?_
      refine j_iload C 1 dL_law_376 rfl ?_
      refine j_if_ne (tgt := 393) C (by decide) dL_law_378 (by decide) (fun _ => ?_) (fun h9 => absurd h9 (by decide))
      refine j_goto (tgt := 1603) C dL_law_393 (by decide) ?_
      refine J.sub (L1 := [(0, .ref b0), (1, .ref (r 0)), (2, .ref (u 0)), (3, .ref od), (4, .int (iI (4 * (n : Int))))]) [2, 3, 4, 5, 6] rfl ?_
      exact kk kn kt1 kv sc ns tx tn pl1 v pa sd rr rq sv ap nw 2 rm rd hh o hI.next
  · refine j_aload_n C 1 dL_law_340 rfl rfl ?_
    refine j_aload_n C 0 dL_law_341 rfl rfl ?_
    refine j_iload C 4 dL_law_342 rfl ?_
    refine j_iconst C dL_law_344 ?_
    refine j_iadd C dL_law_345 ?_
    refine j_sld C hX hbl hbA (4 * n + 1) (by omega) (by omega) (by omega) e1 dL_law_346 ?_
    refine j_aload_n C 3 dL_law_347 rfl rfl ?_
    refine j_callSW (As := [.ref (r 0), .int (iI x1), .ref od]) (rest := []) C yw_L_addPulley qw479 (w_addPulley_1 l hl g r qn qt qv kn kt kv sc ns tx tn pl od o x1 hI.1 (by omega) (by omega)) (by decide) rfl dL_law_348 rfl (Nat.le_of_ble_eq_true rfl) hc (pfL (wMd g u v pa sd tx rr rq (sv : Int) (tn : Int) th (ap : Int) rm rd (nw : Int) hh)) rfl (fun r9 w9 hq9 => ?_)
    obtain ⟨rfl, kt1, pl1, rfl⟩ := hq9
    refine J.to (L1 := [(0, .ref b0), (1, .ref (r 0)), (2, .ref (u 0)), (3, .ref od), (4, .int (iI (4 * (n : Int))))]) (S1 := [.int (iI 1)]) (ws1 := wLw g r u qn qt qv od kn kt1 kv sc ns tx tn pl1 v pa sd rr rq sv ap nw th rm rd hh o tx tn) rfl rfl rfl ?_
    refine J.wide (k := cells + 1) (n := slots + 6) hw1 hw2 ?_
    refine j_istore (L1 := [(5, .int (iI 1)), (0, .ref b0), (1, .ref (r 0)), (2, .ref (u 0)), (3, .ref od), (4, .int (iI (4 * (n : Int))))]) C dL_law_351 (by decide) rfl ?_
    refine j_aload_n C 3 dL_law_353 rfl rfl ?_
    refine j_aload_n C 1 dL_law_354 rfl rfl ?_
    refine j_iload C 5 dL_law_355 rfl ?_
    refine j_iconst C dL_law_357 ?_
    refine j_iadd C dL_law_358 ?_
    refine j_sld C hX hbl hbA (4 * n + 1) (by omega) (by omega) (by omega) e1 dL_law_359 ?_
    refine j_callV (As := [.int (iI x1)]) (rest := []) C yv_X5_addPulley qw764 (c_X5_addPulley_n1 l g u v pa sd tx rr rq sv (tn : Int) th (ap : Int) rm rd (nw : Int) hh x1 hm hsv (by omega) (by omega)) (by decide) 0 rfl rfl rfl dL_law_360 rfl (Nat.le_of_ble_eq_true rfl) hcA (pfR ([(u 3, aL g 75 sd), (u 4, aI g 60 tx), (u 5, aI g 10 rr), (u 6, aI g 4 rq)] ++ ((od, aL g 1 (o)) :: wTp g r qn qt qv kn kt1 kv sc ns tx tn pl1))) rfl (fun r9 w9 hq9 => ?_)
    obtain ⟨rfl, rfl⟩ := hq9
    refine J.to (L1 := [(5, .int (iI 1)), (0, .ref b0), (1, .ref (r 0)), (2, .ref (u 0)), (3, .ref od), (4, .int (iI (4 * (n : Int))))]) (S1 := [.int (iI 0)]) (ws1 := wLw g r u qn qt qv od kn kt1 kv sc ns tx tn pl1 v pa sd rr rq sv ap nw 1 rm rd hh o tx tn) rfl rfl rfl ?_
    refine J.wide (k := (cells + 1)) (n := (slots + 6)) (Nat.le_refl _) (Nat.le_refl _) ?_
    refine j_istore (L1 := [(6, .int (iI 0)), (5, .int (iI 1)), (0, .ref b0), (1, .ref (r 0)), (2, .ref (u 0)), (3, .ref od), (4, .int (iI (4 * (n : Int))))]) C dL_law_363 (by decide) rfl ?_
    refine j_aload_n C 4 dL_law_365 rfl rfl ?_
    refine j_callV (As := []) (rest := []) C yv_X5_thrown qw706 (c_X5_thrown l g u v (sv : Int) (tn : Int) 1 (ap : Int) rm rd (nw : Int) hh) (by decide) 0 rfl rfl rfl dL_law_366 rfl (Nat.le_of_ble_eq_true rfl) hcA (pfR ([(u 1, aL g 75 v), (u 2, aL g 300 pa), (u 3, aL g 75 sd), (u 4, aI g 60 tx), (u 5, aI g 10 rr), (u 6, aI g 4 rq)] ++ ((od, aL g 1 (o)) :: wTp g r qn qt qv kn kt1 kv sc ns tx tn pl1))) rfl (fun r9 w9 hq9 => ?_)
    obtain ⟨rfl, rfl⟩ := hq9
    refine J.to (L1 := [(6, .int (iI 0)), (5, .int (iI 1)), (0, .ref b0), (1, .ref (r 0)), (2, .ref (u 0)), (3, .ref od), (4, .int (iI (4 * (n : Int))))]) (S1 := [.int (iI 1)]) (ws1 := wLw g r u qn qt qv od kn kt1 kv sc ns tx tn pl1 v pa sd rr rq sv ap nw 1 rm rd hh o tx tn) rfl rfl rfl ?_
    refine J.wide (k := (cells + 1)) (n := (slots + 6)) (Nat.le_refl _) (Nat.le_refl _) ?_
    refine j_iload C 1 dL_law_369 rfl ?_
    refine j_isame (tgt := 376) C rfl dL_law_371 (by decide) ?_
    refine j_iload C 1 dL_law_376 rfl ?_
    refine j_if_ne (tgt := 393) C (by decide) dL_law_378 (by decide) (fun _ => ?_) (fun h9 => absurd h9 (by decide))
    refine j_goto (tgt := 1603) C dL_law_393 (by decide) ?_
    refine J.sub (L1 := [(0, .ref b0), (1, .ref (r 0)), (2, .ref (u 0)), (3, .ref od), (4, .int (iI (4 * (n : Int))))]) [2, 3, 4, 5, 6] rfl ?_
    exact kk kn kt1 kv sc ns tx tn pl1 v pa sd rr rq sv ap nw 1 rm rd hh o hI.next
set_option maxRecDepth 100000 in
set_option maxHeartbeats 4000000 in
theorem law_4 {p : Program} {l : Launch} {e : Env} {s : State} {m : MethodId} {args : Array Value} {below : List Frame} {meth : Method} {c : Code} {g : Gh} {A : Nat → Prop} {r u : Nat → Nat} {qn qt : Nat → Nat} {qv : Nat → Nat → Nat} {od b0 n0 n : Nat} {xs : Nat → Int32} {Q : State → Prop} {cells slots : Nat} (C : Cx p g s m args c cL_law 9 RL A) (hl : l.stackTraces = false) (hX : va_X b0 n0 xs s s.heap) (hbl : b0 < s.heap.size) (hbA : ¬ A b0) (hn0 : n0 ≤ 2048) (hn : 4 * n + 3 < n0) (hc : cells + 1 ≤ room_1.cells ∧ slots + 6 ≤ room_1.slots) (kk : LJ p l e s m args below meth c g A r u qn qt qv od b0 Q 1603 (n + 1) (4 * (n : Int)) (cells + 1) (slots + 6)) : LJ p l e s m args below meth c g A r u qn qt qv od b0 Q 396 n (4 * (n : Int)) cells slots := by
  intro kn kt kv sc ns tx tn pl v pa sd rr rq sv ap nw th rm rd hh o hI
  have hR := hI.2.2.2.1
  have hk := hI.1.1.1
  have hm := rel_ok hR hk
  have hscv := hI.2.2.2.2.2.1.1
  have hsv : sv ≤ 4 := hI.2.2.2.2.2.1.2
  have hns := hI.1.2.2.2.1
  have htn := hI.1.2.2.2.2.1
  have htx := hI.1.2.2.2.2.2
  have r2 := hR.1 2 (by decide)
  have hk2 := hk.1
  have hcA : cells + 1 + 0 ≤ room_1.cells ∧ slots + 6 + 0 ≤ room_1.slots := hc
  have hc0 : cells + 0 ≤ room_1.cells ∧ slots + 0 ≤ room_1.slots := ⟨Nat.le_of_succ_le hc.1, by omega⟩
  have hv1 : cells + 0 ≤ cells + 1 := Nat.le_add_right cells 1
  have hv2 : slots + 0 ≤ slots + 6 := Nat.le_add_right slots 6
  have hw1 : cells + 1 ≤ cells + 1 := Nat.le_refl _
  have hw2 : slots + 6 ≤ slots + 6 := Nat.le_refl _
  by_cases q1 : 0 < kn 0 2
  · refine j_aload_n C 1 dL_law_396 rfl rfl ?_
    refine j_aload_n C 3 dL_law_397 rfl rfl ?_
    refine j_callSW (As := [.ref (r 0), .ref od]) (rest := []) C yw_L_takePulley qw488 (w_takePulley_0 l g r qn qt qv kn kt kv sc ns tx tn pl od o hI.1 (by omega)) (by decide) rfl dL_law_398 rfl (Nat.le_of_ble_eq_true rfl) hc0 (pfL (wMd g u v pa sd tx rr rq (sv : Int) (tn : Int) th (ap : Int) rm rd (nw : Int) hh)) rfl (fun r9 w9 hq9 => ?_)
    obtain ⟨rfl, kt1, pl1, rfl⟩ := hq9
    refine J.to (L1 := [(0, .ref b0), (1, .ref (r 0)), (2, .ref (u 0)), (3, .ref od), (4, .int (iI (4 * (n : Int))))]) (S1 := [.int (iI 0)]) (ws1 := wLw g r u qn qt qv od (kTake kn) kt1 (svk kn kv ns) (svs sc) (svn ns) tx tn pl1 v pa sd rr rq sv ap nw th rm rd hh (va_up o 0 (w32 ((kn 1 (kn 0 2 - 1).toNat)))) tx tn) rfl rfl rfl ?_
    refine J.wide (k := cells + 1) (n := slots + 6) hv1 hv2 ?_
    refine j_istore (L1 := [(5, .int (iI 0)), (0, .ref b0), (1, .ref (r 0)), (2, .ref (u 0)), (3, .ref od), (4, .int (iI (4 * (n : Int))))]) C dL_law_401 (by decide) rfl ?_
    refine j_aload_n C 3 dL_law_403 rfl rfl ?_
    refine j_callV (As := []) (rest := []) C yv_X5_takePulley qw770 (c_X5_takePulley_ok l g u v pa sd tx rr rq sv (tn : Int) th (ap : Int) rm rd (nw : Int) hh hm hsv (by omega)) (by decide) 0 rfl rfl rfl dL_law_404 rfl (Nat.le_of_ble_eq_true rfl) hcA (pfR ([(u 3, aL g 75 sd), (u 4, aI g 60 tx), (u 5, aI g 10 rr), (u 6, aI g 4 rq)] ++ ((od, aL g 1 (va_up o 0 (w32 ((kn 1 (kn 0 2 - 1).toNat))))) :: wTp g r qn qt qv (kTake kn) kt1 (svk kn kv ns) (svs sc) (svn ns) tx tn pl1))) rfl (fun r9 w9 hq9 => ?_)
    obtain ⟨rfl, rfl⟩ := hq9
    refine J.to (L1 := [(5, .int (iI 0)), (0, .ref b0), (1, .ref (r 0)), (2, .ref (u 0)), (3, .ref od), (4, .int (iI (4 * (n : Int))))]) (S1 := [.int (iI (v (17 + (v 2 - 1).toNat)))]) (ws1 := wLw g r u qn qt qv od (kTake kn) kt1 (svk kn kv ns) (svs sc) (svn ns) tx tn pl1 (va_up v 2 (v 2 - 1)) (svP v pa sv) sd rr rq (svN sv) ap nw 0 rm rd hh (va_up o 0 (w32 ((kn 1 (kn 0 2 - 1).toNat)))) tx tn) rfl rfl rfl ?_
    refine J.wide (k := (cells + 1)) (n := (slots + 6)) (Nat.le_refl _) (Nat.le_refl _) ?_
    refine j_istore (L1 := [(6, .int (iI (v (17 + (v 2 - 1).toNat)))), (5, .int (iI 0)), (0, .ref b0), (1, .ref (r 0)), (2, .ref (u 0)), (3, .ref od), (4, .int (iI (4 * (n : Int))))]) C dL_law_407 (by decide) rfl ?_
    refine j_aload_n C 4 dL_law_409 rfl rfl ?_
    refine j_callV (As := []) (rest := []) C yv_X5_thrown qw706 (c_X5_thrown l g u (va_up v 2 (v 2 - 1)) ((svN sv : Nat) : Int) (tn : Int) 0 (ap : Int) rm rd (nw : Int) hh) (by decide) 0 rfl rfl rfl dL_law_410 rfl (Nat.le_of_ble_eq_true rfl) hcA (pfR ([(u 1, aL g 75 (va_up v 2 (v 2 - 1))), (u 2, aL g 300 (svP v pa sv)), (u 3, aL g 75 sd), (u 4, aI g 60 tx), (u 5, aI g 10 rr), (u 6, aI g 4 rq)] ++ ((od, aL g 1 (va_up o 0 (w32 ((kn 1 (kn 0 2 - 1).toNat))))) :: wTp g r qn qt qv (kTake kn) kt1 (svk kn kv ns) (svs sc) (svn ns) tx tn pl1))) rfl (fun r9 w9 hq9 => ?_)
    obtain ⟨rfl, rfl⟩ := hq9
    refine J.to (L1 := [(6, .int (iI (v (17 + (v 2 - 1).toNat)))), (5, .int (iI 0)), (0, .ref b0), (1, .ref (r 0)), (2, .ref (u 0)), (3, .ref od), (4, .int (iI (4 * (n : Int))))]) (S1 := [.int (iI 0)]) (ws1 := wLw g r u qn qt qv od (kTake kn) kt1 (svk kn kv ns) (svs sc) (svn ns) tx tn pl1 (va_up v 2 (v 2 - 1)) (svP v pa sv) sd rr rq (svN sv) ap nw 0 rm rd hh (va_up o 0 (w32 ((kn 1 (kn 0 2 - 1).toNat)))) tx tn) rfl rfl rfl ?_
    refine J.wide (k := (cells + 1)) (n := (slots + 6)) (Nat.le_refl _) (Nat.le_refl _) ?_
    refine j_iload C 1 dL_law_413 rfl ?_
    refine j_isame (tgt := 420) C rfl dL_law_415 (by decide) ?_
    refine j_iload C 1 dL_law_420 rfl ?_
    refine j_if_ne (tgt := 437) C (by decide) dL_law_422 (by decide) (fun h9 => absurd h9 (by decide)) (fun _ => ?_)
    refine j_aload_n C 5 dL_law_425 rfl rfl ?_
    refine j_iconst C dL_law_426 ?_
    refine j_lald (f := va_up o 0 (w32 ((kn 1 (kn 0 2 - 1).toNat)))) C 7 0 rfl rfl (by decide) (by decide) dL_law_427 ?_
    refine J.to (L1 := [(6, .int (iI (v (17 + (v 2 - 1).toNat)))), (5, .int (iI 0)), (0, .ref b0), (1, .ref (r 0)), (2, .ref (u 0)), (3, .ref od), (4, .int (iI (4 * (n : Int))))]) (S1 := [.long (lI (w32 ((kn 1 (kn 0 2 - 1).toNat))))]) (ws1 := wLw g r u qn qt qv od (kTake kn) kt1 (svk kn kv ns) (svs sc) (svn ns) tx tn pl1 (va_up v 2 (v 2 - 1)) (svP v pa sv) sd rr rq (svN sv) ap nw 0 rm rd hh (va_up o 0 (w32 ((kn 1 (kn 0 2 - 1).toNat)))) tx tn) rfl rfl rfl ?_
    refine j_iload C 0 dL_law_428 rfl ?_
    refine j_i2lw C dL_law_430 ?_
    have heq : ((kn 1 (kn 0 2 - 1).toNat) : Int) = (v (17 + (v 2 - 1).toNat)) := by rw [r2]; exact hR.2.1 _ (by omega)
    refine j_lsame (tgt := 437) C (congrArg w32 heq) dL_law_431 dL_law_432 (by decide) ?_
    refine j_goto (tgt := 1603) C dL_law_437 (by decide) ?_
    refine J.sub (L1 := [(0, .ref b0), (1, .ref (r 0)), (2, .ref (u 0)), (3, .ref od), (4, .int (iI (4 * (n : Int))))]) [2, 3, 4, 5, 6] rfl ?_
    exact kk (kTake kn) kt1 (svk kn kv ns) (svs sc) (svn ns) tx tn pl1 (va_up v 2 (v 2 - 1)) (svP v pa sv) sd rr rq (svN sv) ap nw 0 rm rd hh (va_up o 0 (w32 ((kn 1 (kn 0 2 - 1).toNat)))) (hI.take q1)
  · refine j_aload_n C 1 dL_law_396 rfl rfl ?_
    refine j_aload_n C 3 dL_law_397 rfl rfl ?_
    refine j_callSW (As := [.ref (r 0), .ref od]) (rest := []) C yw_L_takePulley qw488 (w_takePulley_1 l hl g r qn qt qv kn kt kv sc ns tx tn pl od o hI.1 (by omega)) (by decide) rfl dL_law_398 rfl (Nat.le_of_ble_eq_true rfl) hc (pfL (wMd g u v pa sd tx rr rq (sv : Int) (tn : Int) th (ap : Int) rm rd (nw : Int) hh)) rfl (fun r9 w9 hq9 => ?_)
    obtain ⟨rfl, kt1, pl1, rfl⟩ := hq9
    refine J.to (L1 := [(0, .ref b0), (1, .ref (r 0)), (2, .ref (u 0)), (3, .ref od), (4, .int (iI (4 * (n : Int))))]) (S1 := [.int (iI 1)]) (ws1 := wLw g r u qn qt qv od kn kt1 kv sc ns tx tn pl1 v pa sd rr rq sv ap nw th rm rd hh o tx tn) rfl rfl rfl ?_
    refine J.wide (k := cells + 1) (n := slots + 6) hw1 hw2 ?_
    refine j_istore (L1 := [(5, .int (iI 1)), (0, .ref b0), (1, .ref (r 0)), (2, .ref (u 0)), (3, .ref od), (4, .int (iI (4 * (n : Int))))]) C dL_law_401 (by decide) rfl ?_
    refine j_aload_n C 3 dL_law_403 rfl rfl ?_
    refine j_callV (As := []) (rest := []) C yv_X5_takePulley qw770 (c_X5_takePulley_n1 l g u v pa sd tx rr rq sv (tn : Int) th (ap : Int) rm rd (nw : Int) hh hm hsv (by omega)) (by decide) 0 rfl rfl rfl dL_law_404 rfl (Nat.le_of_ble_eq_true rfl) hcA (pfR ([(u 3, aL g 75 sd), (u 4, aI g 60 tx), (u 5, aI g 10 rr), (u 6, aI g 4 rq)] ++ ((od, aL g 1 (o)) :: wTp g r qn qt qv kn kt1 kv sc ns tx tn pl1))) rfl (fun r9 w9 hq9 => ?_)
    obtain ⟨rfl, rfl⟩ := hq9
    refine J.to (L1 := [(5, .int (iI 1)), (0, .ref b0), (1, .ref (r 0)), (2, .ref (u 0)), (3, .ref od), (4, .int (iI (4 * (n : Int))))]) (S1 := [.int (iI 0)]) (ws1 := wLw g r u qn qt qv od kn kt1 kv sc ns tx tn pl1 v pa sd rr rq sv ap nw 1 rm rd hh o tx tn) rfl rfl rfl ?_
    refine J.wide (k := (cells + 1)) (n := (slots + 6)) (Nat.le_refl _) (Nat.le_refl _) ?_
    refine j_istore (L1 := [(6, .int (iI 0)), (5, .int (iI 1)), (0, .ref b0), (1, .ref (r 0)), (2, .ref (u 0)), (3, .ref od), (4, .int (iI (4 * (n : Int))))]) C dL_law_407 (by decide) rfl ?_
    refine j_aload_n C 4 dL_law_409 rfl rfl ?_
    refine j_callV (As := []) (rest := []) C yv_X5_thrown qw706 (c_X5_thrown l g u v (sv : Int) (tn : Int) 1 (ap : Int) rm rd (nw : Int) hh) (by decide) 0 rfl rfl rfl dL_law_410 rfl (Nat.le_of_ble_eq_true rfl) hcA (pfR ([(u 1, aL g 75 v), (u 2, aL g 300 pa), (u 3, aL g 75 sd), (u 4, aI g 60 tx), (u 5, aI g 10 rr), (u 6, aI g 4 rq)] ++ ((od, aL g 1 (o)) :: wTp g r qn qt qv kn kt1 kv sc ns tx tn pl1))) rfl (fun r9 w9 hq9 => ?_)
    obtain ⟨rfl, rfl⟩ := hq9
    refine J.to (L1 := [(6, .int (iI 0)), (5, .int (iI 1)), (0, .ref b0), (1, .ref (r 0)), (2, .ref (u 0)), (3, .ref od), (4, .int (iI (4 * (n : Int))))]) (S1 := [.int (iI 1)]) (ws1 := wLw g r u qn qt qv od kn kt1 kv sc ns tx tn pl1 v pa sd rr rq sv ap nw 1 rm rd hh o tx tn) rfl rfl rfl ?_
    refine J.wide (k := (cells + 1)) (n := (slots + 6)) (Nat.le_refl _) (Nat.le_refl _) ?_
    refine j_iload C 1 dL_law_413 rfl ?_
    refine j_isame (tgt := 420) C rfl dL_law_415 (by decide) ?_
    refine j_iload C 1 dL_law_420 rfl ?_
    refine j_if_ne (tgt := 437) C (by decide) dL_law_422 (by decide) (fun _ => ?_) (fun h9 => absurd h9 (by decide))
    refine j_goto (tgt := 1603) C dL_law_437 (by decide) ?_
    refine J.sub (L1 := [(0, .ref b0), (1, .ref (r 0)), (2, .ref (u 0)), (3, .ref od), (4, .int (iI (4 * (n : Int))))]) [2, 3, 4, 5, 6] rfl ?_
    exact kk kn kt1 kv sc ns tx tn pl1 v pa sd rr rq sv ap nw 1 rm rd hh o hI.next
set_option maxRecDepth 100000 in
set_option maxHeartbeats 4000000 in
theorem law_5 {p : Program} {l : Launch} {e : Env} {s : State} {m : MethodId} {args : Array Value} {below : List Frame} {meth : Method} {c : Code} {g : Gh} {A : Nat → Prop} {r u : Nat → Nat} {qn qt : Nat → Nat} {qv : Nat → Nat → Nat} {od b0 n0 n : Nat} {xs : Nat → Int32} {Q : State → Prop} {cells slots : Nat} (C : Cx p g s m args c cL_law 9 RL A) (hl : l.stackTraces = false) (hX : va_X b0 n0 xs s s.heap) (hbl : b0 < s.heap.size) (hbA : ¬ A b0) (hn0 : n0 ≤ 2048) (hn : 4 * n + 3 < n0) (hc : cells + 1 ≤ room_1.cells ∧ slots + 6 ≤ room_1.slots) (kk : LJ p l e s m args below meth c g A r u qn qt qv od b0 Q 1603 (n + 1) (4 * (n : Int)) (cells + 1) (slots + 6)) : LJ p l e s m args below meth c g A r u qn qt qv od b0 Q 440 n (4 * (n : Int)) cells slots := by
  intro kn kt kv sc ns tx tn pl v pa sd rr rq sv ap nw th rm rd hh o hI
  have hR := hI.2.2.2.1
  have hk := hI.1.1.1
  have hm := rel_ok hR hk
  have hscv := hI.2.2.2.2.2.1.1
  have hsv : sv ≤ 4 := hI.2.2.2.2.2.1.2
  have hns := hI.1.2.2.2.1
  have htn := hI.1.2.2.2.2.1
  have htx := hI.1.2.2.2.2.2
  have r2 := hR.1 2 (by decide)
  have hk2 := hk.1
  have hcA : cells + 1 + 0 ≤ room_1.cells ∧ slots + 6 + 0 ≤ room_1.slots := hc
  have hc0 : cells + 0 ≤ room_1.cells ∧ slots + 0 ≤ room_1.slots := ⟨Nat.le_of_succ_le hc.1, by omega⟩
  have hv1 : cells + 0 ≤ cells + 1 := Nat.le_add_right cells 1
  have hv2 : slots + 0 ≤ slots + 6 := Nat.le_add_right slots 6
  have hw1 : cells + 1 ≤ cells + 1 := Nat.le_refl _
  have hw2 : slots + 6 ≤ slots + 6 := Nat.le_refl _
  obtain ⟨x1, e1⟩ : ∃ x1 : Int, (xs (4 * n + 1)).toInt = x1 := ⟨_, rfl⟩
  have h1 := rngI (xs (4 * n + 1))
  rw [e1] at h1
  by_cases q1 : 0 ≤ x1 ∧ x1 ≤ 4
  · have e9 := hnd_end (kt := kt) hR hk q1
    by_cases q2 : esV v x1 ≤ hndV v + esV v (v 3)
    · refine j_aload_n C 1 dL_law_440 rfl rfl ?_
      refine j_aload_n C 0 dL_law_441 rfl rfl ?_
      refine j_iload C 4 dL_law_442 rfl ?_
      refine j_iconst C dL_law_444 ?_
      refine j_iadd C dL_law_445 ?_
      refine j_sld C hX hbl hbA (4 * n + 1) (by omega) (by omega) (by omega) e1 dL_law_446 ?_
      refine j_aload_n C 3 dL_law_447 rfl rfl ?_
      refine j_callSW (As := [.ref (r 0), .int (iI x1), .ref od]) (rest := []) C yw_L_setEnd qw501 (w_setEnd_0 l g r qn qt qv kn kt kv sc ns tx tn pl od o x1 hI.1 (by omega) (by rw [e9]; omega)) (by decide) rfl dL_law_448 rfl (Nat.le_of_ble_eq_true rfl) hc0 (pfL (wMd g u v pa sd tx rr rq (sv : Int) (tn : Int) th (ap : Int) rm rd (nw : Int) hh)) rfl (fun r9 w9 hq9 => ?_)
      obtain ⟨rfl, kt1, pl1, rfl⟩ := hq9
      refine J.to (L1 := [(0, .ref b0), (1, .ref (r 0)), (2, .ref (u 0)), (3, .ref od), (4, .int (iI (4 * (n : Int))))]) (S1 := [.int (iI 0)]) (ws1 := wLw g r u qn qt qv od (cpS (kEnd kn kt x1) kn) kt1 (svk kn kv ns) (svs sc) (svn ns) tx tn pl1 v pa sd rr rq sv ap nw th rm rd hh (va_up o 0 (w32 ((kn 0 3)))) tx tn) rfl rfl rfl ?_
      refine J.wide (k := cells + 1) (n := slots + 6) hv1 hv2 ?_
      refine j_istore (L1 := [(5, .int (iI 0)), (0, .ref b0), (1, .ref (r 0)), (2, .ref (u 0)), (3, .ref od), (4, .int (iI (4 * (n : Int))))]) C dL_law_451 (by decide) rfl ?_
      refine j_aload_n C 3 dL_law_453 rfl rfl ?_
      refine j_aload_n C 1 dL_law_454 rfl rfl ?_
      refine j_iload C 5 dL_law_455 rfl ?_
      refine j_iconst C dL_law_457 ?_
      refine j_iadd C dL_law_458 ?_
      refine j_sld C hX hbl hbA (4 * n + 1) (by omega) (by omega) (by omega) e1 dL_law_459 ?_
      refine j_callV (As := [.int (iI x1)]) (rest := []) C yv_X5_setEnd qw774 (c_X5_setEnd_ok l g u v pa sd tx rr rq sv (tn : Int) th (ap : Int) rm rd (nw : Int) hh x1 hm hsv (by omega) (by omega)) (by decide) 0 rfl rfl rfl dL_law_460 rfl (Nat.le_of_ble_eq_true rfl) hcA (pfR ([(u 3, aL g 75 sd), (u 4, aI g 60 tx), (u 5, aI g 10 rr), (u 6, aI g 4 rq)] ++ ((od, aL g 1 (va_up o 0 (w32 ((kn 0 3))))) :: wTp g r qn qt qv (cpS (kEnd kn kt x1) kn) kt1 (svk kn kv ns) (svs sc) (svn ns) tx tn pl1))) rfl (fun r9 w9 hq9 => ?_)
      obtain ⟨rfl, rfl⟩ := hq9
      refine J.to (L1 := [(5, .int (iI 0)), (0, .ref b0), (1, .ref (r 0)), (2, .ref (u 0)), (3, .ref od), (4, .int (iI (4 * (n : Int))))]) (S1 := [.int (iI (v 3))]) (ws1 := wLw g r u qn qt qv od (cpS (kEnd kn kt x1) kn) kt1 (svk kn kv ns) (svs sc) (svn ns) tx tn pl1 (va_up v 3 x1) (svP v pa sv) sd rr rq (svN sv) ap nw 0 rm rd hh (va_up o 0 (w32 ((kn 0 3)))) tx tn) rfl rfl rfl ?_
      refine J.wide (k := (cells + 1)) (n := (slots + 6)) (Nat.le_refl _) (Nat.le_refl _) ?_
      refine j_istore (L1 := [(6, .int (iI (v 3))), (5, .int (iI 0)), (0, .ref b0), (1, .ref (r 0)), (2, .ref (u 0)), (3, .ref od), (4, .int (iI (4 * (n : Int))))]) C dL_law_463 (by decide) rfl ?_
      refine j_aload_n C 4 dL_law_465 rfl rfl ?_
      refine j_callV (As := []) (rest := []) C yv_X5_thrown qw706 (c_X5_thrown l g u (va_up v 3 x1) ((svN sv : Nat) : Int) (tn : Int) 0 (ap : Int) rm rd (nw : Int) hh) (by decide) 0 rfl rfl rfl dL_law_466 rfl (Nat.le_of_ble_eq_true rfl) hcA (pfR ([(u 1, aL g 75 (va_up v 3 x1)), (u 2, aL g 300 (svP v pa sv)), (u 3, aL g 75 sd), (u 4, aI g 60 tx), (u 5, aI g 10 rr), (u 6, aI g 4 rq)] ++ ((od, aL g 1 (va_up o 0 (w32 ((kn 0 3))))) :: wTp g r qn qt qv (cpS (kEnd kn kt x1) kn) kt1 (svk kn kv ns) (svs sc) (svn ns) tx tn pl1))) rfl (fun r9 w9 hq9 => ?_)
      obtain ⟨rfl, rfl⟩ := hq9
      refine J.to (L1 := [(6, .int (iI (v 3))), (5, .int (iI 0)), (0, .ref b0), (1, .ref (r 0)), (2, .ref (u 0)), (3, .ref od), (4, .int (iI (4 * (n : Int))))]) (S1 := [.int (iI 0)]) (ws1 := wLw g r u qn qt qv od (cpS (kEnd kn kt x1) kn) kt1 (svk kn kv ns) (svs sc) (svn ns) tx tn pl1 (va_up v 3 x1) (svP v pa sv) sd rr rq (svN sv) ap nw 0 rm rd hh (va_up o 0 (w32 ((kn 0 3)))) tx tn) rfl rfl rfl ?_
      refine J.wide (k := (cells + 1)) (n := (slots + 6)) (Nat.le_refl _) (Nat.le_refl _) ?_
      refine j_iload C 1 dL_law_469 rfl ?_
      refine j_isame (tgt := 476) C rfl dL_law_471 (by decide) ?_
      refine j_iload C 1 dL_law_476 rfl ?_
      refine j_if_ne (tgt := 493) C (by decide) dL_law_478 (by decide) (fun h9 => absurd h9 (by decide)) (fun _ => ?_)
      refine j_aload_n C 5 dL_law_481 rfl rfl ?_
      refine j_iconst C dL_law_482 ?_
      refine j_lald (f := va_up o 0 (w32 ((kn 0 3)))) C 7 0 rfl rfl (by decide) (by decide) dL_law_483 ?_
      refine J.to (L1 := [(6, .int (iI (v 3))), (5, .int (iI 0)), (0, .ref b0), (1, .ref (r 0)), (2, .ref (u 0)), (3, .ref od), (4, .int (iI (4 * (n : Int))))]) (S1 := [.long (lI (w32 ((kn 0 3))))]) (ws1 := wLw g r u qn qt qv od (cpS (kEnd kn kt x1) kn) kt1 (svk kn kv ns) (svs sc) (svn ns) tx tn pl1 (va_up v 3 x1) (svP v pa sv) sd rr rq (svN sv) ap nw 0 rm rd hh (va_up o 0 (w32 ((kn 0 3)))) tx tn) rfl rfl rfl ?_
      refine j_iload C 0 dL_law_484 rfl ?_
      refine j_i2lw C dL_law_486 ?_
      have heq : ((kn 0 3) : Int) = (v 3) := hR.1 3 (by decide)
      refine j_lsame (tgt := 493) C (congrArg w32 heq) dL_law_487 dL_law_488 (by decide) ?_
      refine j_goto (tgt := 1603) C dL_law_493 (by decide) ?_
      refine J.sub (L1 := [(0, .ref b0), (1, .ref (r 0)), (2, .ref (u 0)), (3, .ref od), (4, .int (iI (4 * (n : Int))))]) [2, 3, 4, 5, 6] rfl ?_
      exact kk (cpS (kEnd kn kt x1) kn) kt1 (svk kn kv ns) (svs sc) (svn ns) tx tn pl1 (va_up v 3 x1) (svP v pa sv) sd rr rq (svN sv) ap nw 0 rm rd hh (va_up o 0 (w32 ((kn 0 3)))) (hI.en q1 (by rw [e9]; omega))
    · refine j_aload_n C 1 dL_law_440 rfl rfl ?_
      refine j_aload_n C 0 dL_law_441 rfl rfl ?_
      refine j_iload C 4 dL_law_442 rfl ?_
      refine j_iconst C dL_law_444 ?_
      refine j_iadd C dL_law_445 ?_
      refine j_sld C hX hbl hbA (4 * n + 1) (by omega) (by omega) (by omega) e1 dL_law_446 ?_
      refine j_aload_n C 3 dL_law_447 rfl rfl ?_
      refine j_callSW (As := [.ref (r 0), .int (iI x1), .ref od]) (rest := []) C yw_L_setEnd qw501 (w_setEnd_2 l hl g r qn qt qv kn kt kv sc ns tx tn pl od o x1 hI.1 (by omega) (by rw [e9]; omega)) (by decide) rfl dL_law_448 rfl (Nat.le_of_ble_eq_true rfl) hc (pfL (wMd g u v pa sd tx rr rq (sv : Int) (tn : Int) th (ap : Int) rm rd (nw : Int) hh)) rfl (fun r9 w9 hq9 => ?_)
      obtain ⟨rfl, kt1, pl1, rfl⟩ := hq9
      refine J.to (L1 := [(0, .ref b0), (1, .ref (r 0)), (2, .ref (u 0)), (3, .ref od), (4, .int (iI (4 * (n : Int))))]) (S1 := [.int (iI 2)]) (ws1 := wLw g r u qn qt qv od kn kt1 kv sc ns tx tn pl1 v pa sd rr rq sv ap nw th rm rd hh o tx tn) rfl rfl rfl ?_
      refine J.wide (k := cells + 1) (n := slots + 6) hw1 hw2 ?_
      refine j_istore (L1 := [(5, .int (iI 2)), (0, .ref b0), (1, .ref (r 0)), (2, .ref (u 0)), (3, .ref od), (4, .int (iI (4 * (n : Int))))]) C dL_law_451 (by decide) rfl ?_
      refine j_aload_n C 3 dL_law_453 rfl rfl ?_
      refine j_aload_n C 1 dL_law_454 rfl rfl ?_
      refine j_iload C 5 dL_law_455 rfl ?_
      refine j_iconst C dL_law_457 ?_
      refine j_iadd C dL_law_458 ?_
      refine j_sld C hX hbl hbA (4 * n + 1) (by omega) (by omega) (by omega) e1 dL_law_459 ?_
      refine j_callV (As := [.int (iI x1)]) (rest := []) C yv_X5_setEnd qw774 (c_X5_setEnd_n2 l g u v pa sd tx rr rq sv (tn : Int) th (ap : Int) rm rd (nw : Int) hh x1 hm hsv (by omega) (by omega)) (by decide) 0 rfl rfl rfl dL_law_460 rfl (Nat.le_of_ble_eq_true rfl) hcA (pfR ([(u 3, aL g 75 sd), (u 4, aI g 60 tx), (u 5, aI g 10 rr), (u 6, aI g 4 rq)] ++ ((od, aL g 1 (o)) :: wTp g r qn qt qv kn kt1 kv sc ns tx tn pl1))) rfl (fun r9 w9 hq9 => ?_)
      obtain ⟨rfl, rfl⟩ := hq9
      refine J.to (L1 := [(5, .int (iI 2)), (0, .ref b0), (1, .ref (r 0)), (2, .ref (u 0)), (3, .ref od), (4, .int (iI (4 * (n : Int))))]) (S1 := [.int (iI 0)]) (ws1 := wLw g r u qn qt qv od kn kt1 kv sc ns tx tn pl1 v pa sd rr rq sv ap nw 2 rm rd hh o tx tn) rfl rfl rfl ?_
      refine J.wide (k := (cells + 1)) (n := (slots + 6)) (Nat.le_refl _) (Nat.le_refl _) ?_
      refine j_istore (L1 := [(6, .int (iI 0)), (5, .int (iI 2)), (0, .ref b0), (1, .ref (r 0)), (2, .ref (u 0)), (3, .ref od), (4, .int (iI (4 * (n : Int))))]) C dL_law_463 (by decide) rfl ?_
      refine j_aload_n C 4 dL_law_465 rfl rfl ?_
      refine j_callV (As := []) (rest := []) C yv_X5_thrown qw706 (c_X5_thrown l g u v (sv : Int) (tn : Int) 2 (ap : Int) rm rd (nw : Int) hh) (by decide) 0 rfl rfl rfl dL_law_466 rfl (Nat.le_of_ble_eq_true rfl) hcA (pfR ([(u 1, aL g 75 v), (u 2, aL g 300 pa), (u 3, aL g 75 sd), (u 4, aI g 60 tx), (u 5, aI g 10 rr), (u 6, aI g 4 rq)] ++ ((od, aL g 1 (o)) :: wTp g r qn qt qv kn kt1 kv sc ns tx tn pl1))) rfl (fun r9 w9 hq9 => ?_)
      obtain ⟨rfl, rfl⟩ := hq9
      refine J.to (L1 := [(6, .int (iI 0)), (5, .int (iI 2)), (0, .ref b0), (1, .ref (r 0)), (2, .ref (u 0)), (3, .ref od), (4, .int (iI (4 * (n : Int))))]) (S1 := [.int (iI 2)]) (ws1 := wLw g r u qn qt qv od kn kt1 kv sc ns tx tn pl1 v pa sd rr rq sv ap nw 2 rm rd hh o tx tn) rfl rfl rfl ?_
      refine J.wide (k := (cells + 1)) (n := (slots + 6)) (Nat.le_refl _) (Nat.le_refl _) ?_
      refine j_iload C 1 dL_law_469 rfl ?_
      refine j_isame (tgt := 476) C rfl dL_law_471 (by decide) ?_
      refine j_iload C 1 dL_law_476 rfl ?_
      refine j_if_ne (tgt := 493) C (by decide) dL_law_478 (by decide) (fun _ => ?_) (fun h9 => absurd h9 (by decide))
      refine j_goto (tgt := 1603) C dL_law_493 (by decide) ?_
      refine J.sub (L1 := [(0, .ref b0), (1, .ref (r 0)), (2, .ref (u 0)), (3, .ref od), (4, .int (iI (4 * (n : Int))))]) [2, 3, 4, 5, 6] rfl ?_
      exact kk kn kt1 kv sc ns tx tn pl1 v pa sd rr rq sv ap nw 2 rm rd hh o hI.next
  · refine j_aload_n C 1 dL_law_440 rfl rfl ?_
    refine j_aload_n C 0 dL_law_441 rfl rfl ?_
    refine j_iload C 4 dL_law_442 rfl ?_
    refine j_iconst C dL_law_444 ?_
    refine j_iadd C dL_law_445 ?_
    refine j_sld C hX hbl hbA (4 * n + 1) (by omega) (by omega) (by omega) e1 dL_law_446 ?_
    refine j_aload_n C 3 dL_law_447 rfl rfl ?_
    refine j_callSW (As := [.ref (r 0), .int (iI x1), .ref od]) (rest := []) C yw_L_setEnd qw501 (w_setEnd_1 l hl g r qn qt qv kn kt kv sc ns tx tn pl od o x1 hI.1 (by omega) (by omega)) (by decide) rfl dL_law_448 rfl (Nat.le_of_ble_eq_true rfl) hc (pfL (wMd g u v pa sd tx rr rq (sv : Int) (tn : Int) th (ap : Int) rm rd (nw : Int) hh)) rfl (fun r9 w9 hq9 => ?_)
    obtain ⟨rfl, kt1, pl1, rfl⟩ := hq9
    refine J.to (L1 := [(0, .ref b0), (1, .ref (r 0)), (2, .ref (u 0)), (3, .ref od), (4, .int (iI (4 * (n : Int))))]) (S1 := [.int (iI 1)]) (ws1 := wLw g r u qn qt qv od kn kt1 kv sc ns tx tn pl1 v pa sd rr rq sv ap nw th rm rd hh o tx tn) rfl rfl rfl ?_
    refine J.wide (k := cells + 1) (n := slots + 6) hw1 hw2 ?_
    refine j_istore (L1 := [(5, .int (iI 1)), (0, .ref b0), (1, .ref (r 0)), (2, .ref (u 0)), (3, .ref od), (4, .int (iI (4 * (n : Int))))]) C dL_law_451 (by decide) rfl ?_
    refine j_aload_n C 3 dL_law_453 rfl rfl ?_
    refine j_aload_n C 1 dL_law_454 rfl rfl ?_
    refine j_iload C 5 dL_law_455 rfl ?_
    refine j_iconst C dL_law_457 ?_
    refine j_iadd C dL_law_458 ?_
    refine j_sld C hX hbl hbA (4 * n + 1) (by omega) (by omega) (by omega) e1 dL_law_459 ?_
    refine j_callV (As := [.int (iI x1)]) (rest := []) C yv_X5_setEnd qw774 (c_X5_setEnd_n1 l g u v pa sd tx rr rq sv (tn : Int) th (ap : Int) rm rd (nw : Int) hh x1 hm hsv (by omega) (by omega)) (by decide) 0 rfl rfl rfl dL_law_460 rfl (Nat.le_of_ble_eq_true rfl) hcA (pfR ([(u 3, aL g 75 sd), (u 4, aI g 60 tx), (u 5, aI g 10 rr), (u 6, aI g 4 rq)] ++ ((od, aL g 1 (o)) :: wTp g r qn qt qv kn kt1 kv sc ns tx tn pl1))) rfl (fun r9 w9 hq9 => ?_)
    obtain ⟨rfl, rfl⟩ := hq9
    refine J.to (L1 := [(5, .int (iI 1)), (0, .ref b0), (1, .ref (r 0)), (2, .ref (u 0)), (3, .ref od), (4, .int (iI (4 * (n : Int))))]) (S1 := [.int (iI 0)]) (ws1 := wLw g r u qn qt qv od kn kt1 kv sc ns tx tn pl1 v pa sd rr rq sv ap nw 1 rm rd hh o tx tn) rfl rfl rfl ?_
    refine J.wide (k := (cells + 1)) (n := (slots + 6)) (Nat.le_refl _) (Nat.le_refl _) ?_
    refine j_istore (L1 := [(6, .int (iI 0)), (5, .int (iI 1)), (0, .ref b0), (1, .ref (r 0)), (2, .ref (u 0)), (3, .ref od), (4, .int (iI (4 * (n : Int))))]) C dL_law_463 (by decide) rfl ?_
    refine j_aload_n C 4 dL_law_465 rfl rfl ?_
    refine j_callV (As := []) (rest := []) C yv_X5_thrown qw706 (c_X5_thrown l g u v (sv : Int) (tn : Int) 1 (ap : Int) rm rd (nw : Int) hh) (by decide) 0 rfl rfl rfl dL_law_466 rfl (Nat.le_of_ble_eq_true rfl) hcA (pfR ([(u 1, aL g 75 v), (u 2, aL g 300 pa), (u 3, aL g 75 sd), (u 4, aI g 60 tx), (u 5, aI g 10 rr), (u 6, aI g 4 rq)] ++ ((od, aL g 1 (o)) :: wTp g r qn qt qv kn kt1 kv sc ns tx tn pl1))) rfl (fun r9 w9 hq9 => ?_)
    obtain ⟨rfl, rfl⟩ := hq9
    refine J.to (L1 := [(6, .int (iI 0)), (5, .int (iI 1)), (0, .ref b0), (1, .ref (r 0)), (2, .ref (u 0)), (3, .ref od), (4, .int (iI (4 * (n : Int))))]) (S1 := [.int (iI 1)]) (ws1 := wLw g r u qn qt qv od kn kt1 kv sc ns tx tn pl1 v pa sd rr rq sv ap nw 1 rm rd hh o tx tn) rfl rfl rfl ?_
    refine J.wide (k := (cells + 1)) (n := (slots + 6)) (Nat.le_refl _) (Nat.le_refl _) ?_
    refine j_iload C 1 dL_law_469 rfl ?_
    refine j_isame (tgt := 476) C rfl dL_law_471 (by decide) ?_
    refine j_iload C 1 dL_law_476 rfl ?_
    refine j_if_ne (tgt := 493) C (by decide) dL_law_478 (by decide) (fun _ => ?_) (fun h9 => absurd h9 (by decide))
    refine j_goto (tgt := 1603) C dL_law_493 (by decide) ?_
    refine J.sub (L1 := [(0, .ref b0), (1, .ref (r 0)), (2, .ref (u 0)), (3, .ref od), (4, .int (iI (4 * (n : Int))))]) [2, 3, 4, 5, 6] rfl ?_
    exact kk kn kt1 kv sc ns tx tn pl1 v pa sd rr rq sv ap nw 1 rm rd hh o hI.next
