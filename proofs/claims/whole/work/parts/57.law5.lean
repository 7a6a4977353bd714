/-! the law's cases 19 to 23 -/
set_option maxRecDepth 100000 in
set_option maxHeartbeats 4000000 in
theorem law_19 {p : Program} {l : Launch} {e : Env} {s : State} {m : MethodId} {args : Array Value} {below : List Frame} {meth : Method} {c : Code} {g : Gh} {A : Nat → Prop} {r u : Nat → Nat} {qn qt : Nat → Nat} {qv : Nat → Nat → Nat} {od b0 n0 n : Nat} {xs : Nat → Int32} {Q : State → Prop} {cells slots : Nat} (C : Cx p g s m args c cL_law 9 RL A) (hl : l.stackTraces = false) (hX : va_X b0 n0 xs s s.heap) (hbl : b0 < s.heap.size) (hbA : ¬ A b0) (hn0 : n0 ≤ 2048) (hn : 4 * n + 3 < n0) (hc : cells + 1 ≤ room_1.cells ∧ slots + 6 ≤ room_1.slots) (kk : LJ p l e s m args below meth c g A r u qn qt qv od b0 Q 1603 (n + 1) (4 * (n : Int)) (cells + 1) (slots + 6)) : LJ p l e s m args below meth c g A r u qn qt qv od b0 Q 1262 n (4 * (n : Int)) cells slots := by
  intro kn kt kv sc ns tx tn pl v pa sd rr rq sv ap nw th rm rd hh o hI
  have hR := hI.2.2.2.1
  have hk := hI.1.1.1
  have hm := rel_ok hR hk
  have hscv := hI.2.2.2.2.2.1.1
  have hsv : sv ≤ 4 := hI.2.2.2.2.2.1.2
  have hns := hI.1.2.2.2.1
  have htn := hI.1.2.2.2.2.1
  have htx := hI.1.2.2.2.2.2
  have r2 := hR.1 2 (by decide)
  have hk2 := hk.1
  have hcA : cells + 1 + 0 ≤ room_1.cells ∧ slots + 6 + 0 ≤ room_1.slots := hc
  have hc0 : cells + 0 ≤ room_1.cells ∧ slots + 0 ≤ room_1.slots := ⟨Nat.le_of_succ_le hc.1, by omega⟩
  have hv1 : cells + 0 ≤ cells + 1 := Nat.le_add_right cells 1
  have hv2 : slots + 0 ≤ slots + 6 := Nat.le_add_right slots 6
  have hw1 : cells + 1 ≤ cells + 1 := Nat.le_refl _
  have hw2 : slots + 6 ≤ slots + 6 := Nat.le_refl _
  obtain ⟨x1, e1⟩ : ∃ x1 : Int, (xs (4 * n + 1)).toInt = x1 := ⟨_, rfl⟩
  have h1 := rngI (xs (4 * n + 1))
  rw [e1] at h1
  obtain ⟨x2, e2⟩ : ∃ x2 : Int, (xs (4 * n + 2)).toInt = x2 := ⟨_, rfl⟩
  have h2 := rngI (xs (4 * n + 2))
  rw [e2] at h2
  obtain ⟨x3, e3⟩ : ∃ x3 : Int, (xs (4 * n + 3)).toInt = x3 := ⟨_, rfl⟩
  have h3 := rngI (xs (4 * n + 3))
  rw [e3] at h3
  by_cases q1 : 0 ≤ x1 ∧ x1 < 4
  · by_cases q2 : 0 ≤ x2 ∧ x2 < kn 0 2
    · by_cases q3 : 0 ≤ x3 ∧ x3 < kn 0 2
      · refine j_aload_n C 1 dL_law_1262 rfl rfl ?_
        refine j_aload_n C 0 dL_law_1263 rfl rfl ?_
        refine j_iload C 4 dL_law_1264 rfl ?_
        refine j_iconst C dL_law_1266 ?_
        refine j_iadd C dL_law_1267 ?_
        refine j_sld C hX hbl hbA (4 * n + 1) (by omega) (by omega) (by omega) e1 dL_law_1268 ?_
        refine j_aload_n C 0 dL_law_1269 rfl rfl ?_
        refine j_iload C 4 dL_law_1270 rfl ?_
        refine j_iconst C dL_law_1272 ?_
        refine j_iadd C dL_law_1273 ?_
        refine j_sld C hX hbl hbA (4 * n + 2) (by omega) (by omega) (by omega) e2 dL_law_1274 ?_
        refine j_aload_n C 0 dL_law_1275 rfl rfl ?_
        refine j_iload C 4 dL_law_1276 rfl ?_
        refine j_iconst C dL_law_1278 ?_
        refine j_iadd C dL_law_1279 ?_
        refine j_sld C hX hbl hbA (4 * n + 3) (by omega) (by omega) (by omega) e3 dL_law_1280 ?_
        refine j_aload_n C 3 dL_law_1281 rfl rfl ?_
        refine j_callSW (As := [.ref (r 0), .int (iI x1), .int (iI x2), .int (iI x3), .ref od]) (rest := []) C yw_L_swapped qw617 (w_swapped_0 l g r qn qt qv kn kt kv sc ns tx tn pl od o x1 x2 x3 hI.1 (by omega) (by omega) (by omega)) (by decide) rfl dL_law_1282 rfl (Nat.le_of_ble_eq_true rfl) hc0 (pfL (wMd g u v pa sd tx rr rq (sv : Int) (tn : Int) th (ap : Int) rm rd (nw : Int) hh)) rfl (fun r9 w9 hq9 => ?_)
        obtain ⟨rfl, kt1, pl1, rfl⟩ := hq9
        refine J.to (L1 := [(0, .ref b0), (1, .ref (r 0)), (2, .ref (u 0)), (3, .ref od), (4, .int (iI (4 * (n : Int))))]) (S1 := [.int (iI 0)]) (ws1 := wLw g r u qn qt qv od kn kt1 kv sc ns tx tn pl1 v pa sd rr rq sv ap nw th rm rd hh (va_up o 0 (w32 ((lea (swp (kn 1) x2.toNat x3.toNat) (kn 0 1) true (kn 0 2).toNat (kn 0 3) x1 (kn 3 x1.toNat))))) tx tn) rfl rfl rfl ?_
        refine J.wide (k := cells + 1) (n := slots + 6) hv1 hv2 ?_
        refine j_istore (L1 := [(5, .int (iI 0)), (0, .ref b0), (1, .ref (r 0)), (2, .ref (u 0)), (3, .ref od), (4, .int (iI (4 * (n : Int))))]) C dL_law_1285 (by decide) rfl ?_
        refine j_aload_n C 3 dL_law_1287 rfl rfl ?_
        refine j_aload_n C 1 dL_law_1288 rfl rfl ?_
        refine j_iload C 5 dL_law_1289 rfl ?_
        refine j_iconst C dL_law_1291 ?_
        refine j_iadd C dL_law_1292 ?_
        refine j_sld C hX hbl hbA (4 * n + 1) (by omega) (by omega) (by omega) e1 dL_law_1293 ?_
        refine j_aload_n C 1 dL_law_1294 rfl rfl ?_
        refine j_iload C 5 dL_law_1295 rfl ?_
        refine j_iconst C dL_law_1297 ?_
        refine j_iadd C dL_law_1298 ?_
        refine j_sld C hX hbl hbA (4 * n + 2) (by omega) (by omega) (by omega) e2 dL_law_1299 ?_
        refine j_aload_n C 1 dL_law_1300 rfl rfl ?_
        refine j_iload C 5 dL_law_1301 rfl ?_
        refine j_iconst C dL_law_1303 ?_
        refine j_iadd C dL_law_1304 ?_
        refine j_sld C hX hbl hbA (4 * n + 3) (by omega) (by omega) (by omega) e3 dL_law_1305 ?_
        refine j_callV (As := [.int (iI x1), .int (iI x2), .int (iI x3)]) (rest := []) C yv_X5_swapped qw893 (c_X5_swapped_ok l g u v (sv : Int) (tn : Int) th (ap : Int) rm rd (nw : Int) hh x1 x2 x3 hm (by omega) (by omega) (by omega)) (by decide) 0 rfl rfl rfl dL_law_1306 rfl (Nat.le_of_ble_eq_true rfl) hcA (pfR ([(u 2, aL g 300 pa), (u 3, aL g 75 sd), (u 4, aI g 60 tx), (u 5, aI g 10 rr), (u 6, aI g 4 rq)] ++ ((od, aL g 1 (va_up o 0 (w32 ((lea (swp (kn 1) x2.toNat x3.toNat) (kn 0 1) true (kn 0 2).toNat (kn 0 3) x1 (kn 3 x1.toNat)))))) :: wTp g r qn qt qv kn kt1 kv sc ns tx tn pl1))) rfl (fun r9 w9 hq9 => ?_)
        obtain ⟨rfl, rfl⟩ := hq9
        refine J.to (L1 := [(5, .int (iI 0)), (0, .ref b0), (1, .ref (r 0)), (2, .ref (u 0)), (3, .ref od), (4, .int (iI (4 * (n : Int))))]) (S1 := [.int (iI (lea (swp (vR v) x2.toNat x3.toNat) (v 1) true (v 2).toNat (v 3) x1 (vW v x1.toNat)))]) (ws1 := wLw g r u qn qt qv od kn kt1 kv sc ns tx tn pl1 v pa sd rr rq sv ap nw 0 rm rd hh (va_up o 0 (w32 ((lea (swp (kn 1) x2.toNat x3.toNat) (kn 0 1) true (kn 0 2).toNat (kn 0 3) x1 (kn 3 x1.toNat))))) tx tn) rfl rfl rfl ?_
        refine J.wide (k := (cells + 1)) (n := (slots + 6)) (Nat.le_refl _) (Nat.le_refl _) ?_
        refine j_istore (L1 := [(6, .int (iI (lea (swp (vR v) x2.toNat x3.toNat) (v 1) true (v 2).toNat (v 3) x1 (vW v x1.toNat)))), (5, .int (iI 0)), (0, .ref b0), (1, .ref (r 0)), (2, .ref (u 0)), (3, .ref od), (4, .int (iI (4 * (n : Int))))]) C dL_law_1309 (by decide) rfl ?_
        refine j_aload_n C 4 dL_law_1311 rfl rfl ?_
        refine j_callV (As := []) (rest := []) C yv_X5_thrown qw706 (c_X5_thrown l g u v (sv : Int) (tn : Int) 0 (ap : Int) rm rd (nw : Int) hh) (by decide) 0 rfl rfl rfl dL_law_1312 rfl (Nat.le_of_ble_eq_true rfl) hcA (pfR ([(u 1, aL g 75 v), (u 2, aL g 300 pa), (u 3, aL g 75 sd), (u 4, aI g 60 tx), (u 5, aI g 10 rr), (u 6, aI g 4 rq)] ++ ((od, aL g 1 (va_up o 0 (w32 ((lea (swp (kn 1) x2.toNat x3.toNat) (kn 0 1) true (kn 0 2).toNat (kn 0 3) x1 (kn 3 x1.toNat)))))) :: wTp g r qn qt qv kn kt1 kv sc ns tx tn pl1))) rfl (fun r9 w9 hq9 => ?_)
        obtain ⟨rfl, rfl⟩ := hq9
        refine J.to (L1 := [(6, .int (iI (lea (swp (vR v) x2.toNat x3.toNat) (v 1) true (v 2).toNat (v 3) x1 (vW v x1.toNat)))), (5, .int (iI 0)), (0, .ref b0), (1, .ref (r 0)), (2, .ref (u 0)), (3, .ref od), (4, .int (iI (4 * (n : Int))))]) (S1 := [.int (iI 0)]) (ws1 := wLw g r u qn qt qv od kn kt1 kv sc ns tx tn pl1 v pa sd rr rq sv ap nw 0 rm rd hh (va_up o 0 (w32 ((lea (swp (kn 1) x2.toNat x3.toNat) (kn 0 1) true (kn 0 2).toNat (kn 0 3) x1 (kn 3 x1.toNat))))) tx tn) rfl rfl rfl ?_
        refine J.wide (k := (cells + 1)) (n := (slots + 6)) (Nat.le_refl _) (Nat.le_refl _) ?_
        refine j_iload C 1 dL_law_1315 rfl ?_
        refine j_isame (tgt := 1322) C rfl dL_law_1317 (by decide) ?_
        refine j_iload C 1 dL_law_1322 rfl ?_
        refine j_if_ne (tgt := 1339) C (by decide) dL_law_1324 (by decide) (fun h9 => absurd h9 (by decide)) (fun _ => ?_)
        refine j_aload_n C 5 dL_law_1327 rfl rfl ?_
        refine j_iconst C dL_law_1328 ?_
        refine j_lald (f := va_up o 0 (w32 ((lea (swp (kn 1) x2.toNat x3.toNat) (kn 0 1) true (kn 0 2).toNat (kn 0 3) x1 (kn 3 x1.toNat))))) C 7 0 rfl rfl (by decide) (by decide) dL_law_1329 ?_
        refine J.to (L1 := [(6, .int (iI (lea (swp (vR v) x2.toNat x3.toNat) (v 1) true (v 2).toNat (v 3) x1 (vW v x1.toNat)))), (5, .int (iI 0)), (0, .ref b0), (1, .ref (r 0)), (2, .ref (u 0)), (3, .ref od), (4, .int (iI (4 * (n : Int))))]) (S1 := [.long (lI (w32 ((lea (swp (kn 1) x2.toNat x3.toNat) (kn 0 1) true (kn 0 2).toNat (kn 0 3) x1 (kn 3 x1.toNat)))))]) (ws1 := wLw g r u qn qt qv od kn kt1 kv sc ns tx tn pl1 v pa sd rr rq sv ap nw 0 rm rd hh (va_up o 0 (w32 ((lea (swp (kn 1) x2.toNat x3.toNat) (kn 0 1) true (kn 0 2).toNat (kn 0 3) x1 (kn 3 x1.toNat))))) tx tn) rfl rfl rfl ?_
        refine j_iload C 0 dL_law_1330 rfl ?_
        refine j_i2lw C dL_law_1332 ?_
        have heq : ((lea (swp (kn 1) x2.toNat x3.toNat) (kn 0 1) true (kn 0 2).toNat (kn 0 3) x1 (kn 3 x1.toNat)) : Int) = (lea (swp (vR v) x2.toNat x3.toNat) (v 1) true (v 2).toNat (v 3) x1 (vW v x1.toNat)) := rel_sw hR q1 (by omega) (by omega)
        refine j_lsame (tgt := 1339) C (congrArg w32 heq) dL_law_1333 dL_law_1334 (by decide) ?_
        refine j_goto (tgt := 1603) C dL_law_1339 (by decide) ?_
        refine J.sub (L1 := [(0, .ref b0), (1, .ref (r 0)), (2, .ref (u 0)), (3, .ref od), (4, .int (iI (4 * (n : Int))))]) [2, 3, 4, 5, 6] rfl ?_
        exact kk kn kt1 kv sc ns tx tn pl1 v pa sd rr rq sv ap nw 0 rm rd hh (va_up o 0 (w32 ((lea (swp (kn 1) x2.toNat x3.toNat) (kn 0 1) true (kn 0 2).toNat (kn 0 3) x1 (kn 3 x1.toNat))))) hI.next
      · refine j_aload_n C 1 dL_law_1262 rfl rfl ?_
        refine j_aload_n C 0 dL_law_1263 rfl rfl ?_
        refine j_iload C 4 dL_law_1264 rfl ?_
        refine j_iconst C dL_law_1266 ?_
        refine j_iadd C dL_law_1267 ?_
        refine j_sld C hX hbl hbA (4 * n + 1) (by omega) (by omega) (by omega) e1 dL_law_1268 ?_
        refine j_aload_n C 0 dL_law_1269 rfl rfl ?_
        refine j_iload C 4 dL_law_1270 rfl ?_
        refine j_iconst C dL_law_1272 ?_
        refine j_iadd C dL_law_1273 ?_
        refine j_sld C hX hbl hbA (4 * n + 2) (by omega) (by omega) (by omega) e2 dL_law_1274 ?_
        refine j_aload_n C 0 dL_law_1275 rfl rfl ?_
        refine j_iload C 4 dL_law_1276 rfl ?_
        refine j_iconst C dL_law_1278 ?_
        refine j_iadd C dL_law_1279 ?_
        refine j_sld C hX hbl hbA (4 * n + 3) (by omega) (by omega) (by omega) e3 dL_law_1280 ?_
        refine j_aload_n C 3 dL_law_1281 rfl rfl ?_
        refine j_callSW (As := [.ref (r 0), .int (iI x1), .int (iI x2), .int (iI x3), .ref od]) (rest := []) C yw_L_swapped qw617 (w_swapped_1c l hl g r qn qt qv kn kt kv sc ns tx tn pl od o x1 x2 x3 hI.1 (by omega) (by omega) (by omega) (by omega) (by omega) (by omega)) (by decide) rfl dL_law_1282 rfl (Nat.le_of_ble_eq_true rfl) hc (pfL (wMd g u v pa sd tx rr rq (sv : Int) (tn : Int) th (ap : Int) rm rd (nw : Int) hh)) rfl (fun r9 w9 hq9 => ?_)
        obtain ⟨rfl, kt1, pl1, rfl⟩ := hq9
        refine J.to (L1 := [(0, .ref b0), (1, .ref (r 0)), (2, .ref (u 0)), (3, .ref od), (4, .int (iI (4 * (n : Int))))]) (S1 := [.int (iI 1)]) (ws1 := wLw g r u qn qt qv od kn kt1 kv sc ns tx tn pl1 v pa sd rr rq sv ap nw th rm rd hh o tx tn) rfl rfl rfl ?_
        refine J.wide (k := cells + 1) (n := slots + 6) hw1 hw2 ?_
        refine j_istore (L1 := [(5, .int (iI 1)), (0, .ref b0), (1, .ref (r 0)), (2, .ref (u 0)), (3, .ref od), (4, .int (iI (4 * (n : Int))))]) C dL_law_1285 (by decide) rfl ?_
        refine j_aload_n C 3 dL_law_1287 rfl rfl ?_
        refine j_aload_n C 1 dL_law_1288 rfl rfl ?_
        refine j_iload C 5 dL_law_1289 rfl ?_
        refine j_iconst C dL_law_1291 ?_
        refine j_iadd C dL_law_1292 ?_
        refine j_sld C hX hbl hbA (4 * n + 1) (by omega) (by omega) (by omega) e1 dL_law_1293 ?_
        refine j_aload_n C 1 dL_law_1294 rfl rfl ?_
        refine j_iload C 5 dL_law_1295 rfl ?_
        refine j_iconst C dL_law_1297 ?_
        refine j_iadd C dL_law_1298 ?_
        refine j_sld C hX hbl hbA (4 * n + 2) (by omega) (by omega) (by omega) e2 dL_law_1299 ?_
        refine j_aload_n C 1 dL_law_1300 rfl rfl ?_
        refine j_iload C 5 dL_law_1301 rfl ?_
        refine j_iconst C dL_law_1303 ?_
        refine j_iadd C dL_law_1304 ?_
        refine j_sld C hX hbl hbA (4 * n + 3) (by omega) (by omega) (by omega) e3 dL_law_1305 ?_
        refine j_callV (As := [.int (iI x1), .int (iI x2), .int (iI x3)]) (rest := []) C yv_X5_swapped qw893 (c_X5_swapped_n3 l g u v (sv : Int) (tn : Int) th (ap : Int) rm rd (nw : Int) hh x1 x2 x3 hm (by omega) (by omega) (by omega) (by omega) (by omega) (by omega)) (by decide) 0 rfl rfl rfl dL_law_1306 rfl (Nat.le_of_ble_eq_true rfl) hcA (pfR ([(u 2, aL g 300 pa), (u 3, aL g 75 sd), (u 4, aI g 60 tx), (u 5, aI g 10 rr), (u 6, aI g 4 rq)] ++ ((od, aL g 1 (o)) :: wTp g r qn qt qv kn kt1 kv sc ns tx tn pl1))) rfl (fun r9 w9 hq9 => ?_)
        obtain ⟨rfl, rfl⟩ := hq9
        refine J.to (L1 := [(5, .int (iI 1)), (0, .ref b0), (1, .ref (r 0)), (2, .ref (u 0)), (3, .ref od), (4, .int (iI (4 * (n : Int))))]) (S1 := [.int (iI 0)]) (ws1 := wLw g r u qn qt qv od kn kt1 kv sc ns tx tn pl1 v pa sd rr rq sv ap nw 1 rm rd hh o tx tn) rfl rfl rfl ?_
        refine J.wide (k := (cells + 1)) (n := (slots + 6)) (Nat.le_refl _) (Nat.le_refl _) ?_
        refine j_istore (L1 := [(6, .int (iI 0)), (5, .int (iI 1)), (0, .ref b0), (1, .ref (r 0)), (2, .ref (u 0)), (3, .ref od), (4, .int (iI (4 * (n : Int))))]) C dL_law_1309 (by decide) rfl ?_
        refine j_aload_n C 4 dL_law_1311 rfl rfl ?_
        refine j_callV (As := []) (rest := []) C yv_X5_thrown qw706 (c_X5_thrown l g u v (sv : Int) (tn : Int) 1 (ap : Int) rm rd (nw : Int) hh) (by decide) 0 rfl rfl rfl dL_law_1312 rfl (Nat.le_of_ble_eq_true rfl) hcA (pfR ([(u 1, aL g 75 v), (u 2, aL g 300 pa), (u 3, aL g 75 sd), (u 4, aI g 60 tx), (u 5, aI g 10 rr), (u 6, aI g 4 rq)] ++ ((od, aL g 1 (o)) :: wTp g r qn qt qv kn kt1 kv sc ns tx tn pl1))) rfl (fun r9 w9 hq9 => ?_)
        obtain ⟨rfl, rfl⟩ := hq9
        refine J.to (L1 := [(6, .int (iI 0)), (5, .int (iI 1)), (0, .ref b0), (1, .ref (r 0)), (2, .ref (u 0)), (3, .ref od), (4, .int (iI (4 * (n : Int))))]) (S1 := [.int (iI 1)]) (ws1 := wLw g r u qn qt qv od kn kt1 kv sc ns tx tn pl1 v pa sd rr rq sv ap nw 1 rm rd hh o tx tn) rfl rfl rfl ?_
        refine J.wide (k := (cells + 1)) (n := (slots + 6)) (Nat.le_refl _) (Nat.le_refl _) ?_
        refine j_iload C 1 dL_law_1315 rfl ?_
        refine j_isame (tgt := 1322) C rfl dL_law_1317 (by decide) ?_
        refine j_iload C 1 dL_law_1322 rfl ?_
        refine j_if_ne (tgt := 1339) C (by decide) dL_law_1324 (by decide) (fun _ => ?_) (fun h9 => absurd h9 (by decide))
        refine j_goto (tgt := 1603) C dL_law_1339 (by decide) ?_
        refine J.sub (L1 := [(0, .ref b0), (1, .ref (r 0)), (2, .ref (u 0)), (3, .ref od), (4, .int (iI (4 * (n : Int))))]) [2, 3, 4, 5, 6] rfl ?_
        exact kk kn kt1 kv sc ns tx tn pl1 v pa sd rr rq sv ap nw 1 rm rd hh o hI.next
    · refine j_aload_n C 1 dL_law_1262 rfl rfl ?_
      refine j_aload_n C 0 dL_law_1263 rfl rfl ?_
      refine j_iload C 4 dL_law_1264 rfl ?_
      refine j_iconst C dL_law_1266 ?_
      refine j_iadd C dL_law_1267 ?_
      refine j_sld C hX hbl hbA (4 * n + 1) (by omega) (by omega) (by omega) e1 dL_law_1268 ?_
      refine j_aload_n C 0 dL_law_1269 rfl rfl ?_
      refine j_iload C 4 dL_law_1270 rfl ?_
      refine j_iconst C dL_law_1272 ?_
      refine j_iadd C dL_law_1273 ?_
      refine j_sld C hX hbl hbA (4 * n + 2) (by omega) (by omega) (by omega) e2 dL_law_1274 ?_
      refine j_aload_n C 0 dL_law_1275 rfl rfl ?_
      refine j_iload C 4 dL_law_1276 rfl ?_
      refine j_iconst C dL_law_1278 ?_
      refine j_iadd C dL_law_1279 ?_
      refine j_sld C hX hbl hbA (4 * n + 3) (by omega) (by omega) (by omega) e3 dL_law_1280 ?_
      refine j_aload_n C 3 dL_law_1281 rfl rfl ?_
      refine j_callSW (As := [.ref (r 0), .int (iI x1), .int (iI x2), .int (iI x3), .ref od]) (rest := []) C yw_L_swapped qw617 (w_swapped_1b l hl g r qn qt qv kn kt kv sc ns tx tn pl od o x1 x2 x3 hI.1 (by omega) (by omega) (by omega) (by omega) (by omega)) (by decide) rfl dL_law_1282 rfl (Nat.le_of_ble_eq_true rfl) hc (pfL (wMd g u v pa sd tx rr rq (sv : Int) (tn : Int) th (ap : Int) rm rd (nw : Int) hh)) rfl (fun r9 w9 hq9 => ?_)
      obtain ⟨rfl, kt1, pl1, rfl⟩ := hq9
      refine J.to (L1 := [(0, .ref b0), (1, .ref (r 0)), (2, .ref (u 0)), (3, .ref od), (4, .int (iI (4 * (n : Int))))]) (S1 := [.int (iI 1)]) (ws1 := wLw g r u qn qt qv od kn kt1 kv sc ns tx tn pl1 v pa sd rr rq sv ap nw th rm rd hh o tx tn) rfl rfl rfl ?_
      refine J.wide (k := cells + 1) (n := slots + 6) hw1 hw2 ?_
      refine j_istore (L1 := [(5, .int (iI 1)), (0, .ref b0), (1, .ref (r 0)), (2, .ref (u 0)), (3, .ref od), (4, .int (iI (4 * (n : Int))))]) C dL_law_1285 (by decide) rfl ?_
      refine j_aload_n C 3 dL_law_1287 rfl rfl ?_
      refine j_aload_n C 1 dL_law_1288 rfl rfl ?_
      refine j_iload C 5 dL_law_1289 rfl ?_
      refine j_iconst C dL_law_1291 ?_
      refine j_iadd C dL_law_1292 ?_
      refine j_sld C hX hbl hbA (4 * n + 1) (by omega) (by omega) (by omega) e1 dL_law_1293 ?_
      refine j_aload_n C 1 dL_law_1294 rfl rfl ?_
      refine j_iload C 5 dL_law_1295 rfl ?_
      refine j_iconst C dL_law_1297 ?_
      refine j_iadd C dL_law_1298 ?_
      refine j_sld C hX hbl hbA (4 * n + 2) (by omega) (by omega) (by omega) e2 dL_law_1299 ?_
      refine j_aload_n C 1 dL_law_1300 rfl rfl ?_
      refine j_iload C 5 dL_law_1301 rfl ?_
      refine j_iconst C dL_law_1303 ?_
      refine j_iadd C dL_law_1304 ?_
      refine j_sld C hX hbl hbA (4 * n + 3) (by omega) (by omega) (by omega) e3 dL_law_1305 ?_
      refine j_callV (As := [.int (iI x1), .int (iI x2), .int (iI x3)]) (rest := []) C yv_X5_swapped qw893 (c_X5_swapped_n2 l g u v (sv : Int) (tn : Int) th (ap : Int) rm rd (nw : Int) hh x1 x2 x3 hm (by omega) (by omega) (by omega) (by omega) (by omega)) (by decide) 0 rfl rfl rfl dL_law_1306 rfl (Nat.le_of_ble_eq_true rfl) hcA (pfR ([(u 2, aL g 300 pa), (u 3, aL g 75 sd), (u 4, aI g 60 tx), (u 5, aI g 10 rr), (u 6, aI g 4 rq)] ++ ((od, aL g 1 (o)) :: wTp g r qn qt qv kn kt1 kv sc ns tx tn pl1))) rfl (fun r9 w9 hq9 => ?_)
      obtain ⟨rfl, rfl⟩ := hq9
      refine J.to (L1 := [(5, .int (iI 1)), (0, .ref b0), (1, .ref (r 0)), (2, .ref (u 0)), (3, .ref od), (4, .int (iI (4 * (n : Int))))]) (S1 := [.int (iI 0)]) (ws1 := wLw g r u qn qt qv od kn kt1 kv sc ns tx tn pl1 v pa sd rr rq sv ap nw 1 rm rd hh o tx tn) rfl rfl rfl ?_
      refine J.wide (k := (cells + 1)) (n := (slots + 6)) (Nat.le_refl _) (Nat.le_refl _) ?_
      refine j_istore (L1 := [(6, .int (iI 0)), (5, .int (iI 1)), (0, .ref b0), (1, .ref (r 0)), (2, .ref (u 0)), (3, .ref od), (4, .int (iI (4 * (n : Int))))]) C dL_law_1309 (by decide) rfl ?_
      refine j_aload_n C 4 dL_law_1311 rfl rfl ?_
      refine j_callV (As := []) (rest := []) C yv_X5_thrown qw706 (c_X5_thrown l g u v (sv : Int) (tn : Int) 1 (ap : Int) rm rd (nw : Int) hh) (by decide) 0 rfl rfl rfl dL_law_1312 rfl (Nat.le_of_ble_eq_true rfl) hcA (pfR ([(u 1, aL g 75 v), (u 2, aL g 300 pa), (u 3, aL g 75 sd), (u 4, aI g 60 tx), (u 5, aI g 10 rr), (u 6, aI g 4 rq)] ++ ((od, aL g 1 (o)) :: wTp g r qn qt qv kn kt1 kv sc ns tx tn pl1))) rfl (fun r9 w9 hq9 => ?_)
      obtain ⟨rfl, rfl⟩ := hq9
      refine J.to (L1 := [(6, .int (iI 0)), (5, .int (iI 1)), (0, .ref b0), (1, .ref (r 0)), (2, .ref (u 0)), (3, .ref od), (4, .int (iI (4 * (n : Int))))]) (S1 := [.int (iI 1)]) (ws1 := wLw g r u qn qt qv od kn kt1 kv sc ns tx tn pl1 v pa sd rr rq sv ap nw 1 rm rd hh o tx tn) rfl rfl rfl ?_
      refine J.wide (k := (cells + 1)) (n := (slots + 6)) (Nat.le_refl _) (Nat.le_refl _) ?_
      refine j_iload C 1 dL_law_1315 rfl ?_
      refine j_isame (tgt := 1322) C rfl dL_law_1317 (by decide) ?_
      refine j_iload C 1 dL_law_1322 rfl ?_
      refine j_if_ne (tgt := 1339) C (by decide) dL_law_1324 (by decide) (fun _ => ?_) (fun h9 => absurd h9 (by decide))
      refine j_goto (tgt := 1603) C dL_law_1339 (by decide) ?_
      refine J.sub (L1 := [(0, .ref b0), (1, .ref (r 0)), (2, .ref (u 0)), (3, .ref od), (4, .int (iI (4 * (n : Int))))]) [2, 3, 4, 5, 6] rfl ?_
      exact kk kn kt1 kv sc ns tx tn pl1 v pa sd rr rq sv ap nw 1 rm rd hh o hI.next
  · refine j_aload_n C 1 dL_law_1262 rfl rfl ?_
    refine j_aload_n C 0 dL_law_1263 rfl rfl ?_
    refine j_iload C 4 dL_law_1264 rfl ?_
    refine j_iconst C dL_law_1266 ?_
    refine j_iadd C dL_law_1267 ?_
    refine j_sld C hX hbl hbA (4 * n + 1) (by omega) (by omega) (by omega) e1 dL_law_1268 ?_
    refine j_aload_n C 0 dL_law_1269 rfl rfl ?_
    refine j_iload C 4 dL_law_1270 rfl ?_
    refine j_iconst C dL_law_1272 ?_
    refine j_iadd C dL_law_1273 ?_
    refine j_sld C hX hbl hbA (4 * n + 2) (by omega) (by omega) (by omega) e2 dL_law_1274 ?_
    refine j_aload_n C 0 dL_law_1275 rfl rfl ?_
    refine j_iload C 4 dL_law_1276 rfl ?_
    refine j_iconst C dL_law_1278 ?_
    refine j_iadd C dL_law_1279 ?_
    refine j_sld C hX hbl hbA (4 * n + 3) (by omega) (by omega) (by omega) e3 dL_law_1280 ?_
    refine j_aload_n C 3 dL_law_1281 rfl rfl ?_
    refine j_callSW (As := [.ref (r 0), .int (iI x1), .int (iI x2), .int (iI x3), .ref od]) (rest := []) C yw_L_swapped qw617 (w_swapped_1 l hl g r qn qt qv kn kt kv sc ns tx tn pl od o x1 x2 x3 hI.1 (by omega) (by omega) (by omega) (by omega)) (by decide) rfl dL_law_1282 rfl (Nat.le_of_ble_eq_true rfl) hc (pfL (wMd g u v pa sd tx rr rq (sv : Int) (tn : Int) th (ap : Int) rm rd (nw : Int) hh)) rfl (fun r9 w9 hq9 => ?_)
    obtain ⟨rfl, kt1, pl1, rfl⟩ := hq9
    refine J.to (L1 := [(0, .ref b0), (1, .ref (r 0)), (2, .ref (u 0)), (3, .ref od), (4, .int (iI (4 * (n : Int))))]) (S1 := [.int (iI 1)]) (ws1 := wLw g r u qn qt qv od kn kt1 kv sc ns tx tn pl1 v pa sd rr rq sv ap nw th rm rd hh o tx tn) rfl rfl rfl ?_
    refine J.wide (k := cells + 1) (n := slots + 6) hw1 hw2 ?_
    refine j_istore (L1 := [(5, .int (iI 1)), (0, .ref b0), (1, .ref (r 0)), (2, .ref (u 0)), (3, .ref od), (4, .int (iI (4 * (n : Int))))]) C dL_law_1285 (by decide) rfl ?_
    refine j_aload_n C 3 dL_law_1287 rfl rfl ?_
    refine j_aload_n C 1 dL_law_1288 rfl rfl ?_
    refine j_iload C 5 dL_law_1289 rfl ?_
    refine j_iconst C dL_law_1291 ?_
    refine j_iadd C dL_law_1292 ?_
    refine j_sld C hX hbl hbA (4 * n + 1) (by omega) (by omega) (by omega) e1 dL_law_1293 ?_
    refine j_aload_n C 1 dL_law_1294 rfl rfl ?_
    refine j_iload C 5 dL_law_1295 rfl ?_
    refine j_iconst C dL_law_1297 ?_
    refine j_iadd C dL_law_1298 ?_
    refine j_sld C hX hbl hbA (4 * n + 2) (by omega) (by omega) (by omega) e2 dL_law_1299 ?_
    refine j_aload_n C 1 dL_law_1300 rfl rfl ?_
    refine j_iload C 5 dL_law_1301 rfl ?_
    refine j_iconst C dL_law_1303 ?_
    refine j_iadd C dL_law_1304 ?_
    refine j_sld C hX hbl hbA (4 * n + 3) (by omega) (by omega) (by omega) e3 dL_law_1305 ?_
    refine j_callV (As := [.int (iI x1), .int (iI x2), .int (iI x3)]) (rest := []) C yv_X5_swapped qw893 (c_X5_swapped_n1 l g u v (sv : Int) (tn : Int) th (ap : Int) rm rd (nw : Int) hh x1 x2 x3 hm (by omega) (by omega) (by omega) (by omega)) (by decide) 0 rfl rfl rfl dL_law_1306 rfl (Nat.le_of_ble_eq_true rfl) hcA (pfR ([(u 2, aL g 300 pa), (u 3, aL g 75 sd), (u 4, aI g 60 tx), (u 5, aI g 10 rr), (u 6, aI g 4 rq)] ++ ((od, aL g 1 (o)) :: wTp g r qn qt qv kn kt1 kv sc ns tx tn pl1))) rfl (fun r9 w9 hq9 => ?_)
    obtain ⟨rfl, rfl⟩ := hq9
    refine J.to (L1 := [(5, .int (iI 1)), (0, .ref b0), (1, .ref (r 0)), (2, .ref (u 0)), (3, .ref od), (4, .int (iI (4 * (n : Int))))]) (S1 := [.int (iI 0)]) (ws1 := wLw g r u qn qt qv od kn kt1 kv sc ns tx tn pl1 v pa sd rr rq sv ap nw 1 rm rd hh o tx tn) rfl rfl rfl ?_
    refine J.wide (k := (cells + 1)) (n := (slots + 6)) (Nat.le_refl _) (Nat.le_refl _) ?_
    refine j_istore (L1 := [(6, .int (iI 0)), (5, .int (iI 1)), (0, .ref b0), (1, .ref (r 0)), (2, .ref (u 0)), (3, .ref od), (4, .int (iI (4 * (n : Int))))]) C dL_law_1309 (by decide) rfl ?_
    refine j_aload_n C 4 dL_law_1311 rfl rfl ?_
    refine j_callV (As := []) (rest := []) C yv_X5_thrown qw706 (c_X5_thrown l g u v (sv : Int) (tn : Int) 1 (ap : Int) rm rd (nw : Int) hh) (by decide) 0 rfl rfl rfl dL_law_1312 rfl (Nat.le_of_ble_eq_true rfl) hcA (pfR ([(u 1, aL g 75 v), (u 2, aL g 300 pa), (u 3, aL g 75 sd), (u 4, aI g 60 tx), (u 5, aI g 10 rr), (u 6, aI g 4 rq)] ++ ((od, aL g 1 (o)) :: wTp g r qn qt qv kn kt1 kv sc ns tx tn pl1))) rfl (fun r9 w9 hq9 => ?_)
    obtain ⟨rfl, rfl⟩ := hq9
    refine J.to (L1 := [(6, .int (iI 0)), (5, .int (iI 1)), (0, .ref b0), (1, .ref (r 0)), (2, .ref (u 0)), (3, .ref od), (4, .int (iI (4 * (n : Int))))]) (S1 := [.int (iI 1)]) (ws1 := wLw g r u qn qt qv od kn kt1 kv sc ns tx tn pl1 v pa sd rr rq sv ap nw 1 rm rd hh o tx tn) rfl rfl rfl ?_
    refine J.wide (k := (cells + 1)) (n := (slots + 6)) (Nat.le_refl _) (Nat.le_refl _) ?_
    refine j_iload C 1 dL_law_1315 rfl ?_
    refine j_isame (tgt := 1322) C rfl dL_law_1317 (by decide) ?_
    refine j_iload C 1 dL_law_1322 rfl ?_
    refine j_if_ne (tgt := 1339) C (by decide) dL_law_1324 (by decide) (fun _ => ?_) (fun h9 => absurd h9 (by decide))
    refine j_goto (tgt := 1603) C dL_law_1339 (by decide) ?_
    refine J.sub (L1 := [(0, .ref b0), (1, .ref (r 0)), (2, .ref (u 0)), (3, .ref od), (4, .int (iI (4 * (n : Int))))]) [2, 3, 4, 5, 6] rfl ?_
    exact kk kn kt1 kv sc ns tx tn pl1 v pa sd rr rq sv ap nw 1 rm rd hh o hI.next
set_option maxRecDepth 100000 in
set_option maxHeartbeats 4000000 in
theorem law_20 {p : Program} {l : Launch} {e : Env} {s : State} {m : MethodId} {args : Array Value} {below : List Frame} {meth : Method} {c : Code} {g : Gh} {A : Nat → Prop} {r u : Nat → Nat} {qn qt : Nat → Nat} {qv : Nat → Nat → Nat} {od b0 n0 n : Nat} {xs : Nat → Int32} {Q : State → Prop} {cells slots : Nat} (C : Cx p g s m args c cL_law 9 RL A) (hl : l.stackTraces = false) (hX : va_X b0 n0 xs s s.heap) (hbl : b0 < s.heap.size) (hbA : ¬ A b0) (hn0 : n0 ≤ 2048) (hn : 4 * n + 3 < n0) (hc : cells + 1 ≤ room_1.cells ∧ slots + 6 ≤ room_1.slots) (kk : LJ p l e s m args below meth c g A r u qn qt qv od b0 Q 1603 (n + 1) (4 * (n : Int)) (cells + 1) (slots + 6)) : LJ p l e s m args below meth c g A r u qn qt qv od b0 Q 1342 n (4 * (n : Int)) cells slots := by
  intro kn kt kv sc ns tx tn pl v pa sd rr rq sv ap nw th rm rd hh o hI
  have hR := hI.2.2.2.1
  have hk := hI.1.1.1
  have hm := rel_ok hR hk
  have hscv := hI.2.2.2.2.2.1.1
  have hsv : sv ≤ 4 := hI.2.2.2.2.2.1.2
  have hns := hI.1.2.2.2.1
  have htn := hI.1.2.2.2.2.1
  have htx := hI.1.2.2.2.2.2
  have r2 := hR.1 2 (by decide)
  have hk2 := hk.1
  have hcA : cells + 1 + 0 ≤ room_1.cells ∧ slots + 6 + 0 ≤ room_1.slots := hc
  have hc0 : cells + 0 ≤ room_1.cells ∧ slots + 0 ≤ room_1.slots := ⟨Nat.le_of_succ_le hc.1, by omega⟩
  have hv1 : cells + 0 ≤ cells + 1 := Nat.le_add_right cells 1
  have hv2 : slots + 0 ≤ slots + 6 := Nat.le_add_right slots 6
  have hw1 : cells + 1 ≤ cells + 1 := Nat.le_refl _
  have hw2 : slots + 6 ≤ slots + 6 := Nat.le_refl _
  obtain ⟨x1, e1⟩ : ∃ x1 : Int, (xs (4 * n + 1)).toInt = x1 := ⟨_, rfl⟩
  have h1 := rngI (xs (4 * n + 1))
  rw [e1] at h1
  obtain ⟨x2, e2⟩ : ∃ x2 : Int, (xs (4 * n + 2)).toInt = x2 := ⟨_, rfl⟩
  have h2 := rngI (xs (4 * n + 2))
  rw [e2] at h2
  obtain ⟨x3, e3⟩ : ∃ x3 : Int, (xs (4 * n + 3)).toInt = x3 := ⟨_, rfl⟩
  have h3 := rngI (xs (4 * n + 3))
  rw [e3] at h3
  by_cases q1 : 0 ≤ x1 ∧ x1 < 4
  · by_cases q2 : 0 ≤ x2 ∧ x2 ≤ 1000000
    · by_cases q3 : 0 ≤ x3 ∧ x3 ≤ 100000
      · refine j_aload_n C 1 dL_law_1342 rfl rfl ?_
        refine j_aload_n C 0 dL_law_1343 rfl rfl ?_
        refine j_iload C 4 dL_law_1344 rfl ?_
        refine j_iconst C dL_law_1346 ?_
        refine j_iadd C dL_law_1347 ?_
        refine j_sld C hX hbl hbA (4 * n + 1) (by omega) (by omega) (by omega) e1 dL_law_1348 ?_
        refine j_aload_n C 0 dL_law_1349 rfl rfl ?_
        refine j_iload C 4 dL_law_1350 rfl ?_
        refine j_iconst C dL_law_1352 ?_
        refine j_iadd C dL_law_1353 ?_
        refine j_sld C hX hbl hbA (4 * n + 2) (by omega) (by omega) (by omega) e2 dL_law_1354 ?_
        refine j_aload_n C 0 dL_law_1355 rfl rfl ?_
        refine j_iload C 4 dL_law_1356 rfl ?_
        refine j_iconst C dL_law_1358 ?_
        refine j_iadd C dL_law_1359 ?_
        refine j_sld C hX hbl hbA (4 * n + 3) (by omega) (by omega) (by omega) e3 dL_law_1360 ?_
        refine j_aload_n C 3 dL_law_1361 rfl rfl ?_
        refine j_callSW (As := [.ref (r 0), .int (iI x1), .int (iI x2), .int (iI x3), .ref od]) (rest := []) C yw_L_riseBy qw628 (w_riseBy_0 l g r qn qt qv kn kt kv sc ns tx tn pl od o x1 x2 x3 hI.1 (by omega) (by omega) (by omega)) (by decide) rfl dL_law_1362 rfl (Nat.le_of_ble_eq_true rfl) hc0 (pfL (wMd g u v pa sd tx rr rq (sv : Int) (tn : Int) th (ap : Int) rm rd (nw : Int) hh)) rfl (fun r9 w9 hq9 => ?_)
        obtain ⟨rfl, kt1, pl1, rfl⟩ := hq9
        refine J.to (L1 := [(0, .ref b0), (1, .ref (r 0)), (2, .ref (u 0)), (3, .ref od), (4, .int (iI (4 * (n : Int))))]) (S1 := [.int (iI 0)]) (ws1 := wLw g r u qn qt qv od kn kt1 kv sc ns tx tn pl1 v pa sd rr rq sv ap nw th rm rd hh (va_up o 0 (w32 (((mup x2 x3 (cpS kn kt)).1 4 x1.toNat - kn 4 x1.toNat)))) tx tn) rfl rfl rfl ?_
        refine J.wide (k := cells + 1) (n := slots + 6) hv1 hv2 ?_
        refine j_istore (L1 := [(5, .int (iI 0)), (0, .ref b0), (1, .ref (r 0)), (2, .ref (u 0)), (3, .ref od), (4, .int (iI (4 * (n : Int))))]) C dL_law_1365 (by decide) rfl ?_
        refine j_aload_n C 3 dL_law_1367 rfl rfl ?_
        refine j_aload_n C 1 dL_law_1368 rfl rfl ?_
        refine j_iload C 5 dL_law_1369 rfl ?_
        refine j_iconst C dL_law_1371 ?_
        refine j_iadd C dL_law_1372 ?_
        refine j_sld C hX hbl hbA (4 * n + 1) (by omega) (by omega) (by omega) e1 dL_law_1373 ?_
        refine j_aload_n C 1 dL_law_1374 rfl rfl ?_
        refine j_iload C 5 dL_law_1375 rfl ?_
        refine j_iconst C dL_law_1377 ?_
        refine j_iadd C dL_law_1378 ?_
        refine j_sld C hX hbl hbA (4 * n + 2) (by omega) (by omega) (by omega) e2 dL_law_1379 ?_
        refine j_aload_n C 1 dL_law_1380 rfl rfl ?_
        refine j_iload C 5 dL_law_1381 rfl ?_
        refine j_iconst C dL_law_1383 ?_
        refine j_iadd C dL_law_1384 ?_
        refine j_sld C hX hbl hbA (4 * n + 3) (by omega) (by omega) (by omega) e3 dL_law_1385 ?_
        refine j_callV (As := [.int (iI x1), .int (iI x2), .int (iI x3)]) (rest := []) C yv_X5_riseBy qw901 (c_X5_riseBy_ok l g u v pa sd tx rr rq sv (tn : Int) th (ap : Int) rm rd (nw : Int) hh x1 x2 x3 hm hsv (by omega) (by omega) (by omega)) (by decide) 0 rfl rfl rfl dL_law_1386 rfl (Nat.le_of_ble_eq_true rfl) hcA (pfR ([(u 4, aI g 60 tx), (u 5, aI g 10 rr), (u 6, aI g 4 rq)] ++ ((od, aL g 1 (va_up o 0 (w32 (((mup x2 x3 (cpS kn kt)).1 4 x1.toNat - kn 4 x1.toNat))))) :: wTp g r qn qt qv kn kt1 kv sc ns tx tn pl1))) rfl (fun r9 w9 hq9 => ?_)
        obtain ⟨rfl, rfl⟩ := hq9
        refine J.to (L1 := [(5, .int (iI 0)), (0, .ref b0), (1, .ref (r 0)), (2, .ref (u 0)), (3, .ref od), (4, .int (iI (4 * (n : Int))))]) (S1 := [.int (iI (if (hauV x2 x3 v).2 = 0 then 0 else (hauV x2 x3 v).1 (13 + x1.toNat) - cpy 75 v sd (13 + x1.toNat)))]) (ws1 := wLw g r u qn qt qv od kn kt1 kv sc ns tx tn pl1 (cpy 75 (cpy 75 v sd) (hauV x2 x3 v).1) pa (cpy 75 v sd) rr rq sv ap nw 0 rm rd hh (va_up o 0 (w32 (((mup x2 x3 (cpS kn kt)).1 4 x1.toNat - kn 4 x1.toNat)))) tx tn) rfl rfl rfl ?_
        refine J.wide (k := (cells + 1)) (n := (slots + 6)) (Nat.le_refl _) (Nat.le_refl _) ?_
        refine j_istore (L1 := [(6, .int (iI (if (hauV x2 x3 v).2 = 0 then 0 else (hauV x2 x3 v).1 (13 + x1.toNat) - cpy 75 v sd (13 + x1.toNat)))), (5, .int (iI 0)), (0, .ref b0), (1, .ref (r 0)), (2, .ref (u 0)), (3, .ref od), (4, .int (iI (4 * (n : Int))))]) C dL_law_1389 (by decide) rfl ?_
        refine j_aload_n C 4 dL_law_1391 rfl rfl ?_
        refine j_callV (As := []) (rest := []) C yv_X5_thrown qw706 (c_X5_thrown l g u (cpy 75 (cpy 75 v sd) (hauV x2 x3 v).1) (sv : Int) (tn : Int) 0 (ap : Int) rm rd (nw : Int) hh) (by decide) 0 rfl rfl rfl dL_law_1392 rfl (Nat.le_of_ble_eq_true rfl) hcA (pfR ([(u 1, aL g 75 (cpy 75 (cpy 75 v sd) (hauV x2 x3 v).1)), (u 2, aL g 300 pa), (u 3, aL g 75 (cpy 75 v sd)), (u 4, aI g 60 tx), (u 5, aI g 10 rr), (u 6, aI g 4 rq)] ++ ((od, aL g 1 (va_up o 0 (w32 (((mup x2 x3 (cpS kn kt)).1 4 x1.toNat - kn 4 x1.toNat))))) :: wTp g r qn qt qv kn kt1 kv sc ns tx tn pl1))) rfl (fun r9 w9 hq9 => ?_)
        obtain ⟨rfl, rfl⟩ := hq9
        refine J.to (L1 := [(6, .int (iI (if (hauV x2 x3 v).2 = 0 then 0 else (hauV x2 x3 v).1 (13 + x1.toNat) - cpy 75 v sd (13 + x1.toNat)))), (5, .int (iI 0)), (0, .ref b0), (1, .ref (r 0)), (2, .ref (u 0)), (3, .ref od), (4, .int (iI (4 * (n : Int))))]) (S1 := [.int (iI 0)]) (ws1 := wLw g r u qn qt qv od kn kt1 kv sc ns tx tn pl1 (cpy 75 (cpy 75 v sd) (hauV x2 x3 v).1) pa (cpy 75 v sd) rr rq sv ap nw 0 rm rd hh (va_up o 0 (w32 (((mup x2 x3 (cpS kn kt)).1 4 x1.toNat - kn 4 x1.toNat)))) tx tn) rfl rfl rfl ?_
        refine J.wide (k := (cells + 1)) (n := (slots + 6)) (Nat.le_refl _) (Nat.le_refl _) ?_
        refine j_iload C 1 dL_law_1395 rfl ?_
        refine j_isame (tgt := 1402) C rfl dL_law_1397 (by decide) ?_
        refine j_iload C 1 dL_law_1402 rfl ?_
        refine j_if_ne (tgt := 1419) C (by decide) dL_law_1404 (by decide) (fun h9 => absurd h9 (by decide)) (fun _ => ?_)
        refine j_aload_n C 5 dL_law_1407 rfl rfl ?_
        refine j_iconst C dL_law_1408 ?_
        refine j_lald (f := va_up o 0 (w32 (((mup x2 x3 (cpS kn kt)).1 4 x1.toNat - kn 4 x1.toNat)))) C 7 0 rfl rfl (by decide) (by decide) dL_law_1409 ?_
        refine J.to (L1 := [(6, .int (iI (if (hauV x2 x3 v).2 = 0 then 0 else (hauV x2 x3 v).1 (13 + x1.toNat) - cpy 75 v sd (13 + x1.toNat)))), (5, .int (iI 0)), (0, .ref b0), (1, .ref (r 0)), (2, .ref (u 0)), (3, .ref od), (4, .int (iI (4 * (n : Int))))]) (S1 := [.long (lI (w32 (((mup x2 x3 (cpS kn kt)).1 4 x1.toNat - kn 4 x1.toNat))))]) (ws1 := wLw g r u qn qt qv od kn kt1 kv sc ns tx tn pl1 (cpy 75 (cpy 75 v sd) (hauV x2 x3 v).1) pa (cpy 75 v sd) rr rq sv ap nw 0 rm rd hh (va_up o 0 (w32 (((mup x2 x3 (cpS kn kt)).1 4 x1.toNat - kn 4 x1.toNat)))) tx tn) rfl rfl rfl ?_
        refine j_iload C 0 dL_law_1410 rfl ?_
        refine j_i2lw C dL_law_1412 ?_
        have heq : (((mup x2 x3 (cpS kn kt)).1 4 x1.toNat - kn 4 x1.toNat) : Int) = (if (hauV x2 x3 v).2 = 0 then 0 else (hauV x2 x3 v).1 (13 + x1.toNat) - cpy 75 v sd (13 + x1.toNat)) := rel_rise hR hk q1 q3.1 (sd := sd)
        refine j_lsame (tgt := 1419) C (congrArg w32 heq) dL_law_1413 dL_law_1414 (by decide) ?_
        refine j_goto (tgt := 1603) C dL_law_1419 (by decide) ?_
        refine J.sub (L1 := [(0, .ref b0), (1, .ref (r 0)), (2, .ref (u 0)), (3, .ref od), (4, .int (iI (4 * (n : Int))))]) [2, 3, 4, 5, 6] rfl ?_
        exact kk kn kt1 kv sc ns tx tn pl1 (cpy 75 (cpy 75 v sd) (hauV x2 x3 v).1) pa (cpy 75 v sd) rr rq sv ap nw 0 rm rd hh (va_up o 0 (w32 (((mup x2 x3 (cpS kn kt)).1 4 x1.toNat - kn 4 x1.toNat)))) (hI.cg (fun j hj => by unfold cpy; rw [if_pos hj, if_pos hj])).next
      · refine j_aload_n C 1 dL_law_1342 rfl rfl ?_
        refine j_aload_n C 0 dL_law_1343 rfl rfl ?_
        refine j_iload C 4 dL_law_1344 rfl ?_
        refine j_iconst C dL_law_1346 ?_
        refine j_iadd C dL_law_1347 ?_
        refine j_sld C hX hbl hbA (4 * n + 1) (by omega) (by omega) (by omega) e1 dL_law_1348 ?_
        refine j_aload_n C 0 dL_law_1349 rfl rfl ?_
        refine j_iload C 4 dL_law_1350 rfl ?_
        refine j_iconst C dL_law_1352 ?_
        refine j_iadd C dL_law_1353 ?_
        refine j_sld C hX hbl hbA (4 * n + 2) (by omega) (by omega) (by omega) e2 dL_law_1354 ?_
        refine j_aload_n C 0 dL_law_1355 rfl rfl ?_
        refine j_iload C 4 dL_law_1356 rfl ?_
        refine j_iconst C dL_law_1358 ?_
        refine j_iadd C dL_law_1359 ?_
        refine j_sld C hX hbl hbA (4 * n + 3) (by omega) (by omega) (by omega) e3 dL_law_1360 ?_
        refine j_aload_n C 3 dL_law_1361 rfl rfl ?_
        refine j_callSW (As := [.ref (r 0), .int (iI x1), .int (iI x2), .int (iI x3), .ref od]) (rest := []) C yw_L_riseBy qw628 (w_riseBy_2b l hl g r qn qt qv kn kt kv sc ns tx tn pl od o x1 x2 x3 hI.1 (by omega) (by omega) (by omega) (by omega) (by omega) (by omega)) (by decide) rfl dL_law_1362 rfl (Nat.le_of_ble_eq_true rfl) hc (pfL (wMd g u v pa sd tx rr rq (sv : Int) (tn : Int) th (ap : Int) rm rd (nw : Int) hh)) rfl (fun r9 w9 hq9 => ?_)
        obtain ⟨rfl, kt1, pl1, rfl⟩ := hq9
        refine J.to (L1 := [(0, .ref b0), (1, .ref (r 0)), (2, .ref (u 0)), (3, .ref od), (4, .int (iI (4 * (n : Int))))]) (S1 := [.int (iI 2)]) (ws1 := wLw g r u qn qt qv od kn kt1 kv sc ns tx tn pl1 v pa sd rr rq sv ap nw th rm rd hh o tx tn) rfl rfl rfl ?_
        refine J.wide (k := cells + 1) (n := slots + 6) hw1 hw2 ?_
        refine j_istore (L1 := [(5, .int (iI 2)), (0, .ref b0), (1, .ref (r 0)), (2, .ref (u 0)), (3, .ref od), (4, .int (iI (4 * (n : Int))))]) C dL_law_1365 (by decide) rfl ?_
        refine j_aload_n C 3 dL_law_1367 rfl rfl ?_
        refine j_aload_n C 1 dL_law_1368 rfl rfl ?_
        refine j_iload C 5 dL_law_1369 rfl ?_
        refine j_iconst C dL_law_1371 ?_
        refine j_iadd C dL_law_1372 ?_
        refine j_sld C hX hbl hbA (4 * n + 1) (by omega) (by omega) (by omega) e1 dL_law_1373 ?_
        refine j_aload_n C 1 dL_law_1374 rfl rfl ?_
        refine j_iload C 5 dL_law_1375 rfl ?_
        refine j_iconst C dL_law_1377 ?_
        refine j_iadd C dL_law_1378 ?_
        refine j_sld C hX hbl hbA (4 * n + 2) (by omega) (by omega) (by omega) e2 dL_law_1379 ?_
        refine j_aload_n C 1 dL_law_1380 rfl rfl ?_
        refine j_iload C 5 dL_law_1381 rfl ?_
        refine j_iconst C dL_law_1383 ?_
        refine j_iadd C dL_law_1384 ?_
        refine j_sld C hX hbl hbA (4 * n + 3) (by omega) (by omega) (by omega) e3 dL_law_1385 ?_
        refine j_callV (As := [.int (iI x1), .int (iI x2), .int (iI x3)]) (rest := []) C yv_X5_riseBy qw901 (c_X5_riseBy_n3 l g u v pa sd tx rr rq sv (tn : Int) th (ap : Int) rm rd (nw : Int) hh x1 x2 x3 hm hsv (by omega) (by omega) (by omega) (by omega) (by omega) (by omega)) (by decide) 0 rfl rfl rfl dL_law_1386 rfl (Nat.le_of_ble_eq_true rfl) hcA (pfR ([(u 4, aI g 60 tx), (u 5, aI g 10 rr), (u 6, aI g 4 rq)] ++ ((od, aL g 1 (o)) :: wTp g r qn qt qv kn kt1 kv sc ns tx tn pl1))) rfl (fun r9 w9 hq9 => ?_)
        obtain ⟨rfl, rfl⟩ := hq9
        refine J.to (L1 := [(5, .int (iI 2)), (0, .ref b0), (1, .ref (r 0)), (2, .ref (u 0)), (3, .ref od), (4, .int (iI (4 * (n : Int))))]) (S1 := [.int (iI 0)]) (ws1 := wLw g r u qn qt qv od kn kt1 kv sc ns tx tn pl1 v pa sd rr rq sv ap nw 2 rm rd hh o tx tn) rfl rfl rfl ?_
        refine J.wide (k := (cells + 1)) (n := (slots + 6)) (Nat.le_refl _) (Nat.le_refl _) ?_
        refine j_istore (L1 := [(6, .int (iI 0)), (5, .int (iI 2)), (0, .ref b0), (1, .ref (r 0)), (2, .ref (u 0)), (3, .ref od), (4, .int (iI (4 * (n : Int))))]) C dL_law_1389 (by decide) rfl ?_
        refine j_aload_n C 4 dL_law_1391 rfl rfl ?_
        refine j_callV (As := []) (rest := []) C yv_X5_thrown qw706 (c_X5_thrown l g u v (sv : Int) (tn : Int) 2 (ap : Int) rm rd (nw : Int) hh) (by decide) 0 rfl rfl rfl dL_law_1392 rfl (Nat.le_of_ble_eq_true rfl) hcA (pfR ([(u 1, aL g 75 v), (u 2, aL g 300 pa), (u 3, aL g 75 sd), (u 4, aI g 60 tx), (u 5, aI g 10 rr), (u 6, aI g 4 rq)] ++ ((od, aL g 1 (o)) :: wTp g r qn qt qv kn kt1 kv sc ns tx tn pl1))) rfl (fun r9 w9 hq9 => ?_)
        obtain ⟨rfl, rfl⟩ := hq9
        refine J.to (L1 := [(6, .int (iI 0)), (5, .int (iI 2)), (0, .ref b0), (1, .ref (r 0)), (2, .ref (u 0)), (3, .ref od), (4, .int (iI (4 * (n : Int))))]) (S1 := [.int (iI 2)]) (ws1 := wLw g r u qn qt qv od kn kt1 kv sc ns tx tn pl1 v pa sd rr rq sv ap nw 2 rm rd hh o tx tn) rfl rfl rfl ?_
        refine J.wide (k := (cells + 1)) (n := (slots + 6)) (Nat.le_refl _) (Nat.le_refl _) ?_
        refine j_iload C 1 dL_law_1395 rfl ?_
        refine j_isame (tgt := 1402) C rfl dL_law_1397 (by decide) ?_
        refine j_iload C 1 dL_law_1402 rfl ?_
        refine j_if_ne (tgt := 1419) C (by decide) dL_law_1404 (by decide) (fun _ => ?_) (fun h9 => absurd h9 (by decide))
        refine j_goto (tgt := 1603) C dL_law_1419 (by decide) ?_
        refine J.sub (L1 := [(0, .ref b0), (1, .ref (r 0)), (2, .ref (u 0)), (3, .ref od), (4, .int (iI (4 * (n : Int))))]) [2, 3, 4, 5, 6] rfl ?_
        exact kk kn kt1 kv sc ns tx tn pl1 v pa sd rr rq sv ap nw 2 rm rd hh o hI.next
    · refine j_aload_n C 1 dL_law_1342 rfl rfl ?_
      refine j_aload_n C 0 dL_law_1343 rfl rfl ?_
      refine j_iload C 4 dL_law_1344 rfl ?_
      refine j_iconst C dL_law_1346 ?_
      refine j_iadd C dL_law_1347 ?_
      refine j_sld C hX hbl hbA (4 * n + 1) (by omega) (by omega) (by omega) e1 dL_law_1348 ?_
      refine j_aload_n C 0 dL_law_1349 rfl rfl ?_
      refine j_iload C 4 dL_law_1350 rfl ?_
      refine j_iconst C dL_law_1352 ?_
      refine j_iadd C dL_law_1353 ?_
      refine j_sld C hX hbl hbA (4 * n + 2) (by omega) (by omega) (by omega) e2 dL_law_1354 ?_
      refine j_aload_n C 0 dL_law_1355 rfl rfl ?_
      refine j_iload C 4 dL_law_1356 rfl ?_
      refine j_iconst C dL_law_1358 ?_
      refine j_iadd C dL_law_1359 ?_
      refine j_sld C hX hbl hbA (4 * n + 3) (by omega) (by omega) (by omega) e3 dL_law_1360 ?_
      refine j_aload_n C 3 dL_law_1361 rfl rfl ?_
      refine j_callSW (As := [.ref (r 0), .int (iI x1), .int (iI x2), .int (iI x3), .ref od]) (rest := []) C yw_L_riseBy qw628 (w_riseBy_2 l hl g r qn qt qv kn kt kv sc ns tx tn pl od o x1 x2 x3 hI.1 (by omega) (by omega) (by omega) (by omega) (by omega)) (by decide) rfl dL_law_1362 rfl (Nat.le_of_ble_eq_true rfl) hc (pfL (wMd g u v pa sd tx rr rq (sv : Int) (tn : Int) th (ap : Int) rm rd (nw : Int) hh)) rfl (fun r9 w9 hq9 => ?_)
      obtain ⟨rfl, kt1, pl1, rfl⟩ := hq9
      refine J.to (L1 := [(0, .ref b0), (1, .ref (r 0)), (2, .ref (u 0)), (3, .ref od), (4, .int (iI (4 * (n : Int))))]) (S1 := [.int (iI 2)]) (ws1 := wLw g r u qn qt qv od kn kt1 kv sc ns tx tn pl1 v pa sd rr rq sv ap nw th rm rd hh o tx tn) rfl rfl rfl ?_
      refine J.wide (k := cells + 1) (n := slots + 6) hw1 hw2 ?_
      refine j_istore (L1 := [(5, .int (iI 2)), (0, .ref b0), (1, .ref (r 0)), (2, .ref (u 0)), (3, .ref od), (4, .int (iI (4 * (n : Int))))]) C dL_law_1365 (by decide) rfl ?_
      refine j_aload_n C 3 dL_law_1367 rfl rfl ?_
      refine j_aload_n C 1 dL_law_1368 rfl rfl ?_
      refine j_iload C 5 dL_law_1369 rfl ?_
      refine j_iconst C dL_law_1371 ?_
      refine j_iadd C dL_law_1372 ?_
      refine j_sld C hX hbl hbA (4 * n + 1) (by omega) (by omega) (by omega) e1 dL_law_1373 ?_
      refine j_aload_n C 1 dL_law_1374 rfl rfl ?_
      refine j_iload C 5 dL_law_1375 rfl ?_
      refine j_iconst C dL_law_1377 ?_
      refine j_iadd C dL_law_1378 ?_
      refine j_sld C hX hbl hbA (4 * n + 2) (by omega) (by omega) (by omega) e2 dL_law_1379 ?_
      refine j_aload_n C 1 dL_law_1380 rfl rfl ?_
      refine j_iload C 5 dL_law_1381 rfl ?_
      refine j_iconst C dL_law_1383 ?_
      refine j_iadd C dL_law_1384 ?_
      refine j_sld C hX hbl hbA (4 * n + 3) (by omega) (by omega) (by omega) e3 dL_law_1385 ?_
      refine j_callV (As := [.int (iI x1), .int (iI x2), .int (iI x3)]) (rest := []) C yv_X5_riseBy qw901 (c_X5_riseBy_n2 l g u v pa sd tx rr rq sv (tn : Int) th (ap : Int) rm rd (nw : Int) hh x1 x2 x3 hm hsv (by omega) (by omega) (by omega) (by omega) (by omega)) (by decide) 0 rfl rfl rfl dL_law_1386 rfl (Nat.le_of_ble_eq_true rfl) hcA (pfR ([(u 4, aI g 60 tx), (u 5, aI g 10 rr), (u 6, aI g 4 rq)] ++ ((od, aL g 1 (o)) :: wTp g r qn qt qv kn kt1 kv sc ns tx tn pl1))) rfl (fun r9 w9 hq9 => ?_)
      obtain ⟨rfl, rfl⟩ := hq9
      refine J.to (L1 := [(5, .int (iI 2)), (0, .ref b0), (1, .ref (r 0)), (2, .ref (u 0)), (3, .ref od), (4, .int (iI (4 * (n : Int))))]) (S1 := [.int (iI 0)]) (ws1 := wLw g r u qn qt qv od kn kt1 kv sc ns tx tn pl1 v pa sd rr rq sv ap nw 2 rm rd hh o tx tn) rfl rfl rfl ?_
      refine J.wide (k := (cells + 1)) (n := (slots + 6)) (Nat.le_refl _) (Nat.le_refl _) ?_
      refine j_istore (L1 := [(6, .int (iI 0)), (5, .int (iI 2)), (0, .ref b0), (1, .ref (r 0)), (2, .ref (u 0)), (3, .ref od), (4, .int (iI (4 * (n : Int))))]) C dL_law_1389 (by decide) rfl ?_
      refine j_aload_n C 4 dL_law_1391 rfl rfl ?_
      refine j_callV (As := []) (rest := []) C yv_X5_thrown qw706 (c_X5_thrown l g u v (sv : Int) (tn : Int) 2 (ap : Int) rm rd (nw : Int) hh) (by decide) 0 rfl rfl rfl dL_law_1392 rfl (Nat.le_of_ble_eq_true rfl) hcA (pfR ([(u 1, aL g 75 v), (u 2, aL g 300 pa), (u 3, aL g 75 sd), (u 4, aI g 60 tx), (u 5, aI g 10 rr), (u 6, aI g 4 rq)] ++ ((od, aL g 1 (o)) :: wTp g r qn qt qv kn kt1 kv sc ns tx tn pl1))) rfl (fun r9 w9 hq9 => ?_)
      obtain ⟨rfl, rfl⟩ := hq9
      refine J.to (L1 := [(6, .int (iI 0)), (5, .int (iI 2)), (0, .ref b0), (1, .ref (r 0)), (2, .ref (u 0)), (3, .ref od), (4, .int (iI (4 * (n : Int))))]) (S1 := [.int (iI 2)]) (ws1 := wLw g r u qn qt qv od kn kt1 kv sc ns tx tn pl1 v pa sd rr rq sv ap nw 2 rm rd hh o tx tn) rfl rfl rfl ?_
      refine J.wide (k := (cells + 1)) (n := (slots + 6)) (Nat.le_refl _) (Nat.le_refl _) ?_
      refine j_iload C 1 dL_law_1395 rfl ?_
      refine j_isame (tgt := 1402) C rfl dL_law_1397 (by decide) ?_
      refine j_iload C 1 dL_law_1402 rfl ?_
      refine j_if_ne (tgt := 1419) C (by decide) dL_law_1404 (by decide) (fun _ => ?_) (fun h9 => absurd h9 (by decide))
      refine j_goto (tgt := 1603) C dL_law_1419 (by decide) ?_
      refine J.sub (L1 := [(0, .ref b0), (1, .ref (r 0)), (2, .ref (u 0)), (3, .ref od), (4, .int (iI (4 * (n : Int))))]) [2, 3, 4, 5, 6] rfl ?_
      exact kk kn kt1 kv sc ns tx tn pl1 v pa sd rr rq sv ap nw 2 rm rd hh o hI.next
  · refine j_aload_n C 1 dL_law_1342 rfl rfl ?_
    refine j_aload_n C 0 dL_law_1343 rfl rfl ?_
    refine j_iload C 4 dL_law_1344 rfl ?_
    refine j_iconst C dL_law_1346 ?_
    refine j_iadd C dL_law_1347 ?_
    refine j_sld C hX hbl hbA (4 * n + 1) (by omega) (by omega) (by omega) e1 dL_law_1348 ?_
    refine j_aload_n C 0 dL_law_1349 rfl rfl ?_
    refine j_iload C 4 dL_law_1350 rfl ?_
    refine j_iconst C dL_law_1352 ?_
    refine j_iadd C dL_law_1353 ?_
    refine j_sld C hX hbl hbA (4 * n + 2) (by omega) (by omega) (by omega) e2 dL_law_1354 ?_
    refine j_aload_n C 0 dL_law_1355 rfl rfl ?_
    refine j_iload C 4 dL_law_1356 rfl ?_
    refine j_iconst C dL_law_1358 ?_
    refine j_iadd C dL_law_1359 ?_
    refine j_sld C hX hbl hbA (4 * n + 3) (by omega) (by omega) (by omega) e3 dL_law_1360 ?_
    refine j_aload_n C 3 dL_law_1361 rfl rfl ?_
    refine j_callSW (As := [.ref (r 0), .int (iI x1), .int (iI x2), .int (iI x3), .ref od]) (rest := []) C yw_L_riseBy qw628 (w_riseBy_1 l hl g r qn qt qv kn kt kv sc ns tx tn pl od o x1 x2 x3 hI.1 (by omega) (by omega) (by omega) (by omega)) (by decide) rfl dL_law_1362 rfl (Nat.le_of_ble_eq_true rfl) hc (pfL (wMd g u v pa sd tx rr rq (sv : Int) (tn : Int) th (ap : Int) rm rd (nw : Int) hh)) rfl (fun r9 w9 hq9 => ?_)
    obtain ⟨rfl, kt1, pl1, rfl⟩ := hq9
    refine J.to (L1 := [(0, .ref b0), (1, .ref (r 0)), (2, .ref (u 0)), (3, .ref od), (4, .int (iI (4 * (n : Int))))]) (S1 := [.int (iI 1)]) (ws1 := wLw g r u qn qt qv od kn kt1 kv sc ns tx tn pl1 v pa sd rr rq sv ap nw th rm rd hh o tx tn) rfl rfl rfl ?_
    refine J.wide (k := cells + 1) (n := slots + 6) hw1 hw2 ?_
    refine j_istore (L1 := [(5, .int (iI 1)), (0, .ref b0), (1, .ref (r 0)), (2, .ref (u 0)), (3, .ref od), (4, .int (iI (4 * (n : Int))))]) C dL_law_1365 (by decide) rfl ?_
    refine j_aload_n C 3 dL_law_1367 rfl rfl ?_
    refine j_aload_n C 1 dL_law_1368 rfl rfl ?_
    refine j_iload C 5 dL_law_1369 rfl ?_
    refine j_iconst C dL_law_1371 ?_
    refine j_iadd C dL_law_1372 ?_
    refine j_sld C hX hbl hbA (4 * n + 1) (by omega) (by omega) (by omega) e1 dL_law_1373 ?_
    refine j_aload_n C 1 dL_law_1374 rfl rfl ?_
    refine j_iload C 5 dL_law_1375 rfl ?_
    refine j_iconst C dL_law_1377 ?_
    refine j_iadd C dL_law_1378 ?_
    refine j_sld C hX hbl hbA (4 * n + 2) (by omega) (by omega) (by omega) e2 dL_law_1379 ?_
    refine j_aload_n C 1 dL_law_1380 rfl rfl ?_
    refine j_iload C 5 dL_law_1381 rfl ?_
    refine j_iconst C dL_law_1383 ?_
    refine j_iadd C dL_law_1384 ?_
    refine j_sld C hX hbl hbA (4 * n + 3) (by omega) (by omega) (by omega) e3 dL_law_1385 ?_
    refine j_callV (As := [.int (iI x1), .int (iI x2), .int (iI x3)]) (rest := []) C yv_X5_riseBy qw901 (c_X5_riseBy_n1 l g u v pa sd tx rr rq sv (tn : Int) th (ap : Int) rm rd (nw : Int) hh x1 x2 x3 hm hsv (by omega) (by omega) (by omega) (by omega)) (by decide) 0 rfl rfl rfl dL_law_1386 rfl (Nat.le_of_ble_eq_true rfl) hcA (pfR ([(u 4, aI g 60 tx), (u 5, aI g 10 rr), (u 6, aI g 4 rq)] ++ ((od, aL g 1 (o)) :: wTp g r qn qt qv kn kt1 kv sc ns tx tn pl1))) rfl (fun r9 w9 hq9 => ?_)
    obtain ⟨rfl, rfl⟩ := hq9
    refine J.to (L1 := [(5, .int (iI 1)), (0, .ref b0), (1, .ref (r 0)), (2, .ref (u 0)), (3, .ref od), (4, .int (iI (4 * (n : Int))))]) (S1 := [.int (iI 0)]) (ws1 := wLw g r u qn qt qv od kn kt1 kv sc ns tx tn pl1 v pa sd rr rq sv ap nw 1 rm rd hh o tx tn) rfl rfl rfl ?_
    refine J.wide (k := (cells + 1)) (n := (slots + 6)) (Nat.le_refl _) (Nat.le_refl _) ?_
    refine j_istore (L1 := [(6, .int (iI 0)), (5, .int (iI 1)), (0, .ref b0), (1, .ref (r 0)), (2, .ref (u 0)), (3, .ref od), (4, .int (iI (4 * (n : Int))))]) C dL_law_1389 (by decide) rfl ?_
    refine j_aload_n C 4 dL_law_1391 rfl rfl ?_
    refine j_callV (As := []) (rest := []) C yv_X5_thrown qw706 (c_X5_thrown l g u v (sv : Int) (tn : Int) 1 (ap : Int) rm rd (nw : Int) hh) (by decide) 0 rfl rfl rfl dL_law_1392 rfl (Nat.le_of_ble_eq_true rfl) hcA (pfR ([(u 1, aL g 75 v), (u 2, aL g 300 pa), (u 3, aL g 75 sd), (u 4, aI g 60 tx), (u 5, aI g 10 rr), (u 6, aI g 4 rq)] ++ ((od, aL g 1 (o)) :: wTp g r qn qt qv kn kt1 kv sc ns tx tn pl1))) rfl (fun r9 w9 hq9 => ?_)
    obtain ⟨rfl, rfl⟩ := hq9
    refine J.to (L1 := [(6, .int (iI 0)), (5, .int (iI 1)), (0, .ref b0), (1, .ref (r 0)), (2, .ref (u 0)), (3, .ref od), (4, .int (iI (4 * (n : Int))))]) (S1 := [.int (iI 1)]) (ws1 := wLw g r u qn qt qv od kn kt1 kv sc ns tx tn pl1 v pa sd rr rq sv ap nw 1 rm rd hh o tx tn) rfl rfl rfl ?_
    refine J.wide (k := (cells + 1)) (n := (slots + 6)) (Nat.le_refl _) (Nat.le_refl _) ?_
    refine j_iload C 1 dL_law_1395 rfl ?_
    refine j_isame (tgt := 1402) C rfl dL_law_1397 (by decide) ?_
    refine j_iload C 1 dL_law_1402 rfl ?_
    refine j_if_ne (tgt := 1419) C (by decide) dL_law_1404 (by decide) (fun _ => ?_) (fun h9 => absurd h9 (by decide))
    refine j_goto (tgt := 1603) C dL_law_1419 (by decide) ?_
    refine J.sub (L1 := [(0, .ref b0), (1, .ref (r 0)), (2, .ref (u 0)), (3, .ref od), (4, .int (iI (4 * (n : Int))))]) [2, 3, 4, 5, 6] rfl ?_
    exact kk kn kt1 kv sc ns tx tn pl1 v pa sd rr rq sv ap nw 1 rm rd hh o hI.next
set_option maxRecDepth 100000 in
set_option maxHeartbeats 4000000 in
theorem law_21 {p : Program} {l : Launch} {e : Env} {s : State} {m : MethodId} {args : Array Value} {below : List Frame} {meth : Method} {c : Code} {g : Gh} {A : Nat → Prop} {r u : Nat → Nat} {qn qt : Nat → Nat} {qv : Nat → Nat → Nat} {od b0 n0 n : Nat} {xs : Nat → Int32} {Q : State → Prop} {cells slots : Nat} (C : Cx p g s m args c cL_law 9 RL A) (hl : l.stackTraces = false) (hX : va_X b0 n0 xs s s.heap) (hbl : b0 < s.heap.size) (hbA : ¬ A b0) (hn0 : n0 ≤ 2048) (hn : 4 * n + 3 < n0) (hc : cells + 1 ≤ room_1.cells ∧ slots + 6 ≤ room_1.slots) (kk : LJ p l e s m args below meth c g A r u qn qt qv od b0 Q 1603 (n + 1) (4 * (n : Int)) (cells + 1) (slots + 6)) : LJ p l e s m args below meth c g A r u qn qt qv od b0 Q 1422 n (4 * (n : Int)) cells slots := by
  intro kn kt kv sc ns tx tn pl v pa sd rr rq sv ap nw th rm rd hh o hI
  have hR := hI.2.2.2.1
  have hk := hI.1.1.1
  have hm := rel_ok hR hk
  have hscv := hI.2.2.2.2.2.1.1
  have hsv : sv ≤ 4 := hI.2.2.2.2.2.1.2
  have hns := hI.1.2.2.2.1
  have htn := hI.1.2.2.2.2.1
  have htx := hI.1.2.2.2.2.2
  have r2 := hR.1 2 (by decide)
  have hk2 := hk.1
  have hcA : cells + 1 + 0 ≤ room_1.cells ∧ slots + 6 + 0 ≤ room_1.slots := hc
  have hc0 : cells + 0 ≤ room_1.cells ∧ slots + 0 ≤ room_1.slots := ⟨Nat.le_of_succ_le hc.1, by omega⟩
  have hv1 : cells + 0 ≤ cells + 1 := Nat.le_add_right cells 1
  have hv2 : slots + 0 ≤ slots + 6 := Nat.le_add_right slots 6
  have hw1 : cells + 1 ≤ cells + 1 := Nat.le_refl _
  have hw2 : slots + 6 ≤ slots + 6 := Nat.le_refl _
  have r7 := hR.1 7 (by decide)
  have r8 := hR.1 8 (by decide)
  have hw7 := hI.2.2.2.2.2.2.1
  have e9 : effF (kn 0 7) (kn 0 8) = effV (v 7) (v 8) := by rw [eff_eq (put := kn 0 7) (got := kn 0 8) ⟨by omega, by omega⟩, r7, r8]
  refine j_aload_n C 1 dL_law_1422 rfl rfl ?_
  refine j_callV (As := []) (rest := []) C yv_X4_efficiency qw214 (c_X4_efficiency l g r qn qt qv kn kt kv sc ns tx tn pl hI.1) (by decide) 8 rfl rfl rfl dL_law_1423 rfl (Nat.le_of_ble_eq_true rfl) hc0 (pfL (wMd g u v pa sd tx rr rq (sv : Int) (tn : Int) th (ap : Int) rm rd (nw : Int) hh ++ [(od, aL g 1 (o))])) rfl (fun r9 w9 hq9 => ?_)
  obtain ⟨rfl, rfl⟩ := hq9
  refine J.to (L1 := [(0, .ref b0), (1, .ref (r 0)), (2, .ref (u 0)), (3, .ref od), (4, .int (iI (4 * (n : Int))))]) (S1 := [.double (effF (kn 0 7) (kn 0 8))]) (ws1 := wLw g r u qn qt qv od kn kt kv sc ns tx tn pl v pa sd rr rq sv ap nw th rm rd hh o tx tn) rfl rfl rfl ?_
  refine J.wide (k := cells) (n := slots) (Nat.le_refl _) (Nat.le_refl _) ?_
  refine j_dstore (L1 := [(5, .double (effF (kn 0 7) (kn 0 8))), (0, .ref b0), (1, .ref (r 0)), (2, .ref (u 0)), (3, .ref od), (4, .int (iI (4 * (n : Int))))]) C dL_law_1426 (by decide) rfl ?_
  refine j_aload_n C 3 dL_law_1428 rfl rfl ?_
  refine j_callV (As := []) (rest := []) C yv_X5_efficiency qw913 (c_X5_efficiency l g u v pa sd tx rr rq sv (tn : Int) th (ap : Int) rm rd (nw : Int) hh hm hsv (by omega)) (by decide) 0 rfl rfl rfl dL_law_1429 rfl (Nat.le_of_ble_eq_true rfl) hc0 (pfR ([(u 3, aL g 75 sd), (u 4, aI g 60 tx), (u 5, aI g 10 rr), (u 6, aI g 4 rq)] ++ ((od, aL g 1 (o)) :: wTp g r qn qt qv kn kt kv sc ns tx tn pl))) rfl (fun r9 w9 hq9 => ?_)
  obtain ⟨rfl, rfl⟩ := hq9
  refine J.to (L1 := [(5, .double (effF (kn 0 7) (kn 0 8))), (0, .ref b0), (1, .ref (r 0)), (2, .ref (u 0)), (3, .ref od), (4, .int (iI (4 * (n : Int))))]) (S1 := [.double (effV (v 7) (v 8))]) (ws1 := wLw g r u qn qt qv od kn kt kv sc ns tx tn pl v pa sd rr rq sv ap nw 0 rm rd hh o tx tn) rfl rfl rfl ?_
  refine J.wide (k := cells) (n := slots) (Nat.le_refl _) (Nat.le_refl _) ?_
  refine J.to (L1 := [(5, .double (effF (kn 0 7) (kn 0 8))), (0, .ref b0), (1, .ref (r 0)), (2, .ref (u 0)), (3, .ref od), (4, .int (iI (4 * (n : Int))))]) (S1 := [.double (effF (kn 0 7) (kn 0 8))]) (ws1 := wLw g r u qn qt qv od kn kt kv sc ns tx tn pl v pa sd rr rq sv ap nw 0 rm rd hh o tx tn) rfl rfl (by rw [e9]) ?_
  refine j_dstore (L1 := [(7, .double (effF (kn 0 7) (kn 0 8))), (5, .double (effF (kn 0 7) (kn 0 8))), (0, .ref b0), (1, .ref (r 0)), (2, .ref (u 0)), (3, .ref od), (4, .int (iI (4 * (n : Int))))]) C dL_law_1432 (by decide) rfl ?_
  generalize (effF (kn 0 7) (kn 0 8)) = P at e9 ⊢
  refine J.to (L1 := [(7, .double P), (5, .double P), (0, .ref b0), (1, .ref (r 0)), (2, .ref (u 0)), (3, .ref od), (4, .int (iI (4 * (n : Int))))]) (S1 := []) (ws1 := wLw g r u qn qt qv od kn kt kv sc ns tx tn pl v pa sd rr rq sv ap nw 0 rm rd hh o tx tn) rfl rfl rfl ?_
  refine j_dload C 1 dL_law_1434 rfl ?_
  refine j_dload C 0 dL_law_1436 rfl ?_
  refine j_dcmp_eq (tgt := 1460) C dL_law_1438 dL_law_1439 (by decide) (fun g1 => ?_) (fun g1 => ?_)
  · refine j_goto (tgt := 1603) C dL_law_1460 (by decide) ?_
    refine J.sub (L1 := [(0, .ref b0), (1, .ref (r 0)), (2, .ref (u 0)), (3, .ref od), (4, .int (iI (4 * (n : Int))))]) [2, 3, 4, 5, 6] rfl ?_
    refine J.wide (k := cells + 1) (n := slots + 6) (Nat.le_add_right cells 1) (Nat.le_add_right slots 6) ?_
    exact kk kn kt kv sc ns tx tn pl v pa sd rr rq sv ap nw 0 rm rd hh o hI.next
  · refine j_dload C 1 dL_law_1442 rfl ?_
    refine j_dload C 1 dL_law_1444 rfl ?_
    refine j_dcmp_eq (tgt := 1458) C dL_law_1446 dL_law_1447 (by decide) (fun g2 => absurd g2 g1) (fun _ => ?_)
    refine j_dload C 0 dL_law_1450 rfl ?_
    refine j_dload C 0 dL_law_1452 rfl ?_
    refine j_dcmp_ne (tgt := 1460) C dL_law_1454 dL_law_1455 (by decide) (fun _ => ?_) (fun g2 => absurd g2 g1)
    refine j_goto (tgt := 1603) C dL_law_1460 (by decide) ?_
    refine J.sub (L1 := [(0, .ref b0), (1, .ref (r 0)), (2, .ref (u 0)), (3, .ref od), (4, .int (iI (4 * (n : Int))))]) [2, 3, 4, 5, 6] rfl ?_
    refine J.wide (k := cells + 1) (n := slots + 6) (Nat.le_add_right cells 1) (Nat.le_add_right slots 6) ?_
    exact kk kn kt kv sc ns tx tn pl v pa sd rr rq sv ap nw 0 rm rd hh o hI.next
set_option maxRecDepth 100000 in
set_option maxHeartbeats 4000000 in
theorem law_22 {p : Program} {l : Launch} {e : Env} {s : State} {m : MethodId} {args : Array Value} {below : List Frame} {meth : Method} {c : Code} {g : Gh} {A : Nat → Prop} {r u : Nat → Nat} {qn qt : Nat → Nat} {qv : Nat → Nat → Nat} {od b0 n0 n : Nat} {xs : Nat → Int32} {Q : State → Prop} {cells slots : Nat} (C : Cx p g s m args c cL_law 9 RL A) (hl : l.stackTraces = false) (hX : va_X b0 n0 xs s s.heap) (hbl : b0 < s.heap.size) (hbA : ¬ A b0) (hn0 : n0 ≤ 2048) (hn : 4 * n + 3 < n0) (hc : cells + 1 ≤ room_1.cells ∧ slots + 6 ≤ room_1.slots) (kk : LJ p l e s m args below meth c g A r u qn qt qv od b0 Q 1603 (n + 1) (4 * (n : Int)) (cells + 1) (slots + 6)) : LJ p l e s m args below meth c g A r u qn qt qv od b0 Q 1463 n (4 * (n : Int)) cells slots := by
  intro kn kt kv sc ns tx tn pl v pa sd rr rq sv ap nw th rm rd hh o hI
  have hR := hI.2.2.2.1
  have hk := hI.1.1.1
  have hm := rel_ok hR hk
  have hscv := hI.2.2.2.2.2.1.1
  have hsv : sv ≤ 4 := hI.2.2.2.2.2.1.2
  have hns := hI.1.2.2.2.1
  have htn := hI.1.2.2.2.2.1
  have htx := hI.1.2.2.2.2.2
  have r2 := hR.1 2 (by decide)
  have hk2 := hk.1
  have hcA : cells + 1 + 0 ≤ room_1.cells ∧ slots + 6 + 0 ≤ room_1.slots := hc
  have hc0 : cells + 0 ≤ room_1.cells ∧ slots + 0 ≤ room_1.slots := ⟨Nat.le_of_succ_le hc.1, by omega⟩
  have hv1 : cells + 0 ≤ cells + 1 := Nat.le_add_right cells 1
  have hv2 : slots + 0 ≤ slots + 6 := Nat.le_add_right slots 6
  have hw1 : cells + 1 ≤ cells + 1 := Nat.le_refl _
  have hw2 : slots + 6 ≤ slots + 6 := Nat.le_refl _
  obtain ⟨x1, e1⟩ : ∃ x1 : Int, (xs (4 * n + 1)).toInt = x1 := ⟨_, rfl⟩
  have h1 := rngI (xs (4 * n + 1))
  rw [e1] at h1
  by_cases q1 : 0 ≤ x1 ∧ x1 ≤ 127
  · by_cases q2 : tn < 60
    · refine j_aload_n C 1 dL_law_1463 rfl rfl ?_
      refine j_aload_n C 0 dL_law_1464 rfl rfl ?_
      refine j_iload C 4 dL_law_1465 rfl ?_
      refine j_iconst C dL_law_1467 ?_
      refine j_iadd C dL_law_1468 ?_
      refine j_sld C hX hbl hbA (4 * n + 1) (by omega) (by omega) (by omega) e1 dL_law_1469 ?_
      refine j_aload_n C 3 dL_law_1470 rfl rfl ?_
      refine j_callSW (As := [.ref (r 0), .int (iI x1), .ref od]) (rest := []) C yw_L_append qw635 (w_append_0 l g r qn qt qv kn kt kv sc ns tx tn pl od o x1 hI.1 (by omega) (by omega)) (by decide) rfl dL_law_1471 rfl (Nat.le_of_ble_eq_true rfl) hc0 (pfL (wMd g u v pa sd tx rr rq (sv : Int) (tn : Int) th (ap : Int) rm rd (nw : Int) hh)) rfl (fun r9 w9 hq9 => ?_)
      obtain ⟨rfl, kt1, pl1, rfl⟩ := hq9
      refine J.to (L1 := [(0, .ref b0), (1, .ref (r 0)), (2, .ref (u 0)), (3, .ref od), (4, .int (iI (4 * (n : Int))))]) (S1 := [.int (iI 0)]) (ws1 := wLw g r u qn qt qv od kn kt1 kv sc ns (va_up tx tn x1) (tn + 1) pl1 v pa sd rr rq sv ap nw th rm rd hh (va_up o 0 (w32 (((tn : Int) + 1)))) tx tn) rfl rfl rfl ?_
      refine J.wide (k := cells + 1) (n := slots + 6) hv1 hv2 ?_
      refine j_istore (L1 := [(5, .int (iI 0)), (0, .ref b0), (1, .ref (r 0)), (2, .ref (u 0)), (3, .ref od), (4, .int (iI (4 * (n : Int))))]) C dL_law_1474 (by decide) rfl ?_
      refine j_aload_n C 3 dL_law_1476 rfl rfl ?_
      refine j_aload_n C 1 dL_law_1477 rfl rfl ?_
      refine j_iload C 5 dL_law_1478 rfl ?_
      refine j_iconst C dL_law_1480 ?_
      refine j_iadd C dL_law_1481 ?_
      refine j_sld C hX hbl hbA (4 * n + 1) (by omega) (by omega) (by omega) e1 dL_law_1482 ?_
      refine j_callV (As := [.int (iI x1)]) (rest := []) C yv_X5_append qw917 (c_X5_append_ok l g u v pa sd tx rr rq sv tn th (ap : Int) rm rd (nw : Int) hh x1 htn (by omega) (by omega)) (by decide) 0 rfl rfl rfl dL_law_1483 rfl (Nat.le_of_ble_eq_true rfl) hcA (pfR ([(u 5, aI g 10 rr), (u 6, aI g 4 rq)] ++ ((od, aL g 1 (va_up o 0 (w32 (((tn : Int) + 1))))) :: wTp g r qn qt qv kn kt1 kv sc ns (va_up tx tn x1) (tn + 1) pl1))) rfl (fun r9 w9 hq9 => ?_)
      obtain ⟨rfl, rfl⟩ := hq9
      refine J.to (L1 := [(5, .int (iI 0)), (0, .ref b0), (1, .ref (r 0)), (2, .ref (u 0)), (3, .ref od), (4, .int (iI (4 * (n : Int))))]) (S1 := [.int (iI ((tn : Int) + 1))]) (ws1 := wLw g r u qn qt qv od kn kt1 kv sc ns (va_up tx tn x1) (tn + 1) pl1 v pa sd rr rq sv ap nw 0 rm rd hh (va_up o 0 (w32 (((tn : Int) + 1)))) (va_up tx tn x1) (tn + 1)) rfl rfl rfl ?_
      refine J.wide (k := (cells + 1)) (n := (slots + 6)) (Nat.le_refl _) (Nat.le_refl _) ?_
      refine j_istore (L1 := [(6, .int (iI ((tn : Int) + 1))), (5, .int (iI 0)), (0, .ref b0), (1, .ref (r 0)), (2, .ref (u 0)), (3, .ref od), (4, .int (iI (4 * (n : Int))))]) C dL_law_1486 (by decide) rfl ?_
      refine j_aload_n C 4 dL_law_1488 rfl rfl ?_
      refine j_callV (As := []) (rest := []) C yv_X5_thrown qw706 (c_X5_thrown l g u v (sv : Int) ((tn + 1 : Nat) : Int) 0 (ap : Int) rm rd (nw : Int) hh) (by decide) 0 rfl rfl rfl dL_law_1489 rfl (Nat.le_of_ble_eq_true rfl) hcA (pfR ([(u 1, aL g 75 v), (u 2, aL g 300 pa), (u 3, aL g 75 sd), (u 4, aI g 60 (va_up tx tn x1)), (u 5, aI g 10 rr), (u 6, aI g 4 rq)] ++ ((od, aL g 1 (va_up o 0 (w32 (((tn : Int) + 1))))) :: wTp g r qn qt qv kn kt1 kv sc ns (va_up tx tn x1) (tn + 1) pl1))) rfl (fun r9 w9 hq9 => ?_)
      obtain ⟨rfl, rfl⟩ := hq9
      refine J.to (L1 := [(6, .int (iI ((tn : Int) + 1))), (5, .int (iI 0)), (0, .ref b0), (1, .ref (r 0)), (2, .ref (u 0)), (3, .ref od), (4, .int (iI (4 * (n : Int))))]) (S1 := [.int (iI 0)]) (ws1 := wLw g r u qn qt qv od kn kt1 kv sc ns (va_up tx tn x1) (tn + 1) pl1 v pa sd rr rq sv ap nw 0 rm rd hh (va_up o 0 (w32 (((tn : Int) + 1)))) (va_up tx tn x1) (tn + 1)) rfl rfl rfl ?_
      refine J.wide (k := (cells + 1)) (n := (slots + 6)) (Nat.le_refl _) (Nat.le_refl _) ?_
      refine j_iload C 1 dL_law_1492 rfl ?_
      refine j_isame (tgt := 1499) C rfl dL_law_1494 (by decide) ?_
      refine j_iload C 1 dL_law_1499 rfl ?_
      refine j_if_ne (tgt := 1516) C (by decide) dL_law_1501 (by decide) (fun h9 => absurd h9 (by decide)) (fun _ => ?_)
      refine j_aload_n C 5 dL_law_1504 rfl rfl ?_
      refine j_iconst C dL_law_1505 ?_
      refine j_lald (f := va_up o 0 (w32 (((tn : Int) + 1)))) C 7 0 rfl rfl (by decide) (by decide) dL_law_1506 ?_
      refine J.to (L1 := [(6, .int (iI ((tn : Int) + 1))), (5, .int (iI 0)), (0, .ref b0), (1, .ref (r 0)), (2, .ref (u 0)), (3, .ref od), (4, .int (iI (4 * (n : Int))))]) (S1 := [.long (lI (w32 (((tn : Int) + 1))))]) (ws1 := wLw g r u qn qt qv od kn kt1 kv sc ns (va_up tx tn x1) (tn + 1) pl1 v pa sd rr rq sv ap nw 0 rm rd hh (va_up o 0 (w32 (((tn : Int) + 1)))) (va_up tx tn x1) (tn + 1)) rfl rfl rfl ?_
      refine j_iload C 0 dL_law_1507 rfl ?_
      refine j_i2lw C dL_law_1509 ?_
      have heq : (((tn : Int) + 1) : Int) = ((tn : Int) + 1) := rfl
      refine j_lsame (tgt := 1516) C (congrArg w32 heq) dL_law_1510 dL_law_1511 (by decide) ?_
      refine j_goto (tgt := 1603) C dL_law_1516 (by decide) ?_
      refine J.sub (L1 := [(0, .ref b0), (1, .ref (r 0)), (2, .ref (u 0)), (3, .ref od), (4, .int (iI (4 * (n : Int))))]) [2, 3, 4, 5, 6] rfl ?_
      exact kk kn kt1 kv sc ns (va_up tx tn x1) (tn + 1) pl1 v pa sd rr rq sv ap nw 0 rm rd hh (va_up o 0 (w32 (((tn : Int) + 1)))) (hI.app q1 q2)
    · refine j_aload_n C 1 dL_law_1463 rfl rfl ?_
      refine j_aload_n C 0 dL_law_1464 rfl rfl ?_
      refine j_iload C 4 dL_law_1465 rfl ?_
      refine j_iconst C dL_law_1467 ?_
      refine j_iadd C dL_law_1468 ?_
      refine j_sld C hX hbl hbA (4 * n + 1) (by omega) (by omega) (by omega) e1 dL_law_1469 ?_
      refine j_aload_n C 3 dL_law_1470 rfl rfl ?_
      refine j_callSW (As := [.ref (r 0), .int (iI x1), .ref od]) (rest := []) C yw_L_append qw635 (w_append_2 l hl g r qn qt qv kn kt kv sc ns tx tn pl od o x1 hI.1 (by omega) (by omega)) (by decide) rfl dL_law_1471 rfl (Nat.le_of_ble_eq_true rfl) hc (pfL (wMd g u v pa sd tx rr rq (sv : Int) (tn : Int) th (ap : Int) rm rd (nw : Int) hh)) rfl (fun r9 w9 hq9 => ?_)
      obtain ⟨rfl, kt1, pl1, rfl⟩ := hq9
      refine J.to (L1 := [(0, .ref b0), (1, .ref (r 0)), (2, .ref (u 0)), (3, .ref od), (4, .int (iI (4 * (n : Int))))]) (S1 := [.int (iI 2)]) (ws1 := wLw g r u qn qt qv od kn kt1 kv sc ns tx tn pl1 v pa sd rr rq sv ap nw th rm rd hh o tx tn) rfl rfl rfl ?_
      refine J.wide (k := cells + 1) (n := slots + 6) hw1 hw2 ?_
      refine j_istore (L1 := [(5, .int (iI 2)), (0, .ref b0), (1, .ref (r 0)), (2, .ref (u 0)), (3, .ref od), (4, .int (iI (4 * (n : Int))))]) C dL_law_1474 (by decide) rfl ?_
      refine j_aload_n C 3 dL_law_1476 rfl rfl ?_
      refine j_aload_n C 1 dL_law_1477 rfl rfl ?_
      refine j_iload C 5 dL_law_1478 rfl ?_
      refine j_iconst C dL_law_1480 ?_
      refine j_iadd C dL_law_1481 ?_
      refine j_sld C hX hbl hbA (4 * n + 1) (by omega) (by omega) (by omega) e1 dL_law_1482 ?_
      refine j_callV (As := [.int (iI x1)]) (rest := []) C yv_X5_append qw917 (c_X5_append_n2 l g u v pa sd tx rr rq sv tn th (ap : Int) rm rd (nw : Int) hh x1 htn (by omega) (by omega)) (by decide) 0 rfl rfl rfl dL_law_1483 rfl (Nat.le_of_ble_eq_true rfl) hcA (pfR ([(u 5, aI g 10 rr), (u 6, aI g 4 rq)] ++ ((od, aL g 1 (o)) :: wTp g r qn qt qv kn kt1 kv sc ns tx tn pl1))) rfl (fun r9 w9 hq9 => ?_)
      obtain ⟨rfl, rfl⟩ := hq9
      refine J.to (L1 := [(5, .int (iI 2)), (0, .ref b0), (1, .ref (r 0)), (2, .ref (u 0)), (3, .ref od), (4, .int (iI (4 * (n : Int))))]) (S1 := [.int (iI 0)]) (ws1 := wLw g r u qn qt qv od kn kt1 kv sc ns tx tn pl1 v pa sd rr rq sv ap nw 2 rm rd hh o tx tn) rfl rfl rfl ?_
      refine J.wide (k := (cells + 1)) (n := (slots + 6)) (Nat.le_refl _) (Nat.le_refl _) ?_
      refine j_istore (L1 := [(6, .int (iI 0)), (5, .int (iI 2)), (0, .ref b0), (1, .ref (r 0)), (2, .ref (u 0)), (3, .ref od), (4, .int (iI (4 * (n : Int))))]) C dL_law_1486 (by decide) rfl ?_
      refine j_aload_n C 4 dL_law_1488 rfl rfl ?_
      refine j_callV (As := []) (rest := []) C yv_X5_thrown qw706 (c_X5_thrown l g u v (sv : Int) (tn : Int) 2 (ap : Int) rm rd (nw : Int) hh) (by decide) 0 rfl rfl rfl dL_law_1489 rfl (Nat.le_of_ble_eq_true rfl) hcA (pfR ([(u 1, aL g 75 v), (u 2, aL g 300 pa), (u 3, aL g 75 sd), (u 4, aI g 60 tx), (u 5, aI g 10 rr), (u 6, aI g 4 rq)] ++ ((od, aL g 1 (o)) :: wTp g r qn qt qv kn kt1 kv sc ns tx tn pl1))) rfl (fun r9 w9 hq9 => ?_)
      obtain ⟨rfl, rfl⟩ := hq9
      refine J.to (L1 := [(6, .int (iI 0)), (5, .int (iI 2)), (0, .ref b0), (1, .ref (r 0)), (2, .ref (u 0)), (3, .ref od), (4, .int (iI (4 * (n : Int))))]) (S1 := [.int (iI 2)]) (ws1 := wLw g r u qn qt qv od kn kt1 kv sc ns tx tn pl1 v pa sd rr rq sv ap nw 2 rm rd hh o tx tn) rfl rfl rfl ?_
      refine J.wide (k := (cells + 1)) (n := (slots + 6)) (Nat.le_refl _) (Nat.le_refl _) ?_
      refine j_iload C 1 dL_law_1492 rfl ?_
      refine j_isame (tgt := 1499) C rfl dL_law_1494 (by decide) ?_
      refine j_iload C 1 dL_law_1499 rfl ?_
      refine j_if_ne (tgt := 1516) C (by decide) dL_law_1501 (by decide) (fun _ => ?_) (fun h9 => absurd h9 (by decide))
      refine j_goto (tgt := 1603) C dL_law_1516 (by decide) ?_
      refine J.sub (L1 := [(0, .ref b0), (1, .ref (r 0)), (2, .ref (u 0)), (3, .ref od), (4, .int (iI (4 * (n : Int))))]) [2, 3, 4, 5, 6] rfl ?_
      exact kk kn kt1 kv sc ns tx tn pl1 v pa sd rr rq sv ap nw 2 rm rd hh o hI.next
  · refine j_aload_n C 1 dL_law_1463 rfl rfl ?_
    refine j_aload_n C 0 dL_law_1464 rfl rfl ?_
    refine j_iload C 4 dL_law_1465 rfl ?_
    refine j_iconst C dL_law_1467 ?_
    refine j_iadd C dL_law_1468 ?_
    refine j_sld C hX hbl hbA (4 * n + 1) (by omega) (by omega) (by omega) e1 dL_law_1469 ?_
    refine j_aload_n C 3 dL_law_1470 rfl rfl ?_
    refine j_callSW (As := [.ref (r 0), .int (iI x1), .ref od]) (rest := []) C yw_L_append qw635 (w_append_1 l hl g r qn qt qv kn kt kv sc ns tx tn pl od o x1 hI.1 (by omega) (by omega)) (by decide) rfl dL_law_1471 rfl (Nat.le_of_ble_eq_true rfl) hc (pfL (wMd g u v pa sd tx rr rq (sv : Int) (tn : Int) th (ap : Int) rm rd (nw : Int) hh)) rfl (fun r9 w9 hq9 => ?_)
    obtain ⟨rfl, kt1, pl1, rfl⟩ := hq9
    refine J.to (L1 := [(0, .ref b0), (1, .ref (r 0)), (2, .ref (u 0)), (3, .ref od), (4, .int (iI (4 * (n : Int))))]) (S1 := [.int (iI 1)]) (ws1 := wLw g r u qn qt qv od kn kt1 kv sc ns tx tn pl1 v pa sd rr rq sv ap nw th rm rd hh o tx tn) rfl rfl rfl ?_
    refine J.wide (k := cells + 1) (n := slots + 6) hw1 hw2 ?_
    refine j_istore (L1 := [(5, .int (iI 1)), (0, .ref b0), (1, .ref (r 0)), (2, .ref (u 0)), (3, .ref od), (4, .int (iI (4 * (n : Int))))]) C dL_law_1474 (by decide) rfl ?_
    refine j_aload_n C 3 dL_law_1476 rfl rfl ?_
    refine j_aload_n C 1 dL_law_1477 rfl rfl ?_
    refine j_iload C 5 dL_law_1478 rfl ?_
    refine j_iconst C dL_law_1480 ?_
    refine j_iadd C dL_law_1481 ?_
    refine j_sld C hX hbl hbA (4 * n + 1) (by omega) (by omega) (by omega) e1 dL_law_1482 ?_
    refine j_callV (As := [.int (iI x1)]) (rest := []) C yv_X5_append qw917 (c_X5_append_n1 l g u v pa sd tx rr rq sv tn th (ap : Int) rm rd (nw : Int) hh x1 htn (by omega) (by omega)) (by decide) 0 rfl rfl rfl dL_law_1483 rfl (Nat.le_of_ble_eq_true rfl) hcA (pfR ([(u 5, aI g 10 rr), (u 6, aI g 4 rq)] ++ ((od, aL g 1 (o)) :: wTp g r qn qt qv kn kt1 kv sc ns tx tn pl1))) rfl (fun r9 w9 hq9 => ?_)
    obtain ⟨rfl, rfl⟩ := hq9
    refine J.to (L1 := [(5, .int (iI 1)), (0, .ref b0), (1, .ref (r 0)), (2, .ref (u 0)), (3, .ref od), (4, .int (iI (4 * (n : Int))))]) (S1 := [.int (iI 0)]) (ws1 := wLw g r u qn qt qv od kn kt1 kv sc ns tx tn pl1 v pa sd rr rq sv ap nw 1 rm rd hh o tx tn) rfl rfl rfl ?_
    refine J.wide (k := (cells + 1)) (n := (slots + 6)) (Nat.le_refl _) (Nat.le_refl _) ?_
    refine j_istore (L1 := [(6, .int (iI 0)), (5, .int (iI 1)), (0, .ref b0), (1, .ref (r 0)), (2, .ref (u 0)), (3, .ref od), (4, .int (iI (4 * (n : Int))))]) C dL_law_1486 (by decide) rfl ?_
    refine j_aload_n C 4 dL_law_1488 rfl rfl ?_
    refine j_callV (As := []) (rest := []) C yv_X5_thrown qw706 (c_X5_thrown l g u v (sv : Int) (tn : Int) 1 (ap : Int) rm rd (nw : Int) hh) (by decide) 0 rfl rfl rfl dL_law_1489 rfl (Nat.le_of_ble_eq_true rfl) hcA (pfR ([(u 1, aL g 75 v), (u 2, aL g 300 pa), (u 3, aL g 75 sd), (u 4, aI g 60 tx), (u 5, aI g 10 rr), (u 6, aI g 4 rq)] ++ ((od, aL g 1 (o)) :: wTp g r qn qt qv kn kt1 kv sc ns tx tn pl1))) rfl (fun r9 w9 hq9 => ?_)
    obtain ⟨rfl, rfl⟩ := hq9
    refine J.to (L1 := [(6, .int (iI 0)), (5, .int (iI 1)), (0, .ref b0), (1, .ref (r 0)), (2, .ref (u 0)), (3, .ref od), (4, .int (iI (4 * (n : Int))))]) (S1 := [.int (iI 1)]) (ws1 := wLw g r u qn qt qv od kn kt1 kv sc ns tx tn pl1 v pa sd rr rq sv ap nw 1 rm rd hh o tx tn) rfl rfl rfl ?_
    refine J.wide (k := (cells + 1)) (n := (slots + 6)) (Nat.le_refl _) (Nat.le_refl _) ?_
    refine j_iload C 1 dL_law_1492 rfl ?_
    refine j_isame (tgt := 1499) C rfl dL_law_1494 (by decide) ?_
    refine j_iload C 1 dL_law_1499 rfl ?_
    refine j_if_ne (tgt := 1516) C (by decide) dL_law_1501 (by decide) (fun _ => ?_) (fun h9 => absurd h9 (by decide))
    refine j_goto (tgt := 1603) C dL_law_1516 (by decide) ?_
    refine J.sub (L1 := [(0, .ref b0), (1, .ref (r 0)), (2, .ref (u 0)), (3, .ref od), (4, .int (iI (4 * (n : Int))))]) [2, 3, 4, 5, 6] rfl ?_
    exact kk kn kt1 kv sc ns tx tn pl1 v pa sd rr rq sv ap nw 1 rm rd hh o hI.next
set_option maxRecDepth 100000 in
set_option maxHeartbeats 4000000 in
theorem law_23 {p : Program} {l : Launch} {e : Env} {s : State} {m : MethodId} {args : Array Value} {below : List Frame} {meth : Method} {c : Code} {g : Gh} {A : Nat → Prop} {r u : Nat → Nat} {qn qt : Nat → Nat} {qv : Nat → Nat → Nat} {od b0 n0 n : Nat} {xs : Nat → Int32} {Q : State → Prop} {cells slots : Nat} (C : Cx p g s m args c cL_law 9 RL A) (hl : l.stackTraces = false) (hX : va_X b0 n0 xs s s.heap) (hbl : b0 < s.heap.size) (hbA : ¬ A b0) (hn0 : n0 ≤ 2048) (hn : 4 * n + 3 < n0) (hc : cells + 1 ≤ room_1.cells ∧ slots + 6 ≤ room_1.slots) (kk : LJ p l e s m args below meth c g A r u qn qt qv od b0 Q 1603 (n + 1) (4 * (n : Int)) (cells + 1) (slots + 6)) : LJ p l e s m args below meth c g A r u qn qt qv od b0 Q 1519 n (4 * (n : Int)) cells slots := by
  intro kn kt kv sc ns tx tn pl v pa sd rr rq sv ap nw th rm rd hh o hI
  have hR := hI.2.2.2.1
  have hk := hI.1.1.1
  have hm := rel_ok hR hk
  have hscv := hI.2.2.2.2.2.1.1
  have hsv : sv ≤ 4 := hI.2.2.2.2.2.1.2
  have hns := hI.1.2.2.2.1
  have htn := hI.1.2.2.2.2.1
  have htx := hI.1.2.2.2.2.2
  have r2 := hR.1 2 (by decide)
  have hk2 := hk.1
  have hcA : cells + 1 + 0 ≤ room_1.cells ∧ slots + 6 + 0 ≤ room_1.slots := hc
  have hc0 : cells + 0 ≤ room_1.cells ∧ slots + 0 ≤ room_1.slots := ⟨Nat.le_of_succ_le hc.1, by omega⟩
  have hv1 : cells + 0 ≤ cells + 1 := Nat.le_add_right cells 1
  have hv2 : slots + 0 ≤ slots + 6 := Nat.le_add_right slots 6
  have hw1 : cells + 1 ≤ cells + 1 := Nat.le_refl _
  have hw2 : slots + 6 ≤ slots + 6 := Nat.le_refl _
  refine j_aload_n C 1 dL_law_1519 rfl rfl ?_
  refine j_callV (As := []) (rest := []) C yv_X4_clearText qw218 (c_X4_clearText l g r qn qt qv kn kt kv sc ns tx tn pl hI.1) (by decide) 8 rfl rfl rfl dL_law_1520 rfl (Nat.le_of_ble_eq_true rfl) hc0 (pfL (wMd g u v pa sd tx rr rq (sv : Int) (tn : Int) th (ap : Int) rm rd (nw : Int) hh ++ [(od, aL g 1 (o))])) rfl (fun r9 w9 hq9 => ?_)
  obtain ⟨rfl, rfl⟩ := hq9
  refine J.to (L1 := [(0, .ref b0), (1, .ref (r 0)), (2, .ref (u 0)), (3, .ref od), (4, .int (iI (4 * (n : Int))))]) (S1 := [.int (iI (tn : Int))]) (ws1 := wLw g r u qn qt qv od kn kt kv sc ns tx 0 pl v pa sd rr rq sv ap nw th rm rd hh o tx tn) rfl rfl rfl ?_
  refine J.wide (k := cells) (n := slots) (Nat.le_refl _) (Nat.le_refl _) ?_
  refine j_aload_n C 2 dL_law_1523 rfl rfl ?_
  refine j_callV (As := []) (rest := [.int (iI (tn : Int))]) C yv_X5_clearText qw922 (c_X5_clearText l g u v pa sd tx rr rq sv tn th (ap : Int) rm rd (nw : Int) hh htn) (by decide) 0 rfl rfl rfl dL_law_1524 rfl (Nat.le_of_ble_eq_true rfl) hc0 (pfR ([(u 5, aI g 10 rr), (u 6, aI g 4 rq)] ++ ((od, aL g 1 (o)) :: wTp g r qn qt qv kn kt kv sc ns tx 0 pl))) rfl (fun r9 w9 hq9 => ?_)
  obtain ⟨rfl, rfl⟩ := hq9
  refine J.to (L1 := [(0, .ref b0), (1, .ref (r 0)), (2, .ref (u 0)), (3, .ref od), (4, .int (iI (4 * (n : Int))))]) (S1 := [.int (iI (tn : Int)), .int (iI (tn : Int))]) (ws1 := wLw g r u qn qt qv od kn kt kv sc ns tx 0 pl v pa sd rr rq sv ap nw 0 rm rd hh o tx 0) rfl rfl rfl ?_
  refine J.wide (k := cells) (n := slots) (Nat.le_refl _) (Nat.le_refl _) ?_
  refine j_isame (tgt := 1603) C rfl dL_law_1527 (by decide) ?_
  refine J.wide (k := cells + 1) (n := slots + 6) (Nat.le_add_right cells 1) (Nat.le_add_right slots 6) ?_
  exact kk kn kt kv sc ns tx 0 pl v pa sd rr rq sv ap nw 0 rm rd hh o hI.clr
