/-! the law's cases 14 to 18 -/
set_option maxRecDepth 100000 in
set_option maxHeartbeats 4000000 in
theorem law_14 {p : Program} {l : Launch} {e : Env} {s : State} {m : MethodId} {args : Array Value} {below : List Frame} {meth : Method} {c : Code} {g : Gh} {A : Nat → Prop} {r u : Nat → Nat} {qn qt : Nat → Nat} {qv : Nat → Nat → Nat} {od b0 n0 n : Nat} {xs : Nat → Int32} {Q : State → Prop} {cells slots : Nat} (C : Cx p g s m args c cL_law 9 RL A) (hl : l.stackTraces = false) (hX : va_X b0 n0 xs s s.heap) (hbl : b0 < s.heap.size) (hbA : ¬ A b0) (hn0 : n0 ≤ 2048) (hn : 4 * n + 3 < n0) (hc : cells + 1 ≤ room_1.cells ∧ slots + 6 ≤ room_1.slots) (kk : LJ p l e s m args below meth c g A r u qn qt qv od b0 Q 1603 (n + 1) (4 * (n : Int)) (cells + 1) (slots + 6)) : LJ p l e s m args below meth c g A r u qn qt qv od b0 Q 1044 n (4 * (n : Int)) cells slots := by
  intro kn kt kv sc ns tx tn pl v pa sd rr rq sv ap nw th rm rd hh o hI
  have hR := hI.2.2.2.1
  have hk := hI.1.1.1
  have hm := rel_ok hR hk
  have hscv := hI.2.2.2.2.2.1.1
  have hsv : sv ≤ 4 := hI.2.2.2.2.2.1.2
  have hns := hI.1.2.2.2.1
  have htn := hI.1.2.2.2.2.1
  have htx := hI.1.2.2.2.2.2
  have r2 := hR.1 2 (by decide)
  have hk2 := hk.1
  have hcA : cells + 1 + 0 ≤ room_1.cells ∧ slots + 6 + 0 ≤ room_1.slots := hc
  have hc0 : cells + 0 ≤ room_1.cells ∧ slots + 0 ≤ room_1.slots := ⟨Nat.le_of_succ_le hc.1, by omega⟩
  have hv1 : cells + 0 ≤ cells + 1 := Nat.le_add_right cells 1
  have hv2 : slots + 0 ≤ slots + 6 := Nat.le_add_right slots 6
  have hw1 : cells + 1 ≤ cells + 1 := Nat.le_refl _
  have hw2 : slots + 6 ≤ slots + 6 := Nat.le_refl _
  obtain ⟨x1, e1⟩ : ∃ x1 : Int, (xs (4 * n + 1)).toInt = x1 := ⟨_, rfl⟩
  have h1 := rngI (xs (4 * n + 1))
  rw [e1] at h1
  obtain ⟨x2, e2⟩ : ∃ x2 : Int, (xs (4 * n + 2)).toInt = x2 := ⟨_, rfl⟩
  have h2 := rngI (xs (4 * n + 2))
  rw [e2] at h2
  have r6 := hR.1 6 (by decide)
  by_cases q1 : 0 ≤ x1 ∧ x1 < kn 0 6
  · by_cases q2 : 0 ≤ x2 ∧ x2 ≤ 2
    · refine j_aload_n C 1 dL_law_1044 rfl rfl ?_
      refine j_aload_n C 0 dL_law_1045 rfl rfl ?_
      refine j_iload C 4 dL_law_1046 rfl ?_
      refine j_iconst C dL_law_1048 ?_
      refine j_iadd C dL_law_1049 ?_
      refine j_sld C hX hbl hbA (4 * n + 1) (by omega) (by omega) (by omega) e1 dL_law_1050 ?_
      refine j_aload_n C 0 dL_law_1051 rfl rfl ?_
      refine j_iload C 4 dL_law_1052 rfl ?_
      refine j_iconst C dL_law_1054 ?_
      refine j_iadd C dL_law_1055 ?_
      refine j_sld C hX hbl hbA (4 * n + 2) (by omega) (by omega) (by omega) e2 dL_law_1056 ?_
      refine j_aload_n C 3 dL_law_1057 rfl rfl ?_
      refine j_callSW (As := [.ref (r 0), .int (iI x1), .int (iI x2), .ref od]) (rest := []) C yw_L_entry qw594 (w_entry_0 l g r qn qt qv kn kt kv sc ns tx tn pl od o x1 x2 hI.1 (by omega) (by omega)) (by decide) rfl dL_law_1058 rfl (Nat.le_of_ble_eq_true rfl) hc0 (pfL (wMd g u v pa sd tx rr rq (sv : Int) (tn : Int) th (ap : Int) rm rd (nw : Int) hh)) rfl (fun r9 w9 hq9 => ?_)
      obtain ⟨rfl, kt1, pl1, rfl⟩ := hq9
      refine J.to (L1 := [(0, .ref b0), (1, .ref (r 0)), (2, .ref (u 0)), (3, .ref od), (4, .int (iI (4 * (n : Int))))]) (S1 := [.int (iI 0)]) (ws1 := wLw g r u qn qt qv od kn kt1 kv sc ns tx tn pl1 v pa sd rr rq sv ap nw th rm rd hh (va_up o 0 (w32 ((kn 2 ((kn 0 9 - x1) % 16 * 3 + x2).toNat)))) tx tn) rfl rfl rfl ?_
      refine J.wide (k := cells + 1) (n := slots + 6) hv1 hv2 ?_
      refine j_istore (L1 := [(5, .int (iI 0)), (0, .ref b0), (1, .ref (r 0)), (2, .ref (u 0)), (3, .ref od), (4, .int (iI (4 * (n : Int))))]) C dL_law_1061 (by decide) rfl ?_
      refine j_aload_n C 3 dL_law_1063 rfl rfl ?_
      refine j_aload_n C 1 dL_law_1064 rfl rfl ?_
      refine j_iload C 5 dL_law_1065 rfl ?_
      refine j_iconst C dL_law_1067 ?_
      refine j_iadd C dL_law_1068 ?_
      refine j_sld C hX hbl hbA (4 * n + 1) (by omega) (by omega) (by omega) e1 dL_law_1069 ?_
      refine j_aload_n C 1 dL_law_1070 rfl rfl ?_
      refine j_iload C 5 dL_law_1071 rfl ?_
      refine j_iconst C dL_law_1073 ?_
      refine j_iadd C dL_law_1074 ?_
      refine j_sld C hX hbl hbA (4 * n + 2) (by omega) (by omega) (by omega) e2 dL_law_1075 ?_
      refine j_callV (As := [.int (iI x1), .int (iI x2)]) (rest := []) C yv_X5_entry qw873 (c_X5_entry_ok l g u v pa sd tx rr rq sv (tn : Int) th (ap : Int) rm rd (nw : Int) hh x1 x2 hm hsv (by omega) (by omega)) (by decide) 0 rfl rfl rfl dL_law_1076 rfl (Nat.le_of_ble_eq_true rfl) hcA (pfR ([(u 3, aL g 75 sd), (u 4, aI g 60 tx), (u 5, aI g 10 rr), (u 6, aI g 4 rq)] ++ ((od, aL g 1 (va_up o 0 (w32 ((kn 2 ((kn 0 9 - x1) % 16 * 3 + x2).toNat))))) :: wTp g r qn qt qv kn kt1 kv sc ns tx tn pl1))) rfl (fun r9 w9 hq9 => ?_)
      obtain ⟨rfl, rfl⟩ := hq9
      refine J.to (L1 := [(5, .int (iI 0)), (0, .ref b0), (1, .ref (r 0)), (2, .ref (u 0)), (3, .ref od), (4, .int (iI (4 * (n : Int))))]) (S1 := [.int (iI (vL v (3 * x1.toNat + x2.toNat)))]) (ws1 := wLw g r u qn qt qv od kn kt1 kv sc ns tx tn pl1 v pa sd rr rq sv ap nw 0 rm rd hh (va_up o 0 (w32 ((kn 2 ((kn 0 9 - x1) % 16 * 3 + x2).toNat)))) tx tn) rfl rfl rfl ?_
      refine J.wide (k := (cells + 1)) (n := (slots + 6)) (Nat.le_refl _) (Nat.le_refl _) ?_
      refine j_istore (L1 := [(6, .int (iI (vL v (3 * x1.toNat + x2.toNat)))), (5, .int (iI 0)), (0, .ref b0), (1, .ref (r 0)), (2, .ref (u 0)), (3, .ref od), (4, .int (iI (4 * (n : Int))))]) C dL_law_1079 (by decide) rfl ?_
      refine j_aload_n C 4 dL_law_1081 rfl rfl ?_
      refine j_callV (As := []) (rest := []) C yv_X5_thrown qw706 (c_X5_thrown l g u v (sv : Int) (tn : Int) 0 (ap : Int) rm rd (nw : Int) hh) (by decide) 0 rfl rfl rfl dL_law_1082 rfl (Nat.le_of_ble_eq_true rfl) hcA (pfR ([(u 1, aL g 75 v), (u 2, aL g 300 pa), (u 3, aL g 75 sd), (u 4, aI g 60 tx), (u 5, aI g 10 rr), (u 6, aI g 4 rq)] ++ ((od, aL g 1 (va_up o 0 (w32 ((kn 2 ((kn 0 9 - x1) % 16 * 3 + x2).toNat))))) :: wTp g r qn qt qv kn kt1 kv sc ns tx tn pl1))) rfl (fun r9 w9 hq9 => ?_)
      obtain ⟨rfl, rfl⟩ := hq9
      refine J.to (L1 := [(6, .int (iI (vL v (3 * x1.toNat + x2.toNat)))), (5, .int (iI 0)), (0, .ref b0), (1, .ref (r 0)), (2, .ref (u 0)), (3, .ref od), (4, .int (iI (4 * (n : Int))))]) (S1 := [.int (iI 0)]) (ws1 := wLw g r u qn qt qv od kn kt1 kv sc ns tx tn pl1 v pa sd rr rq sv ap nw 0 rm rd hh (va_up o 0 (w32 ((kn 2 ((kn 0 9 - x1) % 16 * 3 + x2).toNat)))) tx tn) rfl rfl rfl ?_
      refine J.wide (k := (cells + 1)) (n := (slots + 6)) (Nat.le_refl _) (Nat.le_refl _) ?_
      refine j_iload C 1 dL_law_1085 rfl ?_
      refine j_isame (tgt := 1092) C rfl dL_law_1087 (by decide) ?_
      refine j_iload C 1 dL_law_1092 rfl ?_
      refine j_if_ne (tgt := 1109) C (by decide) dL_law_1094 (by decide) (fun h9 => absurd h9 (by decide)) (fun _ => ?_)
      refine j_aload_n C 5 dL_law_1097 rfl rfl ?_
      refine j_iconst C dL_law_1098 ?_
      refine j_lald (f := va_up o 0 (w32 ((kn 2 ((kn 0 9 - x1) % 16 * 3 + x2).toNat)))) C 7 0 rfl rfl (by decide) (by decide) dL_law_1099 ?_
      refine J.to (L1 := [(6, .int (iI (vL v (3 * x1.toNat + x2.toNat)))), (5, .int (iI 0)), (0, .ref b0), (1, .ref (r 0)), (2, .ref (u 0)), (3, .ref od), (4, .int (iI (4 * (n : Int))))]) (S1 := [.long (lI (w32 ((kn 2 ((kn 0 9 - x1) % 16 * 3 + x2).toNat))))]) (ws1 := wLw g r u qn qt qv od kn kt1 kv sc ns tx tn pl1 v pa sd rr rq sv ap nw 0 rm rd hh (va_up o 0 (w32 ((kn 2 ((kn 0 9 - x1) % 16 * 3 + x2).toNat)))) tx tn) rfl rfl rfl ?_
      refine j_iload C 0 dL_law_1100 rfl ?_
      refine j_i2lw C dL_law_1102 ?_
      have heq : ((kn 2 ((kn 0 9 - x1) % 16 * 3 + x2).toNat) : Int) = (vL v (3 * x1.toNat + x2.toNat)) := by have h9 := hR.2.2.2.2 x1.toNat x2.toNat (by omega) (by omega); rw [Int.toNat_of_nonneg q1.1, Int.toNat_of_nonneg q2.1] at h9; exact h9
      refine j_lsame (tgt := 1109) C (congrArg w32 heq) dL_law_1103 dL_law_1104 (by decide) ?_
      refine j_goto (tgt := 1603) C dL_law_1109 (by decide) ?_
      refine J.sub (L1 := [(0, .ref b0), (1, .ref (r 0)), (2, .ref (u 0)), (3, .ref od), (4, .int (iI (4 * (n : Int))))]) [2, 3, 4, 5, 6] rfl ?_
      exact kk kn kt1 kv sc ns tx tn pl1 v pa sd rr rq sv ap nw 0 rm rd hh (va_up o 0 (w32 ((kn 2 ((kn 0 9 - x1) % 16 * 3 + x2).toNat)))) hI.next
    · refine j_aload_n C 1 dL_law_1044 rfl rfl ?_
      refine j_aload_n C 0 dL_law_1045 rfl rfl ?_
      refine j_iload C 4 dL_law_1046 rfl ?_
      refine j_iconst C dL_law_1048 ?_
      refine j_iadd C dL_law_1049 ?_
      refine j_sld C hX hbl hbA (4 * n + 1) (by omega) (by omega) (by omega) e1 dL_law_1050 ?_
      refine j_aload_n C 0 dL_law_1051 rfl rfl ?_
      refine j_iload C 4 dL_law_1052 rfl ?_
      refine j_iconst C dL_law_1054 ?_
      refine j_iadd C dL_law_1055 ?_
      refine j_sld C hX hbl hbA (4 * n + 2) (by omega) (by omega) (by omega) e2 dL_law_1056 ?_
      refine j_aload_n C 3 dL_law_1057 rfl rfl ?_
      refine j_callSW (As := [.ref (r 0), .int (iI x1), .int (iI x2), .ref od]) (rest := []) C yw_L_entry qw594 (w_entry_2 l hl g r qn qt qv kn kt kv sc ns tx tn pl od o x1 x2 hI.1 (by omega) (by omega) (by omega) (by omega)) (by decide) rfl dL_law_1058 rfl (Nat.le_of_ble_eq_true rfl) hc (pfL (wMd g u v pa sd tx rr rq (sv : Int) (tn : Int) th (ap : Int) rm rd (nw : Int) hh)) rfl (fun r9 w9 hq9 => ?_)
      obtain ⟨rfl, kt1, pl1, rfl⟩ := hq9
      refine J.to (L1 := [(0, .ref b0), (1, .ref (r 0)), (2, .ref (u 0)), (3, .ref od), (4, .int (iI (4 * (n : Int))))]) (S1 := [.int (iI 2)]) (ws1 := wLw g r u qn qt qv od kn kt1 kv sc ns tx tn pl1 v pa sd rr rq sv ap nw th rm rd hh o tx tn) rfl rfl rfl ?_
      refine J.wide (k := cells + 1) (n := slots + 6) hw1 hw2 ?_
      refine j_istore (L1 := [(5, .int (iI 2)), (0, .ref b0), (1, .ref (r 0)), (2, .ref (u 0)), (3, .ref od), (4, .int (iI (4 * (n : Int))))]) C dL_law_1061 (by decide) rfl ?_
      refine j_aload_n C 3 dL_law_1063 rfl rfl ?_
      refine j_aload_n C 1 dL_law_1064 rfl rfl ?_
      refine j_iload C 5 dL_law_1065 rfl ?_
      refine j_iconst C dL_law_1067 ?_
      refine j_iadd C dL_law_1068 ?_
      refine j_sld C hX hbl hbA (4 * n + 1) (by omega) (by omega) (by omega) e1 dL_law_1069 ?_
      refine j_aload_n C 1 dL_law_1070 rfl rfl ?_
      refine j_iload C 5 dL_law_1071 rfl ?_
      refine j_iconst C dL_law_1073 ?_
      refine j_iadd C dL_law_1074 ?_
      refine j_sld C hX hbl hbA (4 * n + 2) (by omega) (by omega) (by omega) e2 dL_law_1075 ?_
      refine j_callV (As := [.int (iI x1), .int (iI x2)]) (rest := []) C yv_X5_entry qw873 (c_X5_entry_n2 l g u v pa sd tx rr rq sv (tn : Int) th (ap : Int) rm rd (nw : Int) hh x1 x2 hm hsv (by omega) (by omega) (by omega) (by omega)) (by decide) 0 rfl rfl rfl dL_law_1076 rfl (Nat.le_of_ble_eq_true rfl) hcA (pfR ([(u 3, aL g 75 sd), (u 4, aI g 60 tx), (u 5, aI g 10 rr), (u 6, aI g 4 rq)] ++ ((od, aL g 1 (o)) :: wTp g r qn qt qv kn kt1 kv sc ns tx tn pl1))) rfl (fun r9 w9 hq9 => ?_)
      obtain ⟨rfl, rfl⟩ := hq9
      refine J.to (L1 := [(5, .int (iI 2)), (0, .ref b0), (1, .ref (r 0)), (2, .ref (u 0)), (3, .ref od), (4, .int (iI (4 * (n : Int))))]) (S1 := [.int (iI 0)]) (ws1 := wLw g r u qn qt qv od kn kt1 kv sc ns tx tn pl1 v pa sd rr rq sv ap nw 2 rm rd hh o tx tn) rfl rfl rfl ?_
      refine J.wide (k := (cells + 1)) (n := (slots + 6)) (Nat.le_refl _) (Nat.le_refl _) ?_
      refine j_istore (L1 := [(6, .int (iI 0)), (5, .int (iI 2)), (0, .ref b0), (1, .ref (r 0)), (2, .ref (u 0)), (3, .ref od), (4, .int (iI (4 * (n : Int))))]) C dL_law_1079 (by decide) rfl ?_
      refine j_aload_n C 4 dL_law_1081 rfl rfl ?_
      refine j_callV (As := []) (rest := []) C yv_X5_thrown qw706 (c_X5_thrown l g u v (sv : Int) (tn : Int) 2 (ap : Int) rm rd (nw : Int) hh) (by decide) 0 rfl rfl rfl dL_law_1082 rfl (Nat.le_of_ble_eq_true rfl) hcA (pfR ([(u 1, aL g 75 v), (u 2, aL g 300 pa), (u 3, aL g 75 sd), (u 4, aI g 60 tx), (u 5, aI g 10 rr), (u 6, aI g 4 rq)] ++ ((od, aL g 1 (o)) :: wTp g r qn qt qv kn kt1 kv sc ns tx tn pl1))) rfl (fun r9 w9 hq9 => ?_)
      obtain ⟨rfl, rfl⟩ := hq9
      refine J.to (L1 := [(6, .int (iI 0)), (5, .int (iI 2)), (0, .ref b0), (1, .ref (r 0)), (2, .ref (u 0)), (3, .ref od), (4, .int (iI (4 * (n : Int))))]) (S1 := [.int (iI 2)]) (ws1 := wLw g r u qn qt qv od kn kt1 kv sc ns tx tn pl1 v pa sd rr rq sv ap nw 2 rm rd hh o tx tn) rfl rfl rfl ?_
      refine J.wide (k := (cells + 1)) (n := (slots + 6)) (Nat.le_refl _) (Nat.le_refl _) ?_
      refine j_iload C 1 dL_law_1085 rfl ?_
      refine j_isame (tgt := 1092) C rfl dL_law_1087 (by decide) ?_
      refine j_iload C 1 dL_law_1092 rfl ?_
      refine j_if_ne (tgt := 1109) C (by decide) dL_law_1094 (by decide) (fun _ => ?_) (fun h9 => absurd h9 (by decide))
      refine j_goto (tgt := 1603) C dL_law_1109 (by decide) ?_
      refine J.sub (L1 := [(0, .ref b0), (1, .ref (r 0)), (2, .ref (u 0)), (3, .ref od), (4, .int (iI (4 * (n : Int))))]) [2, 3, 4, 5, 6] rfl ?_
      exact kk kn kt1 kv sc ns tx tn pl1 v pa sd rr rq sv ap nw 2 rm rd hh o hI.next
  · refine j_aload_n C 1 dL_law_1044 rfl rfl ?_
    refine j_aload_n C 0 dL_law_1045 rfl rfl ?_
    refine j_iload C 4 dL_law_1046 rfl ?_
    refine j_iconst C dL_law_1048 ?_
    refine j_iadd C dL_law_1049 ?_
    refine j_sld C hX hbl hbA (4 * n + 1) (by omega) (by omega) (by omega) e1 dL_law_1050 ?_
    refine j_aload_n C 0 dL_law_1051 rfl rfl ?_
    refine j_iload C 4 dL_law_1052 rfl ?_
    refine j_iconst C dL_law_1054 ?_
    refine j_iadd C dL_law_1055 ?_
    refine j_sld C hX hbl hbA (4 * n + 2) (by omega) (by omega) (by omega) e2 dL_law_1056 ?_
    refine j_aload_n C 3 dL_law_1057 rfl rfl ?_
    refine j_callSW (As := [.ref (r 0), .int (iI x1), .int (iI x2), .ref od]) (rest := []) C yw_L_entry qw594 (w_entry_1 l hl g r qn qt qv kn kt kv sc ns tx tn pl od o x1 x2 hI.1 (by omega) (by omega) (by omega)) (by decide) rfl dL_law_1058 rfl (Nat.le_of_ble_eq_true rfl) hc (pfL (wMd g u v pa sd tx rr rq (sv : Int) (tn : Int) th (ap : Int) rm rd (nw : Int) hh)) rfl (fun r9 w9 hq9 => ?_)
    obtain ⟨rfl, kt1, pl1, rfl⟩ := hq9
    refine J.to (L1 := [(0, .ref b0), (1, .ref (r 0)), (2, .ref (u 0)), (3, .ref od), (4, .int (iI (4 * (n : Int))))]) (S1 := [.int (iI 1)]) (ws1 := wLw g r u qn qt qv od kn kt1 kv sc ns tx tn pl1 v pa sd rr rq sv ap nw th rm rd hh o tx tn) rfl rfl rfl ?_
    refine J.wide (k := cells + 1) (n := slots + 6) hw1 hw2 ?_
    refine j_istore (L1 := [(5, .int (iI 1)), (0, .ref b0), (1, .ref (r 0)), (2, .ref (u 0)), (3, .ref od), (4, .int (iI (4 * (n : Int))))]) C dL_law_1061 (by decide) rfl ?_
    refine j_aload_n C 3 dL_law_1063 rfl rfl ?_
    refine j_aload_n C 1 dL_law_1064 rfl rfl ?_
    refine j_iload C 5 dL_law_1065 rfl ?_
    refine j_iconst C dL_law_1067 ?_
    refine j_iadd C dL_law_1068 ?_
    refine j_sld C hX hbl hbA (4 * n + 1) (by omega) (by omega) (by omega) e1 dL_law_1069 ?_
    refine j_aload_n C 1 dL_law_1070 rfl rfl ?_
    refine j_iload C 5 dL_law_1071 rfl ?_
    refine j_iconst C dL_law_1073 ?_
    refine j_iadd C dL_law_1074 ?_
    refine j_sld C hX hbl hbA (4 * n + 2) (by omega) (by omega) (by omega) e2 dL_law_1075 ?_
    refine j_callV (As := [.int (iI x1), .int (iI x2)]) (rest := []) C yv_X5_entry qw873 (c_X5_entry_n1 l g u v pa sd tx rr rq sv (tn : Int) th (ap : Int) rm rd (nw : Int) hh x1 x2 hm hsv (by omega) (by omega) (by omega)) (by decide) 0 rfl rfl rfl dL_law_1076 rfl (Nat.le_of_ble_eq_true rfl) hcA (pfR ([(u 3, aL g 75 sd), (u 4, aI g 60 tx), (u 5, aI g 10 rr), (u 6, aI g 4 rq)] ++ ((od, aL g 1 (o)) :: wTp g r qn qt qv kn kt1 kv sc ns tx tn pl1))) rfl (fun r9 w9 hq9 => ?_)
    obtain ⟨rfl, rfl⟩ := hq9
    refine J.to (L1 := [(5, .int (iI 1)), (0, .ref b0), (1, .ref (r 0)), (2, .ref (u 0)), (3, .ref od), (4, .int (iI (4 * (n : Int))))]) (S1 := [.int (iI 0)]) (ws1 := wLw g r u qn qt qv od kn kt1 kv sc ns tx tn pl1 v pa sd rr rq sv ap nw 1 rm rd hh o tx tn) rfl rfl rfl ?_
    refine J.wide (k := (cells + 1)) (n := (slots + 6)) (Nat.le_refl _) (Nat.le_refl _) ?_
    refine j_istore (L1 := [(6, .int (iI 0)), (5, .int (iI 1)), (0, .ref b0), (1, .ref (r 0)), (2, .ref (u 0)), (3, .ref od), (4, .int (iI (4 * (n : Int))))]) C dL_law_1079 (by decide) rfl ?_
    refine j_aload_n C 4 dL_law_1081 rfl rfl ?_
    refine j_callV (As := []) (rest := []) C yv_X5_thrown qw706 (c_X5_thrown l g u v (sv : Int) (tn : Int) 1 (ap : Int) rm rd (nw : Int) hh) (by decide) 0 rfl rfl rfl dL_law_1082 rfl (Nat.le_of_ble_eq_true rfl) hcA (pfR ([(u 1, aL g 75 v), (u 2, aL g 300 pa), (u 3, aL g 75 sd), (u 4, aI g 60 tx), (u 5, aI g 10 rr), (u 6, aI g 4 rq)] ++ ((od, aL g 1 (o)) :: wTp g r qn qt qv kn kt1 kv sc ns tx tn pl1))) rfl (fun r9 w9 hq9 => ?_)
    obtain ⟨rfl, rfl⟩ := hq9
    refine J.to (L1 := [(6, .int (iI 0)), (5, .int (iI 1)), (0, .ref b0), (1, .ref (r 0)), (2, .ref (u 0)), (3, .ref od), (4, .int (iI (4 * (n : Int))))]) (S1 := [.int (iI 1)]) (ws1 := wLw g r u qn qt qv od kn kt1 kv sc ns tx tn pl1 v pa sd rr rq sv ap nw 1 rm rd hh o tx tn) rfl rfl rfl ?_
    refine J.wide (k := (cells + 1)) (n := (slots + 6)) (Nat.le_refl _) (Nat.le_refl _) ?_
    refine j_iload C 1 dL_law_1085 rfl ?_
    refine j_isame (tgt := 1092) C rfl dL_law_1087 (by decide) ?_
    refine j_iload C 1 dL_law_1092 rfl ?_
    refine j_if_ne (tgt := 1109) C (by decide) dL_law_1094 (by decide) (fun _ => ?_) (fun h9 => absurd h9 (by decide))
    refine j_goto (tgt := 1603) C dL_law_1109 (by decide) ?_
    refine J.sub (L1 := [(0, .ref b0), (1, .ref (r 0)), (2, .ref (u 0)), (3, .ref od), (4, .int (iI (4 * (n : Int))))]) [2, 3, 4, 5, 6] rfl ?_
    exact kk kn kt1 kv sc ns tx tn pl1 v pa sd rr rq sv ap nw 1 rm rd hh o hI.next
set_option maxRecDepth 100000 in
set_option maxHeartbeats 4000000 in
theorem law_15 {p : Program} {l : Launch} {e : Env} {s : State} {m : MethodId} {args : Array Value} {below : List Frame} {meth : Method} {c : Code} {g : Gh} {A : Nat → Prop} {r u : Nat → Nat} {qn qt : Nat → Nat} {qv : Nat → Nat → Nat} {od b0 n0 n : Nat} {xs : Nat → Int32} {Q : State → Prop} {cells slots : Nat} (C : Cx p g s m args c cL_law 9 RL A) (hl : l.stackTraces = false) (hX : va_X b0 n0 xs s s.heap) (hbl : b0 < s.heap.size) (hbA : ¬ A b0) (hn0 : n0 ≤ 2048) (hn : 4 * n + 3 < n0) (hc : cells + 1 ≤ room_1.cells ∧ slots + 6 ≤ room_1.slots) (kk : LJ p l e s m args below meth c g A r u qn qt qv od b0 Q 1603 (n + 1) (4 * (n : Int)) (cells + 1) (slots + 6)) : LJ p l e s m args below meth c g A r u qn qt qv od b0 Q 1112 n (4 * (n : Int)) cells slots := by
  intro kn kt kv sc ns tx tn pl v pa sd rr rq sv ap nw th rm rd hh o hI
  have hR := hI.2.2.2.1
  have hk := hI.1.1.1
  have hm := rel_ok hR hk
  have hscv := hI.2.2.2.2.2.1.1
  have hsv : sv ≤ 4 := hI.2.2.2.2.2.1.2
  have hns := hI.1.2.2.2.1
  have htn := hI.1.2.2.2.2.1
  have htx := hI.1.2.2.2.2.2
  have r2 := hR.1 2 (by decide)
  have hk2 := hk.1
  have hcA : cells + 1 + 0 ≤ room_1.cells ∧ slots + 6 + 0 ≤ room_1.slots := hc
  have hc0 : cells + 0 ≤ room_1.cells ∧ slots + 0 ≤ room_1.slots := ⟨Nat.le_of_succ_le hc.1, by omega⟩
  have hv1 : cells + 0 ≤ cells + 1 := Nat.le_add_right cells 1
  have hv2 : slots + 0 ≤ slots + 6 := Nat.le_add_right slots 6
  have hw1 : cells + 1 ≤ cells + 1 := Nat.le_refl _
  have hw2 : slots + 6 ≤ slots + 6 := Nat.le_refl _
  refine j_aload_n C 1 dL_law_1112 rfl rfl ?_
  refine j_callV (As := []) (rest := []) C yv_X4_first qw154 (c_X4_first l g r qn qt qv kn kt kv sc ns tx tn pl hI.1) (by decide) 8 rfl rfl rfl dL_law_1113 rfl (Nat.le_of_ble_eq_true rfl) hc0 (pfL (wMd g u v pa sd tx rr rq (sv : Int) (tn : Int) th (ap : Int) rm rd (nw : Int) hh ++ [(od, aL g 1 (o))])) rfl (fun r9 w9 hq9 => ?_)
  obtain ⟨rfl, rfl⟩ := hq9
  refine J.to (L1 := [(0, .ref b0), (1, .ref (r 0)), (2, .ref (u 0)), (3, .ref od), (4, .int (iI (4 * (n : Int))))]) (S1 := [.int (iI (nxr (rck kn true 5) (kn 4) 1000000 4))]) (ws1 := wLw g r u qn qt qv od (rck kn true) kt kv sc ns tx tn pl v pa sd rr rq sv ap nw th rm rd hh o tx tn) rfl rfl rfl ?_
  refine J.wide (k := cells) (n := slots) (Nat.le_refl _) (Nat.le_refl _) ?_
  refine j_aload_n C 2 dL_law_1116 rfl rfl ?_
  refine j_callV (As := []) (rest := [.int (iI (nxr (rck kn true 5) (kn 4) 1000000 4))]) C yv_X5_first qw877 (c_X5_first l g u v pa sd tx rr rq sv (tn : Int) th (ap : Int) rm rd (nw : Int) hh hm hsv) (by decide) 0 rfl rfl rfl dL_law_1117 rfl (Nat.le_of_ble_eq_true rfl) hc0 (pfR ([(u 3, aL g 75 sd), (u 4, aI g 60 tx), (u 5, aI g 10 rr), (u 6, aI g 4 rq)] ++ ((od, aL g 1 (o)) :: wTp g r qn qt qv (rck kn true) kt kv sc ns tx tn pl))) rfl (fun r9 w9 hq9 => ?_)
  obtain ⟨rfl, rfl⟩ := hq9
  refine J.to (L1 := [(0, .ref b0), (1, .ref (r 0)), (2, .ref (u 0)), (3, .ref od), (4, .int (iI (4 * (n : Int))))]) (S1 := [.int (iI (mnV true 1000000 v)), .int (iI (nxr (rck kn true 5) (kn 4) 1000000 4))]) (ws1 := wLw g r u qn qt qv od (rck kn true) kt kv sc ns tx tn pl v pa sd rr rq sv ap nw 0 rm rd hh o tx tn) rfl rfl rfl ?_
  refine J.wide (k := cells) (n := slots) (Nat.le_refl _) (Nat.le_refl _) ?_
  have heq : (nxr (rck kn true 5) (kn 4) 1000000 4 : Int) = (mnV true 1000000 v) := rel_mn (up := true) (rel_rck hR true) (fun b hb => rel_frc hR true hb) 1000000
  refine j_isame (tgt := 1603) C heq dL_law_1120 (by decide) ?_
  refine J.wide (k := cells + 1) (n := slots + 6) (Nat.le_add_right cells 1) (Nat.le_add_right slots 6) ?_
  exact kk (rck kn true) kt kv sc ns tx tn pl v pa sd rr rq sv ap nw 0 rm rd hh o hI.rck
set_option maxRecDepth 100000 in
set_option maxHeartbeats 4000000 in
theorem law_16 {p : Program} {l : Launch} {e : Env} {s : State} {m : MethodId} {args : Array Value} {below : List Frame} {meth : Method} {c : Code} {g : Gh} {A : Nat → Prop} {r u : Nat → Nat} {qn qt : Nat → Nat} {qv : Nat → Nat → Nat} {od b0 n0 n : Nat} {xs : Nat → Int32} {Q : State → Prop} {cells slots : Nat} (C : Cx p g s m args c cL_law 9 RL A) (hl : l.stackTraces = false) (hX : va_X b0 n0 xs s s.heap) (hbl : b0 < s.heap.size) (hbA : ¬ A b0) (hn0 : n0 ≤ 2048) (hn : 4 * n + 3 < n0) (hc : cells + 1 ≤ room_1.cells ∧ slots + 6 ≤ room_1.slots) (kk : LJ p l e s m args below meth c g A r u qn qt qv od b0 Q 1603 (n + 1) (4 * (n : Int)) (cells + 1) (slots + 6)) : LJ p l e s m args below meth c g A r u qn qt qv od b0 Q 1125 n (4 * (n : Int)) cells slots := by
  intro kn kt kv sc ns tx tn pl v pa sd rr rq sv ap nw th rm rd hh o hI
  have hR := hI.2.2.2.1
  have hk := hI.1.1.1
  have hm := rel_ok hR hk
  have hscv := hI.2.2.2.2.2.1.1
  have hsv : sv ≤ 4 := hI.2.2.2.2.2.1.2
  have hns := hI.1.2.2.2.1
  have htn := hI.1.2.2.2.2.1
  have htx := hI.1.2.2.2.2.2
  have r2 := hR.1 2 (by decide)
  have hk2 := hk.1
  have hcA : cells + 1 + 0 ≤ room_1.cells ∧ slots + 6 + 0 ≤ room_1.slots := hc
  have hc0 : cells + 0 ≤ room_1.cells ∧ slots + 0 ≤ room_1.slots := ⟨Nat.le_of_succ_le hc.1, by omega⟩
  have hv1 : cells + 0 ≤ cells + 1 := Nat.le_add_right cells 1
  have hv2 : slots + 0 ≤ slots + 6 := Nat.le_add_right slots 6
  have hw1 : cells + 1 ≤ cells + 1 := Nat.le_refl _
  have hw2 : slots + 6 ≤ slots + 6 := Nat.le_refl _
  refine j_aload_n C 1 dL_law_1125 rfl rfl ?_
  refine j_callV (As := []) (rest := []) C yv_X4_forceForAll qw204 (c_X4_forceForAll l g r qn qt qv kn kt kv sc ns tx tn pl hI.1) (by decide) 8 rfl rfl rfl dL_law_1126 rfl (Nat.le_of_ble_eq_true rfl) hc0 (pfL (wMd g u v pa sd tx rr rq (sv : Int) (tn : Int) th (ap : Int) rm rd (nw : Int) hh ++ [(od, aL g 1 (o))])) rfl (fun r9 w9 hq9 => ?_)
  obtain ⟨rfl, rfl⟩ := hq9
  refine J.to (L1 := [(0, .ref b0), (1, .ref (r 0)), (2, .ref (u 0)), (3, .ref od), (4, .int (iI (4 * (n : Int))))]) (S1 := [.int (iI (ffa kn 4))]) (ws1 := wLw g r u qn qt qv od kn kt kv sc ns tx tn pl v pa sd rr rq sv ap nw th rm rd hh o tx tn) rfl rfl rfl ?_
  refine J.wide (k := cells) (n := slots) (Nat.le_refl _) (Nat.le_refl _) ?_
  refine j_aload_n C 2 dL_law_1129 rfl rfl ?_
  refine j_callV (As := []) (rest := [.int (iI (ffa kn 4))]) C yv_X5_forceForAll qw881 (c_X5_forceForAll l g u v (sv : Int) (tn : Int) th (ap : Int) rm rd (nw : Int) hh hm) (by decide) 0 rfl rfl rfl dL_law_1130 rfl (Nat.le_of_ble_eq_true rfl) hc0 (pfR ([(u 2, aL g 300 pa), (u 3, aL g 75 sd), (u 4, aI g 60 tx), (u 5, aI g 10 rr), (u 6, aI g 4 rq)] ++ ((od, aL g 1 (o)) :: wTp g r qn qt qv kn kt kv sc ns tx tn pl))) rfl (fun r9 w9 hq9 => ?_)
  obtain ⟨rfl, rfl⟩ := hq9
  refine J.to (L1 := [(0, .ref b0), (1, .ref (r 0)), (2, .ref (u 0)), (3, .ref od), (4, .int (iI (4 * (n : Int))))]) (S1 := [.int (iI (ffa (kV v) 4)), .int (iI (ffa kn 4))]) (ws1 := wLw g r u qn qt qv od kn kt kv sc ns tx tn pl v pa sd rr rq sv ap nw 0 rm rd hh o tx tn) rfl rfl rfl ?_
  refine J.wide (k := cells) (n := slots) (Nat.le_refl _) (Nat.le_refl _) ?_
  have heq : (ffa kn 4 : Int) = (ffa (kV v) 4) := rel_ffa hR 4 (Nat.le_refl _)
  refine j_isame (tgt := 1603) C heq dL_law_1133 (by decide) ?_
  refine J.wide (k := cells + 1) (n := slots + 6) (Nat.le_add_right cells 1) (Nat.le_add_right slots 6) ?_
  exact kk kn kt kv sc ns tx tn pl v pa sd rr rq sv ap nw 0 rm rd hh o hI.next
set_option maxRecDepth 100000 in
set_option maxHeartbeats 4000000 in
theorem law_17 {p : Program} {l : Launch} {e : Env} {s : State} {m : MethodId} {args : Array Value} {below : List Frame} {meth : Method} {c : Code} {g : Gh} {A : Nat → Prop} {r u : Nat → Nat} {qn qt : Nat → Nat} {qv : Nat → Nat → Nat} {od b0 n0 n : Nat} {xs : Nat → Int32} {Q : State → Prop} {cells slots : Nat} (C : Cx p g s m args c cL_law 9 RL A) (hl : l.stackTraces = false) (hX : va_X b0 n0 xs s s.heap) (hbl : b0 < s.heap.size) (hbA : ¬ A b0) (hn0 : n0 ≤ 2048) (hn : 4 * n + 3 < n0) (hc : cells + 1 ≤ room_1.cells ∧ slots + 6 ≤ room_1.slots) (kk : LJ p l e s m args below meth c g A r u qn qt qv od b0 Q 1603 (n + 1) (4 * (n : Int)) (cells + 1) (slots + 6)) : LJ p l e s m args below meth c g A r u qn qt qv od b0 Q 1138 n (4 * (n : Int)) cells slots := by
  intro kn kt kv sc ns tx tn pl v pa sd rr rq sv ap nw th rm rd hh o hI
  have hR := hI.2.2.2.1
  have hk := hI.1.1.1
  have hm := rel_ok hR hk
  have hscv := hI.2.2.2.2.2.1.1
  have hsv : sv ≤ 4 := hI.2.2.2.2.2.1.2
  have hns := hI.1.2.2.2.1
  have htn := hI.1.2.2.2.2.1
  have htx := hI.1.2.2.2.2.2
  have r2 := hR.1 2 (by decide)
  have hk2 := hk.1
  have hcA : cells + 1 + 0 ≤ room_1.cells ∧ slots + 6 + 0 ≤ room_1.slots := hc
  have hc0 : cells + 0 ≤ room_1.cells ∧ slots + 0 ≤ room_1.slots := ⟨Nat.le_of_succ_le hc.1, by omega⟩
  have hv1 : cells + 0 ≤ cells + 1 := Nat.le_add_right cells 1
  have hv2 : slots + 0 ≤ slots + 6 := Nat.le_add_right slots 6
  have hw1 : cells + 1 ≤ cells + 1 := Nat.le_refl _
  have hw2 : slots + 6 ≤ slots + 6 := Nat.le_refl _
  obtain ⟨x1, e1⟩ : ∃ x1 : Int, (xs (4 * n + 1)).toInt = x1 := ⟨_, rfl⟩
  have h1 := rngI (xs (4 * n + 1))
  rw [e1] at h1
  obtain ⟨x2, e2⟩ : ∃ x2 : Int, (xs (4 * n + 2)).toInt = x2 := ⟨_, rfl⟩
  have h2 := rngI (xs (4 * n + 2))
  rw [e2] at h2
  by_cases q1 : 0 ≤ x1 ∧ x1 < 4
  · by_cases q2 : 0 ≤ x2 ∧ x2 ≤ 1000000
    · refine j_aload_n C 1 dL_law_1138 rfl rfl ?_
      refine j_aload_n C 0 dL_law_1139 rfl rfl ?_
      refine j_iload C 4 dL_law_1140 rfl ?_
      refine j_iconst C dL_law_1142 ?_
      refine j_iadd C dL_law_1143 ?_
      refine j_sld C hX hbl hbA (4 * n + 1) (by omega) (by omega) (by omega) e1 dL_law_1144 ?_
      refine j_aload_n C 0 dL_law_1145 rfl rfl ?_
      refine j_iload C 4 dL_law_1146 rfl ?_
      refine j_iconst C dL_law_1148 ?_
      refine j_iadd C dL_law_1149 ?_
      refine j_sld C hX hbl hbA (4 * n + 2) (by omega) (by omega) (by omega) e2 dL_law_1150 ?_
      refine j_aload_n C 3 dL_law_1151 rfl rfl ?_
      refine j_callSW (As := [.ref (r 0), .int (iI x1), .int (iI x2), .ref od]) (rest := []) C yw_L_pulleysFor qw602 (w_pulleysFor_0 l g r qn qt qv kn kt kv sc ns tx tn pl od o x1 x2 hI.1 (by omega) (by omega)) (by decide) rfl dL_law_1152 rfl (Nat.le_of_ble_eq_true rfl) hc0 (pfL (wMd g u v pa sd tx rr rq (sv : Int) (tn : Int) th (ap : Int) rm rd (nw : Int) hh)) rfl (fun r9 w9 hq9 => ?_)
      obtain ⟨rfl, kt1, pl1, rfl⟩ := hq9
      refine J.to (L1 := [(0, .ref b0), (1, .ref (r 0)), (2, .ref (u 0)), (3, .ref od), (4, .int (iI (4 * (n : Int))))]) (S1 := [.int (iI 0)]) (ws1 := wLw g r u qn qt qv od kn kt1 kv sc ns tx tn pl1 v pa sd rr rq sv ap nw th rm rd hh (va_up o 0 (w32 ((pfs (kn 0 1) x2 (kn 3 x1.toNat) 10 0)))) tx tn) rfl rfl rfl ?_
      refine J.wide (k := cells + 1) (n := slots + 6) hv1 hv2 ?_
      refine j_istore (L1 := [(5, .int (iI 0)), (0, .ref b0), (1, .ref (r 0)), (2, .ref (u 0)), (3, .ref od), (4, .int (iI (4 * (n : Int))))]) C dL_law_1155 (by decide) rfl ?_
      refine j_aload_n C 3 dL_law_1157 rfl rfl ?_
      refine j_aload_n C 1 dL_law_1158 rfl rfl ?_
      refine j_iload C 5 dL_law_1159 rfl ?_
      refine j_iconst C dL_law_1161 ?_
      refine j_iadd C dL_law_1162 ?_
      refine j_sld C hX hbl hbA (4 * n + 1) (by omega) (by omega) (by omega) e1 dL_law_1163 ?_
      refine j_aload_n C 1 dL_law_1164 rfl rfl ?_
      refine j_iload C 5 dL_law_1165 rfl ?_
      refine j_iconst C dL_law_1167 ?_
      refine j_iadd C dL_law_1168 ?_
      refine j_sld C hX hbl hbA (4 * n + 2) (by omega) (by omega) (by omega) e2 dL_law_1169 ?_
      refine j_callV (As := [.int (iI x1), .int (iI x2)]) (rest := []) C yv_X5_pulleysFor qw885 (c_X5_pulleysFor_ok l g u v (sv : Int) (tn : Int) th (ap : Int) rm rd (nw : Int) hh x1 x2 hm (by omega) (by omega)) (by decide) 0 rfl rfl rfl dL_law_1170 rfl (Nat.le_of_ble_eq_true rfl) hcA (pfR ([(u 2, aL g 300 pa), (u 3, aL g 75 sd), (u 4, aI g 60 tx), (u 5, aI g 10 rr), (u 6, aI g 4 rq)] ++ ((od, aL g 1 (va_up o 0 (w32 ((pfs (kn 0 1) x2 (kn 3 x1.toNat) 10 0))))) :: wTp g r qn qt qv kn kt1 kv sc ns tx tn pl1))) rfl (fun r9 w9 hq9 => ?_)
      obtain ⟨rfl, rfl⟩ := hq9
      refine J.to (L1 := [(5, .int (iI 0)), (0, .ref b0), (1, .ref (r 0)), (2, .ref (u 0)), (3, .ref od), (4, .int (iI (4 * (n : Int))))]) (S1 := [.int (iI (pfs (v 1) x2 (vW v x1.toNat) 10 0))]) (ws1 := wLw g r u qn qt qv od kn kt1 kv sc ns tx tn pl1 v pa sd rr rq sv ap nw 0 rm rd hh (va_up o 0 (w32 ((pfs (kn 0 1) x2 (kn 3 x1.toNat) 10 0)))) tx tn) rfl rfl rfl ?_
      refine J.wide (k := (cells + 1)) (n := (slots + 6)) (Nat.le_refl _) (Nat.le_refl _) ?_
      refine j_istore (L1 := [(6, .int (iI (pfs (v 1) x2 (vW v x1.toNat) 10 0))), (5, .int (iI 0)), (0, .ref b0), (1, .ref (r 0)), (2, .ref (u 0)), (3, .ref od), (4, .int (iI (4 * (n : Int))))]) C dL_law_1173 (by decide) rfl ?_
      refine j_aload_n C 4 dL_law_1175 rfl rfl ?_
      refine j_callV (As := []) (rest := []) C yv_X5_thrown qw706 (c_X5_thrown l g u v (sv : Int) (tn : Int) 0 (ap : Int) rm rd (nw : Int) hh) (by decide) 0 rfl rfl rfl dL_law_1176 rfl (Nat.le_of_ble_eq_true rfl) hcA (pfR ([(u 1, aL g 75 v), (u 2, aL g 300 pa), (u 3, aL g 75 sd), (u 4, aI g 60 tx), (u 5, aI g 10 rr), (u 6, aI g 4 rq)] ++ ((od, aL g 1 (va_up o 0 (w32 ((pfs (kn 0 1) x2 (kn 3 x1.toNat) 10 0))))) :: wTp g r qn qt qv kn kt1 kv sc ns tx tn pl1))) rfl (fun r9 w9 hq9 => ?_)
      obtain ⟨rfl, rfl⟩ := hq9
      refine J.to (L1 := [(6, .int (iI (pfs (v 1) x2 (vW v x1.toNat) 10 0))), (5, .int (iI 0)), (0, .ref b0), (1, .ref (r 0)), (2, .ref (u 0)), (3, .ref od), (4, .int (iI (4 * (n : Int))))]) (S1 := [.int (iI 0)]) (ws1 := wLw g r u qn qt qv od kn kt1 kv sc ns tx tn pl1 v pa sd rr rq sv ap nw 0 rm rd hh (va_up o 0 (w32 ((pfs (kn 0 1) x2 (kn 3 x1.toNat) 10 0)))) tx tn) rfl rfl rfl ?_
      refine J.wide (k := (cells + 1)) (n := (slots + 6)) (Nat.le_refl _) (Nat.le_refl _) ?_
      refine j_iload C 1 dL_law_1179 rfl ?_
      refine j_isame (tgt := 1186) C rfl dL_law_1181 (by decide) ?_
      refine j_iload C 1 dL_law_1186 rfl ?_
      refine j_if_ne (tgt := 1203) C (by decide) dL_law_1188 (by decide) (fun h9 => absurd h9 (by decide)) (fun _ => ?_)
      refine j_aload_n C 5 dL_law_1191 rfl rfl ?_
      refine j_iconst C dL_law_1192 ?_
      refine j_lald (f := va_up o 0 (w32 ((pfs (kn 0 1) x2 (kn 3 x1.toNat) 10 0)))) C 7 0 rfl rfl (by decide) (by decide) dL_law_1193 ?_
      refine J.to (L1 := [(6, .int (iI (pfs (v 1) x2 (vW v x1.toNat) 10 0))), (5, .int (iI 0)), (0, .ref b0), (1, .ref (r 0)), (2, .ref (u 0)), (3, .ref od), (4, .int (iI (4 * (n : Int))))]) (S1 := [.long (lI (w32 ((pfs (kn 0 1) x2 (kn 3 x1.toNat) 10 0))))]) (ws1 := wLw g r u qn qt qv od kn kt1 kv sc ns tx tn pl1 v pa sd rr rq sv ap nw 0 rm rd hh (va_up o 0 (w32 ((pfs (kn 0 1) x2 (kn 3 x1.toNat) 10 0)))) tx tn) rfl rfl rfl ?_
      refine j_iload C 0 dL_law_1194 rfl ?_
      refine j_i2lw C dL_law_1196 ?_
      have heq : ((pfs (kn 0 1) x2 (kn 3 x1.toNat) 10 0) : Int) = (pfs (v 1) x2 (vW v x1.toNat) 10 0) := by rw [hR.1 1 (by decide), hR.2.2.1 x1.toNat (by omega)]
      refine j_lsame (tgt := 1203) C (congrArg w32 heq) dL_law_1197 dL_law_1198 (by decide) ?_
      refine j_goto (tgt := 1603) C dL_law_1203 (by decide) ?_
      refine J.sub (L1 := [(0, .ref b0), (1, .ref (r 0)), (2, .ref (u 0)), (3, .ref od), (4, .int (iI (4 * (n : Int))))]) [2, 3, 4, 5, 6] rfl ?_
      exact kk kn kt1 kv sc ns tx tn pl1 v pa sd rr rq sv ap nw 0 rm rd hh (va_up o 0 (w32 ((pfs (kn 0 1) x2 (kn 3 x1.toNat) 10 0)))) hI.next
    · refine j_aload_n C 1 dL_law_1138 rfl rfl ?_
      refine j_aload_n C 0 dL_law_1139 rfl rfl ?_
      refine j_iload C 4 dL_law_1140 rfl ?_
      refine j_iconst C dL_law_1142 ?_
      refine j_iadd C dL_law_1143 ?_
      refine j_sld C hX hbl hbA (4 * n + 1) (by omega) (by omega) (by omega) e1 dL_law_1144 ?_
      refine j_aload_n C 0 dL_law_1145 rfl rfl ?_
      refine j_iload C 4 dL_law_1146 rfl ?_
      refine j_iconst C dL_law_1148 ?_
      refine j_iadd C dL_law_1149 ?_
      refine j_sld C hX hbl hbA (4 * n + 2) (by omega) (by omega) (by omega) e2 dL_law_1150 ?_
      refine j_aload_n C 3 dL_law_1151 rfl rfl ?_
      refine j_callSW (As := [.ref (r 0), .int (iI x1), .int (iI x2), .ref od]) (rest := []) C yw_L_pulleysFor qw602 (w_pulleysFor_2 l hl g r qn qt qv kn kt kv sc ns tx tn pl od o x1 x2 hI.1 (by omega) (by omega) (by omega) (by omega)) (by decide) rfl dL_law_1152 rfl (Nat.le_of_ble_eq_true rfl) hc (pfL (wMd g u v pa sd tx rr rq (sv : Int) (tn : Int) th (ap : Int) rm rd (nw : Int) hh)) rfl (fun r9 w9 hq9 => ?_)
      obtain ⟨rfl, kt1, pl1, rfl⟩ := hq9
      refine J.to (L1 := [(0, .ref b0), (1, .ref (r 0)), (2, .ref (u 0)), (3, .ref od), (4, .int (iI (4 * (n : Int))))]) (S1 := [.int (iI 2)]) (ws1 := wLw g r u qn qt qv od kn kt1 kv sc ns tx tn pl1 v pa sd rr rq sv ap nw th rm rd hh o tx tn) rfl rfl rfl ?_
      refine J.wide (k := cells + 1) (n := slots + 6) hw1 hw2 ?_
      refine j_istore (L1 := [(5, .int (iI 2)), (0, .ref b0), (1, .ref (r 0)), (2, .ref (u 0)), (3, .ref od), (4, .int (iI (4 * (n : Int))))]) C dL_law_1155 (by decide) rfl ?_
      refine j_aload_n C 3 dL_law_1157 rfl rfl ?_
      refine j_aload_n C 1 dL_law_1158 rfl rfl ?_
      refine j_iload C 5 dL_law_1159 rfl ?_
      refine j_iconst C dL_law_1161 ?_
      refine j_iadd C dL_law_1162 ?_
      refine j_sld C hX hbl hbA (4 * n + 1) (by omega) (by omega) (by omega) e1 dL_law_1163 ?_
      refine j_aload_n C 1 dL_law_1164 rfl rfl ?_
      refine j_iload C 5 dL_law_1165 rfl ?_
      refine j_iconst C dL_law_1167 ?_
      refine j_iadd C dL_law_1168 ?_
      refine j_sld C hX hbl hbA (4 * n + 2) (by omega) (by omega) (by omega) e2 dL_law_1169 ?_
      refine j_callV (As := [.int (iI x1), .int (iI x2)]) (rest := []) C yv_X5_pulleysFor qw885 (c_X5_pulleysFor_n2 l g u v (sv : Int) (tn : Int) th (ap : Int) rm rd (nw : Int) hh x1 x2 hm (by omega) (by omega) (by omega) (by omega)) (by decide) 0 rfl rfl rfl dL_law_1170 rfl (Nat.le_of_ble_eq_true rfl) hcA (pfR ([(u 2, aL g 300 pa), (u 3, aL g 75 sd), (u 4, aI g 60 tx), (u 5, aI g 10 rr), (u 6, aI g 4 rq)] ++ ((od, aL g 1 (o)) :: wTp g r qn qt qv kn kt1 kv sc ns tx tn pl1))) rfl (fun r9 w9 hq9 => ?_)
      obtain ⟨rfl, rfl⟩ := hq9
      refine J.to (L1 := [(5, .int (iI 2)), (0, .ref b0), (1, .ref (r 0)), (2, .ref (u 0)), (3, .ref od), (4, .int (iI (4 * (n : Int))))]) (S1 := [.int (iI 0)]) (ws1 := wLw g r u qn qt qv od kn kt1 kv sc ns tx tn pl1 v pa sd rr rq sv ap nw 2 rm rd hh o tx tn) rfl rfl rfl ?_
      refine J.wide (k := (cells + 1)) (n := (slots + 6)) (Nat.le_refl _) (Nat.le_refl _) ?_
      refine j_istore (L1 := [(6, .int (iI 0)), (5, .int (iI 2)), (0, .ref b0), (1, .ref (r 0)), (2, .ref (u 0)), (3, .ref od), (4, .int (iI (4 * (n : Int))))]) C dL_law_1173 (by decide) rfl ?_
      refine j_aload_n C 4 dL_law_1175 rfl rfl ?_
      refine j_callV (As := []) (rest := []) C yv_X5_thrown qw706 (c_X5_thrown l g u v (sv : Int) (tn : Int) 2 (ap : Int) rm rd (nw : Int) hh) (by decide) 0 rfl rfl rfl dL_law_1176 rfl (Nat.le_of_ble_eq_true rfl) hcA (pfR ([(u 1, aL g 75 v), (u 2, aL g 300 pa), (u 3, aL g 75 sd), (u 4, aI g 60 tx), (u 5, aI g 10 rr), (u 6, aI g 4 rq)] ++ ((od, aL g 1 (o)) :: wTp g r qn qt qv kn kt1 kv sc ns tx tn pl1))) rfl (fun r9 w9 hq9 => ?_)
      obtain ⟨rfl, rfl⟩ := hq9
      refine J.to (L1 := [(6, .int (iI 0)), (5, .int (iI 2)), (0, .ref b0), (1, .ref (r 0)), (2, .ref (u 0)), (3, .ref od), (4, .int (iI (4 * (n : Int))))]) (S1 := [.int (iI 2)]) (ws1 := wLw g r u qn qt qv od kn kt1 kv sc ns tx tn pl1 v pa sd rr rq sv ap nw 2 rm rd hh o tx tn) rfl rfl rfl ?_
      refine J.wide (k := (cells + 1)) (n := (slots + 6)) (Nat.le_refl _) (Nat.le_refl _) ?_
      refine j_iload C 1 dL_law_1179 rfl ?_
      refine j_isame (tgt := 1186) C rfl dL_law_1181 (by decide) ?_
      refine j_iload C 1 dL_law_1186 rfl ?_
      refine j_if_ne (tgt := 1203) C (by decide) dL_law_1188 (by decide) (fun _ => ?_) (fun h9 => absurd h9 (by decide))
      refine j_goto (tgt := 1603) C dL_law_1203 (by decide) ?_
      refine J.sub (L1 := [(0, .ref b0), (1, .ref (r 0)), (2, .ref (u 0)), (3, .ref od), (4, .int (iI (4 * (n : Int))))]) [2, 3, 4, 5, 6] rfl ?_
      exact kk kn kt1 kv sc ns tx tn pl1 v pa sd rr rq sv ap nw 2 rm rd hh o hI.next
  · refine j_aload_n C 1 dL_law_1138 rfl rfl ?_
    refine j_aload_n C 0 dL_law_1139 rfl rfl ?_
    refine j_iload C 4 dL_law_1140 rfl ?_
    refine j_iconst C dL_law_1142 ?_
    refine j_iadd C dL_law_1143 ?_
    refine j_sld C hX hbl hbA (4 * n + 1) (by omega) (by omega) (by omega) e1 dL_law_1144 ?_
    refine j_aload_n C 0 dL_law_1145 rfl rfl ?_
    refine j_iload C 4 dL_law_1146 rfl ?_
    refine j_iconst C dL_law_1148 ?_
    refine j_iadd C dL_law_1149 ?_
    refine j_sld C hX hbl hbA (4 * n + 2) (by omega) (by omega) (by omega) e2 dL_law_1150 ?_
    refine j_aload_n C 3 dL_law_1151 rfl rfl ?_
    refine j_callSW (As := [.ref (r 0), .int (iI x1), .int (iI x2), .ref od]) (rest := []) C yw_L_pulleysFor qw602 (w_pulleysFor_1 l hl g r qn qt qv kn kt kv sc ns tx tn pl od o x1 x2 hI.1 (by omega) (by omega) (by omega)) (by decide) rfl dL_law_1152 rfl (Nat.le_of_ble_eq_true rfl) hc (pfL (wMd g u v pa sd tx rr rq (sv : Int) (tn : Int) th (ap : Int) rm rd (nw : Int) hh)) rfl (fun r9 w9 hq9 => ?_)
    obtain ⟨rfl, kt1, pl1, rfl⟩ := hq9
    refine J.to (L1 := [(0, .ref b0), (1, .ref (r 0)), (2, .ref (u 0)), (3, .ref od), (4, .int (iI (4 * (n : Int))))]) (S1 := [.int (iI 1)]) (ws1 := wLw g r u qn qt qv od kn kt1 kv sc ns tx tn pl1 v pa sd rr rq sv ap nw th rm rd hh o tx tn) rfl rfl rfl ?_
    refine J.wide (k := cells + 1) (n := slots + 6) hw1 hw2 ?_
    refine j_istore (L1 := [(5, .int (iI 1)), (0, .ref b0), (1, .ref (r 0)), (2, .ref (u 0)), (3, .ref od), (4, .int (iI (4 * (n : Int))))]) C dL_law_1155 (by decide) rfl ?_
    refine j_aload_n C 3 dL_law_1157 rfl rfl ?_
    refine j_aload_n C 1 dL_law_1158 rfl rfl ?_
    refine j_iload C 5 dL_law_1159 rfl ?_
    refine j_iconst C dL_law_1161 ?_
    refine j_iadd C dL_law_1162 ?_
    refine j_sld C hX hbl hbA (4 * n + 1) (by omega) (by omega) (by omega) e1 dL_law_1163 ?_
    refine j_aload_n C 1 dL_law_1164 rfl rfl ?_
    refine j_iload C 5 dL_law_1165 rfl ?_
    refine j_iconst C dL_law_1167 ?_
    refine j_iadd C dL_law_1168 ?_
    refine j_sld C hX hbl hbA (4 * n + 2) (by omega) (by omega) (by omega) e2 dL_law_1169 ?_
    refine j_callV (As := [.int (iI x1), .int (iI x2)]) (rest := []) C yv_X5_pulleysFor qw885 (c_X5_pulleysFor_n1 l g u v (sv : Int) (tn : Int) th (ap : Int) rm rd (nw : Int) hh x1 x2 hm (by omega) (by omega) (by omega)) (by decide) 0 rfl rfl rfl dL_law_1170 rfl (Nat.le_of_ble_eq_true rfl) hcA (pfR ([(u 2, aL g 300 pa), (u 3, aL g 75 sd), (u 4, aI g 60 tx), (u 5, aI g 10 rr), (u 6, aI g 4 rq)] ++ ((od, aL g 1 (o)) :: wTp g r qn qt qv kn kt1 kv sc ns tx tn pl1))) rfl (fun r9 w9 hq9 => ?_)
    obtain ⟨rfl, rfl⟩ := hq9
    refine J.to (L1 := [(5, .int (iI 1)), (0, .ref b0), (1, .ref (r 0)), (2, .ref (u 0)), (3, .ref od), (4, .int (iI (4 * (n : Int))))]) (S1 := [.int (iI 0)]) (ws1 := wLw g r u qn qt qv od kn kt1 kv sc ns tx tn pl1 v pa sd rr rq sv ap nw 1 rm rd hh o tx tn) rfl rfl rfl ?_
    refine J.wide (k := (cells + 1)) (n := (slots + 6)) (Nat.le_refl _) (Nat.le_refl _) ?_
    refine j_istore (L1 := [(6, .int (iI 0)), (5, .int (iI 1)), (0, .ref b0), (1, .ref (r 0)), (2, .ref (u 0)), (3, .ref od), (4, .int (iI (4 * (n : Int))))]) C dL_law_1173 (by decide) rfl ?_
    refine j_aload_n C 4 dL_law_1175 rfl rfl ?_
    refine j_callV (As := []) (rest := []) C yv_X5_thrown qw706 (c_X5_thrown l g u v (sv : Int) (tn : Int) 1 (ap : Int) rm rd (nw : Int) hh) (by decide) 0 rfl rfl rfl dL_law_1176 rfl (Nat.le_of_ble_eq_true rfl) hcA (pfR ([(u 1, aL g 75 v), (u 2, aL g 300 pa), (u 3, aL g 75 sd), (u 4, aI g 60 tx), (u 5, aI g 10 rr), (u 6, aI g 4 rq)] ++ ((od, aL g 1 (o)) :: wTp g r qn qt qv kn kt1 kv sc ns tx tn pl1))) rfl (fun r9 w9 hq9 => ?_)
    obtain ⟨rfl, rfl⟩ := hq9
    refine J.to (L1 := [(6, .int (iI 0)), (5, .int (iI 1)), (0, .ref b0), (1, .ref (r 0)), (2, .ref (u 0)), (3, .ref od), (4, .int (iI (4 * (n : Int))))]) (S1 := [.int (iI 1)]) (ws1 := wLw g r u qn qt qv od kn kt1 kv sc ns tx tn pl1 v pa sd rr rq sv ap nw 1 rm rd hh o tx tn) rfl rfl rfl ?_
    refine J.wide (k := (cells + 1)) (n := (slots + 6)) (Nat.le_refl _) (Nat.le_refl _) ?_
    refine j_iload C 1 dL_law_1179 rfl ?_
    refine j_isame (tgt := 1186) C rfl dL_law_1181 (by decide) ?_
    refine j_iload C 1 dL_law_1186 rfl ?_
    refine j_if_ne (tgt := 1203) C (by decide) dL_law_1188 (by decide) (fun _ => ?_) (fun h9 => absurd h9 (by decide))
    refine j_goto (tgt := 1603) C dL_law_1203 (by decide) ?_
    refine J.sub (L1 := [(0, .ref b0), (1, .ref (r 0)), (2, .ref (u 0)), (3, .ref od), (4, .int (iI (4 * (n : Int))))]) [2, 3, 4, 5, 6] rfl ?_
    exact kk kn kt1 kv sc ns tx tn pl1 v pa sd rr rq sv ap nw 1 rm rd hh o hI.next
set_option maxRecDepth 100000 in
set_option maxHeartbeats 4000000 in
theorem law_18 {p : Program} {l : Launch} {e : Env} {s : State} {m : MethodId} {args : Array Value} {below : List Frame} {meth : Method} {c : Code} {g : Gh} {A : Nat → Prop} {r u : Nat → Nat} {qn qt : Nat → Nat} {qv : Nat → Nat → Nat} {od b0 n0 n : Nat} {xs : Nat → Int32} {Q : State → Prop} {cells slots : Nat} (C : Cx p g s m args c cL_law 9 RL A) (hl : l.stackTraces = false) (hX : va_X b0 n0 xs s s.heap) (hbl : b0 < s.heap.size) (hbA : ¬ A b0) (hn0 : n0 ≤ 2048) (hn : 4 * n + 3 < n0) (hc : cells + 1 ≤ room_1.cells ∧ slots + 6 ≤ room_1.slots) (kk : LJ p l e s m args below meth c g A r u qn qt qv od b0 Q 1603 (n + 1) (4 * (n : Int)) (cells + 1) (slots + 6)) : LJ p l e s m args below meth c g A r u qn qt qv od b0 Q 1206 n (4 * (n : Int)) cells slots := by
  intro kn kt kv sc ns tx tn pl v pa sd rr rq sv ap nw th rm rd hh o hI
  have hR := hI.2.2.2.1
  have hk := hI.1.1.1
  have hm := rel_ok hR hk
  have hscv := hI.2.2.2.2.2.1.1
  have hsv : sv ≤ 4 := hI.2.2.2.2.2.1.2
  have hns := hI.1.2.2.2.1
  have htn := hI.1.2.2.2.2.1
  have htx := hI.1.2.2.2.2.2
  have r2 := hR.1 2 (by decide)
  have hk2 := hk.1
  have hcA : cells + 1 + 0 ≤ room_1.cells ∧ slots + 6 + 0 ≤ room_1.slots := hc
  have hc0 : cells + 0 ≤ room_1.cells ∧ slots + 0 ≤ room_1.slots := ⟨Nat.le_of_succ_le hc.1, by omega⟩
  have hv1 : cells + 0 ≤ cells + 1 := Nat.le_add_right cells 1
  have hv2 : slots + 0 ≤ slots + 6 := Nat.le_add_right slots 6
  have hw1 : cells + 1 ≤ cells + 1 := Nat.le_refl _
  have hw2 : slots + 6 ≤ slots + 6 := Nat.le_refl _
  obtain ⟨x1, e1⟩ : ∃ x1 : Int, (xs (4 * n + 1)).toInt = x1 := ⟨_, rfl⟩
  have h1 := rngI (xs (4 * n + 1))
  rw [e1] at h1
  by_cases q1 : 0 ≤ x1 ∧ x1 < 4
  · refine j_aload_n C 1 dL_law_1206 rfl rfl ?_
    refine j_aload_n C 0 dL_law_1207 rfl rfl ?_
    refine j_iload C 4 dL_law_1208 rfl ?_
    refine j_iconst C dL_law_1210 ?_
    refine j_iadd C dL_law_1211 ?_
    refine j_sld C hX hbl hbA (4 * n + 1) (by omega) (by omega) (by omega) e1 dL_law_1212 ?_
    refine j_aload_n C 3 dL_law_1213 rfl rfl ?_
    refine j_callSW (As := [.ref (r 0), .int (iI x1), .ref od]) (rest := []) C yw_L_bestEnd qw610 (w_bestEnd_0 l g r qn qt qv kn kt kv sc ns tx tn pl od o x1 hI.1 (by omega)) (by decide) rfl dL_law_1214 rfl (Nat.le_of_ble_eq_true rfl) hc0 (pfL (wMd g u v pa sd tx rr rq (sv : Int) (tn : Int) th (ap : Int) rm rd (nw : Int) hh)) rfl (fun r9 w9 hq9 => ?_)
    obtain ⟨rfl, kt1, pl1, rfl⟩ := hq9
    refine J.to (L1 := [(0, .ref b0), (1, .ref (r 0)), (2, .ref (u 0)), (3, .ref od), (4, .int (iI (4 * (n : Int))))]) (S1 := [.int (iI 0)]) (ws1 := wLw g r u qn qt qv od kn kt1 kv sc ns tx tn pl1 v pa sd rr rq sv ap nw th rm rd hh (va_up o 0 (w32 ((nxr (fcE kn x1) (fun _ => 0) 1000000 5)))) tx tn) rfl rfl rfl ?_
    refine J.wide (k := cells + 1) (n := slots + 6) hv1 hv2 ?_
    refine j_istore (L1 := [(5, .int (iI 0)), (0, .ref b0), (1, .ref (r 0)), (2, .ref (u 0)), (3, .ref od), (4, .int (iI (4 * (n : Int))))]) C dL_law_1217 (by decide) rfl ?_
    refine j_aload_n C 3 dL_law_1219 rfl rfl ?_
    refine j_aload_n C 1 dL_law_1220 rfl rfl ?_
    refine j_iload C 5 dL_law_1221 rfl ?_
    refine j_iconst C dL_law_1223 ?_
    refine j_iadd C dL_law_1224 ?_
    refine j_sld C hX hbl hbA (4 * n + 1) (by omega) (by omega) (by omega) e1 dL_law_1225 ?_
    refine j_callV (As := [.int (iI x1)]) (rest := []) C yv_X5_bestEnd qw889 (c_X5_bestEnd_ok l g u v (sv : Int) (tn : Int) th (ap : Int) rm rd (nw : Int) hh x1 hm (by omega)) (by decide) 0 rfl rfl rfl dL_law_1226 rfl (Nat.le_of_ble_eq_true rfl) hcA (pfR ([(u 2, aL g 300 pa), (u 3, aL g 75 sd), (u 4, aI g 60 tx), (u 5, aI g 10 rr), (u 6, aI g 4 rq)] ++ ((od, aL g 1 (va_up o 0 (w32 ((nxr (fcE kn x1) (fun _ => 0) 1000000 5))))) :: wTp g r qn qt qv kn kt1 kv sc ns tx tn pl1))) rfl (fun r9 w9 hq9 => ?_)
    obtain ⟨rfl, rfl⟩ := hq9
    refine J.to (L1 := [(5, .int (iI 0)), (0, .ref b0), (1, .ref (r 0)), (2, .ref (u 0)), (3, .ref od), (4, .int (iI (4 * (n : Int))))]) (S1 := [.int (iI (nxr (fcE (kV v) x1) (fun _ => 0) 1000000 5))]) (ws1 := wLw g r u qn qt qv od kn kt1 kv sc ns tx tn pl1 v pa sd rr rq sv ap nw 0 rm rd hh (va_up o 0 (w32 ((nxr (fcE kn x1) (fun _ => 0) 1000000 5)))) tx tn) rfl rfl rfl ?_
    refine J.wide (k := (cells + 1)) (n := (slots + 6)) (Nat.le_refl _) (Nat.le_refl _) ?_
    refine j_istore (L1 := [(6, .int (iI (nxr (fcE (kV v) x1) (fun _ => 0) 1000000 5))), (5, .int (iI 0)), (0, .ref b0), (1, .ref (r 0)), (2, .ref (u 0)), (3, .ref od), (4, .int (iI (4 * (n : Int))))]) C dL_law_1229 (by decide) rfl ?_
    refine j_aload_n C 4 dL_law_1231 rfl rfl ?_
    refine j_callV (As := []) (rest := []) C yv_X5_thrown qw706 (c_X5_thrown l g u v (sv : Int) (tn : Int) 0 (ap : Int) rm rd (nw : Int) hh) (by decide) 0 rfl rfl rfl dL_law_1232 rfl (Nat.le_of_ble_eq_true rfl) hcA (pfR ([(u 1, aL g 75 v), (u 2, aL g 300 pa), (u 3, aL g 75 sd), (u 4, aI g 60 tx), (u 5, aI g 10 rr), (u 6, aI g 4 rq)] ++ ((od, aL g 1 (va_up o 0 (w32 ((nxr (fcE kn x1) (fun _ => 0) 1000000 5))))) :: wTp g r qn qt qv kn kt1 kv sc ns tx tn pl1))) rfl (fun r9 w9 hq9 => ?_)
    obtain ⟨rfl, rfl⟩ := hq9
    refine J.to (L1 := [(6, .int (iI (nxr (fcE (kV v) x1) (fun _ => 0) 1000000 5))), (5, .int (iI 0)), (0, .ref b0), (1, .ref (r 0)), (2, .ref (u 0)), (3, .ref od), (4, .int (iI (4 * (n : Int))))]) (S1 := [.int (iI 0)]) (ws1 := wLw g r u qn qt qv od kn kt1 kv sc ns tx tn pl1 v pa sd rr rq sv ap nw 0 rm rd hh (va_up o 0 (w32 ((nxr (fcE kn x1) (fun _ => 0) 1000000 5)))) tx tn) rfl rfl rfl ?_
    refine J.wide (k := (cells + 1)) (n := (slots + 6)) (Nat.le_refl _) (Nat.le_refl _) ?_
    refine j_iload C 1 dL_law_1235 rfl ?_
    refine j_isame (tgt := 1242) C rfl dL_law_1237 (by decide) ?_
    refine j_iload C 1 dL_law_1242 rfl ?_
    refine j_if_ne (tgt := 1259) C (by decide) dL_law_1244 (by decide) (fun h9 => absurd h9 (by decide)) (fun _ => ?_)
    refine j_aload_n C 5 dL_law_1247 rfl rfl ?_
    refine j_iconst C dL_law_1248 ?_
    refine j_lald (f := va_up o 0 (w32 ((nxr (fcE kn x1) (fun _ => 0) 1000000 5)))) C 7 0 rfl rfl (by decide) (by decide) dL_law_1249 ?_
    refine J.to (L1 := [(6, .int (iI (nxr (fcE (kV v) x1) (fun _ => 0) 1000000 5))), (5, .int (iI 0)), (0, .ref b0), (1, .ref (r 0)), (2, .ref (u 0)), (3, .ref od), (4, .int (iI (4 * (n : Int))))]) (S1 := [.long (lI (w32 ((nxr (fcE kn x1) (fun _ => 0) 1000000 5))))]) (ws1 := wLw g r u qn qt qv od kn kt1 kv sc ns tx tn pl1 v pa sd rr rq sv ap nw 0 rm rd hh (va_up o 0 (w32 ((nxr (fcE kn x1) (fun _ => 0) 1000000 5)))) tx tn) rfl rfl rfl ?_
    refine j_iload C 0 dL_law_1250 rfl ?_
    refine j_i2lw C dL_law_1252 ?_
    have heq : ((nxr (fcE kn x1) (fun _ => 0) 1000000 5) : Int) = (nxr (fcE (kV v) x1) (fun _ => 0) 1000000 5) := rel_best hR q1
    refine j_lsame (tgt := 1259) C (congrArg w32 heq) dL_law_1253 dL_law_1254 (by decide) ?_
    refine j_goto (tgt := 1603) C dL_law_1259 (by decide) ?_
    refine J.sub (L1 := [(0, .ref b0), (1, .ref (r 0)), (2, .ref (u 0)), (3, .ref od), (4, .int (iI (4 * (n : Int))))]) [2, 3, 4, 5, 6] rfl ?_
    exact kk kn kt1 kv sc ns tx tn pl1 v pa sd rr rq sv ap nw 0 rm rd hh (va_up o 0 (w32 ((nxr (fcE kn x1) (fun _ => 0) 1000000 5)))) hI.next
  · refine j_aload_n C 1 dL_law_1206 rfl rfl ?_
    refine j_aload_n C 0 dL_law_1207 rfl rfl ?_
    refine j_iload C 4 dL_law_1208 rfl ?_
    refine j_iconst C dL_law_1210 ?_
    refine j_iadd C dL_law_1211 ?_
    refine j_sld C hX hbl hbA (4 * n + 1) (by omega) (by omega) (by omega) e1 dL_law_1212 ?_
    refine j_aload_n C 3 dL_law_1213 rfl rfl ?_
    refine j_callSW (As := [.ref (r 0), .int (iI x1), .ref od]) (rest := []) C yw_L_bestEnd qw610 (w_bestEnd_1 l hl g r qn qt qv kn kt kv sc ns tx tn pl od o x1 hI.1 (by omega) (by omega)) (by decide) rfl dL_law_1214 rfl (Nat.le_of_ble_eq_true rfl) hc (pfL (wMd g u v pa sd tx rr rq (sv : Int) (tn : Int) th (ap : Int) rm rd (nw : Int) hh)) rfl (fun r9 w9 hq9 => ?_)
    obtain ⟨rfl, kt1, pl1, rfl⟩ := hq9
    refine J.to (L1 := [(0, .ref b0), (1, .ref (r 0)), (2, .ref (u 0)), (3, .ref od), (4, .int (iI (4 * (n : Int))))]) (S1 := [.int (iI 1)]) (ws1 := wLw g r u qn qt qv od kn kt1 kv sc ns tx tn pl1 v pa sd rr rq sv ap nw th rm rd hh o tx tn) rfl rfl rfl ?_
    refine J.wide (k := cells + 1) (n := slots + 6) hw1 hw2 ?_
    refine j_istore (L1 := [(5, .int (iI 1)), (0, .ref b0), (1, .ref (r 0)), (2, .ref (u 0)), (3, .ref od), (4, .int (iI (4 * (n : Int))))]) C dL_law_1217 (by decide) rfl ?_
    refine j_aload_n C 3 dL_law_1219 rfl rfl ?_
    refine j_aload_n C 1 dL_law_1220 rfl rfl ?_
    refine j_iload C 5 dL_law_1221 rfl ?_
    refine j_iconst C dL_law_1223 ?_
    refine j_iadd C dL_law_1224 ?_
    refine j_sld C hX hbl hbA (4 * n + 1) (by omega) (by omega) (by omega) e1 dL_law_1225 ?_
    refine j_callV (As := [.int (iI x1)]) (rest := []) C yv_X5_bestEnd qw889 (c_X5_bestEnd_n1 l g u v (sv : Int) (tn : Int) th (ap : Int) rm rd (nw : Int) hh x1 hm (by omega) (by omega)) (by decide) 0 rfl rfl rfl dL_law_1226 rfl (Nat.le_of_ble_eq_true rfl) hcA (pfR ([(u 2, aL g 300 pa), (u 3, aL g 75 sd), (u 4, aI g 60 tx), (u 5, aI g 10 rr), (u 6, aI g 4 rq)] ++ ((od, aL g 1 (o)) :: wTp g r qn qt qv kn kt1 kv sc ns tx tn pl1))) rfl (fun r9 w9 hq9 => ?_)
    obtain ⟨rfl, rfl⟩ := hq9
    refine J.to (L1 := [(5, .int (iI 1)), (0, .ref b0), (1, .ref (r 0)), (2, .ref (u 0)), (3, .ref od), (4, .int (iI (4 * (n : Int))))]) (S1 := [.int (iI 0)]) (ws1 := wLw g r u qn qt qv od kn kt1 kv sc ns tx tn pl1 v pa sd rr rq sv ap nw 1 rm rd hh o tx tn) rfl rfl rfl ?_
    refine J.wide (k := (cells + 1)) (n := (slots + 6)) (Nat.le_refl _) (Nat.le_refl _) ?_
    refine j_istore (L1 := [(6, .int (iI 0)), (5, .int (iI 1)), (0, .ref b0), (1, .ref (r 0)), (2, .ref (u 0)), (3, .ref od), (4, .int (iI (4 * (n : Int))))]) C dL_law_1229 (by decide) rfl ?_
    refine j_aload_n C 4 dL_law_1231 rfl rfl ?_
    refine j_callV (As := []) (rest := []) C yv_X5_thrown qw706 (c_X5_thrown l g u v (sv : Int) (tn : Int) 1 (ap : Int) rm rd (nw : Int) hh) (by decide) 0 rfl rfl rfl dL_law_1232 rfl (Nat.le_of_ble_eq_true rfl) hcA (pfR ([(u 1, aL g 75 v), (u 2, aL g 300 pa), (u 3, aL g 75 sd), (u 4, aI g 60 tx), (u 5, aI g 10 rr), (u 6, aI g 4 rq)] ++ ((od, aL g 1 (o)) :: wTp g r qn qt qv kn kt1 kv sc ns tx tn pl1))) rfl (fun r9 w9 hq9 => ?_)
    obtain ⟨rfl, rfl⟩ := hq9
    refine J.to (L1 := [(6, .int (iI 0)), (5, .int (iI 1)), (0, .ref b0), (1, .ref (r 0)), (2, .ref (u 0)), (3, .ref od), (4, .int (iI (4 * (n : Int))))]) (S1 := [.int (iI 1)]) (ws1 := wLw g r u qn qt qv od kn kt1 kv sc ns tx tn pl1 v pa sd rr rq sv ap nw 1 rm rd hh o tx tn) rfl rfl rfl ?_
    refine J.wide (k := (cells + 1)) (n := (slots + 6)) (Nat.le_refl _) (Nat.le_refl _) ?_
    refine j_iload C 1 dL_law_1235 rfl ?_
    refine j_isame (tgt := 1242) C rfl dL_law_1237 (by decide) ?_
    refine j_iload C 1 dL_law_1242 rfl ?_
    refine j_if_ne (tgt := 1259) C (by decide) dL_law_1244 (by decide) (fun _ => ?_) (fun h9 => absurd h9 (by decide))
    refine j_goto (tgt := 1603) C dL_law_1259 (by decide) ?_
    refine J.sub (L1 := [(0, .ref b0), (1, .ref (r 0)), (2, .ref (u 0)), (3, .ref od), (4, .int (iI (4 * (n : Int))))]) [2, 3, 4, 5, 6] rfl ?_
    exact kk kn kt1 kv sc ns tx tn pl1 v pa sd rr rq sv ap nw 1 rm rd hh o hI.next
