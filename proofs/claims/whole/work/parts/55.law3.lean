/-! the law's cases 10 to 13 -/
set_option maxRecDepth 100000 in
set_option maxHeartbeats 4000000 in
theorem law_10 {p : Program} {l : Launch} {e : Env} {s : State} {m : MethodId} {args : Array Value} {below : List Frame} {meth : Method} {c : Code} {g : Gh} {A : Nat → Prop} {r u : Nat → Nat} {qn qt : Nat → Nat} {qv : Nat → Nat → Nat} {od b0 n0 n : Nat} {xs : Nat → Int32} {Q : State → Prop} {cells slots : Nat} (C : Cx p g s m args c cL_law 9 RL A) (hl : l.stackTraces = false) (hX : va_X b0 n0 xs s s.heap) (hbl : b0 < s.heap.size) (hbA : ¬ A b0) (hn0 : n0 ≤ 2048) (hn : 4 * n + 3 < n0) (hc : cells + 1 ≤ room_1.cells ∧ slots + 6 ≤ room_1.slots) (kk : LJ p l e s m args below meth c g A r u qn qt qv od b0 Q 1603 (n + 1) (4 * (n : Int)) (cells + 1) (slots + 6)) : LJ p l e s m args below meth c g A r u qn qt qv od b0 Q 756 n (4 * (n : Int)) cells slots := by
  intro kn kt kv sc ns tx tn pl v pa sd rr rq sv ap nw th rm rd hh o hI
  have hR := hI.2.2.2.1
  have hk := hI.1.1.1
  have hm := rel_ok hR hk
  have hscv := hI.2.2.2.2.2.1.1
  have hsv : sv ≤ 4 := hI.2.2.2.2.2.1.2
  have hns := hI.1.2.2.2.1
  have htn := hI.1.2.2.2.2.1
  have htx := hI.1.2.2.2.2.2
  have r2 := hR.1 2 (by decide)
  have hk2 := hk.1
  have hcA : cells + 1 + 0 ≤ room_1.cells ∧ slots + 6 + 0 ≤ room_1.slots := hc
  have hc0 : cells + 0 ≤ room_1.cells ∧ slots + 0 ≤ room_1.slots := ⟨Nat.le_of_succ_le hc.1, by omega⟩
  have hv1 : cells + 0 ≤ cells + 1 := Nat.le_add_right cells 1
  have hv2 : slots + 0 ≤ slots + 6 := Nat.le_add_right slots 6
  have hw1 : cells + 1 ≤ cells + 1 := Nat.le_refl _
  have hw2 : slots + 6 ≤ slots + 6 := Nat.le_refl _
  obtain ⟨x1, e1⟩ : ∃ x1 : Int, (xs (4 * n + 1)).toInt = x1 := ⟨_, rfl⟩
  have h1 := rngI (xs (4 * n + 1))
  rw [e1] at h1
  obtain ⟨x2, e2⟩ : ∃ x2 : Int, (xs (4 * n + 2)).toInt = x2 := ⟨_, rfl⟩
  have h2 := rngI (xs (4 * n + 2))
  rw [e2] at h2
  obtain ⟨x3, e3⟩ : ∃ x3 : Int, (xs (4 * n + 3)).toInt = x3 := ⟨_, rfl⟩
  have h3 := rngI (xs (4 * n + 3))
  rw [e3] at h3
  have hpF := passVF hR
  by_cases q1 : 0 ≤ x1 ∧ x1 ≤ 1000000
  · by_cases q2 : 0 ≤ x2 ∧ x2 ≤ passF kn
    · by_cases qb : x3 = 0
      · refine j_aload_n C 1 dL_law_756 rfl rfl ?_
        refine j_aload_n C 0 dL_law_757 rfl rfl ?_
        refine j_iload C 4 dL_law_758 rfl ?_
        refine j_iconst C dL_law_760 ?_
        refine j_iadd C dL_law_761 ?_
        refine j_sld C hX hbl hbA (4 * n + 1) (by omega) (by omega) (by omega) e1 dL_law_762 ?_
        refine j_aload_n C 0 dL_law_763 rfl rfl ?_
        refine j_iload C 4 dL_law_764 rfl ?_
        refine j_iconst C dL_law_766 ?_
        refine j_iadd C dL_law_767 ?_
        refine j_sld C hX hbl hbA (4 * n + 2) (by omega) (by omega) (by omega) e2 dL_law_768 ?_
        refine j_aload_n C 0 dL_law_769 rfl rfl ?_
        refine j_iload C 4 dL_law_770 rfl ?_
        refine j_iconst C dL_law_772 ?_
        refine j_iadd C dL_law_773 ?_
        refine j_sld C hX hbl hbA (4 * n + 3) (by omega) (by omega) (by omega) e3 dL_law_774 ?_
        refine j_if_eq (tgt := 782) C (by omega) dL_law_775 (by decide) (fun _ => ?_) (fun h9 => absurd h9 (by omega))
        refine j_iconst C dL_law_782 ?_
        refine j_aload_n C 3 dL_law_783 rfl rfl ?_
        refine j_callSW (As := [.ref (r 0), .int (iI x1), .int (iI x2), .int (iI 0), .ref od]) (rest := []) C yw_L_force qw571 (w_force_0 l g r qn qt qv kn kt kv sc ns tx tn pl od o x1 x2 false hI.1 (by omega) (by omega)) (by decide) rfl dL_law_784 rfl (Nat.le_of_ble_eq_true rfl) hc0 (pfL (wMd g u v pa sd tx rr rq (sv : Int) (tn : Int) th (ap : Int) rm rd (nw : Int) hh)) rfl (fun r9 w9 hq9 => ?_)
        obtain ⟨rfl, kt1, pl1, rfl⟩ := hq9
        refine J.to (L1 := [(0, .ref b0), (1, .ref (r 0)), (2, .ref (u 0)), (3, .ref od), (4, .int (iI (4 * (n : Int))))]) (S1 := [.int (iI 0)]) (ws1 := wLw g r u qn qt qv od kn kt1 kv sc ns tx tn pl1 v pa sd rr rq sv ap nw th rm rd hh (va_up o 0 ((fbn (kn 0 1) false x1 x2.toNat))) tx tn) rfl rfl rfl ?_
        refine J.wide (k := cells + 1) (n := slots + 6) hv1 hv2 ?_
        refine j_istore (L1 := [(5, .int (iI 0)), (0, .ref b0), (1, .ref (r 0)), (2, .ref (u 0)), (3, .ref od), (4, .int (iI (4 * (n : Int))))]) C dL_law_787 (by decide) rfl ?_
        refine j_aload_n C 3 dL_law_789 rfl rfl ?_
        refine j_aload_n C 1 dL_law_790 rfl rfl ?_
        refine j_iload C 5 dL_law_791 rfl ?_
        refine j_iconst C dL_law_793 ?_
        refine j_iadd C dL_law_794 ?_
        refine j_sld C hX hbl hbA (4 * n + 1) (by omega) (by omega) (by omega) e1 dL_law_795 ?_
        refine j_aload_n C 1 dL_law_796 rfl rfl ?_
        refine j_iload C 5 dL_law_797 rfl ?_
        refine j_iconst C dL_law_799 ?_
        refine j_iadd C dL_law_800 ?_
        refine j_sld C hX hbl hbA (4 * n + 2) (by omega) (by omega) (by omega) e2 dL_law_801 ?_
        refine j_aload_n C 1 dL_law_802 rfl rfl ?_
        refine j_iload C 5 dL_law_803 rfl ?_
        refine j_iconst C dL_law_805 ?_
        refine j_iadd C dL_law_806 ?_
        refine j_sld C hX hbl hbA (4 * n + 3) (by omega) (by omega) (by omega) e3 dL_law_807 ?_
        refine j_if_eq (tgt := 815) C (by omega) dL_law_808 (by decide) (fun _ => ?_) (fun h9 => absurd h9 (by omega))
        refine j_iconst C dL_law_815 ?_
        refine j_callV (As := [.int (iI x1), .int (iI x2), .int (iI 0)]) (rest := []) C yv_X5_force qw844 (c_X5_force_ok l g u v pa sd tx rr rq sv (tn : Int) th (ap : Int) rm rd (nw : Int) hh x1 x2 false hm hsv (by omega) (by omega)) (by decide) 0 rfl rfl rfl dL_law_816 rfl (Nat.le_of_ble_eq_true rfl) hcA (pfR ([(u 3, aL g 75 sd), (u 4, aI g 60 tx), (u 5, aI g 10 rr), (u 6, aI g 4 rq)] ++ ((od, aL g 1 (va_up o 0 ((fbn (kn 0 1) false x1 x2.toNat)))) :: wTp g r qn qt qv kn kt1 kv sc ns tx tn pl1))) rfl (fun r9 w9 hq9 => ?_)
        obtain ⟨rfl, rfl⟩ := hq9
        refine J.to (L1 := [(5, .int (iI 0)), (0, .ref b0), (1, .ref (r 0)), (2, .ref (u 0)), (3, .ref od), (4, .int (iI (4 * (n : Int))))]) (S1 := [.long (lI (fbn (v 1) false x1 x2.toNat))]) (ws1 := wLw g r u qn qt qv od kn kt1 kv sc ns tx tn pl1 v pa sd rr rq sv ap nw 0 rm rd hh (va_up o 0 ((fbn (kn 0 1) false x1 x2.toNat))) tx tn) rfl rfl rfl ?_
        refine J.wide (k := (cells + 1)) (n := (slots + 6)) (Nat.le_refl _) (Nat.le_refl _) ?_
        refine j_lstore (L1 := [(6, .long (lI (fbn (v 1) false x1 x2.toNat))), (5, .int (iI 0)), (0, .ref b0), (1, .ref (r 0)), (2, .ref (u 0)), (3, .ref od), (4, .int (iI (4 * (n : Int))))]) C dL_law_819 (by decide) rfl ?_
        refine j_aload_n C 4 dL_law_821 rfl rfl ?_
        refine j_callV (As := []) (rest := []) C yv_X5_thrown qw706 (c_X5_thrown l g u v (sv : Int) (tn : Int) 0 (ap : Int) rm rd (nw : Int) hh) (by decide) 0 rfl rfl rfl dL_law_822 rfl (Nat.le_of_ble_eq_true rfl) hcA (pfR ([(u 1, aL g 75 v), (u 2, aL g 300 pa), (u 3, aL g 75 sd), (u 4, aI g 60 tx), (u 5, aI g 10 rr), (u 6, aI g 4 rq)] ++ ((od, aL g 1 (va_up o 0 ((fbn (kn 0 1) false x1 x2.toNat)))) :: wTp g r qn qt qv kn kt1 kv sc ns tx tn pl1))) rfl (fun r9 w9 hq9 => ?_)
        obtain ⟨rfl, rfl⟩ := hq9
        refine J.to (L1 := [(6, .long (lI (fbn (v 1) false x1 x2.toNat))), (5, .int (iI 0)), (0, .ref b0), (1, .ref (r 0)), (2, .ref (u 0)), (3, .ref od), (4, .int (iI (4 * (n : Int))))]) (S1 := [.int (iI 0)]) (ws1 := wLw g r u qn qt qv od kn kt1 kv sc ns tx tn pl1 v pa sd rr rq sv ap nw 0 rm rd hh (va_up o 0 ((fbn (kn 0 1) false x1 x2.toNat))) tx tn) rfl rfl rfl ?_
        refine J.wide (k := (cells + 1)) (n := (slots + 6)) (Nat.le_refl _) (Nat.le_refl _) ?_
        refine j_iload C 1 dL_law_825 rfl ?_
        refine j_isame (tgt := 832) C rfl dL_law_827 (by decide) ?_
        refine j_iload C 1 dL_law_832 rfl ?_
        refine j_if_ne (tgt := 848) C (by decide) dL_law_834 (by decide) (fun h9 => absurd h9 (by decide)) (fun _ => ?_)
        refine j_aload_n C 5 dL_law_837 rfl rfl ?_
        refine j_iconst C dL_law_838 ?_
        refine j_lald (f := va_up o 0 ((fbn (kn 0 1) false x1 x2.toNat))) C 7 0 rfl rfl (by decide) (by decide) dL_law_839 ?_
        refine J.to (L1 := [(6, .long (lI (fbn (v 1) false x1 x2.toNat))), (5, .int (iI 0)), (0, .ref b0), (1, .ref (r 0)), (2, .ref (u 0)), (3, .ref od), (4, .int (iI (4 * (n : Int))))]) (S1 := [.long (lI ((fbn (kn 0 1) false x1 x2.toNat)))]) (ws1 := wLw g r u qn qt qv od kn kt1 kv sc ns tx tn pl1 v pa sd rr rq sv ap nw 0 rm rd hh (va_up o 0 ((fbn (kn 0 1) false x1 x2.toNat))) tx tn) rfl rfl rfl ?_
        refine j_lload C 0 dL_law_840 rfl ?_
        have heq : ((fbn (kn 0 1) false x1 x2.toNat) : Int) = (fbn (v 1) false x1 x2.toNat) := by rw [hR.1 1 (by decide)]
        refine j_lsame (tgt := 848) C heq dL_law_842 dL_law_843 (by decide) ?_
        refine j_goto (tgt := 1603) C dL_law_848 (by decide) ?_
        refine J.sub (L1 := [(0, .ref b0), (1, .ref (r 0)), (2, .ref (u 0)), (3, .ref od), (4, .int (iI (4 * (n : Int))))]) [2, 3, 4, 5, 6] rfl ?_
        exact kk kn kt1 kv sc ns tx tn pl1 v pa sd rr rq sv ap nw 0 rm rd hh (va_up o 0 ((fbn (kn 0 1) false x1 x2.toNat))) hI.next
      · refine j_aload_n C 1 dL_law_756 rfl rfl ?_
        refine j_aload_n C 0 dL_law_757 rfl rfl ?_
        refine j_iload C 4 dL_law_758 rfl ?_
        refine j_iconst C dL_law_760 ?_
        refine j_iadd C dL_law_761 ?_
        refine j_sld C hX hbl hbA (4 * n + 1) (by omega) (by omega) (by omega) e1 dL_law_762 ?_
        refine j_aload_n C 0 dL_law_763 rfl rfl ?_
        refine j_iload C 4 dL_law_764 rfl ?_
        refine j_iconst C dL_law_766 ?_
        refine j_iadd C dL_law_767 ?_
        refine j_sld C hX hbl hbA (4 * n + 2) (by omega) (by omega) (by omega) e2 dL_law_768 ?_
        refine j_aload_n C 0 dL_law_769 rfl rfl ?_
        refine j_iload C 4 dL_law_770 rfl ?_
        refine j_iconst C dL_law_772 ?_
        refine j_iadd C dL_law_773 ?_
        refine j_sld C hX hbl hbA (4 * n + 3) (by omega) (by omega) (by omega) e3 dL_law_774 ?_
        refine j_if_eq (tgt := 782) C (by omega) dL_law_775 (by decide) (fun h9 => absurd h9 (by omega)) (fun _ => ?_)
        refine j_iconst C dL_law_778 ?_
        refine j_goto (tgt := 783) C dL_law_779 (by decide) ?_
        refine j_aload_n C 3 dL_law_783 rfl rfl ?_
        refine j_callSW (As := [.ref (r 0), .int (iI x1), .int (iI x2), .int (iI 1), .ref od]) (rest := []) C yw_L_force qw571 (w_force_0 l g r qn qt qv kn kt kv sc ns tx tn pl od o x1 x2 true hI.1 (by omega) (by omega)) (by decide) rfl dL_law_784 rfl (Nat.le_of_ble_eq_true rfl) hc0 (pfL (wMd g u v pa sd tx rr rq (sv : Int) (tn : Int) th (ap : Int) rm rd (nw : Int) hh)) rfl (fun r9 w9 hq9 => ?_)
        obtain ⟨rfl, kt1, pl1, rfl⟩ := hq9
        refine J.to (L1 := [(0, .ref b0), (1, .ref (r 0)), (2, .ref (u 0)), (3, .ref od), (4, .int (iI (4 * (n : Int))))]) (S1 := [.int (iI 0)]) (ws1 := wLw g r u qn qt qv od kn kt1 kv sc ns tx tn pl1 v pa sd rr rq sv ap nw th rm rd hh (va_up o 0 ((fbn (kn 0 1) true x1 x2.toNat))) tx tn) rfl rfl rfl ?_
        refine J.wide (k := cells + 1) (n := slots + 6) hv1 hv2 ?_
        refine j_istore (L1 := [(5, .int (iI 0)), (0, .ref b0), (1, .ref (r 0)), (2, .ref (u 0)), (3, .ref od), (4, .int (iI (4 * (n : Int))))]) C dL_law_787 (by decide) rfl ?_
        refine j_aload_n C 3 dL_law_789 rfl rfl ?_
        refine j_aload_n C 1 dL_law_790 rfl rfl ?_
        refine j_iload C 5 dL_law_791 rfl ?_
        refine j_iconst C dL_law_793 ?_
        refine j_iadd C dL_law_794 ?_
        refine j_sld C hX hbl hbA (4 * n + 1) (by omega) (by omega) (by omega) e1 dL_law_795 ?_
        refine j_aload_n C 1 dL_law_796 rfl rfl ?_
        refine j_iload C 5 dL_law_797 rfl ?_
        refine j_iconst C dL_law_799 ?_
        refine j_iadd C dL_law_800 ?_
        refine j_sld C hX hbl hbA (4 * n + 2) (by omega) (by omega) (by omega) e2 dL_law_801 ?_
        refine j_aload_n C 1 dL_law_802 rfl rfl ?_
        refine j_iload C 5 dL_law_803 rfl ?_
        refine j_iconst C dL_law_805 ?_
        refine j_iadd C dL_law_806 ?_
        refine j_sld C hX hbl hbA (4 * n + 3) (by omega) (by omega) (by omega) e3 dL_law_807 ?_
        refine j_if_eq (tgt := 815) C (by omega) dL_law_808 (by decide) (fun h9 => absurd h9 (by omega)) (fun _ => ?_)
        refine j_iconst C dL_law_811 ?_
        refine j_goto (tgt := 816) C dL_law_812 (by decide) ?_
        refine j_callV (As := [.int (iI x1), .int (iI x2), .int (iI 1)]) (rest := []) C yv_X5_force qw844 (c_X5_force_ok l g u v pa sd tx rr rq sv (tn : Int) th (ap : Int) rm rd (nw : Int) hh x1 x2 true hm hsv (by omega) (by omega)) (by decide) 0 rfl rfl rfl dL_law_816 rfl (Nat.le_of_ble_eq_true rfl) hcA (pfR ([(u 3, aL g 75 sd), (u 4, aI g 60 tx), (u 5, aI g 10 rr), (u 6, aI g 4 rq)] ++ ((od, aL g 1 (va_up o 0 ((fbn (kn 0 1) true x1 x2.toNat)))) :: wTp g r qn qt qv kn kt1 kv sc ns tx tn pl1))) rfl (fun r9 w9 hq9 => ?_)
        obtain ⟨rfl, rfl⟩ := hq9
        refine J.to (L1 := [(5, .int (iI 0)), (0, .ref b0), (1, .ref (r 0)), (2, .ref (u 0)), (3, .ref od), (4, .int (iI (4 * (n : Int))))]) (S1 := [.long (lI (fbn (v 1) true x1 x2.toNat))]) (ws1 := wLw g r u qn qt qv od kn kt1 kv sc ns tx tn pl1 v pa sd rr rq sv ap nw 0 rm rd hh (va_up o 0 ((fbn (kn 0 1) true x1 x2.toNat))) tx tn) rfl rfl rfl ?_
        refine J.wide (k := (cells + 1)) (n := (slots + 6)) (Nat.le_refl _) (Nat.le_refl _) ?_
        refine j_lstore (L1 := [(6, .long (lI (fbn (v 1) true x1 x2.toNat))), (5, .int (iI 0)), (0, .ref b0), (1, .ref (r 0)), (2, .ref (u 0)), (3, .ref od), (4, .int (iI (4 * (n : Int))))]) C dL_law_819 (by decide) rfl ?_
        refine j_aload_n C 4 dL_law_821 rfl rfl ?_
        refine j_callV (As := []) (rest := []) C yv_X5_thrown qw706 (c_X5_thrown l g u v (sv : Int) (tn : Int) 0 (ap : Int) rm rd (nw : Int) hh) (by decide) 0 rfl rfl rfl dL_law_822 rfl (Nat.le_of_ble_eq_true rfl) hcA (pfR ([(u 1, aL g 75 v), (u 2, aL g 300 pa), (u 3, aL g 75 sd), (u 4, aI g 60 tx), (u 5, aI g 10 rr), (u 6, aI g 4 rq)] ++ ((od, aL g 1 (va_up o 0 ((fbn (kn 0 1) true x1 x2.toNat)))) :: wTp g r qn qt qv kn kt1 kv sc ns tx tn pl1))) rfl (fun r9 w9 hq9 => ?_)
        obtain ⟨rfl, rfl⟩ := hq9
        refine J.to (L1 := [(6, .long (lI (fbn (v 1) true x1 x2.toNat))), (5, .int (iI 0)), (0, .ref b0), (1, .ref (r 0)), (2, .ref (u 0)), (3, .ref od), (4, .int (iI (4 * (n : Int))))]) (S1 := [.int (iI 0)]) (ws1 := wLw g r u qn qt qv od kn kt1 kv sc ns tx tn pl1 v pa sd rr rq sv ap nw 0 rm rd hh (va_up o 0 ((fbn (kn 0 1) true x1 x2.toNat))) tx tn) rfl rfl rfl ?_
        refine J.wide (k := (cells + 1)) (n := (slots + 6)) (Nat.le_refl _) (Nat.le_refl _) ?_
        refine j_iload C 1 dL_law_825 rfl ?_
        refine j_isame (tgt := 832) C rfl dL_law_827 (by decide) ?_
        refine j_iload C 1 dL_law_832 rfl ?_
        refine j_if_ne (tgt := 848) C (by decide) dL_law_834 (by decide) (fun h9 => absurd h9 (by decide)) (fun _ => ?_)
        refine j_aload_n C 5 dL_law_837 rfl rfl ?_
        refine j_iconst C dL_law_838 ?_
        refine j_lald (f := va_up o 0 ((fbn (kn 0 1) true x1 x2.toNat))) C 7 0 rfl rfl (by decide) (by decide) dL_law_839 ?_
        refine J.to (L1 := [(6, .long (lI (fbn (v 1) true x1 x2.toNat))), (5, .int (iI 0)), (0, .ref b0), (1, .ref (r 0)), (2, .ref (u 0)), (3, .ref od), (4, .int (iI (4 * (n : Int))))]) (S1 := [.long (lI ((fbn (kn 0 1) true x1 x2.toNat)))]) (ws1 := wLw g r u qn qt qv od kn kt1 kv sc ns tx tn pl1 v pa sd rr rq sv ap nw 0 rm rd hh (va_up o 0 ((fbn (kn 0 1) true x1 x2.toNat))) tx tn) rfl rfl rfl ?_
        refine j_lload C 0 dL_law_840 rfl ?_
        have heq : ((fbn (kn 0 1) true x1 x2.toNat) : Int) = (fbn (v 1) true x1 x2.toNat) := by rw [hR.1 1 (by decide)]
        refine j_lsame (tgt := 848) C heq dL_law_842 dL_law_843 (by decide) ?_
        refine j_goto (tgt := 1603) C dL_law_848 (by decide) ?_
        refine J.sub (L1 := [(0, .ref b0), (1, .ref (r 0)), (2, .ref (u 0)), (3, .ref od), (4, .int (iI (4 * (n : Int))))]) [2, 3, 4, 5, 6] rfl ?_
        exact kk kn kt1 kv sc ns tx tn pl1 v pa sd rr rq sv ap nw 0 rm rd hh (va_up o 0 ((fbn (kn 0 1) true x1 x2.toNat))) hI.next
    · by_cases qb : x3 = 0
      · refine j_aload_n C 1 dL_law_756 rfl rfl ?_
        refine j_aload_n C 0 dL_law_757 rfl rfl ?_
        refine j_iload C 4 dL_law_758 rfl ?_
        refine j_iconst C dL_law_760 ?_
        refine j_iadd C dL_law_761 ?_
        refine j_sld C hX hbl hbA (4 * n + 1) (by omega) (by omega) (by omega) e1 dL_law_762 ?_
        refine j_aload_n C 0 dL_law_763 rfl rfl ?_
        refine j_iload C 4 dL_law_764 rfl ?_
        refine j_iconst C dL_law_766 ?_
        refine j_iadd C dL_law_767 ?_
        refine j_sld C hX hbl hbA (4 * n + 2) (by omega) (by omega) (by omega) e2 dL_law_768 ?_
        refine j_aload_n C 0 dL_law_769 rfl rfl ?_
        refine j_iload C 4 dL_law_770 rfl ?_
        refine j_iconst C dL_law_772 ?_
        refine j_iadd C dL_law_773 ?_
        refine j_sld C hX hbl hbA (4 * n + 3) (by omega) (by omega) (by omega) e3 dL_law_774 ?_
        refine j_if_eq (tgt := 782) C (by omega) dL_law_775 (by decide) (fun _ => ?_) (fun h9 => absurd h9 (by omega))
        refine j_iconst C dL_law_782 ?_
        refine j_aload_n C 3 dL_law_783 rfl rfl ?_
        refine j_callSW (As := [.ref (r 0), .int (iI x1), .int (iI x2), .int (iI 0), .ref od]) (rest := []) C yw_L_force qw571 (w_force_1b l hl g r qn qt qv kn kt kv sc ns tx tn pl od o x1 x2 false hI.1 (by omega) (by omega) (by omega) (by omega)) (by decide) rfl dL_law_784 rfl (Nat.le_of_ble_eq_true rfl) hc (pfL (wMd g u v pa sd tx rr rq (sv : Int) (tn : Int) th (ap : Int) rm rd (nw : Int) hh)) rfl (fun r9 w9 hq9 => ?_)
        obtain ⟨rfl, kt1, pl1, rfl⟩ := hq9
        refine J.to (L1 := [(0, .ref b0), (1, .ref (r 0)), (2, .ref (u 0)), (3, .ref od), (4, .int (iI (4 * (n : Int))))]) (S1 := [.int (iI 1)]) (ws1 := wLw g r u qn qt qv od kn kt1 kv sc ns tx tn pl1 v pa sd rr rq sv ap nw th rm rd hh o tx tn) rfl rfl rfl ?_
        refine J.wide (k := cells + 1) (n := slots + 6) hw1 hw2 ?_
        refine j_istore (L1 := [(5, .int (iI 1)), (0, .ref b0), (1, .ref (r 0)), (2, .ref (u 0)), (3, .ref od), (4, .int (iI (4 * (n : Int))))]) C dL_law_787 (by decide) rfl ?_
        refine j_aload_n C 3 dL_law_789 rfl rfl ?_
        refine j_aload_n C 1 dL_law_790 rfl rfl ?_
        refine j_iload C 5 dL_law_791 rfl ?_
        refine j_iconst C dL_law_793 ?_
        refine j_iadd C dL_law_794 ?_
        refine j_sld C hX hbl hbA (4 * n + 1) (by omega) (by omega) (by omega) e1 dL_law_795 ?_
        refine j_aload_n C 1 dL_law_796 rfl rfl ?_
        refine j_iload C 5 dL_law_797 rfl ?_
        refine j_iconst C dL_law_799 ?_
        refine j_iadd C dL_law_800 ?_
        refine j_sld C hX hbl hbA (4 * n + 2) (by omega) (by omega) (by omega) e2 dL_law_801 ?_
        refine j_aload_n C 1 dL_law_802 rfl rfl ?_
        refine j_iload C 5 dL_law_803 rfl ?_
        refine j_iconst C dL_law_805 ?_
        refine j_iadd C dL_law_806 ?_
        refine j_sld C hX hbl hbA (4 * n + 3) (by omega) (by omega) (by omega) e3 dL_law_807 ?_
        refine j_if_eq (tgt := 815) C (by omega) dL_law_808 (by decide) (fun _ => ?_) (fun h9 => absurd h9 (by omega))
        refine j_iconst C dL_law_815 ?_
        refine j_callV (As := [.int (iI x1), .int (iI x2), .int (iI 0)]) (rest := []) C yv_X5_force qw844 (c_X5_force_n2 l g u v pa sd tx rr rq sv (tn : Int) th (ap : Int) rm rd (nw : Int) hh x1 x2 false hm hsv (by omega) (by omega) (by omega) (by omega)) (by decide) 0 rfl rfl rfl dL_law_816 rfl (Nat.le_of_ble_eq_true rfl) hcA (pfR ([(u 3, aL g 75 sd), (u 4, aI g 60 tx), (u 5, aI g 10 rr), (u 6, aI g 4 rq)] ++ ((od, aL g 1 (o)) :: wTp g r qn qt qv kn kt1 kv sc ns tx tn pl1))) rfl (fun r9 w9 hq9 => ?_)
        obtain ⟨rfl, rfl⟩ := hq9
        refine J.to (L1 := [(5, .int (iI 1)), (0, .ref b0), (1, .ref (r 0)), (2, .ref (u 0)), (3, .ref od), (4, .int (iI (4 * (n : Int))))]) (S1 := [.long (lI 0)]) (ws1 := wLw g r u qn qt qv od kn kt1 kv sc ns tx tn pl1 v pa sd rr rq sv ap nw 1 rm rd hh o tx tn) rfl rfl rfl ?_
        refine J.wide (k := (cells + 1)) (n := (slots + 6)) (Nat.le_refl _) (Nat.le_refl _) ?_
        refine j_lstore (L1 := [(6, .long (lI 0)), (5, .int (iI 1)), (0, .ref b0), (1, .ref (r 0)), (2, .ref (u 0)), (3, .ref od), (4, .int (iI (4 * (n : Int))))]) C dL_law_819 (by decide) rfl ?_
        refine j_aload_n C 4 dL_law_821 rfl rfl ?_
        refine j_callV (As := []) (rest := []) C yv_X5_thrown qw706 (c_X5_thrown l g u v (sv : Int) (tn : Int) 1 (ap : Int) rm rd (nw : Int) hh) (by decide) 0 rfl rfl rfl dL_law_822 rfl (Nat.le_of_ble_eq_true rfl) hcA (pfR ([(u 1, aL g 75 v), (u 2, aL g 300 pa), (u 3, aL g 75 sd), (u 4, aI g 60 tx), (u 5, aI g 10 rr), (u 6, aI g 4 rq)] ++ ((od, aL g 1 (o)) :: wTp g r qn qt qv kn kt1 kv sc ns tx tn pl1))) rfl (fun r9 w9 hq9 => ?_)
        obtain ⟨rfl, rfl⟩ := hq9
        refine J.to (L1 := [(6, .long (lI 0)), (5, .int (iI 1)), (0, .ref b0), (1, .ref (r 0)), (2, .ref (u 0)), (3, .ref od), (4, .int (iI (4 * (n : Int))))]) (S1 := [.int (iI 1)]) (ws1 := wLw g r u qn qt qv od kn kt1 kv sc ns tx tn pl1 v pa sd rr rq sv ap nw 1 rm rd hh o tx tn) rfl rfl rfl ?_
        refine J.wide (k := (cells + 1)) (n := (slots + 6)) (Nat.le_refl _) (Nat.le_refl _) ?_
        refine j_iload C 1 dL_law_825 rfl ?_
        refine j_isame (tgt := 832) C rfl dL_law_827 (by decide) ?_
        refine j_iload C 1 dL_law_832 rfl ?_
        refine j_if_ne (tgt := 848) C (by decide) dL_law_834 (by decide) (fun _ => ?_) (fun h9 => absurd h9 (by decide))
        refine j_goto (tgt := 1603) C dL_law_848 (by decide) ?_
        refine J.sub (L1 := [(0, .ref b0), (1, .ref (r 0)), (2, .ref (u 0)), (3, .ref od), (4, .int (iI (4 * (n : Int))))]) [2, 3, 4, 5, 6] rfl ?_
        exact kk kn kt1 kv sc ns tx tn pl1 v pa sd rr rq sv ap nw 1 rm rd hh o hI.next
      · refine j_aload_n C 1 dL_law_756 rfl rfl ?_
        refine j_aload_n C 0 dL_law_757 rfl rfl ?_
        refine j_iload C 4 dL_law_758 rfl ?_
        refine j_iconst C dL_law_760 ?_
        refine j_iadd C dL_law_761 ?_
        refine j_sld C hX hbl hbA (4 * n + 1) (by omega) (by omega) (by omega) e1 dL_law_762 ?_
        refine j_aload_n C 0 dL_law_763 rfl rfl ?_
        refine j_iload C 4 dL_law_764 rfl ?_
        refine j_iconst C dL_law_766 ?_
        refine j_iadd C dL_law_767 ?_
        refine j_sld C hX hbl hbA (4 * n + 2) (by omega) (by omega) (by omega) e2 dL_law_768 ?_
        refine j_aload_n C 0 dL_law_769 rfl rfl ?_
        refine j_iload C 4 dL_law_770 rfl ?_
        refine j_iconst C dL_law_772 ?_
        refine j_iadd C dL_law_773 ?_
        refine j_sld C hX hbl hbA (4 * n + 3) (by omega) (by omega) (by omega) e3 dL_law_774 ?_
        refine j_if_eq (tgt := 782) C (by omega) dL_law_775 (by decide) (fun h9 => absurd h9 (by omega)) (fun _ => ?_)
        refine j_iconst C dL_law_778 ?_
        refine j_goto (tgt := 783) C dL_law_779 (by decide) ?_
        refine j_aload_n C 3 dL_law_783 rfl rfl ?_
        refine j_callSW (As := [.ref (r 0), .int (iI x1), .int (iI x2), .int (iI 1), .ref od]) (rest := []) C yw_L_force qw571 (w_force_1b l hl g r qn qt qv kn kt kv sc ns tx tn pl od o x1 x2 true hI.1 (by omega) (by omega) (by omega) (by omega)) (by decide) rfl dL_law_784 rfl (Nat.le_of_ble_eq_true rfl) hc (pfL (wMd g u v pa sd tx rr rq (sv : Int) (tn : Int) th (ap : Int) rm rd (nw : Int) hh)) rfl (fun r9 w9 hq9 => ?_)
        obtain ⟨rfl, kt1, pl1, rfl⟩ := hq9
        refine J.to (L1 := [(0, .ref b0), (1, .ref (r 0)), (2, .ref (u 0)), (3, .ref od), (4, .int (iI (4 * (n : Int))))]) (S1 := [.int (iI 1)]) (ws1 := wLw g r u qn qt qv od kn kt1 kv sc ns tx tn pl1 v pa sd rr rq sv ap nw th rm rd hh o tx tn) rfl rfl rfl ?_
        refine J.wide (k := cells + 1) (n := slots + 6) hw1 hw2 ?_
        refine j_istore (L1 := [(5, .int (iI 1)), (0, .ref b0), (1, .ref (r 0)), (2, .ref (u 0)), (3, .ref od), (4, .int (iI (4 * (n : Int))))]) C dL_law_787 (by decide) rfl ?_
        refine j_aload_n C 3 dL_law_789 rfl rfl ?_
        refine j_aload_n C 1 dL_law_790 rfl rfl ?_
        refine j_iload C 5 dL_law_791 rfl ?_
        refine j_iconst C dL_law_793 ?_
        refine j_iadd C dL_law_794 ?_
        refine j_sld C hX hbl hbA (4 * n + 1) (by omega) (by omega) (by omega) e1 dL_law_795 ?_
        refine j_aload_n C 1 dL_law_796 rfl rfl ?_
        refine j_iload C 5 dL_law_797 rfl ?_
        refine j_iconst C dL_law_799 ?_
        refine j_iadd C dL_law_800 ?_
        refine j_sld C hX hbl hbA (4 * n + 2) (by omega) (by omega) (by omega) e2 dL_law_801 ?_
        refine j_aload_n C 1 dL_law_802 rfl rfl ?_
        refine j_iload C 5 dL_law_803 rfl ?_
        refine j_iconst C dL_law_805 ?_
        refine j_iadd C dL_law_806 ?_
        refine j_sld C hX hbl hbA (4 * n + 3) (by omega) (by omega) (by omega) e3 dL_law_807 ?_
        refine j_if_eq (tgt := 815) C (by omega) dL_law_808 (by decide) (fun h9 => absurd h9 (by omega)) (fun _ => ?_)
        refine j_iconst C dL_law_811 ?_
        refine j_goto (tgt := 816) C dL_law_812 (by decide) ?_
        refine j_callV (As := [.int (iI x1), .int (iI x2), .int (iI 1)]) (rest := []) C yv_X5_force qw844 (c_X5_force_n2 l g u v pa sd tx rr rq sv (tn : Int) th (ap : Int) rm rd (nw : Int) hh x1 x2 true hm hsv (by omega) (by omega) (by omega) (by omega)) (by decide) 0 rfl rfl rfl dL_law_816 rfl (Nat.le_of_ble_eq_true rfl) hcA (pfR ([(u 3, aL g 75 sd), (u 4, aI g 60 tx), (u 5, aI g 10 rr), (u 6, aI g 4 rq)] ++ ((od, aL g 1 (o)) :: wTp g r qn qt qv kn kt1 kv sc ns tx tn pl1))) rfl (fun r9 w9 hq9 => ?_)
        obtain ⟨rfl, rfl⟩ := hq9
        refine J.to (L1 := [(5, .int (iI 1)), (0, .ref b0), (1, .ref (r 0)), (2, .ref (u 0)), (3, .ref od), (4, .int (iI (4 * (n : Int))))]) (S1 := [.long (lI 0)]) (ws1 := wLw g r u qn qt qv od kn kt1 kv sc ns tx tn pl1 v pa sd rr rq sv ap nw 1 rm rd hh o tx tn) rfl rfl rfl ?_
        refine J.wide (k := (cells + 1)) (n := (slots + 6)) (Nat.le_refl _) (Nat.le_refl _) ?_
        refine j_lstore (L1 := [(6, .long (lI 0)), (5, .int (iI 1)), (0, .ref b0), (1, .ref (r 0)), (2, .ref (u 0)), (3, .ref od), (4, .int (iI (4 * (n : Int))))]) C dL_law_819 (by decide) rfl ?_
        refine j_aload_n C 4 dL_law_821 rfl rfl ?_
        refine j_callV (As := []) (rest := []) C yv_X5_thrown qw706 (c_X5_thrown l g u v (sv : Int) (tn : Int) 1 (ap : Int) rm rd (nw : Int) hh) (by decide) 0 rfl rfl rfl dL_law_822 rfl (Nat.le_of_ble_eq_true rfl) hcA (pfR ([(u 1, aL g 75 v), (u 2, aL g 300 pa), (u 3, aL g 75 sd), (u 4, aI g 60 tx), (u 5, aI g 10 rr), (u 6, aI g 4 rq)] ++ ((od, aL g 1 (o)) :: wTp g r qn qt qv kn kt1 kv sc ns tx tn pl1))) rfl (fun r9 w9 hq9 => ?_)
        obtain ⟨rfl, rfl⟩ := hq9
        refine J.to (L1 := [(6, .long (lI 0)), (5, .int (iI 1)), (0, .ref b0), (1, .ref (r 0)), (2, .ref (u 0)), (3, .ref od), (4, .int (iI (4 * (n : Int))))]) (S1 := [.int (iI 1)]) (ws1 := wLw g r u qn qt qv od kn kt1 kv sc ns tx tn pl1 v pa sd rr rq sv ap nw 1 rm rd hh o tx tn) rfl rfl rfl ?_
        refine J.wide (k := (cells + 1)) (n := (slots + 6)) (Nat.le_refl _) (Nat.le_refl _) ?_
        refine j_iload C 1 dL_law_825 rfl ?_
        refine j_isame (tgt := 832) C rfl dL_law_827 (by decide) ?_
        refine j_iload C 1 dL_law_832 rfl ?_
        refine j_if_ne (tgt := 848) C (by decide) dL_law_834 (by decide) (fun _ => ?_) (fun h9 => absurd h9 (by decide))
        refine j_goto (tgt := 1603) C dL_law_848 (by decide) ?_
        refine J.sub (L1 := [(0, .ref b0), (1, .ref (r 0)), (2, .ref (u 0)), (3, .ref od), (4, .int (iI (4 * (n : Int))))]) [2, 3, 4, 5, 6] rfl ?_
        exact kk kn kt1 kv sc ns tx tn pl1 v pa sd rr rq sv ap nw 1 rm rd hh o hI.next
  · by_cases qb : x3 = 0
    · refine j_aload_n C 1 dL_law_756 rfl rfl ?_
      refine j_aload_n C 0 dL_law_757 rfl rfl ?_
      refine j_iload C 4 dL_law_758 rfl ?_
      refine j_iconst C dL_law_760 ?_
      refine j_iadd C dL_law_761 ?_
      refine j_sld C hX hbl hbA (4 * n + 1) (by omega) (by omega) (by omega) e1 dL_law_762 ?_
      refine j_aload_n C 0 dL_law_763 rfl rfl ?_
      refine j_iload C 4 dL_law_764 rfl ?_
      refine j_iconst C dL_law_766 ?_
      refine j_iadd C dL_law_767 ?_
      refine j_sld C hX hbl hbA (4 * n + 2) (by omega) (by omega) (by omega) e2 dL_law_768 ?_
      refine j_aload_n C 0 dL_law_769 rfl rfl ?_
      refine j_iload C 4 dL_law_770 rfl ?_
      refine j_iconst C dL_law_772 ?_
      refine j_iadd C dL_law_773 ?_
      refine j_sld C hX hbl hbA (4 * n + 3) (by omega) (by omega) (by omega) e3 dL_law_774 ?_
      refine j_if_eq (tgt := 782) C (by omega) dL_law_775 (by decide) (fun _ => ?_) (fun h9 => absurd h9 (by omega))
      refine j_iconst C dL_law_782 ?_
      refine j_aload_n C 3 dL_law_783 rfl rfl ?_
      refine j_callSW (As := [.ref (r 0), .int (iI x1), .int (iI x2), .int (iI 0), .ref od]) (rest := []) C yw_L_force qw571 (w_force_1 l hl g r qn qt qv kn kt kv sc ns tx tn pl od o x1 x2 false hI.1 (by omega) (by omega) (by omega)) (by decide) rfl dL_law_784 rfl (Nat.le_of_ble_eq_true rfl) hc (pfL (wMd g u v pa sd tx rr rq (sv : Int) (tn : Int) th (ap : Int) rm rd (nw : Int) hh)) rfl (fun r9 w9 hq9 => ?_)
      obtain ⟨rfl, kt1, pl1, rfl⟩ := hq9
      refine J.to (L1 := [(0, .ref b0), (1, .ref (r 0)), (2, .ref (u 0)), (3, .ref od), (4, .int (iI (4 * (n : Int))))]) (S1 := [.int (iI 1)]) (ws1 := wLw g r u qn qt qv od kn kt1 kv sc ns tx tn pl1 v pa sd rr rq sv ap nw th rm rd hh o tx tn) rfl rfl rfl ?_
      refine J.wide (k := cells + 1) (n := slots + 6) hw1 hw2 ?_
      refine j_istore (L1 := [(5, .int (iI 1)), (0, .ref b0), (1, .ref (r 0)), (2, .ref (u 0)), (3, .ref od), (4, .int (iI (4 * (n : Int))))]) C dL_law_787 (by decide) rfl ?_
      refine j_aload_n C 3 dL_law_789 rfl rfl ?_
      refine j_aload_n C 1 dL_law_790 rfl rfl ?_
      refine j_iload C 5 dL_law_791 rfl ?_
      refine j_iconst C dL_law_793 ?_
      refine j_iadd C dL_law_794 ?_
      refine j_sld C hX hbl hbA (4 * n + 1) (by omega) (by omega) (by omega) e1 dL_law_795 ?_
      refine j_aload_n C 1 dL_law_796 rfl rfl ?_
      refine j_iload C 5 dL_law_797 rfl ?_
      refine j_iconst C dL_law_799 ?_
      refine j_iadd C dL_law_800 ?_
      refine j_sld C hX hbl hbA (4 * n + 2) (by omega) (by omega) (by omega) e2 dL_law_801 ?_
      refine j_aload_n C 1 dL_law_802 rfl rfl ?_
      refine j_iload C 5 dL_law_803 rfl ?_
      refine j_iconst C dL_law_805 ?_
      refine j_iadd C dL_law_806 ?_
      refine j_sld C hX hbl hbA (4 * n + 3) (by omega) (by omega) (by omega) e3 dL_law_807 ?_
      refine j_if_eq (tgt := 815) C (by omega) dL_law_808 (by decide) (fun _ => ?_) (fun h9 => absurd h9 (by omega))
      refine j_iconst C dL_law_815 ?_
      refine j_callV (As := [.int (iI x1), .int (iI x2), .int (iI 0)]) (rest := []) C yv_X5_force qw844 (c_X5_force_n1 l g u v pa sd tx rr rq sv (tn : Int) th (ap : Int) rm rd (nw : Int) hh x1 x2 false hm hsv (by omega) (by omega) (by omega)) (by decide) 0 rfl rfl rfl dL_law_816 rfl (Nat.le_of_ble_eq_true rfl) hcA (pfR ([(u 3, aL g 75 sd), (u 4, aI g 60 tx), (u 5, aI g 10 rr), (u 6, aI g 4 rq)] ++ ((od, aL g 1 (o)) :: wTp g r qn qt qv kn kt1 kv sc ns tx tn pl1))) rfl (fun r9 w9 hq9 => ?_)
      obtain ⟨rfl, rfl⟩ := hq9
      refine J.to (L1 := [(5, .int (iI 1)), (0, .ref b0), (1, .ref (r 0)), (2, .ref (u 0)), (3, .ref od), (4, .int (iI (4 * (n : Int))))]) (S1 := [.long (lI 0)]) (ws1 := wLw g r u qn qt qv od kn kt1 kv sc ns tx tn pl1 v pa sd rr rq sv ap nw 1 rm rd hh o tx tn) rfl rfl rfl ?_
      refine J.wide (k := (cells + 1)) (n := (slots + 6)) (Nat.le_refl _) (Nat.le_refl _) ?_
      refine j_lstore (L1 := [(6, .long (lI 0)), (5, .int (iI 1)), (0, .ref b0), (1, .ref (r 0)), (2, .ref (u 0)), (3, .ref od), (4, .int (iI (4 * (n : Int))))]) C dL_law_819 (by decide) rfl ?_
      refine j_aload_n C 4 dL_law_821 rfl rfl ?_
      refine j_callV (As := []) (rest := []) C yv_X5_thrown qw706 (c_X5_thrown l g u v (sv : Int) (tn : Int) 1 (ap : Int) rm rd (nw : Int) hh) (by decide) 0 rfl rfl rfl dL_law_822 rfl (Nat.le_of_ble_eq_true rfl) hcA (pfR ([(u 1, aL g 75 v), (u 2, aL g 300 pa), (u 3, aL g 75 sd), (u 4, aI g 60 tx), (u 5, aI g 10 rr), (u 6, aI g 4 rq)] ++ ((od, aL g 1 (o)) :: wTp g r qn qt qv kn kt1 kv sc ns tx tn pl1))) rfl (fun r9 w9 hq9 => ?_)
      obtain ⟨rfl, rfl⟩ := hq9
      refine J.to (L1 := [(6, .long (lI 0)), (5, .int (iI 1)), (0, .ref b0), (1, .ref (r 0)), (2, .ref (u 0)), (3, .ref od), (4, .int (iI (4 * (n : Int))))]) (S1 := [.int (iI 1)]) (ws1 := wLw g r u qn qt qv od kn kt1 kv sc ns tx tn pl1 v pa sd rr rq sv ap nw 1 rm rd hh o tx tn) rfl rfl rfl ?_
      refine J.wide (k := (cells + 1)) (n := (slots + 6)) (Nat.le_refl _) (Nat.le_refl _) ?_
      refine j_iload C 1 dL_law_825 rfl ?_
      refine j_isame (tgt := 832) C rfl dL_law_827 (by decide) ?_
      refine j_iload C 1 dL_law_832 rfl ?_
      refine j_if_ne (tgt := 848) C (by decide) dL_law_834 (by decide) (fun _ => ?_) (fun h9 => absurd h9 (by decide))
      refine j_goto (tgt := 1603) C dL_law_848 (by decide) ?_
      refine J.sub (L1 := [(0, .ref b0), (1, .ref (r 0)), (2, .ref (u 0)), (3, .ref od), (4, .int (iI (4 * (n : Int))))]) [2, 3, 4, 5, 6] rfl ?_
      exact kk kn kt1 kv sc ns tx tn pl1 v pa sd rr rq sv ap nw 1 rm rd hh o hI.next
    · refine j_aload_n C 1 dL_law_756 rfl rfl ?_
      refine j_aload_n C 0 dL_law_757 rfl rfl ?_
      refine j_iload C 4 dL_law_758 rfl ?_
      refine j_iconst C dL_law_760 ?_
      refine j_iadd C dL_law_761 ?_
      refine j_sld C hX hbl hbA (4 * n + 1) (by omega) (by omega) (by omega) e1 dL_law_762 ?_
      refine j_aload_n C 0 dL_law_763 rfl rfl ?_
      refine j_iload C 4 dL_law_764 rfl ?_
      refine j_iconst C dL_law_766 ?_
      refine j_iadd C dL_law_767 ?_
      refine j_sld C hX hbl hbA (4 * n + 2) (by omega) (by omega) (by omega) e2 dL_law_768 ?_
      refine j_aload_n C 0 dL_law_769 rfl rfl ?_
      refine j_iload C 4 dL_law_770 rfl ?_
      refine j_iconst C dL_law_772 ?_
      refine j_iadd C dL_law_773 ?_
      refine j_sld C hX hbl hbA (4 * n + 3) (by omega) (by omega) (by omega) e3 dL_law_774 ?_
      refine j_if_eq (tgt := 782) C (by omega) dL_law_775 (by decide) (fun h9 => absurd h9 (by omega)) (fun _ => ?_)
      refine j_iconst C dL_law_778 ?_
      refine j_goto (tgt := 783) C dL_law_779 (by decide) ?_
      refine j_aload_n C 3 dL_law_783 rfl rfl ?_
      refine j_callSW (As := [.ref (r 0), .int (iI x1), .int (iI x2), .int (iI 1), .ref od]) (rest := []) C yw_L_force qw571 (w_force_1 l hl g r qn qt qv kn kt kv sc ns tx tn pl od o x1 x2 true hI.1 (by omega) (by omega) (by omega)) (by decide) rfl dL_law_784 rfl (Nat.le_of_ble_eq_true rfl) hc (pfL (wMd g u v pa sd tx rr rq (sv : Int) (tn : Int) th (ap : Int) rm rd (nw : Int) hh)) rfl (fun r9 w9 hq9 => ?_)
      obtain ⟨rfl, kt1, pl1, rfl⟩ := hq9
      refine J.to (L1 := [(0, .ref b0), (1, .ref (r 0)), (2, .ref (u 0)), (3, .ref od), (4, .int (iI (4 * (n : Int))))]) (S1 := [.int (iI 1)]) (ws1 := wLw g r u qn qt qv od kn kt1 kv sc ns tx tn pl1 v pa sd rr rq sv ap nw th rm rd hh o tx tn) rfl rfl rfl ?_
      refine J.wide (k := cells + 1) (n := slots + 6) hw1 hw2 ?_
      refine j_istore (L1 := [(5, .int (iI 1)), (0, .ref b0), (1, .ref (r 0)), (2, .ref (u 0)), (3, .ref od), (4, .int (iI (4 * (n : Int))))]) C dL_law_787 (by decide) rfl ?_
      refine j_aload_n C 3 dL_law_789 rfl rfl ?_
      refine j_aload_n C 1 dL_law_790 rfl rfl ?_
      refine j_iload C 5 dL_law_791 rfl ?_
      refine j_iconst C dL_law_793 ?_
      refine j_iadd C dL_law_794 ?_
      refine j_sld C hX hbl hbA (4 * n + 1) (by omega) (by omega) (by omega) e1 dL_law_795 ?_
      refine j_aload_n C 1 dL_law_796 rfl rfl ?_
      refine j_iload C 5 dL_law_797 rfl ?_
      refine j_iconst C dL_law_799 ?_
      refine j_iadd C dL_law_800 ?_
      refine j_sld C hX hbl hbA (4 * n + 2) (by omega) (by omega) (by omega) e2 dL_law_801 ?_
      refine j_aload_n C 1 dL_law_802 rfl rfl ?_
      refine j_iload C 5 dL_law_803 rfl ?_
      refine j_iconst C dL_law_805 ?_
      refine j_iadd C dL_law_806 ?_
      refine j_sld C hX hbl hbA (4 * n + 3) (by omega) (by omega) (by omega) e3 dL_law_807 ?_
      refine j_if_eq (tgt := 815) C (by omega) dL_law_808 (by decide) (fun h9 => absurd h9 (by omega)) (fun _ => ?_)
      refine j_iconst C dL_law_811 ?_
      refine j_goto (tgt := 816) C dL_law_812 (by decide) ?_
      refine j_callV (As := [.int (iI x1), .int (iI x2), .int (iI 1)]) (rest := []) C yv_X5_force qw844 (c_X5_force_n1 l g u v pa sd tx rr rq sv (tn : Int) th (ap : Int) rm rd (nw : Int) hh x1 x2 true hm hsv (by omega) (by omega) (by omega)) (by decide) 0 rfl rfl rfl dL_law_816 rfl (Nat.le_of_ble_eq_true rfl) hcA (pfR ([(u 3, aL g 75 sd), (u 4, aI g 60 tx), (u 5, aI g 10 rr), (u 6, aI g 4 rq)] ++ ((od, aL g 1 (o)) :: wTp g r qn qt qv kn kt1 kv sc ns tx tn pl1))) rfl (fun r9 w9 hq9 => ?_)
      obtain ⟨rfl, rfl⟩ := hq9
      refine J.to (L1 := [(5, .int (iI 1)), (0, .ref b0), (1, .ref (r 0)), (2, .ref (u 0)), (3, .ref od), (4, .int (iI (4 * (n : Int))))]) (S1 := [.long (lI 0)]) (ws1 := wLw g r u qn qt qv od kn kt1 kv sc ns tx tn pl1 v pa sd rr rq sv ap nw 1 rm rd hh o tx tn) rfl rfl rfl ?_
      refine J.wide (k := (cells + 1)) (n := (slots + 6)) (Nat.le_refl _) (Nat.le_refl _) ?_
      refine j_lstore (L1 := [(6, .long (lI 0)), (5, .int (iI 1)), (0, .ref b0), (1, .ref (r 0)), (2, .ref (u 0)), (3, .ref od), (4, .int (iI (4 * (n : Int))))]) C dL_law_819 (by decide) rfl ?_
      refine j_aload_n C 4 dL_law_821 rfl rfl ?_
      refine j_callV (As := []) (rest := []) C yv_X5_thrown qw706 (c_X5_thrown l g u v (sv : Int) (tn : Int) 1 (ap : Int) rm rd (nw : Int) hh) (by decide) 0 rfl rfl rfl dL_law_822 rfl (Nat.le_of_ble_eq_true rfl) hcA (pfR ([(u 1, aL g 75 v), (u 2, aL g 300 pa), (u 3, aL g 75 sd), (u 4, aI g 60 tx), (u 5, aI g 10 rr), (u 6, aI g 4 rq)] ++ ((od, aL g 1 (o)) :: wTp g r qn qt qv kn kt1 kv sc ns tx tn pl1))) rfl (fun r9 w9 hq9 => ?_)
      obtain ⟨rfl, rfl⟩ := hq9
      refine J.to (L1 := [(6, .long (lI 0)), (5, .int (iI 1)), (0, .ref b0), (1, .ref (r 0)), (2, .ref (u 0)), (3, .ref od), (4, .int (iI (4 * (n : Int))))]) (S1 := [.int (iI 1)]) (ws1 := wLw g r u qn qt qv od kn kt1 kv sc ns tx tn pl1 v pa sd rr rq sv ap nw 1 rm rd hh o tx tn) rfl rfl rfl ?_
      refine J.wide (k := (cells + 1)) (n := (slots + 6)) (Nat.le_refl _) (Nat.le_refl _) ?_
      refine j_iload C 1 dL_law_825 rfl ?_
      refine j_isame (tgt := 832) C rfl dL_law_827 (by decide) ?_
      refine j_iload C 1 dL_law_832 rfl ?_
      refine j_if_ne (tgt := 848) C (by decide) dL_law_834 (by decide) (fun _ => ?_) (fun h9 => absurd h9 (by decide))
      refine j_goto (tgt := 1603) C dL_law_848 (by decide) ?_
      refine J.sub (L1 := [(0, .ref b0), (1, .ref (r 0)), (2, .ref (u 0)), (3, .ref od), (4, .int (iI (4 * (n : Int))))]) [2, 3, 4, 5, 6] rfl ?_
      exact kk kn kt1 kv sc ns tx tn pl1 v pa sd rr rq sv ap nw 1 rm rd hh o hI.next
set_option maxRecDepth 100000 in
set_option maxHeartbeats 4000000 in
theorem law_11 {p : Program} {l : Launch} {e : Env} {s : State} {m : MethodId} {args : Array Value} {below : List Frame} {meth : Method} {c : Code} {g : Gh} {A : Nat → Prop} {r u : Nat → Nat} {qn qt : Nat → Nat} {qv : Nat → Nat → Nat} {od b0 n0 n : Nat} {xs : Nat → Int32} {Q : State → Prop} {cells slots : Nat} (C : Cx p g s m args c cL_law 9 RL A) (hl : l.stackTraces = false) (hX : va_X b0 n0 xs s s.heap) (hbl : b0 < s.heap.size) (hbA : ¬ A b0) (hn0 : n0 ≤ 2048) (hn : 4 * n + 3 < n0) (hc : cells + 1 ≤ room_1.cells ∧ slots + 6 ≤ room_1.slots) (kk : LJ p l e s m args below meth c g A r u qn qt qv od b0 Q 1603 (n + 1) (4 * (n : Int)) (cells + 1) (slots + 6)) : LJ p l e s m args below meth c g A r u qn qt qv od b0 Q 851 n (4 * (n : Int)) cells slots := by
  intro kn kt kv sc ns tx tn pl v pa sd rr rq sv ap nw th rm rd hh o hI
  have hR := hI.2.2.2.1
  have hk := hI.1.1.1
  have hm := rel_ok hR hk
  have hscv := hI.2.2.2.2.2.1.1
  have hsv : sv ≤ 4 := hI.2.2.2.2.2.1.2
  have hns := hI.1.2.2.2.1
  have htn := hI.1.2.2.2.2.1
  have htx := hI.1.2.2.2.2.2
  have r2 := hR.1 2 (by decide)
  have hk2 := hk.1
  have hcA : cells + 1 + 0 ≤ room_1.cells ∧ slots + 6 + 0 ≤ room_1.slots := hc
  have hc0 : cells + 0 ≤ room_1.cells ∧ slots + 0 ≤ room_1.slots := ⟨Nat.le_of_succ_le hc.1, by omega⟩
  have hv1 : cells + 0 ≤ cells + 1 := Nat.le_add_right cells 1
  have hv2 : slots + 0 ≤ slots + 6 := Nat.le_add_right slots 6
  have hw1 : cells + 1 ≤ cells + 1 := Nat.le_refl _
  have hw2 : slots + 6 ≤ slots + 6 := Nat.le_refl _
  obtain ⟨x1, e1⟩ : ∃ x1 : Int, (xs (4 * n + 1)).toInt = x1 := ⟨_, rfl⟩
  have h1 := rngI (xs (4 * n + 1))
  rw [e1] at h1
  obtain ⟨x2, e2⟩ : ∃ x2 : Int, (xs (4 * n + 2)).toInt = x2 := ⟨_, rfl⟩
  have h2 := rngI (xs (4 * n + 2))
  rw [e2] at h2
  obtain ⟨x3, e3⟩ : ∃ x3 : Int, (xs (4 * n + 3)).toInt = x3 := ⟨_, rfl⟩
  have h3 := rngI (xs (4 * n + 3))
  rw [e3] at h3
  by_cases q1 : 0 ≤ x1 ∧ x1 < 4
  · by_cases q2 : 0 ≤ x2 ∧ x2 ≤ 1000000
    · by_cases qb : x3 = 0
      · refine j_aload_n C 1 dL_law_851 rfl rfl ?_
        refine j_aload_n C 0 dL_law_852 rfl rfl ?_
        refine j_iload C 4 dL_law_853 rfl ?_
        refine j_iconst C dL_law_855 ?_
        refine j_iadd C dL_law_856 ?_
        refine j_sld C hX hbl hbA (4 * n + 1) (by omega) (by omega) (by omega) e1 dL_law_857 ?_
        refine j_aload_n C 0 dL_law_858 rfl rfl ?_
        refine j_iload C 4 dL_law_859 rfl ?_
        refine j_iconst C dL_law_861 ?_
        refine j_iadd C dL_law_862 ?_
        refine j_sld C hX hbl hbA (4 * n + 2) (by omega) (by omega) (by omega) e2 dL_law_863 ?_
        refine j_aload_n C 0 dL_law_864 rfl rfl ?_
        refine j_iload C 4 dL_law_865 rfl ?_
        refine j_iconst C dL_law_867 ?_
        refine j_iadd C dL_law_868 ?_
        refine j_sld C hX hbl hbA (4 * n + 3) (by omega) (by omega) (by omega) e3 dL_law_869 ?_
        refine j_if_eq (tgt := 877) C (by omega) dL_law_870 (by decide) (fun _ => ?_) (fun h9 => absurd h9 (by omega))
        refine j_iconst C dL_law_877 ?_
        refine j_aload_n C 3 dL_law_878 rfl rfl ?_
        refine j_callSW (As := [.ref (r 0), .int (iI x1), .int (iI x2), .int (iI 0), .ref od]) (rest := []) C yw_L_pull qw582 (w_pull_0 l g r qn qt qv kn kt kv sc ns tx tn pl od o x1 x2 false hI.1 (by omega) (by omega)) (by decide) rfl dL_law_879 rfl (Nat.le_of_ble_eq_true rfl) hc0 (pfL (wMd g u v pa sd tx rr rq (sv : Int) (tn : Int) th (ap : Int) rm rd (nw : Int) hh)) rfl (fun r9 w9 hq9 => ?_)
        obtain ⟨rfl, kt1, pl1, rfl⟩ := hq9
        refine J.to (L1 := [(0, .ref b0), (1, .ref (r 0)), (2, .ref (u 0)), (3, .ref od), (4, .int (iI (4 * (n : Int))))]) (S1 := [.int (iI 0)]) (ws1 := wLw g r u qn qt qv od kn kt1 kv sc ns tx tn pl1 v pa sd rr rq sv ap nw th rm rd hh (va_up o 0 ((pul (kn 1) (kn 0 1) false (kn 0 2).toNat (kn 0 3) x1 x2))) tx tn) rfl rfl rfl ?_
        refine J.wide (k := cells + 1) (n := slots + 6) hv1 hv2 ?_
        refine j_istore (L1 := [(5, .int (iI 0)), (0, .ref b0), (1, .ref (r 0)), (2, .ref (u 0)), (3, .ref od), (4, .int (iI (4 * (n : Int))))]) C dL_law_882 (by decide) rfl ?_
        refine j_aload_n C 3 dL_law_884 rfl rfl ?_
        refine j_aload_n C 1 dL_law_885 rfl rfl ?_
        refine j_iload C 5 dL_law_886 rfl ?_
        refine j_iconst C dL_law_888 ?_
        refine j_iadd C dL_law_889 ?_
        refine j_sld C hX hbl hbA (4 * n + 1) (by omega) (by omega) (by omega) e1 dL_law_890 ?_
        refine j_aload_n C 1 dL_law_891 rfl rfl ?_
        refine j_iload C 5 dL_law_892 rfl ?_
        refine j_iconst C dL_law_894 ?_
        refine j_iadd C dL_law_895 ?_
        refine j_sld C hX hbl hbA (4 * n + 2) (by omega) (by omega) (by omega) e2 dL_law_896 ?_
        refine j_aload_n C 1 dL_law_897 rfl rfl ?_
        refine j_iload C 5 dL_law_898 rfl ?_
        refine j_iconst C dL_law_900 ?_
        refine j_iadd C dL_law_901 ?_
        refine j_sld C hX hbl hbA (4 * n + 3) (by omega) (by omega) (by omega) e3 dL_law_902 ?_
        refine j_if_eq (tgt := 910) C (by omega) dL_law_903 (by decide) (fun _ => ?_) (fun h9 => absurd h9 (by omega))
        refine j_iconst C dL_law_910 ?_
        refine j_callV (As := [.int (iI x1), .int (iI x2), .int (iI 0)]) (rest := []) C yv_X5_pull qw856 (c_X5_pull_ok l g u v pa sd tx rr rq sv (tn : Int) th (ap : Int) rm rd (nw : Int) hh x1 x2 false hm hsv (by omega) (by omega)) (by decide) 0 rfl rfl rfl dL_law_911 rfl (Nat.le_of_ble_eq_true rfl) hcA (pfR ([(u 3, aL g 75 sd), (u 4, aI g 60 tx), (u 5, aI g 10 rr), (u 6, aI g 4 rq)] ++ ((od, aL g 1 (va_up o 0 ((pul (kn 1) (kn 0 1) false (kn 0 2).toNat (kn 0 3) x1 x2)))) :: wTp g r qn qt qv kn kt1 kv sc ns tx tn pl1))) rfl (fun r9 w9 hq9 => ?_)
        obtain ⟨rfl, rfl⟩ := hq9
        refine J.to (L1 := [(5, .int (iI 0)), (0, .ref b0), (1, .ref (r 0)), (2, .ref (u 0)), (3, .ref od), (4, .int (iI (4 * (n : Int))))]) (S1 := [.long (lI (pulV v false x1 x2))]) (ws1 := wLw g r u qn qt qv od kn kt1 kv sc ns tx tn pl1 v pa sd rr rq sv ap nw 0 rm rd hh (va_up o 0 ((pul (kn 1) (kn 0 1) false (kn 0 2).toNat (kn 0 3) x1 x2))) tx tn) rfl rfl rfl ?_
        refine J.wide (k := (cells + 1)) (n := (slots + 6)) (Nat.le_refl _) (Nat.le_refl _) ?_
        refine j_lstore (L1 := [(6, .long (lI (pulV v false x1 x2))), (5, .int (iI 0)), (0, .ref b0), (1, .ref (r 0)), (2, .ref (u 0)), (3, .ref od), (4, .int (iI (4 * (n : Int))))]) C dL_law_914 (by decide) rfl ?_
        refine j_aload_n C 4 dL_law_916 rfl rfl ?_
        refine j_callV (As := []) (rest := []) C yv_X5_thrown qw706 (c_X5_thrown l g u v (sv : Int) (tn : Int) 0 (ap : Int) rm rd (nw : Int) hh) (by decide) 0 rfl rfl rfl dL_law_917 rfl (Nat.le_of_ble_eq_true rfl) hcA (pfR ([(u 1, aL g 75 v), (u 2, aL g 300 pa), (u 3, aL g 75 sd), (u 4, aI g 60 tx), (u 5, aI g 10 rr), (u 6, aI g 4 rq)] ++ ((od, aL g 1 (va_up o 0 ((pul (kn 1) (kn 0 1) false (kn 0 2).toNat (kn 0 3) x1 x2)))) :: wTp g r qn qt qv kn kt1 kv sc ns tx tn pl1))) rfl (fun r9 w9 hq9 => ?_)
        obtain ⟨rfl, rfl⟩ := hq9
        refine J.to (L1 := [(6, .long (lI (pulV v false x1 x2))), (5, .int (iI 0)), (0, .ref b0), (1, .ref (r 0)), (2, .ref (u 0)), (3, .ref od), (4, .int (iI (4 * (n : Int))))]) (S1 := [.int (iI 0)]) (ws1 := wLw g r u qn qt qv od kn kt1 kv sc ns tx tn pl1 v pa sd rr rq sv ap nw 0 rm rd hh (va_up o 0 ((pul (kn 1) (kn 0 1) false (kn 0 2).toNat (kn 0 3) x1 x2))) tx tn) rfl rfl rfl ?_
        refine J.wide (k := (cells + 1)) (n := (slots + 6)) (Nat.le_refl _) (Nat.le_refl _) ?_
        refine j_iload C 1 dL_law_920 rfl ?_
        refine j_isame (tgt := 927) C rfl dL_law_922 (by decide) ?_
        refine j_iload C 1 dL_law_927 rfl ?_
        refine j_if_ne (tgt := 943) C (by decide) dL_law_929 (by decide) (fun h9 => absurd h9 (by decide)) (fun _ => ?_)
        refine j_aload_n C 5 dL_law_932 rfl rfl ?_
        refine j_iconst C dL_law_933 ?_
        refine j_lald (f := va_up o 0 ((pul (kn 1) (kn 0 1) false (kn 0 2).toNat (kn 0 3) x1 x2))) C 7 0 rfl rfl (by decide) (by decide) dL_law_934 ?_
        refine J.to (L1 := [(6, .long (lI (pulV v false x1 x2))), (5, .int (iI 0)), (0, .ref b0), (1, .ref (r 0)), (2, .ref (u 0)), (3, .ref od), (4, .int (iI (4 * (n : Int))))]) (S1 := [.long (lI ((pul (kn 1) (kn 0 1) false (kn 0 2).toNat (kn 0 3) x1 x2)))]) (ws1 := wLw g r u qn qt qv od kn kt1 kv sc ns tx tn pl1 v pa sd rr rq sv ap nw 0 rm rd hh (va_up o 0 ((pul (kn 1) (kn 0 1) false (kn 0 2).toNat (kn 0 3) x1 x2))) tx tn) rfl rfl rfl ?_
        refine j_lload C 0 dL_law_935 rfl ?_
        have heq : ((pul (kn 1) (kn 0 1) false (kn 0 2).toNat (kn 0 3) x1 x2) : Int) = (pulV v false x1 x2) := rel_pul hR false x1 x2
        refine j_lsame (tgt := 943) C heq dL_law_937 dL_law_938 (by decide) ?_
        refine j_goto (tgt := 1603) C dL_law_943 (by decide) ?_
        refine J.sub (L1 := [(0, .ref b0), (1, .ref (r 0)), (2, .ref (u 0)), (3, .ref od), (4, .int (iI (4 * (n : Int))))]) [2, 3, 4, 5, 6] rfl ?_
        exact kk kn kt1 kv sc ns tx tn pl1 v pa sd rr rq sv ap nw 0 rm rd hh (va_up o 0 ((pul (kn 1) (kn 0 1) false (kn 0 2).toNat (kn 0 3) x1 x2))) hI.next
      · refine j_aload_n C 1 dL_law_851 rfl rfl ?_
        refine j_aload_n C 0 dL_law_852 rfl rfl ?_
        refine j_iload C 4 dL_law_853 rfl ?_
        refine j_iconst C dL_law_855 ?_
        refine j_iadd C dL_law_856 ?_
        refine j_sld C hX hbl hbA (4 * n + 1) (by omega) (by omega) (by omega) e1 dL_law_857 ?_
        refine j_aload_n C 0 dL_law_858 rfl rfl ?_
        refine j_iload C 4 dL_law_859 rfl ?_
        refine j_iconst C dL_law_861 ?_
        refine j_iadd C dL_law_862 ?_
        refine j_sld C hX hbl hbA (4 * n + 2) (by omega) (by omega) (by omega) e2 dL_law_863 ?_
        refine j_aload_n C 0 dL_law_864 rfl rfl ?_
        refine j_iload C 4 dL_law_865 rfl ?_
        refine j_iconst C dL_law_867 ?_
        refine j_iadd C dL_law_868 ?_
        refine j_sld C hX hbl hbA (4 * n + 3) (by omega) (by omega) (by omega) e3 dL_law_869 ?_
        refine j_if_eq (tgt := 877) C (by omega) dL_law_870 (by decide) (fun h9 => absurd h9 (by omega)) (fun _ => ?_)
        refine j_iconst C dL_law_873 ?_
        refine j_goto (tgt := 878) C dL_law_874 (by decide) ?_
        refine j_aload_n C 3 dL_law_878 rfl rfl ?_
        refine j_callSW (As := [.ref (r 0), .int (iI x1), .int (iI x2), .int (iI 1), .ref od]) (rest := []) C yw_L_pull qw582 (w_pull_0 l g r qn qt qv kn kt kv sc ns tx tn pl od o x1 x2 true hI.1 (by omega) (by omega)) (by decide) rfl dL_law_879 rfl (Nat.le_of_ble_eq_true rfl) hc0 (pfL (wMd g u v pa sd tx rr rq (sv : Int) (tn : Int) th (ap : Int) rm rd (nw : Int) hh)) rfl (fun r9 w9 hq9 => ?_)
        obtain ⟨rfl, kt1, pl1, rfl⟩ := hq9
        refine J.to (L1 := [(0, .ref b0), (1, .ref (r 0)), (2, .ref (u 0)), (3, .ref od), (4, .int (iI (4 * (n : Int))))]) (S1 := [.int (iI 0)]) (ws1 := wLw g r u qn qt qv od kn kt1 kv sc ns tx tn pl1 v pa sd rr rq sv ap nw th rm rd hh (va_up o 0 ((pul (kn 1) (kn 0 1) true (kn 0 2).toNat (kn 0 3) x1 x2))) tx tn) rfl rfl rfl ?_
        refine J.wide (k := cells + 1) (n := slots + 6) hv1 hv2 ?_
        refine j_istore (L1 := [(5, .int (iI 0)), (0, .ref b0), (1, .ref (r 0)), (2, .ref (u 0)), (3, .ref od), (4, .int (iI (4 * (n : Int))))]) C dL_law_882 (by decide) rfl ?_
        refine j_aload_n C 3 dL_law_884 rfl rfl ?_
        refine j_aload_n C 1 dL_law_885 rfl rfl ?_
        refine j_iload C 5 dL_law_886 rfl ?_
        refine j_iconst C dL_law_888 ?_
        refine j_iadd C dL_law_889 ?_
        refine j_sld C hX hbl hbA (4 * n + 1) (by omega) (by omega) (by omega) e1 dL_law_890 ?_
        refine j_aload_n C 1 dL_law_891 rfl rfl ?_
        refine j_iload C 5 dL_law_892 rfl ?_
        refine j_iconst C dL_law_894 ?_
        refine j_iadd C dL_law_895 ?_
        refine j_sld C hX hbl hbA (4 * n + 2) (by omega) (by omega) (by omega) e2 dL_law_896 ?_
        refine j_aload_n C 1 dL_law_897 rfl rfl ?_
        refine j_iload C 5 dL_law_898 rfl ?_
        refine j_iconst C dL_law_900 ?_
        refine j_iadd C dL_law_901 ?_
        refine j_sld C hX hbl hbA (4 * n + 3) (by omega) (by omega) (by omega) e3 dL_law_902 ?_
        refine j_if_eq (tgt := 910) C (by omega) dL_law_903 (by decide) (fun h9 => absurd h9 (by omega)) (fun _ => ?_)
        refine j_iconst C dL_law_906 ?_
        refine j_goto (tgt := 911) C dL_law_907 (by decide) ?_
        refine j_callV (As := [.int (iI x1), .int (iI x2), .int (iI 1)]) (rest := []) C yv_X5_pull qw856 (c_X5_pull_ok l g u v pa sd tx rr rq sv (tn : Int) th (ap : Int) rm rd (nw : Int) hh x1 x2 true hm hsv (by omega) (by omega)) (by decide) 0 rfl rfl rfl dL_law_911 rfl (Nat.le_of_ble_eq_true rfl) hcA (pfR ([(u 3, aL g 75 sd), (u 4, aI g 60 tx), (u 5, aI g 10 rr), (u 6, aI g 4 rq)] ++ ((od, aL g 1 (va_up o 0 ((pul (kn 1) (kn 0 1) true (kn 0 2).toNat (kn 0 3) x1 x2)))) :: wTp g r qn qt qv kn kt1 kv sc ns tx tn pl1))) rfl (fun r9 w9 hq9 => ?_)
        obtain ⟨rfl, rfl⟩ := hq9
        refine J.to (L1 := [(5, .int (iI 0)), (0, .ref b0), (1, .ref (r 0)), (2, .ref (u 0)), (3, .ref od), (4, .int (iI (4 * (n : Int))))]) (S1 := [.long (lI (pulV v true x1 x2))]) (ws1 := wLw g r u qn qt qv od kn kt1 kv sc ns tx tn pl1 v pa sd rr rq sv ap nw 0 rm rd hh (va_up o 0 ((pul (kn 1) (kn 0 1) true (kn 0 2).toNat (kn 0 3) x1 x2))) tx tn) rfl rfl rfl ?_
        refine J.wide (k := (cells + 1)) (n := (slots + 6)) (Nat.le_refl _) (Nat.le_refl _) ?_
        refine j_lstore (L1 := [(6, .long (lI (pulV v true x1 x2))), (5, .int (iI 0)), (0, .ref b0), (1, .ref (r 0)), (2, .ref (u 0)), (3, .ref od), (4, .int (iI (4 * (n : Int))))]) C dL_law_914 (by decide) rfl ?_
        refine j_aload_n C 4 dL_law_916 rfl rfl ?_
        refine j_callV (As := []) (rest := []) C yv_X5_thrown qw706 (c_X5_thrown l g u v (sv : Int) (tn : Int) 0 (ap : Int) rm rd (nw : Int) hh) (by decide) 0 rfl rfl rfl dL_law_917 rfl (Nat.le_of_ble_eq_true rfl) hcA (pfR ([(u 1, aL g 75 v), (u 2, aL g 300 pa), (u 3, aL g 75 sd), (u 4, aI g 60 tx), (u 5, aI g 10 rr), (u 6, aI g 4 rq)] ++ ((od, aL g 1 (va_up o 0 ((pul (kn 1) (kn 0 1) true (kn 0 2).toNat (kn 0 3) x1 x2)))) :: wTp g r qn qt qv kn kt1 kv sc ns tx tn pl1))) rfl (fun r9 w9 hq9 => ?_)
        obtain ⟨rfl, rfl⟩ := hq9
        refine J.to (L1 := [(6, .long (lI (pulV v true x1 x2))), (5, .int (iI 0)), (0, .ref b0), (1, .ref (r 0)), (2, .ref (u 0)), (3, .ref od), (4, .int (iI (4 * (n : Int))))]) (S1 := [.int (iI 0)]) (ws1 := wLw g r u qn qt qv od kn kt1 kv sc ns tx tn pl1 v pa sd rr rq sv ap nw 0 rm rd hh (va_up o 0 ((pul (kn 1) (kn 0 1) true (kn 0 2).toNat (kn 0 3) x1 x2))) tx tn) rfl rfl rfl ?_
        refine J.wide (k := (cells + 1)) (n := (slots + 6)) (Nat.le_refl _) (Nat.le_refl _) ?_
        refine j_iload C 1 dL_law_920 rfl ?_
        refine j_isame (tgt := 927) C rfl dL_law_922 (by decide) ?_
        refine j_iload C 1 dL_law_927 rfl ?_
        refine j_if_ne (tgt := 943) C (by decide) dL_law_929 (by decide) (fun h9 => absurd h9 (by decide)) (fun _ => ?_)
        refine j_aload_n C 5 dL_law_932 rfl rfl ?_
        refine j_iconst C dL_law_933 ?_
        refine j_lald (f := va_up o 0 ((pul (kn 1) (kn 0 1) true (kn 0 2).toNat (kn 0 3) x1 x2))) C 7 0 rfl rfl (by decide) (by decide) dL_law_934 ?_
        refine J.to (L1 := [(6, .long (lI (pulV v true x1 x2))), (5, .int (iI 0)), (0, .ref b0), (1, .ref (r 0)), (2, .ref (u 0)), (3, .ref od), (4, .int (iI (4 * (n : Int))))]) (S1 := [.long (lI ((pul (kn 1) (kn 0 1) true (kn 0 2).toNat (kn 0 3) x1 x2)))]) (ws1 := wLw g r u qn qt qv od kn kt1 kv sc ns tx tn pl1 v pa sd rr rq sv ap nw 0 rm rd hh (va_up o 0 ((pul (kn 1) (kn 0 1) true (kn 0 2).toNat (kn 0 3) x1 x2))) tx tn) rfl rfl rfl ?_
        refine j_lload C 0 dL_law_935 rfl ?_
        have heq : ((pul (kn 1) (kn 0 1) true (kn 0 2).toNat (kn 0 3) x1 x2) : Int) = (pulV v true x1 x2) := rel_pul hR true x1 x2
        refine j_lsame (tgt := 943) C heq dL_law_937 dL_law_938 (by decide) ?_
        refine j_goto (tgt := 1603) C dL_law_943 (by decide) ?_
        refine J.sub (L1 := [(0, .ref b0), (1, .ref (r 0)), (2, .ref (u 0)), (3, .ref od), (4, .int (iI (4 * (n : Int))))]) [2, 3, 4, 5, 6] rfl ?_
        exact kk kn kt1 kv sc ns tx tn pl1 v pa sd rr rq sv ap nw 0 rm rd hh (va_up o 0 ((pul (kn 1) (kn 0 1) true (kn 0 2).toNat (kn 0 3) x1 x2))) hI.next
    · by_cases qb : x3 = 0
      · refine j_aload_n C 1 dL_law_851 rfl rfl ?_
        refine j_aload_n C 0 dL_law_852 rfl rfl ?_
        refine j_iload C 4 dL_law_853 rfl ?_
        refine j_iconst C dL_law_855 ?_
        refine j_iadd C dL_law_856 ?_
        refine j_sld C hX hbl hbA (4 * n + 1) (by omega) (by omega) (by omega) e1 dL_law_857 ?_
        refine j_aload_n C 0 dL_law_858 rfl rfl ?_
        refine j_iload C 4 dL_law_859 rfl ?_
        refine j_iconst C dL_law_861 ?_
        refine j_iadd C dL_law_862 ?_
        refine j_sld C hX hbl hbA (4 * n + 2) (by omega) (by omega) (by omega) e2 dL_law_863 ?_
        refine j_aload_n C 0 dL_law_864 rfl rfl ?_
        refine j_iload C 4 dL_law_865 rfl ?_
        refine j_iconst C dL_law_867 ?_
        refine j_iadd C dL_law_868 ?_
        refine j_sld C hX hbl hbA (4 * n + 3) (by omega) (by omega) (by omega) e3 dL_law_869 ?_
        refine j_if_eq (tgt := 877) C (by omega) dL_law_870 (by decide) (fun _ => ?_) (fun h9 => absurd h9 (by omega))
        refine j_iconst C dL_law_877 ?_
        refine j_aload_n C 3 dL_law_878 rfl rfl ?_
        refine j_callSW (As := [.ref (r 0), .int (iI x1), .int (iI x2), .int (iI 0), .ref od]) (rest := []) C yw_L_pull qw582 (w_pull_2 l hl g r qn qt qv kn kt kv sc ns tx tn pl od o x1 x2 false hI.1 (by omega) (by omega) (by omega) (by omega)) (by decide) rfl dL_law_879 rfl (Nat.le_of_ble_eq_true rfl) hc (pfL (wMd g u v pa sd tx rr rq (sv : Int) (tn : Int) th (ap : Int) rm rd (nw : Int) hh)) rfl (fun r9 w9 hq9 => ?_)
        obtain ⟨rfl, kt1, pl1, rfl⟩ := hq9
        refine J.to (L1 := [(0, .ref b0), (1, .ref (r 0)), (2, .ref (u 0)), (3, .ref od), (4, .int (iI (4 * (n : Int))))]) (S1 := [.int (iI 2)]) (ws1 := wLw g r u qn qt qv od kn kt1 kv sc ns tx tn pl1 v pa sd rr rq sv ap nw th rm rd hh o tx tn) rfl rfl rfl ?_
        refine J.wide (k := cells + 1) (n := slots + 6) hw1 hw2 ?_
        refine j_istore (L1 := [(5, .int (iI 2)), (0, .ref b0), (1, .ref (r 0)), (2, .ref (u 0)), (3, .ref od), (4, .int (iI (4 * (n : Int))))]) C dL_law_882 (by decide) rfl ?_
        refine j_aload_n C 3 dL_law_884 rfl rfl ?_
        refine j_aload_n C 1 dL_law_885 rfl rfl ?_
        refine j_iload C 5 dL_law_886 rfl ?_
        refine j_iconst C dL_law_888 ?_
        refine j_iadd C dL_law_889 ?_
        refine j_sld C hX hbl hbA (4 * n + 1) (by omega) (by omega) (by omega) e1 dL_law_890 ?_
        refine j_aload_n C 1 dL_law_891 rfl rfl ?_
        refine j_iload C 5 dL_law_892 rfl ?_
        refine j_iconst C dL_law_894 ?_
        refine j_iadd C dL_law_895 ?_
        refine j_sld C hX hbl hbA (4 * n + 2) (by omega) (by omega) (by omega) e2 dL_law_896 ?_
        refine j_aload_n C 1 dL_law_897 rfl rfl ?_
        refine j_iload C 5 dL_law_898 rfl ?_
        refine j_iconst C dL_law_900 ?_
        refine j_iadd C dL_law_901 ?_
        refine j_sld C hX hbl hbA (4 * n + 3) (by omega) (by omega) (by omega) e3 dL_law_902 ?_
        refine j_if_eq (tgt := 910) C (by omega) dL_law_903 (by decide) (fun _ => ?_) (fun h9 => absurd h9 (by omega))
        refine j_iconst C dL_law_910 ?_
        refine j_callV (As := [.int (iI x1), .int (iI x2), .int (iI 0)]) (rest := []) C yv_X5_pull qw856 (c_X5_pull_n2 l g u v pa sd tx rr rq sv (tn : Int) th (ap : Int) rm rd (nw : Int) hh x1 x2 false hm hsv (by omega) (by omega) (by omega) (by omega)) (by decide) 0 rfl rfl rfl dL_law_911 rfl (Nat.le_of_ble_eq_true rfl) hcA (pfR ([(u 3, aL g 75 sd), (u 4, aI g 60 tx), (u 5, aI g 10 rr), (u 6, aI g 4 rq)] ++ ((od, aL g 1 (o)) :: wTp g r qn qt qv kn kt1 kv sc ns tx tn pl1))) rfl (fun r9 w9 hq9 => ?_)
        obtain ⟨rfl, rfl⟩ := hq9
        refine J.to (L1 := [(5, .int (iI 2)), (0, .ref b0), (1, .ref (r 0)), (2, .ref (u 0)), (3, .ref od), (4, .int (iI (4 * (n : Int))))]) (S1 := [.long (lI 0)]) (ws1 := wLw g r u qn qt qv od kn kt1 kv sc ns tx tn pl1 v pa sd rr rq sv ap nw 2 rm rd hh o tx tn) rfl rfl rfl ?_
        refine J.wide (k := (cells + 1)) (n := (slots + 6)) (Nat.le_refl _) (Nat.le_refl _) ?_
        refine j_lstore (L1 := [(6, .long (lI 0)), (5, .int (iI 2)), (0, .ref b0), (1, .ref (r 0)), (2, .ref (u 0)), (3, .ref od), (4, .int (iI (4 * (n : Int))))]) C dL_law_914 (by decide) rfl ?_
        refine j_aload_n C 4 dL_law_916 rfl rfl ?_
        refine j_callV (As := []) (rest := []) C yv_X5_thrown qw706 (c_X5_thrown l g u v (sv : Int) (tn : Int) 2 (ap : Int) rm rd (nw : Int) hh) (by decide) 0 rfl rfl rfl dL_law_917 rfl (Nat.le_of_ble_eq_true rfl) hcA (pfR ([(u 1, aL g 75 v), (u 2, aL g 300 pa), (u 3, aL g 75 sd), (u 4, aI g 60 tx), (u 5, aI g 10 rr), (u 6, aI g 4 rq)] ++ ((od, aL g 1 (o)) :: wTp g r qn qt qv kn kt1 kv sc ns tx tn pl1))) rfl (fun r9 w9 hq9 => ?_)
        obtain ⟨rfl, rfl⟩ := hq9
        refine J.to (L1 := [(6, .long (lI 0)), (5, .int (iI 2)), (0, .ref b0), (1, .ref (r 0)), (2, .ref (u 0)), (3, .ref od), (4, .int (iI (4 * (n : Int))))]) (S1 := [.int (iI 2)]) (ws1 := wLw g r u qn qt qv od kn kt1 kv sc ns tx tn pl1 v pa sd rr rq sv ap nw 2 rm rd hh o tx tn) rfl rfl rfl ?_
        refine J.wide (k := (cells + 1)) (n := (slots + 6)) (Nat.le_refl _) (Nat.le_refl _) ?_
        refine j_iload C 1 dL_law_920 rfl ?_
        refine j_isame (tgt := 927) C rfl dL_law_922 (by decide) ?_
        refine j_iload C 1 dL_law_927 rfl ?_
        refine j_if_ne (tgt := 943) C (by decide) dL_law_929 (by decide) (fun _ => ?_) (fun h9 => absurd h9 (by decide))
        refine j_goto (tgt := 1603) C dL_law_943 (by decide) ?_
        refine J.sub (L1 := [(0, .ref b0), (1, .ref (r 0)), (2, .ref (u 0)), (3, .ref od), (4, .int (iI (4 * (n : Int))))]) [2, 3, 4, 5, 6] rfl ?_
        exact kk kn kt1 kv sc ns tx tn pl1 v pa sd rr rq sv ap nw 2 rm rd hh o hI.next
      · refine j_aload_n C 1 dL_law_851 rfl rfl ?_
        refine j_aload_n C 0 dL_law_852 rfl rfl ?_
        refine j_iload C 4 dL_law_853 rfl ?_
        refine j_iconst C dL_law_855 ?_
        refine j_iadd C dL_law_856 ?_
        refine j_sld C hX hbl hbA (4 * n + 1) (by omega) (by omega) (by omega) e1 dL_law_857 ?_
        refine j_aload_n C 0 dL_law_858 rfl rfl ?_
        refine j_iload C 4 dL_law_859 rfl ?_
        refine j_iconst C dL_law_861 ?_
        refine j_iadd C dL_law_862 ?_
        refine j_sld C hX hbl hbA (4 * n + 2) (by omega) (by omega) (by omega) e2 dL_law_863 ?_
        refine j_aload_n C 0 dL_law_864 rfl rfl ?_
        refine j_iload C 4 dL_law_865 rfl ?_
        refine j_iconst C dL_law_867 ?_
        refine j_iadd C dL_law_868 ?_
        refine j_sld C hX hbl hbA (4 * n + 3) (by omega) (by omega) (by omega) e3 dL_law_869 ?_
        refine j_if_eq (tgt := 877) C (by omega) dL_law_870 (by decide) (fun h9 => absurd h9 (by omega)) (fun _ => ?_)
        refine j_iconst C dL_law_873 ?_
        refine j_goto (tgt := 878) C dL_law_874 (by decide) ?_
        refine j_aload_n C 3 dL_law_878 rfl rfl ?_
        refine j_callSW (As := [.ref (r 0), .int (iI x1), .int (iI x2), .int (iI 1), .ref od]) (rest := []) C yw_L_pull qw582 (w_pull_2 l hl g r qn qt qv kn kt kv sc ns tx tn pl od o x1 x2 true hI.1 (by omega) (by omega) (by omega) (by omega)) (by decide) rfl dL_law_879 rfl (Nat.le_of_ble_eq_true rfl) hc (pfL (wMd g u v pa sd tx rr rq (sv : Int) (tn : Int) th (ap : Int) rm rd (nw : Int) hh)) rfl (fun r9 w9 hq9 => ?_)
        obtain ⟨rfl, kt1, pl1, rfl⟩ := hq9
        refine J.to (L1 := [(0, .ref b0), (1, .ref (r 0)), (2, .ref (u 0)), (3, .ref od), (4, .int (iI (4 * (n : Int))))]) (S1 := [.int (iI 2)]) (ws1 := wLw g r u qn qt qv od kn kt1 kv sc ns tx tn pl1 v pa sd rr rq sv ap nw th rm rd hh o tx tn) rfl rfl rfl ?_
        refine J.wide (k := cells + 1) (n := slots + 6) hw1 hw2 ?_
        refine j_istore (L1 := [(5, .int (iI 2)), (0, .ref b0), (1, .ref (r 0)), (2, .ref (u 0)), (3, .ref od), (4, .int (iI (4 * (n : Int))))]) C dL_law_882 (by decide) rfl ?_
        refine j_aload_n C 3 dL_law_884 rfl rfl ?_
        refine j_aload_n C 1 dL_law_885 rfl rfl ?_
        refine j_iload C 5 dL_law_886 rfl ?_
        refine j_iconst C dL_law_888 ?_
        refine j_iadd C dL_law_889 ?_
        refine j_sld C hX hbl hbA (4 * n + 1) (by omega) (by omega) (by omega) e1 dL_law_890 ?_
        refine j_aload_n C 1 dL_law_891 rfl rfl ?_
        refine j_iload C 5 dL_law_892 rfl ?_
        refine j_iconst C dL_law_894 ?_
        refine j_iadd C dL_law_895 ?_
        refine j_sld C hX hbl hbA (4 * n + 2) (by omega) (by omega) (by omega) e2 dL_law_896 ?_
        refine j_aload_n C 1 dL_law_897 rfl rfl ?_
        refine j_iload C 5 dL_law_898 rfl ?_
        refine j_iconst C dL_law_900 ?_
        refine j_iadd C dL_law_901 ?_
        refine j_sld C hX hbl hbA (4 * n + 3) (by omega) (by omega) (by omega) e3 dL_law_902 ?_
        refine j_if_eq (tgt := 910) C (by omega) dL_law_903 (by decide) (fun h9 => absurd h9 (by omega)) (fun _ => ?_)
        refine j_iconst C dL_law_906 ?_
        refine j_goto (tgt := 911) C dL_law_907 (by decide) ?_
        refine j_callV (As := [.int (iI x1), .int (iI x2), .int (iI 1)]) (rest := []) C yv_X5_pull qw856 (c_X5_pull_n2 l g u v pa sd tx rr rq sv (tn : Int) th (ap : Int) rm rd (nw : Int) hh x1 x2 true hm hsv (by omega) (by omega) (by omega) (by omega)) (by decide) 0 rfl rfl rfl dL_law_911 rfl (Nat.le_of_ble_eq_true rfl) hcA (pfR ([(u 3, aL g 75 sd), (u 4, aI g 60 tx), (u 5, aI g 10 rr), (u 6, aI g 4 rq)] ++ ((od, aL g 1 (o)) :: wTp g r qn qt qv kn kt1 kv sc ns tx tn pl1))) rfl (fun r9 w9 hq9 => ?_)
        obtain ⟨rfl, rfl⟩ := hq9
        refine J.to (L1 := [(5, .int (iI 2)), (0, .ref b0), (1, .ref (r 0)), (2, .ref (u 0)), (3, .ref od), (4, .int (iI (4 * (n : Int))))]) (S1 := [.long (lI 0)]) (ws1 := wLw g r u qn qt qv od kn kt1 kv sc ns tx tn pl1 v pa sd rr rq sv ap nw 2 rm rd hh o tx tn) rfl rfl rfl ?_
        refine J.wide (k := (cells + 1)) (n := (slots + 6)) (Nat.le_refl _) (Nat.le_refl _) ?_
        refine j_lstore (L1 := [(6, .long (lI 0)), (5, .int (iI 2)), (0, .ref b0), (1, .ref (r 0)), (2, .ref (u 0)), (3, .ref od), (4, .int (iI (4 * (n : Int))))]) C dL_law_914 (by decide) rfl ?_
        refine j_aload_n C 4 dL_law_916 rfl rfl ?_
        refine j_callV (As := []) (rest := []) C yv_X5_thrown qw706 (c_X5_thrown l g u v (sv : Int) (tn : Int) 2 (ap : Int) rm rd (nw : Int) hh) (by decide) 0 rfl rfl rfl dL_law_917 rfl (Nat.le_of_ble_eq_true rfl) hcA (pfR ([(u 1, aL g 75 v), (u 2, aL g 300 pa), (u 3, aL g 75 sd), (u 4, aI g 60 tx), (u 5, aI g 10 rr), (u 6, aI g 4 rq)] ++ ((od, aL g 1 (o)) :: wTp g r qn qt qv kn kt1 kv sc ns tx tn pl1))) rfl (fun r9 w9 hq9 => ?_)
        obtain ⟨rfl, rfl⟩ := hq9
        refine J.to (L1 := [(6, .long (lI 0)), (5, .int (iI 2)), (0, .ref b0), (1, .ref (r 0)), (2, .ref (u 0)), (3, .ref od), (4, .int (iI (4 * (n : Int))))]) (S1 := [.int (iI 2)]) (ws1 := wLw g r u qn qt qv od kn kt1 kv sc ns tx tn pl1 v pa sd rr rq sv ap nw 2 rm rd hh o tx tn) rfl rfl rfl ?_
        refine J.wide (k := (cells + 1)) (n := (slots + 6)) (Nat.le_refl _) (Nat.le_refl _) ?_
        refine j_iload C 1 dL_law_920 rfl ?_
        refine j_isame (tgt := 927) C rfl dL_law_922 (by decide) ?_
        refine j_iload C 1 dL_law_927 rfl ?_
        refine j_if_ne (tgt := 943) C (by decide) dL_law_929 (by decide) (fun _ => ?_) (fun h9 => absurd h9 (by decide))
        refine j_goto (tgt := 1603) C dL_law_943 (by decide) ?_
        refine J.sub (L1 := [(0, .ref b0), (1, .ref (r 0)), (2, .ref (u 0)), (3, .ref od), (4, .int (iI (4 * (n : Int))))]) [2, 3, 4, 5, 6] rfl ?_
        exact kk kn kt1 kv sc ns tx tn pl1 v pa sd rr rq sv ap nw 2 rm rd hh o hI.next
  · by_cases qb : x3 = 0
    · refine j_aload_n C 1 dL_law_851 rfl rfl ?_
      refine j_aload_n C 0 dL_law_852 rfl rfl ?_
      refine j_iload C 4 dL_law_853 rfl ?_
      refine j_iconst C dL_law_855 ?_
      refine j_iadd C dL_law_856 ?_
      refine j_sld C hX hbl hbA (4 * n + 1) (by omega) (by omega) (by omega) e1 dL_law_857 ?_
      refine j_aload_n C 0 dL_law_858 rfl rfl ?_
      refine j_iload C 4 dL_law_859 rfl ?_
      refine j_iconst C dL_law_861 ?_
      refine j_iadd C dL_law_862 ?_
      refine j_sld C hX hbl hbA (4 * n + 2) (by omega) (by omega) (by omega) e2 dL_law_863 ?_
      refine j_aload_n C 0 dL_law_864 rfl rfl ?_
      refine j_iload C 4 dL_law_865 rfl ?_
      refine j_iconst C dL_law_867 ?_
      refine j_iadd C dL_law_868 ?_
      refine j_sld C hX hbl hbA (4 * n + 3) (by omega) (by omega) (by omega) e3 dL_law_869 ?_
      refine j_if_eq (tgt := 877) C (by omega) dL_law_870 (by decide) (fun _ => ?_) (fun h9 => absurd h9 (by omega))
      refine j_iconst C dL_law_877 ?_
      refine j_aload_n C 3 dL_law_878 rfl rfl ?_
      refine j_callSW (As := [.ref (r 0), .int (iI x1), .int (iI x2), .int (iI 0), .ref od]) (rest := []) C yw_L_pull qw582 (w_pull_1 l hl g r qn qt qv kn kt kv sc ns tx tn pl od o x1 x2 false hI.1 (by omega) (by omega) (by omega)) (by decide) rfl dL_law_879 rfl (Nat.le_of_ble_eq_true rfl) hc (pfL (wMd g u v pa sd tx rr rq (sv : Int) (tn : Int) th (ap : Int) rm rd (nw : Int) hh)) rfl (fun r9 w9 hq9 => ?_)
      obtain ⟨rfl, kt1, pl1, rfl⟩ := hq9
      refine J.to (L1 := [(0, .ref b0), (1, .ref (r 0)), (2, .ref (u 0)), (3, .ref od), (4, .int (iI (4 * (n : Int))))]) (S1 := [.int (iI 1)]) (ws1 := wLw g r u qn qt qv od kn kt1 kv sc ns tx tn pl1 v pa sd rr rq sv ap nw th rm rd hh o tx tn) rfl rfl rfl ?_
      refine J.wide (k := cells + 1) (n := slots + 6) hw1 hw2 ?_
      refine j_istore (L1 := [(5, .int (iI 1)), (0, .ref b0), (1, .ref (r 0)), (2, .ref (u 0)), (3, .ref od), (4, .int (iI (4 * (n : Int))))]) C dL_law_882 (by decide) rfl ?_
      refine j_aload_n C 3 dL_law_884 rfl rfl ?_
      refine j_aload_n C 1 dL_law_885 rfl rfl ?_
      refine j_iload C 5 dL_law_886 rfl ?_
      refine j_iconst C dL_law_888 ?_
      refine j_iadd C dL_law_889 ?_
      refine j_sld C hX hbl hbA (4 * n + 1) (by omega) (by omega) (by omega) e1 dL_law_890 ?_
      refine j_aload_n C 1 dL_law_891 rfl rfl ?_
      refine j_iload C 5 dL_law_892 rfl ?_
      refine j_iconst C dL_law_894 ?_
      refine j_iadd C dL_law_895 ?_
      refine j_sld C hX hbl hbA (4 * n + 2) (by omega) (by omega) (by omega) e2 dL_law_896 ?_
      refine j_aload_n C 1 dL_law_897 rfl rfl ?_
      refine j_iload C 5 dL_law_898 rfl ?_
      refine j_iconst C dL_law_900 ?_
      refine j_iadd C dL_law_901 ?_
      refine j_sld C hX hbl hbA (4 * n + 3) (by omega) (by omega) (by omega) e3 dL_law_902 ?_
      refine j_if_eq (tgt := 910) C (by omega) dL_law_903 (by decide) (fun _ => ?_) (fun h9 => absurd h9 (by omega))
      refine j_iconst C dL_law_910 ?_
      refine j_callV (As := [.int (iI x1), .int (iI x2), .int (iI 0)]) (rest := []) C yv_X5_pull qw856 (c_X5_pull_n1 l g u v pa sd tx rr rq sv (tn : Int) th (ap : Int) rm rd (nw : Int) hh x1 x2 false hm hsv (by omega) (by omega) (by omega)) (by decide) 0 rfl rfl rfl dL_law_911 rfl (Nat.le_of_ble_eq_true rfl) hcA (pfR ([(u 3, aL g 75 sd), (u 4, aI g 60 tx), (u 5, aI g 10 rr), (u 6, aI g 4 rq)] ++ ((od, aL g 1 (o)) :: wTp g r qn qt qv kn kt1 kv sc ns tx tn pl1))) rfl (fun r9 w9 hq9 => ?_)
      obtain ⟨rfl, rfl⟩ := hq9
      refine J.to (L1 := [(5, .int (iI 1)), (0, .ref b0), (1, .ref (r 0)), (2, .ref (u 0)), (3, .ref od), (4, .int (iI (4 * (n : Int))))]) (S1 := [.long (lI 0)]) (ws1 := wLw g r u qn qt qv od kn kt1 kv sc ns tx tn pl1 v pa sd rr rq sv ap nw 1 rm rd hh o tx tn) rfl rfl rfl ?_
      refine J.wide (k := (cells + 1)) (n := (slots + 6)) (Nat.le_refl _) (Nat.le_refl _) ?_
      refine j_lstore (L1 := [(6, .long (lI 0)), (5, .int (iI 1)), (0, .ref b0), (1, .ref (r 0)), (2, .ref (u 0)), (3, .ref od), (4, .int (iI (4 * (n : Int))))]) C dL_law_914 (by decide) rfl ?_
      refine j_aload_n C 4 dL_law_916 rfl rfl ?_
      refine j_callV (As := []) (rest := []) C yv_X5_thrown qw706 (c_X5_thrown l g u v (sv : Int) (tn : Int) 1 (ap : Int) rm rd (nw : Int) hh) (by decide) 0 rfl rfl rfl dL_law_917 rfl (Nat.le_of_ble_eq_true rfl) hcA (pfR ([(u 1, aL g 75 v), (u 2, aL g 300 pa), (u 3, aL g 75 sd), (u 4, aI g 60 tx), (u 5, aI g 10 rr), (u 6, aI g 4 rq)] ++ ((od, aL g 1 (o)) :: wTp g r qn qt qv kn kt1 kv sc ns tx tn pl1))) rfl (fun r9 w9 hq9 => ?_)
      obtain ⟨rfl, rfl⟩ := hq9
      refine J.to (L1 := [(6, .long (lI 0)), (5, .int (iI 1)), (0, .ref b0), (1, .ref (r 0)), (2, .ref (u 0)), (3, .ref od), (4, .int (iI (4 * (n : Int))))]) (S1 := [.int (iI 1)]) (ws1 := wLw g r u qn qt qv od kn kt1 kv sc ns tx tn pl1 v pa sd rr rq sv ap nw 1 rm rd hh o tx tn) rfl rfl rfl ?_
      refine J.wide (k := (cells + 1)) (n := (slots + 6)) (Nat.le_refl _) (Nat.le_refl _) ?_
      refine j_iload C 1 dL_law_920 rfl ?_
      refine j_isame (tgt := 927) C rfl dL_law_922 (by decide) ?_
      refine j_iload C 1 dL_law_927 rfl ?_
      refine j_if_ne (tgt := 943) C (by decide) dL_law_929 (by decide) (fun _ => ?_) (fun h9 => absurd h9 (by decide))
      refine j_goto (tgt := 1603) C dL_law_943 (by decide) ?_
      refine J.sub (L1 := [(0, .ref b0), (1, .ref (r 0)), (2, .ref (u 0)), (3, .ref od), (4, .int (iI (4 * (n : Int))))]) [2, 3, 4, 5, 6] rfl ?_
      exact kk kn kt1 kv sc ns tx tn pl1 v pa sd rr rq sv ap nw 1 rm rd hh o hI.next
    · refine j_aload_n C 1 dL_law_851 rfl rfl ?_
      refine j_aload_n C 0 dL_law_852 rfl rfl ?_
      refine j_iload C 4 dL_law_853 rfl ?_
      refine j_iconst C dL_law_855 ?_
      refine j_iadd C dL_law_856 ?_
      refine j_sld C hX hbl hbA (4 * n + 1) (by omega) (by omega) (by omega) e1 dL_law_857 ?_
      refine j_aload_n C 0 dL_law_858 rfl rfl ?_
      refine j_iload C 4 dL_law_859 rfl ?_
      refine j_iconst C dL_law_861 ?_
      refine j_iadd C dL_law_862 ?_
      refine j_sld C hX hbl hbA (4 * n + 2) (by omega) (by omega) (by omega) e2 dL_law_863 ?_
      refine j_aload_n C 0 dL_law_864 rfl rfl ?_
      refine j_iload C 4 dL_law_865 rfl ?_
      refine j_iconst C dL_law_867 ?_
      refine j_iadd C dL_law_868 ?_
      refine j_sld C hX hbl hbA (4 * n + 3) (by omega) (by omega) (by omega) e3 dL_law_869 ?_
      refine j_if_eq (tgt := 877) C (by omega) dL_law_870 (by decide) (fun h9 => absurd h9 (by omega)) (fun _ => ?_)
      refine j_iconst C dL_law_873 ?_
      refine j_goto (tgt := 878) C dL_law_874 (by decide) ?_
      refine j_aload_n C 3 dL_law_878 rfl rfl ?_
      refine j_callSW (As := [.ref (r 0), .int (iI x1), .int (iI x2), .int (iI 1), .ref od]) (rest := []) C yw_L_pull qw582 (w_pull_1 l hl g r qn qt qv kn kt kv sc ns tx tn pl od o x1 x2 true hI.1 (by omega) (by omega) (by omega)) (by decide) rfl dL_law_879 rfl (Nat.le_of_ble_eq_true rfl) hc (pfL (wMd g u v pa sd tx rr rq (sv : Int) (tn : Int) th (ap : Int) rm rd (nw : Int) hh)) rfl (fun r9 w9 hq9 => ?_)
      obtain ⟨rfl, kt1, pl1, rfl⟩ := hq9
      refine J.to (L1 := [(0, .ref b0), (1, .ref (r 0)), (2, .ref (u 0)), (3, .ref od), (4, .int (iI (4 * (n : Int))))]) (S1 := [.int (iI 1)]) (ws1 := wLw g r u qn qt qv od kn kt1 kv sc ns tx tn pl1 v pa sd rr rq sv ap nw th rm rd hh o tx tn) rfl rfl rfl ?_
      refine J.wide (k := cells + 1) (n := slots + 6) hw1 hw2 ?_
      refine j_istore (L1 := [(5, .int (iI 1)), (0, .ref b0), (1, .ref (r 0)), (2, .ref (u 0)), (3, .ref od), (4, .int (iI (4 * (n : Int))))]) C dL_law_882 (by decide) rfl ?_
      refine j_aload_n C 3 dL_law_884 rfl rfl ?_
      refine j_aload_n C 1 dL_law_885 rfl rfl ?_
      refine j_iload C 5 dL_law_886 rfl ?_
      refine j_iconst C dL_law_888 ?_
      refine j_iadd C dL_law_889 ?_
      refine j_sld C hX hbl hbA (4 * n + 1) (by omega) (by omega) (by omega) e1 dL_law_890 ?_
      refine j_aload_n C 1 dL_law_891 rfl rfl ?_
      refine j_iload C 5 dL_law_892 rfl ?_
      refine j_iconst C dL_law_894 ?_
      refine j_iadd C dL_law_895 ?_
      refine j_sld C hX hbl hbA (4 * n + 2) (by omega) (by omega) (by omega) e2 dL_law_896 ?_
      refine j_aload_n C 1 dL_law_897 rfl rfl ?_
      refine j_iload C 5 dL_law_898 rfl ?_
      refine j_iconst C dL_law_900 ?_
      refine j_iadd C dL_law_901 ?_
      refine j_sld C hX hbl hbA (4 * n + 3) (by omega) (by omega) (by omega) e3 dL_law_902 ?_
      refine j_if_eq (tgt := 910) C (by omega) dL_law_903 (by decide) (fun h9 => absurd h9 (by omega)) (fun _ => ?_)
      refine j_iconst C dL_law_906 ?_
      refine j_goto (tgt := 911) C dL_law_907 (by decide) ?_
      refine j_callV (As := [.int (iI x1), .int (iI x2), .int (iI 1)]) (rest := []) C yv_X5_pull qw856 (c_X5_pull_n1 l g u v pa sd tx rr rq sv (tn : Int) th (ap : Int) rm rd (nw : Int) hh x1 x2 true hm hsv (by omega) (by omega) (by omega)) (by decide) 0 rfl rfl rfl dL_law_911 rfl (Nat.le_of_ble_eq_true rfl) hcA (pfR ([(u 3, aL g 75 sd), (u 4, aI g 60 tx), (u 5, aI g 10 rr), (u 6, aI g 4 rq)] ++ ((od, aL g 1 (o)) :: wTp g r qn qt qv kn kt1 kv sc ns tx tn pl1))) rfl (fun r9 w9 hq9 => ?_)
      obtain ⟨rfl, rfl⟩ := hq9
      refine J.to (L1 := [(5, .int (iI 1)), (0, .ref b0), (1, .ref (r 0)), (2, .ref (u 0)), (3, .ref od), (4, .int (iI (4 * (n : Int))))]) (S1 := [.long (lI 0)]) (ws1 := wLw g r u qn qt qv od kn kt1 kv sc ns tx tn pl1 v pa sd rr rq sv ap nw 1 rm rd hh o tx tn) rfl rfl rfl ?_
      refine J.wide (k := (cells + 1)) (n := (slots + 6)) (Nat.le_refl _) (Nat.le_refl _) ?_
      refine j_lstore (L1 := [(6, .long (lI 0)), (5, .int (iI 1)), (0, .ref b0), (1, .ref (r 0)), (2, .ref (u 0)), (3, .ref od), (4, .int (iI (4 * (n : Int))))]) C dL_law_914 (by decide) rfl ?_
      refine j_aload_n C 4 dL_law_916 rfl rfl ?_
      refine j_callV (As := []) (rest := []) C yv_X5_thrown qw706 (c_X5_thrown l g u v (sv : Int) (tn : Int) 1 (ap : Int) rm rd (nw : Int) hh) (by decide) 0 rfl rfl rfl dL_law_917 rfl (Nat.le_of_ble_eq_true rfl) hcA (pfR ([(u 1, aL g 75 v), (u 2, aL g 300 pa), (u 3, aL g 75 sd), (u 4, aI g 60 tx), (u 5, aI g 10 rr), (u 6, aI g 4 rq)] ++ ((od, aL g 1 (o)) :: wTp g r qn qt qv kn kt1 kv sc ns tx tn pl1))) rfl (fun r9 w9 hq9 => ?_)
      obtain ⟨rfl, rfl⟩ := hq9
      refine J.to (L1 := [(6, .long (lI 0)), (5, .int (iI 1)), (0, .ref b0), (1, .ref (r 0)), (2, .ref (u 0)), (3, .ref od), (4, .int (iI (4 * (n : Int))))]) (S1 := [.int (iI 1)]) (ws1 := wLw g r u qn qt qv od kn kt1 kv sc ns tx tn pl1 v pa sd rr rq sv ap nw 1 rm rd hh o tx tn) rfl rfl rfl ?_
      refine J.wide (k := (cells + 1)) (n := (slots + 6)) (Nat.le_refl _) (Nat.le_refl _) ?_
      refine j_iload C 1 dL_law_920 rfl ?_
      refine j_isame (tgt := 927) C rfl dL_law_922 (by decide) ?_
      refine j_iload C 1 dL_law_927 rfl ?_
      refine j_if_ne (tgt := 943) C (by decide) dL_law_929 (by decide) (fun _ => ?_) (fun h9 => absurd h9 (by decide))
      refine j_goto (tgt := 1603) C dL_law_943 (by decide) ?_
      refine J.sub (L1 := [(0, .ref b0), (1, .ref (r 0)), (2, .ref (u 0)), (3, .ref od), (4, .int (iI (4 * (n : Int))))]) [2, 3, 4, 5, 6] rfl ?_
      exact kk kn kt1 kv sc ns tx tn pl1 v pa sd rr rq sv ap nw 1 rm rd hh o hI.next
set_option maxRecDepth 100000 in
set_option maxHeartbeats 4000000 in
theorem law_12 {p : Program} {l : Launch} {e : Env} {s : State} {m : MethodId} {args : Array Value} {below : List Frame} {meth : Method} {c : Code} {g : Gh} {A : Nat → Prop} {r u : Nat → Nat} {qn qt : Nat → Nat} {qv : Nat → Nat → Nat} {od b0 n0 n : Nat} {xs : Nat → Int32} {Q : State → Prop} {cells slots : Nat} (C : Cx p g s m args c cL_law 9 RL A) (hl : l.stackTraces = false) (hX : va_X b0 n0 xs s s.heap) (hbl : b0 < s.heap.size) (hbA : ¬ A b0) (hn0 : n0 ≤ 2048) (hn : 4 * n + 3 < n0) (hc : cells + 1 ≤ room_1.cells ∧ slots + 6 ≤ room_1.slots) (kk : LJ p l e s m args below meth c g A r u qn qt qv od b0 Q 1603 (n + 1) (4 * (n : Int)) (cells + 1) (slots + 6)) : LJ p l e s m args below meth c g A r u qn qt qv od b0 Q 946 n (4 * (n : Int)) cells slots := by
  intro kn kt kv sc ns tx tn pl v pa sd rr rq sv ap nw th rm rd hh o hI
  have hR := hI.2.2.2.1
  have hk := hI.1.1.1
  have hm := rel_ok hR hk
  have hscv := hI.2.2.2.2.2.1.1
  have hsv : sv ≤ 4 := hI.2.2.2.2.2.1.2
  have hns := hI.1.2.2.2.1
  have htn := hI.1.2.2.2.2.1
  have htx := hI.1.2.2.2.2.2
  have r2 := hR.1 2 (by decide)
  have hk2 := hk.1
  have hcA : cells + 1 + 0 ≤ room_1.cells ∧ slots + 6 + 0 ≤ room_1.slots := hc
  have hc0 : cells + 0 ≤ room_1.cells ∧ slots + 0 ≤ room_1.slots := ⟨Nat.le_of_succ_le hc.1, by omega⟩
  have hv1 : cells + 0 ≤ cells + 1 := Nat.le_add_right cells 1
  have hv2 : slots + 0 ≤ slots + 6 := Nat.le_add_right slots 6
  have hw1 : cells + 1 ≤ cells + 1 := Nat.le_refl _
  have hw2 : slots + 6 ≤ slots + 6 := Nat.le_refl _
  obtain ⟨x1, e1⟩ : ∃ x1 : Int, (xs (4 * n + 1)).toInt = x1 := ⟨_, rfl⟩
  have h1 := rngI (xs (4 * n + 1))
  rw [e1] at h1
  by_cases q1 : 0 ≤ x1 ∧ x1 ≤ 9
  · refine j_aload_n C 1 dL_law_946 rfl rfl ?_
    refine j_aload_n C 0 dL_law_947 rfl rfl ?_
    refine j_iload C 4 dL_law_948 rfl ?_
    refine j_iconst C dL_law_950 ?_
    refine j_iadd C dL_law_951 ?_
    refine j_sld C hX hbl hbA (4 * n + 1) (by omega) (by omega) (by omega) e1 dL_law_952 ?_
    refine j_aload_n C 3 dL_law_953 rfl rfl ?_
    refine j_callSW (As := [.ref (r 0), .int (iI x1), .ref od]) (rest := []) C yw_L_value qw590 (w_value_0 l g r qn qt qv kn kt kv sc ns tx tn pl od o x1 hI.1 (by omega)) (by decide) rfl dL_law_954 rfl (Nat.le_of_ble_eq_true rfl) hc0 (pfL (wMd g u v pa sd tx rr rq (sv : Int) (tn : Int) th (ap : Int) rm rd (nw : Int) hh)) rfl (fun r9 w9 hq9 => ?_)
    obtain ⟨rfl, kt1, pl1, rfl⟩ := hq9
    refine J.to (L1 := [(0, .ref b0), (1, .ref (r 0)), (2, .ref (u 0)), (3, .ref od), (4, .int (iI (4 * (n : Int))))]) (S1 := [.int (iI 0)]) (ws1 := wLw g r u qn qt qv od kn kt1 kv sc ns tx tn pl1 v pa sd rr rq sv ap nw th rm rd hh (va_up o 0 (w32 ((valF kn x1)))) tx tn) rfl rfl rfl ?_
    refine J.wide (k := cells + 1) (n := slots + 6) hv1 hv2 ?_
    refine j_istore (L1 := [(5, .int (iI 0)), (0, .ref b0), (1, .ref (r 0)), (2, .ref (u 0)), (3, .ref od), (4, .int (iI (4 * (n : Int))))]) C dL_law_957 (by decide) rfl ?_
    refine j_aload_n C 3 dL_law_959 rfl rfl ?_
    refine j_aload_n C 1 dL_law_960 rfl rfl ?_
    refine j_iload C 5 dL_law_961 rfl ?_
    refine j_iconst C dL_law_963 ?_
    refine j_iadd C dL_law_964 ?_
    refine j_sld C hX hbl hbA (4 * n + 1) (by omega) (by omega) (by omega) e1 dL_law_965 ?_
    refine j_callV (As := [.int (iI x1)]) (rest := []) C yv_X5_value qw860 (c_X5_value_ok l g u v pa sd tx rr rq sv (tn : Int) th (ap : Int) rm rd (nw : Int) hh x1 hm hsv (by omega)) (by decide) 0 rfl rfl rfl dL_law_966 rfl (Nat.le_of_ble_eq_true rfl) hcA (pfR ([(u 3, aL g 75 sd), (u 4, aI g 60 tx), (u 5, aI g 10 rr), (u 6, aI g 4 rq)] ++ ((od, aL g 1 (va_up o 0 (w32 ((valF kn x1))))) :: wTp g r qn qt qv kn kt1 kv sc ns tx tn pl1))) rfl (fun r9 w9 hq9 => ?_)
    obtain ⟨rfl, rfl⟩ := hq9
    refine J.to (L1 := [(5, .int (iI 0)), (0, .ref b0), (1, .ref (r 0)), (2, .ref (u 0)), (3, .ref od), (4, .int (iI (4 * (n : Int))))]) (S1 := [.int (iI (valF (kV v) x1))]) (ws1 := wLw g r u qn qt qv od kn kt1 kv sc ns tx tn pl1 v pa sd rr rq sv ap nw 0 rm rd hh (va_up o 0 (w32 ((valF kn x1)))) tx tn) rfl rfl rfl ?_
    refine J.wide (k := (cells + 1)) (n := (slots + 6)) (Nat.le_refl _) (Nat.le_refl _) ?_
    refine j_istore (L1 := [(6, .int (iI (valF (kV v) x1))), (5, .int (iI 0)), (0, .ref b0), (1, .ref (r 0)), (2, .ref (u 0)), (3, .ref od), (4, .int (iI (4 * (n : Int))))]) C dL_law_969 (by decide) rfl ?_
    refine j_aload_n C 4 dL_law_971 rfl rfl ?_
    refine j_callV (As := []) (rest := []) C yv_X5_thrown qw706 (c_X5_thrown l g u v (sv : Int) (tn : Int) 0 (ap : Int) rm rd (nw : Int) hh) (by decide) 0 rfl rfl rfl dL_law_972 rfl (Nat.le_of_ble_eq_true rfl) hcA (pfR ([(u 1, aL g 75 v), (u 2, aL g 300 pa), (u 3, aL g 75 sd), (u 4, aI g 60 tx), (u 5, aI g 10 rr), (u 6, aI g 4 rq)] ++ ((od, aL g 1 (va_up o 0 (w32 ((valF kn x1))))) :: wTp g r qn qt qv kn kt1 kv sc ns tx tn pl1))) rfl (fun r9 w9 hq9 => ?_)
    obtain ⟨rfl, rfl⟩ := hq9
    refine J.to (L1 := [(6, .int (iI (valF (kV v) x1))), (5, .int (iI 0)), (0, .ref b0), (1, .ref (r 0)), (2, .ref (u 0)), (3, .ref od), (4, .int (iI (4 * (n : Int))))]) (S1 := [.int (iI 0)]) (ws1 := wLw g r u qn qt qv od kn kt1 kv sc ns tx tn pl1 v pa sd rr rq sv ap nw 0 rm rd hh (va_up o 0 (w32 ((valF kn x1)))) tx tn) rfl rfl rfl ?_
    refine J.wide (k := (cells + 1)) (n := (slots + 6)) (Nat.le_refl _) (Nat.le_refl _) ?_
    refine j_iload C 1 dL_law_975 rfl ?_
    refine j_isame (tgt := 982) C rfl dL_law_977 (by decide) ?_
    refine j_iload C 1 dL_law_982 rfl ?_
    refine j_if_ne (tgt := 999) C (by decide) dL_law_984 (by decide) (fun h9 => absurd h9 (by decide)) (fun _ => ?_)
    refine j_aload_n C 5 dL_law_987 rfl rfl ?_
    refine j_iconst C dL_law_988 ?_
    refine j_lald (f := va_up o 0 (w32 ((valF kn x1)))) C 7 0 rfl rfl (by decide) (by decide) dL_law_989 ?_
    refine J.to (L1 := [(6, .int (iI (valF (kV v) x1))), (5, .int (iI 0)), (0, .ref b0), (1, .ref (r 0)), (2, .ref (u 0)), (3, .ref od), (4, .int (iI (4 * (n : Int))))]) (S1 := [.long (lI (w32 ((valF kn x1))))]) (ws1 := wLw g r u qn qt qv od kn kt1 kv sc ns tx tn pl1 v pa sd rr rq sv ap nw 0 rm rd hh (va_up o 0 (w32 ((valF kn x1)))) tx tn) rfl rfl rfl ?_
    refine j_iload C 0 dL_law_990 rfl ?_
    refine j_i2lw C dL_law_992 ?_
    have heq : ((valF kn x1) : Int) = (valF (kV v) x1) := rel_val hR x1
    refine j_lsame (tgt := 999) C (congrArg w32 heq) dL_law_993 dL_law_994 (by decide) ?_
    refine j_goto (tgt := 1603) C dL_law_999 (by decide) ?_
    refine J.sub (L1 := [(0, .ref b0), (1, .ref (r 0)), (2, .ref (u 0)), (3, .ref od), (4, .int (iI (4 * (n : Int))))]) [2, 3, 4, 5, 6] rfl ?_
    exact kk kn kt1 kv sc ns tx tn pl1 v pa sd rr rq sv ap nw 0 rm rd hh (va_up o 0 (w32 ((valF kn x1)))) hI.next
  · refine j_aload_n C 1 dL_law_946 rfl rfl ?_
    refine j_aload_n C 0 dL_law_947 rfl rfl ?_
    refine j_iload C 4 dL_law_948 rfl ?_
    refine j_iconst C dL_law_950 ?_
    refine j_iadd C dL_law_951 ?_
    refine j_sld C hX hbl hbA (4 * n + 1) (by omega) (by omega) (by omega) e1 dL_law_952 ?_
    refine j_aload_n C 3 dL_law_953 rfl rfl ?_
    refine j_callSW (As := [.ref (r 0), .int (iI x1), .ref od]) (rest := []) C yw_L_value qw590 (w_value_1 l hl g r qn qt qv kn kt kv sc ns tx tn pl od o x1 hI.1 (by omega) (by omega)) (by decide) rfl dL_law_954 rfl (Nat.le_of_ble_eq_true rfl) hc (pfL (wMd g u v pa sd tx rr rq (sv : Int) (tn : Int) th (ap : Int) rm rd (nw : Int) hh)) rfl (fun r9 w9 hq9 => ?_)
    obtain ⟨rfl, kt1, pl1, rfl⟩ := hq9
    refine J.to (L1 := [(0, .ref b0), (1, .ref (r 0)), (2, .ref (u 0)), (3, .ref od), (4, .int (iI (4 * (n : Int))))]) (S1 := [.int (iI 1)]) (ws1 := wLw g r u qn qt qv od kn kt1 kv sc ns tx tn pl1 v pa sd rr rq sv ap nw th rm rd hh o tx tn) rfl rfl rfl ?_
    refine J.wide (k := cells + 1) (n := slots + 6) hw1 hw2 ?_
    refine j_istore (L1 := [(5, .int (iI 1)), (0, .ref b0), (1, .ref (r 0)), (2, .ref (u 0)), (3, .ref od), (4, .int (iI (4 * (n : Int))))]) C dL_law_957 (by decide) rfl ?_
    refine j_aload_n C 3 dL_law_959 rfl rfl ?_
    refine j_aload_n C 1 dL_law_960 rfl rfl ?_
    refine j_iload C 5 dL_law_961 rfl ?_
    refine j_iconst C dL_law_963 ?_
    refine j_iadd C dL_law_964 ?_
    refine j_sld C hX hbl hbA (4 * n + 1) (by omega) (by omega) (by omega) e1 dL_law_965 ?_
    refine j_callV (As := [.int (iI x1)]) (rest := []) C yv_X5_value qw860 (c_X5_value_n1 l g u v pa sd tx rr rq sv (tn : Int) th (ap : Int) rm rd (nw : Int) hh x1 hm hsv (by omega) (by omega)) (by decide) 0 rfl rfl rfl dL_law_966 rfl (Nat.le_of_ble_eq_true rfl) hcA (pfR ([(u 3, aL g 75 sd), (u 4, aI g 60 tx), (u 5, aI g 10 rr), (u 6, aI g 4 rq)] ++ ((od, aL g 1 (o)) :: wTp g r qn qt qv kn kt1 kv sc ns tx tn pl1))) rfl (fun r9 w9 hq9 => ?_)
    obtain ⟨rfl, rfl⟩ := hq9
    refine J.to (L1 := [(5, .int (iI 1)), (0, .ref b0), (1, .ref (r 0)), (2, .ref (u 0)), (3, .ref od), (4, .int (iI (4 * (n : Int))))]) (S1 := [.int (iI 0)]) (ws1 := wLw g r u qn qt qv od kn kt1 kv sc ns tx tn pl1 v pa sd rr rq sv ap nw 1 rm rd hh o tx tn) rfl rfl rfl ?_
    refine J.wide (k := (cells + 1)) (n := (slots + 6)) (Nat.le_refl _) (Nat.le_refl _) ?_
    refine j_istore (L1 := [(6, .int (iI 0)), (5, .int (iI 1)), (0, .ref b0), (1, .ref (r 0)), (2, .ref (u 0)), (3, .ref od), (4, .int (iI (4 * (n : Int))))]) C dL_law_969 (by decide) rfl ?_
    refine j_aload_n C 4 dL_law_971 rfl rfl ?_
    refine j_callV (As := []) (rest := []) C yv_X5_thrown qw706 (c_X5_thrown l g u v (sv : Int) (tn : Int) 1 (ap : Int) rm rd (nw : Int) hh) (by decide) 0 rfl rfl rfl dL_law_972 rfl (Nat.le_of_ble_eq_true rfl) hcA (pfR ([(u 1, aL g 75 v), (u 2, aL g 300 pa), (u 3, aL g 75 sd), (u 4, aI g 60 tx), (u 5, aI g 10 rr), (u 6, aI g 4 rq)] ++ ((od, aL g 1 (o)) :: wTp g r qn qt qv kn kt1 kv sc ns tx tn pl1))) rfl (fun r9 w9 hq9 => ?_)
    obtain ⟨rfl, rfl⟩ := hq9
    refine J.to (L1 := [(6, .int (iI 0)), (5, .int (iI 1)), (0, .ref b0), (1, .ref (r 0)), (2, .ref (u 0)), (3, .ref od), (4, .int (iI (4 * (n : Int))))]) (S1 := [.int (iI 1)]) (ws1 := wLw g r u qn qt qv od kn kt1 kv sc ns tx tn pl1 v pa sd rr rq sv ap nw 1 rm rd hh o tx tn) rfl rfl rfl ?_
    refine J.wide (k := (cells + 1)) (n := (slots + 6)) (Nat.le_refl _) (Nat.le_refl _) ?_
    refine j_iload C 1 dL_law_975 rfl ?_
    refine j_isame (tgt := 982) C rfl dL_law_977 (by decide) ?_
    refine j_iload C 1 dL_law_982 rfl ?_
    refine j_if_ne (tgt := 999) C (by decide) dL_law_984 (by decide) (fun _ => ?_) (fun h9 => absurd h9 (by decide))
    refine j_goto (tgt := 1603) C dL_law_999 (by decide) ?_
    refine J.sub (L1 := [(0, .ref b0), (1, .ref (r 0)), (2, .ref (u 0)), (3, .ref od), (4, .int (iI (4 * (n : Int))))]) [2, 3, 4, 5, 6] rfl ?_
    exact kk kn kt1 kv sc ns tx tn pl1 v pa sd rr rq sv ap nw 1 rm rd hh o hI.next
set_option maxRecDepth 100000 in
set_option maxHeartbeats 4000000 in
theorem law_13 {p : Program} {l : Launch} {e : Env} {s : State} {m : MethodId} {args : Array Value} {below : List Frame} {meth : Method} {c : Code} {g : Gh} {A : Nat → Prop} {r u : Nat → Nat} {qn qt : Nat → Nat} {qv : Nat → Nat → Nat} {od b0 n0 n : Nat} {xs : Nat → Int32} {Q : State → Prop} {cells slots : Nat} (C : Cx p g s m args c cL_law 9 RL A) (hl : l.stackTraces = false) (hX : va_X b0 n0 xs s s.heap) (hbl : b0 < s.heap.size) (hbA : ¬ A b0) (hn0 : n0 ≤ 2048) (hn : 4 * n + 3 < n0) (hc : cells + 1 ≤ room_1.cells ∧ slots + 6 ≤ room_1.slots) (kk : LJ p l e s m args below meth c g A r u qn qt qv od b0 Q 1603 (n + 1) (4 * (n : Int)) (cells + 1) (slots + 6)) : LJ p l e s m args below meth c g A r u qn qt qv od b0 Q 1002 n (4 * (n : Int)) cells slots := by
  intro kn kt kv sc ns tx tn pl v pa sd rr rq sv ap nw th rm rd hh o hI
  have hR := hI.2.2.2.1
  have hk := hI.1.1.1
  have hm := rel_ok hR hk
  have hscv := hI.2.2.2.2.2.1.1
  have hsv : sv ≤ 4 := hI.2.2.2.2.2.1.2
  have hns := hI.1.2.2.2.1
  have htn := hI.1.2.2.2.2.1
  have htx := hI.1.2.2.2.2.2
  have r2 := hR.1 2 (by decide)
  have hk2 := hk.1
  have hcA : cells + 1 + 0 ≤ room_1.cells ∧ slots + 6 + 0 ≤ room_1.slots := hc
  have hc0 : cells + 0 ≤ room_1.cells ∧ slots + 0 ≤ room_1.slots := ⟨Nat.le_of_succ_le hc.1, by omega⟩
  have hv1 : cells + 0 ≤ cells + 1 := Nat.le_add_right cells 1
  have hv2 : slots + 0 ≤ slots + 6 := Nat.le_add_right slots 6
  have hw1 : cells + 1 ≤ cells + 1 := Nat.le_refl _
  have hw2 : slots + 6 ≤ slots + 6 := Nat.le_refl _
  obtain ⟨x1, e1⟩ : ∃ x1 : Int, (xs (4 * n + 1)).toInt = x1 := ⟨_, rfl⟩
  have h1 := rngI (xs (4 * n + 1))
  rw [e1] at h1
  by_cases qb : x1 = 0
  · refine j_aload_n C 1 dL_law_1002 rfl rfl ?_
    refine j_aload_n C 0 dL_law_1003 rfl rfl ?_
    refine j_iload C 4 dL_law_1004 rfl ?_
    refine j_iconst C dL_law_1006 ?_
    refine j_iadd C dL_law_1007 ?_
    refine j_sld C hX hbl hbA (4 * n + 1) (by omega) (by omega) (by omega) e1 dL_law_1008 ?_
    refine j_if_eq (tgt := 1016) C (by omega) dL_law_1009 (by decide) (fun _ => ?_) (fun h9 => absurd h9 (by omega))
    refine j_iconst C dL_law_1016 ?_
    refine j_callV (As := [.int (iI 0)]) (rest := []) C yv_X4_work qw150 (c_X4_work l g r qn qt qv kn kt kv sc ns tx tn pl false hI.1) (by decide) 8 rfl rfl rfl dL_law_1017 rfl (Nat.le_of_ble_eq_true rfl) hc0 (pfL (wMd g u v pa sd tx rr rq (sv : Int) (tn : Int) th (ap : Int) rm rd (nw : Int) hh ++ [(od, aL g 1 (o))])) rfl (fun r9 w9 hq9 => ?_)
    obtain ⟨rfl, rfl⟩ := hq9
    refine J.to (L1 := [(0, .ref b0), (1, .ref (r 0)), (2, .ref (u 0)), (3, .ref od), (4, .int (iI (4 * (n : Int))))]) (S1 := [.long (lI (if false then kn 0 8 else kn 0 7))]) (ws1 := wLw g r u qn qt qv od kn kt kv sc ns tx tn pl v pa sd rr rq sv ap nw th rm rd hh o tx tn) rfl rfl rfl ?_
    refine J.wide (k := cells) (n := slots) (Nat.le_refl _) (Nat.le_refl _) ?_
    refine j_aload_n C 2 dL_law_1020 rfl rfl ?_
    refine j_aload_n C 0 dL_law_1021 rfl rfl ?_
    refine j_iload C 4 dL_law_1022 rfl ?_
    refine j_iconst C dL_law_1024 ?_
    refine j_iadd C dL_law_1025 ?_
    refine j_sld C hX hbl hbA (4 * n + 1) (by omega) (by omega) (by omega) e1 dL_law_1026 ?_
    refine j_if_eq (tgt := 1034) C (by omega) dL_law_1027 (by decide) (fun _ => ?_) (fun h9 => absurd h9 (by omega))
    refine j_iconst C dL_law_1034 ?_
    refine j_callV (As := [.int (iI 0)]) (rest := [.long (lI (if false then kn 0 8 else kn 0 7))]) C yv_X5_work qw869 (c_X5_work l g u v pa sd tx rr rq sv (tn : Int) th (ap : Int) rm rd (nw : Int) hh false hm hsv) (by decide) 0 rfl rfl rfl dL_law_1035 rfl (Nat.le_of_ble_eq_true rfl) hc0 (pfR ([(u 3, aL g 75 sd), (u 4, aI g 60 tx), (u 5, aI g 10 rr), (u 6, aI g 4 rq)] ++ ((od, aL g 1 (o)) :: wTp g r qn qt qv kn kt kv sc ns tx tn pl))) rfl (fun r9 w9 hq9 => ?_)
    obtain ⟨rfl, rfl⟩ := hq9
    refine J.to (L1 := [(0, .ref b0), (1, .ref (r 0)), (2, .ref (u 0)), (3, .ref od), (4, .int (iI (4 * (n : Int))))]) (S1 := [.long (lI (if false then v 8 else v 7)), .long (lI (if false then kn 0 8 else kn 0 7))]) (ws1 := wLw g r u qn qt qv od kn kt kv sc ns tx tn pl v pa sd rr rq sv ap nw 0 rm rd hh o tx tn) rfl rfl rfl ?_
    refine J.wide (k := cells) (n := slots) (Nat.le_refl _) (Nat.le_refl _) ?_
    have heq : (if false then kn 0 8 else kn 0 7 : Int) = (if false then v 8 else v 7) := by rw [hR.1 7 (by decide), hR.1 8 (by decide)]
    refine j_lsame (tgt := 1603) C heq dL_law_1038 dL_law_1039 (by decide) ?_
    refine J.wide (k := cells + 1) (n := slots + 6) (Nat.le_add_right cells 1) (Nat.le_add_right slots 6) ?_
    exact kk kn kt kv sc ns tx tn pl v pa sd rr rq sv ap nw 0 rm rd hh o hI.next
  · refine j_aload_n C 1 dL_law_1002 rfl rfl ?_
    refine j_aload_n C 0 dL_law_1003 rfl rfl ?_
    refine j_iload C 4 dL_law_1004 rfl ?_
    refine j_iconst C dL_law_1006 ?_
    refine j_iadd C dL_law_1007 ?_
    refine j_sld C hX hbl hbA (4 * n + 1) (by omega) (by omega) (by omega) e1 dL_law_1008 ?_
    refine j_if_eq (tgt := 1016) C (by omega) dL_law_1009 (by decide) (fun h9 => absurd h9 (by omega)) (fun _ => ?_)
    refine j_iconst C dL_law_1012 ?_
    refine j_goto (tgt := 1017) C dL_law_1013 (by decide) ?_
    refine j_callV (As := [.int (iI 1)]) (rest := []) C yv_X4_work qw150 (c_X4_work l g r qn qt qv kn kt kv sc ns tx tn pl true hI.1) (by decide) 8 rfl rfl rfl dL_law_1017 rfl (Nat.le_of_ble_eq_true rfl) hc0 (pfL (wMd g u v pa sd tx rr rq (sv : Int) (tn : Int) th (ap : Int) rm rd (nw : Int) hh ++ [(od, aL g 1 (o))])) rfl (fun r9 w9 hq9 => ?_)
    obtain ⟨rfl, rfl⟩ := hq9
    refine J.to (L1 := [(0, .ref b0), (1, .ref (r 0)), (2, .ref (u 0)), (3, .ref od), (4, .int (iI (4 * (n : Int))))]) (S1 := [.long (lI (if true then kn 0 8 else kn 0 7))]) (ws1 := wLw g r u qn qt qv od kn kt kv sc ns tx tn pl v pa sd rr rq sv ap nw th rm rd hh o tx tn) rfl rfl rfl ?_
    refine J.wide (k := cells) (n := slots) (Nat.le_refl _) (Nat.le_refl _) ?_
    refine j_aload_n C 2 dL_law_1020 rfl rfl ?_
    refine j_aload_n C 0 dL_law_1021 rfl rfl ?_
    refine j_iload C 4 dL_law_1022 rfl ?_
    refine j_iconst C dL_law_1024 ?_
    refine j_iadd C dL_law_1025 ?_
    refine j_sld C hX hbl hbA (4 * n + 1) (by omega) (by omega) (by omega) e1 dL_law_1026 ?_
    refine j_if_eq (tgt := 1034) C (by omega) dL_law_1027 (by decide) (fun h9 => absurd h9 (by omega)) (fun _ => ?_)
    refine j_iconst C dL_law_1030 ?_
    refine j_goto (tgt := 1035) C dL_law_1031 (by decide) ?_
    refine j_callV (As := [.int (iI 1)]) (rest := [.long (lI (if true then kn 0 8 else kn 0 7))]) C yv_X5_work qw869 (c_X5_work l g u v pa sd tx rr rq sv (tn : Int) th (ap : Int) rm rd (nw : Int) hh true hm hsv) (by decide) 0 rfl rfl rfl dL_law_1035 rfl (Nat.le_of_ble_eq_true rfl) hc0 (pfR ([(u 3, aL g 75 sd), (u 4, aI g 60 tx), (u 5, aI g 10 rr), (u 6, aI g 4 rq)] ++ ((od, aL g 1 (o)) :: wTp g r qn qt qv kn kt kv sc ns tx tn pl))) rfl (fun r9 w9 hq9 => ?_)
    obtain ⟨rfl, rfl⟩ := hq9
    refine J.to (L1 := [(0, .ref b0), (1, .ref (r 0)), (2, .ref (u 0)), (3, .ref od), (4, .int (iI (4 * (n : Int))))]) (S1 := [.long (lI (if true then v 8 else v 7)), .long (lI (if true then kn 0 8 else kn 0 7))]) (ws1 := wLw g r u qn qt qv od kn kt kv sc ns tx tn pl v pa sd rr rq sv ap nw 0 rm rd hh o tx tn) rfl rfl rfl ?_
    refine J.wide (k := cells) (n := slots) (Nat.le_refl _) (Nat.le_refl _) ?_
    have heq : (if true then kn 0 8 else kn 0 7 : Int) = (if true then v 8 else v 7) := by rw [hR.1 7 (by decide), hR.1 8 (by decide)]
    refine j_lsame (tgt := 1603) C heq dL_law_1038 dL_law_1039 (by decide) ?_
    refine J.wide (k := cells + 1) (n := slots + 6) (Nat.le_add_right cells 1) (Nat.le_add_right slots 6) ?_
    exact kk kn kt kv sc ns tx tn pl v pa sd rr rq sv ap nw 0 rm rd hh o hI.next
