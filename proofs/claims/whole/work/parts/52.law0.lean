/-! the law's loop: what stands at its places -/
abbrev wLw (g : Gh) (r u : Nat → Nat) (qn qt : Nat → Nat) (qv : Nat → Nat → Nat) (od : Nat) (kn kt : Nat → Nat → Int) (kv : Nat → Nat → Nat → Int) (sc : Int) (ns : Nat) (tx : Nat → Int) (tn : Nat) (pl : Int) (v pa sd rr rq : Nat → Int) (sv ap nw : Nat) (th rm rd hh : Int) (o : Nat → Int) (tm : Nat → Int) (ln : Nat) : va_W := wMd g u v pa sd tm rr rq (sv : Int) (ln : Int) th (ap : Int) rm rd (nw : Int) hh ++ ((od, aL g 1 o) :: wTp g r qn qt qv kn kt kv sc ns tx tn pl)
/-- behind n calls, at pc, with x in the loop's variable: from every state that fits, on to Q -/
def LJ (p : Program) (l : Launch) (e : Env) (s : State) (m : MethodId) (args : Array Value) (below : List Frame) (meth : Method) (c : Code) (g : Gh) (A : Nat → Prop) (r u : Nat → Nat) (qn qt : Nat → Nat) (qv : Nat → Nat → Nat) (od b : Nat) (Q : State → Prop) (pc n : Nat) (x : Int) (cells slots : Nat) : Prop := ∀ (kn kt : Nat → Nat → Int) (kv : Nat → Nat → Nat → Int) (sc : Int) (ns : Nat) (tx : Nat → Int) (tn : Nat) (pl : Int) (v pa sd rr rq : Nat → Int) (sv ap nw : Nat) (th rm rd hh : Int) (o : Nat → Int), LI kn kv sc ns tx tn v pa sv n → J p l e room_1 s m args below meth c g A 9 pc [(0, .ref b), (1, .ref (r 0)), (2, .ref (u 0)), (3, .ref od), (4, .int (iI x))] [] (wLw g r u qn qt qv od kn kt kv sc ns tx tn pl v pa sd rr rq sv ap nw th rm rd hh o tx tn) cells slots Q
theorem pfR (post : va_W) : ∀ w : va_W, (w ++ post).Perm (w ++ post) := fun w => List.Perm.refl _
theorem rngI (y : Int32) : -2147483648 ≤ y.toInt ∧ y.toInt < 2147483648 := ⟨y.le_toInt, y.toInt_lt⟩
theorem passVF {kn : Nat → Nat → Int} {v : Nat → Int} (h : RelS kn v) : passF kn = passV v := by
  show 2 * kn 0 2 + (if kn 0 3 = 4 then 0 else 1) = 2 * v 2 + (if v 3 = 4 then 0 else 1)
  rw [h.1 2 (by decide), h.1 3 (by decide)]
set_option maxRecDepth 100000 in
set_option maxHeartbeats 4000000 in
theorem law_0 {p : Program} {l : Launch} {e : Env} {s : State} {m : MethodId} {args : Array Value} {below : List Frame} {meth : Method} {c : Code} {g : Gh} {A : Nat → Prop} {r u : Nat → Nat} {qn qt : Nat → Nat} {qv : Nat → Nat → Nat} {od b0 n0 n : Nat} {xs : Nat → Int32} {Q : State → Prop} {cells slots : Nat} (C : Cx p g s m args c cL_law 9 RL A) (hl : l.stackTraces = false) (hX : va_X b0 n0 xs s s.heap) (hbl : b0 < s.heap.size) (hbA : ¬ A b0) (hn0 : n0 ≤ 2048) (hn : 4 * n + 3 < n0) (hc : cells + 1 ≤ room_1.cells ∧ slots + 6 ≤ room_1.slots) (kk : LJ p l e s m args below meth c g A r u qn qt qv od b0 Q 1603 (n + 1) (4 * (n : Int)) (cells + 1) (slots + 6)) : LJ p l e s m args below meth c g A r u qn qt qv od b0 Q 160 n (4 * (n : Int)) cells slots := by
  intro kn kt kv sc ns tx tn pl v pa sd rr rq sv ap nw th rm rd hh o hI
  have hR := hI.2.2.2.1
  have hk := hI.1.1.1
  have hm := rel_ok hR hk
  have hscv := hI.2.2.2.2.2.1.1
  have hsv : sv ≤ 4 := hI.2.2.2.2.2.1.2
  have hns := hI.1.2.2.2.1
  have htn := hI.1.2.2.2.2.1
  have htx := hI.1.2.2.2.2.2
  have r2 := hR.1 2 (by decide)
  have hk2 := hk.1
  have hcA : cells + 1 + 0 ≤ room_1.cells ∧ slots + 6 + 0 ≤ room_1.slots := hc
  have hc0 : cells + 0 ≤ room_1.cells ∧ slots + 0 ≤ room_1.slots := ⟨Nat.le_of_succ_le hc.1, by omega⟩
  have hv1 : cells + 0 ≤ cells + 1 := Nat.le_add_right cells 1
  have hv2 : slots + 0 ≤ slots + 6 := Nat.le_add_right slots 6
  have hw1 : cells + 1 ≤ cells + 1 := Nat.le_refl _
  have hw2 : slots + 6 ≤ slots + 6 := Nat.le_refl _
  obtain ⟨x1, e1⟩ : ∃ x1 : Int, (xs (4 * n + 1)).toInt = x1 := ⟨_, rfl⟩
  have h1 := rngI (xs (4 * n + 1))
  rw [e1] at h1
  obtain ⟨x2, e2⟩ : ∃ x2 : Int, (xs (4 * n + 2)).toInt = x2 := ⟨_, rfl⟩
  have h2 := rngI (xs (4 * n + 2))
  rw [e2] at h2
  by_cases q1 : 0 ≤ x1 ∧ x1 < 4
  · by_cases q2 : 0 ≤ x2 ∧ x2 ≤ 50000
    · refine j_aload_n C 1 dL_law_160 rfl rfl ?_
      refine j_aload_n C 0 dL_law_161 rfl rfl ?_
      refine j_iload C 4 dL_law_162 rfl ?_
      refine j_iconst C dL_law_164 ?_
      refine j_iadd C dL_law_165 ?_
      refine j_sld C hX hbl hbA (4 * n + 1) (by omega) (by omega) (by omega) e1 dL_law_166 ?_
      refine j_aload_n C 0 dL_law_167 rfl rfl ?_
      refine j_iload C 4 dL_law_168 rfl ?_
      refine j_iconst C dL_law_170 ?_
      refine j_iadd C dL_law_171 ?_
      refine j_sld C hX hbl hbA (4 * n + 2) (by omega) (by omega) (by omega) e2 dL_law_172 ?_
      refine j_aload_n C 3 dL_law_173 rfl rfl ?_
      refine j_callSW (As := [.ref (r 0), .int (iI x1), .int (iI x2), .ref od]) (rest := []) C yw_L_setWeight qw428 (w_setWeight_0 l g r qn qt qv kn kt kv sc ns tx tn pl od o x1 x2 hI.1 (by omega) (by omega)) (by decide) rfl dL_law_174 rfl (Nat.le_of_ble_eq_true rfl) hc0 (pfL (wMd g u v pa sd tx rr rq (sv : Int) (tn : Int) th (ap : Int) rm rd (nw : Int) hh)) rfl (fun r9 w9 hq9 => ?_)
      obtain ⟨rfl, kt1, pl1, rfl⟩ := hq9
      refine J.to (L1 := [(0, .ref b0), (1, .ref (r 0)), (2, .ref (u 0)), (3, .ref od), (4, .int (iI (4 * (n : Int))))]) (S1 := [.int (iI 0)]) (ws1 := wLw g r u qn qt qv od (va_up kn 3 (va_up (kn 3) x1.toNat x2)) kt1 (svk kn kv ns) (svs sc) (svn ns) tx tn pl1 v pa sd rr rq sv ap nw th rm rd hh (va_up o 0 (w32 ((kn 3 x1.toNat)))) tx tn) rfl rfl rfl ?_
      refine J.wide (k := cells + 1) (n := slots + 6) hv1 hv2 ?_
      refine j_istore (L1 := [(5, .int (iI 0)), (0, .ref b0), (1, .ref (r 0)), (2, .ref (u 0)), (3, .ref od), (4, .int (iI (4 * (n : Int))))]) C dL_law_177 (by decide) rfl ?_
      refine j_aload_n C 3 dL_law_179 rfl rfl ?_
      refine j_aload_n C 1 dL_law_180 rfl rfl ?_
      refine j_iload C 5 dL_law_181 rfl ?_
      refine j_iconst C dL_law_183 ?_
      refine j_iadd C dL_law_184 ?_
      refine j_sld C hX hbl hbA (4 * n + 1) (by omega) (by omega) (by omega) e1 dL_law_185 ?_
      refine j_aload_n C 1 dL_law_186 rfl rfl ?_
      refine j_iload C 5 dL_law_187 rfl ?_
      refine j_iconst C dL_law_189 ?_
      refine j_iadd C dL_law_190 ?_
      refine j_sld C hX hbl hbA (4 * n + 2) (by omega) (by omega) (by omega) e2 dL_law_191 ?_
      refine j_callV (As := [.int (iI x1), .int (iI x2)]) (rest := []) C yv_X5_setWeight qw710 (c_X5_setWeight_ok l g u v pa sd tx rr rq sv (tn : Int) th (ap : Int) rm rd (nw : Int) hh x1 x2 hm hsv (by omega) (by omega)) (by decide) 0 rfl rfl rfl dL_law_192 rfl (Nat.le_of_ble_eq_true rfl) hcA (pfR ([(u 3, aL g 75 sd), (u 4, aI g 60 tx), (u 5, aI g 10 rr), (u 6, aI g 4 rq)] ++ ((od, aL g 1 (va_up o 0 (w32 ((kn 3 x1.toNat))))) :: wTp g r qn qt qv (va_up kn 3 (va_up (kn 3) x1.toNat x2)) kt1 (svk kn kv ns) (svs sc) (svn ns) tx tn pl1))) rfl (fun r9 w9 hq9 => ?_)
      obtain ⟨rfl, rfl⟩ := hq9
      refine J.to (L1 := [(5, .int (iI 0)), (0, .ref b0), (1, .ref (r 0)), (2, .ref (u 0)), (3, .ref od), (4, .int (iI (4 * (n : Int))))]) (S1 := [.int (iI (v (9 + x1.toNat)))]) (ws1 := wLw g r u qn qt qv od (va_up kn 3 (va_up (kn 3) x1.toNat x2)) kt1 (svk kn kv ns) (svs sc) (svn ns) tx tn pl1 (va_up v (9 + x1.toNat) x2) (svP v pa sv) sd rr rq (svN sv) ap nw 0 rm rd hh (va_up o 0 (w32 ((kn 3 x1.toNat)))) tx tn) rfl rfl rfl ?_
      refine J.wide (k := (cells + 1)) (n := (slots + 6)) (Nat.le_refl _) (Nat.le_refl _) ?_
      refine j_istore (L1 := [(6, .int (iI (v (9 + x1.toNat)))), (5, .int (iI 0)), (0, .ref b0), (1, .ref (r 0)), (2, .ref (u 0)), (3, .ref od), (4, .int (iI (4 * (n : Int))))]) C dL_law_195 (by decide) rfl ?_
      refine j_aload_n C 4 dL_law_197 rfl rfl ?_
      refine j_callV (As := []) (rest := []) C yv_X5_thrown qw706 (c_X5_thrown l g u (va_up v (9 + x1.toNat) x2) ((svN sv : Nat) : Int) (tn : Int) 0 (ap : Int) rm rd (nw : Int) hh) (by decide) 0 rfl rfl rfl dL_law_198 rfl (Nat.le_of_ble_eq_true rfl) hcA (pfR ([(u 1, aL g 75 (va_up v (9 + x1.toNat) x2)), (u 2, aL g 300 (svP v pa sv)), (u 3, aL g 75 sd), (u 4, aI g 60 tx), (u 5, aI g 10 rr), (u 6, aI g 4 rq)] ++ ((od, aL g 1 (va_up o 0 (w32 ((kn 3 x1.toNat))))) :: wTp g r qn qt qv (va_up kn 3 (va_up (kn 3) x1.toNat x2)) kt1 (svk kn kv ns) (svs sc) (svn ns) tx tn pl1))) rfl (fun r9 w9 hq9 => ?_)
      obtain ⟨rfl, rfl⟩ := hq9
      refine J.to (L1 := [(6, .int (iI (v (9 + x1.toNat)))), (5, .int (iI 0)), (0, .ref b0), (1, .ref (r 0)), (2, .ref (u 0)), (3, .ref od), (4, .int (iI (4 * (n : Int))))]) (S1 := [.int (iI 0)]) (ws1 := wLw g r u qn qt qv od (va_up kn 3 (va_up (kn 3) x1.toNat x2)) kt1 (svk kn kv ns) (svs sc) (svn ns) tx tn pl1 (va_up v (9 + x1.toNat) x2) (svP v pa sv) sd rr rq (svN sv) ap nw 0 rm rd hh (va_up o 0 (w32 ((kn 3 x1.toNat)))) tx tn) rfl rfl rfl ?_
      refine J.wide (k := (cells + 1)) (n := (slots + 6)) (Nat.le_refl _) (Nat.le_refl _) ?_
      refine j_iload C 1 dL_law_201 rfl ?_
      refine j_isame (tgt := 208) C rfl dL_law_203 (by decide) ?_
      refine j_iload C 1 dL_law_208 rfl ?_
      refine j_if_ne (tgt := 225) C (by decide) dL_law_210 (by decide) (fun h9 => absurd h9 (by decide)) (fun _ => ?_)
      refine j_aload_n C 5 dL_law_213 rfl rfl ?_
      refine j_iconst C dL_law_214 ?_
      refine j_lald (f := va_up o 0 (w32 ((kn 3 x1.toNat)))) C 7 0 rfl rfl (by decide) (by decide) dL_law_215 ?_
      refine J.to (L1 := [(6, .int (iI (v (9 + x1.toNat)))), (5, .int (iI 0)), (0, .ref b0), (1, .ref (r 0)), (2, .ref (u 0)), (3, .ref od), (4, .int (iI (4 * (n : Int))))]) (S1 := [.long (lI (w32 ((kn 3 x1.toNat))))]) (ws1 := wLw g r u qn qt qv od (va_up kn 3 (va_up (kn 3) x1.toNat x2)) kt1 (svk kn kv ns) (svs sc) (svn ns) tx tn pl1 (va_up v (9 + x1.toNat) x2) (svP v pa sv) sd rr rq (svN sv) ap nw 0 rm rd hh (va_up o 0 (w32 ((kn 3 x1.toNat)))) tx tn) rfl rfl rfl ?_
      refine j_iload C 0 dL_law_216 rfl ?_
      refine j_i2lw C dL_law_218 ?_
      have heq : ((kn 3 x1.toNat) : Int) = (v (9 + x1.toNat)) := hR.2.2.1 x1.toNat (by omega)
      refine j_lsame (tgt := 225) C (congrArg w32 heq) dL_law_219 dL_law_220 (by decide) ?_
      refine j_goto (tgt := 1603) C dL_law_225 (by decide) ?_
      refine J.sub (L1 := [(0, .ref b0), (1, .ref (r 0)), (2, .ref (u 0)), (3, .ref od), (4, .int (iI (4 * (n : Int))))]) [2, 3, 4, 5, 6] rfl ?_
      exact kk (va_up kn 3 (va_up (kn 3) x1.toNat x2)) kt1 (svk kn kv ns) (svs sc) (svn ns) tx tn pl1 (va_up v (9 + x1.toNat) x2) (svP v pa sv) sd rr rq (svN sv) ap nw 0 rm rd hh (va_up o 0 (w32 ((kn 3 x1.toNat)))) (hI.w q1 q2)
    · refine j_aload_n C 1 dL_law_160 rfl rfl ?_
      refine j_aload_n C 0 dL_law_161 rfl rfl ?_
      refine j_iload C 4 dL_law_162 rfl ?_
      refine j_iconst C dL_law_164 ?_
      refine j_iadd C dL_law_165 ?_
      refine j_sld C hX hbl hbA (4 * n + 1) (by omega) (by omega) (by omega) e1 dL_law_166 ?_
      refine j_aload_n C 0 dL_law_167 rfl rfl ?_
      refine j_iload C 4 dL_law_168 rfl ?_
      refine j_iconst C dL_law_170 ?_
      refine j_iadd C dL_law_171 ?_
      refine j_sld C hX hbl hbA (4 * n + 2) (by omega) (by omega) (by omega) e2 dL_law_172 ?_
      refine j_aload_n C 3 dL_law_173 rfl rfl ?_
      refine j_callSW (As := [.ref (r 0), .int (iI x1), .int (iI x2), .ref od]) (rest := []) C yw_L_setWeight qw428 (w_setWeight_2 l hl g r qn qt qv kn kt kv sc ns tx tn pl od o x1 x2 hI.1 (by omega) (by omega) (by omega) (by omega)) (by decide) rfl dL_law_174 rfl (Nat.le_of_ble_eq_true rfl) hc (pfL (wMd g u v pa sd tx rr rq (sv : Int) (tn : Int) th (ap : Int) rm rd (nw : Int) hh)) rfl (fun r9 w9 hq9 => ?_)
      obtain ⟨rfl, kt1, pl1, rfl⟩ := hq9
      refine J.to (L1 := [(0, .ref b0), (1, .ref (r 0)), (2, .ref (u 0)), (3, .ref od), (4, .int (iI (4 * (n : Int))))]) (S1 := [.int (iI 2)]) (ws1 := wLw g r u qn qt qv od kn kt1 kv sc ns tx tn pl1 v pa sd rr rq sv ap nw th rm rd hh o tx tn) rfl rfl rfl ?_
      refine J.wide (k := cells + 1) (n := slots + 6) hw1 hw2 ?_
      refine j_istore (L1 := [(5, .int (iI 2)), (0, .ref b0), (1, .ref (r 0)), (2, .ref (u 0)), (3, .ref od), (4, .int (iI (4 * (n : Int))))]) C dL_law_177 (by decide) rfl ?_
      refine j_aload_n C 3 dL_law_179 rfl rfl ?_
      refine j_aload_n C 1 dL_law_180 rfl rfl ?_
      refine j_iload C 5 dL_law_181 rfl ?_
      refine j_iconst C dL_law_183 ?_
      refine j_iadd C dL_law_184 ?_
      refine j_sld C hX hbl hbA (4 * n + 1) (by omega) (by omega) (by omega) e1 dL_law_185 ?_
      refine j_aload_n C 1 dL_law_186 rfl rfl ?_
      refine j_iload C 5 dL_law_187 rfl ?_
      refine j_iconst C dL_law_189 ?_
      refine j_iadd C dL_law_190 ?_
      refine j_sld C hX hbl hbA (4 * n + 2) (by omega) (by omega) (by omega) e2 dL_law_191 ?_
      refine j_callV (As := [.int (iI x1), .int (iI x2)]) (rest := []) C yv_X5_setWeight qw710 (c_X5_setWeight_n2 l g u v pa sd tx rr rq sv (tn : Int) th (ap : Int) rm rd (nw : Int) hh x1 x2 hm hsv (by omega) (by omega) (by omega) (by omega)) (by decide) 0 rfl rfl rfl dL_law_192 rfl (Nat.le_of_ble_eq_true rfl) hcA (pfR ([(u 3, aL g 75 sd), (u 4, aI g 60 tx), (u 5, aI g 10 rr), (u 6, aI g 4 rq)] ++ ((od, aL g 1 (o)) :: wTp g r qn qt qv kn kt1 kv sc ns tx tn pl1))) rfl (fun r9 w9 hq9 => ?_)
      obtain ⟨rfl, rfl⟩ := hq9
      refine J.to (L1 := [(5, .int (iI 2)), (0, .ref b0), (1, .ref (r 0)), (2, .ref (u 0)), (3, .ref od), (4, .int (iI (4 * (n : Int))))]) (S1 := [.int (iI 0)]) (ws1 := wLw g r u qn qt qv od kn kt1 kv sc ns tx tn pl1 v pa sd rr rq sv ap nw 2 rm rd hh o tx tn) rfl rfl rfl ?_
      refine J.wide (k := (cells + 1)) (n := (slots + 6)) (Nat.le_refl _) (Nat.le_refl _) ?_
      refine j_istore (L1 := [(6, .int (iI 0)), (5, .int (iI 2)), (0, .ref b0), (1, .ref (r 0)), (2, .ref (u 0)), (3, .ref od), (4, .int (iI (4 * (n : Int))))]) C dL_law_195 (by decide) rfl ?_
      refine j_aload_n C 4 dL_law_197 rfl rfl ?_
      refine j_callV (As := []) (rest := []) C yv_X5_thrown qw706 (c_X5_thrown l g u v (sv : Int) (tn : Int) 2 (ap : Int) rm rd (nw : Int) hh) (by decide) 0 rfl rfl rfl dL_law_198 rfl (Nat.le_of_ble_eq_true rfl) hcA (pfR ([(u 1, aL g 75 v), (u 2, aL g 300 pa), (u 3, aL g 75 sd), (u 4, aI g 60 tx), (u 5, aI g 10 rr), (u 6, aI g 4 rq)] ++ ((od, aL g 1 (o)) :: wTp g r qn qt qv kn kt1 kv sc ns tx tn pl1))) rfl (fun r9 w9 hq9 => ?_)
      obtain ⟨rfl, rfl⟩ := hq9
      refine J.to (L1 := [(6, .int (iI 0)), (5, .int (iI 2)), (0, .ref b0), (1, .ref (r 0)), (2, .ref (u 0)), (3, .ref od), (4, .int (iI (4 * (n : Int))))]) (S1 := [.int (iI 2)]) (ws1 := wLw g r u qn qt qv od kn kt1 kv sc ns tx tn pl1 v pa sd rr rq sv ap nw 2 rm rd hh o tx tn) rfl rfl rfl ?_
      refine J.wide (k := (cells + 1)) (n := (slots + 6)) (Nat.le_refl _) (Nat.le_refl _) ?_
      refine j_iload C 1 dL_law_201 rfl ?_
      refine j_isame (tgt := 208) C rfl dL_law_203 (by decide) ?_
      refine j_iload C 1 dL_law_208 rfl ?_
      refine j_if_ne (tgt := 225) C (by decide) dL_law_210 (by decide) (fun _ => ?_) (fun h9 => absurd h9 (by decide))
      refine j_goto (tgt := 1603) C dL_law_225 (by decide) ?_
      refine J.sub (L1 := [(0, .ref b0), (1, .ref (r 0)), (2, .ref (u 0)), (3, .ref od), (4, .int (iI (4 * (n : Int))))]) [2, 3, 4, 5, 6] rfl ?_
      exact kk kn kt1 kv sc ns tx tn pl1 v pa sd rr rq sv ap nw 2 rm rd hh o hI.next
  · refine j_aload_n C 1 dL_law_160 rfl rfl ?_
    refine j_aload_n C 0 dL_law_161 rfl rfl ?_
    refine j_iload C 4 dL_law_162 rfl ?_
    refine j_iconst C dL_law_164 ?_
    refine j_iadd C dL_law_165 ?_
    refine j_sld C hX hbl hbA (4 * n + 1) (by omega) (by omega) (by omega) e1 dL_law_166 ?_
    refine j_aload_n C 0 dL_law_167 rfl rfl ?_
    refine j_iload C 4 dL_law_168 rfl ?_
    refine j_iconst C dL_law_170 ?_
    refine j_iadd C dL_law_171 ?_
    refine j_sld C hX hbl hbA (4 * n + 2) (by omega) (by omega) (by omega) e2 dL_law_172 ?_
    refine j_aload_n C 3 dL_law_173 rfl rfl ?_
    refine j_callSW (As := [.ref (r 0), .int (iI x1), .int (iI x2), .ref od]) (rest := []) C yw_L_setWeight qw428 (w_setWeight_1 l hl g r qn qt qv kn kt kv sc ns tx tn pl od o x1 x2 hI.1 (by omega) (by omega) (by omega)) (by decide) rfl dL_law_174 rfl (Nat.le_of_ble_eq_true rfl) hc (pfL (wMd g u v pa sd tx rr rq (sv : Int) (tn : Int) th (ap : Int) rm rd (nw : Int) hh)) rfl (fun r9 w9 hq9 => ?_)
    obtain ⟨rfl, kt1, pl1, rfl⟩ := hq9
    refine J.to (L1 := [(0, .ref b0), (1, .ref (r 0)), (2, .ref (u 0)), (3, .ref od), (4, .int (iI (4 * (n : Int))))]) (S1 := [.int (iI 1)]) (ws1 := wLw g r u qn qt qv od kn kt1 kv sc ns tx tn pl1 v pa sd rr rq sv ap nw th rm rd hh o tx tn) rfl rfl rfl ?_
    refine J.wide (k := cells + 1) (n := slots + 6) hw1 hw2 ?_
    refine j_istore (L1 := [(5, .int (iI 1)), (0, .ref b0), (1, .ref (r 0)), (2, .ref (u 0)), (3, .ref od), (4, .int (iI (4 * (n : Int))))]) C dL_law_177 (by decide) rfl ?_
    refine j_aload_n C 3 dL_law_179 rfl rfl ?_
    refine j_aload_n C 1 dL_law_180 rfl rfl ?_
    refine j_iload C 5 dL_law_181 rfl ?_
    refine j_iconst C dL_law_183 ?_
    refine j_iadd C dL_law_184 ?_
    refine j_sld C hX hbl hbA (4 * n + 1) (by omega) (by omega) (by omega) e1 dL_law_185 ?_
    refine j_aload_n C 1 dL_law_186 rfl rfl ?_
    refine j_iload C 5 dL_law_187 rfl ?_
    refine j_iconst C dL_law_189 ?_
    refine j_iadd C dL_law_190 ?_
    refine j_sld C hX hbl hbA (4 * n + 2) (by omega) (by omega) (by omega) e2 dL_law_191 ?_
    refine j_callV (As := [.int (iI x1), .int (iI x2)]) (rest := []) C yv_X5_setWeight qw710 (c_X5_setWeight_n1 l g u v pa sd tx rr rq sv (tn : Int) th (ap : Int) rm rd (nw : Int) hh x1 x2 hm hsv (by omega) (by omega) (by omega)) (by decide) 0 rfl rfl rfl dL_law_192 rfl (Nat.le_of_ble_eq_true rfl) hcA (pfR ([(u 3, aL g 75 sd), (u 4, aI g 60 tx), (u 5, aI g 10 rr), (u 6, aI g 4 rq)] ++ ((od, aL g 1 (o)) :: wTp g r qn qt qv kn kt1 kv sc ns tx tn pl1))) rfl (fun r9 w9 hq9 => ?_)
    obtain ⟨rfl, rfl⟩ := hq9
    refine J.to (L1 := [(5, .int (iI 1)), (0, .ref b0), (1, .ref (r 0)), (2, .ref (u 0)), (3, .ref od), (4, .int (iI (4 * (n : Int))))]) (S1 := [.int (iI 0)]) (ws1 := wLw g r u qn qt qv od kn kt1 kv sc ns tx tn pl1 v pa sd rr rq sv ap nw 1 rm rd hh o tx tn) rfl rfl rfl ?_
    refine J.wide (k := (cells + 1)) (n := (slots + 6)) (Nat.le_refl _) (Nat.le_refl _) ?_
    refine j_istore (L1 := [(6, .int (iI 0)), (5, .int (iI 1)), (0, .ref b0), (1, .ref (r 0)), (2, .ref (u 0)), (3, .ref od), (4, .int (iI (4 * (n : Int))))]) C dL_law_195 (by decide) rfl ?_
    refine j_aload_n C 4 dL_law_197 rfl rfl ?_
    refine j_callV (As := []) (rest := []) C yv_X5_thrown qw706 (c_X5_thrown l g u v (sv : Int) (tn : Int) 1 (ap : Int) rm rd (nw : Int) hh) (by decide) 0 rfl rfl rfl dL_law_198 rfl (Nat.le_of_ble_eq_true rfl) hcA (pfR ([(u 1, aL g 75 v), (u 2, aL g 300 pa), (u 3, aL g 75 sd), (u 4, aI g 60 tx), (u 5, aI g 10 rr), (u 6, aI g 4 rq)] ++ ((od, aL g 1 (o)) :: wTp g r qn qt qv kn kt1 kv sc ns tx tn pl1))) rfl (fun r9 w9 hq9 => ?_)
    obtain ⟨rfl, rfl⟩ := hq9
    refine J.to (L1 := [(6, .int (iI 0)), (5, .int (iI 1)), (0, .ref b0), (1, .ref (r 0)), (2, .ref (u 0)), (3, .ref od), (4, .int (iI (4 * (n : Int))))]) (S1 := [.int (iI 1)]) (ws1 := wLw g r u qn qt qv od kn kt1 kv sc ns tx tn pl1 v pa sd rr rq sv ap nw 1 rm rd hh o tx tn) rfl rfl rfl ?_
    refine J.wide (k := (cells + 1)) (n := (slots + 6)) (Nat.le_refl _) (Nat.le_refl _) ?_
    refine j_iload C 1 dL_law_201 rfl ?_
    refine j_isame (tgt := 208) C rfl dL_law_203 (by decide) ?_
    refine j_iload C 1 dL_law_208 rfl ?_
    refine j_if_ne (tgt := 225) C (by decide) dL_law_210 (by decide) (fun _ => ?_) (fun h9 => absurd h9 (by decide))
    refine j_goto (tgt := 1603) C dL_law_225 (by decide) ?_
    refine J.sub (L1 := [(0, .ref b0), (1, .ref (r 0)), (2, .ref (u 0)), (3, .ref od), (4, .int (iI (4 * (n : Int))))]) [2, 3, 4, 5, 6] rfl ?_
    exact kk kn kt1 kv sc ns tx tn pl1 v pa sd rr rq sv ap nw 1 rm rd hh o hI.next
set_option maxRecDepth 100000 in
set_option maxHeartbeats 4000000 in
theorem law_1 {p : Program} {l : Launch} {e : Env} {s : State} {m : MethodId} {args : Array Value} {below : List Frame} {meth : Method} {c : Code} {g : Gh} {A : Nat → Prop} {r u : Nat → Nat} {qn qt : Nat → Nat} {qv : Nat → Nat → Nat} {od b0 n0 n : Nat} {xs : Nat → Int32} {Q : State → Prop} {cells slots : Nat} (C : Cx p g s m args c cL_law 9 RL A) (hl : l.stackTraces = false) (hX : va_X b0 n0 xs s s.heap) (hbl : b0 < s.heap.size) (hbA : ¬ A b0) (hn0 : n0 ≤ 2048) (hn : 4 * n + 3 < n0) (hc : cells + 1 ≤ room_1.cells ∧ slots + 6 ≤ room_1.slots) (kk : LJ p l e s m args below meth c g A r u qn qt qv od b0 Q 1603 (n + 1) (4 * (n : Int)) (cells + 1) (slots + 6)) : LJ p l e s m args below meth c g A r u qn qt qv od b0 Q 228 n (4 * (n : Int)) cells slots := by
  intro kn kt kv sc ns tx tn pl v pa sd rr rq sv ap nw th rm rd hh o hI
  have hR := hI.2.2.2.1
  have hk := hI.1.1.1
  have hm := rel_ok hR hk
  have hscv := hI.2.2.2.2.2.1.1
  have hsv : sv ≤ 4 := hI.2.2.2.2.2.1.2
  have hns := hI.1.2.2.2.1
  have htn := hI.1.2.2.2.2.1
  have htx := hI.1.2.2.2.2.2
  have r2 := hR.1 2 (by decide)
  have hk2 := hk.1
  have hcA : cells + 1 + 0 ≤ room_1.cells ∧ slots + 6 + 0 ≤ room_1.slots := hc
  have hc0 : cells + 0 ≤ room_1.cells ∧ slots + 0 ≤ room_1.slots := ⟨Nat.le_of_succ_le hc.1, by omega⟩
  have hv1 : cells + 0 ≤ cells + 1 := Nat.le_add_right cells 1
  have hv2 : slots + 0 ≤ slots + 6 := Nat.le_add_right slots 6
  have hw1 : cells + 1 ≤ cells + 1 := Nat.le_refl _
  have hw2 : slots + 6 ≤ slots + 6 := Nat.le_refl _
  obtain ⟨x1, e1⟩ : ∃ x1 : Int, (xs (4 * n + 1)).toInt = x1 := ⟨_, rfl⟩
  have h1 := rngI (xs (4 * n + 1))
  rw [e1] at h1
  by_cases q1 : 0 ≤ x1 ∧ x1 ≤ 30
  · refine j_aload_n C 1 dL_law_228 rfl rfl ?_
    refine j_aload_n C 0 dL_law_229 rfl rfl ?_
    refine j_iload C 4 dL_law_230 rfl ?_
    refine j_iconst C dL_law_232 ?_
    refine j_iadd C dL_law_233 ?_
    refine j_sld C hX hbl hbA (4 * n + 1) (by omega) (by omega) (by omega) e1 dL_law_234 ?_
    refine j_aload_n C 3 dL_law_235 rfl rfl ?_
    refine j_callSW (As := [.ref (r 0), .int (iI x1), .ref od]) (rest := []) C yw_L_setFriction qw443 (w_setFriction_0 l g r qn qt qv kn kt kv sc ns tx tn pl od o x1 hI.1 (by omega)) (by decide) rfl dL_law_236 rfl (Nat.le_of_ble_eq_true rfl) hc0 (pfL (wMd g u v pa sd tx rr rq (sv : Int) (tn : Int) th (ap : Int) rm rd (nw : Int) hh)) rfl (fun r9 w9 hq9 => ?_)
    obtain ⟨rfl, kt1, pl1, rfl⟩ := hq9
    refine J.to (L1 := [(0, .ref b0), (1, .ref (r 0)), (2, .ref (u 0)), (3, .ref od), (4, .int (iI (4 * (n : Int))))]) (S1 := [.int (iI 0)]) (ws1 := wLw g r u qn qt qv od (va_up kn 0 (va_up (kn 0) 1 x1)) kt1 (svk kn kv ns) (svs sc) (svn ns) tx tn pl1 v pa sd rr rq sv ap nw th rm rd hh (va_up o 0 (w32 ((kn 0 1)))) tx tn) rfl rfl rfl ?_
    refine J.wide (k := cells + 1) (n := slots + 6) hv1 hv2 ?_
    refine j_istore (L1 := [(5, .int (iI 0)), (0, .ref b0), (1, .ref (r 0)), (2, .ref (u 0)), (3, .ref od), (4, .int (iI (4 * (n : Int))))]) C dL_law_239 (by decide) rfl ?_
    refine j_aload_n C 3 dL_law_241 rfl rfl ?_
    refine j_aload_n C 1 dL_law_242 rfl rfl ?_
    refine j_iload C 5 dL_law_243 rfl ?_
    refine j_iconst C dL_law_245 ?_
    refine j_iadd C dL_law_246 ?_
    refine j_sld C hX hbl hbA (4 * n + 1) (by omega) (by omega) (by omega) e1 dL_law_247 ?_
    refine j_callV (As := [.int (iI x1)]) (rest := []) C yv_X5_setFriction qw738 (c_X5_setFriction_ok l g u v pa sd tx rr rq sv (tn : Int) th (ap : Int) rm rd (nw : Int) hh x1 hm hsv (by omega)) (by decide) 0 rfl rfl rfl dL_law_248 rfl (Nat.le_of_ble_eq_true rfl) hcA (pfR ([(u 3, aL g 75 sd), (u 4, aI g 60 tx), (u 5, aI g 10 rr), (u 6, aI g 4 rq)] ++ ((od, aL g 1 (va_up o 0 (w32 ((kn 0 1))))) :: wTp g r qn qt qv (va_up kn 0 (va_up (kn 0) 1 x1)) kt1 (svk kn kv ns) (svs sc) (svn ns) tx tn pl1))) rfl (fun r9 w9 hq9 => ?_)
    obtain ⟨rfl, rfl⟩ := hq9
    refine J.to (L1 := [(5, .int (iI 0)), (0, .ref b0), (1, .ref (r 0)), (2, .ref (u 0)), (3, .ref od), (4, .int (iI (4 * (n : Int))))]) (S1 := [.int (iI (v 1))]) (ws1 := wLw g r u qn qt qv od (va_up kn 0 (va_up (kn 0) 1 x1)) kt1 (svk kn kv ns) (svs sc) (svn ns) tx tn pl1 (va_up v 1 x1) (svP v pa sv) sd rr rq (svN sv) ap nw 0 rm rd hh (va_up o 0 (w32 ((kn 0 1)))) tx tn) rfl rfl rfl ?_
    refine J.wide (k := (cells + 1)) (n := (slots + 6)) (Nat.le_refl _) (Nat.le_refl _) ?_
    refine j_istore (L1 := [(6, .int (iI (v 1))), (5, .int (iI 0)), (0, .ref b0), (1, .ref (r 0)), (2, .ref (u 0)), (3, .ref od), (4, .int (iI (4 * (n : Int))))]) C dL_law_251 (by decide) rfl ?_
    refine j_aload_n C 4 dL_law_253 rfl rfl ?_
    refine j_callV (As := []) (rest := []) C yv_X5_thrown qw706 (c_X5_thrown l g u (va_up v 1 x1) ((svN sv : Nat) : Int) (tn : Int) 0 (ap : Int) rm rd (nw : Int) hh) (by decide) 0 rfl rfl rfl dL_law_254 rfl (Nat.le_of_ble_eq_true rfl) hcA (pfR ([(u 1, aL g 75 (va_up v 1 x1)), (u 2, aL g 300 (svP v pa sv)), (u 3, aL g 75 sd), (u 4, aI g 60 tx), (u 5, aI g 10 rr), (u 6, aI g 4 rq)] ++ ((od, aL g 1 (va_up o 0 (w32 ((kn 0 1))))) :: wTp g r qn qt qv (va_up kn 0 (va_up (kn 0) 1 x1)) kt1 (svk kn kv ns) (svs sc) (svn ns) tx tn pl1))) rfl (fun r9 w9 hq9 => ?_)
    obtain ⟨rfl, rfl⟩ := hq9
    refine J.to (L1 := [(6, .int (iI (v 1))), (5, .int (iI 0)), (0, .ref b0), (1, .ref (r 0)), (2, .ref (u 0)), (3, .ref od), (4, .int (iI (4 * (n : Int))))]) (S1 := [.int (iI 0)]) (ws1 := wLw g r u qn qt qv od (va_up kn 0 (va_up (kn 0) 1 x1)) kt1 (svk kn kv ns) (svs sc) (svn ns) tx tn pl1 (va_up v 1 x1) (svP v pa sv) sd rr rq (svN sv) ap nw 0 rm rd hh (va_up o 0 (w32 ((kn 0 1)))) tx tn) rfl rfl rfl ?_
    refine J.wide (k := (cells + 1)) (n := (slots + 6)) (Nat.le_refl _) (Nat.le_refl _) ?_
    refine j_iload C 1 dL_law_257 rfl ?_
    refine j_isame (tgt := 264) C rfl dL_law_259 (by decide) ?_
    refine j_iload C 1 dL_law_264 rfl ?_
    refine j_if_ne (tgt := 281) C (by decide) dL_law_266 (by decide) (fun h9 => absurd h9 (by decide)) (fun _ => ?_)
    refine j_aload_n C 5 dL_law_269 rfl rfl ?_
    refine j_iconst C dL_law_270 ?_
    refine j_lald (f := va_up o 0 (w32 ((kn 0 1)))) C 7 0 rfl rfl (by decide) (by decide) dL_law_271 ?_
    refine J.to (L1 := [(6, .int (iI (v 1))), (5, .int (iI 0)), (0, .ref b0), (1, .ref (r 0)), (2, .ref (u 0)), (3, .ref od), (4, .int (iI (4 * (n : Int))))]) (S1 := [.long (lI (w32 ((kn 0 1))))]) (ws1 := wLw g r u qn qt qv od (va_up kn 0 (va_up (kn 0) 1 x1)) kt1 (svk kn kv ns) (svs sc) (svn ns) tx tn pl1 (va_up v 1 x1) (svP v pa sv) sd rr rq (svN sv) ap nw 0 rm rd hh (va_up o 0 (w32 ((kn 0 1)))) tx tn) rfl rfl rfl ?_
    refine j_iload C 0 dL_law_272 rfl ?_
    refine j_i2lw C dL_law_274 ?_
    have heq : ((kn 0 1) : Int) = (v 1) := hR.1 1 (by decide)
    refine j_lsame (tgt := 281) C (congrArg w32 heq) dL_law_275 dL_law_276 (by decide) ?_
    refine j_goto (tgt := 1603) C dL_law_281 (by decide) ?_
    refine J.sub (L1 := [(0, .ref b0), (1, .ref (r 0)), (2, .ref (u 0)), (3, .ref od), (4, .int (iI (4 * (n : Int))))]) [2, 3, 4, 5, 6] rfl ?_
    exact kk (va_up kn 0 (va_up (kn 0) 1 x1)) kt1 (svk kn kv ns) (svs sc) (svn ns) tx tn pl1 (va_up v 1 x1) (svP v pa sv) sd rr rq (svN sv) ap nw 0 rm rd hh (va_up o 0 (w32 ((kn 0 1)))) (hI.f q1)
  · refine j_aload_n C 1 dL_law_228 rfl rfl ?_
    refine j_aload_n C 0 dL_law_229 rfl rfl ?_
    refine j_iload C 4 dL_law_230 rfl ?_
    refine j_iconst C dL_law_232 ?_
    refine j_iadd C dL_law_233 ?_
    refine j_sld C hX hbl hbA (4 * n + 1) (by omega) (by omega) (by omega) e1 dL_law_234 ?_
    refine j_aload_n C 3 dL_law_235 rfl rfl ?_
    refine j_callSW (As := [.ref (r 0), .int (iI x1), .ref od]) (rest := []) C yw_L_setFriction qw443 (w_setFriction_1 l hl g r qn qt qv kn kt kv sc ns tx tn pl od o x1 hI.1 (by omega) (by omega)) (by decide) rfl dL_law_236 rfl (Nat.le_of_ble_eq_true rfl) hc (pfL (wMd g u v pa sd tx rr rq (sv : Int) (tn : Int) th (ap : Int) rm rd (nw : Int) hh)) rfl (fun r9 w9 hq9 => ?_)
    obtain ⟨rfl, kt1, pl1, rfl⟩ := hq9
    refine J.to (L1 := [(0, .ref b0), (1, .ref (r 0)), (2, .ref (u 0)), (3, .ref od), (4, .int (iI (4 * (n : Int))))]) (S1 := [.int (iI 1)]) (ws1 := wLw g r u qn qt qv od kn kt1 kv sc ns tx tn pl1 v pa sd rr rq sv ap nw th rm rd hh o tx tn) rfl rfl rfl ?_
    refine J.wide (k := cells + 1) (n := slots + 6) hw1 hw2 ?_
    refine j_istore (L1 := [(5, .int (iI 1)), (0, .ref b0), (1, .ref (r 0)), (2, .ref (u 0)), (3, .ref od), (4, .int (iI (4 * (n : Int))))]) C dL_law_239 (by decide) rfl ?_
    refine j_aload_n C 3 dL_law_241 rfl rfl ?_
    refine j_aload_n C 1 dL_law_242 rfl rfl ?_
    refine j_iload C 5 dL_law_243 rfl ?_
    refine j_iconst C dL_law_245 ?_
    refine j_iadd C dL_law_246 ?_
    refine j_sld C hX hbl hbA (4 * n + 1) (by omega) (by omega) (by omega) e1 dL_law_247 ?_
    refine j_callV (As := [.int (iI x1)]) (rest := []) C yv_X5_setFriction qw738 (c_X5_setFriction_n1 l g u v pa sd tx rr rq sv (tn : Int) th (ap : Int) rm rd (nw : Int) hh x1 hm hsv (by omega) (by omega)) (by decide) 0 rfl rfl rfl dL_law_248 rfl (Nat.le_of_ble_eq_true rfl) hcA (pfR ([(u 3, aL g 75 sd), (u 4, aI g 60 tx), (u 5, aI g 10 rr), (u 6, aI g 4 rq)] ++ ((od, aL g 1 (o)) :: wTp g r qn qt qv kn kt1 kv sc ns tx tn pl1))) rfl (fun r9 w9 hq9 => ?_)
    obtain ⟨rfl, rfl⟩ := hq9
    refine J.to (L1 := [(5, .int (iI 1)), (0, .ref b0), (1, .ref (r 0)), (2, .ref (u 0)), (3, .ref od), (4, .int (iI (4 * (n : Int))))]) (S1 := [.int (iI 0)]) (ws1 := wLw g r u qn qt qv od kn kt1 kv sc ns tx tn pl1 v pa sd rr rq sv ap nw 1 rm rd hh o tx tn) rfl rfl rfl ?_
    refine J.wide (k := (cells + 1)) (n := (slots + 6)) (Nat.le_refl _) (Nat.le_refl _) ?_
    refine j_istore (L1 := [(6, .int (iI 0)), (5, .int (iI 1)), (0, .ref b0), (1, .ref (r 0)), (2, .ref (u 0)), (3, .ref od), (4, .int (iI (4 * (n : Int))))]) C dL_law_251 (by decide) rfl ?_
    refine j_aload_n C 4 dL_law_253 rfl rfl ?_
    refine j_callV (As := []) (rest := []) C yv_X5_thrown qw706 (c_X5_thrown l g u v (sv : Int) (tn : Int) 1 (ap : Int) rm rd (nw : Int) hh) (by decide) 0 rfl rfl rfl dL_law_254 rfl (Nat.le_of_ble_eq_true rfl) hcA (pfR ([(u 1, aL g 75 v), (u 2, aL g 300 pa), (u 3, aL g 75 sd), (u 4, aI g 60 tx), (u 5, aI g 10 rr), (u 6, aI g 4 rq)] ++ ((od, aL g 1 (o)) :: wTp g r qn qt qv kn kt1 kv sc ns tx tn pl1))) rfl (fun r9 w9 hq9 => ?_)
    obtain ⟨rfl, rfl⟩ := hq9
    refine J.to (L1 := [(6, .int (iI 0)), (5, .int (iI 1)), (0, .ref b0), (1, .ref (r 0)), (2, .ref (u 0)), (3, .ref od), (4, .int (iI (4 * (n : Int))))]) (S1 := [.int (iI 1)]) (ws1 := wLw g r u qn qt qv od kn kt1 kv sc ns tx tn pl1 v pa sd rr rq sv ap nw 1 rm rd hh o tx tn) rfl rfl rfl ?_
    refine J.wide (k := (cells + 1)) (n := (slots + 6)) (Nat.le_refl _) (Nat.le_refl _) ?_
    refine j_iload C 1 dL_law_257 rfl ?_
    refine j_isame (tgt := 264) C rfl dL_law_259 (by decide) ?_
    refine j_iload C 1 dL_law_264 rfl ?_
    refine j_if_ne (tgt := 281) C (by decide) dL_law_266 (by decide) (fun _ => ?_) (fun h9 => absurd h9 (by decide))
    refine j_goto (tgt := 1603) C dL_law_281 (by decide) ?_
    refine J.sub (L1 := [(0, .ref b0), (1, .ref (r 0)), (2, .ref (u 0)), (3, .ref od), (4, .int (iI (4 * (n : Int))))]) [2, 3, 4, 5, 6] rfl ?_
    exact kk kn kt1 kv sc ns tx tn pl1 v pa sd rr rq sv ap nw 1 rm rd hh o hI.next
