/-! constructor of RopeTackle -/
section JAS
variable {p : Program} {l : Launch} {e : Env} {R : Room} {s : State} {m : MethodId} {args : Array Value} {below : List Frame} {meth : Method} {c : Code} {g : Gh} {A : Nat → Prop} {cc : ByteArray} {nL : Nat} {own : String} {pc : Nat} {L : List (Nat × Value)} {S : List Value} {ws : va_W} {cells slots : Nat} {Q : State → Prop}
theorem pcm (T M V : va_W) : (T ++ (M ++ V)).Perm (M ++ (T ++ V)) := by
  rw [← List.append_assoc, ← List.append_assoc]
  exact List.Perm.append_right V List.perm_append_comm
theorem j_aSto {a n : Nat} {f f' : Nat → Option Nat} {ws1 : va_W} (q0 : Nat) (he : ws[q0]? = some (a, aS g n f)) (hf : ∀ j, j < n → f j = f' j) (hws : ws.set q0 (a, aS g n f') = ws1) (kk : J p l e R s m args below meth c g A nL pc L S ws1 cells slots Q) : J p l e R s m args below meth c g A nL pc L S ws cells slots Q := by
  intro H locs ls hP hD hS h
  subst hws
  have h1 : H[a]? = some (arrV (gS g) n (fun j => va_rf (f j))) := hP q0 _ he
  have h2 : arrV (gS g) n (fun j => va_rf (f j)) = arrV (gS g) n (fun j => va_rf (f' j)) := by
    unfold arrV
    congr 2
    funext j
    show va_rf (f j.val) = va_rf (f' j.val)
    rw [hf j.val j.isLt]
  rw [h2] at h1
  exact kk H locs ls (hP.set hD he h1 (fun _ _ => rfl)) (hD.set he) hS h
theorem j_aast (C : Cx p g s m args c cc nL own A) {a n v : Nat} {i : Int} {vs : List Value} {f : Nat → Option Nat} {ws1 : va_W} (q0 qk k : Nat) (he : ws[q0]? = some (a, aS g n f)) (hv : ws[qk]? = some (v, .inr (2, vs))) (hk : i = (k : Int)) (hn : k < n) (hN : (n : Int) ≤ 2147483648) (hd : decode cc pc = .ok (.aastore, 1)) (hws : ws.set q0 (a, aS g n (va_up f k (some v))) = ws1) (kk : J p l e R s m args below meth c g A nL (pc + 1) L S ws1 cells slots Q) : J p l e R s m args below meth c g A nL pc L (.ref v :: .int (iI i) :: .ref a :: S) ws cells slots Q := by
  intro H locs ls hP hD hS h
  subst hws
  refine va_astq C.1 C.2.1 C.2.2.2.2.2.2.1 hP hD hS q0 1 qk 2 (r := (RX2, TX2, 6)) he rfl hv rfl (iI_in hk hn hN) hd (fun H1 locs1 hP hD hS => ?_)
  rw [iI_clamp hk (by omega)] at hP hD
  exact kk H1 locs1 ls hP hD hS h
end JAS
theorem c_X4_init (l : Launch) (g : Gh) (a : Nat)  : CT l g yX4_init cX4_init 2 none ({ frames := 3, cells := 51, slots := 589, locals := 61 }) [.ref a] [(a, .inr (4, [.null, .null, .null, .int (iI 0), .int (iI 0), .null]))] (fun r9 w9 => r9 = none ∧ ∃ (r : Nat → Nat) (qn qt : Nat → Nat) (qv : Nat → Nat → Nat), r 0 = a ∧ w9 = wTp g r qn qt qv k0S k0S (fun _ => k0S) 0 0 (fun _ => 0) 0 0) := by
  refine CT.introI (L0 := [(0, .ref a)]) (own := RX4) (by decide) rfl (Nat.le_of_ble_eq_true rfl) rfl ?_
  intro pX eX sX mX argsX belowX methX cX A C hr hlk hin
  refine j_aload_n C 0 dX4_init_0 rfl rfl ?_
  refine j_objInit C qw18 dX4_init_1 (by decide) (Nat.le_of_ble_eq_true rfl) ?_
  refine j_aload_n C 0 dX4_init_4 rfl rfl ?_
  refine j_newO (fs := [.null, .null, .null, .null, .null, .int (iI 0)]) C ck2 qw21 qw22 qw2 (by intro j hj; match j, hj with | 0, _ => rfl | 1, _ => rfl | 2, _ => rfl | 3, _ => rfl | 4, _ => rfl | 5, _ => rfl) dX4_init_5 (Nat.le_of_ble_eq_true rfl) (Nat.le_of_ble_eq_true rfl) (fun z1 => ?_)
  refine J.to (L1 := [(0, .ref a)]) (S1 := [.ref z1, .ref a]) (ws1 := [(a, .inr (4, [.null, .null, .null, .int (iI 0), .int (iI 0), .null])), (z1, .inr (2, [.null, .null, .null, .null, .null, .int (iI 0)]))]) rfl rfl rfl ?_
  refine j_dup C dX4_init_8 rfl ?_
  refine j_callI (As := []) (rest := [.ref z1, .ref a]) C yi_X2_init qw23 (c_X2_init l g z1) (by decide) rfl dX4_init_9 rfl (Nat.le_of_ble_eq_true rfl) (by decide) (pf1 [(a, .inr (4, [.null, .null, .null, .int (iI 0), .int (iI 0), .null]))] []) rfl (fun r9 w9 hq9 => ?_)
  obtain ⟨rfl, q2, rfl, rfl⟩ := hq9
  refine J.to (L1 := [(0, .ref a)]) (S1 := [.ref (q2 0), .ref a]) (ws1 := [(a, .inr (4, [.null, .null, .null, .int (iI 0), .int (iI 0), .null])), (q2 0, .inr (2, [.ref (q2 1), .ref (q2 3), .ref (q2 5), .ref (q2 6), .ref (q2 7), .int (iI (k0S 0 0))])), (q2 1, .inr (1, [.ref (q2 2), .int (iI (k0S 0 2)), .int (iI (k0S 0 3)), .int (iI (k0S 0 1))])), (q2 2, aI g 10 (k0S 1)), (q2 3, .inr (0, [.ref (q2 4), .int (iI (k0S 0 9)), .int (iI (k0S 0 6)), .int (iI (k0S 0 4)), .int (iI (k0S 0 5)), .long (lI (k0S 0 7)), .long (lI (k0S 0 8))])), (q2 4, aI g 48 (k0S 2)), (q2 5, aI g 4 (k0S 3)), (q2 6, aI g 4 (k0S 4)), (q2 7, aI g 4 (k0S 5))]) rfl rfl rfl ?_
  refine j_putF (ws1 := [(a, .inr (4, [.ref (q2 0), .null, .null, .int (iI 0), .int (iI 0), .null])), (q2 0, .inr (2, [.ref (q2 1), .ref (q2 3), .ref (q2 5), .ref (q2 6), .ref (q2 7), .int (iI (k0S 0 0))])), (q2 1, .inr (1, [.ref (q2 2), .int (iI (k0S 0 2)), .int (iI (k0S 0 3)), .int (iI (k0S 0 1))])), (q2 2, aI g 10 (k0S 1)), (q2 3, .inr (0, [.ref (q2 4), .int (iI (k0S 0 9)), .int (iI (k0S 0 6)), .int (iI (k0S 0 4)), .int (iI (k0S 0 5)), .long (lI (k0S 0 7)), .long (lI (k0S 0 8))])), (q2 4, aI g 48 (k0S 2)), (q2 5, aI g 4 (k0S 3)), (q2 6, aI g 4 (k0S 4)), (q2 7, aI g 4 (k0S 5))]) C hin ck4 0 0 (by decide) qw130 rfl rfl dX4_init_12 rfl rfl rfl rfl (Nat.le_of_ble_eq_true rfl) ?_
  refine j_aload_n C 0 dX4_init_15 rfl rfl ?_
  refine j_newO (fs := [.null, .null, .null, .null, .null, .int (iI 0)]) C ck2 qw21 qw22 qw2 (by intro j hj; match j, hj with | 0, _ => rfl | 1, _ => rfl | 2, _ => rfl | 3, _ => rfl | 4, _ => rfl | 5, _ => rfl) dX4_init_16 (Nat.le_of_ble_eq_true rfl) (Nat.le_of_ble_eq_true rfl) (fun z3 => ?_)
  refine J.to (L1 := [(0, .ref a)]) (S1 := [.ref z3, .ref a]) (ws1 := [(a, .inr (4, [.ref (q2 0), .null, .null, .int (iI 0), .int (iI 0), .null])), (q2 0, .inr (2, [.ref (q2 1), .ref (q2 3), .ref (q2 5), .ref (q2 6), .ref (q2 7), .int (iI (k0S 0 0))])), (q2 1, .inr (1, [.ref (q2 2), .int (iI (k0S 0 2)), .int (iI (k0S 0 3)), .int (iI (k0S 0 1))])), (q2 2, aI g 10 (k0S 1)), (q2 3, .inr (0, [.ref (q2 4), .int (iI (k0S 0 9)), .int (iI (k0S 0 6)), .int (iI (k0S 0 4)), .int (iI (k0S 0 5)), .long (lI (k0S 0 7)), .long (lI (k0S 0 8))])), (q2 4, aI g 48 (k0S 2)), (q2 5, aI g 4 (k0S 3)), (q2 6, aI g 4 (k0S 4)), (q2 7, aI g 4 (k0S 5)), (z3, .inr (2, [.null, .null, .null, .null, .null, .int (iI 0)]))]) rfl rfl rfl ?_
  refine j_dup C dX4_init_19 rfl ?_
  refine j_callI (As := []) (rest := [.ref z3, .ref a]) C yi_X2_init qw23 (c_X2_init l g z3) (by decide) rfl dX4_init_20 rfl (Nat.le_of_ble_eq_true rfl) (by decide) (pf1 [(a, .inr (4, [.ref (q2 0), .null, .null, .int (iI 0), .int (iI 0), .null])), (q2 0, .inr (2, [.ref (q2 1), .ref (q2 3), .ref (q2 5), .ref (q2 6), .ref (q2 7), .int (iI (k0S 0 0))])), (q2 1, .inr (1, [.ref (q2 2), .int (iI (k0S 0 2)), .int (iI (k0S 0 3)), .int (iI (k0S 0 1))])), (q2 2, aI g 10 (k0S 1)), (q2 3, .inr (0, [.ref (q2 4), .int (iI (k0S 0 9)), .int (iI (k0S 0 6)), .int (iI (k0S 0 4)), .int (iI (k0S 0 5)), .long (lI (k0S 0 7)), .long (lI (k0S 0 8))])), (q2 4, aI g 48 (k0S 2)), (q2 5, aI g 4 (k0S 3)), (q2 6, aI g 4 (k0S 4)), (q2 7, aI g 4 (k0S 5))] []) rfl (fun r9 w9 hq9 => ?_)
  obtain ⟨rfl, q4, rfl, rfl⟩ := hq9
  refine J.to (L1 := [(0, .ref a)]) (S1 := [.ref (q4 0), .ref a]) (ws1 := ([(a, .inr (4, [.ref (q2 0), .null, .null, .int (iI 0), .int (iI 0), .null]))] ++ (wSt g q2 k0S ++ (wSt g q4 k0S)))) rfl rfl rfl ?_
  refine j_putF (ws1 := ([(a, .inr (4, [.ref (q2 0), .ref (q4 0), .null, .int (iI 0), .int (iI 0), .null]))] ++ (wSt g q2 k0S ++ (wSt g q4 k0S)))) C hin ck4 0 1 (by decide) qw131 rfl rfl dX4_init_23 rfl rfl rfl rfl (Nat.le_of_ble_eq_true rfl) ?_
  refine j_aload_n C 0 dX4_init_26 rfl rfl ?_
  refine j_iconst C dX4_init_27 ?_
  refine j_newQ (N' := 4) C rfl (by decide) qw21 dX4_init_28 (Nat.le_of_ble_eq_true rfl) (Nat.le_of_ble_eq_true rfl) (fun z5 => ?_)
  refine J.to (L1 := [(0, .ref a)]) (S1 := [.ref z5, .ref a]) (ws1 := ([(a, .inr (4, [.ref (q2 0), .ref (q4 0), .null, .int (iI 0), .int (iI 0), .null]))] ++ (wSt g q2 k0S ++ (wSt g q4 k0S ++ ([(z5, aS g 4 (fun _ => none))]))))) rfl rfl rfl ?_
  refine j_putF (ws1 := ([(a, .inr (4, [.ref (q2 0), .ref (q4 0), .ref z5, .int (iI 0), .int (iI 0), .null]))] ++ (wSt g q2 k0S ++ (wSt g q4 k0S ++ ([(z5, aS g 4 (fun _ => none))]))))) C hin ck4 0 2 (by decide) qw132 rfl rfl dX4_init_31 rfl rfl rfl rfl (Nat.le_of_ble_eq_true rfl) ?_
  refine j_aload_n C 0 dX4_init_34 rfl rfl ?_
  refine j_iconst C dX4_init_35 ?_
  refine j_put (ws1 := ([(a, .inr (4, [.ref (q2 0), .ref (q4 0), .ref z5, .int (iI 0), .int (iI 0), .null]))] ++ (wSt g q2 k0S ++ (wSt g q4 k0S ++ ([(z5, aS g 4 (fun _ => none))]))))) C ck4 0 3 (by decide) qw133 rfl dX4_init_36 rfl rfl rfl rfl (Nat.le_of_ble_eq_true rfl) ?_
  refine j_aload_n C 0 dX4_init_39 rfl rfl ?_
  refine j_iconst C dX4_init_40 ?_
  refine j_put (ws1 := ([(a, .inr (4, [.ref (q2 0), .ref (q4 0), .ref z5, .int (iI 0), .int (iI 0), .null]))] ++ (wSt g q2 k0S ++ (wSt g q4 k0S ++ ([(z5, aS g 4 (fun _ => none))]))))) C ck4 0 4 (by decide) qw134 rfl dX4_init_41 rfl rfl rfl rfl (Nat.le_of_ble_eq_true rfl) ?_
  refine j_aload_n C 0 dX4_init_44 rfl rfl ?_
  refine j_newO (fs := [.null, .int (iI 0), .int (iI 0)]) C ck3 qw112 qw113 qw5 (by intro j hj; match j, hj with | 0, _ => rfl | 1, _ => rfl | 2, _ => rfl) dX4_init_45 (Nat.le_of_ble_eq_true rfl) (Nat.le_of_ble_eq_true rfl) (fun z6 => ?_)
  refine J.to (L1 := [(0, .ref a)]) (S1 := [.ref z6, .ref a]) (ws1 := ([(a, .inr (4, [.ref (q2 0), .ref (q4 0), .ref z5, .int (iI 0), .int (iI 0), .null]))] ++ (wSt g q2 k0S ++ (wSt g q4 k0S ++ ([(z5, aS g 4 (fun _ => none)), (z6, .inr (3, [.null, .int (iI 0), .int (iI 0)]))]))))) rfl rfl rfl ?_
  refine j_dup C dX4_init_48 rfl ?_
  refine j_callIN (As := []) (rest := [.ref z6, .ref a]) C yi_X3_init qn114 (c_X3_init l g z6) (by decide) rfl dX4_init_49 rfl (Nat.le_of_ble_eq_true rfl) (by decide) (pf1 ([(a, .inr (4, [.ref (q2 0), .ref (q4 0), .ref z5, .int (iI 0), .int (iI 0), .null]))] ++ (wSt g q2 k0S ++ (wSt g q4 k0S ++ ([(z5, aS g 4 (fun _ => none))])))) []) rfl (fun r9 w9 hq9 => ?_)
  obtain ⟨rfl, z7, rfl⟩ := hq9
  refine J.to (L1 := [(0, .ref a)]) (S1 := [.ref z6, .ref a]) (ws1 := ([(a, .inr (4, [.ref (q2 0), .ref (q4 0), .ref z5, .int (iI 0), .int (iI 0), .null]))] ++ (wSt g q2 k0S ++ (wSt g q4 k0S ++ ([(z5, aS g 4 (fun _ => none)), (z6, .inr (3, [.ref z7, .int (iI 0), .int (iI 0)])), (z7, aI g 60 (fun _ => 0))]))))) rfl rfl rfl ?_
  refine j_putF (ws1 := ([(a, .inr (4, [.ref (q2 0), .ref (q4 0), .ref z5, .int (iI 0), .int (iI 0), .ref z6]))] ++ (wSt g q2 k0S ++ (wSt g q4 k0S ++ ([(z5, aS g 4 (fun _ => none)), (z6, .inr (3, [.ref z7, .int (iI 0), .int (iI 0)])), (z7, aI g 60 (fun _ => 0))]))))) C hin ck4 0 5 (by decide) qw135 rfl rfl dX4_init_52 rfl rfl rfl rfl (Nat.le_of_ble_eq_true rfl) ?_
  refine j_iconst C dX4_init_55 ?_
  refine j_istore_n (L1 := [(1, .int (iI 0)), (0, .ref a)]) C dX4_init_56 rfl (by decide) rfl ?_
  refine j_iload_n C 0 dX4_init_57 rfl rfl ?_
  refine j_aload_n C 1 dX4_init_58 rfl rfl ?_
  refine j_get C ck4 0 2 (by decide) qw132 rfl rfl dX4_init_59 ?_
  refine j_aalen (n := 4) (f := fun _ => none) (v := 4) C 17 rfl rfl dX4_init_62 ?_
  refine j_icmp_ge (tgt := 85) C (by decide) (by decide) dX4_init_63 (by decide) (fun c63 => absurd c63 (by decide)) (fun c63 => ?_)
  refine j_aload_n C 1 dX4_init_66 rfl rfl ?_
  refine j_get C ck4 0 2 (by decide) qw132 rfl rfl dX4_init_67 ?_
  refine j_iload_n C 0 dX4_init_70 rfl rfl ?_
  refine j_newO (fs := [.null, .null, .null, .null, .null, .int (iI 0)]) C ck2 qw21 qw22 qw2 (by intro j hj; match j, hj with | 0, _ => rfl | 1, _ => rfl | 2, _ => rfl | 3, _ => rfl | 4, _ => rfl | 5, _ => rfl) dX4_init_71 (Nat.le_of_ble_eq_true rfl) (Nat.le_of_ble_eq_true rfl) (fun z8 => ?_)
  refine J.to (L1 := [(1, .int (iI 0)), (0, .ref a)]) (S1 := [.ref z8, .int (iI 0), .ref z5]) (ws1 := ([(a, .inr (4, [.ref (q2 0), .ref (q4 0), .ref z5, .int (iI 0), .int (iI 0), .ref z6]))] ++ (wSt g q2 k0S ++ (wSt g q4 k0S ++ ([(z5, aS g 4 (fun _ => none)), (z6, .inr (3, [.ref z7, .int (iI 0), .int (iI 0)])), (z7, aI g 60 (fun _ => 0)), (z8, .inr (2, [.null, .null, .null, .null, .null, .int (iI 0)]))]))))) rfl rfl rfl ?_
  refine j_dup C dX4_init_74 rfl ?_
  refine j_callI (As := []) (rest := [.ref z8, .int (iI 0), .ref z5]) C yi_X2_init qw23 (c_X2_init l g z8) (by decide) rfl dX4_init_75 rfl (Nat.le_of_ble_eq_true rfl) (by decide) (pf1 ([(a, .inr (4, [.ref (q2 0), .ref (q4 0), .ref z5, .int (iI 0), .int (iI 0), .ref z6]))] ++ (wSt g q2 k0S ++ (wSt g q4 k0S ++ ([(z5, aS g 4 (fun _ => none)), (z6, .inr (3, [.ref z7, .int (iI 0), .int (iI 0)])), (z7, aI g 60 (fun _ => 0))])))) []) rfl (fun r9 w9 hq9 => ?_)
  obtain ⟨rfl, q9, rfl, rfl⟩ := hq9
  refine J.to (L1 := [(1, .int (iI 0)), (0, .ref a)]) (S1 := [.ref (q9 0), .int (iI 0), .ref z5]) (ws1 := ([(a, .inr (4, [.ref (q2 0), .ref (q4 0), .ref z5, .int (iI 0), .int (iI 0), .ref z6]))] ++ (wSt g q2 k0S ++ (wSt g q4 k0S ++ ([(z5, aS g 4 (fun _ => none)), (z6, .inr (3, [.ref z7, .int (iI 0), .int (iI 0)])), (z7, aI g 60 (fun _ => 0))] ++ (wSt g q9 k0S)))))) rfl rfl rfl ?_
  refine j_aast (n := 4) (f := fun _ => none) (ws1 := ([(a, .inr (4, [.ref (q2 0), .ref (q4 0), .ref z5, .int (iI 0), .int (iI 0), .ref z6]))] ++ (wSt g q2 k0S ++ (wSt g q4 k0S ++ ([(z5, aS g 4 (va_up (fun _ => none) 0 (some (q9 0)))), (z6, .inr (3, [.ref z7, .int (iI 0), .int (iI 0)])), (z7, aI g 60 (fun _ => 0))] ++ (wSt g q9 k0S)))))) C 17 20 0 rfl rfl rfl (by decide) (by decide) dX4_init_78 rfl ?_
  refine j_iinc (L1 := [(1, .int (iI (0 + 1))), (0, .ref a)]) C 0 dX4_init_79 rfl (by decide) rfl ?_
  refine j_goto (tgt := 57) C dX4_init_82 (by decide) ?_
  refine J.to (L1 := [(1, .int (iI 1)), (0, .ref a)]) (S1 := []) (ws1 := ([(a, .inr (4, [.ref (q2 0), .ref (q4 0), .ref z5, .int (iI 0), .int (iI 0), .ref z6]))] ++ (wSt g q2 k0S ++ (wSt g q4 k0S ++ ([(z5, aS g 4 (va_up (fun _ => none) 0 (some (q9 0)))), (z6, .inr (3, [.ref z7, .int (iI 0), .int (iI 0)])), (z7, aI g 60 (fun _ => 0))] ++ (wSt g q9 k0S)))))) rfl rfl rfl ?_
  refine j_iload_n C 0 dX4_init_57 rfl rfl ?_
  refine j_aload_n C 1 dX4_init_58 rfl rfl ?_
  refine j_get C ck4 0 2 (by decide) qw132 rfl rfl dX4_init_59 ?_
  refine j_aalen (n := 4) (f := va_up (fun _ => none) 0 (some (q9 0))) (v := 4) C 17 rfl rfl dX4_init_62 ?_
  refine j_icmp_ge (tgt := 85) C (by decide) (by decide) dX4_init_63 (by decide) (fun c63 => absurd c63 (by decide)) (fun c63 => ?_)
  refine j_aload_n C 1 dX4_init_66 rfl rfl ?_
  refine j_get C ck4 0 2 (by decide) qw132 rfl rfl dX4_init_67 ?_
  refine j_iload_n C 0 dX4_init_70 rfl rfl ?_
  refine j_newO (fs := [.null, .null, .null, .null, .null, .int (iI 0)]) C ck2 qw21 qw22 qw2 (by intro j hj; match j, hj with | 0, _ => rfl | 1, _ => rfl | 2, _ => rfl | 3, _ => rfl | 4, _ => rfl | 5, _ => rfl) dX4_init_71 (Nat.le_of_ble_eq_true rfl) (Nat.le_of_ble_eq_true rfl) (fun z10 => ?_)
  refine J.to (L1 := [(1, .int (iI 1)), (0, .ref a)]) (S1 := [.ref z10, .int (iI 1), .ref z5]) (ws1 := ([(a, .inr (4, [.ref (q2 0), .ref (q4 0), .ref z5, .int (iI 0), .int (iI 0), .ref z6]))] ++ (wSt g q2 k0S ++ (wSt g q4 k0S ++ ([(z5, aS g 4 (va_up (fun _ => none) 0 (some (q9 0)))), (z6, .inr (3, [.ref z7, .int (iI 0), .int (iI 0)])), (z7, aI g 60 (fun _ => 0))] ++ (wSt g q9 k0S ++ ([(z10, .inr (2, [.null, .null, .null, .null, .null, .int (iI 0)]))]))))))) rfl rfl rfl ?_
  refine j_dup C dX4_init_74 rfl ?_
  refine j_callI (As := []) (rest := [.ref z10, .int (iI 1), .ref z5]) C yi_X2_init qw23 (c_X2_init l g z10) (by decide) rfl dX4_init_75 rfl (Nat.le_of_ble_eq_true rfl) (by decide) (pf1 ([(a, .inr (4, [.ref (q2 0), .ref (q4 0), .ref z5, .int (iI 0), .int (iI 0), .ref z6]))] ++ (wSt g q2 k0S ++ (wSt g q4 k0S ++ ([(z5, aS g 4 (va_up (fun _ => none) 0 (some (q9 0)))), (z6, .inr (3, [.ref z7, .int (iI 0), .int (iI 0)])), (z7, aI g 60 (fun _ => 0))] ++ (wSt g q9 k0S))))) []) rfl (fun r9 w9 hq9 => ?_)
  obtain ⟨rfl, q11, rfl, rfl⟩ := hq9
  refine J.to (L1 := [(1, .int (iI 1)), (0, .ref a)]) (S1 := [.ref (q11 0), .int (iI 1), .ref z5]) (ws1 := ([(a, .inr (4, [.ref (q2 0), .ref (q4 0), .ref z5, .int (iI 0), .int (iI 0), .ref z6]))] ++ (wSt g q2 k0S ++ (wSt g q4 k0S ++ ([(z5, aS g 4 (va_up (fun _ => none) 0 (some (q9 0)))), (z6, .inr (3, [.ref z7, .int (iI 0), .int (iI 0)])), (z7, aI g 60 (fun _ => 0))] ++ (wSt g q9 k0S ++ (wSt g q11 k0S))))))) rfl rfl rfl ?_
  refine j_aast (n := 4) (f := va_up (fun _ => none) 0 (some (q9 0))) (ws1 := ([(a, .inr (4, [.ref (q2 0), .ref (q4 0), .ref z5, .int (iI 0), .int (iI 0), .ref z6]))] ++ (wSt g q2 k0S ++ (wSt g q4 k0S ++ ([(z5, aS g 4 (va_up (va_up (fun _ => none) 0 (some (q9 0))) 1 (some (q11 0)))), (z6, .inr (3, [.ref z7, .int (iI 0), .int (iI 0)])), (z7, aI g 60 (fun _ => 0))] ++ (wSt g q9 k0S ++ (wSt g q11 k0S))))))) C 17 28 1 rfl rfl rfl (by decide) (by decide) dX4_init_78 rfl ?_
  refine j_iinc (L1 := [(1, .int (iI (1 + 1))), (0, .ref a)]) C 0 dX4_init_79 rfl (by decide) rfl ?_
  refine j_goto (tgt := 57) C dX4_init_82 (by decide) ?_
  refine J.to (L1 := [(1, .int (iI 2)), (0, .ref a)]) (S1 := []) (ws1 := ([(a, .inr (4, [.ref (q2 0), .ref (q4 0), .ref z5, .int (iI 0), .int (iI 0), .ref z6]))] ++ (wSt g q2 k0S ++ (wSt g q4 k0S ++ ([(z5, aS g 4 (va_up (va_up (fun _ => none) 0 (some (q9 0))) 1 (some (q11 0)))), (z6, .inr (3, [.ref z7, .int (iI 0), .int (iI 0)])), (z7, aI g 60 (fun _ => 0))] ++ (wSt g q9 k0S ++ (wSt g q11 k0S))))))) rfl rfl rfl ?_
  refine j_iload_n C 0 dX4_init_57 rfl rfl ?_
  refine j_aload_n C 1 dX4_init_58 rfl rfl ?_
  refine j_get C ck4 0 2 (by decide) qw132 rfl rfl dX4_init_59 ?_
  refine j_aalen (n := 4) (f := va_up (va_up (fun _ => none) 0 (some (q9 0))) 1 (some (q11 0))) (v := 4) C 17 rfl rfl dX4_init_62 ?_
  refine j_icmp_ge (tgt := 85) C (by decide) (by decide) dX4_init_63 (by decide) (fun c63 => absurd c63 (by decide)) (fun c63 => ?_)
  refine j_aload_n C 1 dX4_init_66 rfl rfl ?_
  refine j_get C ck4 0 2 (by decide) qw132 rfl rfl dX4_init_67 ?_
  refine j_iload_n C 0 dX4_init_70 rfl rfl ?_
  refine j_newO (fs := [.null, .null, .null, .null, .null, .int (iI 0)]) C ck2 qw21 qw22 qw2 (by intro j hj; match j, hj with | 0, _ => rfl | 1, _ => rfl | 2, _ => rfl | 3, _ => rfl | 4, _ => rfl | 5, _ => rfl) dX4_init_71 (Nat.le_of_ble_eq_true rfl) (Nat.le_of_ble_eq_true rfl) (fun z12 => ?_)
  refine J.to (L1 := [(1, .int (iI 2)), (0, .ref a)]) (S1 := [.ref z12, .int (iI 2), .ref z5]) (ws1 := ([(a, .inr (4, [.ref (q2 0), .ref (q4 0), .ref z5, .int (iI 0), .int (iI 0), .ref z6]))] ++ (wSt g q2 k0S ++ (wSt g q4 k0S ++ ([(z5, aS g 4 (va_up (va_up (fun _ => none) 0 (some (q9 0))) 1 (some (q11 0)))), (z6, .inr (3, [.ref z7, .int (iI 0), .int (iI 0)])), (z7, aI g 60 (fun _ => 0))] ++ (wSt g q9 k0S ++ (wSt g q11 k0S ++ ([(z12, .inr (2, [.null, .null, .null, .null, .null, .int (iI 0)]))])))))))) rfl rfl rfl ?_
  refine j_dup C dX4_init_74 rfl ?_
  refine j_callI (As := []) (rest := [.ref z12, .int (iI 2), .ref z5]) C yi_X2_init qw23 (c_X2_init l g z12) (by decide) rfl dX4_init_75 rfl (Nat.le_of_ble_eq_true rfl) (by decide) (pf1 ([(a, .inr (4, [.ref (q2 0), .ref (q4 0), .ref z5, .int (iI 0), .int (iI 0), .ref z6]))] ++ (wSt g q2 k0S ++ (wSt g q4 k0S ++ ([(z5, aS g 4 (va_up (va_up (fun _ => none) 0 (some (q9 0))) 1 (some (q11 0)))), (z6, .inr (3, [.ref z7, .int (iI 0), .int (iI 0)])), (z7, aI g 60 (fun _ => 0))] ++ (wSt g q9 k0S ++ (wSt g q11 k0S)))))) []) rfl (fun r9 w9 hq9 => ?_)
  obtain ⟨rfl, q13, rfl, rfl⟩ := hq9
  refine J.to (L1 := [(1, .int (iI 2)), (0, .ref a)]) (S1 := [.ref (q13 0), .int (iI 2), .ref z5]) (ws1 := ([(a, .inr (4, [.ref (q2 0), .ref (q4 0), .ref z5, .int (iI 0), .int (iI 0), .ref z6]))] ++ (wSt g q2 k0S ++ (wSt g q4 k0S ++ ([(z5, aS g 4 (va_up (va_up (fun _ => none) 0 (some (q9 0))) 1 (some (q11 0)))), (z6, .inr (3, [.ref z7, .int (iI 0), .int (iI 0)])), (z7, aI g 60 (fun _ => 0))] ++ (wSt g q9 k0S ++ (wSt g q11 k0S ++ (wSt g q13 k0S)))))))) rfl rfl rfl ?_
  refine j_aast (n := 4) (f := va_up (va_up (fun _ => none) 0 (some (q9 0))) 1 (some (q11 0))) (ws1 := ([(a, .inr (4, [.ref (q2 0), .ref (q4 0), .ref z5, .int (iI 0), .int (iI 0), .ref z6]))] ++ (wSt g q2 k0S ++ (wSt g q4 k0S ++ ([(z5, aS g 4 (va_up (va_up (va_up (fun _ => none) 0 (some (q9 0))) 1 (some (q11 0))) 2 (some (q13 0)))), (z6, .inr (3, [.ref z7, .int (iI 0), .int (iI 0)])), (z7, aI g 60 (fun _ => 0))] ++ (wSt g q9 k0S ++ (wSt g q11 k0S ++ (wSt g q13 k0S)))))))) C 17 36 2 rfl rfl rfl (by decide) (by decide) dX4_init_78 rfl ?_
  refine j_iinc (L1 := [(1, .int (iI (2 + 1))), (0, .ref a)]) C 0 dX4_init_79 rfl (by decide) rfl ?_
  refine j_goto (tgt := 57) C dX4_init_82 (by decide) ?_
  refine J.to (L1 := [(1, .int (iI 3)), (0, .ref a)]) (S1 := []) (ws1 := ([(a, .inr (4, [.ref (q2 0), .ref (q4 0), .ref z5, .int (iI 0), .int (iI 0), .ref z6]))] ++ (wSt g q2 k0S ++ (wSt g q4 k0S ++ ([(z5, aS g 4 (va_up (va_up (va_up (fun _ => none) 0 (some (q9 0))) 1 (some (q11 0))) 2 (some (q13 0)))), (z6, .inr (3, [.ref z7, .int (iI 0), .int (iI 0)])), (z7, aI g 60 (fun _ => 0))] ++ (wSt g q9 k0S ++ (wSt g q11 k0S ++ (wSt g q13 k0S)))))))) rfl rfl rfl ?_
  refine j_iload_n C 0 dX4_init_57 rfl rfl ?_
  refine j_aload_n C 1 dX4_init_58 rfl rfl ?_
  refine j_get C ck4 0 2 (by decide) qw132 rfl rfl dX4_init_59 ?_
  refine j_aalen (n := 4) (f := va_up (va_up (va_up (fun _ => none) 0 (some (q9 0))) 1 (some (q11 0))) 2 (some (q13 0))) (v := 4) C 17 rfl rfl dX4_init_62 ?_
  refine j_icmp_ge (tgt := 85) C (by decide) (by decide) dX4_init_63 (by decide) (fun c63 => absurd c63 (by decide)) (fun c63 => ?_)
  refine j_aload_n C 1 dX4_init_66 rfl rfl ?_
  refine j_get C ck4 0 2 (by decide) qw132 rfl rfl dX4_init_67 ?_
  refine j_iload_n C 0 dX4_init_70 rfl rfl ?_
  refine j_newO (fs := [.null, .null, .null, .null, .null, .int (iI 0)]) C ck2 qw21 qw22 qw2 (by intro j hj; match j, hj with | 0, _ => rfl | 1, _ => rfl | 2, _ => rfl | 3, _ => rfl | 4, _ => rfl | 5, _ => rfl) dX4_init_71 (Nat.le_of_ble_eq_true rfl) (Nat.le_of_ble_eq_true rfl) (fun z14 => ?_)
  refine J.to (L1 := [(1, .int (iI 3)), (0, .ref a)]) (S1 := [.ref z14, .int (iI 3), .ref z5]) (ws1 := ([(a, .inr (4, [.ref (q2 0), .ref (q4 0), .ref z5, .int (iI 0), .int (iI 0), .ref z6]))] ++ (wSt g q2 k0S ++ (wSt g q4 k0S ++ ([(z5, aS g 4 (va_up (va_up (va_up (fun _ => none) 0 (some (q9 0))) 1 (some (q11 0))) 2 (some (q13 0)))), (z6, .inr (3, [.ref z7, .int (iI 0), .int (iI 0)])), (z7, aI g 60 (fun _ => 0))] ++ (wSt g q9 k0S ++ (wSt g q11 k0S ++ (wSt g q13 k0S ++ ([(z14, .inr (2, [.null, .null, .null, .null, .null, .int (iI 0)]))]))))))))) rfl rfl rfl ?_
  refine j_dup C dX4_init_74 rfl ?_
  refine j_callI (As := []) (rest := [.ref z14, .int (iI 3), .ref z5]) C yi_X2_init qw23 (c_X2_init l g z14) (by decide) rfl dX4_init_75 rfl (Nat.le_of_ble_eq_true rfl) (by decide) (pf1 ([(a, .inr (4, [.ref (q2 0), .ref (q4 0), .ref z5, .int (iI 0), .int (iI 0), .ref z6]))] ++ (wSt g q2 k0S ++ (wSt g q4 k0S ++ ([(z5, aS g 4 (va_up (va_up (va_up (fun _ => none) 0 (some (q9 0))) 1 (some (q11 0))) 2 (some (q13 0)))), (z6, .inr (3, [.ref z7, .int (iI 0), .int (iI 0)])), (z7, aI g 60 (fun _ => 0))] ++ (wSt g q9 k0S ++ (wSt g q11 k0S ++ (wSt g q13 k0S))))))) []) rfl (fun r9 w9 hq9 => ?_)
  obtain ⟨rfl, q15, rfl, rfl⟩ := hq9
  refine J.to (L1 := [(1, .int (iI 3)), (0, .ref a)]) (S1 := [.ref (q15 0), .int (iI 3), .ref z5]) (ws1 := ([(a, .inr (4, [.ref (q2 0), .ref (q4 0), .ref z5, .int (iI 0), .int (iI 0), .ref z6]))] ++ (wSt g q2 k0S ++ (wSt g q4 k0S ++ ([(z5, aS g 4 (va_up (va_up (va_up (fun _ => none) 0 (some (q9 0))) 1 (some (q11 0))) 2 (some (q13 0)))), (z6, .inr (3, [.ref z7, .int (iI 0), .int (iI 0)])), (z7, aI g 60 (fun _ => 0))] ++ (wSt g q9 k0S ++ (wSt g q11 k0S ++ (wSt g q13 k0S ++ (wSt g q15 k0S))))))))) rfl rfl rfl ?_
  refine j_aast (n := 4) (f := va_up (va_up (va_up (fun _ => none) 0 (some (q9 0))) 1 (some (q11 0))) 2 (some (q13 0))) (ws1 := ([(a, .inr (4, [.ref (q2 0), .ref (q4 0), .ref z5, .int (iI 0), .int (iI 0), .ref z6]))] ++ (wSt g q2 k0S ++ (wSt g q4 k0S ++ ([(z5, aS g 4 (va_up (va_up (va_up (va_up (fun _ => none) 0 (some (q9 0))) 1 (some (q11 0))) 2 (some (q13 0))) 3 (some (q15 0)))), (z6, .inr (3, [.ref z7, .int (iI 0), .int (iI 0)])), (z7, aI g 60 (fun _ => 0))] ++ (wSt g q9 k0S ++ (wSt g q11 k0S ++ (wSt g q13 k0S ++ (wSt g q15 k0S))))))))) C 17 44 3 rfl rfl rfl (by decide) (by decide) dX4_init_78 rfl ?_
  refine j_iinc (L1 := [(1, .int (iI (3 + 1))), (0, .ref a)]) C 0 dX4_init_79 rfl (by decide) rfl ?_
  refine j_goto (tgt := 57) C dX4_init_82 (by decide) ?_
  refine J.to (L1 := [(1, .int (iI 4)), (0, .ref a)]) (S1 := []) (ws1 := ([(a, .inr (4, [.ref (q2 0), .ref (q4 0), .ref z5, .int (iI 0), .int (iI 0), .ref z6]))] ++ (wSt g q2 k0S ++ (wSt g q4 k0S ++ ([(z5, aS g 4 (va_up (va_up (va_up (va_up (fun _ => none) 0 (some (q9 0))) 1 (some (q11 0))) 2 (some (q13 0))) 3 (some (q15 0)))), (z6, .inr (3, [.ref z7, .int (iI 0), .int (iI 0)])), (z7, aI g 60 (fun _ => 0))] ++ (wSt g q9 k0S ++ (wSt g q11 k0S ++ (wSt g q13 k0S ++ (wSt g q15 k0S))))))))) rfl rfl rfl ?_
  refine j_iload_n C 0 dX4_init_57 rfl rfl ?_
  refine j_aload_n C 1 dX4_init_58 rfl rfl ?_
  refine j_get C ck4 0 2 (by decide) qw132 rfl rfl dX4_init_59 ?_
  refine j_aalen (n := 4) (f := va_up (va_up (va_up (va_up (fun _ => none) 0 (some (q9 0))) 1 (some (q11 0))) 2 (some (q13 0))) 3 (some (q15 0))) (v := 4) C 17 rfl rfl dX4_init_62 ?_
  refine j_icmp_ge (tgt := 85) C (by decide) (by decide) dX4_init_63 (by decide) (fun c63 => ?_) (fun c63 => absurd c63 (by decide))
  let qv9 : Nat → Nat → Nat := fun j => match j with | 0 => q9 | 1 => q11 | 2 => q13 | _ => q15
  refine j_aSto (n := 4) (f := va_up (va_up (va_up (va_up (fun _ => none) 0 (some (q9 0))) 1 (some (q11 0))) 2 (some (q13 0))) 3 (some (q15 0))) (f' := fun j => some (qv9 j 0)) (ws1 := ([(a, .inr (4, [.ref (q2 0), .ref (q4 0), .ref z5, .int (iI 0), .int (iI 0), .ref z6]))] ++ (wSt g q2 k0S ++ (wSt g q4 k0S ++ ([(z5, aS g 4 (fun j => some (qv9 j 0))), (z6, .inr (3, [.ref z7, .int (iI 0), .int (iI 0)])), (z7, aI g 60 (fun _ => 0))] ++ (wSt g q9 k0S ++ (wSt g q11 k0S ++ (wSt g q13 k0S ++ (wSt g q15 k0S))))))))) 17 rfl (fun j hj => match j, hj with | 0, _ => rfl | 1, _ => rfl | 2, _ => rfl | 3, _ => rfl) rfl ?_
  refine J.perm (w1 := ([(a, .inr (4, [.ref (q2 0), .ref (q4 0), .ref z5, .int (iI 0), .int (iI 0), .ref z6])), (z5, aS g 4 (fun j => some (qv9 j 0))), (z6, .inr (3, [.ref z7, .int (iI 0), .int (iI 0)])), (z7, aI g 60 (fun _ => 0))] ++ (wSt g q2 k0S ++ (wSt g q4 k0S ++ (wSt g q9 k0S ++ (wSt g q11 k0S ++ (wSt g q13 k0S ++ (wSt g q15 k0S)))))))) (List.Perm.append_left [(a, .inr (4, [.ref (q2 0), .ref (q4 0), .ref z5, .int (iI 0), .int (iI 0), .ref z6]))] ((List.Perm.append_left ([(q2 0, .inr (2, [.ref (q2 1), .ref (q2 3), .ref (q2 5), .ref (q2 6), .ref (q2 7), .int (iI (k0S 0 0))])), (q2 1, .inr (1, [.ref (q2 2), .int (iI (k0S 0 2)), .int (iI (k0S 0 3)), .int (iI (k0S 0 1))])), (q2 2, aI g 10 (k0S 1)), (q2 3, .inr (0, [.ref (q2 4), .int (iI (k0S 0 9)), .int (iI (k0S 0 6)), .int (iI (k0S 0 4)), .int (iI (k0S 0 5)), .long (lI (k0S 0 7)), .long (lI (k0S 0 8))])), (q2 4, aI g 48 (k0S 2)), (q2 5, aI g 4 (k0S 3)), (q2 6, aI g 4 (k0S 4)), (q2 7, aI g 4 (k0S 5))]) (pcm ([(q4 0, .inr (2, [.ref (q4 1), .ref (q4 3), .ref (q4 5), .ref (q4 6), .ref (q4 7), .int (iI (k0S 0 0))])), (q4 1, .inr (1, [.ref (q4 2), .int (iI (k0S 0 2)), .int (iI (k0S 0 3)), .int (iI (k0S 0 1))])), (q4 2, aI g 10 (k0S 1)), (q4 3, .inr (0, [.ref (q4 4), .int (iI (k0S 0 9)), .int (iI (k0S 0 6)), .int (iI (k0S 0 4)), .int (iI (k0S 0 5)), .long (lI (k0S 0 7)), .long (lI (k0S 0 8))])), (q4 4, aI g 48 (k0S 2)), (q4 5, aI g 4 (k0S 3)), (q4 6, aI g 4 (k0S 4)), (q4 7, aI g 4 (k0S 5))]) [(z5, aS g 4 (fun j => some (qv9 j 0))), (z6, .inr (3, [.ref z7, .int (iI 0), .int (iI 0)])), (z7, aI g 60 (fun _ => 0))] ((wSt g q9 k0S ++ (wSt g q11 k0S ++ (wSt g q13 k0S ++ (wSt g q15 k0S))))))).trans (pcm ([(q2 0, .inr (2, [.ref (q2 1), .ref (q2 3), .ref (q2 5), .ref (q2 6), .ref (q2 7), .int (iI (k0S 0 0))])), (q2 1, .inr (1, [.ref (q2 2), .int (iI (k0S 0 2)), .int (iI (k0S 0 3)), .int (iI (k0S 0 1))])), (q2 2, aI g 10 (k0S 1)), (q2 3, .inr (0, [.ref (q2 4), .int (iI (k0S 0 9)), .int (iI (k0S 0 6)), .int (iI (k0S 0 4)), .int (iI (k0S 0 5)), .long (lI (k0S 0 7)), .long (lI (k0S 0 8))])), (q2 4, aI g 48 (k0S 2)), (q2 5, aI g 4 (k0S 3)), (q2 6, aI g 4 (k0S 4)), (q2 7, aI g 4 (k0S 5))]) [(z5, aS g 4 (fun j => some (qv9 j 0))), (z6, .inr (3, [.ref z7, .int (iI 0), .int (iI 0)])), (z7, aI g 60 (fun _ => 0))] ([(q4 0, .inr (2, [.ref (q4 1), .ref (q4 3), .ref (q4 5), .ref (q4 6), .ref (q4 7), .int (iI (k0S 0 0))])), (q4 1, .inr (1, [.ref (q4 2), .int (iI (k0S 0 2)), .int (iI (k0S 0 3)), .int (iI (k0S 0 1))])), (q4 2, aI g 10 (k0S 1)), (q4 3, .inr (0, [.ref (q4 4), .int (iI (k0S 0 9)), .int (iI (k0S 0 6)), .int (iI (k0S 0 4)), .int (iI (k0S 0 5)), .long (lI (k0S 0 7)), .long (lI (k0S 0 8))])), (q4 4, aI g 48 (k0S 2)), (q4 5, aI g 4 (k0S 3)), (q4 6, aI g 4 (k0S 4)), (q4 7, aI g 4 (k0S 5))] ++ ((wSt g q9 k0S ++ (wSt g q11 k0S ++ (wSt g q13 k0S ++ (wSt g q15 k0S)))))))) ) ?_
  exact j_vret C hr hlk dX4_init_85 ⟨rfl, adr a z5 z6 z7 0 0 0 0, q2, q4, qv9, rfl, rfl⟩ (by decide) (by decide)

