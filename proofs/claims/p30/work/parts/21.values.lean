/-! RopeTackle: the values and the questions -/
section JSW
variable {p : Program} {l : Launch} {e : Env} {R : Room} {s : State} {m : MethodId} {args : Array Value} {below : List Frame} {meth : Method} {c : Code} {g : Gh} {A : Nat → Prop} {cc : ByteArray} {nL : Nat} {own : String} {pc : Nat} {L : List (Nat × Value)} {S : List Value} {ws : va_W} {cells slots : Nat} {Q : State → Prop}
theorem j_tswIn (C : Cx p g s m args c cc nL own A) {x dflt lo hi off : Int} {offs : Array Int} {len tgt : Nat} (hx : -2147483648 ≤ x ∧ x < 2147483648) (hd : decode cc pc = .ok (.tableswitch dflt lo hi offs, len)) (h1 : lo ≤ x ∧ x ≤ hi) (ho : offs[(x - lo).toNat]? = some off) (ht : (pc : Int) + off = (tgt : Int)) (kk : J p l e R s m args below meth c g A nL tgt L S ws cells slots Q) : J p l e R s m args below meth c g A nL pc L (.int (iI x) :: S) ws cells slots Q := by
  intro H locs ls hP hD hS h
  refine lv_tableIn C.1 C.2.1 hd (by rw [iI_toInt hx]; omega) (by rw [iI_toInt hx]; omega) (by rw [iI_toInt hx]; exact ho) ht (kk H locs ls hP hD hS h)
theorem j_tswOut (C : Cx p g s m args c cc nL own A) {x dflt lo hi : Int} {offs : Array Int} {len tgt : Nat} (hx : -2147483648 ≤ x ∧ x < 2147483648) (hd : decode cc pc = .ok (.tableswitch dflt lo hi offs, len)) (h1 : x < lo ∨ hi < x) (ht : (pc : Int) + dflt = (tgt : Int)) (kk : J p l e R s m args below meth c g A nL tgt L S ws cells slots Q) : J p l e R s m args below meth c g A nL pc L (.int (iI x) :: S) ws cells slots Q := by
  intro H locs ls hP hD hS h
  exact lv_tableOut C.1 C.2.1 hd (by rw [iI_toInt hx]; omega) ht (kk H locs ls hP hD hS h)
theorem j_l2d (C : Cx p g s m args c cc nL own A) {x : Int} (hd : decode cc pc = .ok (.l2d, 1)) (kk : J p l e R s m args below meth c g A nL (pc + 1) L (.double (FP.l2d (lI x)) :: S) ws cells slots Q) : J p l e R s m args below meth c g A nL pc L (.long (lI x) :: S) ws cells slots Q := by
  intro H locs ls hP hD hS h
  exact lv_l2d C.1 C.2.1 hd (kk H locs ls hP hD hS h)
theorem j_dconst0 (C : Cx p g s m args c cc nL own A) (hd : decode cc pc = .ok (.dconst 0, 1)) (kk : J p l e R s m args below meth c g A nL (pc + 1) L (.double 0 :: S) ws cells slots Q) : J p l e R s m args below meth c g A nL pc L S ws cells slots Q := by
  intro H locs ls hP hD hS h
  exact lv_dconst0 C.1 C.2.1 hd (kk H locs ls hP hD hS h)
theorem j_ddiv (C : Cx p g s m args c cc nL own A) {x y : UInt64} (hn : vf_n64 (FP.ddiv x y)) (hd : decode cc pc = .ok (.ddiv, 1)) (kk : J p l e R s m args below meth c g A nL (pc + 1) L (.double (FP.ddiv x y) :: S) ws cells slots Q) : J p l e R s m args below meth c g A nL pc L (.double y :: .double x :: S) ws cells slots Q := by
  intro H locs ls hP hD hS h
  exact lv_ddiv C.1 C.2.1 hd hn (kk H locs ls hP hD hS h)
theorem j_dcmp_le (C : Cx p g s m args c cc nL own A) {x y : UInt64} {op : CmpOp} {off : Int} {tgt : Nat} (hd : decode cc pc = .ok (.dcmp op, 1)) (hd2 : decode cc (pc + 1) = .ok (.ifCond .le off, 3)) (ht : ((pc + 1 : Nat) : Int) + off = (tgt : Int)) (kt : Op.cmpValue (FP.dcmp x y) op ≤ 0 → J p l e R s m args below meth c g A nL tgt L S ws cells slots Q) (kf : ¬ Op.cmpValue (FP.dcmp x y) op ≤ 0 → J p l e R s m args below meth c g A nL (pc + 4) L S ws cells slots Q) : J p l e R s m args below meth c g A nL pc L (.double y :: .double x :: S) ws cells slots Q := by
  intro H locs ls hP hD hS h
  exact lv_dcmp C.1 C.2.1 hd (lv_if_le C.1 C.2.1 hd2 ht (fun hc => kt hc H locs ls hP hD hS h) (fun hc => kf hc H locs ls hP hD hS h))
end JSW
abbrev effB (put : Int) : Prop := Op.cmpValue (FP.dcmp (FP.l2d (lI put)) 0) .l ≤ 0
/-- the efficiency's bits -/
def effF (put got : Int) : UInt64 := if effB put then 0 else FP.ddiv (FP.l2d (lI got)) (FP.l2d (lI put))
theorem effB_0 : Op.cmpValue (FP.dcmp (FP.l2d 0) 0) .l ≤ 0 := by decide +kernel
noncomputable def blkF (k : Nat → Nat → Int) (b w : Int) : Int := if w = 0 then k 3 b.toNat else if w = 1 then k 4 b.toNat else if w = 2 then strn (k 1) (k 0 2).toNat (k 0 3) b else if w = 3 then cnt (k 1) b (k 0 2).toNat else if w = 4 then lea (k 1) (k 0 1) true (k 0 2).toNat (k 0 3) b (k 3 b.toNat) else if w = 5 then lea (k 1) (k 0 1) false (k 0 2).toNat (k 0 3) b (k 3 b.toNat) else strn (k 1) (k 0 2).toNat (k 0 3) b * (9000 - k 4 b.toNat)
def passF (k : Nat → Nat → Int) : Int := 2 * k 0 2 + if k 0 3 = 4 then 0 else 1
theorem passF_rng {k : Nat → Nat → Int} (hk : SOK k) : 0 ≤ passF k ∧ passF k ≤ 21 := by
  have := hk.1
  unfold passF
  split <;> omega
def valF (k : Nat → Nat → Int) (w : Int) : Int := if w = 0 then k 0 0 else if w = 1 then hnd k else if w = 2 then k 0 1 else if w = 3 then k 0 2 else if w = 4 then k 0 3 else if w = 5 then passF k else if w = 6 then hng (k 1) (k 0 2).toNat (k 0 3) (k 4) 4 else if w = 7 then k 0 4 else if w = 8 then k 0 5 else k 0 6
theorem c_X4_block_0 (l : Launch) (g : Gh) (r : Nat → Nat) (qn qt : Nat → Nat) (qv : Nat → Nat → Nat) (kn kt : Nat → Nat → Int) (kv : Nat → Nat → Nat → Int) (sc : Int) (ns : Nat) (tx : Nat → Int) (tn : Nat) (pl : Int) (b : Int) (hT : TOK kn kv sc ns tx tn) (hb4 : 0 ≤ b ∧ b < 4) : CT l g yX4_block cX4_block 3 (some FieldType.int) ({ frames := 4, cells := 0, slots := 0, locals := 104 }) [.ref (r 0), .int (iI b), .int (iI 0)] ([(r 0, .inr (4, [.ref (qn 0), .ref (qt 0), .ref (r 1), .int (iI sc), .int (iI ((ns : Int))), .ref (r 2)])), (r 1, aS g 4 (fun j => some (qv j 0))), (r 2, .inr (3, [.ref (r 3), .int (iI ((tn : Int))), .int (iI pl)])), (r 3, aI g 60 tx)] ++ (wSt g qn kn ++ (wSt g qt kt ++ (wS4 g qv kv)))) (PE (some (.int (iI (kn 3 b.toNat)))) (wTp g r qn qt qv kn kt kv sc ns tx tn pl)) := by
  refine CT.intro (L0 := [(0, .ref (r 0)), (1, .int (iI b)), (2, .int (iI 0))]) (own := RX4) (by decide) rfl (Nat.le_of_ble_eq_true rfl) rfl ?_
  intro pX eX sX mX argsX belowX methX cX A C hr hlk
  obtain ⟨⟨hk, hh0⟩, hkv, hsc, hns, htn, htx⟩ := id hT
  obtain ⟨hP, hE0, hF, hrow0, hwt, hht, hlen, hlat, hkept⟩ := id hk
  have hE : -10 ≤ kn 0 3 ∧ kn 0 3 ≤ 10 := by omega
  have hrow : ∀ i : Nat, (i : Int) < kn 0 2 → 0 ≤ kn 1 i ∧ kn 1 i ≤ 4 := fun i hi => by have := hrow0 i hi; omega
  have hc2 : cpS kn kt 0 2 = kn 0 2 := rfl
  have hhnd : 0 ≤ hnd kn ∧ hnd kn ≤ 300000 := ⟨hh0, hnd_le hk⟩
  refine j_iload_n C 1 dX4_block_0 rfl rfl ?_
  refine j_callS (As := [.int (iI b)]) (rest := []) C ys_X4_checkBlock qw166 (c_X4_checkBlock l g b (by omega)) (by decide) rfl dX4_block_1 rfl (Nat.le_of_ble_eq_true rfl) (by decide) (pf1 [] ([(r 0, .inr (4, [.ref (qn 0), .ref (qt 0), .ref (r 1), .int (iI sc), .int (iI ((ns : Int))), .ref (r 2)])), (r 1, aS g 4 (fun j => some (qv j 0))), (r 2, .inr (3, [.ref (r 3), .int (iI ((tn : Int))), .int (iI pl)])), (r 3, aI g 60 tx)] ++ (wSt g qn kn ++ (wSt g qt kt ++ (wS4 g qv kv))))) rfl (fun r9 w9 hq9 => ?_)
  obtain ⟨rfl, rfl⟩ := hq9
  refine J.to (L1 := [(0, .ref (r 0)), (1, .int (iI b)), (2, .int (iI 0))]) (S1 := []) (ws1 := ([(r 0, .inr (4, [.ref (qn 0), .ref (qt 0), .ref (r 1), .int (iI sc), .int (iI ((ns : Int))), .ref (r 2)])), (r 1, aS g 4 (fun j => some (qv j 0))), (r 2, .inr (3, [.ref (r 3), .int (iI ((tn : Int))), .int (iI pl)])), (r 3, aI g 60 tx)] ++ (wSt g qn kn ++ (wSt g qt kt ++ (wS4 g qv kv))))) rfl rfl rfl ?_
  refine j_iload_n C 2 dX4_block_4 rfl rfl ?_
  refine j_tswIn (tgt := 48) C (by decide) dX4_block_5 (by decide) rfl (by decide) ?_
  refine j_aload_n C 0 dX4_block_48 rfl rfl ?_
  refine j_get C ck4 0 0 (by decide) qw130 rfl rfl dX4_block_49 ?_
  refine j_iload_n C 1 dX4_block_52 rfl rfl ?_
  refine j_callV (As := [.int (iI b)]) (rest := []) C yv_X2_weightOf qw291 (c_X2_weightOf l g qn kn b hk (by omega)) (by decide) 4 rfl rfl rfl dX4_block_53 rfl (Nat.le_of_ble_eq_true rfl) (by decide) (pf1 [(r 0, .inr (4, [.ref (qn 0), .ref (qt 0), .ref (r 1), .int (iI sc), .int (iI ((ns : Int))), .ref (r 2)])), (r 1, aS g 4 (fun j => some (qv j 0))), (r 2, .inr (3, [.ref (r 3), .int (iI ((tn : Int))), .int (iI pl)])), (r 3, aI g 60 tx)] (wSt g qt kt ++ (wS4 g qv kv))) rfl (fun r9 w9 hq9 => ?_)
  obtain ⟨rfl, rfl⟩ := hq9
  refine J.to (L1 := [(0, .ref (r 0)), (1, .int (iI b)), (2, .int (iI 0))]) (S1 := [.int (iI (kn 3 b.toNat))]) (ws1 := ([(r 0, .inr (4, [.ref (qn 0), .ref (qt 0), .ref (r 1), .int (iI sc), .int (iI ((ns : Int))), .ref (r 2)])), (r 1, aS g 4 (fun j => some (qv j 0))), (r 2, .inr (3, [.ref (r 3), .int (iI ((tn : Int))), .int (iI pl)])), (r 3, aI g 60 tx)] ++ (wSt g qn kn ++ (wSt g qt kt ++ (wS4 g qv kv))))) rfl rfl rfl ?_
  exact j_iret C hr hlk dX4_block_56 ⟨rfl, rfl⟩ (by decide) (by decide)

theorem c_X4_block_1 (l : Launch) (g : Gh) (r : Nat → Nat) (qn qt : Nat → Nat) (qv : Nat → Nat → Nat) (kn kt : Nat → Nat → Int) (kv : Nat → Nat → Nat → Int) (sc : Int) (ns : Nat) (tx : Nat → Int) (tn : Nat) (pl : Int) (b : Int) (hT : TOK kn kv sc ns tx tn) (hb4 : 0 ≤ b ∧ b < 4) : CT l g yX4_block cX4_block 3 (some FieldType.int) ({ frames := 4, cells := 0, slots := 0, locals := 104 }) [.ref (r 0), .int (iI b), .int (iI 1)] ([(r 0, .inr (4, [.ref (qn 0), .ref (qt 0), .ref (r 1), .int (iI sc), .int (iI ((ns : Int))), .ref (r 2)])), (r 1, aS g 4 (fun j => some (qv j 0))), (r 2, .inr (3, [.ref (r 3), .int (iI ((tn : Int))), .int (iI pl)])), (r 3, aI g 60 tx)] ++ (wSt g qn kn ++ (wSt g qt kt ++ (wS4 g qv kv)))) (PE (some (.int (iI (kn 4 b.toNat)))) (wTp g r qn qt qv kn kt kv sc ns tx tn pl)) := by
  refine CT.intro (L0 := [(0, .ref (r 0)), (1, .int (iI b)), (2, .int (iI 1))]) (own := RX4) (by decide) rfl (Nat.le_of_ble_eq_true rfl) rfl ?_
  intro pX eX sX mX argsX belowX methX cX A C hr hlk
  obtain ⟨⟨hk, hh0⟩, hkv, hsc, hns, htn, htx⟩ := id hT
  obtain ⟨hP, hE0, hF, hrow0, hwt, hht, hlen, hlat, hkept⟩ := id hk
  have hE : -10 ≤ kn 0 3 ∧ kn 0 3 ≤ 10 := by omega
  have hrow : ∀ i : Nat, (i : Int) < kn 0 2 → 0 ≤ kn 1 i ∧ kn 1 i ≤ 4 := fun i hi => by have := hrow0 i hi; omega
  have hc2 : cpS kn kt 0 2 = kn 0 2 := rfl
  have hhnd : 0 ≤ hnd kn ∧ hnd kn ≤ 300000 := ⟨hh0, hnd_le hk⟩
  refine j_iload_n C 1 dX4_block_0 rfl rfl ?_
  refine j_callS (As := [.int (iI b)]) (rest := []) C ys_X4_checkBlock qw166 (c_X4_checkBlock l g b (by omega)) (by decide) rfl dX4_block_1 rfl (Nat.le_of_ble_eq_true rfl) (by decide) (pf1 [] ([(r 0, .inr (4, [.ref (qn 0), .ref (qt 0), .ref (r 1), .int (iI sc), .int (iI ((ns : Int))), .ref (r 2)])), (r 1, aS g 4 (fun j => some (qv j 0))), (r 2, .inr (3, [.ref (r 3), .int (iI ((tn : Int))), .int (iI pl)])), (r 3, aI g 60 tx)] ++ (wSt g qn kn ++ (wSt g qt kt ++ (wS4 g qv kv))))) rfl (fun r9 w9 hq9 => ?_)
  obtain ⟨rfl, rfl⟩ := hq9
  refine J.to (L1 := [(0, .ref (r 0)), (1, .int (iI b)), (2, .int (iI 1))]) (S1 := []) (ws1 := ([(r 0, .inr (4, [.ref (qn 0), .ref (qt 0), .ref (r 1), .int (iI sc), .int (iI ((ns : Int))), .ref (r 2)])), (r 1, aS g 4 (fun j => some (qv j 0))), (r 2, .inr (3, [.ref (r 3), .int (iI ((tn : Int))), .int (iI pl)])), (r 3, aI g 60 tx)] ++ (wSt g qn kn ++ (wSt g qt kt ++ (wS4 g qv kv))))) rfl rfl rfl ?_
  refine j_iload_n C 2 dX4_block_4 rfl rfl ?_
  refine j_tswIn (tgt := 57) C (by decide) dX4_block_5 (by decide) rfl (by decide) ?_
  refine j_aload_n C 0 dX4_block_57 rfl rfl ?_
  refine j_get C ck4 0 0 (by decide) qw130 rfl rfl dX4_block_58 ?_
  refine j_iload_n C 1 dX4_block_61 rfl rfl ?_
  refine j_callV (As := [.int (iI b)]) (rest := []) C yv_X2_heightOf qw463 (c_X2_heightOf l g qn kn b hk (by omega)) (by decide) 4 rfl rfl rfl dX4_block_62 rfl (Nat.le_of_ble_eq_true rfl) (by decide) (pf1 [(r 0, .inr (4, [.ref (qn 0), .ref (qt 0), .ref (r 1), .int (iI sc), .int (iI ((ns : Int))), .ref (r 2)])), (r 1, aS g 4 (fun j => some (qv j 0))), (r 2, .inr (3, [.ref (r 3), .int (iI ((tn : Int))), .int (iI pl)])), (r 3, aI g 60 tx)] (wSt g qt kt ++ (wS4 g qv kv))) rfl (fun r9 w9 hq9 => ?_)
  obtain ⟨rfl, rfl⟩ := hq9
  refine J.to (L1 := [(0, .ref (r 0)), (1, .int (iI b)), (2, .int (iI 1))]) (S1 := [.int (iI (kn 4 b.toNat))]) (ws1 := ([(r 0, .inr (4, [.ref (qn 0), .ref (qt 0), .ref (r 1), .int (iI sc), .int (iI ((ns : Int))), .ref (r 2)])), (r 1, aS g 4 (fun j => some (qv j 0))), (r 2, .inr (3, [.ref (r 3), .int (iI ((tn : Int))), .int (iI pl)])), (r 3, aI g 60 tx)] ++ (wSt g qn kn ++ (wSt g qt kt ++ (wS4 g qv kv))))) rfl rfl rfl ?_
  exact j_iret C hr hlk dX4_block_65 ⟨rfl, rfl⟩ (by decide) (by decide)

theorem c_X4_block_2 (l : Launch) (g : Gh) (r : Nat → Nat) (qn qt : Nat → Nat) (qv : Nat → Nat → Nat) (kn kt : Nat → Nat → Int) (kv : Nat → Nat → Nat → Int) (sc : Int) (ns : Nat) (tx : Nat → Int) (tn : Nat) (pl : Int) (b : Int) (hT : TOK kn kv sc ns tx tn) (hb4 : 0 ≤ b ∧ b < 4) : CT l g yX4_block cX4_block 3 (some FieldType.int) ({ frames := 4, cells := 0, slots := 0, locals := 104 }) [.ref (r 0), .int (iI b), .int (iI 2)] ([(r 0, .inr (4, [.ref (qn 0), .ref (qt 0), .ref (r 1), .int (iI sc), .int (iI ((ns : Int))), .ref (r 2)])), (r 1, aS g 4 (fun j => some (qv j 0))), (r 2, .inr (3, [.ref (r 3), .int (iI ((tn : Int))), .int (iI pl)])), (r 3, aI g 60 tx)] ++ (wSt g qn kn ++ (wSt g qt kt ++ (wS4 g qv kv)))) (PE (some (.int (iI (strn (kn 1) (kn 0 2).toNat (kn 0 3) b)))) (wTp g r qn qt qv kn kt kv sc ns tx tn pl)) := by
  refine CT.intro (L0 := [(0, .ref (r 0)), (1, .int (iI b)), (2, .int (iI 2))]) (own := RX4) (by decide) rfl (Nat.le_of_ble_eq_true rfl) rfl ?_
  intro pX eX sX mX argsX belowX methX cX A C hr hlk
  obtain ⟨⟨hk, hh0⟩, hkv, hsc, hns, htn, htx⟩ := id hT
  obtain ⟨hP, hE0, hF, hrow0, hwt, hht, hlen, hlat, hkept⟩ := id hk
  have hE : -10 ≤ kn 0 3 ∧ kn 0 3 ≤ 10 := by omega
  have hrow : ∀ i : Nat, (i : Int) < kn 0 2 → 0 ≤ kn 1 i ∧ kn 1 i ≤ 4 := fun i hi => by have := hrow0 i hi; omega
  have hc2 : cpS kn kt 0 2 = kn 0 2 := rfl
  have hhnd : 0 ≤ hnd kn ∧ hnd kn ≤ 300000 := ⟨hh0, hnd_le hk⟩
  refine j_iload_n C 1 dX4_block_0 rfl rfl ?_
  refine j_callS (As := [.int (iI b)]) (rest := []) C ys_X4_checkBlock qw166 (c_X4_checkBlock l g b (by omega)) (by decide) rfl dX4_block_1 rfl (Nat.le_of_ble_eq_true rfl) (by decide) (pf1 [] ([(r 0, .inr (4, [.ref (qn 0), .ref (qt 0), .ref (r 1), .int (iI sc), .int (iI ((ns : Int))), .ref (r 2)])), (r 1, aS g 4 (fun j => some (qv j 0))), (r 2, .inr (3, [.ref (r 3), .int (iI ((tn : Int))), .int (iI pl)])), (r 3, aI g 60 tx)] ++ (wSt g qn kn ++ (wSt g qt kt ++ (wS4 g qv kv))))) rfl (fun r9 w9 hq9 => ?_)
  obtain ⟨rfl, rfl⟩ := hq9
  refine J.to (L1 := [(0, .ref (r 0)), (1, .int (iI b)), (2, .int (iI 2))]) (S1 := []) (ws1 := ([(r 0, .inr (4, [.ref (qn 0), .ref (qt 0), .ref (r 1), .int (iI sc), .int (iI ((ns : Int))), .ref (r 2)])), (r 1, aS g 4 (fun j => some (qv j 0))), (r 2, .inr (3, [.ref (r 3), .int (iI ((tn : Int))), .int (iI pl)])), (r 3, aI g 60 tx)] ++ (wSt g qn kn ++ (wSt g qt kt ++ (wS4 g qv kv))))) rfl rfl rfl ?_
  refine j_iload_n C 2 dX4_block_4 rfl rfl ?_
  refine j_tswIn (tgt := 66) C (by decide) dX4_block_5 (by decide) rfl (by decide) ?_
  refine j_aload_n C 0 dX4_block_66 rfl rfl ?_
  refine j_get C ck4 0 0 (by decide) qw130 rfl rfl dX4_block_67 ?_
  refine j_getN C ck2 4 0 (by decide) qn90 rfl rfl dX4_block_70 ?_
  refine j_iload_n C 1 dX4_block_73 rfl rfl ?_
  refine j_callV (As := [.int (iI b)]) (rest := []) C yv_X1_strandsOf qw464 (c_X1_strandsOf l g (qn 1) (qn 2) (kn 1) (kn 0 2) (kn 0 3) (kn 0 1) b hP hE (by omega) hrow) (by decide) 5 rfl rfl rfl dX4_block_74 rfl (Nat.le_of_ble_eq_true rfl) (by decide) (pf1 [(r 0, .inr (4, [.ref (qn 0), .ref (qt 0), .ref (r 1), .int (iI sc), .int (iI ((ns : Int))), .ref (r 2)])), (r 1, aS g 4 (fun j => some (qv j 0))), (r 2, .inr (3, [.ref (r 3), .int (iI ((tn : Int))), .int (iI pl)])), (r 3, aI g 60 tx), (qn 0, .inr (2, [.ref (qn 1), .ref (qn 3), .ref (qn 5), .ref (qn 6), .ref (qn 7), .int (iI (kn 0 0))]))] ([(qn 3, .inr (0, [.ref (qn 4), .int (iI (kn 0 9)), .int (iI (kn 0 6)), .int (iI (kn 0 4)), .int (iI (kn 0 5)), .long (lI (kn 0 7)), .long (lI (kn 0 8))])), (qn 4, aI g 48 (kn 2)), (qn 5, aI g 4 (kn 3)), (qn 6, aI g 4 (kn 4)), (qn 7, aI g 4 (kn 5))] ++ (wSt g qt kt ++ (wS4 g qv kv)))) rfl (fun r9 w9 hq9 => ?_)
  obtain ⟨rfl, rfl⟩ := hq9
  refine J.to (L1 := [(0, .ref (r 0)), (1, .int (iI b)), (2, .int (iI 2))]) (S1 := [.int (iI (strn (kn 1) (kn 0 2).toNat (kn 0 3) b))]) (ws1 := ([(r 0, .inr (4, [.ref (qn 0), .ref (qt 0), .ref (r 1), .int (iI sc), .int (iI ((ns : Int))), .ref (r 2)])), (r 1, aS g 4 (fun j => some (qv j 0))), (r 2, .inr (3, [.ref (r 3), .int (iI ((tn : Int))), .int (iI pl)])), (r 3, aI g 60 tx)] ++ (wSt g qn kn ++ (wSt g qt kt ++ (wS4 g qv kv))))) rfl rfl rfl ?_
  exact j_iret C hr hlk dX4_block_77 ⟨rfl, rfl⟩ (by decide) (by decide)

theorem c_X4_block_3 (l : Launch) (g : Gh) (r : Nat → Nat) (qn qt : Nat → Nat) (qv : Nat → Nat → Nat) (kn kt : Nat → Nat → Int) (kv : Nat → Nat → Nat → Int) (sc : Int) (ns : Nat) (tx : Nat → Int) (tn : Nat) (pl : Int) (b : Int) (hT : TOK kn kv sc ns tx tn) (hb4 : 0 ≤ b ∧ b < 4) : CT l g yX4_block cX4_block 3 (some FieldType.int) ({ frames := 4, cells := 0, slots := 0, locals := 104 }) [.ref (r 0), .int (iI b), .int (iI 3)] ([(r 0, .inr (4, [.ref (qn 0), .ref (qt 0), .ref (r 1), .int (iI sc), .int (iI ((ns : Int))), .ref (r 2)])), (r 1, aS g 4 (fun j => some (qv j 0))), (r 2, .inr (3, [.ref (r 3), .int (iI ((tn : Int))), .int (iI pl)])), (r 3, aI g 60 tx)] ++ (wSt g qn kn ++ (wSt g qt kt ++ (wS4 g qv kv)))) (PE (some (.int (iI (cnt (kn 1) b (kn 0 2).toNat)))) (wTp g r qn qt qv kn kt kv sc ns tx tn pl)) := by
  refine CT.intro (L0 := [(0, .ref (r 0)), (1, .int (iI b)), (2, .int (iI 3))]) (own := RX4) (by decide) rfl (Nat.le_of_ble_eq_true rfl) rfl ?_
  intro pX eX sX mX argsX belowX methX cX A C hr hlk
  obtain ⟨⟨hk, hh0⟩, hkv, hsc, hns, htn, htx⟩ := id hT
  obtain ⟨hP, hE0, hF, hrow0, hwt, hht, hlen, hlat, hkept⟩ := id hk
  have hE : -10 ≤ kn 0 3 ∧ kn 0 3 ≤ 10 := by omega
  have hrow : ∀ i : Nat, (i : Int) < kn 0 2 → 0 ≤ kn 1 i ∧ kn 1 i ≤ 4 := fun i hi => by have := hrow0 i hi; omega
  have hc2 : cpS kn kt 0 2 = kn 0 2 := rfl
  have hhnd : 0 ≤ hnd kn ∧ hnd kn ≤ 300000 := ⟨hh0, hnd_le hk⟩
  refine j_iload_n C 1 dX4_block_0 rfl rfl ?_
  refine j_callS (As := [.int (iI b)]) (rest := []) C ys_X4_checkBlock qw166 (c_X4_checkBlock l g b (by omega)) (by decide) rfl dX4_block_1 rfl (Nat.le_of_ble_eq_true rfl) (by decide) (pf1 [] ([(r 0, .inr (4, [.ref (qn 0), .ref (qt 0), .ref (r 1), .int (iI sc), .int (iI ((ns : Int))), .ref (r 2)])), (r 1, aS g 4 (fun j => some (qv j 0))), (r 2, .inr (3, [.ref (r 3), .int (iI ((tn : Int))), .int (iI pl)])), (r 3, aI g 60 tx)] ++ (wSt g qn kn ++ (wSt g qt kt ++ (wS4 g qv kv))))) rfl (fun r9 w9 hq9 => ?_)
  obtain ⟨rfl, rfl⟩ := hq9
  refine J.to (L1 := [(0, .ref (r 0)), (1, .int (iI b)), (2, .int (iI 3))]) (S1 := []) (ws1 := ([(r 0, .inr (4, [.ref (qn 0), .ref (qt 0), .ref (r 1), .int (iI sc), .int (iI ((ns : Int))), .ref (r 2)])), (r 1, aS g 4 (fun j => some (qv j 0))), (r 2, .inr (3, [.ref (r 3), .int (iI ((tn : Int))), .int (iI pl)])), (r 3, aI g 60 tx)] ++ (wSt g qn kn ++ (wSt g qt kt ++ (wS4 g qv kv))))) rfl rfl rfl ?_
  refine j_iload_n C 2 dX4_block_4 rfl rfl ?_
  refine j_tswIn (tgt := 78) C (by decide) dX4_block_5 (by decide) rfl (by decide) ?_
  refine j_aload_n C 0 dX4_block_78 rfl rfl ?_
  refine j_get C ck4 0 0 (by decide) qw130 rfl rfl dX4_block_79 ?_
  refine j_getN C ck2 4 0 (by decide) qn90 rfl rfl dX4_block_82 ?_
  refine j_iload_n C 1 dX4_block_85 rfl rfl ?_
  refine j_callV (As := [.int (iI b)]) (rest := []) C yv_X1_pulleysOn qw465 (c_X1_pulleysOn l g (qn 1) (qn 2) (kn 1) (kn 0 2) (kn 0 3) (kn 0 1) b hP (by omega) hrow) (by decide) 5 rfl rfl rfl dX4_block_86 rfl (Nat.le_of_ble_eq_true rfl) (by decide) (pf1 [(r 0, .inr (4, [.ref (qn 0), .ref (qt 0), .ref (r 1), .int (iI sc), .int (iI ((ns : Int))), .ref (r 2)])), (r 1, aS g 4 (fun j => some (qv j 0))), (r 2, .inr (3, [.ref (r 3), .int (iI ((tn : Int))), .int (iI pl)])), (r 3, aI g 60 tx), (qn 0, .inr (2, [.ref (qn 1), .ref (qn 3), .ref (qn 5), .ref (qn 6), .ref (qn 7), .int (iI (kn 0 0))]))] ([(qn 3, .inr (0, [.ref (qn 4), .int (iI (kn 0 9)), .int (iI (kn 0 6)), .int (iI (kn 0 4)), .int (iI (kn 0 5)), .long (lI (kn 0 7)), .long (lI (kn 0 8))])), (qn 4, aI g 48 (kn 2)), (qn 5, aI g 4 (kn 3)), (qn 6, aI g 4 (kn 4)), (qn 7, aI g 4 (kn 5))] ++ (wSt g qt kt ++ (wS4 g qv kv)))) rfl (fun r9 w9 hq9 => ?_)
  obtain ⟨rfl, rfl⟩ := hq9
  refine J.to (L1 := [(0, .ref (r 0)), (1, .int (iI b)), (2, .int (iI 3))]) (S1 := [.int (iI (cnt (kn 1) b (kn 0 2).toNat))]) (ws1 := ([(r 0, .inr (4, [.ref (qn 0), .ref (qt 0), .ref (r 1), .int (iI sc), .int (iI ((ns : Int))), .ref (r 2)])), (r 1, aS g 4 (fun j => some (qv j 0))), (r 2, .inr (3, [.ref (r 3), .int (iI ((tn : Int))), .int (iI pl)])), (r 3, aI g 60 tx)] ++ (wSt g qn kn ++ (wSt g qt kt ++ (wS4 g qv kv))))) rfl rfl rfl ?_
  exact j_iret C hr hlk dX4_block_89 ⟨rfl, rfl⟩ (by decide) (by decide)

theorem c_X4_block_4 (l : Launch) (g : Gh) (r : Nat → Nat) (qn qt : Nat → Nat) (qv : Nat → Nat → Nat) (kn kt : Nat → Nat → Int) (kv : Nat → Nat → Nat → Int) (sc : Int) (ns : Nat) (tx : Nat → Int) (tn : Nat) (pl : Int) (b : Int) (hT : TOK kn kv sc ns tx tn) (hb4 : 0 ≤ b ∧ b < 4) : CT l g yX4_block cX4_block 3 (some FieldType.int) ({ frames := 4, cells := 0, slots := 0, locals := 104 }) [.ref (r 0), .int (iI b), .int (iI 4)] ([(r 0, .inr (4, [.ref (qn 0), .ref (qt 0), .ref (r 1), .int (iI sc), .int (iI ((ns : Int))), .ref (r 2)])), (r 1, aS g 4 (fun j => some (qv j 0))), (r 2, .inr (3, [.ref (r 3), .int (iI ((tn : Int))), .int (iI pl)])), (r 3, aI g 60 tx)] ++ (wSt g qn kn ++ (wSt g qt kt ++ (wS4 g qv kv)))) (PE (some (.int (iI (lea (kn 1) (kn 0 1) true (kn 0 2).toNat (kn 0 3) b (kn 3 b.toNat))))) (wTp g r qn qt qv kn kt kv sc ns tx tn pl)) := by
  refine CT.intro (L0 := [(0, .ref (r 0)), (1, .int (iI b)), (2, .int (iI 4))]) (own := RX4) (by decide) rfl (Nat.le_of_ble_eq_true rfl) rfl ?_
  intro pX eX sX mX argsX belowX methX cX A C hr hlk
  obtain ⟨⟨hk, hh0⟩, hkv, hsc, hns, htn, htx⟩ := id hT
  obtain ⟨hP, hE0, hF, hrow0, hwt, hht, hlen, hlat, hkept⟩ := id hk
  have hE : -10 ≤ kn 0 3 ∧ kn 0 3 ≤ 10 := by omega
  have hrow : ∀ i : Nat, (i : Int) < kn 0 2 → 0 ≤ kn 1 i ∧ kn 1 i ≤ 4 := fun i hi => by have := hrow0 i hi; omega
  have hc2 : cpS kn kt 0 2 = kn 0 2 := rfl
  have hhnd : 0 ≤ hnd kn ∧ hnd kn ≤ 300000 := ⟨hh0, hnd_le hk⟩
  refine j_iload_n C 1 dX4_block_0 rfl rfl ?_
  refine j_callS (As := [.int (iI b)]) (rest := []) C ys_X4_checkBlock qw166 (c_X4_checkBlock l g b (by omega)) (by decide) rfl dX4_block_1 rfl (Nat.le_of_ble_eq_true rfl) (by decide) (pf1 [] ([(r 0, .inr (4, [.ref (qn 0), .ref (qt 0), .ref (r 1), .int (iI sc), .int (iI ((ns : Int))), .ref (r 2)])), (r 1, aS g 4 (fun j => some (qv j 0))), (r 2, .inr (3, [.ref (r 3), .int (iI ((tn : Int))), .int (iI pl)])), (r 3, aI g 60 tx)] ++ (wSt g qn kn ++ (wSt g qt kt ++ (wS4 g qv kv))))) rfl (fun r9 w9 hq9 => ?_)
  obtain ⟨rfl, rfl⟩ := hq9
  refine J.to (L1 := [(0, .ref (r 0)), (1, .int (iI b)), (2, .int (iI 4))]) (S1 := []) (ws1 := ([(r 0, .inr (4, [.ref (qn 0), .ref (qt 0), .ref (r 1), .int (iI sc), .int (iI ((ns : Int))), .ref (r 2)])), (r 1, aS g 4 (fun j => some (qv j 0))), (r 2, .inr (3, [.ref (r 3), .int (iI ((tn : Int))), .int (iI pl)])), (r 3, aI g 60 tx)] ++ (wSt g qn kn ++ (wSt g qt kt ++ (wS4 g qv kv))))) rfl rfl rfl ?_
  refine j_iload_n C 2 dX4_block_4 rfl rfl ?_
  refine j_tswIn (tgt := 90) C (by decide) dX4_block_5 (by decide) rfl (by decide) ?_
  refine j_aload_n C 0 dX4_block_90 rfl rfl ?_
  refine j_get C ck4 0 0 (by decide) qw130 rfl rfl dX4_block_91 ?_
  refine j_iload_n C 1 dX4_block_94 rfl rfl ?_
  refine j_iconst C dX4_block_95 ?_
  refine j_callV (As := [.int (iI b), .int (iI 1)]) (rest := []) C yv_X2_leastForceFor qw466 (c_X2_leastForceFor l g qn kn b true hk (by omega)) (by decide) 4 rfl rfl rfl dX4_block_96 rfl (Nat.le_of_ble_eq_true rfl) (by decide) (pf1 [(r 0, .inr (4, [.ref (qn 0), .ref (qt 0), .ref (r 1), .int (iI sc), .int (iI ((ns : Int))), .ref (r 2)])), (r 1, aS g 4 (fun j => some (qv j 0))), (r 2, .inr (3, [.ref (r 3), .int (iI ((tn : Int))), .int (iI pl)])), (r 3, aI g 60 tx)] (wSt g qt kt ++ (wS4 g qv kv))) rfl (fun r9 w9 hq9 => ?_)
  obtain ⟨rfl, rfl⟩ := hq9
  refine J.to (L1 := [(0, .ref (r 0)), (1, .int (iI b)), (2, .int (iI 4))]) (S1 := [.int (iI (lea (kn 1) (kn 0 1) true (kn 0 2).toNat (kn 0 3) b (kn 3 b.toNat)))]) (ws1 := ([(r 0, .inr (4, [.ref (qn 0), .ref (qt 0), .ref (r 1), .int (iI sc), .int (iI ((ns : Int))), .ref (r 2)])), (r 1, aS g 4 (fun j => some (qv j 0))), (r 2, .inr (3, [.ref (r 3), .int (iI ((tn : Int))), .int (iI pl)])), (r 3, aI g 60 tx)] ++ (wSt g qn kn ++ (wSt g qt kt ++ (wS4 g qv kv))))) rfl rfl rfl ?_
  exact j_iret C hr hlk dX4_block_99 ⟨rfl, rfl⟩ (by decide) (by decide)

theorem c_X4_block_5 (l : Launch) (g : Gh) (r : Nat → Nat) (qn qt : Nat → Nat) (qv : Nat → Nat → Nat) (kn kt : Nat → Nat → Int) (kv : Nat → Nat → Nat → Int) (sc : Int) (ns : Nat) (tx : Nat → Int) (tn : Nat) (pl : Int) (b : Int) (hT : TOK kn kv sc ns tx tn) (hb4 : 0 ≤ b ∧ b < 4) : CT l g yX4_block cX4_block 3 (some FieldType.int) ({ frames := 4, cells := 0, slots := 0, locals := 104 }) [.ref (r 0), .int (iI b), .int (iI 5)] ([(r 0, .inr (4, [.ref (qn 0), .ref (qt 0), .ref (r 1), .int (iI sc), .int (iI ((ns : Int))), .ref (r 2)])), (r 1, aS g 4 (fun j => some (qv j 0))), (r 2, .inr (3, [.ref (r 3), .int (iI ((tn : Int))), .int (iI pl)])), (r 3, aI g 60 tx)] ++ (wSt g qn kn ++ (wSt g qt kt ++ (wS4 g qv kv)))) (PE (some (.int (iI (lea (kn 1) (kn 0 1) false (kn 0 2).toNat (kn 0 3) b (kn 3 b.toNat))))) (wTp g r qn qt qv kn kt kv sc ns tx tn pl)) := by
  refine CT.intro (L0 := [(0, .ref (r 0)), (1, .int (iI b)), (2, .int (iI 5))]) (own := RX4) (by decide) rfl (Nat.le_of_ble_eq_true rfl) rfl ?_
  intro pX eX sX mX argsX belowX methX cX A C hr hlk
  obtain ⟨⟨hk, hh0⟩, hkv, hsc, hns, htn, htx⟩ := id hT
  obtain ⟨hP, hE0, hF, hrow0, hwt, hht, hlen, hlat, hkept⟩ := id hk
  have hE : -10 ≤ kn 0 3 ∧ kn 0 3 ≤ 10 := by omega
  have hrow : ∀ i : Nat, (i : Int) < kn 0 2 → 0 ≤ kn 1 i ∧ kn 1 i ≤ 4 := fun i hi => by have := hrow0 i hi; omega
  have hc2 : cpS kn kt 0 2 = kn 0 2 := rfl
  have hhnd : 0 ≤ hnd kn ∧ hnd kn ≤ 300000 := ⟨hh0, hnd_le hk⟩
  refine j_iload_n C 1 dX4_block_0 rfl rfl ?_
  refine j_callS (As := [.int (iI b)]) (rest := []) C ys_X4_checkBlock qw166 (c_X4_checkBlock l g b (by omega)) (by decide) rfl dX4_block_1 rfl (Nat.le_of_ble_eq_true rfl) (by decide) (pf1 [] ([(r 0, .inr (4, [.ref (qn 0), .ref (qt 0), .ref (r 1), .int (iI sc), .int (iI ((ns : Int))), .ref (r 2)])), (r 1, aS g 4 (fun j => some (qv j 0))), (r 2, .inr (3, [.ref (r 3), .int (iI ((tn : Int))), .int (iI pl)])), (r 3, aI g 60 tx)] ++ (wSt g qn kn ++ (wSt g qt kt ++ (wS4 g qv kv))))) rfl (fun r9 w9 hq9 => ?_)
  obtain ⟨rfl, rfl⟩ := hq9
  refine J.to (L1 := [(0, .ref (r 0)), (1, .int (iI b)), (2, .int (iI 5))]) (S1 := []) (ws1 := ([(r 0, .inr (4, [.ref (qn 0), .ref (qt 0), .ref (r 1), .int (iI sc), .int (iI ((ns : Int))), .ref (r 2)])), (r 1, aS g 4 (fun j => some (qv j 0))), (r 2, .inr (3, [.ref (r 3), .int (iI ((tn : Int))), .int (iI pl)])), (r 3, aI g 60 tx)] ++ (wSt g qn kn ++ (wSt g qt kt ++ (wS4 g qv kv))))) rfl rfl rfl ?_
  refine j_iload_n C 2 dX4_block_4 rfl rfl ?_
  refine j_tswIn (tgt := 100) C (by decide) dX4_block_5 (by decide) rfl (by decide) ?_
  refine j_aload_n C 0 dX4_block_100 rfl rfl ?_
  refine j_get C ck4 0 0 (by decide) qw130 rfl rfl dX4_block_101 ?_
  refine j_iload_n C 1 dX4_block_104 rfl rfl ?_
  refine j_iconst C dX4_block_105 ?_
  refine j_callV (As := [.int (iI b), .int (iI 0)]) (rest := []) C yv_X2_leastForceFor qw466 (c_X2_leastForceFor l g qn kn b false hk (by omega)) (by decide) 4 rfl rfl rfl dX4_block_106 rfl (Nat.le_of_ble_eq_true rfl) (by decide) (pf1 [(r 0, .inr (4, [.ref (qn 0), .ref (qt 0), .ref (r 1), .int (iI sc), .int (iI ((ns : Int))), .ref (r 2)])), (r 1, aS g 4 (fun j => some (qv j 0))), (r 2, .inr (3, [.ref (r 3), .int (iI ((tn : Int))), .int (iI pl)])), (r 3, aI g 60 tx)] (wSt g qt kt ++ (wS4 g qv kv))) rfl (fun r9 w9 hq9 => ?_)
  obtain ⟨rfl, rfl⟩ := hq9
  refine J.to (L1 := [(0, .ref (r 0)), (1, .int (iI b)), (2, .int (iI 5))]) (S1 := [.int (iI (lea (kn 1) (kn 0 1) false (kn 0 2).toNat (kn 0 3) b (kn 3 b.toNat)))]) (ws1 := ([(r 0, .inr (4, [.ref (qn 0), .ref (qt 0), .ref (r 1), .int (iI sc), .int (iI ((ns : Int))), .ref (r 2)])), (r 1, aS g 4 (fun j => some (qv j 0))), (r 2, .inr (3, [.ref (r 3), .int (iI ((tn : Int))), .int (iI pl)])), (r 3, aI g 60 tx)] ++ (wSt g qn kn ++ (wSt g qt kt ++ (wS4 g qv kv))))) rfl rfl rfl ?_
  exact j_iret C hr hlk dX4_block_109 ⟨rfl, rfl⟩ (by decide) (by decide)

theorem c_X4_block_6 (l : Launch) (g : Gh) (r : Nat → Nat) (qn qt : Nat → Nat) (qv : Nat → Nat → Nat) (kn kt : Nat → Nat → Int) (kv : Nat → Nat → Nat → Int) (sc : Int) (ns : Nat) (tx : Nat → Int) (tn : Nat) (pl : Int) (b : Int) (hT : TOK kn kv sc ns tx tn) (hb4 : 0 ≤ b ∧ b < 4) : CT l g yX4_block cX4_block 3 (some FieldType.int) ({ frames := 4, cells := 0, slots := 0, locals := 104 }) [.ref (r 0), .int (iI b), .int (iI 6)] ([(r 0, .inr (4, [.ref (qn 0), .ref (qt 0), .ref (r 1), .int (iI sc), .int (iI ((ns : Int))), .ref (r 2)])), (r 1, aS g 4 (fun j => some (qv j 0))), (r 2, .inr (3, [.ref (r 3), .int (iI ((tn : Int))), .int (iI pl)])), (r 3, aI g 60 tx)] ++ (wSt g qn kn ++ (wSt g qt kt ++ (wS4 g qv kv)))) (PE (some (.int (iI (strn (kn 1) (kn 0 2).toNat (kn 0 3) b * (9000 - kn 4 b.toNat))))) (wTp g r qn qt qv kn kt kv sc ns tx tn pl)) := by
  refine CT.intro (L0 := [(0, .ref (r 0)), (1, .int (iI b)), (2, .int (iI 6))]) (own := RX4) (by decide) rfl (Nat.le_of_ble_eq_true rfl) rfl ?_
  intro pX eX sX mX argsX belowX methX cX A C hr hlk
  obtain ⟨⟨hk, hh0⟩, hkv, hsc, hns, htn, htx⟩ := id hT
  obtain ⟨hP, hE0, hF, hrow0, hwt, hht, hlen, hlat, hkept⟩ := id hk
  have hE : -10 ≤ kn 0 3 ∧ kn 0 3 ≤ 10 := by omega
  have hrow : ∀ i : Nat, (i : Int) < kn 0 2 → 0 ≤ kn 1 i ∧ kn 1 i ≤ 4 := fun i hi => by have := hrow0 i hi; omega
  have hc2 : cpS kn kt 0 2 = kn 0 2 := rfl
  have hhnd : 0 ≤ hnd kn ∧ hnd kn ≤ 300000 := ⟨hh0, hnd_le hk⟩
  refine j_iload_n C 1 dX4_block_0 rfl rfl ?_
  refine j_callS (As := [.int (iI b)]) (rest := []) C ys_X4_checkBlock qw166 (c_X4_checkBlock l g b (by omega)) (by decide) rfl dX4_block_1 rfl (Nat.le_of_ble_eq_true rfl) (by decide) (pf1 [] ([(r 0, .inr (4, [.ref (qn 0), .ref (qt 0), .ref (r 1), .int (iI sc), .int (iI ((ns : Int))), .ref (r 2)])), (r 1, aS g 4 (fun j => some (qv j 0))), (r 2, .inr (3, [.ref (r 3), .int (iI ((tn : Int))), .int (iI pl)])), (r 3, aI g 60 tx)] ++ (wSt g qn kn ++ (wSt g qt kt ++ (wS4 g qv kv))))) rfl (fun r9 w9 hq9 => ?_)
  obtain ⟨rfl, rfl⟩ := hq9
  refine J.to (L1 := [(0, .ref (r 0)), (1, .int (iI b)), (2, .int (iI 6))]) (S1 := []) (ws1 := ([(r 0, .inr (4, [.ref (qn 0), .ref (qt 0), .ref (r 1), .int (iI sc), .int (iI ((ns : Int))), .ref (r 2)])), (r 1, aS g 4 (fun j => some (qv j 0))), (r 2, .inr (3, [.ref (r 3), .int (iI ((tn : Int))), .int (iI pl)])), (r 3, aI g 60 tx)] ++ (wSt g qn kn ++ (wSt g qt kt ++ (wS4 g qv kv))))) rfl rfl rfl ?_
  refine j_iload_n C 2 dX4_block_4 rfl rfl ?_
  refine j_tswIn (tgt := 110) C (by decide) dX4_block_5 (by decide) rfl (by decide) ?_
  refine j_aload_n C 0 dX4_block_110 rfl rfl ?_
  refine j_get C ck4 0 0 (by decide) qw130 rfl rfl dX4_block_111 ?_
  refine j_getN C ck2 4 0 (by decide) qn90 rfl rfl dX4_block_114 ?_
  refine j_iload_n C 1 dX4_block_117 rfl rfl ?_
  refine j_callV (As := [.int (iI b)]) (rest := []) C yv_X1_strandsOf qw464 (c_X1_strandsOf l g (qn 1) (qn 2) (kn 1) (kn 0 2) (kn 0 3) (kn 0 1) b hP hE (by omega) hrow) (by decide) 5 rfl rfl rfl dX4_block_118 rfl (Nat.le_of_ble_eq_true rfl) (by decide) (pf1 [(r 0, .inr (4, [.ref (qn 0), .ref (qt 0), .ref (r 1), .int (iI sc), .int (iI ((ns : Int))), .ref (r 2)])), (r 1, aS g 4 (fun j => some (qv j 0))), (r 2, .inr (3, [.ref (r 3), .int (iI ((tn : Int))), .int (iI pl)])), (r 3, aI g 60 tx), (qn 0, .inr (2, [.ref (qn 1), .ref (qn 3), .ref (qn 5), .ref (qn 6), .ref (qn 7), .int (iI (kn 0 0))]))] ([(qn 3, .inr (0, [.ref (qn 4), .int (iI (kn 0 9)), .int (iI (kn 0 6)), .int (iI (kn 0 4)), .int (iI (kn 0 5)), .long (lI (kn 0 7)), .long (lI (kn 0 8))])), (qn 4, aI g 48 (kn 2)), (qn 5, aI g 4 (kn 3)), (qn 6, aI g 4 (kn 4)), (qn 7, aI g 4 (kn 5))] ++ (wSt g qt kt ++ (wS4 g qv kv)))) rfl (fun r9 w9 hq9 => ?_)
  obtain ⟨rfl, rfl⟩ := hq9
  refine J.to (L1 := [(0, .ref (r 0)), (1, .int (iI b)), (2, .int (iI 6))]) (S1 := [.int (iI (strn (kn 1) (kn 0 2).toNat (kn 0 3) b))]) (ws1 := ([(r 0, .inr (4, [.ref (qn 0), .ref (qt 0), .ref (r 1), .int (iI sc), .int (iI ((ns : Int))), .ref (r 2)])), (r 1, aS g 4 (fun j => some (qv j 0))), (r 2, .inr (3, [.ref (r 3), .int (iI ((tn : Int))), .int (iI pl)])), (r 3, aI g 60 tx)] ++ (wSt g qn kn ++ (wSt g qt kt ++ (wS4 g qv kv))))) rfl rfl rfl ?_
  refine j_sipush C dX4_block_121 (by decide) ?_
  refine j_aload_n C 0 dX4_block_124 rfl rfl ?_
  refine j_get C ck4 0 0 (by decide) qw130 rfl rfl dX4_block_125 ?_
  refine j_iload_n C 1 dX4_block_128 rfl rfl ?_
  refine j_callV (As := [.int (iI b)]) (rest := [.int (iI 9000), .int (iI (strn (kn 1) (kn 0 2).toNat (kn 0 3) b))]) C yv_X2_heightOf qw463 (c_X2_heightOf l g qn kn b hk (by omega)) (by decide) 4 rfl rfl rfl dX4_block_129 rfl (Nat.le_of_ble_eq_true rfl) (by decide) (pf1 [(r 0, .inr (4, [.ref (qn 0), .ref (qt 0), .ref (r 1), .int (iI sc), .int (iI ((ns : Int))), .ref (r 2)])), (r 1, aS g 4 (fun j => some (qv j 0))), (r 2, .inr (3, [.ref (r 3), .int (iI ((tn : Int))), .int (iI pl)])), (r 3, aI g 60 tx)] (wSt g qt kt ++ (wS4 g qv kv))) rfl (fun r9 w9 hq9 => ?_)
  obtain ⟨rfl, rfl⟩ := hq9
  refine J.to (L1 := [(0, .ref (r 0)), (1, .int (iI b)), (2, .int (iI 6))]) (S1 := [.int (iI (kn 4 b.toNat)), .int (iI 9000), .int (iI (strn (kn 1) (kn 0 2).toNat (kn 0 3) b))]) (ws1 := ([(r 0, .inr (4, [.ref (qn 0), .ref (qt 0), .ref (r 1), .int (iI sc), .int (iI ((ns : Int))), .ref (r 2)])), (r 1, aS g 4 (fun j => some (qv j 0))), (r 2, .inr (3, [.ref (r 3), .int (iI ((tn : Int))), .int (iI pl)])), (r 3, aI g 60 tx)] ++ (wSt g qn kn ++ (wSt g qt kt ++ (wS4 g qv kv))))) rfl rfl rfl ?_
  refine j_isub C dX4_block_132 ?_
  refine j_imul C dX4_block_133 ?_
  exact j_iret C hr hlk dX4_block_134 ⟨rfl, rfl⟩ (by decide) (by decide)

theorem c_X4_block (l : Launch) (g : Gh) (r : Nat → Nat) (qn qt : Nat → Nat) (qv : Nat → Nat → Nat) (kn kt : Nat → Nat → Int) (kv : Nat → Nat → Nat → Int) (sc : Int) (ns : Nat) (tx : Nat → Int) (tn : Nat) (pl : Int) (b w : Int) (hT : TOK kn kv sc ns tx tn) (hb4 : 0 ≤ b ∧ b < 4) (hw : 0 ≤ w ∧ w ≤ 6) : CT l g yX4_block cX4_block 3 (some FieldType.int) ({ frames := 4, cells := 0, slots := 0, locals := 104 }) [.ref (r 0), .int (iI b), .int (iI w)] (wTp g r qn qt qv kn kt kv sc ns tx tn pl) (PE (some (.int (iI (blkF kn b w)))) (wTp g r qn qt qv kn kt kv sc ns tx tn pl)) := by
  rcases (by omega : w = 0 ∨ w = 1 ∨ w = 2 ∨ w = 3 ∨ w = 4 ∨ w = 5 ∨ w = 6) with rfl | rfl | rfl | rfl | rfl | rfl | rfl
  · exact c_X4_block_0 l g r qn qt qv kn kt kv sc ns tx tn pl b hT hb4
  · exact c_X4_block_1 l g r qn qt qv kn kt kv sc ns tx tn pl b hT hb4
  · exact c_X4_block_2 l g r qn qt qv kn kt kv sc ns tx tn pl b hT hb4
  · exact c_X4_block_3 l g r qn qt qv kn kt kv sc ns tx tn pl b hT hb4
  · exact c_X4_block_4 l g r qn qt qv kn kt kv sc ns tx tn pl b hT hb4
  · exact c_X4_block_5 l g r qn qt qv kn kt kv sc ns tx tn pl b hT hb4
  · exact c_X4_block_6 l g r qn qt qv kn kt kv sc ns tx tn pl b hT hb4
theorem x_X4_block_1 (l : Launch) (hl : l.stackTraces = false) (g : Gh) (r : Nat → Nat) (qn qt : Nat → Nat) (qv : Nat → Nat → Nat) (kn kt : Nat → Nat → Int) (kv : Nat → Nat → Nat → Int) (sc : Int) (ns : Nat) (tx : Nat → Int) (tn : Nat) (pl : Int) (b w : Int) (hT : TOK kn kv sc ns tx tn) (hrb : -2147483648 ≤ b ∧ b < 2147483648) (hrw : -2147483648 ≤ w ∧ w < 2147483648) (hb4 : b < 0 ∨ 4 ≤ b) : CX l g yX4_block cX4_block 3 (some FieldType.int) ({ frames := 7, cells := 1, slots := 6, locals := 120 }) [.ref (r 0), .int (iI b), .int (iI w)] ([(r 0, .inr (4, [.ref (qn 0), .ref (qt 0), .ref (r 1), .int (iI sc), .int (iI ((ns : Int))), .ref (r 2)])), (r 1, aS g 4 (fun j => some (qv j 0))), (r 2, .inr (3, [.ref (r 3), .int (iI ((tn : Int))), .int (iI pl)])), (r 3, aI g 60 tx)] ++ (wSt g qn kn ++ (wSt g qt kt ++ (wS4 g qv kv)))) "java/lang/IndexOutOfBoundsException" (fun w9 => w9 = wTp g r qn qt qv kn kt kv sc ns tx tn pl) := by
  refine CX.intro (L0 := [(0, .ref (r 0)), (1, .int (iI b)), (2, .int (iI w))]) (own := RX4) (by decide) rfl (Nat.le_of_ble_eq_true rfl) rfl ?_
  intro pX eX sX mX argsX belowX methX cX A C hlk hnt
  obtain ⟨⟨hk, hh0⟩, hkv, hsc, hns, htn, htx⟩ := id hT
  obtain ⟨hP, hE0, hF, hrow0, hwt, hht, hlen, hlat, hkept⟩ := id hk
  have hE : -10 ≤ kn 0 3 ∧ kn 0 3 ≤ 10 := by omega
  have hrow : ∀ i : Nat, (i : Int) < kn 0 2 → 0 ≤ kn 1 i ∧ kn 1 i ≤ 4 := fun i hi => by have := hrow0 i hi; omega
  have hc2 : cpS kn kt 0 2 = kn 0 2 := rfl
  have hhnd : 0 ≤ hnd kn ∧ hnd kn ≤ 300000 := ⟨hh0, hnd_le hk⟩
  refine j_iload_n C 1 dX4_block_0 rfl rfl ?_
  exact j_callSX (As := [.int (iI b)]) (rest := []) C ys_X4_checkBlock qw166 (x_X4_checkBlock_no l hl g b (by omega) (by omega)) (by decide) rfl dX4_block_1 rfl (Nat.le_of_ble_eq_true rfl) (by decide) (pf1 [] ([(r 0, .inr (4, [.ref (qn 0), .ref (qt 0), .ref (r 1), .int (iI sc), .int (iI ((ns : Int))), .ref (r 2)])), (r 1, aS g 4 (fun j => some (qv j 0))), (r 2, .inr (3, [.ref (r 3), .int (iI ((tn : Int))), .int (iI pl)])), (r 3, aI g 60 tx)] ++ (wSt g qn kn ++ (wSt g qt kt ++ (wS4 g qv kv))))) rfl hnt hlk ⟨by decide, by decide⟩ (fun w9 h9 => by rw [h9]; rfl)

theorem x_X4_block_2 (l : Launch) (hl : l.stackTraces = false) (g : Gh) (r : Nat → Nat) (qn qt : Nat → Nat) (qv : Nat → Nat → Nat) (kn kt : Nat → Nat → Int) (kv : Nat → Nat → Nat → Int) (sc : Int) (ns : Nat) (tx : Nat → Int) (tn : Nat) (pl : Int) (b w : Int) (hT : TOK kn kv sc ns tx tn) (hrb : -2147483648 ≤ b ∧ b < 2147483648) (hrw : -2147483648 ≤ w ∧ w < 2147483648) (hb4 : 0 ≤ b ∧ b < 4) (hw : w < 0 ∨ 6 < w) : CX l g yX4_block cX4_block 3 (some FieldType.int) ({ frames := 7, cells := 1, slots := 6, locals := 120 }) [.ref (r 0), .int (iI b), .int (iI w)] ([(r 0, .inr (4, [.ref (qn 0), .ref (qt 0), .ref (r 1), .int (iI sc), .int (iI ((ns : Int))), .ref (r 2)])), (r 1, aS g 4 (fun j => some (qv j 0))), (r 2, .inr (3, [.ref (r 3), .int (iI ((tn : Int))), .int (iI pl)])), (r 3, aI g 60 tx)] ++ (wSt g qn kn ++ (wSt g qt kt ++ (wS4 g qv kv)))) "java/lang/IllegalArgumentException" (fun w9 => w9 = wTp g r qn qt qv kn kt kv sc ns tx tn pl) := by
  refine CX.intro (L0 := [(0, .ref (r 0)), (1, .int (iI b)), (2, .int (iI w))]) (own := RX4) (by decide) rfl (Nat.le_of_ble_eq_true rfl) rfl ?_
  intro pX eX sX mX argsX belowX methX cX A C hlk hnt
  obtain ⟨⟨hk, hh0⟩, hkv, hsc, hns, htn, htx⟩ := id hT
  obtain ⟨hP, hE0, hF, hrow0, hwt, hht, hlen, hlat, hkept⟩ := id hk
  have hE : -10 ≤ kn 0 3 ∧ kn 0 3 ≤ 10 := by omega
  have hrow : ∀ i : Nat, (i : Int) < kn 0 2 → 0 ≤ kn 1 i ∧ kn 1 i ≤ 4 := fun i hi => by have := hrow0 i hi; omega
  have hc2 : cpS kn kt 0 2 = kn 0 2 := rfl
  have hhnd : 0 ≤ hnd kn ∧ hnd kn ≤ 300000 := ⟨hh0, hnd_le hk⟩
  refine j_iload_n C 1 dX4_block_0 rfl rfl ?_
  refine j_callS (As := [.int (iI b)]) (rest := []) C ys_X4_checkBlock qw166 (c_X4_checkBlock l g b (by omega)) (by decide) rfl dX4_block_1 rfl (Nat.le_of_ble_eq_true rfl) (by decide) (pf1 [] ([(r 0, .inr (4, [.ref (qn 0), .ref (qt 0), .ref (r 1), .int (iI sc), .int (iI ((ns : Int))), .ref (r 2)])), (r 1, aS g 4 (fun j => some (qv j 0))), (r 2, .inr (3, [.ref (r 3), .int (iI ((tn : Int))), .int (iI pl)])), (r 3, aI g 60 tx)] ++ (wSt g qn kn ++ (wSt g qt kt ++ (wS4 g qv kv))))) rfl (fun r9 w9 hq9 => ?_)
  obtain ⟨rfl, rfl⟩ := hq9
  refine J.to (L1 := [(0, .ref (r 0)), (1, .int (iI b)), (2, .int (iI w))]) (S1 := []) (ws1 := ([(r 0, .inr (4, [.ref (qn 0), .ref (qt 0), .ref (r 1), .int (iI sc), .int (iI ((ns : Int))), .ref (r 2)])), (r 1, aS g 4 (fun j => some (qv j 0))), (r 2, .inr (3, [.ref (r 3), .int (iI ((tn : Int))), .int (iI pl)])), (r 3, aI g 60 tx)] ++ (wSt g qn kn ++ (wSt g qt kt ++ (wS4 g qv kv))))) rfl rfl rfl ?_
  refine j_iload_n C 2 dX4_block_4 rfl rfl ?_
  refine j_tswOut (tgt := 135) C (by omega) dX4_block_5 (by omega) (by decide) ?_
  exact j_throw C hl hlk hnt exw_IllegalArgumentException qw244 qw11 (by decide +kernel) (List.mem_of_getElem? (i := 2) rfl) dX4_block_135 dX4_block_138 dX4_block_139 dX4_block_141 dX4_block_144 ⟨by decide, Nat.le_of_ble_eq_true rfl⟩ ⟨by decide, by decide⟩ rfl ⟨by decide, by decide⟩

theorem c_X4_checkPulley (l : Launch) (g : Gh) (r : Nat → Nat) (qn qt : Nat → Nat) (qv : Nat → Nat → Nat) (kn kt : Nat → Nat → Int) (kv : Nat → Nat → Nat → Int) (sc : Int) (ns : Nat) (tx : Nat → Int) (tn : Nat) (pl : Int) (x : Int) (hT : TOK kn kv sc ns tx tn) (hi : 0 ≤ x ∧ x < kn 0 2) : CT l g yX4_checkPulley cX4_checkPulley 2 none ({ frames := 0, cells := 0, slots := 0, locals := 0 }) [.ref (r 0), .int (iI x)] ([(r 0, .inr (4, [.ref (qn 0), .ref (qt 0), .ref (r 1), .int (iI sc), .int (iI ((ns : Int))), .ref (r 2)])), (r 1, aS g 4 (fun j => some (qv j 0))), (r 2, .inr (3, [.ref (r 3), .int (iI ((tn : Int))), .int (iI pl)])), (r 3, aI g 60 tx)] ++ (wSt g qn kn ++ (wSt g qt kt ++ (wS4 g qv kv)))) (PE none (wTp g r qn qt qv kn kt kv sc ns tx tn pl)) := by
  refine CT.intro (L0 := [(0, .ref (r 0)), (1, .int (iI x))]) (own := RX4) (by decide) rfl (Nat.le_of_ble_eq_true rfl) rfl ?_
  intro pX eX sX mX argsX belowX methX cX A C hr hlk
  obtain ⟨⟨hk, hh0⟩, hkv, hsc, hns, htn, htx⟩ := id hT
  obtain ⟨hP, hE0, hF, hrow0, hwt, hht, hlen, hlat, hkept⟩ := id hk
  have hE : -10 ≤ kn 0 3 ∧ kn 0 3 ≤ 10 := by omega
  have hrow : ∀ i : Nat, (i : Int) < kn 0 2 → 0 ≤ kn 1 i ∧ kn 1 i ≤ 4 := fun i hi => by have := hrow0 i hi; omega
  have hc2 : cpS kn kt 0 2 = kn 0 2 := rfl
  have hhnd : 0 ≤ hnd kn ∧ hnd kn ≤ 300000 := ⟨hh0, hnd_le hk⟩
  refine j_iload_n C 1 dX4_checkPulley_0 rfl rfl ?_
  refine j_if_lt (tgt := 18) C (by omega) dX4_checkPulley_1 (by decide) (fun c1 => absurd c1 (by omega)) (fun c1 => ?_)
  refine j_iload_n C 1 dX4_checkPulley_4 rfl rfl ?_
  refine j_aload_n C 0 dX4_checkPulley_5 rfl rfl ?_
  refine j_get C ck4 0 0 (by decide) qw130 rfl rfl dX4_checkPulley_6 ?_
  refine j_getN C ck2 4 0 (by decide) qn90 rfl rfl dX4_checkPulley_9 ?_
  refine j_getN C ck1 5 1 (by decide) qn36 rfl rfl dX4_checkPulley_12 ?_
  refine j_icmp_lt (tgt := 29) C (by omega) (by omega) dX4_checkPulley_15 (by decide) (fun c15 => ?_) (fun c15 => absurd c15 (by omega))
  exact j_vret C hr hlk dX4_checkPulley_29 ⟨rfl, rfl⟩ (by decide) (by decide)

theorem x_X4_checkPulley_no (l : Launch) (hl : l.stackTraces = false) (g : Gh) (r : Nat → Nat) (qn qt : Nat → Nat) (qv : Nat → Nat → Nat) (kn kt : Nat → Nat → Int) (kv : Nat → Nat → Nat → Int) (sc : Int) (ns : Nat) (tx : Nat → Int) (tn : Nat) (pl : Int) (x : Int) (hT : TOK kn kv sc ns tx tn) (hrx : -2147483648 ≤ x ∧ x < 2147483648) (hi : x < 0 ∨ kn 0 2 ≤ x) : CX l g yX4_checkPulley cX4_checkPulley 2 none ({ frames := 6, cells := 1, slots := 6, locals := 100 }) [.ref (r 0), .int (iI x)] ([(r 0, .inr (4, [.ref (qn 0), .ref (qt 0), .ref (r 1), .int (iI sc), .int (iI ((ns : Int))), .ref (r 2)])), (r 1, aS g 4 (fun j => some (qv j 0))), (r 2, .inr (3, [.ref (r 3), .int (iI ((tn : Int))), .int (iI pl)])), (r 3, aI g 60 tx)] ++ (wSt g qn kn ++ (wSt g qt kt ++ (wS4 g qv kv)))) "java/lang/IndexOutOfBoundsException" (fun w9 => w9 = wTp g r qn qt qv kn kt kv sc ns tx tn pl) := by
  refine CX.intro (L0 := [(0, .ref (r 0)), (1, .int (iI x))]) (own := RX4) (by decide) rfl (Nat.le_of_ble_eq_true rfl) rfl ?_
  intro pX eX sX mX argsX belowX methX cX A C hlk hnt
  obtain ⟨⟨hk, hh0⟩, hkv, hsc, hns, htn, htx⟩ := id hT
  obtain ⟨hP, hE0, hF, hrow0, hwt, hht, hlen, hlat, hkept⟩ := id hk
  have hE : -10 ≤ kn 0 3 ∧ kn 0 3 ≤ 10 := by omega
  have hrow : ∀ i : Nat, (i : Int) < kn 0 2 → 0 ≤ kn 1 i ∧ kn 1 i ≤ 4 := fun i hi => by have := hrow0 i hi; omega
  have hc2 : cpS kn kt 0 2 = kn 0 2 := rfl
  have hhnd : 0 ≤ hnd kn ∧ hnd kn ≤ 300000 := ⟨hh0, hnd_le hk⟩
  refine j_iload_n C 1 dX4_checkPulley_0 rfl rfl ?_
  refine j_if_lt (tgt := 18) C (by omega) dX4_checkPulley_1 (by decide) (fun c1 => ?_) (fun c1 => ?_)
  · exact j_throwW C hl hlk hnt exw_IndexOutOfBoundsException qw172 qw12 (by decide +kernel) (List.mem_of_getElem? (i := 8) rfl) dX4_checkPulley_18 dX4_checkPulley_21 dX4_checkPulley_22 dX4_checkPulley_25 dX4_checkPulley_28 ⟨by decide, Nat.le_of_ble_eq_true rfl⟩ ⟨by decide, by decide⟩ rfl ⟨by decide, by decide⟩
  · refine j_iload_n C 1 dX4_checkPulley_4 rfl rfl ?_
    refine j_aload_n C 0 dX4_checkPulley_5 rfl rfl ?_
    refine j_get C ck4 0 0 (by decide) qw130 rfl rfl dX4_checkPulley_6 ?_
    refine j_getN C ck2 4 0 (by decide) qn90 rfl rfl dX4_checkPulley_9 ?_
    refine j_getN C ck1 5 1 (by decide) qn36 rfl rfl dX4_checkPulley_12 ?_
    refine j_icmp_lt (tgt := 29) C (by omega) (by omega) dX4_checkPulley_15 (by decide) (fun c15 => ?_) (fun c15 => ?_)
    · exact absurd hi (by omega)
    · exact j_throwW C hl hlk hnt exw_IndexOutOfBoundsException qw172 qw12 (by decide +kernel) (List.mem_of_getElem? (i := 8) rfl) dX4_checkPulley_18 dX4_checkPulley_21 dX4_checkPulley_22 dX4_checkPulley_25 dX4_checkPulley_28 ⟨by decide, Nat.le_of_ble_eq_true rfl⟩ ⟨by decide, by decide⟩ rfl ⟨by decide, by decide⟩

theorem c_X4_pulley (l : Launch) (g : Gh) (r : Nat → Nat) (qn qt : Nat → Nat) (qv : Nat → Nat → Nat) (kn kt : Nat → Nat → Int) (kv : Nat → Nat → Nat → Int) (sc : Int) (ns : Nat) (tx : Nat → Int) (tn : Nat) (pl : Int) (x : Int) (hT : TOK kn kv sc ns tx tn) (hi : 0 ≤ x ∧ x < kn 0 2) : CT l g yX4_pulley cX4_pulley 2 (some FieldType.int) ({ frames := 1, cells := 0, slots := 0, locals := 21 }) [.ref (r 0), .int (iI x)] ([(r 0, .inr (4, [.ref (qn 0), .ref (qt 0), .ref (r 1), .int (iI sc), .int (iI ((ns : Int))), .ref (r 2)])), (r 1, aS g 4 (fun j => some (qv j 0))), (r 2, .inr (3, [.ref (r 3), .int (iI ((tn : Int))), .int (iI pl)])), (r 3, aI g 60 tx)] ++ (wSt g qn kn ++ (wSt g qt kt ++ (wS4 g qv kv)))) (PE (some (.int (iI (kn 1 x.toNat)))) (wTp g r qn qt qv kn kt kv sc ns tx tn pl)) := by
  refine CT.intro (L0 := [(0, .ref (r 0)), (1, .int (iI x))]) (own := RX4) (by decide) rfl (Nat.le_of_ble_eq_true rfl) rfl ?_
  intro pX eX sX mX argsX belowX methX cX A C hr hlk
  obtain ⟨⟨hk, hh0⟩, hkv, hsc, hns, htn, htx⟩ := id hT
  obtain ⟨hP, hE0, hF, hrow0, hwt, hht, hlen, hlat, hkept⟩ := id hk
  have hE : -10 ≤ kn 0 3 ∧ kn 0 3 ≤ 10 := by omega
  have hrow : ∀ i : Nat, (i : Int) < kn 0 2 → 0 ≤ kn 1 i ∧ kn 1 i ≤ 4 := fun i hi => by have := hrow0 i hi; omega
  have hc2 : cpS kn kt 0 2 = kn 0 2 := rfl
  have hhnd : 0 ≤ hnd kn ∧ hnd kn ≤ 300000 := ⟨hh0, hnd_le hk⟩
  refine j_aload_n C 0 dX4_pulley_0 rfl rfl ?_
  refine j_iload_n C 1 dX4_pulley_1 rfl rfl ?_
  refine j_callV (As := [.int (iI x)]) (rest := []) C yv_X4_checkPulley qw475 (c_X4_checkPulley l g r qn qt qv kn kt kv sc ns tx tn pl x hT hi) (by decide) 0 rfl rfl rfl dX4_pulley_2 rfl (Nat.le_of_ble_eq_true rfl) (by decide) pf0 rfl (fun r9 w9 hq9 => ?_)
  obtain ⟨rfl, rfl⟩ := hq9
  refine J.to (L1 := [(0, .ref (r 0)), (1, .int (iI x))]) (S1 := []) (ws1 := ([(r 0, .inr (4, [.ref (qn 0), .ref (qt 0), .ref (r 1), .int (iI sc), .int (iI ((ns : Int))), .ref (r 2)])), (r 1, aS g 4 (fun j => some (qv j 0))), (r 2, .inr (3, [.ref (r 3), .int (iI ((tn : Int))), .int (iI pl)])), (r 3, aI g 60 tx)] ++ (wSt g qn kn ++ (wSt g qt kt ++ (wS4 g qv kv))))) rfl rfl rfl ?_
  refine j_aload_n C 0 dX4_pulley_5 rfl rfl ?_
  refine j_get C ck4 0 0 (by decide) qw130 rfl rfl dX4_pulley_6 ?_
  refine j_getN C ck2 4 0 (by decide) qn90 rfl rfl dX4_pulley_9 ?_
  refine j_getN C ck1 5 0 (by decide) qn34 rfl rfl dX4_pulley_12 ?_
  refine j_iload_n C 1 dX4_pulley_15 rfl rfl ?_
  refine j_callS (As := [.ref (qn 2), .int (iI x)]) (rest := []) C ys_X4_at qw480 (c_X4_at l g (qn 2) 10 (kn 1) x x.toNat (by omega) (by omega) (by decide)) (by decide) rfl dX4_pulley_16 rfl (Nat.le_of_ble_eq_true rfl) (by decide) (pf1 [(r 0, .inr (4, [.ref (qn 0), .ref (qt 0), .ref (r 1), .int (iI sc), .int (iI ((ns : Int))), .ref (r 2)])), (r 1, aS g 4 (fun j => some (qv j 0))), (r 2, .inr (3, [.ref (r 3), .int (iI ((tn : Int))), .int (iI pl)])), (r 3, aI g 60 tx), (qn 0, .inr (2, [.ref (qn 1), .ref (qn 3), .ref (qn 5), .ref (qn 6), .ref (qn 7), .int (iI (kn 0 0))])), (qn 1, .inr (1, [.ref (qn 2), .int (iI (kn 0 2)), .int (iI (kn 0 3)), .int (iI (kn 0 1))]))] ([(qn 3, .inr (0, [.ref (qn 4), .int (iI (kn 0 9)), .int (iI (kn 0 6)), .int (iI (kn 0 4)), .int (iI (kn 0 5)), .long (lI (kn 0 7)), .long (lI (kn 0 8))])), (qn 4, aI g 48 (kn 2)), (qn 5, aI g 4 (kn 3)), (qn 6, aI g 4 (kn 4)), (qn 7, aI g 4 (kn 5))] ++ (wSt g qt kt ++ (wS4 g qv kv)))) rfl (fun r9 w9 hq9 => ?_)
  obtain ⟨rfl, rfl⟩ := hq9
  refine J.to (L1 := [(0, .ref (r 0)), (1, .int (iI x))]) (S1 := [.int (iI ((kn 1) x.toNat))]) (ws1 := ([(r 0, .inr (4, [.ref (qn 0), .ref (qt 0), .ref (r 1), .int (iI sc), .int (iI ((ns : Int))), .ref (r 2)])), (r 1, aS g 4 (fun j => some (qv j 0))), (r 2, .inr (3, [.ref (r 3), .int (iI ((tn : Int))), .int (iI pl)])), (r 3, aI g 60 tx)] ++ (wSt g qn kn ++ (wSt g qt kt ++ (wS4 g qv kv))))) rfl rfl rfl ?_
  exact j_iret C hr hlk dX4_pulley_19 ⟨rfl, rfl⟩ (by decide) (by decide)

theorem x_X4_pulley_1 (l : Launch) (hl : l.stackTraces = false) (g : Gh) (r : Nat → Nat) (qn qt : Nat → Nat) (qv : Nat → Nat → Nat) (kn kt : Nat → Nat → Int) (kv : Nat → Nat → Nat → Int) (sc : Int) (ns : Nat) (tx : Nat → Int) (tn : Nat) (pl : Int) (x : Int) (hT : TOK kn kv sc ns tx tn) (hrx : -2147483648 ≤ x ∧ x < 2147483648) (hi : x < 0 ∨ kn 0 2 ≤ x) : CX l g yX4_pulley cX4_pulley 2 (some FieldType.int) ({ frames := 7, cells := 1, slots := 6, locals := 121 }) [.ref (r 0), .int (iI x)] ([(r 0, .inr (4, [.ref (qn 0), .ref (qt 0), .ref (r 1), .int (iI sc), .int (iI ((ns : Int))), .ref (r 2)])), (r 1, aS g 4 (fun j => some (qv j 0))), (r 2, .inr (3, [.ref (r 3), .int (iI ((tn : Int))), .int (iI pl)])), (r 3, aI g 60 tx)] ++ (wSt g qn kn ++ (wSt g qt kt ++ (wS4 g qv kv)))) "java/lang/IndexOutOfBoundsException" (fun w9 => w9 = wTp g r qn qt qv kn kt kv sc ns tx tn pl) := by
  refine CX.intro (L0 := [(0, .ref (r 0)), (1, .int (iI x))]) (own := RX4) (by decide) rfl (Nat.le_of_ble_eq_true rfl) rfl ?_
  intro pX eX sX mX argsX belowX methX cX A C hlk hnt
  obtain ⟨⟨hk, hh0⟩, hkv, hsc, hns, htn, htx⟩ := id hT
  obtain ⟨hP, hE0, hF, hrow0, hwt, hht, hlen, hlat, hkept⟩ := id hk
  have hE : -10 ≤ kn 0 3 ∧ kn 0 3 ≤ 10 := by omega
  have hrow : ∀ i : Nat, (i : Int) < kn 0 2 → 0 ≤ kn 1 i ∧ kn 1 i ≤ 4 := fun i hi => by have := hrow0 i hi; omega
  have hc2 : cpS kn kt 0 2 = kn 0 2 := rfl
  have hhnd : 0 ≤ hnd kn ∧ hnd kn ≤ 300000 := ⟨hh0, hnd_le hk⟩
  refine j_aload_n C 0 dX4_pulley_0 rfl rfl ?_
  refine j_iload_n C 1 dX4_pulley_1 rfl rfl ?_
  exact j_callVX (As := [.int (iI x)]) (rest := []) C yv_X4_checkPulley qw475 (x_X4_checkPulley_no l hl g r qn qt qv kn kt kv sc ns tx tn pl x hT hrx hi) (by decide) 0 rfl rfl rfl dX4_pulley_2 rfl (Nat.le_of_ble_eq_true rfl) (by decide) pf0 rfl hnt hlk ⟨by decide, by decide⟩ (fun w9 h9 => by rw [h9])

theorem c_X4_force (l : Launch) (g : Gh) (r : Nat → Nat) (qn qt : Nat → Nat) (qv : Nat → Nat → Nat) (kn kt : Nat → Nat → Int) (kv : Nat → Nat → Nat → Int) (sc : Int) (ns : Nat) (tx : Nat → Int) (tn : Nat) (pl : Int) (f q : Int) (h : Bool) (hT : TOK kn kv sc ns tx tn) (hf : 0 ≤ f ∧ f ≤ 1000000) (hp : 0 ≤ q ∧ q ≤ passF kn) : CT l g yX4_force cX4_force 4 (some FieldType.long) ({ frames := 2, cells := 0, slots := 0, locals := 51 }) [.ref (r 0), .int (iI f), .int (iI q), .int (iI (b2i h))] ([(r 0, .inr (4, [.ref (qn 0), .ref (qt 0), .ref (r 1), .int (iI sc), .int (iI ((ns : Int))), .ref (r 2)])), (r 1, aS g 4 (fun j => some (qv j 0))), (r 2, .inr (3, [.ref (r 3), .int (iI ((tn : Int))), .int (iI pl)])), (r 3, aI g 60 tx)] ++ (wSt g qn kn ++ (wSt g qt kt ++ (wS4 g qv kv)))) (PE (some (.long (lI (fbn (kn 0 1) h f q.toNat)))) (wTp g r qn qt qv kn kt kv sc ns tx tn pl)) := by
  refine CT.intro (L0 := [(0, .ref (r 0)), (1, .int (iI f)), (2, .int (iI q)), (3, .int (iI (b2i h)))]) (own := RX4) (by decide) rfl (Nat.le_of_ble_eq_true rfl) rfl ?_
  intro pX eX sX mX argsX belowX methX cX A C hr hlk
  obtain ⟨⟨hk, hh0⟩, hkv, hsc, hns, htn, htx⟩ := id hT
  obtain ⟨hP, hE0, hF, hrow0, hwt, hht, hlen, hlat, hkept⟩ := id hk
  have hE : -10 ≤ kn 0 3 ∧ kn 0 3 ≤ 10 := by omega
  have hrow : ∀ i : Nat, (i : Int) < kn 0 2 → 0 ≤ kn 1 i ∧ kn 1 i ≤ 4 := fun i hi => by have := hrow0 i hi; omega
  have hc2 : cpS kn kt 0 2 = kn 0 2 := rfl
  have hhnd : 0 ≤ hnd kn ∧ hnd kn ≤ 300000 := ⟨hh0, hnd_le hk⟩
  refine j_iload_n C 1 dX4_force_0 rfl rfl ?_
  refine j_iconst C dX4_force_1 ?_
  refine j_ldc (x := 1000000) C qw375 (by decide) dX4_force_2 ?_
  refine j_callS (As := [.int (iI f), .int (iI 0), .int (iI 1000000)]) (rest := []) C ys_X4_checkRange qw241 (c_X4_checkRange l g f 0 1000000 (by omega) (by omega) (by omega) (by omega)) (by decide) rfl dX4_force_4 rfl (Nat.le_of_ble_eq_true rfl) (by decide) (pf1 [] ([(r 0, .inr (4, [.ref (qn 0), .ref (qt 0), .ref (r 1), .int (iI sc), .int (iI ((ns : Int))), .ref (r 2)])), (r 1, aS g 4 (fun j => some (qv j 0))), (r 2, .inr (3, [.ref (r 3), .int (iI ((tn : Int))), .int (iI pl)])), (r 3, aI g 60 tx)] ++ (wSt g qn kn ++ (wSt g qt kt ++ (wS4 g qv kv))))) rfl (fun r9 w9 hq9 => ?_)
  obtain ⟨rfl, rfl⟩ := hq9
  refine J.to (L1 := [(0, .ref (r 0)), (1, .int (iI f)), (2, .int (iI q)), (3, .int (iI (b2i h)))]) (S1 := []) (ws1 := ([(r 0, .inr (4, [.ref (qn 0), .ref (qt 0), .ref (r 1), .int (iI sc), .int (iI ((ns : Int))), .ref (r 2)])), (r 1, aS g 4 (fun j => some (qv j 0))), (r 2, .inr (3, [.ref (r 3), .int (iI ((tn : Int))), .int (iI pl)])), (r 3, aI g 60 tx)] ++ (wSt g qn kn ++ (wSt g qt kt ++ (wS4 g qv kv))))) rfl rfl rfl ?_
  refine j_iload_n C 2 dX4_force_7 rfl rfl ?_
  refine j_iconst C dX4_force_8 ?_
  refine j_aload_n C 0 dX4_force_9 rfl rfl ?_
  refine j_get C ck4 0 0 (by decide) qw130 rfl rfl dX4_force_10 ?_
  refine j_getN C ck2 4 0 (by decide) qn90 rfl rfl dX4_force_13 ?_
  refine j_callV (As := []) (rest := [.int (iI 0), .int (iI q)]) C yv_X1_passes qw450 (c_X1_passes l g (qn 1) (qn 2) (kn 0 2) (kn 0 3) (kn 0 1)  hE) (by decide) 5 rfl rfl rfl dX4_force_16 rfl (Nat.le_of_ble_eq_true rfl) (by decide) (pf1 [(r 0, .inr (4, [.ref (qn 0), .ref (qt 0), .ref (r 1), .int (iI sc), .int (iI ((ns : Int))), .ref (r 2)])), (r 1, aS g 4 (fun j => some (qv j 0))), (r 2, .inr (3, [.ref (r 3), .int (iI ((tn : Int))), .int (iI pl)])), (r 3, aI g 60 tx), (qn 0, .inr (2, [.ref (qn 1), .ref (qn 3), .ref (qn 5), .ref (qn 6), .ref (qn 7), .int (iI (kn 0 0))]))] ([(qn 2, aI g 10 (kn 1)), (qn 3, .inr (0, [.ref (qn 4), .int (iI (kn 0 9)), .int (iI (kn 0 6)), .int (iI (kn 0 4)), .int (iI (kn 0 5)), .long (lI (kn 0 7)), .long (lI (kn 0 8))])), (qn 4, aI g 48 (kn 2)), (qn 5, aI g 4 (kn 3)), (qn 6, aI g 4 (kn 4)), (qn 7, aI g 4 (kn 5))] ++ (wSt g qt kt ++ (wS4 g qv kv)))) rfl (fun r9 w9 hq9 => ?_)
  obtain ⟨rfl, rfl⟩ := hq9
  refine J.to (L1 := [(0, .ref (r 0)), (1, .int (iI f)), (2, .int (iI q)), (3, .int (iI (b2i h)))]) (S1 := [.int (iI (passF kn)), .int (iI 0), .int (iI q)]) (ws1 := ([(r 0, .inr (4, [.ref (qn 0), .ref (qt 0), .ref (r 1), .int (iI sc), .int (iI ((ns : Int))), .ref (r 2)])), (r 1, aS g 4 (fun j => some (qv j 0))), (r 2, .inr (3, [.ref (r 3), .int (iI ((tn : Int))), .int (iI pl)])), (r 3, aI g 60 tx)] ++ (wSt g qn kn ++ (wSt g qt kt ++ (wS4 g qv kv))))) rfl rfl rfl ?_
  have hp9 := passF_rng hk
  refine j_callS (As := [.int (iI q), .int (iI 0), .int (iI (passF kn))]) (rest := []) C ys_X4_checkRange qw241 (c_X4_checkRange l g q 0 (passF kn) (by omega) (by omega) (by omega) (by omega)) (by decide) rfl dX4_force_19 rfl (Nat.le_of_ble_eq_true rfl) (by decide) (pf1 [] ([(r 0, .inr (4, [.ref (qn 0), .ref (qt 0), .ref (r 1), .int (iI sc), .int (iI ((ns : Int))), .ref (r 2)])), (r 1, aS g 4 (fun j => some (qv j 0))), (r 2, .inr (3, [.ref (r 3), .int (iI ((tn : Int))), .int (iI pl)])), (r 3, aI g 60 tx)] ++ (wSt g qn kn ++ (wSt g qt kt ++ (wS4 g qv kv))))) rfl (fun r9 w9 hq9 => ?_)
  obtain ⟨rfl, rfl⟩ := hq9
  refine J.to (L1 := [(0, .ref (r 0)), (1, .int (iI f)), (2, .int (iI q)), (3, .int (iI (b2i h)))]) (S1 := []) (ws1 := ([(r 0, .inr (4, [.ref (qn 0), .ref (qt 0), .ref (r 1), .int (iI sc), .int (iI ((ns : Int))), .ref (r 2)])), (r 1, aS g 4 (fun j => some (qv j 0))), (r 2, .inr (3, [.ref (r 3), .int (iI ((tn : Int))), .int (iI pl)])), (r 3, aI g 60 tx)] ++ (wSt g qn kn ++ (wSt g qt kt ++ (wS4 g qv kv))))) rfl rfl rfl ?_
  refine j_aload_n C 0 dX4_force_22 rfl rfl ?_
  refine j_get C ck4 0 0 (by decide) qw130 rfl rfl dX4_force_23 ?_
  refine j_getN C ck2 4 0 (by decide) qn90 rfl rfl dX4_force_26 ?_
  refine j_iload_n C 1 dX4_force_29 rfl rfl ?_
  refine j_iload_n C 2 dX4_force_30 rfl rfl ?_
  refine j_iload_n C 3 dX4_force_31 rfl rfl ?_
  refine j_callV (As := [.int (iI f), .int (iI q), .int (iI (b2i h))]) (rest := []) C yv_X1_forceBehind qw602 (c_X1_forceBehind l g (qn 1) (qn 2) (kn 0 2) (kn 0 3) (kn 0 1) q f h hF (by omega) (by omega)) (by decide) 5 rfl rfl rfl dX4_force_32 rfl (Nat.le_of_ble_eq_true rfl) (by decide) (pf1 [(r 0, .inr (4, [.ref (qn 0), .ref (qt 0), .ref (r 1), .int (iI sc), .int (iI ((ns : Int))), .ref (r 2)])), (r 1, aS g 4 (fun j => some (qv j 0))), (r 2, .inr (3, [.ref (r 3), .int (iI ((tn : Int))), .int (iI pl)])), (r 3, aI g 60 tx), (qn 0, .inr (2, [.ref (qn 1), .ref (qn 3), .ref (qn 5), .ref (qn 6), .ref (qn 7), .int (iI (kn 0 0))]))] ([(qn 2, aI g 10 (kn 1)), (qn 3, .inr (0, [.ref (qn 4), .int (iI (kn 0 9)), .int (iI (kn 0 6)), .int (iI (kn 0 4)), .int (iI (kn 0 5)), .long (lI (kn 0 7)), .long (lI (kn 0 8))])), (qn 4, aI g 48 (kn 2)), (qn 5, aI g 4 (kn 3)), (qn 6, aI g 4 (kn 4)), (qn 7, aI g 4 (kn 5))] ++ (wSt g qt kt ++ (wS4 g qv kv)))) rfl (fun r9 w9 hq9 => ?_)
  obtain ⟨rfl, rfl⟩ := hq9
  refine J.to (L1 := [(0, .ref (r 0)), (1, .int (iI f)), (2, .int (iI q)), (3, .int (iI (b2i h)))]) (S1 := [.long (lI (fbn (kn 0 1) h f q.toNat))]) (ws1 := ([(r 0, .inr (4, [.ref (qn 0), .ref (qt 0), .ref (r 1), .int (iI sc), .int (iI ((ns : Int))), .ref (r 2)])), (r 1, aS g 4 (fun j => some (qv j 0))), (r 2, .inr (3, [.ref (r 3), .int (iI ((tn : Int))), .int (iI pl)])), (r 3, aI g 60 tx)] ++ (wSt g qn kn ++ (wSt g qt kt ++ (wS4 g qv kv))))) rfl rfl rfl ?_
  exact j_lret C hr hlk dX4_force_35 ⟨rfl, rfl⟩ (by decide) (by decide)

theorem x_X4_force_1 (l : Launch) (hl : l.stackTraces = false) (g : Gh) (r : Nat → Nat) (qn qt : Nat → Nat) (qv : Nat → Nat → Nat) (kn kt : Nat → Nat → Int) (kv : Nat → Nat → Nat → Int) (sc : Int) (ns : Nat) (tx : Nat → Int) (tn : Nat) (pl : Int) (f q : Int) (h : Bool) (hT : TOK kn kv sc ns tx tn) (hrf : -2147483648 ≤ f ∧ f < 2147483648) (hrq : -2147483648 ≤ q ∧ q < 2147483648) (hf : f < 0 ∨ 1000000 < f) : CX l g yX4_force cX4_force 4 (some FieldType.long) ({ frames := 7, cells := 1, slots := 6, locals := 122 }) [.ref (r 0), .int (iI f), .int (iI q), .int (iI (b2i h))] ([(r 0, .inr (4, [.ref (qn 0), .ref (qt 0), .ref (r 1), .int (iI sc), .int (iI ((ns : Int))), .ref (r 2)])), (r 1, aS g 4 (fun j => some (qv j 0))), (r 2, .inr (3, [.ref (r 3), .int (iI ((tn : Int))), .int (iI pl)])), (r 3, aI g 60 tx)] ++ (wSt g qn kn ++ (wSt g qt kt ++ (wS4 g qv kv)))) "java/lang/IllegalArgumentException" (fun w9 => w9 = wTp g r qn qt qv kn kt kv sc ns tx tn pl) := by
  refine CX.intro (L0 := [(0, .ref (r 0)), (1, .int (iI f)), (2, .int (iI q)), (3, .int (iI (b2i h)))]) (own := RX4) (by decide) rfl (Nat.le_of_ble_eq_true rfl) rfl ?_
  intro pX eX sX mX argsX belowX methX cX A C hlk hnt
  obtain ⟨⟨hk, hh0⟩, hkv, hsc, hns, htn, htx⟩ := id hT
  obtain ⟨hP, hE0, hF, hrow0, hwt, hht, hlen, hlat, hkept⟩ := id hk
  have hE : -10 ≤ kn 0 3 ∧ kn 0 3 ≤ 10 := by omega
  have hrow : ∀ i : Nat, (i : Int) < kn 0 2 → 0 ≤ kn 1 i ∧ kn 1 i ≤ 4 := fun i hi => by have := hrow0 i hi; omega
  have hc2 : cpS kn kt 0 2 = kn 0 2 := rfl
  have hhnd : 0 ≤ hnd kn ∧ hnd kn ≤ 300000 := ⟨hh0, hnd_le hk⟩
  refine j_iload_n C 1 dX4_force_0 rfl rfl ?_
  refine j_iconst C dX4_force_1 ?_
  refine j_ldc (x := 1000000) C qw375 (by decide) dX4_force_2 ?_
  exact j_callSX (As := [.int (iI f), .int (iI 0), .int (iI 1000000)]) (rest := []) C ys_X4_checkRange qw241 (x_X4_checkRange_no l hl g f 0 1000000 (by omega) (by omega) (by omega) (by omega)) (by decide) rfl dX4_force_4 rfl (Nat.le_of_ble_eq_true rfl) (by decide) (pf1 [] ([(r 0, .inr (4, [.ref (qn 0), .ref (qt 0), .ref (r 1), .int (iI sc), .int (iI ((ns : Int))), .ref (r 2)])), (r 1, aS g 4 (fun j => some (qv j 0))), (r 2, .inr (3, [.ref (r 3), .int (iI ((tn : Int))), .int (iI pl)])), (r 3, aI g 60 tx)] ++ (wSt g qn kn ++ (wSt g qt kt ++ (wS4 g qv kv))))) rfl hnt hlk ⟨by decide, by decide⟩ (fun w9 h9 => by rw [h9]; rfl)

theorem x_X4_force_2 (l : Launch) (hl : l.stackTraces = false) (g : Gh) (r : Nat → Nat) (qn qt : Nat → Nat) (qv : Nat → Nat → Nat) (kn kt : Nat → Nat → Int) (kv : Nat → Nat → Nat → Int) (sc : Int) (ns : Nat) (tx : Nat → Int) (tn : Nat) (pl : Int) (f q : Int) (h : Bool) (hT : TOK kn kv sc ns tx tn) (hrf : -2147483648 ≤ f ∧ f < 2147483648) (hrq : -2147483648 ≤ q ∧ q < 2147483648) (hf : 0 ≤ f ∧ f ≤ 1000000) (hp : q < 0 ∨ passF kn < q) : CX l g yX4_force cX4_force 4 (some FieldType.long) ({ frames := 7, cells := 1, slots := 6, locals := 122 }) [.ref (r 0), .int (iI f), .int (iI q), .int (iI (b2i h))] ([(r 0, .inr (4, [.ref (qn 0), .ref (qt 0), .ref (r 1), .int (iI sc), .int (iI ((ns : Int))), .ref (r 2)])), (r 1, aS g 4 (fun j => some (qv j 0))), (r 2, .inr (3, [.ref (r 3), .int (iI ((tn : Int))), .int (iI pl)])), (r 3, aI g 60 tx)] ++ (wSt g qn kn ++ (wSt g qt kt ++ (wS4 g qv kv)))) "java/lang/IllegalArgumentException" (fun w9 => w9 = wTp g r qn qt qv kn kt kv sc ns tx tn pl) := by
  refine CX.intro (L0 := [(0, .ref (r 0)), (1, .int (iI f)), (2, .int (iI q)), (3, .int (iI (b2i h)))]) (own := RX4) (by decide) rfl (Nat.le_of_ble_eq_true rfl) rfl ?_
  intro pX eX sX mX argsX belowX methX cX A C hlk hnt
  obtain ⟨⟨hk, hh0⟩, hkv, hsc, hns, htn, htx⟩ := id hT
  obtain ⟨hP, hE0, hF, hrow0, hwt, hht, hlen, hlat, hkept⟩ := id hk
  have hE : -10 ≤ kn 0 3 ∧ kn 0 3 ≤ 10 := by omega
  have hrow : ∀ i : Nat, (i : Int) < kn 0 2 → 0 ≤ kn 1 i ∧ kn 1 i ≤ 4 := fun i hi => by have := hrow0 i hi; omega
  have hc2 : cpS kn kt 0 2 = kn 0 2 := rfl
  have hhnd : 0 ≤ hnd kn ∧ hnd kn ≤ 300000 := ⟨hh0, hnd_le hk⟩
  refine j_iload_n C 1 dX4_force_0 rfl rfl ?_
  refine j_iconst C dX4_force_1 ?_
  refine j_ldc (x := 1000000) C qw375 (by decide) dX4_force_2 ?_
  refine j_callS (As := [.int (iI f), .int (iI 0), .int (iI 1000000)]) (rest := []) C ys_X4_checkRange qw241 (c_X4_checkRange l g f 0 1000000 (by omega) (by omega) (by omega) (by omega)) (by decide) rfl dX4_force_4 rfl (Nat.le_of_ble_eq_true rfl) (by decide) (pf1 [] ([(r 0, .inr (4, [.ref (qn 0), .ref (qt 0), .ref (r 1), .int (iI sc), .int (iI ((ns : Int))), .ref (r 2)])), (r 1, aS g 4 (fun j => some (qv j 0))), (r 2, .inr (3, [.ref (r 3), .int (iI ((tn : Int))), .int (iI pl)])), (r 3, aI g 60 tx)] ++ (wSt g qn kn ++ (wSt g qt kt ++ (wS4 g qv kv))))) rfl (fun r9 w9 hq9 => ?_)
  obtain ⟨rfl, rfl⟩ := hq9
  refine J.to (L1 := [(0, .ref (r 0)), (1, .int (iI f)), (2, .int (iI q)), (3, .int (iI (b2i h)))]) (S1 := []) (ws1 := ([(r 0, .inr (4, [.ref (qn 0), .ref (qt 0), .ref (r 1), .int (iI sc), .int (iI ((ns : Int))), .ref (r 2)])), (r 1, aS g 4 (fun j => some (qv j 0))), (r 2, .inr (3, [.ref (r 3), .int (iI ((tn : Int))), .int (iI pl)])), (r 3, aI g 60 tx)] ++ (wSt g qn kn ++ (wSt g qt kt ++ (wS4 g qv kv))))) rfl rfl rfl ?_
  refine j_iload_n C 2 dX4_force_7 rfl rfl ?_
  refine j_iconst C dX4_force_8 ?_
  refine j_aload_n C 0 dX4_force_9 rfl rfl ?_
  refine j_get C ck4 0 0 (by decide) qw130 rfl rfl dX4_force_10 ?_
  refine j_getN C ck2 4 0 (by decide) qn90 rfl rfl dX4_force_13 ?_
  refine j_callV (As := []) (rest := [.int (iI 0), .int (iI q)]) C yv_X1_passes qw450 (c_X1_passes l g (qn 1) (qn 2) (kn 0 2) (kn 0 3) (kn 0 1)  hE) (by decide) 5 rfl rfl rfl dX4_force_16 rfl (Nat.le_of_ble_eq_true rfl) (by decide) (pf1 [(r 0, .inr (4, [.ref (qn 0), .ref (qt 0), .ref (r 1), .int (iI sc), .int (iI ((ns : Int))), .ref (r 2)])), (r 1, aS g 4 (fun j => some (qv j 0))), (r 2, .inr (3, [.ref (r 3), .int (iI ((tn : Int))), .int (iI pl)])), (r 3, aI g 60 tx), (qn 0, .inr (2, [.ref (qn 1), .ref (qn 3), .ref (qn 5), .ref (qn 6), .ref (qn 7), .int (iI (kn 0 0))]))] ([(qn 2, aI g 10 (kn 1)), (qn 3, .inr (0, [.ref (qn 4), .int (iI (kn 0 9)), .int (iI (kn 0 6)), .int (iI (kn 0 4)), .int (iI (kn 0 5)), .long (lI (kn 0 7)), .long (lI (kn 0 8))])), (qn 4, aI g 48 (kn 2)), (qn 5, aI g 4 (kn 3)), (qn 6, aI g 4 (kn 4)), (qn 7, aI g 4 (kn 5))] ++ (wSt g qt kt ++ (wS4 g qv kv)))) rfl (fun r9 w9 hq9 => ?_)
  obtain ⟨rfl, rfl⟩ := hq9
  refine J.to (L1 := [(0, .ref (r 0)), (1, .int (iI f)), (2, .int (iI q)), (3, .int (iI (b2i h)))]) (S1 := [.int (iI (passF kn)), .int (iI 0), .int (iI q)]) (ws1 := ([(r 0, .inr (4, [.ref (qn 0), .ref (qt 0), .ref (r 1), .int (iI sc), .int (iI ((ns : Int))), .ref (r 2)])), (r 1, aS g 4 (fun j => some (qv j 0))), (r 2, .inr (3, [.ref (r 3), .int (iI ((tn : Int))), .int (iI pl)])), (r 3, aI g 60 tx)] ++ (wSt g qn kn ++ (wSt g qt kt ++ (wS4 g qv kv))))) rfl rfl rfl ?_
  have hp9 := passF_rng hk
  exact j_callSX (As := [.int (iI q), .int (iI 0), .int (iI (passF kn))]) (rest := []) C ys_X4_checkRange qw241 (x_X4_checkRange_no l hl g q 0 (passF kn) (by omega) (by omega) (by omega) (by omega)) (by decide) rfl dX4_force_19 rfl (Nat.le_of_ble_eq_true rfl) (by decide) (pf1 [] ([(r 0, .inr (4, [.ref (qn 0), .ref (qt 0), .ref (r 1), .int (iI sc), .int (iI ((ns : Int))), .ref (r 2)])), (r 1, aS g 4 (fun j => some (qv j 0))), (r 2, .inr (3, [.ref (r 3), .int (iI ((tn : Int))), .int (iI pl)])), (r 3, aI g 60 tx)] ++ (wSt g qn kn ++ (wSt g qt kt ++ (wS4 g qv kv))))) rfl hnt hlk ⟨by decide, by decide⟩ (fun w9 h9 => by rw [h9]; rfl)

theorem c_X4_pull (l : Launch) (g : Gh) (r : Nat → Nat) (qn qt : Nat → Nat) (qv : Nat → Nat → Nat) (kn kt : Nat → Nat → Int) (kv : Nat → Nat → Nat → Int) (sc : Int) (ns : Nat) (tx : Nat → Int) (tn : Nat) (pl : Int) (b f : Int) (h : Bool) (hT : TOK kn kv sc ns tx tn) (hb4 : 0 ≤ b ∧ b < 4) (hf : 0 ≤ f ∧ f ≤ 1000000) : CT l g yX4_pull cX4_pull 4 (some FieldType.long) ({ frames := 2, cells := 0, slots := 0, locals := 55 }) [.ref (r 0), .int (iI b), .int (iI f), .int (iI (b2i h))] ([(r 0, .inr (4, [.ref (qn 0), .ref (qt 0), .ref (r 1), .int (iI sc), .int (iI ((ns : Int))), .ref (r 2)])), (r 1, aS g 4 (fun j => some (qv j 0))), (r 2, .inr (3, [.ref (r 3), .int (iI ((tn : Int))), .int (iI pl)])), (r 3, aI g 60 tx)] ++ (wSt g qn kn ++ (wSt g qt kt ++ (wS4 g qv kv)))) (PE (some (.long (lI (pul (kn 1) (kn 0 1) h (kn 0 2).toNat (kn 0 3) b f)))) (wTp g r qn qt qv kn kt kv sc ns tx tn pl)) := by
  refine CT.intro (L0 := [(0, .ref (r 0)), (1, .int (iI b)), (2, .int (iI f)), (3, .int (iI (b2i h)))]) (own := RX4) (by decide) rfl (Nat.le_of_ble_eq_true rfl) rfl ?_
  intro pX eX sX mX argsX belowX methX cX A C hr hlk
  obtain ⟨⟨hk, hh0⟩, hkv, hsc, hns, htn, htx⟩ := id hT
  obtain ⟨hP, hE0, hF, hrow0, hwt, hht, hlen, hlat, hkept⟩ := id hk
  have hE : -10 ≤ kn 0 3 ∧ kn 0 3 ≤ 10 := by omega
  have hrow : ∀ i : Nat, (i : Int) < kn 0 2 → 0 ≤ kn 1 i ∧ kn 1 i ≤ 4 := fun i hi => by have := hrow0 i hi; omega
  have hc2 : cpS kn kt 0 2 = kn 0 2 := rfl
  have hhnd : 0 ≤ hnd kn ∧ hnd kn ≤ 300000 := ⟨hh0, hnd_le hk⟩
  refine j_iload_n C 1 dX4_pull_0 rfl rfl ?_
  refine j_callS (As := [.int (iI b)]) (rest := []) C ys_X4_checkBlock qw166 (c_X4_checkBlock l g b (by omega)) (by decide) rfl dX4_pull_1 rfl (Nat.le_of_ble_eq_true rfl) (by decide) (pf1 [] ([(r 0, .inr (4, [.ref (qn 0), .ref (qt 0), .ref (r 1), .int (iI sc), .int (iI ((ns : Int))), .ref (r 2)])), (r 1, aS g 4 (fun j => some (qv j 0))), (r 2, .inr (3, [.ref (r 3), .int (iI ((tn : Int))), .int (iI pl)])), (r 3, aI g 60 tx)] ++ (wSt g qn kn ++ (wSt g qt kt ++ (wS4 g qv kv))))) rfl (fun r9 w9 hq9 => ?_)
  obtain ⟨rfl, rfl⟩ := hq9
  refine J.to (L1 := [(0, .ref (r 0)), (1, .int (iI b)), (2, .int (iI f)), (3, .int (iI (b2i h)))]) (S1 := []) (ws1 := ([(r 0, .inr (4, [.ref (qn 0), .ref (qt 0), .ref (r 1), .int (iI sc), .int (iI ((ns : Int))), .ref (r 2)])), (r 1, aS g 4 (fun j => some (qv j 0))), (r 2, .inr (3, [.ref (r 3), .int (iI ((tn : Int))), .int (iI pl)])), (r 3, aI g 60 tx)] ++ (wSt g qn kn ++ (wSt g qt kt ++ (wS4 g qv kv))))) rfl rfl rfl ?_
  refine j_iload_n C 2 dX4_pull_4 rfl rfl ?_
  refine j_iconst C dX4_pull_5 ?_
  refine j_ldc (x := 1000000) C qw375 (by decide) dX4_pull_6 ?_
  refine j_callS (As := [.int (iI f), .int (iI 0), .int (iI 1000000)]) (rest := []) C ys_X4_checkRange qw241 (c_X4_checkRange l g f 0 1000000 (by omega) (by omega) (by omega) (by omega)) (by decide) rfl dX4_pull_8 rfl (Nat.le_of_ble_eq_true rfl) (by decide) (pf1 [] ([(r 0, .inr (4, [.ref (qn 0), .ref (qt 0), .ref (r 1), .int (iI sc), .int (iI ((ns : Int))), .ref (r 2)])), (r 1, aS g 4 (fun j => some (qv j 0))), (r 2, .inr (3, [.ref (r 3), .int (iI ((tn : Int))), .int (iI pl)])), (r 3, aI g 60 tx)] ++ (wSt g qn kn ++ (wSt g qt kt ++ (wS4 g qv kv))))) rfl (fun r9 w9 hq9 => ?_)
  obtain ⟨rfl, rfl⟩ := hq9
  refine J.to (L1 := [(0, .ref (r 0)), (1, .int (iI b)), (2, .int (iI f)), (3, .int (iI (b2i h)))]) (S1 := []) (ws1 := ([(r 0, .inr (4, [.ref (qn 0), .ref (qt 0), .ref (r 1), .int (iI sc), .int (iI ((ns : Int))), .ref (r 2)])), (r 1, aS g 4 (fun j => some (qv j 0))), (r 2, .inr (3, [.ref (r 3), .int (iI ((tn : Int))), .int (iI pl)])), (r 3, aI g 60 tx)] ++ (wSt g qn kn ++ (wSt g qt kt ++ (wS4 g qv kv))))) rfl rfl rfl ?_
  refine j_aload_n C 0 dX4_pull_11 rfl rfl ?_
  refine j_get C ck4 0 0 (by decide) qw130 rfl rfl dX4_pull_12 ?_
  refine j_getN C ck2 4 0 (by decide) qn90 rfl rfl dX4_pull_15 ?_
  refine j_iload_n C 1 dX4_pull_18 rfl rfl ?_
  refine j_iload_n C 2 dX4_pull_19 rfl rfl ?_
  refine j_iload_n C 3 dX4_pull_20 rfl rfl ?_
  refine j_callV (As := [.int (iI b), .int (iI f), .int (iI (b2i h))]) (rest := []) C yv_X1_pullOn qw547 (c_X1_pullOn l g (qn 1) (qn 2) (kn 1) (kn 0 2) (kn 0 3) (kn 0 1) b f h hP hE hF (by omega) (by omega) hrow) (by decide) 5 rfl rfl rfl dX4_pull_21 rfl (Nat.le_of_ble_eq_true rfl) (by decide) (pf1 [(r 0, .inr (4, [.ref (qn 0), .ref (qt 0), .ref (r 1), .int (iI sc), .int (iI ((ns : Int))), .ref (r 2)])), (r 1, aS g 4 (fun j => some (qv j 0))), (r 2, .inr (3, [.ref (r 3), .int (iI ((tn : Int))), .int (iI pl)])), (r 3, aI g 60 tx), (qn 0, .inr (2, [.ref (qn 1), .ref (qn 3), .ref (qn 5), .ref (qn 6), .ref (qn 7), .int (iI (kn 0 0))]))] ([(qn 3, .inr (0, [.ref (qn 4), .int (iI (kn 0 9)), .int (iI (kn 0 6)), .int (iI (kn 0 4)), .int (iI (kn 0 5)), .long (lI (kn 0 7)), .long (lI (kn 0 8))])), (qn 4, aI g 48 (kn 2)), (qn 5, aI g 4 (kn 3)), (qn 6, aI g 4 (kn 4)), (qn 7, aI g 4 (kn 5))] ++ (wSt g qt kt ++ (wS4 g qv kv)))) rfl (fun r9 w9 hq9 => ?_)
  obtain ⟨rfl, rfl⟩ := hq9
  refine J.to (L1 := [(0, .ref (r 0)), (1, .int (iI b)), (2, .int (iI f)), (3, .int (iI (b2i h)))]) (S1 := [.long (lI (pul (kn 1) (kn 0 1) h (kn 0 2).toNat (kn 0 3) b f))]) (ws1 := ([(r 0, .inr (4, [.ref (qn 0), .ref (qt 0), .ref (r 1), .int (iI sc), .int (iI ((ns : Int))), .ref (r 2)])), (r 1, aS g 4 (fun j => some (qv j 0))), (r 2, .inr (3, [.ref (r 3), .int (iI ((tn : Int))), .int (iI pl)])), (r 3, aI g 60 tx)] ++ (wSt g qn kn ++ (wSt g qt kt ++ (wS4 g qv kv))))) rfl rfl rfl ?_
  have hp21 := pul_le (f := kn 1) (F := kn 0 1) (h := h) (n := (kn 0 2).toNat) (E := kn 0 3) (b := b) (t := f) hF (by omega) (by omega)
  exact j_lret C hr hlk dX4_pull_24 ⟨rfl, rfl⟩ (by decide) (by decide)

theorem x_X4_pull_1 (l : Launch) (hl : l.stackTraces = false) (g : Gh) (r : Nat → Nat) (qn qt : Nat → Nat) (qv : Nat → Nat → Nat) (kn kt : Nat → Nat → Int) (kv : Nat → Nat → Nat → Int) (sc : Int) (ns : Nat) (tx : Nat → Int) (tn : Nat) (pl : Int) (b f : Int) (h : Bool) (hT : TOK kn kv sc ns tx tn) (hrb : -2147483648 ≤ b ∧ b < 2147483648) (hrf : -2147483648 ≤ f ∧ f < 2147483648) (hb4 : b < 0 ∨ 4 ≤ b) : CX l g yX4_pull cX4_pull 4 (some FieldType.long) ({ frames := 7, cells := 1, slots := 6, locals := 122 }) [.ref (r 0), .int (iI b), .int (iI f), .int (iI (b2i h))] ([(r 0, .inr (4, [.ref (qn 0), .ref (qt 0), .ref (r 1), .int (iI sc), .int (iI ((ns : Int))), .ref (r 2)])), (r 1, aS g 4 (fun j => some (qv j 0))), (r 2, .inr (3, [.ref (r 3), .int (iI ((tn : Int))), .int (iI pl)])), (r 3, aI g 60 tx)] ++ (wSt g qn kn ++ (wSt g qt kt ++ (wS4 g qv kv)))) "java/lang/IndexOutOfBoundsException" (fun w9 => w9 = wTp g r qn qt qv kn kt kv sc ns tx tn pl) := by
  refine CX.intro (L0 := [(0, .ref (r 0)), (1, .int (iI b)), (2, .int (iI f)), (3, .int (iI (b2i h)))]) (own := RX4) (by decide) rfl (Nat.le_of_ble_eq_true rfl) rfl ?_
  intro pX eX sX mX argsX belowX methX cX A C hlk hnt
  obtain ⟨⟨hk, hh0⟩, hkv, hsc, hns, htn, htx⟩ := id hT
  obtain ⟨hP, hE0, hF, hrow0, hwt, hht, hlen, hlat, hkept⟩ := id hk
  have hE : -10 ≤ kn 0 3 ∧ kn 0 3 ≤ 10 := by omega
  have hrow : ∀ i : Nat, (i : Int) < kn 0 2 → 0 ≤ kn 1 i ∧ kn 1 i ≤ 4 := fun i hi => by have := hrow0 i hi; omega
  have hc2 : cpS kn kt 0 2 = kn 0 2 := rfl
  have hhnd : 0 ≤ hnd kn ∧ hnd kn ≤ 300000 := ⟨hh0, hnd_le hk⟩
  refine j_iload_n C 1 dX4_pull_0 rfl rfl ?_
  exact j_callSX (As := [.int (iI b)]) (rest := []) C ys_X4_checkBlock qw166 (x_X4_checkBlock_no l hl g b (by omega) (by omega)) (by decide) rfl dX4_pull_1 rfl (Nat.le_of_ble_eq_true rfl) (by decide) (pf1 [] ([(r 0, .inr (4, [.ref (qn 0), .ref (qt 0), .ref (r 1), .int (iI sc), .int (iI ((ns : Int))), .ref (r 2)])), (r 1, aS g 4 (fun j => some (qv j 0))), (r 2, .inr (3, [.ref (r 3), .int (iI ((tn : Int))), .int (iI pl)])), (r 3, aI g 60 tx)] ++ (wSt g qn kn ++ (wSt g qt kt ++ (wS4 g qv kv))))) rfl hnt hlk ⟨by decide, by decide⟩ (fun w9 h9 => by rw [h9]; rfl)

theorem x_X4_pull_2 (l : Launch) (hl : l.stackTraces = false) (g : Gh) (r : Nat → Nat) (qn qt : Nat → Nat) (qv : Nat → Nat → Nat) (kn kt : Nat → Nat → Int) (kv : Nat → Nat → Nat → Int) (sc : Int) (ns : Nat) (tx : Nat → Int) (tn : Nat) (pl : Int) (b f : Int) (h : Bool) (hT : TOK kn kv sc ns tx tn) (hrb : -2147483648 ≤ b ∧ b < 2147483648) (hrf : -2147483648 ≤ f ∧ f < 2147483648) (hb4 : 0 ≤ b ∧ b < 4) (hf : f < 0 ∨ 1000000 < f) : CX l g yX4_pull cX4_pull 4 (some FieldType.long) ({ frames := 7, cells := 1, slots := 6, locals := 122 }) [.ref (r 0), .int (iI b), .int (iI f), .int (iI (b2i h))] ([(r 0, .inr (4, [.ref (qn 0), .ref (qt 0), .ref (r 1), .int (iI sc), .int (iI ((ns : Int))), .ref (r 2)])), (r 1, aS g 4 (fun j => some (qv j 0))), (r 2, .inr (3, [.ref (r 3), .int (iI ((tn : Int))), .int (iI pl)])), (r 3, aI g 60 tx)] ++ (wSt g qn kn ++ (wSt g qt kt ++ (wS4 g qv kv)))) "java/lang/IllegalArgumentException" (fun w9 => w9 = wTp g r qn qt qv kn kt kv sc ns tx tn pl) := by
  refine CX.intro (L0 := [(0, .ref (r 0)), (1, .int (iI b)), (2, .int (iI f)), (3, .int (iI (b2i h)))]) (own := RX4) (by decide) rfl (Nat.le_of_ble_eq_true rfl) rfl ?_
  intro pX eX sX mX argsX belowX methX cX A C hlk hnt
  obtain ⟨⟨hk, hh0⟩, hkv, hsc, hns, htn, htx⟩ := id hT
  obtain ⟨hP, hE0, hF, hrow0, hwt, hht, hlen, hlat, hkept⟩ := id hk
  have hE : -10 ≤ kn 0 3 ∧ kn 0 3 ≤ 10 := by omega
  have hrow : ∀ i : Nat, (i : Int) < kn 0 2 → 0 ≤ kn 1 i ∧ kn 1 i ≤ 4 := fun i hi => by have := hrow0 i hi; omega
  have hc2 : cpS kn kt 0 2 = kn 0 2 := rfl
  have hhnd : 0 ≤ hnd kn ∧ hnd kn ≤ 300000 := ⟨hh0, hnd_le hk⟩
  refine j_iload_n C 1 dX4_pull_0 rfl rfl ?_
  refine j_callS (As := [.int (iI b)]) (rest := []) C ys_X4_checkBlock qw166 (c_X4_checkBlock l g b (by omega)) (by decide) rfl dX4_pull_1 rfl (Nat.le_of_ble_eq_true rfl) (by decide) (pf1 [] ([(r 0, .inr (4, [.ref (qn 0), .ref (qt 0), .ref (r 1), .int (iI sc), .int (iI ((ns : Int))), .ref (r 2)])), (r 1, aS g 4 (fun j => some (qv j 0))), (r 2, .inr (3, [.ref (r 3), .int (iI ((tn : Int))), .int (iI pl)])), (r 3, aI g 60 tx)] ++ (wSt g qn kn ++ (wSt g qt kt ++ (wS4 g qv kv))))) rfl (fun r9 w9 hq9 => ?_)
  obtain ⟨rfl, rfl⟩ := hq9
  refine J.to (L1 := [(0, .ref (r 0)), (1, .int (iI b)), (2, .int (iI f)), (3, .int (iI (b2i h)))]) (S1 := []) (ws1 := ([(r 0, .inr (4, [.ref (qn 0), .ref (qt 0), .ref (r 1), .int (iI sc), .int (iI ((ns : Int))), .ref (r 2)])), (r 1, aS g 4 (fun j => some (qv j 0))), (r 2, .inr (3, [.ref (r 3), .int (iI ((tn : Int))), .int (iI pl)])), (r 3, aI g 60 tx)] ++ (wSt g qn kn ++ (wSt g qt kt ++ (wS4 g qv kv))))) rfl rfl rfl ?_
  refine j_iload_n C 2 dX4_pull_4 rfl rfl ?_
  refine j_iconst C dX4_pull_5 ?_
  refine j_ldc (x := 1000000) C qw375 (by decide) dX4_pull_6 ?_
  exact j_callSX (As := [.int (iI f), .int (iI 0), .int (iI 1000000)]) (rest := []) C ys_X4_checkRange qw241 (x_X4_checkRange_no l hl g f 0 1000000 (by omega) (by omega) (by omega) (by omega)) (by decide) rfl dX4_pull_8 rfl (Nat.le_of_ble_eq_true rfl) (by decide) (pf1 [] ([(r 0, .inr (4, [.ref (qn 0), .ref (qt 0), .ref (r 1), .int (iI sc), .int (iI ((ns : Int))), .ref (r 2)])), (r 1, aS g 4 (fun j => some (qv j 0))), (r 2, .inr (3, [.ref (r 3), .int (iI ((tn : Int))), .int (iI pl)])), (r 3, aI g 60 tx)] ++ (wSt g qn kn ++ (wSt g qt kt ++ (wS4 g qv kv))))) rfl hnt hlk ⟨by decide, by decide⟩ (fun w9 h9 => by rw [h9]; rfl)

theorem c_X4_value_0 (l : Launch) (g : Gh) (r : Nat → Nat) (qn qt : Nat → Nat) (qv : Nat → Nat → Nat) (kn kt : Nat → Nat → Int) (kv : Nat → Nat → Nat → Int) (sc : Int) (ns : Nat) (tx : Nat → Int) (tn : Nat) (pl : Int) (hT : TOK kn kv sc ns tx tn)  : CT l g yX4_value cX4_value 2 (some FieldType.int) ({ frames := 4, cells := 0, slots := 0, locals := 86 }) [.ref (r 0), .int (iI 0)] ([(r 0, .inr (4, [.ref (qn 0), .ref (qt 0), .ref (r 1), .int (iI sc), .int (iI ((ns : Int))), .ref (r 2)])), (r 1, aS g 4 (fun j => some (qv j 0))), (r 2, .inr (3, [.ref (r 3), .int (iI ((tn : Int))), .int (iI pl)])), (r 3, aI g 60 tx)] ++ (wSt g qn kn ++ (wSt g qt kt ++ (wS4 g qv kv)))) (PE (some (.int (iI (kn 0 0)))) (wTp g r qn qt qv kn kt kv sc ns tx tn pl)) := by
  refine CT.intro (L0 := [(0, .ref (r 0)), (1, .int (iI 0))]) (own := RX4) (by decide) rfl (Nat.le_of_ble_eq_true rfl) rfl ?_
  intro pX eX sX mX argsX belowX methX cX A C hr hlk
  obtain ⟨⟨hk, hh0⟩, hkv, hsc, hns, htn, htx⟩ := id hT
  obtain ⟨hP, hE0, hF, hrow0, hwt, hht, hlen, hlat, hkept⟩ := id hk
  have hE : -10 ≤ kn 0 3 ∧ kn 0 3 ≤ 10 := by omega
  have hrow : ∀ i : Nat, (i : Int) < kn 0 2 → 0 ≤ kn 1 i ∧ kn 1 i ≤ 4 := fun i hi => by have := hrow0 i hi; omega
  have hc2 : cpS kn kt 0 2 = kn 0 2 := rfl
  have hhnd : 0 ≤ hnd kn ∧ hnd kn ≤ 300000 := ⟨hh0, hnd_le hk⟩
  refine j_iload_n C 1 dX4_value_0 rfl rfl ?_
  refine j_tswIn (tgt := 56) C (by decide) dX4_value_1 (by decide) rfl (by decide) ?_
  refine j_aload_n C 0 dX4_value_56 rfl rfl ?_
  refine j_get C ck4 0 0 (by decide) qw130 rfl rfl dX4_value_57 ?_
  refine j_getN C ck2 4 5 (by decide) qn97 rfl rfl dX4_value_60 ?_
  exact j_iret C hr hlk dX4_value_63 ⟨rfl, rfl⟩ (by decide) (by decide)

theorem c_X4_value_1 (l : Launch) (g : Gh) (r : Nat → Nat) (qn qt : Nat → Nat) (qv : Nat → Nat → Nat) (kn kt : Nat → Nat → Int) (kv : Nat → Nat → Nat → Int) (sc : Int) (ns : Nat) (tx : Nat → Int) (tn : Nat) (pl : Int) (hT : TOK kn kv sc ns tx tn)  : CT l g yX4_value cX4_value 2 (some FieldType.int) ({ frames := 4, cells := 0, slots := 0, locals := 86 }) [.ref (r 0), .int (iI 1)] ([(r 0, .inr (4, [.ref (qn 0), .ref (qt 0), .ref (r 1), .int (iI sc), .int (iI ((ns : Int))), .ref (r 2)])), (r 1, aS g 4 (fun j => some (qv j 0))), (r 2, .inr (3, [.ref (r 3), .int (iI ((tn : Int))), .int (iI pl)])), (r 3, aI g 60 tx)] ++ (wSt g qn kn ++ (wSt g qt kt ++ (wS4 g qv kv)))) (PE (some (.int (iI (hnd kn)))) (wTp g r qn qt qv kn kt kv sc ns tx tn pl)) := by
  refine CT.intro (L0 := [(0, .ref (r 0)), (1, .int (iI 1))]) (own := RX4) (by decide) rfl (Nat.le_of_ble_eq_true rfl) rfl ?_
  intro pX eX sX mX argsX belowX methX cX A C hr hlk
  obtain ⟨⟨hk, hh0⟩, hkv, hsc, hns, htn, htx⟩ := id hT
  obtain ⟨hP, hE0, hF, hrow0, hwt, hht, hlen, hlat, hkept⟩ := id hk
  have hE : -10 ≤ kn 0 3 ∧ kn 0 3 ≤ 10 := by omega
  have hrow : ∀ i : Nat, (i : Int) < kn 0 2 → 0 ≤ kn 1 i ∧ kn 1 i ≤ 4 := fun i hi => by have := hrow0 i hi; omega
  have hc2 : cpS kn kt 0 2 = kn 0 2 := rfl
  have hhnd : 0 ≤ hnd kn ∧ hnd kn ≤ 300000 := ⟨hh0, hnd_le hk⟩
  refine j_iload_n C 1 dX4_value_0 rfl rfl ?_
  refine j_tswIn (tgt := 64) C (by decide) dX4_value_1 (by decide) rfl (by decide) ?_
  refine j_aload_n C 0 dX4_value_64 rfl rfl ?_
  refine j_get C ck4 0 0 (by decide) qw130 rfl rfl dX4_value_65 ?_
  refine j_callV (As := []) (rest := []) C yv_X2_inHand qw327 (c_X2_inHand l g qn kn hk) (by decide) 4 rfl rfl rfl dX4_value_68 rfl (Nat.le_of_ble_eq_true rfl) (by decide) (pf1 [(r 0, .inr (4, [.ref (qn 0), .ref (qt 0), .ref (r 1), .int (iI sc), .int (iI ((ns : Int))), .ref (r 2)])), (r 1, aS g 4 (fun j => some (qv j 0))), (r 2, .inr (3, [.ref (r 3), .int (iI ((tn : Int))), .int (iI pl)])), (r 3, aI g 60 tx)] (wSt g qt kt ++ (wS4 g qv kv))) rfl (fun r9 w9 hq9 => ?_)
  obtain ⟨rfl, rfl⟩ := hq9
  refine J.to (L1 := [(0, .ref (r 0)), (1, .int (iI 1))]) (S1 := [.int (iI (hnd kn))]) (ws1 := ([(r 0, .inr (4, [.ref (qn 0), .ref (qt 0), .ref (r 1), .int (iI sc), .int (iI ((ns : Int))), .ref (r 2)])), (r 1, aS g 4 (fun j => some (qv j 0))), (r 2, .inr (3, [.ref (r 3), .int (iI ((tn : Int))), .int (iI pl)])), (r 3, aI g 60 tx)] ++ (wSt g qn kn ++ (wSt g qt kt ++ (wS4 g qv kv))))) rfl rfl rfl ?_
  exact j_iret C hr hlk dX4_value_71 ⟨rfl, rfl⟩ (by decide) (by decide)

theorem c_X4_value_2 (l : Launch) (g : Gh) (r : Nat → Nat) (qn qt : Nat → Nat) (qv : Nat → Nat → Nat) (kn kt : Nat → Nat → Int) (kv : Nat → Nat → Nat → Int) (sc : Int) (ns : Nat) (tx : Nat → Int) (tn : Nat) (pl : Int) (hT : TOK kn kv sc ns tx tn)  : CT l g yX4_value cX4_value 2 (some FieldType.int) ({ frames := 4, cells := 0, slots := 0, locals := 86 }) [.ref (r 0), .int (iI 2)] ([(r 0, .inr (4, [.ref (qn 0), .ref (qt 0), .ref (r 1), .int (iI sc), .int (iI ((ns : Int))), .ref (r 2)])), (r 1, aS g 4 (fun j => some (qv j 0))), (r 2, .inr (3, [.ref (r 3), .int (iI ((tn : Int))), .int (iI pl)])), (r 3, aI g 60 tx)] ++ (wSt g qn kn ++ (wSt g qt kt ++ (wS4 g qv kv)))) (PE (some (.int (iI (kn 0 1)))) (wTp g r qn qt qv kn kt kv sc ns tx tn pl)) := by
  refine CT.intro (L0 := [(0, .ref (r 0)), (1, .int (iI 2))]) (own := RX4) (by decide) rfl (Nat.le_of_ble_eq_true rfl) rfl ?_
  intro pX eX sX mX argsX belowX methX cX A C hr hlk
  obtain ⟨⟨hk, hh0⟩, hkv, hsc, hns, htn, htx⟩ := id hT
  obtain ⟨hP, hE0, hF, hrow0, hwt, hht, hlen, hlat, hkept⟩ := id hk
  have hE : -10 ≤ kn 0 3 ∧ kn 0 3 ≤ 10 := by omega
  have hrow : ∀ i : Nat, (i : Int) < kn 0 2 → 0 ≤ kn 1 i ∧ kn 1 i ≤ 4 := fun i hi => by have := hrow0 i hi; omega
  have hc2 : cpS kn kt 0 2 = kn 0 2 := rfl
  have hhnd : 0 ≤ hnd kn ∧ hnd kn ≤ 300000 := ⟨hh0, hnd_le hk⟩
  refine j_iload_n C 1 dX4_value_0 rfl rfl ?_
  refine j_tswIn (tgt := 72) C (by decide) dX4_value_1 (by decide) rfl (by decide) ?_
  refine j_aload_n C 0 dX4_value_72 rfl rfl ?_
  refine j_get C ck4 0 0 (by decide) qw130 rfl rfl dX4_value_73 ?_
  refine j_getN C ck2 4 0 (by decide) qn90 rfl rfl dX4_value_76 ?_
  refine j_getN C ck1 5 3 (by decide) qn41 rfl rfl dX4_value_79 ?_
  exact j_iret C hr hlk dX4_value_82 ⟨rfl, rfl⟩ (by decide) (by decide)

theorem c_X4_value_3 (l : Launch) (g : Gh) (r : Nat → Nat) (qn qt : Nat → Nat) (qv : Nat → Nat → Nat) (kn kt : Nat → Nat → Int) (kv : Nat → Nat → Nat → Int) (sc : Int) (ns : Nat) (tx : Nat → Int) (tn : Nat) (pl : Int) (hT : TOK kn kv sc ns tx tn)  : CT l g yX4_value cX4_value 2 (some FieldType.int) ({ frames := 4, cells := 0, slots := 0, locals := 86 }) [.ref (r 0), .int (iI 3)] ([(r 0, .inr (4, [.ref (qn 0), .ref (qt 0), .ref (r 1), .int (iI sc), .int (iI ((ns : Int))), .ref (r 2)])), (r 1, aS g 4 (fun j => some (qv j 0))), (r 2, .inr (3, [.ref (r 3), .int (iI ((tn : Int))), .int (iI pl)])), (r 3, aI g 60 tx)] ++ (wSt g qn kn ++ (wSt g qt kt ++ (wS4 g qv kv)))) (PE (some (.int (iI (kn 0 2)))) (wTp g r qn qt qv kn kt kv sc ns tx tn pl)) := by
  refine CT.intro (L0 := [(0, .ref (r 0)), (1, .int (iI 3))]) (own := RX4) (by decide) rfl (Nat.le_of_ble_eq_true rfl) rfl ?_
  intro pX eX sX mX argsX belowX methX cX A C hr hlk
  obtain ⟨⟨hk, hh0⟩, hkv, hsc, hns, htn, htx⟩ := id hT
  obtain ⟨hP, hE0, hF, hrow0, hwt, hht, hlen, hlat, hkept⟩ := id hk
  have hE : -10 ≤ kn 0 3 ∧ kn 0 3 ≤ 10 := by omega
  have hrow : ∀ i : Nat, (i : Int) < kn 0 2 → 0 ≤ kn 1 i ∧ kn 1 i ≤ 4 := fun i hi => by have := hrow0 i hi; omega
  have hc2 : cpS kn kt 0 2 = kn 0 2 := rfl
  have hhnd : 0 ≤ hnd kn ∧ hnd kn ≤ 300000 := ⟨hh0, hnd_le hk⟩
  refine j_iload_n C 1 dX4_value_0 rfl rfl ?_
  refine j_tswIn (tgt := 83) C (by decide) dX4_value_1 (by decide) rfl (by decide) ?_
  refine j_aload_n C 0 dX4_value_83 rfl rfl ?_
  refine j_get C ck4 0 0 (by decide) qw130 rfl rfl dX4_value_84 ?_
  refine j_getN C ck2 4 0 (by decide) qn90 rfl rfl dX4_value_87 ?_
  refine j_getN C ck1 5 1 (by decide) qn36 rfl rfl dX4_value_90 ?_
  exact j_iret C hr hlk dX4_value_93 ⟨rfl, rfl⟩ (by decide) (by decide)

theorem c_X4_value_4 (l : Launch) (g : Gh) (r : Nat → Nat) (qn qt : Nat → Nat) (qv : Nat → Nat → Nat) (kn kt : Nat → Nat → Int) (kv : Nat → Nat → Nat → Int) (sc : Int) (ns : Nat) (tx : Nat → Int) (tn : Nat) (pl : Int) (hT : TOK kn kv sc ns tx tn)  : CT l g yX4_value cX4_value 2 (some FieldType.int) ({ frames := 4, cells := 0, slots := 0, locals := 86 }) [.ref (r 0), .int (iI 4)] ([(r 0, .inr (4, [.ref (qn 0), .ref (qt 0), .ref (r 1), .int (iI sc), .int (iI ((ns : Int))), .ref (r 2)])), (r 1, aS g 4 (fun j => some (qv j 0))), (r 2, .inr (3, [.ref (r 3), .int (iI ((tn : Int))), .int (iI pl)])), (r 3, aI g 60 tx)] ++ (wSt g qn kn ++ (wSt g qt kt ++ (wS4 g qv kv)))) (PE (some (.int (iI (kn 0 3)))) (wTp g r qn qt qv kn kt kv sc ns tx tn pl)) := by
  refine CT.intro (L0 := [(0, .ref (r 0)), (1, .int (iI 4))]) (own := RX4) (by decide) rfl (Nat.le_of_ble_eq_true rfl) rfl ?_
  intro pX eX sX mX argsX belowX methX cX A C hr hlk
  obtain ⟨⟨hk, hh0⟩, hkv, hsc, hns, htn, htx⟩ := id hT
  obtain ⟨hP, hE0, hF, hrow0, hwt, hht, hlen, hlat, hkept⟩ := id hk
  have hE : -10 ≤ kn 0 3 ∧ kn 0 3 ≤ 10 := by omega
  have hrow : ∀ i : Nat, (i : Int) < kn 0 2 → 0 ≤ kn 1 i ∧ kn 1 i ≤ 4 := fun i hi => by have := hrow0 i hi; omega
  have hc2 : cpS kn kt 0 2 = kn 0 2 := rfl
  have hhnd : 0 ≤ hnd kn ∧ hnd kn ≤ 300000 := ⟨hh0, hnd_le hk⟩
  refine j_iload_n C 1 dX4_value_0 rfl rfl ?_
  refine j_tswIn (tgt := 94) C (by decide) dX4_value_1 (by decide) rfl (by decide) ?_
  refine j_aload_n C 0 dX4_value_94 rfl rfl ?_
  refine j_get C ck4 0 0 (by decide) qw130 rfl rfl dX4_value_95 ?_
  refine j_getN C ck2 4 0 (by decide) qn90 rfl rfl dX4_value_98 ?_
  refine j_getN C ck1 5 2 (by decide) qn39 rfl rfl dX4_value_101 ?_
  exact j_iret C hr hlk dX4_value_104 ⟨rfl, rfl⟩ (by decide) (by decide)

theorem c_X4_value_5 (l : Launch) (g : Gh) (r : Nat → Nat) (qn qt : Nat → Nat) (qv : Nat → Nat → Nat) (kn kt : Nat → Nat → Int) (kv : Nat → Nat → Nat → Int) (sc : Int) (ns : Nat) (tx : Nat → Int) (tn : Nat) (pl : Int) (hT : TOK kn kv sc ns tx tn)  : CT l g yX4_value cX4_value 2 (some FieldType.int) ({ frames := 4, cells := 0, slots := 0, locals := 86 }) [.ref (r 0), .int (iI 5)] ([(r 0, .inr (4, [.ref (qn 0), .ref (qt 0), .ref (r 1), .int (iI sc), .int (iI ((ns : Int))), .ref (r 2)])), (r 1, aS g 4 (fun j => some (qv j 0))), (r 2, .inr (3, [.ref (r 3), .int (iI ((tn : Int))), .int (iI pl)])), (r 3, aI g 60 tx)] ++ (wSt g qn kn ++ (wSt g qt kt ++ (wS4 g qv kv)))) (PE (some (.int (iI (passF kn)))) (wTp g r qn qt qv kn kt kv sc ns tx tn pl)) := by
  refine CT.intro (L0 := [(0, .ref (r 0)), (1, .int (iI 5))]) (own := RX4) (by decide) rfl (Nat.le_of_ble_eq_true rfl) rfl ?_
  intro pX eX sX mX argsX belowX methX cX A C hr hlk
  obtain ⟨⟨hk, hh0⟩, hkv, hsc, hns, htn, htx⟩ := id hT
  obtain ⟨hP, hE0, hF, hrow0, hwt, hht, hlen, hlat, hkept⟩ := id hk
  have hE : -10 ≤ kn 0 3 ∧ kn 0 3 ≤ 10 := by omega
  have hrow : ∀ i : Nat, (i : Int) < kn 0 2 → 0 ≤ kn 1 i ∧ kn 1 i ≤ 4 := fun i hi => by have := hrow0 i hi; omega
  have hc2 : cpS kn kt 0 2 = kn 0 2 := rfl
  have hhnd : 0 ≤ hnd kn ∧ hnd kn ≤ 300000 := ⟨hh0, hnd_le hk⟩
  refine j_iload_n C 1 dX4_value_0 rfl rfl ?_
  refine j_tswIn (tgt := 105) C (by decide) dX4_value_1 (by decide) rfl (by decide) ?_
  refine j_aload_n C 0 dX4_value_105 rfl rfl ?_
  refine j_get C ck4 0 0 (by decide) qw130 rfl rfl dX4_value_106 ?_
  refine j_getN C ck2 4 0 (by decide) qn90 rfl rfl dX4_value_109 ?_
  refine j_callV (As := []) (rest := []) C yv_X1_passes qw450 (c_X1_passes l g (qn 1) (qn 2) (kn 0 2) (kn 0 3) (kn 0 1)  hE) (by decide) 5 rfl rfl rfl dX4_value_112 rfl (Nat.le_of_ble_eq_true rfl) (by decide) (pf1 [(r 0, .inr (4, [.ref (qn 0), .ref (qt 0), .ref (r 1), .int (iI sc), .int (iI ((ns : Int))), .ref (r 2)])), (r 1, aS g 4 (fun j => some (qv j 0))), (r 2, .inr (3, [.ref (r 3), .int (iI ((tn : Int))), .int (iI pl)])), (r 3, aI g 60 tx), (qn 0, .inr (2, [.ref (qn 1), .ref (qn 3), .ref (qn 5), .ref (qn 6), .ref (qn 7), .int (iI (kn 0 0))]))] ([(qn 2, aI g 10 (kn 1)), (qn 3, .inr (0, [.ref (qn 4), .int (iI (kn 0 9)), .int (iI (kn 0 6)), .int (iI (kn 0 4)), .int (iI (kn 0 5)), .long (lI (kn 0 7)), .long (lI (kn 0 8))])), (qn 4, aI g 48 (kn 2)), (qn 5, aI g 4 (kn 3)), (qn 6, aI g 4 (kn 4)), (qn 7, aI g 4 (kn 5))] ++ (wSt g qt kt ++ (wS4 g qv kv)))) rfl (fun r9 w9 hq9 => ?_)
  obtain ⟨rfl, rfl⟩ := hq9
  refine J.to (L1 := [(0, .ref (r 0)), (1, .int (iI 5))]) (S1 := [.int (iI (passF kn))]) (ws1 := ([(r 0, .inr (4, [.ref (qn 0), .ref (qt 0), .ref (r 1), .int (iI sc), .int (iI ((ns : Int))), .ref (r 2)])), (r 1, aS g 4 (fun j => some (qv j 0))), (r 2, .inr (3, [.ref (r 3), .int (iI ((tn : Int))), .int (iI pl)])), (r 3, aI g 60 tx)] ++ (wSt g qn kn ++ (wSt g qt kt ++ (wS4 g qv kv))))) rfl rfl rfl ?_
  have hp9 := passF_rng hk
  exact j_iret C hr hlk dX4_value_115 ⟨rfl, rfl⟩ (by decide) (by decide)

theorem c_X4_value_6 (l : Launch) (g : Gh) (r : Nat → Nat) (qn qt : Nat → Nat) (qv : Nat → Nat → Nat) (kn kt : Nat → Nat → Int) (kv : Nat → Nat → Nat → Int) (sc : Int) (ns : Nat) (tx : Nat → Int) (tn : Nat) (pl : Int) (hT : TOK kn kv sc ns tx tn)  : CT l g yX4_value cX4_value 2 (some FieldType.int) ({ frames := 4, cells := 0, slots := 0, locals := 86 }) [.ref (r 0), .int (iI 6)] ([(r 0, .inr (4, [.ref (qn 0), .ref (qt 0), .ref (r 1), .int (iI sc), .int (iI ((ns : Int))), .ref (r 2)])), (r 1, aS g 4 (fun j => some (qv j 0))), (r 2, .inr (3, [.ref (r 3), .int (iI ((tn : Int))), .int (iI pl)])), (r 3, aI g 60 tx)] ++ (wSt g qn kn ++ (wSt g qt kt ++ (wS4 g qv kv)))) (PE (some (.int (iI (hng (kn 1) (kn 0 2).toNat (kn 0 3) (kn 4) 4)))) (wTp g r qn qt qv kn kt kv sc ns tx tn pl)) := by
  refine CT.intro (L0 := [(0, .ref (r 0)), (1, .int (iI 6))]) (own := RX4) (by decide) rfl (Nat.le_of_ble_eq_true rfl) rfl ?_
  intro pX eX sX mX argsX belowX methX cX A C hr hlk
  obtain ⟨⟨hk, hh0⟩, hkv, hsc, hns, htn, htx⟩ := id hT
  obtain ⟨hP, hE0, hF, hrow0, hwt, hht, hlen, hlat, hkept⟩ := id hk
  have hE : -10 ≤ kn 0 3 ∧ kn 0 3 ≤ 10 := by omega
  have hrow : ∀ i : Nat, (i : Int) < kn 0 2 → 0 ≤ kn 1 i ∧ kn 1 i ≤ 4 := fun i hi => by have := hrow0 i hi; omega
  have hc2 : cpS kn kt 0 2 = kn 0 2 := rfl
  have hhnd : 0 ≤ hnd kn ∧ hnd kn ≤ 300000 := ⟨hh0, hnd_le hk⟩
  refine j_iload_n C 1 dX4_value_0 rfl rfl ?_
  refine j_tswIn (tgt := 116) C (by decide) dX4_value_1 (by decide) rfl (by decide) ?_
  refine j_aload_n C 0 dX4_value_116 rfl rfl ?_
  refine j_get C ck4 0 0 (by decide) qw130 rfl rfl dX4_value_117 ?_
  refine j_callV (As := []) (rest := []) C yv_X2_inStrands qw454 (c_X2_inStrands l g qn kn  hk) (by decide) 4 rfl rfl rfl dX4_value_120 rfl (Nat.le_of_ble_eq_true rfl) (by decide) (pf1 [(r 0, .inr (4, [.ref (qn 0), .ref (qt 0), .ref (r 1), .int (iI sc), .int (iI ((ns : Int))), .ref (r 2)])), (r 1, aS g 4 (fun j => some (qv j 0))), (r 2, .inr (3, [.ref (r 3), .int (iI ((tn : Int))), .int (iI pl)])), (r 3, aI g 60 tx)] (wSt g qt kt ++ (wS4 g qv kv))) rfl (fun r9 w9 hq9 => ?_)
  obtain ⟨rfl, rfl⟩ := hq9
  refine J.to (L1 := [(0, .ref (r 0)), (1, .int (iI 6))]) (S1 := [.int (iI (hng (kn 1) (kn 0 2).toNat (kn 0 3) (kn 4) 4))]) (ws1 := ([(r 0, .inr (4, [.ref (qn 0), .ref (qt 0), .ref (r 1), .int (iI sc), .int (iI ((ns : Int))), .ref (r 2)])), (r 1, aS g 4 (fun j => some (qv j 0))), (r 2, .inr (3, [.ref (r 3), .int (iI ((tn : Int))), .int (iI pl)])), (r 3, aI g 60 tx)] ++ (wSt g qn kn ++ (wSt g qt kt ++ (wS4 g qv kv))))) rfl rfl rfl ?_
  exact j_iret C hr hlk dX4_value_123 ⟨rfl, rfl⟩ (by decide) (by decide)

theorem c_X4_value_7 (l : Launch) (g : Gh) (r : Nat → Nat) (qn qt : Nat → Nat) (qv : Nat → Nat → Nat) (kn kt : Nat → Nat → Int) (kv : Nat → Nat → Nat → Int) (sc : Int) (ns : Nat) (tx : Nat → Int) (tn : Nat) (pl : Int) (hT : TOK kn kv sc ns tx tn)  : CT l g yX4_value cX4_value 2 (some FieldType.int) ({ frames := 4, cells := 0, slots := 0, locals := 86 }) [.ref (r 0), .int (iI 7)] ([(r 0, .inr (4, [.ref (qn 0), .ref (qt 0), .ref (r 1), .int (iI sc), .int (iI ((ns : Int))), .ref (r 2)])), (r 1, aS g 4 (fun j => some (qv j 0))), (r 2, .inr (3, [.ref (r 3), .int (iI ((tn : Int))), .int (iI pl)])), (r 3, aI g 60 tx)] ++ (wSt g qn kn ++ (wSt g qt kt ++ (wS4 g qv kv)))) (PE (some (.int (iI (kn 0 4)))) (wTp g r qn qt qv kn kt kv sc ns tx tn pl)) := by
  refine CT.intro (L0 := [(0, .ref (r 0)), (1, .int (iI 7))]) (own := RX4) (by decide) rfl (Nat.le_of_ble_eq_true rfl) rfl ?_
  intro pX eX sX mX argsX belowX methX cX A C hr hlk
  obtain ⟨⟨hk, hh0⟩, hkv, hsc, hns, htn, htx⟩ := id hT
  obtain ⟨hP, hE0, hF, hrow0, hwt, hht, hlen, hlat, hkept⟩ := id hk
  have hE : -10 ≤ kn 0 3 ∧ kn 0 3 ≤ 10 := by omega
  have hrow : ∀ i : Nat, (i : Int) < kn 0 2 → 0 ≤ kn 1 i ∧ kn 1 i ≤ 4 := fun i hi => by have := hrow0 i hi; omega
  have hc2 : cpS kn kt 0 2 = kn 0 2 := rfl
  have hhnd : 0 ≤ hnd kn ∧ hnd kn ≤ 300000 := ⟨hh0, hnd_le hk⟩
  refine j_iload_n C 1 dX4_value_0 rfl rfl ?_
  refine j_tswIn (tgt := 124) C (by decide) dX4_value_1 (by decide) rfl (by decide) ?_
  refine j_aload_n C 0 dX4_value_124 rfl rfl ?_
  refine j_get C ck4 0 0 (by decide) qw130 rfl rfl dX4_value_125 ?_
  refine j_getN C ck2 4 1 (by decide) qn92 rfl rfl dX4_value_128 ?_
  refine j_getN C ck0 7 3 (by decide) qn63 rfl rfl dX4_value_131 ?_
  exact j_iret C hr hlk dX4_value_134 ⟨rfl, rfl⟩ (by decide) (by decide)

theorem c_X4_value_8 (l : Launch) (g : Gh) (r : Nat → Nat) (qn qt : Nat → Nat) (qv : Nat → Nat → Nat) (kn kt : Nat → Nat → Int) (kv : Nat → Nat → Nat → Int) (sc : Int) (ns : Nat) (tx : Nat → Int) (tn : Nat) (pl : Int) (hT : TOK kn kv sc ns tx tn)  : CT l g yX4_value cX4_value 2 (some FieldType.int) ({ frames := 4, cells := 0, slots := 0, locals := 86 }) [.ref (r 0), .int (iI 8)] ([(r 0, .inr (4, [.ref (qn 0), .ref (qt 0), .ref (r 1), .int (iI sc), .int (iI ((ns : Int))), .ref (r 2)])), (r 1, aS g 4 (fun j => some (qv j 0))), (r 2, .inr (3, [.ref (r 3), .int (iI ((tn : Int))), .int (iI pl)])), (r 3, aI g 60 tx)] ++ (wSt g qn kn ++ (wSt g qt kt ++ (wS4 g qv kv)))) (PE (some (.int (iI (kn 0 5)))) (wTp g r qn qt qv kn kt kv sc ns tx tn pl)) := by
  refine CT.intro (L0 := [(0, .ref (r 0)), (1, .int (iI 8))]) (own := RX4) (by decide) rfl (Nat.le_of_ble_eq_true rfl) rfl ?_
  intro pX eX sX mX argsX belowX methX cX A C hr hlk
  obtain ⟨⟨hk, hh0⟩, hkv, hsc, hns, htn, htx⟩ := id hT
  obtain ⟨hP, hE0, hF, hrow0, hwt, hht, hlen, hlat, hkept⟩ := id hk
  have hE : -10 ≤ kn 0 3 ∧ kn 0 3 ≤ 10 := by omega
  have hrow : ∀ i : Nat, (i : Int) < kn 0 2 → 0 ≤ kn 1 i ∧ kn 1 i ≤ 4 := fun i hi => by have := hrow0 i hi; omega
  have hc2 : cpS kn kt 0 2 = kn 0 2 := rfl
  have hhnd : 0 ≤ hnd kn ∧ hnd kn ≤ 300000 := ⟨hh0, hnd_le hk⟩
  refine j_iload_n C 1 dX4_value_0 rfl rfl ?_
  refine j_tswIn (tgt := 135) C (by decide) dX4_value_1 (by decide) rfl (by decide) ?_
  refine j_aload_n C 0 dX4_value_135 rfl rfl ?_
  refine j_get C ck4 0 0 (by decide) qw130 rfl rfl dX4_value_136 ?_
  refine j_getN C ck2 4 1 (by decide) qn92 rfl rfl dX4_value_139 ?_
  refine j_getN C ck0 7 4 (by decide) qn65 rfl rfl dX4_value_142 ?_
  exact j_iret C hr hlk dX4_value_145 ⟨rfl, rfl⟩ (by decide) (by decide)

theorem c_X4_value_9 (l : Launch) (g : Gh) (r : Nat → Nat) (qn qt : Nat → Nat) (qv : Nat → Nat → Nat) (kn kt : Nat → Nat → Int) (kv : Nat → Nat → Nat → Int) (sc : Int) (ns : Nat) (tx : Nat → Int) (tn : Nat) (pl : Int) (hT : TOK kn kv sc ns tx tn)  : CT l g yX4_value cX4_value 2 (some FieldType.int) ({ frames := 4, cells := 0, slots := 0, locals := 86 }) [.ref (r 0), .int (iI 9)] ([(r 0, .inr (4, [.ref (qn 0), .ref (qt 0), .ref (r 1), .int (iI sc), .int (iI ((ns : Int))), .ref (r 2)])), (r 1, aS g 4 (fun j => some (qv j 0))), (r 2, .inr (3, [.ref (r 3), .int (iI ((tn : Int))), .int (iI pl)])), (r 3, aI g 60 tx)] ++ (wSt g qn kn ++ (wSt g qt kt ++ (wS4 g qv kv)))) (PE (some (.int (iI (kn 0 6)))) (wTp g r qn qt qv kn kt kv sc ns tx tn pl)) := by
  refine CT.intro (L0 := [(0, .ref (r 0)), (1, .int (iI 9))]) (own := RX4) (by decide) rfl (Nat.le_of_ble_eq_true rfl) rfl ?_
  intro pX eX sX mX argsX belowX methX cX A C hr hlk
  obtain ⟨⟨hk, hh0⟩, hkv, hsc, hns, htn, htx⟩ := id hT
  obtain ⟨hP, hE0, hF, hrow0, hwt, hht, hlen, hlat, hkept⟩ := id hk
  have hE : -10 ≤ kn 0 3 ∧ kn 0 3 ≤ 10 := by omega
  have hrow : ∀ i : Nat, (i : Int) < kn 0 2 → 0 ≤ kn 1 i ∧ kn 1 i ≤ 4 := fun i hi => by have := hrow0 i hi; omega
  have hc2 : cpS kn kt 0 2 = kn 0 2 := rfl
  have hhnd : 0 ≤ hnd kn ∧ hnd kn ≤ 300000 := ⟨hh0, hnd_le hk⟩
  refine j_iload_n C 1 dX4_value_0 rfl rfl ?_
  refine j_tswIn (tgt := 146) C (by decide) dX4_value_1 (by decide) rfl (by decide) ?_
  refine j_aload_n C 0 dX4_value_146 rfl rfl ?_
  refine j_get C ck4 0 0 (by decide) qw130 rfl rfl dX4_value_147 ?_
  refine j_getN C ck2 4 1 (by decide) qn92 rfl rfl dX4_value_150 ?_
  refine j_getN C ck0 7 2 (by decide) qn61 rfl rfl dX4_value_153 ?_
  exact j_iret C hr hlk dX4_value_156 ⟨rfl, rfl⟩ (by decide) (by decide)

theorem c_X4_value (l : Launch) (g : Gh) (r : Nat → Nat) (qn qt : Nat → Nat) (qv : Nat → Nat → Nat) (kn kt : Nat → Nat → Int) (kv : Nat → Nat → Nat → Int) (sc : Int) (ns : Nat) (tx : Nat → Int) (tn : Nat) (pl : Int) (w : Int) (hT : TOK kn kv sc ns tx tn) (hw : 0 ≤ w ∧ w ≤ 9) : CT l g yX4_value cX4_value 2 (some FieldType.int) ({ frames := 4, cells := 0, slots := 0, locals := 86 }) [.ref (r 0), .int (iI w)] (wTp g r qn qt qv kn kt kv sc ns tx tn pl) (PE (some (.int (iI (valF kn w)))) (wTp g r qn qt qv kn kt kv sc ns tx tn pl)) := by
  rcases (by omega : w = 0 ∨ w = 1 ∨ w = 2 ∨ w = 3 ∨ w = 4 ∨ w = 5 ∨ w = 6 ∨ w = 7 ∨ w = 8 ∨ w = 9) with rfl | rfl | rfl | rfl | rfl | rfl | rfl | rfl | rfl | rfl
  · exact c_X4_value_0 l g r qn qt qv kn kt kv sc ns tx tn pl hT
  · exact c_X4_value_1 l g r qn qt qv kn kt kv sc ns tx tn pl hT
  · exact c_X4_value_2 l g r qn qt qv kn kt kv sc ns tx tn pl hT
  · exact c_X4_value_3 l g r qn qt qv kn kt kv sc ns tx tn pl hT
  · exact c_X4_value_4 l g r qn qt qv kn kt kv sc ns tx tn pl hT
  · exact c_X4_value_5 l g r qn qt qv kn kt kv sc ns tx tn pl hT
  · exact c_X4_value_6 l g r qn qt qv kn kt kv sc ns tx tn pl hT
  · exact c_X4_value_7 l g r qn qt qv kn kt kv sc ns tx tn pl hT
  · exact c_X4_value_8 l g r qn qt qv kn kt kv sc ns tx tn pl hT
  · exact c_X4_value_9 l g r qn qt qv kn kt kv sc ns tx tn pl hT
theorem x_X4_value_1 (l : Launch) (hl : l.stackTraces = false) (g : Gh) (r : Nat → Nat) (qn qt : Nat → Nat) (qv : Nat → Nat → Nat) (kn kt : Nat → Nat → Int) (kv : Nat → Nat → Nat → Int) (sc : Int) (ns : Nat) (tx : Nat → Int) (tn : Nat) (pl : Int) (w : Int) (hT : TOK kn kv sc ns tx tn) (hrw : -2147483648 ≤ w ∧ w < 2147483648) (hw : w < 0 ∨ 9 < w) : CX l g yX4_value cX4_value 2 (some FieldType.int) ({ frames := 6, cells := 1, slots := 6, locals := 100 }) [.ref (r 0), .int (iI w)] ([(r 0, .inr (4, [.ref (qn 0), .ref (qt 0), .ref (r 1), .int (iI sc), .int (iI ((ns : Int))), .ref (r 2)])), (r 1, aS g 4 (fun j => some (qv j 0))), (r 2, .inr (3, [.ref (r 3), .int (iI ((tn : Int))), .int (iI pl)])), (r 3, aI g 60 tx)] ++ (wSt g qn kn ++ (wSt g qt kt ++ (wS4 g qv kv)))) "java/lang/IllegalArgumentException" (fun w9 => w9 = wTp g r qn qt qv kn kt kv sc ns tx tn pl) := by
  refine CX.intro (L0 := [(0, .ref (r 0)), (1, .int (iI w))]) (own := RX4) (by decide) rfl (Nat.le_of_ble_eq_true rfl) rfl ?_
  intro pX eX sX mX argsX belowX methX cX A C hlk hnt
  obtain ⟨⟨hk, hh0⟩, hkv, hsc, hns, htn, htx⟩ := id hT
  obtain ⟨hP, hE0, hF, hrow0, hwt, hht, hlen, hlat, hkept⟩ := id hk
  have hE : -10 ≤ kn 0 3 ∧ kn 0 3 ≤ 10 := by omega
  have hrow : ∀ i : Nat, (i : Int) < kn 0 2 → 0 ≤ kn 1 i ∧ kn 1 i ≤ 4 := fun i hi => by have := hrow0 i hi; omega
  have hc2 : cpS kn kt 0 2 = kn 0 2 := rfl
  have hhnd : 0 ≤ hnd kn ∧ hnd kn ≤ 300000 := ⟨hh0, hnd_le hk⟩
  refine j_iload_n C 1 dX4_value_0 rfl rfl ?_
  refine j_tswOut (tgt := 157) C (by omega) dX4_value_1 (by omega) (by decide) ?_
  exact j_throw C hl hlk hnt exw_IllegalArgumentException qw244 qw11 (by decide +kernel) (List.mem_of_getElem? (i := 0) rfl) dX4_value_157 dX4_value_160 dX4_value_161 dX4_value_163 dX4_value_166 ⟨by decide, Nat.le_of_ble_eq_true rfl⟩ ⟨by decide, by decide⟩ rfl ⟨by decide, by decide⟩

theorem c_X4_work (l : Launch) (g : Gh) (r : Nat → Nat) (qn qt : Nat → Nat) (qv : Nat → Nat → Nat) (kn kt : Nat → Nat → Int) (kv : Nat → Nat → Nat → Int) (sc : Int) (ns : Nat) (tx : Nat → Int) (tn : Nat) (pl : Int) (h : Bool) (hT : TOK kn kv sc ns tx tn)  : CT l g yX4_work cX4_work 2 (some FieldType.long) ({ frames := 0, cells := 0, slots := 0, locals := 0 }) [.ref (r 0), .int (iI (b2i h))] ([(r 0, .inr (4, [.ref (qn 0), .ref (qt 0), .ref (r 1), .int (iI sc), .int (iI ((ns : Int))), .ref (r 2)])), (r 1, aS g 4 (fun j => some (qv j 0))), (r 2, .inr (3, [.ref (r 3), .int (iI ((tn : Int))), .int (iI pl)])), (r 3, aI g 60 tx)] ++ (wSt g qn kn ++ (wSt g qt kt ++ (wS4 g qv kv)))) (PE (some (.long (lI (if h then kn 0 8 else kn 0 7)))) (wTp g r qn qt qv kn kt kv sc ns tx tn pl)) := by
  refine CT.intro (L0 := [(0, .ref (r 0)), (1, .int (iI (b2i h)))]) (own := RX4) (by decide) rfl (Nat.le_of_ble_eq_true rfl) rfl ?_
  intro pX eX sX mX argsX belowX methX cX A C hr hlk
  obtain ⟨⟨hk, hh0⟩, hkv, hsc, hns, htn, htx⟩ := id hT
  obtain ⟨hP, hE0, hF, hrow0, hwt, hht, hlen, hlat, hkept⟩ := id hk
  have hE : -10 ≤ kn 0 3 ∧ kn 0 3 ≤ 10 := by omega
  have hrow : ∀ i : Nat, (i : Int) < kn 0 2 → 0 ≤ kn 1 i ∧ kn 1 i ≤ 4 := fun i hi => by have := hrow0 i hi; omega
  have hc2 : cpS kn kt 0 2 = kn 0 2 := rfl
  have hhnd : 0 ≤ hnd kn ∧ hnd kn ≤ 300000 := ⟨hh0, hnd_le hk⟩
  have hh9 := b2i_rng h
  refine j_iload_n C 1 dX4_work_0 rfl rfl ?_
  refine j_if_eq (tgt := 17) C (by omega) dX4_work_1 (by decide) (fun c1 => ?_) (fun c1 => ?_)
  · refine j_aload_n C 0 dX4_work_17 rfl rfl ?_
    refine j_get C ck4 0 0 (by decide) qw130 rfl rfl dX4_work_18 ?_
    refine j_getN C ck2 4 1 (by decide) qn92 rfl rfl dX4_work_21 ?_
    refine j_getN C ck0 7 5 (by decide) qn68 rfl rfl dX4_work_24 ?_
    exact j_lret C hr hlk dX4_work_27 ⟨by rw [b2i_0 c1]; rfl, rfl⟩ (by decide) (by decide)
  · refine j_aload_n C 0 dX4_work_4 rfl rfl ?_
    refine j_get C ck4 0 0 (by decide) qw130 rfl rfl dX4_work_5 ?_
    refine j_getN C ck2 4 1 (by decide) qn92 rfl rfl dX4_work_8 ?_
    refine j_getN C ck0 7 6 (by decide) qn70 rfl rfl dX4_work_11 ?_
    refine j_goto (tgt := 27) C dX4_work_14 (by decide) ?_
    exact j_lret C hr hlk dX4_work_27 ⟨by rw [b2i_1 c1]; rfl, rfl⟩ (by decide) (by decide)

theorem c_X4_entry (l : Launch) (g : Gh) (r : Nat → Nat) (qn qt : Nat → Nat) (qv : Nat → Nat → Nat) (kn kt : Nat → Nat → Int) (kv : Nat → Nat → Nat → Int) (sc : Int) (ns : Nat) (tx : Nat → Int) (tn : Nat) (pl : Int) (x w : Int) (hT : TOK kn kv sc ns tx tn) (hi : 0 ≤ x ∧ x < kn 0 6) (hw : 0 ≤ w ∧ w ≤ 2) : CT l g yX4_entry cX4_entry 3 (some FieldType.int) ({ frames := 2, cells := 0, slots := 0, locals := 44 }) [.ref (r 0), .int (iI x), .int (iI w)] ([(r 0, .inr (4, [.ref (qn 0), .ref (qt 0), .ref (r 1), .int (iI sc), .int (iI ((ns : Int))), .ref (r 2)])), (r 1, aS g 4 (fun j => some (qv j 0))), (r 2, .inr (3, [.ref (r 3), .int (iI ((tn : Int))), .int (iI pl)])), (r 3, aI g 60 tx)] ++ (wSt g qn kn ++ (wSt g qt kt ++ (wS4 g qv kv)))) (PE (some (.int (iI (kn 2 ((kn 0 9 - x) % 16 * 3 + w).toNat)))) (wTp g r qn qt qv kn kt kv sc ns tx tn pl)) := by
  refine CT.intro (L0 := [(0, .ref (r 0)), (1, .int (iI x)), (2, .int (iI w))]) (own := RX4) (by decide) rfl (Nat.le_of_ble_eq_true rfl) rfl ?_
  intro pX eX sX mX argsX belowX methX cX A C hr hlk
  obtain ⟨⟨hk, hh0⟩, hkv, hsc, hns, htn, htx⟩ := id hT
  obtain ⟨hP, hE0, hF, hrow0, hwt, hht, hlen, hlat, hkept⟩ := id hk
  have hE : -10 ≤ kn 0 3 ∧ kn 0 3 ≤ 10 := by omega
  have hrow : ∀ i : Nat, (i : Int) < kn 0 2 → 0 ≤ kn 1 i ∧ kn 1 i ≤ 4 := fun i hi => by have := hrow0 i hi; omega
  have hc2 : cpS kn kt 0 2 = kn 0 2 := rfl
  have hhnd : 0 ≤ hnd kn ∧ hnd kn ≤ 300000 := ⟨hh0, hnd_le hk⟩
  refine j_iload_n C 1 dX4_entry_0 rfl rfl ?_
  refine j_if_lt (tgt := 18) C (by omega) dX4_entry_1 (by decide) (fun c1 => absurd c1 (by omega)) (fun c1 => ?_)
  refine j_iload_n C 1 dX4_entry_4 rfl rfl ?_
  refine j_aload_n C 0 dX4_entry_5 rfl rfl ?_
  refine j_get C ck4 0 0 (by decide) qw130 rfl rfl dX4_entry_6 ?_
  refine j_getN C ck2 4 1 (by decide) qn92 rfl rfl dX4_entry_9 ?_
  refine j_getN C ck0 7 2 (by decide) qn61 rfl rfl dX4_entry_12 ?_
  refine j_icmp_lt (tgt := 28) C (by omega) (by omega) dX4_entry_15 (by decide) (fun c15 => ?_) (fun c15 => absurd c15 (by omega))
  refine j_iload_n C 2 dX4_entry_28 rfl rfl ?_
  refine j_iconst C dX4_entry_29 ?_
  refine j_iconst C dX4_entry_30 ?_
  refine j_callS (As := [.int (iI w), .int (iI 0), .int (iI 2)]) (rest := []) C ys_X4_checkRange qw241 (c_X4_checkRange l g w 0 2 (by omega) (by omega) (by omega) (by omega)) (by decide) rfl dX4_entry_31 rfl (Nat.le_of_ble_eq_true rfl) (by decide) (pf1 [] ([(r 0, .inr (4, [.ref (qn 0), .ref (qt 0), .ref (r 1), .int (iI sc), .int (iI ((ns : Int))), .ref (r 2)])), (r 1, aS g 4 (fun j => some (qv j 0))), (r 2, .inr (3, [.ref (r 3), .int (iI ((tn : Int))), .int (iI pl)])), (r 3, aI g 60 tx)] ++ (wSt g qn kn ++ (wSt g qt kt ++ (wS4 g qv kv))))) rfl (fun r9 w9 hq9 => ?_)
  obtain ⟨rfl, rfl⟩ := hq9
  refine J.to (L1 := [(0, .ref (r 0)), (1, .int (iI x)), (2, .int (iI w))]) (S1 := []) (ws1 := ([(r 0, .inr (4, [.ref (qn 0), .ref (qt 0), .ref (r 1), .int (iI sc), .int (iI ((ns : Int))), .ref (r 2)])), (r 1, aS g 4 (fun j => some (qv j 0))), (r 2, .inr (3, [.ref (r 3), .int (iI ((tn : Int))), .int (iI pl)])), (r 3, aI g 60 tx)] ++ (wSt g qn kn ++ (wSt g qt kt ++ (wS4 g qv kv))))) rfl rfl rfl ?_
  refine j_aload_n C 0 dX4_entry_34 rfl rfl ?_
  refine j_get C ck4 0 0 (by decide) qw130 rfl rfl dX4_entry_35 ?_
  refine j_getN C ck2 4 1 (by decide) qn92 rfl rfl dX4_entry_38 ?_
  refine j_iload_n C 1 dX4_entry_41 rfl rfl ?_
  refine j_iload_n C 2 dX4_entry_42 rfl rfl ?_
  refine j_callV (As := [.int (iI x), .int (iI w)]) (rest := []) C yv_X0_part qw489 (c_X0_part l g (qn 3) (qn 4) (kn 2) (kn 0 9) (kn 0 6) (kn 0 4) (kn 0 5) (kn 0 7) (kn 0 8) x w (by omega) (by omega) (by omega)) (by decide) 7 rfl rfl rfl dX4_entry_43 rfl (Nat.le_of_ble_eq_true rfl) (by decide) (pf1 [(r 0, .inr (4, [.ref (qn 0), .ref (qt 0), .ref (r 1), .int (iI sc), .int (iI ((ns : Int))), .ref (r 2)])), (r 1, aS g 4 (fun j => some (qv j 0))), (r 2, .inr (3, [.ref (r 3), .int (iI ((tn : Int))), .int (iI pl)])), (r 3, aI g 60 tx), (qn 0, .inr (2, [.ref (qn 1), .ref (qn 3), .ref (qn 5), .ref (qn 6), .ref (qn 7), .int (iI (kn 0 0))])), (qn 1, .inr (1, [.ref (qn 2), .int (iI (kn 0 2)), .int (iI (kn 0 3)), .int (iI (kn 0 1))])), (qn 2, aI g 10 (kn 1))] ([(qn 5, aI g 4 (kn 3)), (qn 6, aI g 4 (kn 4)), (qn 7, aI g 4 (kn 5))] ++ (wSt g qt kt ++ (wS4 g qv kv)))) rfl (fun r9 w9 hq9 => ?_)
  obtain ⟨rfl, rfl⟩ := hq9
  refine J.to (L1 := [(0, .ref (r 0)), (1, .int (iI x)), (2, .int (iI w))]) (S1 := [.int (iI ((kn 2) ((kn 0 9 - x) % 16 * 3 + w).toNat))]) (ws1 := ([(r 0, .inr (4, [.ref (qn 0), .ref (qt 0), .ref (r 1), .int (iI sc), .int (iI ((ns : Int))), .ref (r 2)])), (r 1, aS g 4 (fun j => some (qv j 0))), (r 2, .inr (3, [.ref (r 3), .int (iI ((tn : Int))), .int (iI pl)])), (r 3, aI g 60 tx)] ++ (wSt g qn kn ++ (wSt g qt kt ++ (wS4 g qv kv))))) rfl rfl rfl ?_
  exact j_iret C hr hlk dX4_entry_46 ⟨rfl, rfl⟩ (by decide) (by decide)

theorem x_X4_entry_1 (l : Launch) (hl : l.stackTraces = false) (g : Gh) (r : Nat → Nat) (qn qt : Nat → Nat) (qv : Nat → Nat → Nat) (kn kt : Nat → Nat → Int) (kv : Nat → Nat → Nat → Int) (sc : Int) (ns : Nat) (tx : Nat → Int) (tn : Nat) (pl : Int) (x w : Int) (hT : TOK kn kv sc ns tx tn) (hrx : -2147483648 ≤ x ∧ x < 2147483648) (hrw : -2147483648 ≤ w ∧ w < 2147483648) (hi : x < 0 ∨ kn 0 6 ≤ x) : CX l g yX4_entry cX4_entry 3 (some FieldType.int) ({ frames := 7, cells := 1, slots := 6, locals := 122 }) [.ref (r 0), .int (iI x), .int (iI w)] ([(r 0, .inr (4, [.ref (qn 0), .ref (qt 0), .ref (r 1), .int (iI sc), .int (iI ((ns : Int))), .ref (r 2)])), (r 1, aS g 4 (fun j => some (qv j 0))), (r 2, .inr (3, [.ref (r 3), .int (iI ((tn : Int))), .int (iI pl)])), (r 3, aI g 60 tx)] ++ (wSt g qn kn ++ (wSt g qt kt ++ (wS4 g qv kv)))) "java/lang/IndexOutOfBoundsException" (fun w9 => w9 = wTp g r qn qt qv kn kt kv sc ns tx tn pl) := by
  refine CX.intro (L0 := [(0, .ref (r 0)), (1, .int (iI x)), (2, .int (iI w))]) (own := RX4) (by decide) rfl (Nat.le_of_ble_eq_true rfl) rfl ?_
  intro pX eX sX mX argsX belowX methX cX A C hlk hnt
  obtain ⟨⟨hk, hh0⟩, hkv, hsc, hns, htn, htx⟩ := id hT
  obtain ⟨hP, hE0, hF, hrow0, hwt, hht, hlen, hlat, hkept⟩ := id hk
  have hE : -10 ≤ kn 0 3 ∧ kn 0 3 ≤ 10 := by omega
  have hrow : ∀ i : Nat, (i : Int) < kn 0 2 → 0 ≤ kn 1 i ∧ kn 1 i ≤ 4 := fun i hi => by have := hrow0 i hi; omega
  have hc2 : cpS kn kt 0 2 = kn 0 2 := rfl
  have hhnd : 0 ≤ hnd kn ∧ hnd kn ≤ 300000 := ⟨hh0, hnd_le hk⟩
  refine j_iload_n C 1 dX4_entry_0 rfl rfl ?_
  refine j_if_lt (tgt := 18) C (by omega) dX4_entry_1 (by decide) (fun c1 => ?_) (fun c1 => ?_)
  · exact j_throw C hl hlk hnt exw_IndexOutOfBoundsException qw172 qw12 (by decide +kernel) (List.mem_of_getElem? (i := 9) rfl) dX4_entry_18 dX4_entry_21 dX4_entry_22 dX4_entry_24 dX4_entry_27 ⟨by decide, Nat.le_of_ble_eq_true rfl⟩ ⟨by decide, by decide⟩ rfl ⟨by decide, by decide⟩
  · refine j_iload_n C 1 dX4_entry_4 rfl rfl ?_
    refine j_aload_n C 0 dX4_entry_5 rfl rfl ?_
    refine j_get C ck4 0 0 (by decide) qw130 rfl rfl dX4_entry_6 ?_
    refine j_getN C ck2 4 1 (by decide) qn92 rfl rfl dX4_entry_9 ?_
    refine j_getN C ck0 7 2 (by decide) qn61 rfl rfl dX4_entry_12 ?_
    refine j_icmp_lt (tgt := 28) C (by omega) (by omega) dX4_entry_15 (by decide) (fun c15 => ?_) (fun c15 => ?_)
    · exact absurd hi (by omega)
    · exact j_throw C hl hlk hnt exw_IndexOutOfBoundsException qw172 qw12 (by decide +kernel) (List.mem_of_getElem? (i := 9) rfl) dX4_entry_18 dX4_entry_21 dX4_entry_22 dX4_entry_24 dX4_entry_27 ⟨by decide, Nat.le_of_ble_eq_true rfl⟩ ⟨by decide, by decide⟩ rfl ⟨by decide, by decide⟩

theorem x_X4_entry_2 (l : Launch) (hl : l.stackTraces = false) (g : Gh) (r : Nat → Nat) (qn qt : Nat → Nat) (qv : Nat → Nat → Nat) (kn kt : Nat → Nat → Int) (kv : Nat → Nat → Nat → Int) (sc : Int) (ns : Nat) (tx : Nat → Int) (tn : Nat) (pl : Int) (x w : Int) (hT : TOK kn kv sc ns tx tn) (hrx : -2147483648 ≤ x ∧ x < 2147483648) (hrw : -2147483648 ≤ w ∧ w < 2147483648) (hi : 0 ≤ x ∧ x < kn 0 6) (hw : w < 0 ∨ 2 < w) : CX l g yX4_entry cX4_entry 3 (some FieldType.int) ({ frames := 7, cells := 1, slots := 6, locals := 122 }) [.ref (r 0), .int (iI x), .int (iI w)] ([(r 0, .inr (4, [.ref (qn 0), .ref (qt 0), .ref (r 1), .int (iI sc), .int (iI ((ns : Int))), .ref (r 2)])), (r 1, aS g 4 (fun j => some (qv j 0))), (r 2, .inr (3, [.ref (r 3), .int (iI ((tn : Int))), .int (iI pl)])), (r 3, aI g 60 tx)] ++ (wSt g qn kn ++ (wSt g qt kt ++ (wS4 g qv kv)))) "java/lang/IllegalArgumentException" (fun w9 => w9 = wTp g r qn qt qv kn kt kv sc ns tx tn pl) := by
  refine CX.intro (L0 := [(0, .ref (r 0)), (1, .int (iI x)), (2, .int (iI w))]) (own := RX4) (by decide) rfl (Nat.le_of_ble_eq_true rfl) rfl ?_
  intro pX eX sX mX argsX belowX methX cX A C hlk hnt
  obtain ⟨⟨hk, hh0⟩, hkv, hsc, hns, htn, htx⟩ := id hT
  obtain ⟨hP, hE0, hF, hrow0, hwt, hht, hlen, hlat, hkept⟩ := id hk
  have hE : -10 ≤ kn 0 3 ∧ kn 0 3 ≤ 10 := by omega
  have hrow : ∀ i : Nat, (i : Int) < kn 0 2 → 0 ≤ kn 1 i ∧ kn 1 i ≤ 4 := fun i hi => by have := hrow0 i hi; omega
  have hc2 : cpS kn kt 0 2 = kn 0 2 := rfl
  have hhnd : 0 ≤ hnd kn ∧ hnd kn ≤ 300000 := ⟨hh0, hnd_le hk⟩
  refine j_iload_n C 1 dX4_entry_0 rfl rfl ?_
  refine j_if_lt (tgt := 18) C (by omega) dX4_entry_1 (by decide) (fun c1 => absurd c1 (by omega)) (fun c1 => ?_)
  refine j_iload_n C 1 dX4_entry_4 rfl rfl ?_
  refine j_aload_n C 0 dX4_entry_5 rfl rfl ?_
  refine j_get C ck4 0 0 (by decide) qw130 rfl rfl dX4_entry_6 ?_
  refine j_getN C ck2 4 1 (by decide) qn92 rfl rfl dX4_entry_9 ?_
  refine j_getN C ck0 7 2 (by decide) qn61 rfl rfl dX4_entry_12 ?_
  refine j_icmp_lt (tgt := 28) C (by omega) (by omega) dX4_entry_15 (by decide) (fun c15 => ?_) (fun c15 => absurd c15 (by omega))
  refine j_iload_n C 2 dX4_entry_28 rfl rfl ?_
  refine j_iconst C dX4_entry_29 ?_
  refine j_iconst C dX4_entry_30 ?_
  exact j_callSX (As := [.int (iI w), .int (iI 0), .int (iI 2)]) (rest := []) C ys_X4_checkRange qw241 (x_X4_checkRange_no l hl g w 0 2 (by omega) (by omega) (by omega) (by omega)) (by decide) rfl dX4_entry_31 rfl (Nat.le_of_ble_eq_true rfl) (by decide) (pf1 [] ([(r 0, .inr (4, [.ref (qn 0), .ref (qt 0), .ref (r 1), .int (iI sc), .int (iI ((ns : Int))), .ref (r 2)])), (r 1, aS g 4 (fun j => some (qv j 0))), (r 2, .inr (3, [.ref (r 3), .int (iI ((tn : Int))), .int (iI pl)])), (r 3, aI g 60 tx)] ++ (wSt g qn kn ++ (wSt g qt kt ++ (wS4 g qv kv))))) rfl hnt hlk ⟨by decide, by decide⟩ (fun w9 h9 => by rw [h9]; rfl)

theorem c_X4_first (l : Launch) (g : Gh) (r : Nat → Nat) (qn qt : Nat → Nat) (qv : Nat → Nat → Nat) (kn kt : Nat → Nat → Int) (kv : Nat → Nat → Nat → Int) (sc : Int) (ns : Nat) (tx : Nat → Int) (tn : Nat) (pl : Int) (hT : TOK kn kv sc ns tx tn)  : CT l g yX4_first cX4_first 1 (some FieldType.int) ({ frames := 5, cells := 0, slots := 0, locals := 126 }) [.ref (r 0)] ([(r 0, .inr (4, [.ref (qn 0), .ref (qt 0), .ref (r 1), .int (iI sc), .int (iI ((ns : Int))), .ref (r 2)])), (r 1, aS g 4 (fun j => some (qv j 0))), (r 2, .inr (3, [.ref (r 3), .int (iI ((tn : Int))), .int (iI pl)])), (r 3, aI g 60 tx)] ++ (wSt g qn kn ++ (wSt g qt kt ++ (wS4 g qv kv)))) (PE (some (.int (iI (nxr (rck kn true 5) (kn 4) 1000000 4)))) (wTp g r qn qt qv (rck kn true) kt kv sc ns tx tn pl)) := by
  refine CT.intro (L0 := [(0, .ref (r 0))]) (own := RX4) (by decide) rfl (Nat.le_of_ble_eq_true rfl) rfl ?_
  intro pX eX sX mX argsX belowX methX cX A C hr hlk
  obtain ⟨⟨hk, hh0⟩, hkv, hsc, hns, htn, htx⟩ := id hT
  obtain ⟨hP, hE0, hF, hrow0, hwt, hht, hlen, hlat, hkept⟩ := id hk
  have hE : -10 ≤ kn 0 3 ∧ kn 0 3 ≤ 10 := by omega
  have hrow : ∀ i : Nat, (i : Int) < kn 0 2 → 0 ≤ kn 1 i ∧ kn 1 i ≤ 4 := fun i hi => by have := hrow0 i hi; omega
  have hc2 : cpS kn kt 0 2 = kn 0 2 := rfl
  have hhnd : 0 ≤ hnd kn ∧ hnd kn ≤ 300000 := ⟨hh0, hnd_le hk⟩
  refine j_aload_n C 0 dX4_first_0 rfl rfl ?_
  refine j_get C ck4 0 0 (by decide) qw130 rfl rfl dX4_first_1 ?_
  refine j_iconst C dX4_first_4 ?_
  refine j_callV (As := [.int (iI 1)]) (rest := []) C yv_X2_reckonForces qw638 (c_X2_reckonForces l g qn kn true hk) (by decide) 4 rfl rfl rfl dX4_first_5 rfl (Nat.le_of_ble_eq_true rfl) (by decide) (pf1 [(r 0, .inr (4, [.ref (qn 0), .ref (qt 0), .ref (r 1), .int (iI sc), .int (iI ((ns : Int))), .ref (r 2)])), (r 1, aS g 4 (fun j => some (qv j 0))), (r 2, .inr (3, [.ref (r 3), .int (iI ((tn : Int))), .int (iI pl)])), (r 3, aI g 60 tx)] (wSt g qt kt ++ (wS4 g qv kv))) rfl (fun r9 w9 hq9 => ?_)
  obtain ⟨rfl, rfl⟩ := hq9
  refine J.to (L1 := [(0, .ref (r 0))]) (S1 := []) (ws1 := ([(r 0, .inr (4, [.ref (qn 0), .ref (qt 0), .ref (r 1), .int (iI sc), .int (iI ((ns : Int))), .ref (r 2)])), (r 1, aS g 4 (fun j => some (qv j 0))), (r 2, .inr (3, [.ref (r 3), .int (iI ((tn : Int))), .int (iI pl)])), (r 3, aI g 60 tx)] ++ (wSt g qn (rck kn true) ++ (wSt g qt kt ++ (wS4 g qv kv))))) rfl rfl rfl ?_
  refine j_aload_n C 0 dX4_first_8 rfl rfl ?_
  refine j_get C ck4 0 0 (by decide) qw130 rfl rfl dX4_first_9 ?_
  refine j_ldc (x := 1000000) C qw375 (by decide) dX4_first_12 ?_
  refine j_callV (As := [.int (iI 1000000)]) (rest := []) C yv_X2_nextToRise qw639 (c_X2_nextToRise l g qn (rck kn true) 1000000 (SOK_rck hk true) (fc_rck kn true) (by decide)) (by decide) 4 rfl rfl rfl dX4_first_14 rfl (Nat.le_of_ble_eq_true rfl) (by decide) (pf1 [(r 0, .inr (4, [.ref (qn 0), .ref (qt 0), .ref (r 1), .int (iI sc), .int (iI ((ns : Int))), .ref (r 2)])), (r 1, aS g 4 (fun j => some (qv j 0))), (r 2, .inr (3, [.ref (r 3), .int (iI ((tn : Int))), .int (iI pl)])), (r 3, aI g 60 tx)] (wSt g qt kt ++ (wS4 g qv kv))) rfl (fun r9 w9 hq9 => ?_)
  obtain ⟨rfl, rfl⟩ := hq9
  refine J.to (L1 := [(0, .ref (r 0))]) (S1 := [.int (iI (nxr ((rck kn true) 5) ((rck kn true) 4) 1000000 4))]) (ws1 := ([(r 0, .inr (4, [.ref (qn 0), .ref (qt 0), .ref (r 1), .int (iI sc), .int (iI ((ns : Int))), .ref (r 2)])), (r 1, aS g 4 (fun j => some (qv j 0))), (r 2, .inr (3, [.ref (r 3), .int (iI ((tn : Int))), .int (iI pl)])), (r 3, aI g 60 tx)] ++ (wSt g qn (rck kn true) ++ (wSt g qt kt ++ (wS4 g qv kv))))) rfl rfl rfl ?_
  exact j_iret C hr hlk dX4_first_17 ⟨rfl, rfl⟩ (by decide) (by decide)

theorem c_X4_append (l : Launch) (g : Gh) (r : Nat → Nat) (qn qt : Nat → Nat) (qv : Nat → Nat → Nat) (kn kt : Nat → Nat → Int) (kv : Nat → Nat → Nat → Int) (sc : Int) (ns : Nat) (tx : Nat → Int) (tn : Nat) (pl : Int) (v : Int) (hT : TOK kn kv sc ns tx tn) (hv : 0 ≤ v ∧ v ≤ 127) (hn9 : tn < 60) : CT l g yX4_append cX4_append 2 (some FieldType.int) ({ frames := 1, cells := 0, slots := 0, locals := 22 }) [.ref (r 0), .int (iI v)] ([(r 0, .inr (4, [.ref (qn 0), .ref (qt 0), .ref (r 1), .int (iI sc), .int (iI ((ns : Int))), .ref (r 2)])), (r 1, aS g 4 (fun j => some (qv j 0))), (r 2, .inr (3, [.ref (r 3), .int (iI ((tn : Int))), .int (iI pl)])), (r 3, aI g 60 tx)] ++ (wSt g qn kn ++ (wSt g qt kt ++ (wS4 g qv kv)))) (PE (some (.int (iI ((tn : Int) + 1)))) (wTp g r qn qt qv kn kt kv sc ns (va_up tx tn v) (tn + 1) pl)) := by
  refine CT.intro (L0 := [(0, .ref (r 0)), (1, .int (iI v))]) (own := RX4) (by decide) rfl (Nat.le_of_ble_eq_true rfl) rfl ?_
  intro pX eX sX mX argsX belowX methX cX A C hr hlk
  obtain ⟨⟨hk, hh0⟩, hkv, hsc, hns, htn, htx⟩ := id hT
  obtain ⟨hP, hE0, hF, hrow0, hwt, hht, hlen, hlat, hkept⟩ := id hk
  have hE : -10 ≤ kn 0 3 ∧ kn 0 3 ≤ 10 := by omega
  have hrow : ∀ i : Nat, (i : Int) < kn 0 2 → 0 ≤ kn 1 i ∧ kn 1 i ≤ 4 := fun i hi => by have := hrow0 i hi; omega
  have hc2 : cpS kn kt 0 2 = kn 0 2 := rfl
  have hhnd : 0 ≤ hnd kn ∧ hnd kn ≤ 300000 := ⟨hh0, hnd_le hk⟩
  refine j_iload_n C 1 dX4_append_0 rfl rfl ?_
  refine j_iconst C dX4_append_1 ?_
  refine j_bipush C dX4_append_2 (by decide) ?_
  refine j_callS (As := [.int (iI v), .int (iI 0), .int (iI 127)]) (rest := []) C ys_X4_checkRange qw241 (c_X4_checkRange l g v 0 127 (by omega) (by omega) (by omega) (by omega)) (by decide) rfl dX4_append_4 rfl (Nat.le_of_ble_eq_true rfl) (by decide) (pf1 [] ([(r 0, .inr (4, [.ref (qn 0), .ref (qt 0), .ref (r 1), .int (iI sc), .int (iI ((ns : Int))), .ref (r 2)])), (r 1, aS g 4 (fun j => some (qv j 0))), (r 2, .inr (3, [.ref (r 3), .int (iI ((tn : Int))), .int (iI pl)])), (r 3, aI g 60 tx)] ++ (wSt g qn kn ++ (wSt g qt kt ++ (wS4 g qv kv))))) rfl (fun r9 w9 hq9 => ?_)
  obtain ⟨rfl, rfl⟩ := hq9
  refine J.to (L1 := [(0, .ref (r 0)), (1, .int (iI v))]) (S1 := []) (ws1 := ([(r 0, .inr (4, [.ref (qn 0), .ref (qt 0), .ref (r 1), .int (iI sc), .int (iI ((ns : Int))), .ref (r 2)])), (r 1, aS g 4 (fun j => some (qv j 0))), (r 2, .inr (3, [.ref (r 3), .int (iI ((tn : Int))), .int (iI pl)])), (r 3, aI g 60 tx)] ++ (wSt g qn kn ++ (wSt g qt kt ++ (wS4 g qv kv))))) rfl rfl rfl ?_
  refine j_aload_n C 0 dX4_append_7 rfl rfl ?_
  refine j_get C ck4 0 5 (by decide) qw135 rfl rfl dX4_append_8 ?_
  refine j_getN C ck3 2 1 (by decide) qn121 rfl rfl dX4_append_11 ?_
  refine j_bipush C dX4_append_14 (by decide) ?_
  refine j_icmp_lt (tgt := 29) C (by omega) (by decide) dX4_append_16 (by decide) (fun c16 => ?_) (fun c16 => absurd c16 (by omega))
  refine j_aload_n C 0 dX4_append_29 rfl rfl ?_
  refine j_get C ck4 0 5 (by decide) qw135 rfl rfl dX4_append_30 ?_
  refine j_getN C ck3 2 0 (by decide) qn119 rfl rfl dX4_append_33 ?_
  refine j_aload_n C 0 dX4_append_36 rfl rfl ?_
  refine j_get C ck4 0 5 (by decide) qw135 rfl rfl dX4_append_37 ?_
  refine j_getN C ck3 2 1 (by decide) qn121 rfl rfl dX4_append_40 ?_
  refine j_iload_n C 1 dX4_append_43 rfl rfl ?_
  refine j_callS (As := [.ref (r 3), .int (iI ((tn : Int))), .int (iI v)]) (rest := []) C ys_X4_put qw563 (c_X4_put l g (r 3) 60 tx ((tn : Int)) tn v (by omega) (by omega) (by decide)) (by decide) rfl dX4_append_44 rfl (Nat.le_of_ble_eq_true rfl) (by decide) (pf1 [(r 0, .inr (4, [.ref (qn 0), .ref (qt 0), .ref (r 1), .int (iI sc), .int (iI ((ns : Int))), .ref (r 2)])), (r 1, aS g 4 (fun j => some (qv j 0))), (r 2, .inr (3, [.ref (r 3), .int (iI ((tn : Int))), .int (iI pl)]))] (wSt g qn kn ++ (wSt g qt kt ++ (wS4 g qv kv)))) rfl (fun r9 w9 hq9 => ?_)
  obtain ⟨rfl, rfl⟩ := hq9
  refine J.to (L1 := [(0, .ref (r 0)), (1, .int (iI v))]) (S1 := []) (ws1 := ([(r 0, .inr (4, [.ref (qn 0), .ref (qt 0), .ref (r 1), .int (iI sc), .int (iI ((ns : Int))), .ref (r 2)])), (r 1, aS g 4 (fun j => some (qv j 0))), (r 2, .inr (3, [.ref (r 3), .int (iI ((tn : Int))), .int (iI pl)])), (r 3, aI g 60 (va_up tx tn v))] ++ (wSt g qn kn ++ (wSt g qt kt ++ (wS4 g qv kv))))) rfl rfl rfl ?_
  refine j_aload_n C 0 dX4_append_47 rfl rfl ?_
  refine j_get C ck4 0 5 (by decide) qw135 rfl rfl dX4_append_48 ?_
  refine j_dup C dX4_append_51 rfl ?_
  refine j_getN C ck3 2 1 (by decide) qn121 rfl rfl dX4_append_52 ?_
  refine j_iconst C dX4_append_55 ?_
  refine j_iadd C dX4_append_56 ?_
  refine j_putN (ws1 := ([(r 0, .inr (4, [.ref (qn 0), .ref (qt 0), .ref (r 1), .int (iI sc), .int (iI ((ns : Int))), .ref (r 2)])), (r 1, aS g 4 (fun j => some (qv j 0))), (r 2, .inr (3, [.ref (r 3), .int (iI (((tn : Int)) + 1)), .int (iI pl)])), (r 3, aI g 60 (va_up tx tn v))] ++ (wSt g qn kn ++ (wSt g qt kt ++ (wS4 g qv kv))))) C ck3 2 1 (by decide) qn121 rfl dX4_append_57 rfl rfl rfl rfl (Nat.le_of_ble_eq_true rfl) ?_
  refine j_aload_n C 0 dX4_append_60 rfl rfl ?_
  refine j_get C ck4 0 5 (by decide) qw135 rfl rfl dX4_append_61 ?_
  refine j_getN C ck3 2 1 (by decide) qn121 rfl rfl dX4_append_64 ?_
  exact j_iret C hr hlk dX4_append_67 ⟨rfl, rfl⟩ (by decide) (by decide)

theorem x_X4_append_1 (l : Launch) (hl : l.stackTraces = false) (g : Gh) (r : Nat → Nat) (qn qt : Nat → Nat) (qv : Nat → Nat → Nat) (kn kt : Nat → Nat → Int) (kv : Nat → Nat → Nat → Int) (sc : Int) (ns : Nat) (tx : Nat → Int) (tn : Nat) (pl : Int) (v : Int) (hT : TOK kn kv sc ns tx tn) (hrv : -2147483648 ≤ v ∧ v < 2147483648) (hv : v < 0 ∨ 127 < v) : CX l g yX4_append cX4_append 2 (some FieldType.int) ({ frames := 7, cells := 1, slots := 6, locals := 122 }) [.ref (r 0), .int (iI v)] ([(r 0, .inr (4, [.ref (qn 0), .ref (qt 0), .ref (r 1), .int (iI sc), .int (iI ((ns : Int))), .ref (r 2)])), (r 1, aS g 4 (fun j => some (qv j 0))), (r 2, .inr (3, [.ref (r 3), .int (iI ((tn : Int))), .int (iI pl)])), (r 3, aI g 60 tx)] ++ (wSt g qn kn ++ (wSt g qt kt ++ (wS4 g qv kv)))) "java/lang/IllegalArgumentException" (fun w9 => w9 = wTp g r qn qt qv kn kt kv sc ns tx tn pl) := by
  refine CX.intro (L0 := [(0, .ref (r 0)), (1, .int (iI v))]) (own := RX4) (by decide) rfl (Nat.le_of_ble_eq_true rfl) rfl ?_
  intro pX eX sX mX argsX belowX methX cX A C hlk hnt
  obtain ⟨⟨hk, hh0⟩, hkv, hsc, hns, htn, htx⟩ := id hT
  obtain ⟨hP, hE0, hF, hrow0, hwt, hht, hlen, hlat, hkept⟩ := id hk
  have hE : -10 ≤ kn 0 3 ∧ kn 0 3 ≤ 10 := by omega
  have hrow : ∀ i : Nat, (i : Int) < kn 0 2 → 0 ≤ kn 1 i ∧ kn 1 i ≤ 4 := fun i hi => by have := hrow0 i hi; omega
  have hc2 : cpS kn kt 0 2 = kn 0 2 := rfl
  have hhnd : 0 ≤ hnd kn ∧ hnd kn ≤ 300000 := ⟨hh0, hnd_le hk⟩
  refine j_iload_n C 1 dX4_append_0 rfl rfl ?_
  refine j_iconst C dX4_append_1 ?_
  refine j_bipush C dX4_append_2 (by decide) ?_
  exact j_callSX (As := [.int (iI v), .int (iI 0), .int (iI 127)]) (rest := []) C ys_X4_checkRange qw241 (x_X4_checkRange_no l hl g v 0 127 (by omega) (by omega) (by omega) (by omega)) (by decide) rfl dX4_append_4 rfl (Nat.le_of_ble_eq_true rfl) (by decide) (pf1 [] ([(r 0, .inr (4, [.ref (qn 0), .ref (qt 0), .ref (r 1), .int (iI sc), .int (iI ((ns : Int))), .ref (r 2)])), (r 1, aS g 4 (fun j => some (qv j 0))), (r 2, .inr (3, [.ref (r 3), .int (iI ((tn : Int))), .int (iI pl)])), (r 3, aI g 60 tx)] ++ (wSt g qn kn ++ (wSt g qt kt ++ (wS4 g qv kv))))) rfl hnt hlk ⟨by decide, by decide⟩ (fun w9 h9 => by rw [h9]; rfl)

theorem x_X4_append_2 (l : Launch) (hl : l.stackTraces = false) (g : Gh) (r : Nat → Nat) (qn qt : Nat → Nat) (qv : Nat → Nat → Nat) (kn kt : Nat → Nat → Int) (kv : Nat → Nat → Nat → Int) (sc : Int) (ns : Nat) (tx : Nat → Int) (tn : Nat) (pl : Int) (v : Int) (hT : TOK kn kv sc ns tx tn) (hv : 0 ≤ v ∧ v ≤ 127) (hn9 : tn = 60) : CX l g yX4_append cX4_append 2 (some FieldType.int) ({ frames := 7, cells := 1, slots := 6, locals := 122 }) [.ref (r 0), .int (iI v)] ([(r 0, .inr (4, [.ref (qn 0), .ref (qt 0), .ref (r 1), .int (iI sc), .int (iI ((ns : Int))), .ref (r 2)])), (r 1, aS g 4 (fun j => some (qv j 0))), (r 2, .inr (3, [.ref (r 3), .int (iI ((tn : Int))), .int (iI pl)])), (r 3, aI g 60 tx)] ++ (wSt g qn kn ++ (wSt g qt kt ++ (wS4 g qv kv)))) "java/lang/IllegalStateException" (fun w9 => w9 = wTp g r qn qt qv kn kt kv sc ns tx tn pl) := by
  refine CX.intro (L0 := [(0, .ref (r 0)), (1, .int (iI v))]) (own := RX4) (by decide) rfl (Nat.le_of_ble_eq_true rfl) rfl ?_
  intro pX eX sX mX argsX belowX methX cX A C hlk hnt
  obtain ⟨⟨hk, hh0⟩, hkv, hsc, hns, htn, htx⟩ := id hT
  obtain ⟨hP, hE0, hF, hrow0, hwt, hht, hlen, hlat, hkept⟩ := id hk
  have hE : -10 ≤ kn 0 3 ∧ kn 0 3 ≤ 10 := by omega
  have hrow : ∀ i : Nat, (i : Int) < kn 0 2 → 0 ≤ kn 1 i ∧ kn 1 i ≤ 4 := fun i hi => by have := hrow0 i hi; omega
  have hc2 : cpS kn kt 0 2 = kn 0 2 := rfl
  have hhnd : 0 ≤ hnd kn ∧ hnd kn ≤ 300000 := ⟨hh0, hnd_le hk⟩
  refine j_iload_n C 1 dX4_append_0 rfl rfl ?_
  refine j_iconst C dX4_append_1 ?_
  refine j_bipush C dX4_append_2 (by decide) ?_
  refine j_callS (As := [.int (iI v), .int (iI 0), .int (iI 127)]) (rest := []) C ys_X4_checkRange qw241 (c_X4_checkRange l g v 0 127 (by omega) (by omega) (by omega) (by omega)) (by decide) rfl dX4_append_4 rfl (Nat.le_of_ble_eq_true rfl) (by decide) (pf1 [] ([(r 0, .inr (4, [.ref (qn 0), .ref (qt 0), .ref (r 1), .int (iI sc), .int (iI ((ns : Int))), .ref (r 2)])), (r 1, aS g 4 (fun j => some (qv j 0))), (r 2, .inr (3, [.ref (r 3), .int (iI ((tn : Int))), .int (iI pl)])), (r 3, aI g 60 tx)] ++ (wSt g qn kn ++ (wSt g qt kt ++ (wS4 g qv kv))))) rfl (fun r9 w9 hq9 => ?_)
  obtain ⟨rfl, rfl⟩ := hq9
  refine J.to (L1 := [(0, .ref (r 0)), (1, .int (iI v))]) (S1 := []) (ws1 := ([(r 0, .inr (4, [.ref (qn 0), .ref (qt 0), .ref (r 1), .int (iI sc), .int (iI ((ns : Int))), .ref (r 2)])), (r 1, aS g 4 (fun j => some (qv j 0))), (r 2, .inr (3, [.ref (r 3), .int (iI ((tn : Int))), .int (iI pl)])), (r 3, aI g 60 tx)] ++ (wSt g qn kn ++ (wSt g qt kt ++ (wS4 g qv kv))))) rfl rfl rfl ?_
  refine j_aload_n C 0 dX4_append_7 rfl rfl ?_
  refine j_get C ck4 0 5 (by decide) qw135 rfl rfl dX4_append_8 ?_
  refine j_getN C ck3 2 1 (by decide) qn121 rfl rfl dX4_append_11 ?_
  refine j_bipush C dX4_append_14 (by decide) ?_
  refine j_icmp_lt (tgt := 29) C (by omega) (by decide) dX4_append_16 (by decide) (fun c16 => absurd c16 (by omega)) (fun c16 => ?_)
  exact j_throw C hl hlk hnt exw_IllegalStateException qw347 qw9 (by decide +kernel) (List.mem_of_getElem? (i := 10) rfl) dX4_append_19 dX4_append_22 dX4_append_23 dX4_append_25 dX4_append_28 ⟨by decide, Nat.le_of_ble_eq_true rfl⟩ ⟨by decide, by decide⟩ rfl ⟨by decide, by decide⟩

theorem c_X4_clearText (l : Launch) (g : Gh) (r : Nat → Nat) (qn qt : Nat → Nat) (qv : Nat → Nat → Nat) (kn kt : Nat → Nat → Int) (kv : Nat → Nat → Nat → Int) (sc : Int) (ns : Nat) (tx : Nat → Int) (tn : Nat) (pl : Int) (hT : TOK kn kv sc ns tx tn)  : CT l g yX4_clearText cX4_clearText 2 (some FieldType.int) ({ frames := 0, cells := 0, slots := 0, locals := 0 }) [.ref (r 0)] ([(r 0, .inr (4, [.ref (qn 0), .ref (qt 0), .ref (r 1), .int (iI sc), .int (iI ((ns : Int))), .ref (r 2)])), (r 1, aS g 4 (fun j => some (qv j 0))), (r 2, .inr (3, [.ref (r 3), .int (iI ((tn : Int))), .int (iI pl)])), (r 3, aI g 60 tx)] ++ (wSt g qn kn ++ (wSt g qt kt ++ (wS4 g qv kv)))) (PE (some (.int (iI ((tn : Int))))) (wTp g r qn qt qv kn kt kv sc ns tx 0 pl)) := by
  refine CT.intro (L0 := [(0, .ref (r 0))]) (own := RX4) (by decide) rfl (Nat.le_of_ble_eq_true rfl) rfl ?_
  intro pX eX sX mX argsX belowX methX cX A C hr hlk
  obtain ⟨⟨hk, hh0⟩, hkv, hsc, hns, htn, htx⟩ := id hT
  obtain ⟨hP, hE0, hF, hrow0, hwt, hht, hlen, hlat, hkept⟩ := id hk
  have hE : -10 ≤ kn 0 3 ∧ kn 0 3 ≤ 10 := by omega
  have hrow : ∀ i : Nat, (i : Int) < kn 0 2 → 0 ≤ kn 1 i ∧ kn 1 i ≤ 4 := fun i hi => by have := hrow0 i hi; omega
  have hc2 : cpS kn kt 0 2 = kn 0 2 := rfl
  have hhnd : 0 ≤ hnd kn ∧ hnd kn ≤ 300000 := ⟨hh0, hnd_le hk⟩
  refine j_aload_n C 0 dX4_clearText_0 rfl rfl ?_
  refine j_get C ck4 0 5 (by decide) qw135 rfl rfl dX4_clearText_1 ?_
  refine j_getN C ck3 2 1 (by decide) qn121 rfl rfl dX4_clearText_4 ?_
  refine j_istore_n (L1 := [(1, .int (iI ((tn : Int)))), (0, .ref (r 0))]) C dX4_clearText_7 rfl (by decide) rfl ?_
  refine j_aload_n C 1 dX4_clearText_8 rfl rfl ?_
  refine j_get C ck4 0 5 (by decide) qw135 rfl rfl dX4_clearText_9 ?_
  refine j_iconst C dX4_clearText_12 ?_
  refine j_putN (ws1 := ([(r 0, .inr (4, [.ref (qn 0), .ref (qt 0), .ref (r 1), .int (iI sc), .int (iI ((ns : Int))), .ref (r 2)])), (r 1, aS g 4 (fun j => some (qv j 0))), (r 2, .inr (3, [.ref (r 3), .int (iI 0), .int (iI pl)])), (r 3, aI g 60 tx)] ++ (wSt g qn kn ++ (wSt g qt kt ++ (wS4 g qv kv))))) C ck3 2 1 (by decide) qn121 rfl dX4_clearText_13 rfl rfl rfl rfl (Nat.le_of_ble_eq_true rfl) ?_
  refine j_iload_n C 0 dX4_clearText_16 rfl rfl ?_
  exact j_iret C hr hlk dX4_clearText_17 ⟨rfl, rfl⟩ (by decide) (by decide)

