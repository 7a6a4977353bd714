/-! RopeTackle: the public methods that change it -/
theorem SOK_w {k : Nat → Nat → Int} (hk : SOK k) {b : Nat} {w : Int} (hw : 0 ≤ w ∧ w ≤ 50000) : SOK (va_up k 3 (va_up (k 3) b w)) := by
  obtain ⟨h1, h2, h3, h4, h5, h6, h7, h8, h9⟩ := hk
  refine ⟨h1, h2, h3, h4, fun j hj => ?_, h6, h7, h8, h9⟩
  show 0 ≤ va_up (k 3) b w j ∧ va_up (k 3) b w j ≤ 50000
  unfold va_up
  split
  · exact hw
  · exact h5 j hj
theorem SOK_f {k : Nat → Nat → Int} (hk : SOK k) {f : Int} (hf : 0 ≤ f ∧ f ≤ 30) : SOK (va_up k 0 (va_up (k 0) 1 f)) := ⟨hk.1, hk.2.1, hf, hk.2.2.2⟩
abbrev kLen (kn kt : Nat → Nat → Int) (x : Int) : Nat → Nat → Int := va_up (cpS kn kt) 0 (va_up (kn 0) 0 x)
theorem SOK_len {kn kt : Nat → Nat → Int} (hk : SOK kn) {x : Int} (hx : 1000 ≤ x ∧ x ≤ 300000) : SOK (kLen kn kt x) := by
  have h := SOK_cpS (k := kt) hk
  exact ⟨h.1, h.2.1, h.2.2.1, h.2.2.2.1, h.2.2.2.2.1, h.2.2.2.2.2.1, hx, h.2.2.2.2.2.2.2.1, h.2.2.2.2.2.2.2.2⟩
abbrev kEnd (kn kt : Nat → Nat → Int) (x : Int) : Nat → Nat → Int := va_up (cpS kn kt) 0 (va_up (kn 0) 3 x)
theorem SOK_end {kn kt : Nat → Nat → Int} (hk : SOK kn) {x : Int} (hx : 0 ≤ x ∧ x ≤ 4) : SOK (kEnd kn kt x) := by
  have h := SOK_cpS (k := kt) hk
  exact ⟨h.1, hx, h.2.2.1, h.2.2.2.1, h.2.2.2.2.1, h.2.2.2.2.2.1, h.2.2.2.2.2.2.1, h.2.2.2.2.2.2.2.1, h.2.2.2.2.2.2.2.2⟩
abbrev kAdd (kn kt : Nat → Nat → Int) (b : Int) : Nat → Nat → Int := va_up (va_up (cpS kn kt) 0 (va_up (kn 0) 2 (kn 0 2 + 1))) 1 (va_up (cpS kn kt 1) (kn 0 2).toNat b)
theorem SOK_add {kn kt : Nat → Nat → Int} (hk : SOK kn) {b : Int} (hb : 0 ≤ b ∧ b < 4) (hP : kn 0 2 < 10) : SOK (kAdd kn kt b) := by
  have h := SOK_cpS (k := kt) hk
  have h1 := hk.1
  refine ⟨⟨?_, ?_⟩, h.2.1, h.2.2.1, fun i hi => ?_, h.2.2.2.2.1, h.2.2.2.2.2.1, h.2.2.2.2.2.2.1, h.2.2.2.2.2.2.2.1, h.2.2.2.2.2.2.2.2⟩
  · show 0 ≤ kn 0 2 + 1
    omega
  · show kn 0 2 + 1 ≤ 10
    omega
  · have hi2 : (i : Int) < kn 0 2 + 1 := hi
    show 0 ≤ va_up (cpS kn kt 1) (kn 0 2).toNat b i ∧ va_up (cpS kn kt 1) (kn 0 2).toNat b i ≤ 3
    unfold va_up
    split
    · omega
    · exact h.2.2.2.1 i (by show (i : Int) < kn 0 2; omega)
abbrev kTake (kn : Nat → Nat → Int) : Nat → Nat → Int := va_up kn 0 (va_up (kn 0) 2 (kn 0 2 - 1))
theorem SOK_take {kn : Nat → Nat → Int} (hk : SOK kn) (hP : 0 < kn 0 2) : SOK (kTake kn) := by
  have h1 := hk.1
  refine ⟨⟨?_, ?_⟩, hk.2.1, hk.2.2.1, fun i hi => hk.2.2.2.1 i ?_, hk.2.2.2.2⟩
  · show 0 ≤ kn 0 2 - 1
    omega
  · show kn 0 2 - 1 ≤ 10
    omega
  · have hi2 : (i : Int) < kn 0 2 - 1 := hi
    omega
theorem c_X4_setWeight (l : Launch) (g : Gh) (r : Nat → Nat) (qn qt : Nat → Nat) (qv : Nat → Nat → Nat) (kn kt : Nat → Nat → Int) (kv : Nat → Nat → Nat → Int) (sc : Int) (ns : Nat) (tx : Nat → Int) (tn : Nat) (pl : Int) (b w : Int) (hT : TOK kn kv sc ns tx tn) (hb4 : 0 ≤ b ∧ b < 4) (hw : 0 ≤ w ∧ w ≤ 50000) : CT l g yX4_setWeight cX4_setWeight 4 (some FieldType.int) ({ frames := 4, cells := 0, slots := 0, locals := 85 }) [.ref (r 0), .int (iI b), .int (iI w)] ([(r 0, .inr (4, [.ref (qn 0), .ref (qt 0), .ref (r 1), .int (iI sc), .int (iI ((ns : Int))), .ref (r 2)])), (r 1, aS g 4 (fun j => some (qv j 0))), (r 2, .inr (3, [.ref (r 3), .int (iI ((tn : Int))), .int (iI pl)])), (r 3, aI g 60 tx)] ++ (wSt g qn kn ++ (wSt g qt kt ++ (wS4 g qv kv)))) (PE (some (.int (iI (kn 3 b.toNat)))) (wTp g r qn qt qv (va_up kn 3 (va_up (kn 3) b.toNat w)) kt (svk kn kv ns) (svs sc) (svn ns) tx tn pl)) := by
  refine CT.intro (L0 := [(0, .ref (r 0)), (1, .int (iI b)), (2, .int (iI w))]) (own := RX4) (by decide) rfl (Nat.le_of_ble_eq_true rfl) rfl ?_
  intro pX eX sX mX argsX belowX methX cX A C hr hlk
  obtain ⟨⟨hk, hh0⟩, hkv, hsc, hns, htn, htx⟩ := id hT
  obtain ⟨hP, hE0, hF, hrow0, hwt, hht, hlen, hlat, hkept⟩ := id hk
  have hE : -10 ≤ kn 0 3 ∧ kn 0 3 ≤ 10 := by omega
  have hrow : ∀ i : Nat, (i : Int) < kn 0 2 → 0 ≤ kn 1 i ∧ kn 1 i ≤ 4 := fun i hi => by have := hrow0 i hi; omega
  have hc2 : cpS kn kt 0 2 = kn 0 2 := rfl
  have hhnd : 0 ≤ hnd kn ∧ hnd kn ≤ 300000 := ⟨hh0, hnd_le hk⟩
  refine j_iload_n C 1 dX4_setWeight_0 rfl rfl ?_
  refine j_callS (As := [.int (iI b)]) (rest := []) C ys_X4_checkBlock qw166 (c_X4_checkBlock l g b (by omega)) (by decide) rfl dX4_setWeight_1 rfl (Nat.le_of_ble_eq_true rfl) (by decide) (pf1 [] ([(r 0, .inr (4, [.ref (qn 0), .ref (qt 0), .ref (r 1), .int (iI sc), .int (iI ((ns : Int))), .ref (r 2)])), (r 1, aS g 4 (fun j => some (qv j 0))), (r 2, .inr (3, [.ref (r 3), .int (iI ((tn : Int))), .int (iI pl)])), (r 3, aI g 60 tx)] ++ (wSt g qn kn ++ (wSt g qt kt ++ (wS4 g qv kv))))) rfl (fun r9 w9 hq9 => ?_)
  obtain ⟨rfl, rfl⟩ := hq9
  refine J.to (L1 := [(0, .ref (r 0)), (1, .int (iI b)), (2, .int (iI w))]) (S1 := []) (ws1 := ([(r 0, .inr (4, [.ref (qn 0), .ref (qt 0), .ref (r 1), .int (iI sc), .int (iI ((ns : Int))), .ref (r 2)])), (r 1, aS g 4 (fun j => some (qv j 0))), (r 2, .inr (3, [.ref (r 3), .int (iI ((tn : Int))), .int (iI pl)])), (r 3, aI g 60 tx)] ++ (wSt g qn kn ++ (wSt g qt kt ++ (wS4 g qv kv))))) rfl rfl rfl ?_
  refine j_iload_n C 2 dX4_setWeight_4 rfl rfl ?_
  refine j_iconst C dX4_setWeight_5 ?_
  refine j_ldc (x := 50000) C qw240 (by decide) dX4_setWeight_6 ?_
  refine j_callS (As := [.int (iI w), .int (iI 0), .int (iI 50000)]) (rest := []) C ys_X4_checkRange qw241 (c_X4_checkRange l g w 0 50000 (by omega) (by omega) (by omega) (by omega)) (by decide) rfl dX4_setWeight_8 rfl (Nat.le_of_ble_eq_true rfl) (by decide) (pf1 [] ([(r 0, .inr (4, [.ref (qn 0), .ref (qt 0), .ref (r 1), .int (iI sc), .int (iI ((ns : Int))), .ref (r 2)])), (r 1, aS g 4 (fun j => some (qv j 0))), (r 2, .inr (3, [.ref (r 3), .int (iI ((tn : Int))), .int (iI pl)])), (r 3, aI g 60 tx)] ++ (wSt g qn kn ++ (wSt g qt kt ++ (wS4 g qv kv))))) rfl (fun r9 w9 hq9 => ?_)
  obtain ⟨rfl, rfl⟩ := hq9
  refine J.to (L1 := [(0, .ref (r 0)), (1, .int (iI b)), (2, .int (iI w))]) (S1 := []) (ws1 := ([(r 0, .inr (4, [.ref (qn 0), .ref (qt 0), .ref (r 1), .int (iI sc), .int (iI ((ns : Int))), .ref (r 2)])), (r 1, aS g 4 (fun j => some (qv j 0))), (r 2, .inr (3, [.ref (r 3), .int (iI ((tn : Int))), .int (iI pl)])), (r 3, aI g 60 tx)] ++ (wSt g qn kn ++ (wSt g qt kt ++ (wS4 g qv kv))))) rfl rfl rfl ?_
  refine j_aload_n C 0 dX4_setWeight_11 rfl rfl ?_
  refine j_callV (As := []) (rest := []) C yv_X4_save qw260 (c_X4_save l g r qn qt qv kn kt kv sc ns tx tn pl hsc hns) (by decide) 0 rfl rfl rfl dX4_setWeight_12 rfl (Nat.le_of_ble_eq_true rfl) (by decide) pf0 rfl (fun r9 w9 hq9 => ?_)
  obtain ⟨rfl, rfl⟩ := hq9
  refine J.to (L1 := [(0, .ref (r 0)), (1, .int (iI b)), (2, .int (iI w))]) (S1 := []) (ws1 := ([(r 0, .inr (4, [.ref (qn 0), .ref (qt 0), .ref (r 1), .int (iI (svs sc)), .int (iI ((svn ns : Int))), .ref (r 2)])), (r 1, aS g 4 (fun j => some (qv j 0))), (r 2, .inr (3, [.ref (r 3), .int (iI ((tn : Int))), .int (iI pl)])), (r 3, aI g 60 tx)] ++ (wSt g qn kn ++ (wSt g qt kt ++ (wS4 g qv (svk kn kv ns)))))) rfl rfl rfl ?_
  refine j_aload_n C 0 dX4_setWeight_15 rfl rfl ?_
  refine j_get C ck4 0 0 (by decide) qw130 rfl rfl dX4_setWeight_16 ?_
  refine j_iload_n C 1 dX4_setWeight_19 rfl rfl ?_
  refine j_callV (As := [.int (iI b)]) (rest := []) C yv_X2_weightOf qw291 (c_X2_weightOf l g qn kn b hk (by omega)) (by decide) 4 rfl rfl rfl dX4_setWeight_20 rfl (Nat.le_of_ble_eq_true rfl) (by decide) (pf1 [(r 0, .inr (4, [.ref (qn 0), .ref (qt 0), .ref (r 1), .int (iI (svs sc)), .int (iI ((svn ns : Int))), .ref (r 2)])), (r 1, aS g 4 (fun j => some (qv j 0))), (r 2, .inr (3, [.ref (r 3), .int (iI ((tn : Int))), .int (iI pl)])), (r 3, aI g 60 tx)] (wSt g qt kt ++ (wS4 g qv (svk kn kv ns)))) rfl (fun r9 w9 hq9 => ?_)
  obtain ⟨rfl, rfl⟩ := hq9
  refine J.to (L1 := [(0, .ref (r 0)), (1, .int (iI b)), (2, .int (iI w))]) (S1 := [.int (iI (kn 3 b.toNat))]) (ws1 := ([(r 0, .inr (4, [.ref (qn 0), .ref (qt 0), .ref (r 1), .int (iI (svs sc)), .int (iI ((svn ns : Int))), .ref (r 2)])), (r 1, aS g 4 (fun j => some (qv j 0))), (r 2, .inr (3, [.ref (r 3), .int (iI ((tn : Int))), .int (iI pl)])), (r 3, aI g 60 tx)] ++ (wSt g qn kn ++ (wSt g qt kt ++ (wS4 g qv (svk kn kv ns)))))) rfl rfl rfl ?_
  refine j_istore_n (L1 := [(3, .int (iI (kn 3 b.toNat))), (0, .ref (r 0)), (1, .int (iI b)), (2, .int (iI w))]) C dX4_setWeight_23 rfl (by decide) rfl ?_
  refine j_aload_n C 1 dX4_setWeight_24 rfl rfl ?_
  refine j_get C ck4 0 0 (by decide) qw130 rfl rfl dX4_setWeight_25 ?_
  refine j_iload_n C 2 dX4_setWeight_28 rfl rfl ?_
  refine j_iload_n C 3 dX4_setWeight_29 rfl rfl ?_
  refine j_callV (As := [.int (iI b), .int (iI w)]) (rest := []) C yv_X2_giveWeight qw298 (c_X2_giveWeight l g qn kn b w hk (by omega)) (by decide) 4 rfl rfl rfl dX4_setWeight_30 rfl (Nat.le_of_ble_eq_true rfl) (by decide) (pf1 [(r 0, .inr (4, [.ref (qn 0), .ref (qt 0), .ref (r 1), .int (iI (svs sc)), .int (iI ((svn ns : Int))), .ref (r 2)])), (r 1, aS g 4 (fun j => some (qv j 0))), (r 2, .inr (3, [.ref (r 3), .int (iI ((tn : Int))), .int (iI pl)])), (r 3, aI g 60 tx)] (wSt g qt kt ++ (wS4 g qv (svk kn kv ns)))) rfl (fun r9 w9 hq9 => ?_)
  obtain ⟨rfl, rfl⟩ := hq9
  refine J.to (L1 := [(3, .int (iI (kn 3 b.toNat))), (0, .ref (r 0)), (1, .int (iI b)), (2, .int (iI w))]) (S1 := []) (ws1 := ([(r 0, .inr (4, [.ref (qn 0), .ref (qt 0), .ref (r 1), .int (iI (svs sc)), .int (iI ((svn ns : Int))), .ref (r 2)])), (r 1, aS g 4 (fun j => some (qv j 0))), (r 2, .inr (3, [.ref (r 3), .int (iI ((tn : Int))), .int (iI pl)])), (r 3, aI g 60 tx)] ++ (wSt g qn (va_up kn 3 (va_up (kn 3) b.toNat w)) ++ (wSt g qt kt ++ (wS4 g qv (svk kn kv ns)))))) rfl rfl rfl ?_
  refine j_iload_n C 0 dX4_setWeight_33 rfl rfl ?_
  exact j_iret C hr hlk dX4_setWeight_34 ⟨rfl, rfl⟩ (by decide) (by decide)

theorem x_X4_setWeight_1 (l : Launch) (hl : l.stackTraces = false) (g : Gh) (r : Nat → Nat) (qn qt : Nat → Nat) (qv : Nat → Nat → Nat) (kn kt : Nat → Nat → Int) (kv : Nat → Nat → Nat → Int) (sc : Int) (ns : Nat) (tx : Nat → Int) (tn : Nat) (pl : Int) (b w : Int) (hT : TOK kn kv sc ns tx tn) (hrb : -2147483648 ≤ b ∧ b < 2147483648) (hrw : -2147483648 ≤ w ∧ w < 2147483648) (hb4 : b < 0 ∨ 4 ≤ b) : CX l g yX4_setWeight cX4_setWeight 4 (some FieldType.int) ({ frames := 7, cells := 1, slots := 6, locals := 122 }) [.ref (r 0), .int (iI b), .int (iI w)] ([(r 0, .inr (4, [.ref (qn 0), .ref (qt 0), .ref (r 1), .int (iI sc), .int (iI ((ns : Int))), .ref (r 2)])), (r 1, aS g 4 (fun j => some (qv j 0))), (r 2, .inr (3, [.ref (r 3), .int (iI ((tn : Int))), .int (iI pl)])), (r 3, aI g 60 tx)] ++ (wSt g qn kn ++ (wSt g qt kt ++ (wS4 g qv kv)))) "java/lang/IndexOutOfBoundsException" (fun w9 => w9 = wTp g r qn qt qv kn kt kv sc ns tx tn pl) := by
  refine CX.intro (L0 := [(0, .ref (r 0)), (1, .int (iI b)), (2, .int (iI w))]) (own := RX4) (by decide) rfl (Nat.le_of_ble_eq_true rfl) rfl ?_
  intro pX eX sX mX argsX belowX methX cX A C hlk hnt
  obtain ⟨⟨hk, hh0⟩, hkv, hsc, hns, htn, htx⟩ := id hT
  obtain ⟨hP, hE0, hF, hrow0, hwt, hht, hlen, hlat, hkept⟩ := id hk
  have hE : -10 ≤ kn 0 3 ∧ kn 0 3 ≤ 10 := by omega
  have hrow : ∀ i : Nat, (i : Int) < kn 0 2 → 0 ≤ kn 1 i ∧ kn 1 i ≤ 4 := fun i hi => by have := hrow0 i hi; omega
  have hc2 : cpS kn kt 0 2 = kn 0 2 := rfl
  have hhnd : 0 ≤ hnd kn ∧ hnd kn ≤ 300000 := ⟨hh0, hnd_le hk⟩
  refine j_iload_n C 1 dX4_setWeight_0 rfl rfl ?_
  exact j_callSX (As := [.int (iI b)]) (rest := []) C ys_X4_checkBlock qw166 (x_X4_checkBlock_no l hl g b (by omega) (by omega)) (by decide) rfl dX4_setWeight_1 rfl (Nat.le_of_ble_eq_true rfl) (by decide) (pf1 [] ([(r 0, .inr (4, [.ref (qn 0), .ref (qt 0), .ref (r 1), .int (iI sc), .int (iI ((ns : Int))), .ref (r 2)])), (r 1, aS g 4 (fun j => some (qv j 0))), (r 2, .inr (3, [.ref (r 3), .int (iI ((tn : Int))), .int (iI pl)])), (r 3, aI g 60 tx)] ++ (wSt g qn kn ++ (wSt g qt kt ++ (wS4 g qv kv))))) rfl hnt hlk ⟨by decide, by decide⟩ (fun w9 h9 => by rw [h9]; rfl)

theorem x_X4_setWeight_2 (l : Launch) (hl : l.stackTraces = false) (g : Gh) (r : Nat → Nat) (qn qt : Nat → Nat) (qv : Nat → Nat → Nat) (kn kt : Nat → Nat → Int) (kv : Nat → Nat → Nat → Int) (sc : Int) (ns : Nat) (tx : Nat → Int) (tn : Nat) (pl : Int) (b w : Int) (hT : TOK kn kv sc ns tx tn) (hrb : -2147483648 ≤ b ∧ b < 2147483648) (hrw : -2147483648 ≤ w ∧ w < 2147483648) (hb4 : 0 ≤ b ∧ b < 4) (hw : w < 0 ∨ 50000 < w) : CX l g yX4_setWeight cX4_setWeight 4 (some FieldType.int) ({ frames := 7, cells := 1, slots := 6, locals := 122 }) [.ref (r 0), .int (iI b), .int (iI w)] ([(r 0, .inr (4, [.ref (qn 0), .ref (qt 0), .ref (r 1), .int (iI sc), .int (iI ((ns : Int))), .ref (r 2)])), (r 1, aS g 4 (fun j => some (qv j 0))), (r 2, .inr (3, [.ref (r 3), .int (iI ((tn : Int))), .int (iI pl)])), (r 3, aI g 60 tx)] ++ (wSt g qn kn ++ (wSt g qt kt ++ (wS4 g qv kv)))) "java/lang/IllegalArgumentException" (fun w9 => w9 = wTp g r qn qt qv kn kt kv sc ns tx tn pl) := by
  refine CX.intro (L0 := [(0, .ref (r 0)), (1, .int (iI b)), (2, .int (iI w))]) (own := RX4) (by decide) rfl (Nat.le_of_ble_eq_true rfl) rfl ?_
  intro pX eX sX mX argsX belowX methX cX A C hlk hnt
  obtain ⟨⟨hk, hh0⟩, hkv, hsc, hns, htn, htx⟩ := id hT
  obtain ⟨hP, hE0, hF, hrow0, hwt, hht, hlen, hlat, hkept⟩ := id hk
  have hE : -10 ≤ kn 0 3 ∧ kn 0 3 ≤ 10 := by omega
  have hrow : ∀ i : Nat, (i : Int) < kn 0 2 → 0 ≤ kn 1 i ∧ kn 1 i ≤ 4 := fun i hi => by have := hrow0 i hi; omega
  have hc2 : cpS kn kt 0 2 = kn 0 2 := rfl
  have hhnd : 0 ≤ hnd kn ∧ hnd kn ≤ 300000 := ⟨hh0, hnd_le hk⟩
  refine j_iload_n C 1 dX4_setWeight_0 rfl rfl ?_
  refine j_callS (As := [.int (iI b)]) (rest := []) C ys_X4_checkBlock qw166 (c_X4_checkBlock l g b (by omega)) (by decide) rfl dX4_setWeight_1 rfl (Nat.le_of_ble_eq_true rfl) (by decide) (pf1 [] ([(r 0, .inr (4, [.ref (qn 0), .ref (qt 0), .ref (r 1), .int (iI sc), .int (iI ((ns : Int))), .ref (r 2)])), (r 1, aS g 4 (fun j => some (qv j 0))), (r 2, .inr (3, [.ref (r 3), .int (iI ((tn : Int))), .int (iI pl)])), (r 3, aI g 60 tx)] ++ (wSt g qn kn ++ (wSt g qt kt ++ (wS4 g qv kv))))) rfl (fun r9 w9 hq9 => ?_)
  obtain ⟨rfl, rfl⟩ := hq9
  refine J.to (L1 := [(0, .ref (r 0)), (1, .int (iI b)), (2, .int (iI w))]) (S1 := []) (ws1 := ([(r 0, .inr (4, [.ref (qn 0), .ref (qt 0), .ref (r 1), .int (iI sc), .int (iI ((ns : Int))), .ref (r 2)])), (r 1, aS g 4 (fun j => some (qv j 0))), (r 2, .inr (3, [.ref (r 3), .int (iI ((tn : Int))), .int (iI pl)])), (r 3, aI g 60 tx)] ++ (wSt g qn kn ++ (wSt g qt kt ++ (wS4 g qv kv))))) rfl rfl rfl ?_
  refine j_iload_n C 2 dX4_setWeight_4 rfl rfl ?_
  refine j_iconst C dX4_setWeight_5 ?_
  refine j_ldc (x := 50000) C qw240 (by decide) dX4_setWeight_6 ?_
  exact j_callSX (As := [.int (iI w), .int (iI 0), .int (iI 50000)]) (rest := []) C ys_X4_checkRange qw241 (x_X4_checkRange_no l hl g w 0 50000 (by omega) (by omega) (by omega) (by omega)) (by decide) rfl dX4_setWeight_8 rfl (Nat.le_of_ble_eq_true rfl) (by decide) (pf1 [] ([(r 0, .inr (4, [.ref (qn 0), .ref (qt 0), .ref (r 1), .int (iI sc), .int (iI ((ns : Int))), .ref (r 2)])), (r 1, aS g 4 (fun j => some (qv j 0))), (r 2, .inr (3, [.ref (r 3), .int (iI ((tn : Int))), .int (iI pl)])), (r 3, aI g 60 tx)] ++ (wSt g qn kn ++ (wSt g qt kt ++ (wS4 g qv kv))))) rfl hnt hlk ⟨by decide, by decide⟩ (fun w9 h9 => by rw [h9]; rfl)

theorem c_X4_setFriction (l : Launch) (g : Gh) (r : Nat → Nat) (qn qt : Nat → Nat) (qv : Nat → Nat → Nat) (kn kt : Nat → Nat → Int) (kv : Nat → Nat → Nat → Int) (sc : Int) (ns : Nat) (tx : Nat → Int) (tn : Nat) (pl : Int) (f : Int) (hT : TOK kn kv sc ns tx tn) (hf : 0 ≤ f ∧ f ≤ 30) : CT l g yX4_setFriction cX4_setFriction 3 (some FieldType.int) ({ frames := 4, cells := 0, slots := 0, locals := 85 }) [.ref (r 0), .int (iI f)] ([(r 0, .inr (4, [.ref (qn 0), .ref (qt 0), .ref (r 1), .int (iI sc), .int (iI ((ns : Int))), .ref (r 2)])), (r 1, aS g 4 (fun j => some (qv j 0))), (r 2, .inr (3, [.ref (r 3), .int (iI ((tn : Int))), .int (iI pl)])), (r 3, aI g 60 tx)] ++ (wSt g qn kn ++ (wSt g qt kt ++ (wS4 g qv kv)))) (PE (some (.int (iI (kn 0 1)))) (wTp g r qn qt qv (va_up kn 0 (va_up (kn 0) 1 f)) kt (svk kn kv ns) (svs sc) (svn ns) tx tn pl)) := by
  refine CT.intro (L0 := [(0, .ref (r 0)), (1, .int (iI f))]) (own := RX4) (by decide) rfl (Nat.le_of_ble_eq_true rfl) rfl ?_
  intro pX eX sX mX argsX belowX methX cX A C hr hlk
  obtain ⟨⟨hk, hh0⟩, hkv, hsc, hns, htn, htx⟩ := id hT
  obtain ⟨hP, hE0, hF, hrow0, hwt, hht, hlen, hlat, hkept⟩ := id hk
  have hE : -10 ≤ kn 0 3 ∧ kn 0 3 ≤ 10 := by omega
  have hrow : ∀ i : Nat, (i : Int) < kn 0 2 → 0 ≤ kn 1 i ∧ kn 1 i ≤ 4 := fun i hi => by have := hrow0 i hi; omega
  have hc2 : cpS kn kt 0 2 = kn 0 2 := rfl
  have hhnd : 0 ≤ hnd kn ∧ hnd kn ≤ 300000 := ⟨hh0, hnd_le hk⟩
  refine j_iload_n C 1 dX4_setFriction_0 rfl rfl ?_
  refine j_iconst C dX4_setFriction_1 ?_
  refine j_bipush C dX4_setFriction_2 (by decide) ?_
  refine j_callS (As := [.int (iI f), .int (iI 0), .int (iI 30)]) (rest := []) C ys_X4_checkRange qw241 (c_X4_checkRange l g f 0 30 (by omega) (by omega) (by omega) (by omega)) (by decide) rfl dX4_setFriction_4 rfl (Nat.le_of_ble_eq_true rfl) (by decide) (pf1 [] ([(r 0, .inr (4, [.ref (qn 0), .ref (qt 0), .ref (r 1), .int (iI sc), .int (iI ((ns : Int))), .ref (r 2)])), (r 1, aS g 4 (fun j => some (qv j 0))), (r 2, .inr (3, [.ref (r 3), .int (iI ((tn : Int))), .int (iI pl)])), (r 3, aI g 60 tx)] ++ (wSt g qn kn ++ (wSt g qt kt ++ (wS4 g qv kv))))) rfl (fun r9 w9 hq9 => ?_)
  obtain ⟨rfl, rfl⟩ := hq9
  refine J.to (L1 := [(0, .ref (r 0)), (1, .int (iI f))]) (S1 := []) (ws1 := ([(r 0, .inr (4, [.ref (qn 0), .ref (qt 0), .ref (r 1), .int (iI sc), .int (iI ((ns : Int))), .ref (r 2)])), (r 1, aS g 4 (fun j => some (qv j 0))), (r 2, .inr (3, [.ref (r 3), .int (iI ((tn : Int))), .int (iI pl)])), (r 3, aI g 60 tx)] ++ (wSt g qn kn ++ (wSt g qt kt ++ (wS4 g qv kv))))) rfl rfl rfl ?_
  refine j_aload_n C 0 dX4_setFriction_7 rfl rfl ?_
  refine j_callV (As := []) (rest := []) C yv_X4_save qw260 (c_X4_save l g r qn qt qv kn kt kv sc ns tx tn pl hsc hns) (by decide) 0 rfl rfl rfl dX4_setFriction_8 rfl (Nat.le_of_ble_eq_true rfl) (by decide) pf0 rfl (fun r9 w9 hq9 => ?_)
  obtain ⟨rfl, rfl⟩ := hq9
  refine J.to (L1 := [(0, .ref (r 0)), (1, .int (iI f))]) (S1 := []) (ws1 := ([(r 0, .inr (4, [.ref (qn 0), .ref (qt 0), .ref (r 1), .int (iI (svs sc)), .int (iI ((svn ns : Int))), .ref (r 2)])), (r 1, aS g 4 (fun j => some (qv j 0))), (r 2, .inr (3, [.ref (r 3), .int (iI ((tn : Int))), .int (iI pl)])), (r 3, aI g 60 tx)] ++ (wSt g qn kn ++ (wSt g qt kt ++ (wS4 g qv (svk kn kv ns)))))) rfl rfl rfl ?_
  refine j_aload_n C 0 dX4_setFriction_11 rfl rfl ?_
  refine j_get C ck4 0 0 (by decide) qw130 rfl rfl dX4_setFriction_12 ?_
  refine j_getN C ck2 4 0 (by decide) qn90 rfl rfl dX4_setFriction_15 ?_
  refine j_getN C ck1 5 3 (by decide) qn41 rfl rfl dX4_setFriction_18 ?_
  refine j_istore_n (L1 := [(2, .int (iI (kn 0 1))), (0, .ref (r 0)), (1, .int (iI f))]) C dX4_setFriction_21 rfl (by decide) rfl ?_
  refine j_aload_n C 1 dX4_setFriction_22 rfl rfl ?_
  refine j_get C ck4 0 0 (by decide) qw130 rfl rfl dX4_setFriction_23 ?_
  refine j_getN C ck2 4 0 (by decide) qn90 rfl rfl dX4_setFriction_26 ?_
  refine j_iload_n C 2 dX4_setFriction_29 rfl rfl ?_
  refine j_putN (ws1 := ([(r 0, .inr (4, [.ref (qn 0), .ref (qt 0), .ref (r 1), .int (iI (svs sc)), .int (iI ((svn ns : Int))), .ref (r 2)])), (r 1, aS g 4 (fun j => some (qv j 0))), (r 2, .inr (3, [.ref (r 3), .int (iI ((tn : Int))), .int (iI pl)])), (r 3, aI g 60 tx), (qn 0, .inr (2, [.ref (qn 1), .ref (qn 3), .ref (qn 5), .ref (qn 6), .ref (qn 7), .int (iI (kn 0 0))])), (qn 1, .inr (1, [.ref (qn 2), .int (iI (kn 0 2)), .int (iI (kn 0 3)), .int (iI f)])), (qn 2, aI g 10 (kn 1)), (qn 3, .inr (0, [.ref (qn 4), .int (iI (kn 0 9)), .int (iI (kn 0 6)), .int (iI (kn 0 4)), .int (iI (kn 0 5)), .long (lI (kn 0 7)), .long (lI (kn 0 8))])), (qn 4, aI g 48 (kn 2)), (qn 5, aI g 4 (kn 3)), (qn 6, aI g 4 (kn 4)), (qn 7, aI g 4 (kn 5))] ++ (wSt g qt kt ++ (wS4 g qv (svk kn kv ns))))) C ck1 5 3 (by decide) qn41 rfl dX4_setFriction_30 rfl rfl rfl rfl (Nat.le_of_ble_eq_true rfl) ?_
  refine J.world (ws1 := ([(r 0, .inr (4, [.ref (qn 0), .ref (qt 0), .ref (r 1), .int (iI (svs sc)), .int (iI ((svn ns : Int))), .ref (r 2)])), (r 1, aS g 4 (fun j => some (qv j 0))), (r 2, .inr (3, [.ref (r 3), .int (iI ((tn : Int))), .int (iI pl)])), (r 3, aI g 60 tx)] ++ (wSt g qn (va_up kn 0 (va_up (kn 0) 1 f)) ++ (wSt g qt kt ++ (wS4 g qv (svk kn kv ns)))))) rfl ?_
  refine j_iload_n C 0 dX4_setFriction_33 rfl rfl ?_
  exact j_iret C hr hlk dX4_setFriction_34 ⟨rfl, rfl⟩ (by decide) (by decide)

theorem x_X4_setFriction_1 (l : Launch) (hl : l.stackTraces = false) (g : Gh) (r : Nat → Nat) (qn qt : Nat → Nat) (qv : Nat → Nat → Nat) (kn kt : Nat → Nat → Int) (kv : Nat → Nat → Nat → Int) (sc : Int) (ns : Nat) (tx : Nat → Int) (tn : Nat) (pl : Int) (f : Int) (hT : TOK kn kv sc ns tx tn) (hrf : -2147483648 ≤ f ∧ f < 2147483648) (hf : f < 0 ∨ 30 < f) : CX l g yX4_setFriction cX4_setFriction 3 (some FieldType.int) ({ frames := 7, cells := 1, slots := 6, locals := 122 }) [.ref (r 0), .int (iI f)] ([(r 0, .inr (4, [.ref (qn 0), .ref (qt 0), .ref (r 1), .int (iI sc), .int (iI ((ns : Int))), .ref (r 2)])), (r 1, aS g 4 (fun j => some (qv j 0))), (r 2, .inr (3, [.ref (r 3), .int (iI ((tn : Int))), .int (iI pl)])), (r 3, aI g 60 tx)] ++ (wSt g qn kn ++ (wSt g qt kt ++ (wS4 g qv kv)))) "java/lang/IllegalArgumentException" (fun w9 => w9 = wTp g r qn qt qv kn kt kv sc ns tx tn pl) := by
  refine CX.intro (L0 := [(0, .ref (r 0)), (1, .int (iI f))]) (own := RX4) (by decide) rfl (Nat.le_of_ble_eq_true rfl) rfl ?_
  intro pX eX sX mX argsX belowX methX cX A C hlk hnt
  obtain ⟨⟨hk, hh0⟩, hkv, hsc, hns, htn, htx⟩ := id hT
  obtain ⟨hP, hE0, hF, hrow0, hwt, hht, hlen, hlat, hkept⟩ := id hk
  have hE : -10 ≤ kn 0 3 ∧ kn 0 3 ≤ 10 := by omega
  have hrow : ∀ i : Nat, (i : Int) < kn 0 2 → 0 ≤ kn 1 i ∧ kn 1 i ≤ 4 := fun i hi => by have := hrow0 i hi; omega
  have hc2 : cpS kn kt 0 2 = kn 0 2 := rfl
  have hhnd : 0 ≤ hnd kn ∧ hnd kn ≤ 300000 := ⟨hh0, hnd_le hk⟩
  refine j_iload_n C 1 dX4_setFriction_0 rfl rfl ?_
  refine j_iconst C dX4_setFriction_1 ?_
  refine j_bipush C dX4_setFriction_2 (by decide) ?_
  exact j_callSX (As := [.int (iI f), .int (iI 0), .int (iI 30)]) (rest := []) C ys_X4_checkRange qw241 (x_X4_checkRange_no l hl g f 0 30 (by omega) (by omega) (by omega) (by omega)) (by decide) rfl dX4_setFriction_4 rfl (Nat.le_of_ble_eq_true rfl) (by decide) (pf1 [] ([(r 0, .inr (4, [.ref (qn 0), .ref (qt 0), .ref (r 1), .int (iI sc), .int (iI ((ns : Int))), .ref (r 2)])), (r 1, aS g 4 (fun j => some (qv j 0))), (r 2, .inr (3, [.ref (r 3), .int (iI ((tn : Int))), .int (iI pl)])), (r 3, aI g 60 tx)] ++ (wSt g qn kn ++ (wSt g qt kt ++ (wS4 g qv kv))))) rfl hnt hlk ⟨by decide, by decide⟩ (fun w9 h9 => by rw [h9]; rfl)

theorem c_X4_setLength (l : Launch) (g : Gh) (r : Nat → Nat) (qn qt : Nat → Nat) (qv : Nat → Nat → Nat) (kn kt : Nat → Nat → Int) (kv : Nat → Nat → Nat → Int) (sc : Int) (ns : Nat) (tx : Nat → Int) (tn : Nat) (pl : Int) (x : Int) (hT : TOK kn kv sc ns tx tn) (hx : 1000 ≤ x ∧ x ≤ 300000) (hh : 0 ≤ hnd (kLen kn kt x)) : CT l g yX4_setLength cX4_setLength 2 (some FieldType.int) ({ frames := 5, cells := 0, slots := 0, locals := 106 }) [.ref (r 0), .int (iI x)] ([(r 0, .inr (4, [.ref (qn 0), .ref (qt 0), .ref (r 1), .int (iI sc), .int (iI ((ns : Int))), .ref (r 2)])), (r 1, aS g 4 (fun j => some (qv j 0))), (r 2, .inr (3, [.ref (r 3), .int (iI ((tn : Int))), .int (iI pl)])), (r 3, aI g 60 tx)] ++ (wSt g qn kn ++ (wSt g qt kt ++ (wS4 g qv kv)))) (PE (some (.int (iI (hnd (cpS (kLen kn kt x) kn))))) (wTp g r qn qt qv (cpS (kLen kn kt x) kn) (kLen kn kt x) (svk kn kv ns) (svs sc) (svn ns) tx tn pl)) := by
  refine CT.intro (L0 := [(0, .ref (r 0)), (1, .int (iI x))]) (own := RX4) (by decide) rfl (Nat.le_of_ble_eq_true rfl) rfl ?_
  intro pX eX sX mX argsX belowX methX cX A C hr hlk
  obtain ⟨⟨hk, hh0⟩, hkv, hsc, hns, htn, htx⟩ := id hT
  obtain ⟨hP, hE0, hF, hrow0, hwt, hht, hlen, hlat, hkept⟩ := id hk
  have hE : -10 ≤ kn 0 3 ∧ kn 0 3 ≤ 10 := by omega
  have hrow : ∀ i : Nat, (i : Int) < kn 0 2 → 0 ≤ kn 1 i ∧ kn 1 i ≤ 4 := fun i hi => by have := hrow0 i hi; omega
  have hc2 : cpS kn kt 0 2 = kn 0 2 := rfl
  have hhnd : 0 ≤ hnd kn ∧ hnd kn ≤ 300000 := ⟨hh0, hnd_le hk⟩
  refine j_iload_n C 1 dX4_setLength_0 rfl rfl ?_
  refine j_sipush C dX4_setLength_1 (by decide) ?_
  refine j_ldc (x := 300000) C qw322 (by decide) dX4_setLength_4 ?_
  refine j_callS (As := [.int (iI x), .int (iI 1000), .int (iI 300000)]) (rest := []) C ys_X4_checkRange qw241 (c_X4_checkRange l g x 1000 300000 (by omega) (by omega) (by omega) (by omega)) (by decide) rfl dX4_setLength_6 rfl (Nat.le_of_ble_eq_true rfl) (by decide) (pf1 [] ([(r 0, .inr (4, [.ref (qn 0), .ref (qt 0), .ref (r 1), .int (iI sc), .int (iI ((ns : Int))), .ref (r 2)])), (r 1, aS g 4 (fun j => some (qv j 0))), (r 2, .inr (3, [.ref (r 3), .int (iI ((tn : Int))), .int (iI pl)])), (r 3, aI g 60 tx)] ++ (wSt g qn kn ++ (wSt g qt kt ++ (wS4 g qv kv))))) rfl (fun r9 w9 hq9 => ?_)
  obtain ⟨rfl, rfl⟩ := hq9
  refine J.to (L1 := [(0, .ref (r 0)), (1, .int (iI x))]) (S1 := []) (ws1 := ([(r 0, .inr (4, [.ref (qn 0), .ref (qt 0), .ref (r 1), .int (iI sc), .int (iI ((ns : Int))), .ref (r 2)])), (r 1, aS g 4 (fun j => some (qv j 0))), (r 2, .inr (3, [.ref (r 3), .int (iI ((tn : Int))), .int (iI pl)])), (r 3, aI g 60 tx)] ++ (wSt g qn kn ++ (wSt g qt kt ++ (wS4 g qv kv))))) rfl rfl rfl ?_
  refine j_aload_n C 0 dX4_setLength_9 rfl rfl ?_
  refine j_get C ck4 0 1 (by decide) qw131 rfl rfl dX4_setLength_10 ?_
  refine j_aload_n C 0 dX4_setLength_13 rfl rfl ?_
  refine j_get C ck4 0 0 (by decide) qw130 rfl rfl dX4_setLength_14 ?_
  refine j_callV (As := [.ref (qn 0)]) (rest := []) C yv_X2_copyFrom qw268 (c_X2_copyFrom l g qt kt qn kn) (by decide) 12 rfl rfl rfl dX4_setLength_17 rfl (Nat.le_of_ble_eq_true rfl) (by decide) (pf2r [(r 0, .inr (4, [.ref (qn 0), .ref (qt 0), .ref (r 1), .int (iI sc), .int (iI ((ns : Int))), .ref (r 2)])), (r 1, aS g 4 (fun j => some (qv j 0))), (r 2, .inr (3, [.ref (r 3), .int (iI ((tn : Int))), .int (iI pl)])), (r 3, aI g 60 tx)] 8 [] (wS4 g qv kv)) rfl (fun r9 w9 hq9 => ?_)
  obtain ⟨rfl, rfl⟩ := hq9
  refine J.to (L1 := [(0, .ref (r 0)), (1, .int (iI x))]) (S1 := []) (ws1 := ([(r 0, .inr (4, [.ref (qn 0), .ref (qt 0), .ref (r 1), .int (iI sc), .int (iI ((ns : Int))), .ref (r 2)])), (r 1, aS g 4 (fun j => some (qv j 0))), (r 2, .inr (3, [.ref (r 3), .int (iI ((tn : Int))), .int (iI pl)])), (r 3, aI g 60 tx)] ++ (wSt g qn kn ++ (wSt g qt (cpS kn kt) ++ (wS4 g qv kv))))) rfl rfl rfl ?_
  refine j_aload_n C 0 dX4_setLength_20 rfl rfl ?_
  refine j_get C ck4 0 1 (by decide) qw131 rfl rfl dX4_setLength_21 ?_
  refine j_iload_n C 1 dX4_setLength_24 rfl rfl ?_
  refine j_putN (ws1 := ([(r 0, .inr (4, [.ref (qn 0), .ref (qt 0), .ref (r 1), .int (iI sc), .int (iI ((ns : Int))), .ref (r 2)])), (r 1, aS g 4 (fun j => some (qv j 0))), (r 2, .inr (3, [.ref (r 3), .int (iI ((tn : Int))), .int (iI pl)])), (r 3, aI g 60 tx)] ++ (wSt g qn kn ++ ([(qt 0, .inr (2, [.ref (qt 1), .ref (qt 3), .ref (qt 5), .ref (qt 6), .ref (qt 7), .int (iI x)])), (qt 1, .inr (1, [.ref (qt 2), .int (iI ((cpS kn kt) 0 2)), .int (iI ((cpS kn kt) 0 3)), .int (iI ((cpS kn kt) 0 1))])), (qt 2, aI g 10 ((cpS kn kt) 1)), (qt 3, .inr (0, [.ref (qt 4), .int (iI ((cpS kn kt) 0 9)), .int (iI ((cpS kn kt) 0 6)), .int (iI ((cpS kn kt) 0 4)), .int (iI ((cpS kn kt) 0 5)), .long (lI ((cpS kn kt) 0 7)), .long (lI ((cpS kn kt) 0 8))])), (qt 4, aI g 48 ((cpS kn kt) 2)), (qt 5, aI g 4 ((cpS kn kt) 3)), (qt 6, aI g 4 ((cpS kn kt) 4)), (qt 7, aI g 4 ((cpS kn kt) 5))] ++ (wS4 g qv kv))))) C ck2 12 5 (by decide) qn97 rfl dX4_setLength_25 rfl rfl rfl rfl (Nat.le_of_ble_eq_true rfl) ?_
  refine J.world (ws1 := ([(r 0, .inr (4, [.ref (qn 0), .ref (qt 0), .ref (r 1), .int (iI sc), .int (iI ((ns : Int))), .ref (r 2)])), (r 1, aS g 4 (fun j => some (qv j 0))), (r 2, .inr (3, [.ref (r 3), .int (iI ((tn : Int))), .int (iI pl)])), (r 3, aI g 60 tx)] ++ (wSt g qn kn ++ (wSt g qt (kLen kn kt x) ++ (wS4 g qv kv))))) rfl ?_
  refine j_aload_n C 0 dX4_setLength_28 rfl rfl ?_
  refine j_callV (As := []) (rest := []) C yv_X4_checkTrialRope qw323 (c_X4_checkTrialRope l g r qn qt qv kn (kLen kn kt x) kv sc ns tx tn pl (SOK_len hk hx) hh) (by decide) 0 rfl rfl rfl dX4_setLength_29 rfl (Nat.le_of_ble_eq_true rfl) (by decide) pf0 rfl (fun r9 w9 hq9 => ?_)
  obtain ⟨rfl, rfl⟩ := hq9
  refine J.to (L1 := [(0, .ref (r 0)), (1, .int (iI x))]) (S1 := []) (ws1 := ([(r 0, .inr (4, [.ref (qn 0), .ref (qt 0), .ref (r 1), .int (iI sc), .int (iI ((ns : Int))), .ref (r 2)])), (r 1, aS g 4 (fun j => some (qv j 0))), (r 2, .inr (3, [.ref (r 3), .int (iI ((tn : Int))), .int (iI pl)])), (r 3, aI g 60 tx)] ++ (wSt g qn kn ++ (wSt g qt (kLen kn kt x) ++ (wS4 g qv kv))))) rfl rfl rfl ?_
  refine j_aload_n C 0 dX4_setLength_32 rfl rfl ?_
  refine j_callV (As := []) (rest := []) C yv_X4_acceptTrial qw363 (c_X4_acceptTrial l g r qn qt qv kn (kLen kn kt x) kv sc ns tx tn pl hsc hns) (by decide) 0 rfl rfl rfl dX4_setLength_33 rfl (Nat.le_of_ble_eq_true rfl) (by decide) pf0 rfl (fun r9 w9 hq9 => ?_)
  obtain ⟨rfl, rfl⟩ := hq9
  refine J.to (L1 := [(0, .ref (r 0)), (1, .int (iI x))]) (S1 := []) (ws1 := ([(r 0, .inr (4, [.ref (qn 0), .ref (qt 0), .ref (r 1), .int (iI (svs sc)), .int (iI ((svn ns : Int))), .ref (r 2)])), (r 1, aS g 4 (fun j => some (qv j 0))), (r 2, .inr (3, [.ref (r 3), .int (iI ((tn : Int))), .int (iI pl)])), (r 3, aI g 60 tx)] ++ (wSt g qn (cpS (kLen kn kt x) kn) ++ (wSt g qt (kLen kn kt x) ++ (wS4 g qv (svk kn kv ns)))))) rfl rfl rfl ?_
  refine j_aload_n C 0 dX4_setLength_36 rfl rfl ?_
  refine j_get C ck4 0 0 (by decide) qw130 rfl rfl dX4_setLength_37 ?_
  refine j_callV (As := []) (rest := []) C yv_X2_inHand qw327 (c_X2_inHand l g qn (cpS (kLen kn kt x) kn) (SOK_cpS (SOK_len hk hx))) (by decide) 4 rfl rfl rfl dX4_setLength_40 rfl (Nat.le_of_ble_eq_true rfl) (by decide) (pf1 [(r 0, .inr (4, [.ref (qn 0), .ref (qt 0), .ref (r 1), .int (iI (svs sc)), .int (iI ((svn ns : Int))), .ref (r 2)])), (r 1, aS g 4 (fun j => some (qv j 0))), (r 2, .inr (3, [.ref (r 3), .int (iI ((tn : Int))), .int (iI pl)])), (r 3, aI g 60 tx)] (wSt g qt (kLen kn kt x) ++ (wS4 g qv (svk kn kv ns)))) rfl (fun r9 w9 hq9 => ?_)
  obtain ⟨rfl, rfl⟩ := hq9
  refine J.to (L1 := [(0, .ref (r 0)), (1, .int (iI x))]) (S1 := [.int (iI (hnd (cpS (kLen kn kt x) kn)))]) (ws1 := ([(r 0, .inr (4, [.ref (qn 0), .ref (qt 0), .ref (r 1), .int (iI (svs sc)), .int (iI ((svn ns : Int))), .ref (r 2)])), (r 1, aS g 4 (fun j => some (qv j 0))), (r 2, .inr (3, [.ref (r 3), .int (iI ((tn : Int))), .int (iI pl)])), (r 3, aI g 60 tx)] ++ (wSt g qn (cpS (kLen kn kt x) kn) ++ (wSt g qt (kLen kn kt x) ++ (wS4 g qv (svk kn kv ns)))))) rfl rfl rfl ?_
  exact j_iret C hr hlk dX4_setLength_43 ⟨rfl, rfl⟩ (by decide) (by decide)

theorem x_X4_setLength_1 (l : Launch) (hl : l.stackTraces = false) (g : Gh) (r : Nat → Nat) (qn qt : Nat → Nat) (qv : Nat → Nat → Nat) (kn kt : Nat → Nat → Int) (kv : Nat → Nat → Nat → Int) (sc : Int) (ns : Nat) (tx : Nat → Int) (tn : Nat) (pl : Int) (x : Int) (hT : TOK kn kv sc ns tx tn) (hrx : -2147483648 ≤ x ∧ x < 2147483648) (hx : x < 1000 ∨ 300000 < x) : CX l g yX4_setLength cX4_setLength 2 (some FieldType.int) ({ frames := 7, cells := 1, slots := 6, locals := 122 }) [.ref (r 0), .int (iI x)] ([(r 0, .inr (4, [.ref (qn 0), .ref (qt 0), .ref (r 1), .int (iI sc), .int (iI ((ns : Int))), .ref (r 2)])), (r 1, aS g 4 (fun j => some (qv j 0))), (r 2, .inr (3, [.ref (r 3), .int (iI ((tn : Int))), .int (iI pl)])), (r 3, aI g 60 tx)] ++ (wSt g qn kn ++ (wSt g qt kt ++ (wS4 g qv kv)))) "java/lang/IllegalArgumentException" (fun w9 => w9 = wTp g r qn qt qv kn kt kv sc ns tx tn pl) := by
  refine CX.intro (L0 := [(0, .ref (r 0)), (1, .int (iI x))]) (own := RX4) (by decide) rfl (Nat.le_of_ble_eq_true rfl) rfl ?_
  intro pX eX sX mX argsX belowX methX cX A C hlk hnt
  obtain ⟨⟨hk, hh0⟩, hkv, hsc, hns, htn, htx⟩ := id hT
  obtain ⟨hP, hE0, hF, hrow0, hwt, hht, hlen, hlat, hkept⟩ := id hk
  have hE : -10 ≤ kn 0 3 ∧ kn 0 3 ≤ 10 := by omega
  have hrow : ∀ i : Nat, (i : Int) < kn 0 2 → 0 ≤ kn 1 i ∧ kn 1 i ≤ 4 := fun i hi => by have := hrow0 i hi; omega
  have hc2 : cpS kn kt 0 2 = kn 0 2 := rfl
  have hhnd : 0 ≤ hnd kn ∧ hnd kn ≤ 300000 := ⟨hh0, hnd_le hk⟩
  refine j_iload_n C 1 dX4_setLength_0 rfl rfl ?_
  refine j_sipush C dX4_setLength_1 (by decide) ?_
  refine j_ldc (x := 300000) C qw322 (by decide) dX4_setLength_4 ?_
  exact j_callSX (As := [.int (iI x), .int (iI 1000), .int (iI 300000)]) (rest := []) C ys_X4_checkRange qw241 (x_X4_checkRange_no l hl g x 1000 300000 (by omega) (by omega) (by omega) (by omega)) (by decide) rfl dX4_setLength_6 rfl (Nat.le_of_ble_eq_true rfl) (by decide) (pf1 [] ([(r 0, .inr (4, [.ref (qn 0), .ref (qt 0), .ref (r 1), .int (iI sc), .int (iI ((ns : Int))), .ref (r 2)])), (r 1, aS g 4 (fun j => some (qv j 0))), (r 2, .inr (3, [.ref (r 3), .int (iI ((tn : Int))), .int (iI pl)])), (r 3, aI g 60 tx)] ++ (wSt g qn kn ++ (wSt g qt kt ++ (wS4 g qv kv))))) rfl hnt hlk ⟨by decide, by decide⟩ (fun w9 h9 => by rw [h9]; rfl)

theorem x_X4_setLength_2 (l : Launch) (hl : l.stackTraces = false) (g : Gh) (r : Nat → Nat) (qn qt : Nat → Nat) (qv : Nat → Nat → Nat) (kn kt : Nat → Nat → Int) (kv : Nat → Nat → Nat → Int) (sc : Int) (ns : Nat) (tx : Nat → Int) (tn : Nat) (pl : Int) (x : Int) (hT : TOK kn kv sc ns tx tn) (hx : 1000 ≤ x ∧ x ≤ 300000) (hh : hnd (kLen kn kt x) < 0) : CX l g yX4_setLength cX4_setLength 2 (some FieldType.int) ({ frames := 7, cells := 1, slots := 6, locals := 122 }) [.ref (r 0), .int (iI x)] ([(r 0, .inr (4, [.ref (qn 0), .ref (qt 0), .ref (r 1), .int (iI sc), .int (iI ((ns : Int))), .ref (r 2)])), (r 1, aS g 4 (fun j => some (qv j 0))), (r 2, .inr (3, [.ref (r 3), .int (iI ((tn : Int))), .int (iI pl)])), (r 3, aI g 60 tx)] ++ (wSt g qn kn ++ (wSt g qt kt ++ (wS4 g qv kv)))) "java/lang/IllegalStateException" (fun w9 => w9 = wTp g r qn qt qv kn (kLen kn kt x) kv sc ns tx tn pl) := by
  refine CX.intro (L0 := [(0, .ref (r 0)), (1, .int (iI x))]) (own := RX4) (by decide) rfl (Nat.le_of_ble_eq_true rfl) rfl ?_
  intro pX eX sX mX argsX belowX methX cX A C hlk hnt
  obtain ⟨⟨hk, hh0⟩, hkv, hsc, hns, htn, htx⟩ := id hT
  obtain ⟨hP, hE0, hF, hrow0, hwt, hht, hlen, hlat, hkept⟩ := id hk
  have hE : -10 ≤ kn 0 3 ∧ kn 0 3 ≤ 10 := by omega
  have hrow : ∀ i : Nat, (i : Int) < kn 0 2 → 0 ≤ kn 1 i ∧ kn 1 i ≤ 4 := fun i hi => by have := hrow0 i hi; omega
  have hc2 : cpS kn kt 0 2 = kn 0 2 := rfl
  have hhnd : 0 ≤ hnd kn ∧ hnd kn ≤ 300000 := ⟨hh0, hnd_le hk⟩
  refine j_iload_n C 1 dX4_setLength_0 rfl rfl ?_
  refine j_sipush C dX4_setLength_1 (by decide) ?_
  refine j_ldc (x := 300000) C qw322 (by decide) dX4_setLength_4 ?_
  refine j_callS (As := [.int (iI x), .int (iI 1000), .int (iI 300000)]) (rest := []) C ys_X4_checkRange qw241 (c_X4_checkRange l g x 1000 300000 (by omega) (by omega) (by omega) (by omega)) (by decide) rfl dX4_setLength_6 rfl (Nat.le_of_ble_eq_true rfl) (by decide) (pf1 [] ([(r 0, .inr (4, [.ref (qn 0), .ref (qt 0), .ref (r 1), .int (iI sc), .int (iI ((ns : Int))), .ref (r 2)])), (r 1, aS g 4 (fun j => some (qv j 0))), (r 2, .inr (3, [.ref (r 3), .int (iI ((tn : Int))), .int (iI pl)])), (r 3, aI g 60 tx)] ++ (wSt g qn kn ++ (wSt g qt kt ++ (wS4 g qv kv))))) rfl (fun r9 w9 hq9 => ?_)
  obtain ⟨rfl, rfl⟩ := hq9
  refine J.to (L1 := [(0, .ref (r 0)), (1, .int (iI x))]) (S1 := []) (ws1 := ([(r 0, .inr (4, [.ref (qn 0), .ref (qt 0), .ref (r 1), .int (iI sc), .int (iI ((ns : Int))), .ref (r 2)])), (r 1, aS g 4 (fun j => some (qv j 0))), (r 2, .inr (3, [.ref (r 3), .int (iI ((tn : Int))), .int (iI pl)])), (r 3, aI g 60 tx)] ++ (wSt g qn kn ++ (wSt g qt kt ++ (wS4 g qv kv))))) rfl rfl rfl ?_
  refine j_aload_n C 0 dX4_setLength_9 rfl rfl ?_
  refine j_get C ck4 0 1 (by decide) qw131 rfl rfl dX4_setLength_10 ?_
  refine j_aload_n C 0 dX4_setLength_13 rfl rfl ?_
  refine j_get C ck4 0 0 (by decide) qw130 rfl rfl dX4_setLength_14 ?_
  refine j_callV (As := [.ref (qn 0)]) (rest := []) C yv_X2_copyFrom qw268 (c_X2_copyFrom l g qt kt qn kn) (by decide) 12 rfl rfl rfl dX4_setLength_17 rfl (Nat.le_of_ble_eq_true rfl) (by decide) (pf2r [(r 0, .inr (4, [.ref (qn 0), .ref (qt 0), .ref (r 1), .int (iI sc), .int (iI ((ns : Int))), .ref (r 2)])), (r 1, aS g 4 (fun j => some (qv j 0))), (r 2, .inr (3, [.ref (r 3), .int (iI ((tn : Int))), .int (iI pl)])), (r 3, aI g 60 tx)] 8 [] (wS4 g qv kv)) rfl (fun r9 w9 hq9 => ?_)
  obtain ⟨rfl, rfl⟩ := hq9
  refine J.to (L1 := [(0, .ref (r 0)), (1, .int (iI x))]) (S1 := []) (ws1 := ([(r 0, .inr (4, [.ref (qn 0), .ref (qt 0), .ref (r 1), .int (iI sc), .int (iI ((ns : Int))), .ref (r 2)])), (r 1, aS g 4 (fun j => some (qv j 0))), (r 2, .inr (3, [.ref (r 3), .int (iI ((tn : Int))), .int (iI pl)])), (r 3, aI g 60 tx)] ++ (wSt g qn kn ++ (wSt g qt (cpS kn kt) ++ (wS4 g qv kv))))) rfl rfl rfl ?_
  refine j_aload_n C 0 dX4_setLength_20 rfl rfl ?_
  refine j_get C ck4 0 1 (by decide) qw131 rfl rfl dX4_setLength_21 ?_
  refine j_iload_n C 1 dX4_setLength_24 rfl rfl ?_
  refine j_putN (ws1 := ([(r 0, .inr (4, [.ref (qn 0), .ref (qt 0), .ref (r 1), .int (iI sc), .int (iI ((ns : Int))), .ref (r 2)])), (r 1, aS g 4 (fun j => some (qv j 0))), (r 2, .inr (3, [.ref (r 3), .int (iI ((tn : Int))), .int (iI pl)])), (r 3, aI g 60 tx)] ++ (wSt g qn kn ++ ([(qt 0, .inr (2, [.ref (qt 1), .ref (qt 3), .ref (qt 5), .ref (qt 6), .ref (qt 7), .int (iI x)])), (qt 1, .inr (1, [.ref (qt 2), .int (iI ((cpS kn kt) 0 2)), .int (iI ((cpS kn kt) 0 3)), .int (iI ((cpS kn kt) 0 1))])), (qt 2, aI g 10 ((cpS kn kt) 1)), (qt 3, .inr (0, [.ref (qt 4), .int (iI ((cpS kn kt) 0 9)), .int (iI ((cpS kn kt) 0 6)), .int (iI ((cpS kn kt) 0 4)), .int (iI ((cpS kn kt) 0 5)), .long (lI ((cpS kn kt) 0 7)), .long (lI ((cpS kn kt) 0 8))])), (qt 4, aI g 48 ((cpS kn kt) 2)), (qt 5, aI g 4 ((cpS kn kt) 3)), (qt 6, aI g 4 ((cpS kn kt) 4)), (qt 7, aI g 4 ((cpS kn kt) 5))] ++ (wS4 g qv kv))))) C ck2 12 5 (by decide) qn97 rfl dX4_setLength_25 rfl rfl rfl rfl (Nat.le_of_ble_eq_true rfl) ?_
  refine J.world (ws1 := ([(r 0, .inr (4, [.ref (qn 0), .ref (qt 0), .ref (r 1), .int (iI sc), .int (iI ((ns : Int))), .ref (r 2)])), (r 1, aS g 4 (fun j => some (qv j 0))), (r 2, .inr (3, [.ref (r 3), .int (iI ((tn : Int))), .int (iI pl)])), (r 3, aI g 60 tx)] ++ (wSt g qn kn ++ (wSt g qt (kLen kn kt x) ++ (wS4 g qv kv))))) rfl ?_
  refine j_aload_n C 0 dX4_setLength_28 rfl rfl ?_
  exact j_callVX (As := []) (rest := []) C yv_X4_checkTrialRope qw323 (x_X4_checkTrialRope_no l hl g r qn qt qv kn (kLen kn kt x) kv sc ns tx tn pl (SOK_len hk hx) hh) (by decide) 0 rfl rfl rfl dX4_setLength_29 rfl (Nat.le_of_ble_eq_true rfl) (by decide) pf0 rfl hnt hlk ⟨by decide, by decide⟩ (fun w9 h9 => by rw [h9])

theorem c_X4_addPulley (l : Launch) (g : Gh) (r : Nat → Nat) (qn qt : Nat → Nat) (qv : Nat → Nat → Nat) (kn kt : Nat → Nat → Int) (kv : Nat → Nat → Nat → Int) (sc : Int) (ns : Nat) (tx : Nat → Int) (tn : Nat) (pl : Int) (b : Int) (hT : TOK kn kv sc ns tx tn) (hb4 : 0 ≤ b ∧ b < 4) (hP9 : kn 0 2 < 10) (hh : 0 ≤ hnd (kAdd kn kt b)) : CT l g yX4_addPulley cX4_addPulley 2 (some FieldType.int) ({ frames := 5, cells := 0, slots := 0, locals := 106 }) [.ref (r 0), .int (iI b)] ([(r 0, .inr (4, [.ref (qn 0), .ref (qt 0), .ref (r 1), .int (iI sc), .int (iI ((ns : Int))), .ref (r 2)])), (r 1, aS g 4 (fun j => some (qv j 0))), (r 2, .inr (3, [.ref (r 3), .int (iI ((tn : Int))), .int (iI pl)])), (r 3, aI g 60 tx)] ++ (wSt g qn kn ++ (wSt g qt kt ++ (wS4 g qv kv)))) (PE (some (.int (iI (kn 0 2 + 1)))) (wTp g r qn qt qv (cpS (kAdd kn kt b) kn) (kAdd kn kt b) (svk kn kv ns) (svs sc) (svn ns) tx tn pl)) := by
  refine CT.intro (L0 := [(0, .ref (r 0)), (1, .int (iI b))]) (own := RX4) (by decide) rfl (Nat.le_of_ble_eq_true rfl) rfl ?_
  intro pX eX sX mX argsX belowX methX cX A C hr hlk
  obtain ⟨⟨hk, hh0⟩, hkv, hsc, hns, htn, htx⟩ := id hT
  obtain ⟨hP, hE0, hF, hrow0, hwt, hht, hlen, hlat, hkept⟩ := id hk
  have hE : -10 ≤ kn 0 3 ∧ kn 0 3 ≤ 10 := by omega
  have hrow : ∀ i : Nat, (i : Int) < kn 0 2 → 0 ≤ kn 1 i ∧ kn 1 i ≤ 4 := fun i hi => by have := hrow0 i hi; omega
  have hc2 : cpS kn kt 0 2 = kn 0 2 := rfl
  have hhnd : 0 ≤ hnd kn ∧ hnd kn ≤ 300000 := ⟨hh0, hnd_le hk⟩
  refine j_iload_n C 1 dX4_addPulley_0 rfl rfl ?_
  refine j_callS (As := [.int (iI b)]) (rest := []) C ys_X4_checkBlock qw166 (c_X4_checkBlock l g b (by omega)) (by decide) rfl dX4_addPulley_1 rfl (Nat.le_of_ble_eq_true rfl) (by decide) (pf1 [] ([(r 0, .inr (4, [.ref (qn 0), .ref (qt 0), .ref (r 1), .int (iI sc), .int (iI ((ns : Int))), .ref (r 2)])), (r 1, aS g 4 (fun j => some (qv j 0))), (r 2, .inr (3, [.ref (r 3), .int (iI ((tn : Int))), .int (iI pl)])), (r 3, aI g 60 tx)] ++ (wSt g qn kn ++ (wSt g qt kt ++ (wS4 g qv kv))))) rfl (fun r9 w9 hq9 => ?_)
  obtain ⟨rfl, rfl⟩ := hq9
  refine J.to (L1 := [(0, .ref (r 0)), (1, .int (iI b))]) (S1 := []) (ws1 := ([(r 0, .inr (4, [.ref (qn 0), .ref (qt 0), .ref (r 1), .int (iI sc), .int (iI ((ns : Int))), .ref (r 2)])), (r 1, aS g 4 (fun j => some (qv j 0))), (r 2, .inr (3, [.ref (r 3), .int (iI ((tn : Int))), .int (iI pl)])), (r 3, aI g 60 tx)] ++ (wSt g qn kn ++ (wSt g qt kt ++ (wS4 g qv kv))))) rfl rfl rfl ?_
  refine j_aload_n C 0 dX4_addPulley_4 rfl rfl ?_
  refine j_get C ck4 0 0 (by decide) qw130 rfl rfl dX4_addPulley_5 ?_
  refine j_getN C ck2 4 0 (by decide) qn90 rfl rfl dX4_addPulley_8 ?_
  refine j_getN C ck1 5 1 (by decide) qn36 rfl rfl dX4_addPulley_11 ?_
  refine j_bipush C dX4_addPulley_14 (by decide) ?_
  refine j_icmp_lt (tgt := 29) C (by omega) (by decide) dX4_addPulley_16 (by decide) (fun c16 => ?_) (fun c16 => absurd c16 (by omega))
  refine j_aload_n C 0 dX4_addPulley_29 rfl rfl ?_
  refine j_get C ck4 0 1 (by decide) qw131 rfl rfl dX4_addPulley_30 ?_
  refine j_aload_n C 0 dX4_addPulley_33 rfl rfl ?_
  refine j_get C ck4 0 0 (by decide) qw130 rfl rfl dX4_addPulley_34 ?_
  refine j_callV (As := [.ref (qn 0)]) (rest := []) C yv_X2_copyFrom qw268 (c_X2_copyFrom l g qt kt qn kn) (by decide) 12 rfl rfl rfl dX4_addPulley_37 rfl (Nat.le_of_ble_eq_true rfl) (by decide) (pf2r [(r 0, .inr (4, [.ref (qn 0), .ref (qt 0), .ref (r 1), .int (iI sc), .int (iI ((ns : Int))), .ref (r 2)])), (r 1, aS g 4 (fun j => some (qv j 0))), (r 2, .inr (3, [.ref (r 3), .int (iI ((tn : Int))), .int (iI pl)])), (r 3, aI g 60 tx)] 8 [] (wS4 g qv kv)) rfl (fun r9 w9 hq9 => ?_)
  obtain ⟨rfl, rfl⟩ := hq9
  refine J.to (L1 := [(0, .ref (r 0)), (1, .int (iI b))]) (S1 := []) (ws1 := ([(r 0, .inr (4, [.ref (qn 0), .ref (qt 0), .ref (r 1), .int (iI sc), .int (iI ((ns : Int))), .ref (r 2)])), (r 1, aS g 4 (fun j => some (qv j 0))), (r 2, .inr (3, [.ref (r 3), .int (iI ((tn : Int))), .int (iI pl)])), (r 3, aI g 60 tx)] ++ (wSt g qn kn ++ (wSt g qt (cpS kn kt) ++ (wS4 g qv kv))))) rfl rfl rfl ?_
  refine j_aload_n C 0 dX4_addPulley_40 rfl rfl ?_
  refine j_get C ck4 0 1 (by decide) qw131 rfl rfl dX4_addPulley_41 ?_
  refine j_getN C ck2 12 0 (by decide) qn90 rfl rfl dX4_addPulley_44 ?_
  refine j_iload_n C 1 dX4_addPulley_47 rfl rfl ?_
  refine j_callV (As := [.int (iI b)]) (rest := []) C yv_X1_hang qw509 (c_X1_hang l g (qt 1) (qt 2) ((cpS kn kt) 1) ((cpS kn kt) 0 2) ((cpS kn kt) 0 3) ((cpS kn kt) 0 1) b (by omega)) (by decide) 13 rfl rfl rfl dX4_addPulley_48 rfl (Nat.le_of_ble_eq_true rfl) (by decide) (pf1 ([(r 0, .inr (4, [.ref (qn 0), .ref (qt 0), .ref (r 1), .int (iI sc), .int (iI ((ns : Int))), .ref (r 2)])), (r 1, aS g 4 (fun j => some (qv j 0))), (r 2, .inr (3, [.ref (r 3), .int (iI ((tn : Int))), .int (iI pl)])), (r 3, aI g 60 tx)] ++ (wSt g qn kn ++ ([(qt 0, .inr (2, [.ref (qt 1), .ref (qt 3), .ref (qt 5), .ref (qt 6), .ref (qt 7), .int (iI ((cpS kn kt) 0 0))]))]))) ([(qt 3, .inr (0, [.ref (qt 4), .int (iI ((cpS kn kt) 0 9)), .int (iI ((cpS kn kt) 0 6)), .int (iI ((cpS kn kt) 0 4)), .int (iI ((cpS kn kt) 0 5)), .long (lI ((cpS kn kt) 0 7)), .long (lI ((cpS kn kt) 0 8))])), (qt 4, aI g 48 ((cpS kn kt) 2)), (qt 5, aI g 4 ((cpS kn kt) 3)), (qt 6, aI g 4 ((cpS kn kt) 4)), (qt 7, aI g 4 ((cpS kn kt) 5))] ++ (wS4 g qv kv))) rfl (fun r9 w9 hq9 => ?_)
  obtain ⟨rfl, rfl⟩ := hq9
  refine J.to (L1 := [(0, .ref (r 0)), (1, .int (iI b))]) (S1 := []) (ws1 := ([(r 0, .inr (4, [.ref (qn 0), .ref (qt 0), .ref (r 1), .int (iI sc), .int (iI ((ns : Int))), .ref (r 2)])), (r 1, aS g 4 (fun j => some (qv j 0))), (r 2, .inr (3, [.ref (r 3), .int (iI ((tn : Int))), .int (iI pl)])), (r 3, aI g 60 tx)] ++ (wSt g qn kn ++ ([(qt 0, .inr (2, [.ref (qt 1), .ref (qt 3), .ref (qt 5), .ref (qt 6), .ref (qt 7), .int (iI ((cpS kn kt) 0 0))])), (qt 1, .inr (1, [.ref ((qt 2)), .int (iI (((cpS kn kt) 0 2) + 1)), .int (iI (((cpS kn kt) 0 3))), .int (iI (((cpS kn kt) 0 1)))])), ((qt 2), aI g 10 (va_up ((cpS kn kt) 1) ((((cpS kn kt) 0 2)).toNat) b)), (qt 3, .inr (0, [.ref (qt 4), .int (iI ((cpS kn kt) 0 9)), .int (iI ((cpS kn kt) 0 6)), .int (iI ((cpS kn kt) 0 4)), .int (iI ((cpS kn kt) 0 5)), .long (lI ((cpS kn kt) 0 7)), .long (lI ((cpS kn kt) 0 8))])), (qt 4, aI g 48 ((cpS kn kt) 2)), (qt 5, aI g 4 ((cpS kn kt) 3)), (qt 6, aI g 4 ((cpS kn kt) 4)), (qt 7, aI g 4 ((cpS kn kt) 5))] ++ (wS4 g qv kv))))) rfl rfl rfl ?_
  refine J.world (ws1 := ([(r 0, .inr (4, [.ref (qn 0), .ref (qt 0), .ref (r 1), .int (iI sc), .int (iI ((ns : Int))), .ref (r 2)])), (r 1, aS g 4 (fun j => some (qv j 0))), (r 2, .inr (3, [.ref (r 3), .int (iI ((tn : Int))), .int (iI pl)])), (r 3, aI g 60 tx)] ++ (wSt g qn kn ++ (wSt g qt (kAdd kn kt b) ++ (wS4 g qv kv))))) rfl ?_
  refine j_aload_n C 0 dX4_addPulley_51 rfl rfl ?_
  refine j_callV (As := []) (rest := []) C yv_X4_checkTrialRope qw323 (c_X4_checkTrialRope l g r qn qt qv kn (kAdd kn kt b) kv sc ns tx tn pl (SOK_add hk hb4 hP9) hh) (by decide) 0 rfl rfl rfl dX4_addPulley_52 rfl (Nat.le_of_ble_eq_true rfl) (by decide) pf0 rfl (fun r9 w9 hq9 => ?_)
  obtain ⟨rfl, rfl⟩ := hq9
  refine J.to (L1 := [(0, .ref (r 0)), (1, .int (iI b))]) (S1 := []) (ws1 := ([(r 0, .inr (4, [.ref (qn 0), .ref (qt 0), .ref (r 1), .int (iI sc), .int (iI ((ns : Int))), .ref (r 2)])), (r 1, aS g 4 (fun j => some (qv j 0))), (r 2, .inr (3, [.ref (r 3), .int (iI ((tn : Int))), .int (iI pl)])), (r 3, aI g 60 tx)] ++ (wSt g qn kn ++ (wSt g qt (kAdd kn kt b) ++ (wS4 g qv kv))))) rfl rfl rfl ?_
  refine j_aload_n C 0 dX4_addPulley_55 rfl rfl ?_
  refine j_callV (As := []) (rest := []) C yv_X4_acceptTrial qw363 (c_X4_acceptTrial l g r qn qt qv kn (kAdd kn kt b) kv sc ns tx tn pl hsc hns) (by decide) 0 rfl rfl rfl dX4_addPulley_56 rfl (Nat.le_of_ble_eq_true rfl) (by decide) pf0 rfl (fun r9 w9 hq9 => ?_)
  obtain ⟨rfl, rfl⟩ := hq9
  refine J.to (L1 := [(0, .ref (r 0)), (1, .int (iI b))]) (S1 := []) (ws1 := ([(r 0, .inr (4, [.ref (qn 0), .ref (qt 0), .ref (r 1), .int (iI (svs sc)), .int (iI ((svn ns : Int))), .ref (r 2)])), (r 1, aS g 4 (fun j => some (qv j 0))), (r 2, .inr (3, [.ref (r 3), .int (iI ((tn : Int))), .int (iI pl)])), (r 3, aI g 60 tx)] ++ (wSt g qn (cpS (kAdd kn kt b) kn) ++ (wSt g qt (kAdd kn kt b) ++ (wS4 g qv (svk kn kv ns)))))) rfl rfl rfl ?_
  refine j_aload_n C 0 dX4_addPulley_59 rfl rfl ?_
  refine j_get C ck4 0 0 (by decide) qw130 rfl rfl dX4_addPulley_60 ?_
  refine j_getN C ck2 4 0 (by decide) qn90 rfl rfl dX4_addPulley_63 ?_
  refine j_getN C ck1 5 1 (by decide) qn36 rfl rfl dX4_addPulley_66 ?_
  exact j_iret C hr hlk dX4_addPulley_69 ⟨rfl, rfl⟩ (by decide) (by decide)

theorem x_X4_addPulley_1 (l : Launch) (hl : l.stackTraces = false) (g : Gh) (r : Nat → Nat) (qn qt : Nat → Nat) (qv : Nat → Nat → Nat) (kn kt : Nat → Nat → Int) (kv : Nat → Nat → Nat → Int) (sc : Int) (ns : Nat) (tx : Nat → Int) (tn : Nat) (pl : Int) (b : Int) (hT : TOK kn kv sc ns tx tn) (hrb : -2147483648 ≤ b ∧ b < 2147483648) (hb4 : b < 0 ∨ 4 ≤ b) : CX l g yX4_addPulley cX4_addPulley 2 (some FieldType.int) ({ frames := 7, cells := 1, slots := 6, locals := 120 }) [.ref (r 0), .int (iI b)] ([(r 0, .inr (4, [.ref (qn 0), .ref (qt 0), .ref (r 1), .int (iI sc), .int (iI ((ns : Int))), .ref (r 2)])), (r 1, aS g 4 (fun j => some (qv j 0))), (r 2, .inr (3, [.ref (r 3), .int (iI ((tn : Int))), .int (iI pl)])), (r 3, aI g 60 tx)] ++ (wSt g qn kn ++ (wSt g qt kt ++ (wS4 g qv kv)))) "java/lang/IndexOutOfBoundsException" (fun w9 => w9 = wTp g r qn qt qv kn kt kv sc ns tx tn pl) := by
  refine CX.intro (L0 := [(0, .ref (r 0)), (1, .int (iI b))]) (own := RX4) (by decide) rfl (Nat.le_of_ble_eq_true rfl) rfl ?_
  intro pX eX sX mX argsX belowX methX cX A C hlk hnt
  obtain ⟨⟨hk, hh0⟩, hkv, hsc, hns, htn, htx⟩ := id hT
  obtain ⟨hP, hE0, hF, hrow0, hwt, hht, hlen, hlat, hkept⟩ := id hk
  have hE : -10 ≤ kn 0 3 ∧ kn 0 3 ≤ 10 := by omega
  have hrow : ∀ i : Nat, (i : Int) < kn 0 2 → 0 ≤ kn 1 i ∧ kn 1 i ≤ 4 := fun i hi => by have := hrow0 i hi; omega
  have hc2 : cpS kn kt 0 2 = kn 0 2 := rfl
  have hhnd : 0 ≤ hnd kn ∧ hnd kn ≤ 300000 := ⟨hh0, hnd_le hk⟩
  refine j_iload_n C 1 dX4_addPulley_0 rfl rfl ?_
  exact j_callSX (As := [.int (iI b)]) (rest := []) C ys_X4_checkBlock qw166 (x_X4_checkBlock_no l hl g b (by omega) (by omega)) (by decide) rfl dX4_addPulley_1 rfl (Nat.le_of_ble_eq_true rfl) (by decide) (pf1 [] ([(r 0, .inr (4, [.ref (qn 0), .ref (qt 0), .ref (r 1), .int (iI sc), .int (iI ((ns : Int))), .ref (r 2)])), (r 1, aS g 4 (fun j => some (qv j 0))), (r 2, .inr (3, [.ref (r 3), .int (iI ((tn : Int))), .int (iI pl)])), (r 3, aI g 60 tx)] ++ (wSt g qn kn ++ (wSt g qt kt ++ (wS4 g qv kv))))) rfl hnt hlk ⟨by decide, by decide⟩ (fun w9 h9 => by rw [h9]; rfl)

theorem x_X4_addPulley_2 (l : Launch) (hl : l.stackTraces = false) (g : Gh) (r : Nat → Nat) (qn qt : Nat → Nat) (qv : Nat → Nat → Nat) (kn kt : Nat → Nat → Int) (kv : Nat → Nat → Nat → Int) (sc : Int) (ns : Nat) (tx : Nat → Int) (tn : Nat) (pl : Int) (b : Int) (hT : TOK kn kv sc ns tx tn) (hb4 : 0 ≤ b ∧ b < 4) (hP9 : kn 0 2 = 10) : CX l g yX4_addPulley cX4_addPulley 2 (some FieldType.int) ({ frames := 7, cells := 1, slots := 6, locals := 120 }) [.ref (r 0), .int (iI b)] ([(r 0, .inr (4, [.ref (qn 0), .ref (qt 0), .ref (r 1), .int (iI sc), .int (iI ((ns : Int))), .ref (r 2)])), (r 1, aS g 4 (fun j => some (qv j 0))), (r 2, .inr (3, [.ref (r 3), .int (iI ((tn : Int))), .int (iI pl)])), (r 3, aI g 60 tx)] ++ (wSt g qn kn ++ (wSt g qt kt ++ (wS4 g qv kv)))) "java/lang/IllegalStateException" (fun w9 => w9 = wTp g r qn qt qv kn kt kv sc ns tx tn pl) := by
  refine CX.intro (L0 := [(0, .ref (r 0)), (1, .int (iI b))]) (own := RX4) (by decide) rfl (Nat.le_of_ble_eq_true rfl) rfl ?_
  intro pX eX sX mX argsX belowX methX cX A C hlk hnt
  obtain ⟨⟨hk, hh0⟩, hkv, hsc, hns, htn, htx⟩ := id hT
  obtain ⟨hP, hE0, hF, hrow0, hwt, hht, hlen, hlat, hkept⟩ := id hk
  have hE : -10 ≤ kn 0 3 ∧ kn 0 3 ≤ 10 := by omega
  have hrow : ∀ i : Nat, (i : Int) < kn 0 2 → 0 ≤ kn 1 i ∧ kn 1 i ≤ 4 := fun i hi => by have := hrow0 i hi; omega
  have hc2 : cpS kn kt 0 2 = kn 0 2 := rfl
  have hhnd : 0 ≤ hnd kn ∧ hnd kn ≤ 300000 := ⟨hh0, hnd_le hk⟩
  refine j_iload_n C 1 dX4_addPulley_0 rfl rfl ?_
  refine j_callS (As := [.int (iI b)]) (rest := []) C ys_X4_checkBlock qw166 (c_X4_checkBlock l g b (by omega)) (by decide) rfl dX4_addPulley_1 rfl (Nat.le_of_ble_eq_true rfl) (by decide) (pf1 [] ([(r 0, .inr (4, [.ref (qn 0), .ref (qt 0), .ref (r 1), .int (iI sc), .int (iI ((ns : Int))), .ref (r 2)])), (r 1, aS g 4 (fun j => some (qv j 0))), (r 2, .inr (3, [.ref (r 3), .int (iI ((tn : Int))), .int (iI pl)])), (r 3, aI g 60 tx)] ++ (wSt g qn kn ++ (wSt g qt kt ++ (wS4 g qv kv))))) rfl (fun r9 w9 hq9 => ?_)
  obtain ⟨rfl, rfl⟩ := hq9
  refine J.to (L1 := [(0, .ref (r 0)), (1, .int (iI b))]) (S1 := []) (ws1 := ([(r 0, .inr (4, [.ref (qn 0), .ref (qt 0), .ref (r 1), .int (iI sc), .int (iI ((ns : Int))), .ref (r 2)])), (r 1, aS g 4 (fun j => some (qv j 0))), (r 2, .inr (3, [.ref (r 3), .int (iI ((tn : Int))), .int (iI pl)])), (r 3, aI g 60 tx)] ++ (wSt g qn kn ++ (wSt g qt kt ++ (wS4 g qv kv))))) rfl rfl rfl ?_
  refine j_aload_n C 0 dX4_addPulley_4 rfl rfl ?_
  refine j_get C ck4 0 0 (by decide) qw130 rfl rfl dX4_addPulley_5 ?_
  refine j_getN C ck2 4 0 (by decide) qn90 rfl rfl dX4_addPulley_8 ?_
  refine j_getN C ck1 5 1 (by decide) qn36 rfl rfl dX4_addPulley_11 ?_
  refine j_bipush C dX4_addPulley_14 (by decide) ?_
  refine j_icmp_lt (tgt := 29) C (by omega) (by decide) dX4_addPulley_16 (by decide) (fun c16 => absurd c16 (by omega)) (fun c16 => ?_)
  exact j_throw C hl hlk hnt exw_IllegalStateException qw347 qw9 (by decide +kernel) (List.mem_of_getElem? (i := 5) rfl) dX4_addPulley_19 dX4_addPulley_22 dX4_addPulley_23 dX4_addPulley_25 dX4_addPulley_28 ⟨by decide, Nat.le_of_ble_eq_true rfl⟩ ⟨by decide, by decide⟩ rfl ⟨by decide, by decide⟩

theorem x_X4_addPulley_3 (l : Launch) (hl : l.stackTraces = false) (g : Gh) (r : Nat → Nat) (qn qt : Nat → Nat) (qv : Nat → Nat → Nat) (kn kt : Nat → Nat → Int) (kv : Nat → Nat → Nat → Int) (sc : Int) (ns : Nat) (tx : Nat → Int) (tn : Nat) (pl : Int) (b : Int) (hT : TOK kn kv sc ns tx tn) (hb4 : 0 ≤ b ∧ b < 4) (hP9 : kn 0 2 < 10) (hh : hnd (kAdd kn kt b) < 0) : CX l g yX4_addPulley cX4_addPulley 2 (some FieldType.int) ({ frames := 7, cells := 1, slots := 6, locals := 120 }) [.ref (r 0), .int (iI b)] ([(r 0, .inr (4, [.ref (qn 0), .ref (qt 0), .ref (r 1), .int (iI sc), .int (iI ((ns : Int))), .ref (r 2)])), (r 1, aS g 4 (fun j => some (qv j 0))), (r 2, .inr (3, [.ref (r 3), .int (iI ((tn : Int))), .int (iI pl)])), (r 3, aI g 60 tx)] ++ (wSt g qn kn ++ (wSt g qt kt ++ (wS4 g qv kv)))) "java/lang/IllegalStateException" (fun w9 => w9 = wTp g r qn qt qv kn (kAdd kn kt b) kv sc ns tx tn pl) := by
  refine CX.intro (L0 := [(0, .ref (r 0)), (1, .int (iI b))]) (own := RX4) (by decide) rfl (Nat.le_of_ble_eq_true rfl) rfl ?_
  intro pX eX sX mX argsX belowX methX cX A C hlk hnt
  obtain ⟨⟨hk, hh0⟩, hkv, hsc, hns, htn, htx⟩ := id hT
  obtain ⟨hP, hE0, hF, hrow0, hwt, hht, hlen, hlat, hkept⟩ := id hk
  have hE : -10 ≤ kn 0 3 ∧ kn 0 3 ≤ 10 := by omega
  have hrow : ∀ i : Nat, (i : Int) < kn 0 2 → 0 ≤ kn 1 i ∧ kn 1 i ≤ 4 := fun i hi => by have := hrow0 i hi; omega
  have hc2 : cpS kn kt 0 2 = kn 0 2 := rfl
  have hhnd : 0 ≤ hnd kn ∧ hnd kn ≤ 300000 := ⟨hh0, hnd_le hk⟩
  refine j_iload_n C 1 dX4_addPulley_0 rfl rfl ?_
  refine j_callS (As := [.int (iI b)]) (rest := []) C ys_X4_checkBlock qw166 (c_X4_checkBlock l g b (by omega)) (by decide) rfl dX4_addPulley_1 rfl (Nat.le_of_ble_eq_true rfl) (by decide) (pf1 [] ([(r 0, .inr (4, [.ref (qn 0), .ref (qt 0), .ref (r 1), .int (iI sc), .int (iI ((ns : Int))), .ref (r 2)])), (r 1, aS g 4 (fun j => some (qv j 0))), (r 2, .inr (3, [.ref (r 3), .int (iI ((tn : Int))), .int (iI pl)])), (r 3, aI g 60 tx)] ++ (wSt g qn kn ++ (wSt g qt kt ++ (wS4 g qv kv))))) rfl (fun r9 w9 hq9 => ?_)
  obtain ⟨rfl, rfl⟩ := hq9
  refine J.to (L1 := [(0, .ref (r 0)), (1, .int (iI b))]) (S1 := []) (ws1 := ([(r 0, .inr (4, [.ref (qn 0), .ref (qt 0), .ref (r 1), .int (iI sc), .int (iI ((ns : Int))), .ref (r 2)])), (r 1, aS g 4 (fun j => some (qv j 0))), (r 2, .inr (3, [.ref (r 3), .int (iI ((tn : Int))), .int (iI pl)])), (r 3, aI g 60 tx)] ++ (wSt g qn kn ++ (wSt g qt kt ++ (wS4 g qv kv))))) rfl rfl rfl ?_
  refine j_aload_n C 0 dX4_addPulley_4 rfl rfl ?_
  refine j_get C ck4 0 0 (by decide) qw130 rfl rfl dX4_addPulley_5 ?_
  refine j_getN C ck2 4 0 (by decide) qn90 rfl rfl dX4_addPulley_8 ?_
  refine j_getN C ck1 5 1 (by decide) qn36 rfl rfl dX4_addPulley_11 ?_
  refine j_bipush C dX4_addPulley_14 (by decide) ?_
  refine j_icmp_lt (tgt := 29) C (by omega) (by decide) dX4_addPulley_16 (by decide) (fun c16 => ?_) (fun c16 => absurd c16 (by omega))
  refine j_aload_n C 0 dX4_addPulley_29 rfl rfl ?_
  refine j_get C ck4 0 1 (by decide) qw131 rfl rfl dX4_addPulley_30 ?_
  refine j_aload_n C 0 dX4_addPulley_33 rfl rfl ?_
  refine j_get C ck4 0 0 (by decide) qw130 rfl rfl dX4_addPulley_34 ?_
  refine j_callV (As := [.ref (qn 0)]) (rest := []) C yv_X2_copyFrom qw268 (c_X2_copyFrom l g qt kt qn kn) (by decide) 12 rfl rfl rfl dX4_addPulley_37 rfl (Nat.le_of_ble_eq_true rfl) (by decide) (pf2r [(r 0, .inr (4, [.ref (qn 0), .ref (qt 0), .ref (r 1), .int (iI sc), .int (iI ((ns : Int))), .ref (r 2)])), (r 1, aS g 4 (fun j => some (qv j 0))), (r 2, .inr (3, [.ref (r 3), .int (iI ((tn : Int))), .int (iI pl)])), (r 3, aI g 60 tx)] 8 [] (wS4 g qv kv)) rfl (fun r9 w9 hq9 => ?_)
  obtain ⟨rfl, rfl⟩ := hq9
  refine J.to (L1 := [(0, .ref (r 0)), (1, .int (iI b))]) (S1 := []) (ws1 := ([(r 0, .inr (4, [.ref (qn 0), .ref (qt 0), .ref (r 1), .int (iI sc), .int (iI ((ns : Int))), .ref (r 2)])), (r 1, aS g 4 (fun j => some (qv j 0))), (r 2, .inr (3, [.ref (r 3), .int (iI ((tn : Int))), .int (iI pl)])), (r 3, aI g 60 tx)] ++ (wSt g qn kn ++ (wSt g qt (cpS kn kt) ++ (wS4 g qv kv))))) rfl rfl rfl ?_
  refine j_aload_n C 0 dX4_addPulley_40 rfl rfl ?_
  refine j_get C ck4 0 1 (by decide) qw131 rfl rfl dX4_addPulley_41 ?_
  refine j_getN C ck2 12 0 (by decide) qn90 rfl rfl dX4_addPulley_44 ?_
  refine j_iload_n C 1 dX4_addPulley_47 rfl rfl ?_
  refine j_callV (As := [.int (iI b)]) (rest := []) C yv_X1_hang qw509 (c_X1_hang l g (qt 1) (qt 2) ((cpS kn kt) 1) ((cpS kn kt) 0 2) ((cpS kn kt) 0 3) ((cpS kn kt) 0 1) b (by omega)) (by decide) 13 rfl rfl rfl dX4_addPulley_48 rfl (Nat.le_of_ble_eq_true rfl) (by decide) (pf1 ([(r 0, .inr (4, [.ref (qn 0), .ref (qt 0), .ref (r 1), .int (iI sc), .int (iI ((ns : Int))), .ref (r 2)])), (r 1, aS g 4 (fun j => some (qv j 0))), (r 2, .inr (3, [.ref (r 3), .int (iI ((tn : Int))), .int (iI pl)])), (r 3, aI g 60 tx)] ++ (wSt g qn kn ++ ([(qt 0, .inr (2, [.ref (qt 1), .ref (qt 3), .ref (qt 5), .ref (qt 6), .ref (qt 7), .int (iI ((cpS kn kt) 0 0))]))]))) ([(qt 3, .inr (0, [.ref (qt 4), .int (iI ((cpS kn kt) 0 9)), .int (iI ((cpS kn kt) 0 6)), .int (iI ((cpS kn kt) 0 4)), .int (iI ((cpS kn kt) 0 5)), .long (lI ((cpS kn kt) 0 7)), .long (lI ((cpS kn kt) 0 8))])), (qt 4, aI g 48 ((cpS kn kt) 2)), (qt 5, aI g 4 ((cpS kn kt) 3)), (qt 6, aI g 4 ((cpS kn kt) 4)), (qt 7, aI g 4 ((cpS kn kt) 5))] ++ (wS4 g qv kv))) rfl (fun r9 w9 hq9 => ?_)
  obtain ⟨rfl, rfl⟩ := hq9
  refine J.to (L1 := [(0, .ref (r 0)), (1, .int (iI b))]) (S1 := []) (ws1 := ([(r 0, .inr (4, [.ref (qn 0), .ref (qt 0), .ref (r 1), .int (iI sc), .int (iI ((ns : Int))), .ref (r 2)])), (r 1, aS g 4 (fun j => some (qv j 0))), (r 2, .inr (3, [.ref (r 3), .int (iI ((tn : Int))), .int (iI pl)])), (r 3, aI g 60 tx)] ++ (wSt g qn kn ++ ([(qt 0, .inr (2, [.ref (qt 1), .ref (qt 3), .ref (qt 5), .ref (qt 6), .ref (qt 7), .int (iI ((cpS kn kt) 0 0))])), (qt 1, .inr (1, [.ref ((qt 2)), .int (iI (((cpS kn kt) 0 2) + 1)), .int (iI (((cpS kn kt) 0 3))), .int (iI (((cpS kn kt) 0 1)))])), ((qt 2), aI g 10 (va_up ((cpS kn kt) 1) ((((cpS kn kt) 0 2)).toNat) b)), (qt 3, .inr (0, [.ref (qt 4), .int (iI ((cpS kn kt) 0 9)), .int (iI ((cpS kn kt) 0 6)), .int (iI ((cpS kn kt) 0 4)), .int (iI ((cpS kn kt) 0 5)), .long (lI ((cpS kn kt) 0 7)), .long (lI ((cpS kn kt) 0 8))])), (qt 4, aI g 48 ((cpS kn kt) 2)), (qt 5, aI g 4 ((cpS kn kt) 3)), (qt 6, aI g 4 ((cpS kn kt) 4)), (qt 7, aI g 4 ((cpS kn kt) 5))] ++ (wS4 g qv kv))))) rfl rfl rfl ?_
  refine J.world (ws1 := ([(r 0, .inr (4, [.ref (qn 0), .ref (qt 0), .ref (r 1), .int (iI sc), .int (iI ((ns : Int))), .ref (r 2)])), (r 1, aS g 4 (fun j => some (qv j 0))), (r 2, .inr (3, [.ref (r 3), .int (iI ((tn : Int))), .int (iI pl)])), (r 3, aI g 60 tx)] ++ (wSt g qn kn ++ (wSt g qt (kAdd kn kt b) ++ (wS4 g qv kv))))) rfl ?_
  refine j_aload_n C 0 dX4_addPulley_51 rfl rfl ?_
  exact j_callVX (As := []) (rest := []) C yv_X4_checkTrialRope qw323 (x_X4_checkTrialRope_no l hl g r qn qt qv kn (kAdd kn kt b) kv sc ns tx tn pl (SOK_add hk hb4 hP9) hh) (by decide) 0 rfl rfl rfl dX4_addPulley_52 rfl (Nat.le_of_ble_eq_true rfl) (by decide) pf0 rfl hnt hlk ⟨by decide, by decide⟩ (fun w9 h9 => by rw [h9])

theorem c_X4_takePulley (l : Launch) (g : Gh) (r : Nat → Nat) (qn qt : Nat → Nat) (qv : Nat → Nat → Nat) (kn kt : Nat → Nat → Int) (kv : Nat → Nat → Nat → Int) (sc : Int) (ns : Nat) (tx : Nat → Int) (tn : Nat) (pl : Int) (hT : TOK kn kv sc ns tx tn) (hP0 : 0 < kn 0 2) : CT l g yX4_takePulley cX4_takePulley 1 (some FieldType.int) ({ frames := 4, cells := 0, slots := 0, locals := 85 }) [.ref (r 0)] ([(r 0, .inr (4, [.ref (qn 0), .ref (qt 0), .ref (r 1), .int (iI sc), .int (iI ((ns : Int))), .ref (r 2)])), (r 1, aS g 4 (fun j => some (qv j 0))), (r 2, .inr (3, [.ref (r 3), .int (iI ((tn : Int))), .int (iI pl)])), (r 3, aI g 60 tx)] ++ (wSt g qn kn ++ (wSt g qt kt ++ (wS4 g qv kv)))) (PE (some (.int (iI (kn 1 (kn 0 2 - 1).toNat)))) (wTp g r qn qt qv (kTake kn) kt (svk kn kv ns) (svs sc) (svn ns) tx tn pl)) := by
  refine CT.intro (L0 := [(0, .ref (r 0))]) (own := RX4) (by decide) rfl (Nat.le_of_ble_eq_true rfl) rfl ?_
  intro pX eX sX mX argsX belowX methX cX A C hr hlk
  obtain ⟨⟨hk, hh0⟩, hkv, hsc, hns, htn, htx⟩ := id hT
  obtain ⟨hP, hE0, hF, hrow0, hwt, hht, hlen, hlat, hkept⟩ := id hk
  have hE : -10 ≤ kn 0 3 ∧ kn 0 3 ≤ 10 := by omega
  have hrow : ∀ i : Nat, (i : Int) < kn 0 2 → 0 ≤ kn 1 i ∧ kn 1 i ≤ 4 := fun i hi => by have := hrow0 i hi; omega
  have hc2 : cpS kn kt 0 2 = kn 0 2 := rfl
  have hhnd : 0 ≤ hnd kn ∧ hnd kn ≤ 300000 := ⟨hh0, hnd_le hk⟩
  refine j_aload_n C 0 dX4_takePulley_0 rfl rfl ?_
  refine j_get C ck4 0 0 (by decide) qw130 rfl rfl dX4_takePulley_1 ?_
  refine j_getN C ck2 4 0 (by decide) qn90 rfl rfl dX4_takePulley_4 ?_
  refine j_getN C ck1 5 1 (by decide) qn36 rfl rfl dX4_takePulley_7 ?_
  refine j_if_gt (tgt := 23) C (by omega) dX4_takePulley_10 (by decide) (fun c10 => ?_) (fun c10 => absurd c10 (by omega))
  refine j_aload_n C 0 dX4_takePulley_23 rfl rfl ?_
  refine j_callV (As := []) (rest := []) C yv_X4_save qw260 (c_X4_save l g r qn qt qv kn kt kv sc ns tx tn pl hsc hns) (by decide) 0 rfl rfl rfl dX4_takePulley_24 rfl (Nat.le_of_ble_eq_true rfl) (by decide) pf0 rfl (fun r9 w9 hq9 => ?_)
  obtain ⟨rfl, rfl⟩ := hq9
  refine J.to (L1 := [(0, .ref (r 0))]) (S1 := []) (ws1 := ([(r 0, .inr (4, [.ref (qn 0), .ref (qt 0), .ref (r 1), .int (iI (svs sc)), .int (iI ((svn ns : Int))), .ref (r 2)])), (r 1, aS g 4 (fun j => some (qv j 0))), (r 2, .inr (3, [.ref (r 3), .int (iI ((tn : Int))), .int (iI pl)])), (r 3, aI g 60 tx)] ++ (wSt g qn kn ++ (wSt g qt kt ++ (wS4 g qv (svk kn kv ns)))))) rfl rfl rfl ?_
  refine j_aload_n C 0 dX4_takePulley_27 rfl rfl ?_
  refine j_get C ck4 0 0 (by decide) qw130 rfl rfl dX4_takePulley_28 ?_
  refine j_getN C ck2 4 0 (by decide) qn90 rfl rfl dX4_takePulley_31 ?_
  refine j_callV (As := []) (rest := []) C yv_X1_unhang qw591 (c_X1_unhang l g (qn 1) (qn 2) (kn 1) (kn 0 2) (kn 0 3) (kn 0 1)  (by omega)) (by decide) 5 rfl rfl rfl dX4_takePulley_34 rfl (Nat.le_of_ble_eq_true rfl) (by decide) (pf1 [(r 0, .inr (4, [.ref (qn 0), .ref (qt 0), .ref (r 1), .int (iI (svs sc)), .int (iI ((svn ns : Int))), .ref (r 2)])), (r 1, aS g 4 (fun j => some (qv j 0))), (r 2, .inr (3, [.ref (r 3), .int (iI ((tn : Int))), .int (iI pl)])), (r 3, aI g 60 tx), (qn 0, .inr (2, [.ref (qn 1), .ref (qn 3), .ref (qn 5), .ref (qn 6), .ref (qn 7), .int (iI (kn 0 0))]))] ([(qn 3, .inr (0, [.ref (qn 4), .int (iI (kn 0 9)), .int (iI (kn 0 6)), .int (iI (kn 0 4)), .int (iI (kn 0 5)), .long (lI (kn 0 7)), .long (lI (kn 0 8))])), (qn 4, aI g 48 (kn 2)), (qn 5, aI g 4 (kn 3)), (qn 6, aI g 4 (kn 4)), (qn 7, aI g 4 (kn 5))] ++ (wSt g qt kt ++ (wS4 g qv (svk kn kv ns))))) rfl (fun r9 w9 hq9 => ?_)
  obtain ⟨rfl, rfl⟩ := hq9
  refine J.to (L1 := [(0, .ref (r 0))]) (S1 := [.int (iI ((kn 1) ((kn 0 2) - 1).toNat))]) (ws1 := ([(r 0, .inr (4, [.ref (qn 0), .ref (qt 0), .ref (r 1), .int (iI (svs sc)), .int (iI ((svn ns : Int))), .ref (r 2)])), (r 1, aS g 4 (fun j => some (qv j 0))), (r 2, .inr (3, [.ref (r 3), .int (iI ((tn : Int))), .int (iI pl)])), (r 3, aI g 60 tx), (qn 0, .inr (2, [.ref (qn 1), .ref (qn 3), .ref (qn 5), .ref (qn 6), .ref (qn 7), .int (iI (kn 0 0))])), (qn 1, .inr (1, [.ref ((qn 2)), .int (iI ((kn 0 2) - 1)), .int (iI ((kn 0 3))), .int (iI ((kn 0 1)))])), ((qn 2), aI g 10 ((kn 1))), (qn 3, .inr (0, [.ref (qn 4), .int (iI (kn 0 9)), .int (iI (kn 0 6)), .int (iI (kn 0 4)), .int (iI (kn 0 5)), .long (lI (kn 0 7)), .long (lI (kn 0 8))])), (qn 4, aI g 48 (kn 2)), (qn 5, aI g 4 (kn 3)), (qn 6, aI g 4 (kn 4)), (qn 7, aI g 4 (kn 5))] ++ (wSt g qt kt ++ (wS4 g qv (svk kn kv ns))))) rfl rfl rfl ?_
  refine J.world (ws1 := ([(r 0, .inr (4, [.ref (qn 0), .ref (qt 0), .ref (r 1), .int (iI (svs sc)), .int (iI ((svn ns : Int))), .ref (r 2)])), (r 1, aS g 4 (fun j => some (qv j 0))), (r 2, .inr (3, [.ref (r 3), .int (iI ((tn : Int))), .int (iI pl)])), (r 3, aI g 60 tx)] ++ (wSt g qn (kTake kn) ++ (wSt g qt kt ++ (wS4 g qv (svk kn kv ns)))))) rfl ?_
  exact j_iret C hr hlk dX4_takePulley_37 ⟨rfl, rfl⟩ (by decide) (by decide)

theorem x_X4_takePulley_1 (l : Launch) (hl : l.stackTraces = false) (g : Gh) (r : Nat → Nat) (qn qt : Nat → Nat) (qv : Nat → Nat → Nat) (kn kt : Nat → Nat → Int) (kv : Nat → Nat → Nat → Int) (sc : Int) (ns : Nat) (tx : Nat → Int) (tn : Nat) (pl : Int) (hT : TOK kn kv sc ns tx tn) (hP0 : kn 0 2 = 0) : CX l g yX4_takePulley cX4_takePulley 1 (some FieldType.int) ({ frames := 6, cells := 1, slots := 6, locals := 100 }) [.ref (r 0)] ([(r 0, .inr (4, [.ref (qn 0), .ref (qt 0), .ref (r 1), .int (iI sc), .int (iI ((ns : Int))), .ref (r 2)])), (r 1, aS g 4 (fun j => some (qv j 0))), (r 2, .inr (3, [.ref (r 3), .int (iI ((tn : Int))), .int (iI pl)])), (r 3, aI g 60 tx)] ++ (wSt g qn kn ++ (wSt g qt kt ++ (wS4 g qv kv)))) "java/lang/IllegalStateException" (fun w9 => w9 = wTp g r qn qt qv kn kt kv sc ns tx tn pl) := by
  refine CX.intro (L0 := [(0, .ref (r 0))]) (own := RX4) (by decide) rfl (Nat.le_of_ble_eq_true rfl) rfl ?_
  intro pX eX sX mX argsX belowX methX cX A C hlk hnt
  obtain ⟨⟨hk, hh0⟩, hkv, hsc, hns, htn, htx⟩ := id hT
  obtain ⟨hP, hE0, hF, hrow0, hwt, hht, hlen, hlat, hkept⟩ := id hk
  have hE : -10 ≤ kn 0 3 ∧ kn 0 3 ≤ 10 := by omega
  have hrow : ∀ i : Nat, (i : Int) < kn 0 2 → 0 ≤ kn 1 i ∧ kn 1 i ≤ 4 := fun i hi => by have := hrow0 i hi; omega
  have hc2 : cpS kn kt 0 2 = kn 0 2 := rfl
  have hhnd : 0 ≤ hnd kn ∧ hnd kn ≤ 300000 := ⟨hh0, hnd_le hk⟩
  refine j_aload_n C 0 dX4_takePulley_0 rfl rfl ?_
  refine j_get C ck4 0 0 (by decide) qw130 rfl rfl dX4_takePulley_1 ?_
  refine j_getN C ck2 4 0 (by decide) qn90 rfl rfl dX4_takePulley_4 ?_
  refine j_getN C ck1 5 1 (by decide) qn36 rfl rfl dX4_takePulley_7 ?_
  refine j_if_gt (tgt := 23) C (by omega) dX4_takePulley_10 (by decide) (fun c10 => absurd c10 (by omega)) (fun c10 => ?_)
  exact j_throw C hl hlk hnt exw_IllegalStateException qw347 qw9 (by decide +kernel) (List.mem_of_getElem? (i := 6) rfl) dX4_takePulley_13 dX4_takePulley_16 dX4_takePulley_17 dX4_takePulley_19 dX4_takePulley_22 ⟨by decide, Nat.le_of_ble_eq_true rfl⟩ ⟨by decide, by decide⟩ rfl ⟨by decide, by decide⟩

theorem c_X4_setEnd (l : Launch) (g : Gh) (r : Nat → Nat) (qn qt : Nat → Nat) (qv : Nat → Nat → Nat) (kn kt : Nat → Nat → Int) (kv : Nat → Nat → Nat → Int) (sc : Int) (ns : Nat) (tx : Nat → Int) (tn : Nat) (pl : Int) (x : Int) (hT : TOK kn kv sc ns tx tn) (hx : 0 ≤ x ∧ x ≤ 4) (hh : 0 ≤ hnd (kEnd kn kt x)) : CT l g yX4_setEnd cX4_setEnd 3 (some FieldType.int) ({ frames := 5, cells := 0, slots := 0, locals := 106 }) [.ref (r 0), .int (iI x)] ([(r 0, .inr (4, [.ref (qn 0), .ref (qt 0), .ref (r 1), .int (iI sc), .int (iI ((ns : Int))), .ref (r 2)])), (r 1, aS g 4 (fun j => some (qv j 0))), (r 2, .inr (3, [.ref (r 3), .int (iI ((tn : Int))), .int (iI pl)])), (r 3, aI g 60 tx)] ++ (wSt g qn kn ++ (wSt g qt kt ++ (wS4 g qv kv)))) (PE (some (.int (iI (kn 0 3)))) (wTp g r qn qt qv (cpS (kEnd kn kt x) kn) (kEnd kn kt x) (svk kn kv ns) (svs sc) (svn ns) tx tn pl)) := by
  refine CT.intro (L0 := [(0, .ref (r 0)), (1, .int (iI x))]) (own := RX4) (by decide) rfl (Nat.le_of_ble_eq_true rfl) rfl ?_
  intro pX eX sX mX argsX belowX methX cX A C hr hlk
  obtain ⟨⟨hk, hh0⟩, hkv, hsc, hns, htn, htx⟩ := id hT
  obtain ⟨hP, hE0, hF, hrow0, hwt, hht, hlen, hlat, hkept⟩ := id hk
  have hE : -10 ≤ kn 0 3 ∧ kn 0 3 ≤ 10 := by omega
  have hrow : ∀ i : Nat, (i : Int) < kn 0 2 → 0 ≤ kn 1 i ∧ kn 1 i ≤ 4 := fun i hi => by have := hrow0 i hi; omega
  have hc2 : cpS kn kt 0 2 = kn 0 2 := rfl
  have hhnd : 0 ≤ hnd kn ∧ hnd kn ≤ 300000 := ⟨hh0, hnd_le hk⟩
  refine j_iload_n C 1 dX4_setEnd_0 rfl rfl ?_
  refine j_if_lt (tgt := 9) C (by omega) dX4_setEnd_1 (by decide) (fun c1 => absurd c1 (by omega)) (fun c1 => ?_)
  refine j_iload_n C 1 dX4_setEnd_4 rfl rfl ?_
  refine j_iconst C dX4_setEnd_5 ?_
  refine j_icmp_le (tgt := 19) C (by omega) (by decide) dX4_setEnd_6 (by decide) (fun c6 => ?_) (fun c6 => absurd c6 (by omega))
  refine j_aload_n C 0 dX4_setEnd_19 rfl rfl ?_
  refine j_get C ck4 0 0 (by decide) qw130 rfl rfl dX4_setEnd_20 ?_
  refine j_getN C ck2 4 0 (by decide) qn90 rfl rfl dX4_setEnd_23 ?_
  refine j_getN C ck1 5 2 (by decide) qn39 rfl rfl dX4_setEnd_26 ?_
  refine j_istore_n (L1 := [(2, .int (iI (kn 0 3))), (0, .ref (r 0)), (1, .int (iI x))]) C dX4_setEnd_29 rfl (by decide) rfl ?_
  refine j_aload_n C 1 dX4_setEnd_30 rfl rfl ?_
  refine j_get C ck4 0 1 (by decide) qw131 rfl rfl dX4_setEnd_31 ?_
  refine j_aload_n C 1 dX4_setEnd_34 rfl rfl ?_
  refine j_get C ck4 0 0 (by decide) qw130 rfl rfl dX4_setEnd_35 ?_
  refine j_callV (As := [.ref (qn 0)]) (rest := []) C yv_X2_copyFrom qw268 (c_X2_copyFrom l g qt kt qn kn) (by decide) 12 rfl rfl rfl dX4_setEnd_38 rfl (Nat.le_of_ble_eq_true rfl) (by decide) (pf2r [(r 0, .inr (4, [.ref (qn 0), .ref (qt 0), .ref (r 1), .int (iI sc), .int (iI ((ns : Int))), .ref (r 2)])), (r 1, aS g 4 (fun j => some (qv j 0))), (r 2, .inr (3, [.ref (r 3), .int (iI ((tn : Int))), .int (iI pl)])), (r 3, aI g 60 tx)] 8 [] (wS4 g qv kv)) rfl (fun r9 w9 hq9 => ?_)
  obtain ⟨rfl, rfl⟩ := hq9
  refine J.to (L1 := [(2, .int (iI (kn 0 3))), (0, .ref (r 0)), (1, .int (iI x))]) (S1 := []) (ws1 := ([(r 0, .inr (4, [.ref (qn 0), .ref (qt 0), .ref (r 1), .int (iI sc), .int (iI ((ns : Int))), .ref (r 2)])), (r 1, aS g 4 (fun j => some (qv j 0))), (r 2, .inr (3, [.ref (r 3), .int (iI ((tn : Int))), .int (iI pl)])), (r 3, aI g 60 tx)] ++ (wSt g qn kn ++ (wSt g qt (cpS kn kt) ++ (wS4 g qv kv))))) rfl rfl rfl ?_
  refine j_aload_n C 1 dX4_setEnd_41 rfl rfl ?_
  refine j_get C ck4 0 1 (by decide) qw131 rfl rfl dX4_setEnd_42 ?_
  refine j_getN C ck2 12 0 (by decide) qn90 rfl rfl dX4_setEnd_45 ?_
  refine j_iload_n C 2 dX4_setEnd_48 rfl rfl ?_
  refine j_putN (ws1 := ([(r 0, .inr (4, [.ref (qn 0), .ref (qt 0), .ref (r 1), .int (iI sc), .int (iI ((ns : Int))), .ref (r 2)])), (r 1, aS g 4 (fun j => some (qv j 0))), (r 2, .inr (3, [.ref (r 3), .int (iI ((tn : Int))), .int (iI pl)])), (r 3, aI g 60 tx)] ++ (wSt g qn kn ++ ([(qt 0, .inr (2, [.ref (qt 1), .ref (qt 3), .ref (qt 5), .ref (qt 6), .ref (qt 7), .int (iI ((cpS kn kt) 0 0))])), (qt 1, .inr (1, [.ref (qt 2), .int (iI ((cpS kn kt) 0 2)), .int (iI x), .int (iI ((cpS kn kt) 0 1))])), (qt 2, aI g 10 ((cpS kn kt) 1)), (qt 3, .inr (0, [.ref (qt 4), .int (iI ((cpS kn kt) 0 9)), .int (iI ((cpS kn kt) 0 6)), .int (iI ((cpS kn kt) 0 4)), .int (iI ((cpS kn kt) 0 5)), .long (lI ((cpS kn kt) 0 7)), .long (lI ((cpS kn kt) 0 8))])), (qt 4, aI g 48 ((cpS kn kt) 2)), (qt 5, aI g 4 ((cpS kn kt) 3)), (qt 6, aI g 4 ((cpS kn kt) 4)), (qt 7, aI g 4 ((cpS kn kt) 5))] ++ (wS4 g qv kv))))) C ck1 13 2 (by decide) qn39 rfl dX4_setEnd_49 rfl rfl rfl rfl (Nat.le_of_ble_eq_true rfl) ?_
  refine J.world (ws1 := ([(r 0, .inr (4, [.ref (qn 0), .ref (qt 0), .ref (r 1), .int (iI sc), .int (iI ((ns : Int))), .ref (r 2)])), (r 1, aS g 4 (fun j => some (qv j 0))), (r 2, .inr (3, [.ref (r 3), .int (iI ((tn : Int))), .int (iI pl)])), (r 3, aI g 60 tx)] ++ (wSt g qn kn ++ (wSt g qt (kEnd kn kt x) ++ (wS4 g qv kv))))) rfl ?_
  refine j_aload_n C 1 dX4_setEnd_52 rfl rfl ?_
  refine j_callV (As := []) (rest := []) C yv_X4_checkTrialRope qw323 (c_X4_checkTrialRope l g r qn qt qv kn (kEnd kn kt x) kv sc ns tx tn pl (SOK_end hk hx) hh) (by decide) 0 rfl rfl rfl dX4_setEnd_53 rfl (Nat.le_of_ble_eq_true rfl) (by decide) pf0 rfl (fun r9 w9 hq9 => ?_)
  obtain ⟨rfl, rfl⟩ := hq9
  refine J.to (L1 := [(2, .int (iI (kn 0 3))), (0, .ref (r 0)), (1, .int (iI x))]) (S1 := []) (ws1 := ([(r 0, .inr (4, [.ref (qn 0), .ref (qt 0), .ref (r 1), .int (iI sc), .int (iI ((ns : Int))), .ref (r 2)])), (r 1, aS g 4 (fun j => some (qv j 0))), (r 2, .inr (3, [.ref (r 3), .int (iI ((tn : Int))), .int (iI pl)])), (r 3, aI g 60 tx)] ++ (wSt g qn kn ++ (wSt g qt (kEnd kn kt x) ++ (wS4 g qv kv))))) rfl rfl rfl ?_
  refine j_aload_n C 1 dX4_setEnd_56 rfl rfl ?_
  refine j_callV (As := []) (rest := []) C yv_X4_acceptTrial qw363 (c_X4_acceptTrial l g r qn qt qv kn (kEnd kn kt x) kv sc ns tx tn pl hsc hns) (by decide) 0 rfl rfl rfl dX4_setEnd_57 rfl (Nat.le_of_ble_eq_true rfl) (by decide) pf0 rfl (fun r9 w9 hq9 => ?_)
  obtain ⟨rfl, rfl⟩ := hq9
  refine J.to (L1 := [(2, .int (iI (kn 0 3))), (0, .ref (r 0)), (1, .int (iI x))]) (S1 := []) (ws1 := ([(r 0, .inr (4, [.ref (qn 0), .ref (qt 0), .ref (r 1), .int (iI (svs sc)), .int (iI ((svn ns : Int))), .ref (r 2)])), (r 1, aS g 4 (fun j => some (qv j 0))), (r 2, .inr (3, [.ref (r 3), .int (iI ((tn : Int))), .int (iI pl)])), (r 3, aI g 60 tx)] ++ (wSt g qn (cpS (kEnd kn kt x) kn) ++ (wSt g qt (kEnd kn kt x) ++ (wS4 g qv (svk kn kv ns)))))) rfl rfl rfl ?_
  refine j_iload_n C 0 dX4_setEnd_60 rfl rfl ?_
  exact j_iret C hr hlk dX4_setEnd_61 ⟨rfl, rfl⟩ (by decide) (by decide)

theorem x_X4_setEnd_1 (l : Launch) (hl : l.stackTraces = false) (g : Gh) (r : Nat → Nat) (qn qt : Nat → Nat) (qv : Nat → Nat → Nat) (kn kt : Nat → Nat → Int) (kv : Nat → Nat → Nat → Int) (sc : Int) (ns : Nat) (tx : Nat → Int) (tn : Nat) (pl : Int) (x : Int) (hT : TOK kn kv sc ns tx tn) (hrx : -2147483648 ≤ x ∧ x < 2147483648) (hx : x < 0 ∨ 4 < x) : CX l g yX4_setEnd cX4_setEnd 3 (some FieldType.int) ({ frames := 7, cells := 1, slots := 6, locals := 120 }) [.ref (r 0), .int (iI x)] ([(r 0, .inr (4, [.ref (qn 0), .ref (qt 0), .ref (r 1), .int (iI sc), .int (iI ((ns : Int))), .ref (r 2)])), (r 1, aS g 4 (fun j => some (qv j 0))), (r 2, .inr (3, [.ref (r 3), .int (iI ((tn : Int))), .int (iI pl)])), (r 3, aI g 60 tx)] ++ (wSt g qn kn ++ (wSt g qt kt ++ (wS4 g qv kv)))) "java/lang/IndexOutOfBoundsException" (fun w9 => w9 = wTp g r qn qt qv kn kt kv sc ns tx tn pl) := by
  refine CX.intro (L0 := [(0, .ref (r 0)), (1, .int (iI x))]) (own := RX4) (by decide) rfl (Nat.le_of_ble_eq_true rfl) rfl ?_
  intro pX eX sX mX argsX belowX methX cX A C hlk hnt
  obtain ⟨⟨hk, hh0⟩, hkv, hsc, hns, htn, htx⟩ := id hT
  obtain ⟨hP, hE0, hF, hrow0, hwt, hht, hlen, hlat, hkept⟩ := id hk
  have hE : -10 ≤ kn 0 3 ∧ kn 0 3 ≤ 10 := by omega
  have hrow : ∀ i : Nat, (i : Int) < kn 0 2 → 0 ≤ kn 1 i ∧ kn 1 i ≤ 4 := fun i hi => by have := hrow0 i hi; omega
  have hc2 : cpS kn kt 0 2 = kn 0 2 := rfl
  have hhnd : 0 ≤ hnd kn ∧ hnd kn ≤ 300000 := ⟨hh0, hnd_le hk⟩
  refine j_iload_n C 1 dX4_setEnd_0 rfl rfl ?_
  refine j_if_lt (tgt := 9) C (by omega) dX4_setEnd_1 (by decide) (fun c1 => ?_) (fun c1 => ?_)
  · exact j_throw C hl hlk hnt exw_IndexOutOfBoundsException qw172 qw12 (by decide +kernel) (List.mem_of_getElem? (i := 7) rfl) dX4_setEnd_9 dX4_setEnd_12 dX4_setEnd_13 dX4_setEnd_15 dX4_setEnd_18 ⟨by decide, Nat.le_of_ble_eq_true rfl⟩ ⟨by decide, by decide⟩ rfl ⟨by decide, by decide⟩
  · refine j_iload_n C 1 dX4_setEnd_4 rfl rfl ?_
    refine j_iconst C dX4_setEnd_5 ?_
    refine j_icmp_le (tgt := 19) C (by omega) (by decide) dX4_setEnd_6 (by decide) (fun c6 => ?_) (fun c6 => ?_)
    · exact absurd hx (by omega)
    · exact j_throw C hl hlk hnt exw_IndexOutOfBoundsException qw172 qw12 (by decide +kernel) (List.mem_of_getElem? (i := 7) rfl) dX4_setEnd_9 dX4_setEnd_12 dX4_setEnd_13 dX4_setEnd_15 dX4_setEnd_18 ⟨by decide, Nat.le_of_ble_eq_true rfl⟩ ⟨by decide, by decide⟩ rfl ⟨by decide, by decide⟩

theorem x_X4_setEnd_2 (l : Launch) (hl : l.stackTraces = false) (g : Gh) (r : Nat → Nat) (qn qt : Nat → Nat) (qv : Nat → Nat → Nat) (kn kt : Nat → Nat → Int) (kv : Nat → Nat → Nat → Int) (sc : Int) (ns : Nat) (tx : Nat → Int) (tn : Nat) (pl : Int) (x : Int) (hT : TOK kn kv sc ns tx tn) (hx : 0 ≤ x ∧ x ≤ 4) (hh : hnd (kEnd kn kt x) < 0) : CX l g yX4_setEnd cX4_setEnd 3 (some FieldType.int) ({ frames := 7, cells := 1, slots := 6, locals := 120 }) [.ref (r 0), .int (iI x)] ([(r 0, .inr (4, [.ref (qn 0), .ref (qt 0), .ref (r 1), .int (iI sc), .int (iI ((ns : Int))), .ref (r 2)])), (r 1, aS g 4 (fun j => some (qv j 0))), (r 2, .inr (3, [.ref (r 3), .int (iI ((tn : Int))), .int (iI pl)])), (r 3, aI g 60 tx)] ++ (wSt g qn kn ++ (wSt g qt kt ++ (wS4 g qv kv)))) "java/lang/IllegalStateException" (fun w9 => w9 = wTp g r qn qt qv kn (kEnd kn kt x) kv sc ns tx tn pl) := by
  refine CX.intro (L0 := [(0, .ref (r 0)), (1, .int (iI x))]) (own := RX4) (by decide) rfl (Nat.le_of_ble_eq_true rfl) rfl ?_
  intro pX eX sX mX argsX belowX methX cX A C hlk hnt
  obtain ⟨⟨hk, hh0⟩, hkv, hsc, hns, htn, htx⟩ := id hT
  obtain ⟨hP, hE0, hF, hrow0, hwt, hht, hlen, hlat, hkept⟩ := id hk
  have hE : -10 ≤ kn 0 3 ∧ kn 0 3 ≤ 10 := by omega
  have hrow : ∀ i : Nat, (i : Int) < kn 0 2 → 0 ≤ kn 1 i ∧ kn 1 i ≤ 4 := fun i hi => by have := hrow0 i hi; omega
  have hc2 : cpS kn kt 0 2 = kn 0 2 := rfl
  have hhnd : 0 ≤ hnd kn ∧ hnd kn ≤ 300000 := ⟨hh0, hnd_le hk⟩
  refine j_iload_n C 1 dX4_setEnd_0 rfl rfl ?_
  refine j_if_lt (tgt := 9) C (by omega) dX4_setEnd_1 (by decide) (fun c1 => absurd c1 (by omega)) (fun c1 => ?_)
  refine j_iload_n C 1 dX4_setEnd_4 rfl rfl ?_
  refine j_iconst C dX4_setEnd_5 ?_
  refine j_icmp_le (tgt := 19) C (by omega) (by decide) dX4_setEnd_6 (by decide) (fun c6 => ?_) (fun c6 => absurd c6 (by omega))
  refine j_aload_n C 0 dX4_setEnd_19 rfl rfl ?_
  refine j_get C ck4 0 0 (by decide) qw130 rfl rfl dX4_setEnd_20 ?_
  refine j_getN C ck2 4 0 (by decide) qn90 rfl rfl dX4_setEnd_23 ?_
  refine j_getN C ck1 5 2 (by decide) qn39 rfl rfl dX4_setEnd_26 ?_
  refine j_istore_n (L1 := [(2, .int (iI (kn 0 3))), (0, .ref (r 0)), (1, .int (iI x))]) C dX4_setEnd_29 rfl (by decide) rfl ?_
  refine j_aload_n C 1 dX4_setEnd_30 rfl rfl ?_
  refine j_get C ck4 0 1 (by decide) qw131 rfl rfl dX4_setEnd_31 ?_
  refine j_aload_n C 1 dX4_setEnd_34 rfl rfl ?_
  refine j_get C ck4 0 0 (by decide) qw130 rfl rfl dX4_setEnd_35 ?_
  refine j_callV (As := [.ref (qn 0)]) (rest := []) C yv_X2_copyFrom qw268 (c_X2_copyFrom l g qt kt qn kn) (by decide) 12 rfl rfl rfl dX4_setEnd_38 rfl (Nat.le_of_ble_eq_true rfl) (by decide) (pf2r [(r 0, .inr (4, [.ref (qn 0), .ref (qt 0), .ref (r 1), .int (iI sc), .int (iI ((ns : Int))), .ref (r 2)])), (r 1, aS g 4 (fun j => some (qv j 0))), (r 2, .inr (3, [.ref (r 3), .int (iI ((tn : Int))), .int (iI pl)])), (r 3, aI g 60 tx)] 8 [] (wS4 g qv kv)) rfl (fun r9 w9 hq9 => ?_)
  obtain ⟨rfl, rfl⟩ := hq9
  refine J.to (L1 := [(2, .int (iI (kn 0 3))), (0, .ref (r 0)), (1, .int (iI x))]) (S1 := []) (ws1 := ([(r 0, .inr (4, [.ref (qn 0), .ref (qt 0), .ref (r 1), .int (iI sc), .int (iI ((ns : Int))), .ref (r 2)])), (r 1, aS g 4 (fun j => some (qv j 0))), (r 2, .inr (3, [.ref (r 3), .int (iI ((tn : Int))), .int (iI pl)])), (r 3, aI g 60 tx)] ++ (wSt g qn kn ++ (wSt g qt (cpS kn kt) ++ (wS4 g qv kv))))) rfl rfl rfl ?_
  refine j_aload_n C 1 dX4_setEnd_41 rfl rfl ?_
  refine j_get C ck4 0 1 (by decide) qw131 rfl rfl dX4_setEnd_42 ?_
  refine j_getN C ck2 12 0 (by decide) qn90 rfl rfl dX4_setEnd_45 ?_
  refine j_iload_n C 2 dX4_setEnd_48 rfl rfl ?_
  refine j_putN (ws1 := ([(r 0, .inr (4, [.ref (qn 0), .ref (qt 0), .ref (r 1), .int (iI sc), .int (iI ((ns : Int))), .ref (r 2)])), (r 1, aS g 4 (fun j => some (qv j 0))), (r 2, .inr (3, [.ref (r 3), .int (iI ((tn : Int))), .int (iI pl)])), (r 3, aI g 60 tx)] ++ (wSt g qn kn ++ ([(qt 0, .inr (2, [.ref (qt 1), .ref (qt 3), .ref (qt 5), .ref (qt 6), .ref (qt 7), .int (iI ((cpS kn kt) 0 0))])), (qt 1, .inr (1, [.ref (qt 2), .int (iI ((cpS kn kt) 0 2)), .int (iI x), .int (iI ((cpS kn kt) 0 1))])), (qt 2, aI g 10 ((cpS kn kt) 1)), (qt 3, .inr (0, [.ref (qt 4), .int (iI ((cpS kn kt) 0 9)), .int (iI ((cpS kn kt) 0 6)), .int (iI ((cpS kn kt) 0 4)), .int (iI ((cpS kn kt) 0 5)), .long (lI ((cpS kn kt) 0 7)), .long (lI ((cpS kn kt) 0 8))])), (qt 4, aI g 48 ((cpS kn kt) 2)), (qt 5, aI g 4 ((cpS kn kt) 3)), (qt 6, aI g 4 ((cpS kn kt) 4)), (qt 7, aI g 4 ((cpS kn kt) 5))] ++ (wS4 g qv kv))))) C ck1 13 2 (by decide) qn39 rfl dX4_setEnd_49 rfl rfl rfl rfl (Nat.le_of_ble_eq_true rfl) ?_
  refine J.world (ws1 := ([(r 0, .inr (4, [.ref (qn 0), .ref (qt 0), .ref (r 1), .int (iI sc), .int (iI ((ns : Int))), .ref (r 2)])), (r 1, aS g 4 (fun j => some (qv j 0))), (r 2, .inr (3, [.ref (r 3), .int (iI ((tn : Int))), .int (iI pl)])), (r 3, aI g 60 tx)] ++ (wSt g qn kn ++ (wSt g qt (kEnd kn kt x) ++ (wS4 g qv kv))))) rfl ?_
  refine j_aload_n C 1 dX4_setEnd_52 rfl rfl ?_
  exact j_callVX (As := []) (rest := []) C yv_X4_checkTrialRope qw323 (x_X4_checkTrialRope_no l hl g r qn qt qv kn (kEnd kn kt x) kv sc ns tx tn pl (SOK_end hk hx) hh) (by decide) 0 rfl rfl rfl dX4_setEnd_53 rfl (Nat.le_of_ble_eq_true rfl) (by decide) pf0 rfl hnt hlk ⟨by decide, by decide⟩ (fun w9 h9 => by rw [h9])

theorem c_X4_haul (l : Launch) (g : Gh) (r : Nat → Nat) (qn qt : Nat → Nat) (qv : Nat → Nat → Nat) (kn kt : Nat → Nat → Int) (kv : Nat → Nat → Nat → Int) (sc : Int) (ns : Nat) (tx : Nat → Int) (tn : Nat) (pl : Int) (f n : Int) (hT : TOK kn kv sc ns tx tn) (hf : 0 ≤ f ∧ f ≤ 1000000) (hn : 0 ≤ n ∧ n ≤ 100000) : CT l g yX4_haul cX4_haul 3 (some FieldType.int) ({ frames := 6, cells := 0, slots := 0, locals := 149 }) [.ref (r 0), .int (iI f), .int (iI n)] ([(r 0, .inr (4, [.ref (qn 0), .ref (qt 0), .ref (r 1), .int (iI sc), .int (iI ((ns : Int))), .ref (r 2)])), (r 1, aS g 4 (fun j => some (qv j 0))), (r 2, .inr (3, [.ref (r 3), .int (iI ((tn : Int))), .int (iI pl)])), (r 3, aI g 60 tx)] ++ (wSt g qn kn ++ (wSt g qt kt ++ (wS4 g qv kv)))) (PE (some (.int (iI ((mup f n kn).2)))) (wTp g r qn qt qv ((mup f n kn).1) kt (svk kn kv ns) (svs sc) (svn ns) tx tn pl)) := by
  refine CT.intro (L0 := [(0, .ref (r 0)), (1, .int (iI f)), (2, .int (iI n))]) (own := RX4) (by decide) rfl (Nat.le_of_ble_eq_true rfl) rfl ?_
  intro pX eX sX mX argsX belowX methX cX A C hr hlk
  obtain ⟨⟨hk, hh0⟩, hkv, hsc, hns, htn, htx⟩ := id hT
  obtain ⟨hP, hE0, hF, hrow0, hwt, hht, hlen, hlat, hkept⟩ := id hk
  have hE : -10 ≤ kn 0 3 ∧ kn 0 3 ≤ 10 := by omega
  have hrow : ∀ i : Nat, (i : Int) < kn 0 2 → 0 ≤ kn 1 i ∧ kn 1 i ≤ 4 := fun i hi => by have := hrow0 i hi; omega
  have hc2 : cpS kn kt 0 2 = kn 0 2 := rfl
  have hhnd : 0 ≤ hnd kn ∧ hnd kn ≤ 300000 := ⟨hh0, hnd_le hk⟩
  refine j_iload_n C 1 dX4_haul_0 rfl rfl ?_
  refine j_iconst C dX4_haul_1 ?_
  refine j_ldc (x := 1000000) C qw375 (by decide) dX4_haul_2 ?_
  refine j_callS (As := [.int (iI f), .int (iI 0), .int (iI 1000000)]) (rest := []) C ys_X4_checkRange qw241 (c_X4_checkRange l g f 0 1000000 (by omega) (by omega) (by omega) (by omega)) (by decide) rfl dX4_haul_4 rfl (Nat.le_of_ble_eq_true rfl) (by decide) (pf1 [] ([(r 0, .inr (4, [.ref (qn 0), .ref (qt 0), .ref (r 1), .int (iI sc), .int (iI ((ns : Int))), .ref (r 2)])), (r 1, aS g 4 (fun j => some (qv j 0))), (r 2, .inr (3, [.ref (r 3), .int (iI ((tn : Int))), .int (iI pl)])), (r 3, aI g 60 tx)] ++ (wSt g qn kn ++ (wSt g qt kt ++ (wS4 g qv kv))))) rfl (fun r9 w9 hq9 => ?_)
  obtain ⟨rfl, rfl⟩ := hq9
  refine J.to (L1 := [(0, .ref (r 0)), (1, .int (iI f)), (2, .int (iI n))]) (S1 := []) (ws1 := ([(r 0, .inr (4, [.ref (qn 0), .ref (qt 0), .ref (r 1), .int (iI sc), .int (iI ((ns : Int))), .ref (r 2)])), (r 1, aS g 4 (fun j => some (qv j 0))), (r 2, .inr (3, [.ref (r 3), .int (iI ((tn : Int))), .int (iI pl)])), (r 3, aI g 60 tx)] ++ (wSt g qn kn ++ (wSt g qt kt ++ (wS4 g qv kv))))) rfl rfl rfl ?_
  refine j_iload_n C 2 dX4_haul_7 rfl rfl ?_
  refine j_iconst C dX4_haul_8 ?_
  refine j_ldc (x := 100000) C qw376 (by decide) dX4_haul_9 ?_
  refine j_callS (As := [.int (iI n), .int (iI 0), .int (iI 100000)]) (rest := []) C ys_X4_checkRange qw241 (c_X4_checkRange l g n 0 100000 (by omega) (by omega) (by omega) (by omega)) (by decide) rfl dX4_haul_11 rfl (Nat.le_of_ble_eq_true rfl) (by decide) (pf1 [] ([(r 0, .inr (4, [.ref (qn 0), .ref (qt 0), .ref (r 1), .int (iI sc), .int (iI ((ns : Int))), .ref (r 2)])), (r 1, aS g 4 (fun j => some (qv j 0))), (r 2, .inr (3, [.ref (r 3), .int (iI ((tn : Int))), .int (iI pl)])), (r 3, aI g 60 tx)] ++ (wSt g qn kn ++ (wSt g qt kt ++ (wS4 g qv kv))))) rfl (fun r9 w9 hq9 => ?_)
  obtain ⟨rfl, rfl⟩ := hq9
  refine J.to (L1 := [(0, .ref (r 0)), (1, .int (iI f)), (2, .int (iI n))]) (S1 := []) (ws1 := ([(r 0, .inr (4, [.ref (qn 0), .ref (qt 0), .ref (r 1), .int (iI sc), .int (iI ((ns : Int))), .ref (r 2)])), (r 1, aS g 4 (fun j => some (qv j 0))), (r 2, .inr (3, [.ref (r 3), .int (iI ((tn : Int))), .int (iI pl)])), (r 3, aI g 60 tx)] ++ (wSt g qn kn ++ (wSt g qt kt ++ (wS4 g qv kv))))) rfl rfl rfl ?_
  refine j_aload_n C 0 dX4_haul_14 rfl rfl ?_
  refine j_callV (As := []) (rest := []) C yv_X4_save qw260 (c_X4_save l g r qn qt qv kn kt kv sc ns tx tn pl hsc hns) (by decide) 0 rfl rfl rfl dX4_haul_15 rfl (Nat.le_of_ble_eq_true rfl) (by decide) pf0 rfl (fun r9 w9 hq9 => ?_)
  obtain ⟨rfl, rfl⟩ := hq9
  refine J.to (L1 := [(0, .ref (r 0)), (1, .int (iI f)), (2, .int (iI n))]) (S1 := []) (ws1 := ([(r 0, .inr (4, [.ref (qn 0), .ref (qt 0), .ref (r 1), .int (iI (svs sc)), .int (iI ((svn ns : Int))), .ref (r 2)])), (r 1, aS g 4 (fun j => some (qv j 0))), (r 2, .inr (3, [.ref (r 3), .int (iI ((tn : Int))), .int (iI pl)])), (r 3, aI g 60 tx)] ++ (wSt g qn kn ++ (wSt g qt kt ++ (wS4 g qv (svk kn kv ns)))))) rfl rfl rfl ?_
  refine j_aload_n C 0 dX4_haul_18 rfl rfl ?_
  refine j_get C ck4 0 0 (by decide) qw130 rfl rfl dX4_haul_19 ?_
  refine j_iload_n C 1 dX4_haul_22 rfl rfl ?_
  refine j_iload_n C 2 dX4_haul_23 rfl rfl ?_
  refine j_callV (As := [.int (iI f), .int (iI n)]) (rest := []) C yv_X2_moveUp qw377 (c_X2_moveUp l g qn kn f n hk (by omega) (by omega)) (by decide) 4 rfl rfl rfl dX4_haul_24 rfl (Nat.le_of_ble_eq_true rfl) (by decide) (pf1 [(r 0, .inr (4, [.ref (qn 0), .ref (qt 0), .ref (r 1), .int (iI (svs sc)), .int (iI ((svn ns : Int))), .ref (r 2)])), (r 1, aS g 4 (fun j => some (qv j 0))), (r 2, .inr (3, [.ref (r 3), .int (iI ((tn : Int))), .int (iI pl)])), (r 3, aI g 60 tx)] (wSt g qt kt ++ (wS4 g qv (svk kn kv ns)))) rfl (fun r9 w9 hq9 => ?_)
  obtain ⟨rfl, rfl⟩ := hq9
  refine J.to (L1 := [(0, .ref (r 0)), (1, .int (iI f)), (2, .int (iI n))]) (S1 := [.int (iI ((mup f n kn).2))]) (ws1 := ([(r 0, .inr (4, [.ref (qn 0), .ref (qt 0), .ref (r 1), .int (iI (svs sc)), .int (iI ((svn ns : Int))), .ref (r 2)])), (r 1, aS g 4 (fun j => some (qv j 0))), (r 2, .inr (3, [.ref (r 3), .int (iI ((tn : Int))), .int (iI pl)])), (r 3, aI g 60 tx)] ++ (wSt g qn ((mup f n kn).1) ++ (wSt g qt kt ++ (wS4 g qv (svk kn kv ns)))))) rfl rfl rfl ?_
  exact j_iret C hr hlk dX4_haul_27 ⟨rfl, rfl⟩ (by decide) (by decide)

theorem x_X4_haul_1 (l : Launch) (hl : l.stackTraces = false) (g : Gh) (r : Nat → Nat) (qn qt : Nat → Nat) (qv : Nat → Nat → Nat) (kn kt : Nat → Nat → Int) (kv : Nat → Nat → Nat → Int) (sc : Int) (ns : Nat) (tx : Nat → Int) (tn : Nat) (pl : Int) (f n : Int) (hT : TOK kn kv sc ns tx tn) (hrf : -2147483648 ≤ f ∧ f < 2147483648) (hrn : -2147483648 ≤ n ∧ n < 2147483648) (hf : f < 0 ∨ 1000000 < f) : CX l g yX4_haul cX4_haul 3 (some FieldType.int) ({ frames := 7, cells := 1, slots := 6, locals := 122 }) [.ref (r 0), .int (iI f), .int (iI n)] ([(r 0, .inr (4, [.ref (qn 0), .ref (qt 0), .ref (r 1), .int (iI sc), .int (iI ((ns : Int))), .ref (r 2)])), (r 1, aS g 4 (fun j => some (qv j 0))), (r 2, .inr (3, [.ref (r 3), .int (iI ((tn : Int))), .int (iI pl)])), (r 3, aI g 60 tx)] ++ (wSt g qn kn ++ (wSt g qt kt ++ (wS4 g qv kv)))) "java/lang/IllegalArgumentException" (fun w9 => w9 = wTp g r qn qt qv kn kt kv sc ns tx tn pl) := by
  refine CX.intro (L0 := [(0, .ref (r 0)), (1, .int (iI f)), (2, .int (iI n))]) (own := RX4) (by decide) rfl (Nat.le_of_ble_eq_true rfl) rfl ?_
  intro pX eX sX mX argsX belowX methX cX A C hlk hnt
  obtain ⟨⟨hk, hh0⟩, hkv, hsc, hns, htn, htx⟩ := id hT
  obtain ⟨hP, hE0, hF, hrow0, hwt, hht, hlen, hlat, hkept⟩ := id hk
  have hE : -10 ≤ kn 0 3 ∧ kn 0 3 ≤ 10 := by omega
  have hrow : ∀ i : Nat, (i : Int) < kn 0 2 → 0 ≤ kn 1 i ∧ kn 1 i ≤ 4 := fun i hi => by have := hrow0 i hi; omega
  have hc2 : cpS kn kt 0 2 = kn 0 2 := rfl
  have hhnd : 0 ≤ hnd kn ∧ hnd kn ≤ 300000 := ⟨hh0, hnd_le hk⟩
  refine j_iload_n C 1 dX4_haul_0 rfl rfl ?_
  refine j_iconst C dX4_haul_1 ?_
  refine j_ldc (x := 1000000) C qw375 (by decide) dX4_haul_2 ?_
  exact j_callSX (As := [.int (iI f), .int (iI 0), .int (iI 1000000)]) (rest := []) C ys_X4_checkRange qw241 (x_X4_checkRange_no l hl g f 0 1000000 (by omega) (by omega) (by omega) (by omega)) (by decide) rfl dX4_haul_4 rfl (Nat.le_of_ble_eq_true rfl) (by decide) (pf1 [] ([(r 0, .inr (4, [.ref (qn 0), .ref (qt 0), .ref (r 1), .int (iI sc), .int (iI ((ns : Int))), .ref (r 2)])), (r 1, aS g 4 (fun j => some (qv j 0))), (r 2, .inr (3, [.ref (r 3), .int (iI ((tn : Int))), .int (iI pl)])), (r 3, aI g 60 tx)] ++ (wSt g qn kn ++ (wSt g qt kt ++ (wS4 g qv kv))))) rfl hnt hlk ⟨by decide, by decide⟩ (fun w9 h9 => by rw [h9]; rfl)

theorem x_X4_haul_2 (l : Launch) (hl : l.stackTraces = false) (g : Gh) (r : Nat → Nat) (qn qt : Nat → Nat) (qv : Nat → Nat → Nat) (kn kt : Nat → Nat → Int) (kv : Nat → Nat → Nat → Int) (sc : Int) (ns : Nat) (tx : Nat → Int) (tn : Nat) (pl : Int) (f n : Int) (hT : TOK kn kv sc ns tx tn) (hrf : -2147483648 ≤ f ∧ f < 2147483648) (hrn : -2147483648 ≤ n ∧ n < 2147483648) (hf : 0 ≤ f ∧ f ≤ 1000000) (hn : n < 0 ∨ 100000 < n) : CX l g yX4_haul cX4_haul 3 (some FieldType.int) ({ frames := 7, cells := 1, slots := 6, locals := 122 }) [.ref (r 0), .int (iI f), .int (iI n)] ([(r 0, .inr (4, [.ref (qn 0), .ref (qt 0), .ref (r 1), .int (iI sc), .int (iI ((ns : Int))), .ref (r 2)])), (r 1, aS g 4 (fun j => some (qv j 0))), (r 2, .inr (3, [.ref (r 3), .int (iI ((tn : Int))), .int (iI pl)])), (r 3, aI g 60 tx)] ++ (wSt g qn kn ++ (wSt g qt kt ++ (wS4 g qv kv)))) "java/lang/IllegalArgumentException" (fun w9 => w9 = wTp g r qn qt qv kn kt kv sc ns tx tn pl) := by
  refine CX.intro (L0 := [(0, .ref (r 0)), (1, .int (iI f)), (2, .int (iI n))]) (own := RX4) (by decide) rfl (Nat.le_of_ble_eq_true rfl) rfl ?_
  intro pX eX sX mX argsX belowX methX cX A C hlk hnt
  obtain ⟨⟨hk, hh0⟩, hkv, hsc, hns, htn, htx⟩ := id hT
  obtain ⟨hP, hE0, hF, hrow0, hwt, hht, hlen, hlat, hkept⟩ := id hk
  have hE : -10 ≤ kn 0 3 ∧ kn 0 3 ≤ 10 := by omega
  have hrow : ∀ i : Nat, (i : Int) < kn 0 2 → 0 ≤ kn 1 i ∧ kn 1 i ≤ 4 := fun i hi => by have := hrow0 i hi; omega
  have hc2 : cpS kn kt 0 2 = kn 0 2 := rfl
  have hhnd : 0 ≤ hnd kn ∧ hnd kn ≤ 300000 := ⟨hh0, hnd_le hk⟩
  refine j_iload_n C 1 dX4_haul_0 rfl rfl ?_
  refine j_iconst C dX4_haul_1 ?_
  refine j_ldc (x := 1000000) C qw375 (by decide) dX4_haul_2 ?_
  refine j_callS (As := [.int (iI f), .int (iI 0), .int (iI 1000000)]) (rest := []) C ys_X4_checkRange qw241 (c_X4_checkRange l g f 0 1000000 (by omega) (by omega) (by omega) (by omega)) (by decide) rfl dX4_haul_4 rfl (Nat.le_of_ble_eq_true rfl) (by decide) (pf1 [] ([(r 0, .inr (4, [.ref (qn 0), .ref (qt 0), .ref (r 1), .int (iI sc), .int (iI ((ns : Int))), .ref (r 2)])), (r 1, aS g 4 (fun j => some (qv j 0))), (r 2, .inr (3, [.ref (r 3), .int (iI ((tn : Int))), .int (iI pl)])), (r 3, aI g 60 tx)] ++ (wSt g qn kn ++ (wSt g qt kt ++ (wS4 g qv kv))))) rfl (fun r9 w9 hq9 => ?_)
  obtain ⟨rfl, rfl⟩ := hq9
  refine J.to (L1 := [(0, .ref (r 0)), (1, .int (iI f)), (2, .int (iI n))]) (S1 := []) (ws1 := ([(r 0, .inr (4, [.ref (qn 0), .ref (qt 0), .ref (r 1), .int (iI sc), .int (iI ((ns : Int))), .ref (r 2)])), (r 1, aS g 4 (fun j => some (qv j 0))), (r 2, .inr (3, [.ref (r 3), .int (iI ((tn : Int))), .int (iI pl)])), (r 3, aI g 60 tx)] ++ (wSt g qn kn ++ (wSt g qt kt ++ (wS4 g qv kv))))) rfl rfl rfl ?_
  refine j_iload_n C 2 dX4_haul_7 rfl rfl ?_
  refine j_iconst C dX4_haul_8 ?_
  refine j_ldc (x := 100000) C qw376 (by decide) dX4_haul_9 ?_
  exact j_callSX (As := [.int (iI n), .int (iI 0), .int (iI 100000)]) (rest := []) C ys_X4_checkRange qw241 (x_X4_checkRange_no l hl g n 0 100000 (by omega) (by omega) (by omega) (by omega)) (by decide) rfl dX4_haul_11 rfl (Nat.le_of_ble_eq_true rfl) (by decide) (pf1 [] ([(r 0, .inr (4, [.ref (qn 0), .ref (qt 0), .ref (r 1), .int (iI sc), .int (iI ((ns : Int))), .ref (r 2)])), (r 1, aS g 4 (fun j => some (qv j 0))), (r 2, .inr (3, [.ref (r 3), .int (iI ((tn : Int))), .int (iI pl)])), (r 3, aI g 60 tx)] ++ (wSt g qn kn ++ (wSt g qt kt ++ (wS4 g qv kv))))) rfl hnt hlk ⟨by decide, by decide⟩ (fun w9 h9 => by rw [h9]; rfl)

theorem c_X4_letOut (l : Launch) (g : Gh) (r : Nat → Nat) (qn qt : Nat → Nat) (qv : Nat → Nat → Nat) (kn kt : Nat → Nat → Int) (kv : Nat → Nat → Nat → Int) (sc : Int) (ns : Nat) (tx : Nat → Int) (tn : Nat) (pl : Int) (f n : Int) (hT : TOK kn kv sc ns tx tn) (hf : 0 ≤ f ∧ f ≤ 1000000) (hn : 0 ≤ n ∧ n ≤ 100000) : CT l g yX4_letOut cX4_letOut 3 (some FieldType.int) ({ frames := 6, cells := 0, slots := 0, locals := 148 }) [.ref (r 0), .int (iI f), .int (iI n)] ([(r 0, .inr (4, [.ref (qn 0), .ref (qt 0), .ref (r 1), .int (iI sc), .int (iI ((ns : Int))), .ref (r 2)])), (r 1, aS g 4 (fun j => some (qv j 0))), (r 2, .inr (3, [.ref (r 3), .int (iI ((tn : Int))), .int (iI pl)])), (r 3, aI g 60 tx)] ++ (wSt g qn kn ++ (wSt g qt kt ++ (wS4 g qv kv)))) (PE (some (.int (iI ((mdn f n kn).2)))) (wTp g r qn qt qv ((mdn f n kn).1) kt (svk kn kv ns) (svs sc) (svn ns) tx tn pl)) := by
  refine CT.intro (L0 := [(0, .ref (r 0)), (1, .int (iI f)), (2, .int (iI n))]) (own := RX4) (by decide) rfl (Nat.le_of_ble_eq_true rfl) rfl ?_
  intro pX eX sX mX argsX belowX methX cX A C hr hlk
  obtain ⟨⟨hk, hh0⟩, hkv, hsc, hns, htn, htx⟩ := id hT
  obtain ⟨hP, hE0, hF, hrow0, hwt, hht, hlen, hlat, hkept⟩ := id hk
  have hE : -10 ≤ kn 0 3 ∧ kn 0 3 ≤ 10 := by omega
  have hrow : ∀ i : Nat, (i : Int) < kn 0 2 → 0 ≤ kn 1 i ∧ kn 1 i ≤ 4 := fun i hi => by have := hrow0 i hi; omega
  have hc2 : cpS kn kt 0 2 = kn 0 2 := rfl
  have hhnd : 0 ≤ hnd kn ∧ hnd kn ≤ 300000 := ⟨hh0, hnd_le hk⟩
  refine j_iload_n C 1 dX4_letOut_0 rfl rfl ?_
  refine j_iconst C dX4_letOut_1 ?_
  refine j_ldc (x := 1000000) C qw375 (by decide) dX4_letOut_2 ?_
  refine j_callS (As := [.int (iI f), .int (iI 0), .int (iI 1000000)]) (rest := []) C ys_X4_checkRange qw241 (c_X4_checkRange l g f 0 1000000 (by omega) (by omega) (by omega) (by omega)) (by decide) rfl dX4_letOut_4 rfl (Nat.le_of_ble_eq_true rfl) (by decide) (pf1 [] ([(r 0, .inr (4, [.ref (qn 0), .ref (qt 0), .ref (r 1), .int (iI sc), .int (iI ((ns : Int))), .ref (r 2)])), (r 1, aS g 4 (fun j => some (qv j 0))), (r 2, .inr (3, [.ref (r 3), .int (iI ((tn : Int))), .int (iI pl)])), (r 3, aI g 60 tx)] ++ (wSt g qn kn ++ (wSt g qt kt ++ (wS4 g qv kv))))) rfl (fun r9 w9 hq9 => ?_)
  obtain ⟨rfl, rfl⟩ := hq9
  refine J.to (L1 := [(0, .ref (r 0)), (1, .int (iI f)), (2, .int (iI n))]) (S1 := []) (ws1 := ([(r 0, .inr (4, [.ref (qn 0), .ref (qt 0), .ref (r 1), .int (iI sc), .int (iI ((ns : Int))), .ref (r 2)])), (r 1, aS g 4 (fun j => some (qv j 0))), (r 2, .inr (3, [.ref (r 3), .int (iI ((tn : Int))), .int (iI pl)])), (r 3, aI g 60 tx)] ++ (wSt g qn kn ++ (wSt g qt kt ++ (wS4 g qv kv))))) rfl rfl rfl ?_
  refine j_iload_n C 2 dX4_letOut_7 rfl rfl ?_
  refine j_iconst C dX4_letOut_8 ?_
  refine j_ldc (x := 100000) C qw376 (by decide) dX4_letOut_9 ?_
  refine j_callS (As := [.int (iI n), .int (iI 0), .int (iI 100000)]) (rest := []) C ys_X4_checkRange qw241 (c_X4_checkRange l g n 0 100000 (by omega) (by omega) (by omega) (by omega)) (by decide) rfl dX4_letOut_11 rfl (Nat.le_of_ble_eq_true rfl) (by decide) (pf1 [] ([(r 0, .inr (4, [.ref (qn 0), .ref (qt 0), .ref (r 1), .int (iI sc), .int (iI ((ns : Int))), .ref (r 2)])), (r 1, aS g 4 (fun j => some (qv j 0))), (r 2, .inr (3, [.ref (r 3), .int (iI ((tn : Int))), .int (iI pl)])), (r 3, aI g 60 tx)] ++ (wSt g qn kn ++ (wSt g qt kt ++ (wS4 g qv kv))))) rfl (fun r9 w9 hq9 => ?_)
  obtain ⟨rfl, rfl⟩ := hq9
  refine J.to (L1 := [(0, .ref (r 0)), (1, .int (iI f)), (2, .int (iI n))]) (S1 := []) (ws1 := ([(r 0, .inr (4, [.ref (qn 0), .ref (qt 0), .ref (r 1), .int (iI sc), .int (iI ((ns : Int))), .ref (r 2)])), (r 1, aS g 4 (fun j => some (qv j 0))), (r 2, .inr (3, [.ref (r 3), .int (iI ((tn : Int))), .int (iI pl)])), (r 3, aI g 60 tx)] ++ (wSt g qn kn ++ (wSt g qt kt ++ (wS4 g qv kv))))) rfl rfl rfl ?_
  refine j_aload_n C 0 dX4_letOut_14 rfl rfl ?_
  refine j_callV (As := []) (rest := []) C yv_X4_save qw260 (c_X4_save l g r qn qt qv kn kt kv sc ns tx tn pl hsc hns) (by decide) 0 rfl rfl rfl dX4_letOut_15 rfl (Nat.le_of_ble_eq_true rfl) (by decide) pf0 rfl (fun r9 w9 hq9 => ?_)
  obtain ⟨rfl, rfl⟩ := hq9
  refine J.to (L1 := [(0, .ref (r 0)), (1, .int (iI f)), (2, .int (iI n))]) (S1 := []) (ws1 := ([(r 0, .inr (4, [.ref (qn 0), .ref (qt 0), .ref (r 1), .int (iI (svs sc)), .int (iI ((svn ns : Int))), .ref (r 2)])), (r 1, aS g 4 (fun j => some (qv j 0))), (r 2, .inr (3, [.ref (r 3), .int (iI ((tn : Int))), .int (iI pl)])), (r 3, aI g 60 tx)] ++ (wSt g qn kn ++ (wSt g qt kt ++ (wS4 g qv (svk kn kv ns)))))) rfl rfl rfl ?_
  refine j_aload_n C 0 dX4_letOut_18 rfl rfl ?_
  refine j_get C ck4 0 0 (by decide) qw130 rfl rfl dX4_letOut_19 ?_
  refine j_iload_n C 1 dX4_letOut_22 rfl rfl ?_
  refine j_iload_n C 2 dX4_letOut_23 rfl rfl ?_
  refine j_callV (As := [.int (iI f), .int (iI n)]) (rest := []) C yv_X2_moveDown qw530 (c_X2_moveDown l g qn kn f n hk (by omega) (by omega) hhnd) (by decide) 4 rfl rfl rfl dX4_letOut_24 rfl (Nat.le_of_ble_eq_true rfl) (by decide) (pf1 [(r 0, .inr (4, [.ref (qn 0), .ref (qt 0), .ref (r 1), .int (iI (svs sc)), .int (iI ((svn ns : Int))), .ref (r 2)])), (r 1, aS g 4 (fun j => some (qv j 0))), (r 2, .inr (3, [.ref (r 3), .int (iI ((tn : Int))), .int (iI pl)])), (r 3, aI g 60 tx)] (wSt g qt kt ++ (wS4 g qv (svk kn kv ns)))) rfl (fun r9 w9 hq9 => ?_)
  obtain ⟨rfl, rfl⟩ := hq9
  refine J.to (L1 := [(0, .ref (r 0)), (1, .int (iI f)), (2, .int (iI n))]) (S1 := [.int (iI ((mdn f n kn).2))]) (ws1 := ([(r 0, .inr (4, [.ref (qn 0), .ref (qt 0), .ref (r 1), .int (iI (svs sc)), .int (iI ((svn ns : Int))), .ref (r 2)])), (r 1, aS g 4 (fun j => some (qv j 0))), (r 2, .inr (3, [.ref (r 3), .int (iI ((tn : Int))), .int (iI pl)])), (r 3, aI g 60 tx)] ++ (wSt g qn ((mdn f n kn).1) ++ (wSt g qt kt ++ (wS4 g qv (svk kn kv ns)))))) rfl rfl rfl ?_
  exact j_iret C hr hlk dX4_letOut_27 ⟨rfl, rfl⟩ (by decide) (by decide)

theorem x_X4_letOut_1 (l : Launch) (hl : l.stackTraces = false) (g : Gh) (r : Nat → Nat) (qn qt : Nat → Nat) (qv : Nat → Nat → Nat) (kn kt : Nat → Nat → Int) (kv : Nat → Nat → Nat → Int) (sc : Int) (ns : Nat) (tx : Nat → Int) (tn : Nat) (pl : Int) (f n : Int) (hT : TOK kn kv sc ns tx tn) (hrf : -2147483648 ≤ f ∧ f < 2147483648) (hrn : -2147483648 ≤ n ∧ n < 2147483648) (hf : f < 0 ∨ 1000000 < f) : CX l g yX4_letOut cX4_letOut 3 (some FieldType.int) ({ frames := 7, cells := 1, slots := 6, locals := 122 }) [.ref (r 0), .int (iI f), .int (iI n)] ([(r 0, .inr (4, [.ref (qn 0), .ref (qt 0), .ref (r 1), .int (iI sc), .int (iI ((ns : Int))), .ref (r 2)])), (r 1, aS g 4 (fun j => some (qv j 0))), (r 2, .inr (3, [.ref (r 3), .int (iI ((tn : Int))), .int (iI pl)])), (r 3, aI g 60 tx)] ++ (wSt g qn kn ++ (wSt g qt kt ++ (wS4 g qv kv)))) "java/lang/IllegalArgumentException" (fun w9 => w9 = wTp g r qn qt qv kn kt kv sc ns tx tn pl) := by
  refine CX.intro (L0 := [(0, .ref (r 0)), (1, .int (iI f)), (2, .int (iI n))]) (own := RX4) (by decide) rfl (Nat.le_of_ble_eq_true rfl) rfl ?_
  intro pX eX sX mX argsX belowX methX cX A C hlk hnt
  obtain ⟨⟨hk, hh0⟩, hkv, hsc, hns, htn, htx⟩ := id hT
  obtain ⟨hP, hE0, hF, hrow0, hwt, hht, hlen, hlat, hkept⟩ := id hk
  have hE : -10 ≤ kn 0 3 ∧ kn 0 3 ≤ 10 := by omega
  have hrow : ∀ i : Nat, (i : Int) < kn 0 2 → 0 ≤ kn 1 i ∧ kn 1 i ≤ 4 := fun i hi => by have := hrow0 i hi; omega
  have hc2 : cpS kn kt 0 2 = kn 0 2 := rfl
  have hhnd : 0 ≤ hnd kn ∧ hnd kn ≤ 300000 := ⟨hh0, hnd_le hk⟩
  refine j_iload_n C 1 dX4_letOut_0 rfl rfl ?_
  refine j_iconst C dX4_letOut_1 ?_
  refine j_ldc (x := 1000000) C qw375 (by decide) dX4_letOut_2 ?_
  exact j_callSX (As := [.int (iI f), .int (iI 0), .int (iI 1000000)]) (rest := []) C ys_X4_checkRange qw241 (x_X4_checkRange_no l hl g f 0 1000000 (by omega) (by omega) (by omega) (by omega)) (by decide) rfl dX4_letOut_4 rfl (Nat.le_of_ble_eq_true rfl) (by decide) (pf1 [] ([(r 0, .inr (4, [.ref (qn 0), .ref (qt 0), .ref (r 1), .int (iI sc), .int (iI ((ns : Int))), .ref (r 2)])), (r 1, aS g 4 (fun j => some (qv j 0))), (r 2, .inr (3, [.ref (r 3), .int (iI ((tn : Int))), .int (iI pl)])), (r 3, aI g 60 tx)] ++ (wSt g qn kn ++ (wSt g qt kt ++ (wS4 g qv kv))))) rfl hnt hlk ⟨by decide, by decide⟩ (fun w9 h9 => by rw [h9]; rfl)

theorem x_X4_letOut_2 (l : Launch) (hl : l.stackTraces = false) (g : Gh) (r : Nat → Nat) (qn qt : Nat → Nat) (qv : Nat → Nat → Nat) (kn kt : Nat → Nat → Int) (kv : Nat → Nat → Nat → Int) (sc : Int) (ns : Nat) (tx : Nat → Int) (tn : Nat) (pl : Int) (f n : Int) (hT : TOK kn kv sc ns tx tn) (hrf : -2147483648 ≤ f ∧ f < 2147483648) (hrn : -2147483648 ≤ n ∧ n < 2147483648) (hf : 0 ≤ f ∧ f ≤ 1000000) (hn : n < 0 ∨ 100000 < n) : CX l g yX4_letOut cX4_letOut 3 (some FieldType.int) ({ frames := 7, cells := 1, slots := 6, locals := 122 }) [.ref (r 0), .int (iI f), .int (iI n)] ([(r 0, .inr (4, [.ref (qn 0), .ref (qt 0), .ref (r 1), .int (iI sc), .int (iI ((ns : Int))), .ref (r 2)])), (r 1, aS g 4 (fun j => some (qv j 0))), (r 2, .inr (3, [.ref (r 3), .int (iI ((tn : Int))), .int (iI pl)])), (r 3, aI g 60 tx)] ++ (wSt g qn kn ++ (wSt g qt kt ++ (wS4 g qv kv)))) "java/lang/IllegalArgumentException" (fun w9 => w9 = wTp g r qn qt qv kn kt kv sc ns tx tn pl) := by
  refine CX.intro (L0 := [(0, .ref (r 0)), (1, .int (iI f)), (2, .int (iI n))]) (own := RX4) (by decide) rfl (Nat.le_of_ble_eq_true rfl) rfl ?_
  intro pX eX sX mX argsX belowX methX cX A C hlk hnt
  obtain ⟨⟨hk, hh0⟩, hkv, hsc, hns, htn, htx⟩ := id hT
  obtain ⟨hP, hE0, hF, hrow0, hwt, hht, hlen, hlat, hkept⟩ := id hk
  have hE : -10 ≤ kn 0 3 ∧ kn 0 3 ≤ 10 := by omega
  have hrow : ∀ i : Nat, (i : Int) < kn 0 2 → 0 ≤ kn 1 i ∧ kn 1 i ≤ 4 := fun i hi => by have := hrow0 i hi; omega
  have hc2 : cpS kn kt 0 2 = kn 0 2 := rfl
  have hhnd : 0 ≤ hnd kn ∧ hnd kn ≤ 300000 := ⟨hh0, hnd_le hk⟩
  refine j_iload_n C 1 dX4_letOut_0 rfl rfl ?_
  refine j_iconst C dX4_letOut_1 ?_
  refine j_ldc (x := 1000000) C qw375 (by decide) dX4_letOut_2 ?_
  refine j_callS (As := [.int (iI f), .int (iI 0), .int (iI 1000000)]) (rest := []) C ys_X4_checkRange qw241 (c_X4_checkRange l g f 0 1000000 (by omega) (by omega) (by omega) (by omega)) (by decide) rfl dX4_letOut_4 rfl (Nat.le_of_ble_eq_true rfl) (by decide) (pf1 [] ([(r 0, .inr (4, [.ref (qn 0), .ref (qt 0), .ref (r 1), .int (iI sc), .int (iI ((ns : Int))), .ref (r 2)])), (r 1, aS g 4 (fun j => some (qv j 0))), (r 2, .inr (3, [.ref (r 3), .int (iI ((tn : Int))), .int (iI pl)])), (r 3, aI g 60 tx)] ++ (wSt g qn kn ++ (wSt g qt kt ++ (wS4 g qv kv))))) rfl (fun r9 w9 hq9 => ?_)
  obtain ⟨rfl, rfl⟩ := hq9
  refine J.to (L1 := [(0, .ref (r 0)), (1, .int (iI f)), (2, .int (iI n))]) (S1 := []) (ws1 := ([(r 0, .inr (4, [.ref (qn 0), .ref (qt 0), .ref (r 1), .int (iI sc), .int (iI ((ns : Int))), .ref (r 2)])), (r 1, aS g 4 (fun j => some (qv j 0))), (r 2, .inr (3, [.ref (r 3), .int (iI ((tn : Int))), .int (iI pl)])), (r 3, aI g 60 tx)] ++ (wSt g qn kn ++ (wSt g qt kt ++ (wS4 g qv kv))))) rfl rfl rfl ?_
  refine j_iload_n C 2 dX4_letOut_7 rfl rfl ?_
  refine j_iconst C dX4_letOut_8 ?_
  refine j_ldc (x := 100000) C qw376 (by decide) dX4_letOut_9 ?_
  exact j_callSX (As := [.int (iI n), .int (iI 0), .int (iI 100000)]) (rest := []) C ys_X4_checkRange qw241 (x_X4_checkRange_no l hl g n 0 100000 (by omega) (by omega) (by omega) (by omega)) (by decide) rfl dX4_letOut_11 rfl (Nat.le_of_ble_eq_true rfl) (by decide) (pf1 [] ([(r 0, .inr (4, [.ref (qn 0), .ref (qt 0), .ref (r 1), .int (iI sc), .int (iI ((ns : Int))), .ref (r 2)])), (r 1, aS g 4 (fun j => some (qv j 0))), (r 2, .inr (3, [.ref (r 3), .int (iI ((tn : Int))), .int (iI pl)])), (r 3, aI g 60 tx)] ++ (wSt g qn kn ++ (wSt g qt kt ++ (wS4 g qv kv))))) rfl hnt hlk ⟨by decide, by decide⟩ (fun w9 h9 => by rw [h9]; rfl)

