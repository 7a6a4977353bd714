/-! the law's wrappers: a call, caught -/
section JWR
variable {p : Program} {l : Launch} {e : Env} {R : Room} {s : State} {m : MethodId} {args : Array Value} {below : List Frame} {meth : Method} {c : Code} {g : Gh} {A : Nat → Prop} {cc : ByteArray} {nL : Nat} {own : String} {pc : Nat} {L : List (Nat × Value)} {S : List Value} {ws : va_W} {cells slots : Nat} {Q : State → Prop}
theorem pfL (pre : va_W) : ∀ w : va_W, (pre ++ w).Perm (w ++ pre) := fun w => List.perm_append_comm
theorem j_sld (C : Cx p g s m args c cc nL own A) {b n0 : Nat} {xs : Nat → Int32} (hX : va_X b n0 xs s s.heap) (hbl : b < s.heap.size) (hbA : ¬ A b) {x : Int} (k : Nat) (hk : x = (k : Int)) (hn : k < n0) (hN : (n0 : Int) ≤ 2147483648) {z : Int} (hz : (xs k).toInt = z) (hd : decode cc pc = .ok (.iaload, 1)) (kk : J p l e R s m args below meth c g A nL (pc + 1) L (.int (iI z) :: S) ws cells slots Q) : J p l e R s m args below meth c g A nL pc L (.int (iI x) :: .ref b :: S) ws cells slots Q := by
  intro H locs ls hP hD hS h
  subst hz
  refine va_sld C.1 C.2.1 hX hbl hbA hS (iI_in hk hn hN) hd ?_
  have e : iI (xs k).toInt = xs k := Int32.ofInt_toInt _
  rw [iI_clamp hk (by omega), ← e]
  exact kk H locs ls hP hD hS h
theorem j_slen (C : Cx p g s m args c cc nL own A) {b n0 : Nat} {xs : Nat → Int32} (hX : va_X b n0 xs s s.heap) (hbl : b < s.heap.size) (hbA : ¬ A b) (hd : decode cc pc = .ok (.arraylength, 1)) (kk : J p l e R s m args below meth c g A nL (pc + 1) L (.int (iI (n0 : Int)) :: S) ws cells slots Q) : J p l e R s m args below meth c g A nL pc L (.ref b :: S) ws cells slots Q := by
  intro H locs ls hP hD hS h
  refine va_slen C.1 C.2.1 hX hbl hbA hS hd ?_
  rw [← iI_nI]
  exact kk H locs ls hP hD hS h
theorem j_iand (C : Cx p g s m args c cc nL own A) {x y : Int} (hd : decode cc pc = .ok (.iand, 1)) (kk : J p l e R s m args below meth c g A nL (pc + 1) L (.int (iI (iI x &&& iI y).toInt) :: S) ws cells slots Q) : J p l e R s m args below meth c g A nL pc L (.int (iI y) :: .int (iI x) :: S) ws cells slots Q := by
  intro H locs ls hP hD hS h
  have e : iI (iI x &&& iI y).toInt = iI x &&& iI y := Int32.ofInt_toInt _
  refine lv_iand C.1 C.2.1 hd ?_
  rw [← e]
  exact kk H locs ls hP hD hS h
theorem j_isame (C : Cx p g s m args c cc nL own A) {x y off : Int} {tgt : Nat} (hxy : x = y) (hd : decode cc pc = .ok (.if_icmp .eq off, 3)) (ht : (pc : Int) + off = (tgt : Int)) (kk : J p l e R s m args below meth c g A nL tgt L S ws cells slots Q) : J p l e R s m args below meth c g A nL pc L (.int (iI y) :: .int (iI x) :: S) ws cells slots Q := by
  intro H locs ls hP hD hS h
  exact lv_icmp_eq C.1 C.2.1 hd ht (fun _ => kk H locs ls hP hD hS h) (fun hc => absurd (congrArg iI hxy) hc)
theorem j_lsame (C : Cx p g s m args c cc nL own A) {x y off : Int} {tgt : Nat} (hxy : x = y) (hd : decode cc pc = .ok (.lcmp, 1)) (hd2 : decode cc (pc + 1) = .ok (.ifCond .eq off, 3)) (ht : ((pc + 1 : Nat) : Int) + off = (tgt : Int)) (kk : J p l e R s m args below meth c g A nL tgt L S ws cells slots Q) : J p l e R s m args below meth c g A nL pc L (.long (lI y) :: .long (lI x) :: S) ws cells slots Q := by
  intro H locs ls hP hD hS h
  subst hxy
  refine W.lcmp C.1 C.2.1 hd ?_
  have e : lg_cmp (lI x) (lI x) = 0 := by unfold lg_cmp; simp
  rw [e]
  exact lv_if_eq C.1 C.2.1 hd2 ht (fun _ => kk H locs ls hP hD hS h) (fun hc => absurd rfl hc)
theorem j_dcmp_eq (C : Cx p g s m args c cc nL own A) {x y : UInt64} {op : CmpOp} {off : Int} {tgt : Nat} (hd : decode cc pc = .ok (.dcmp op, 1)) (hd2 : decode cc (pc + 1) = .ok (.ifCond .eq off, 3)) (ht : ((pc + 1 : Nat) : Int) + off = (tgt : Int)) (kt : Op.cmpValue (FP.dcmp x y) op = 0 → J p l e R s m args below meth c g A nL tgt L S ws cells slots Q) (kf : ¬ Op.cmpValue (FP.dcmp x y) op = 0 → J p l e R s m args below meth c g A nL (pc + 4) L S ws cells slots Q) : J p l e R s m args below meth c g A nL pc L (.double y :: .double x :: S) ws cells slots Q := by
  intro H locs ls hP hD hS h
  exact lv_dcmp C.1 C.2.1 hd (lv_if_eq C.1 C.2.1 hd2 ht (fun hc => kt hc H locs ls hP hD hS h) (fun hc => kf hc H locs ls hP hD hS h))
theorem j_dcmp_ne (C : Cx p g s m args c cc nL own A) {x y : UInt64} {op : CmpOp} {off : Int} {tgt : Nat} (hd : decode cc pc = .ok (.dcmp op, 1)) (hd2 : decode cc (pc + 1) = .ok (.ifCond .ne off, 3)) (ht : ((pc + 1 : Nat) : Int) + off = (tgt : Int)) (kt : ¬ Op.cmpValue (FP.dcmp x y) op = 0 → J p l e R s m args below meth c g A nL tgt L S ws cells slots Q) (kf : Op.cmpValue (FP.dcmp x y) op = 0 → J p l e R s m args below meth c g A nL (pc + 4) L S ws cells slots Q) : J p l e R s m args below meth c g A nL pc L (.double y :: .double x :: S) ws cells slots Q := by
  intro H locs ls hP hD hS h
  exact lv_dcmp C.1 C.2.1 hd (lv_if_ne C.1 C.2.1 hd2 ht (fun hc => kt hc H locs ls hP hD hS h) (fun hc => kf hc H locs ls hP hD hS h))
end JWR
theorem yw_L_setWeight : YW yL_setWeight RL cL_setWeight 5 (some FieldType.int) [(0, 10, 13, 13), (0, 10, 17, 15)] 4 := ⟨qw429, qw0, qw430, rfl, ⟨by decide +kernel, by decide +kernel⟩, by decide +kernel⟩
theorem w_setWeight_0 (l : Launch) (g : Gh) (r : Nat → Nat) (qn qt : Nat → Nat) (qv : Nat → Nat → Nat) (kn kt : Nat → Nat → Int) (kv : Nat → Nat → Nat → Int) (sc : Int) (ns : Nat) (tx : Nat → Int) (tn : Nat) (pl : Int) (od : Nat) (o : Nat → Int) (b w : Int) (hT : TOK kn kv sc ns tx tn) (hb4 : 0 ≤ b ∧ b < 4) (hw : 0 ≤ w ∧ w ≤ 50000) : CW l g yL_setWeight cL_setWeight 5 (some FieldType.int) [(0, 10, 13, 13), (0, 10, 17, 15)] ({ frames := 5, cells := 0, slots := 0, locals := 108 }) [.ref (r 0), .int (iI b), .int (iI w), .ref od] ((od, aL g 1 o) :: wTp g r qn qt qv kn kt kv sc ns tx tn pl) (fun r9 w9 => r9 = some (.int (iI 0)) ∧ ∃ (kt9 : Nat → Nat → Int) (pl9 : Int), w9 = ((od, aL g 1 (va_up o 0 (w32 ((kn 3 b.toNat))))) :: wTp g r qn qt qv (va_up kn 3 (va_up (kn 3) b.toNat w)) kt9 (svk kn kv ns) (svs sc) (svn ns) tx tn pl9)) := by
  refine CW.intro (L0 := [(0, .ref (r 0)), (1, .int (iI b)), (2, .int (iI w)), (3, .ref od)]) (own := RL) (by decide) rfl (Nat.le_of_ble_eq_true rfl) rfl ?_
  intro pX eX sX mX argsX belowX methX cX A C hr hlk hnt
  refine J.vx ?_
  refine j_aload_n C 3 dL_setWeight_0 rfl rfl ?_
  refine j_iconst C dL_setWeight_1 ?_
  refine j_aload_n C 0 dL_setWeight_2 rfl rfl ?_
  refine j_iload_n C 1 dL_setWeight_3 rfl rfl ?_
  refine j_iload_n C 2 dL_setWeight_4 rfl rfl ?_
  refine j_callV (As := [.int (iI b), .int (iI w)]) (rest := [.int (iI 0), .ref od]) C yv_X4_setWeight qw433 (c_X4_setWeight l g r qn qt qv kn kt kv sc ns tx tn pl b w hT hb4 hw) (by decide) 1 rfl rfl rfl dL_setWeight_5 rfl (Nat.le_of_ble_eq_true rfl) (by decide) (pfL [(od, aL g 1 o)]) rfl (fun r9 w9 hq9 => ?_)
  obtain ⟨rfl, rfl⟩ := hq9
  refine J.to (L1 := [(0, .ref (r 0)), (1, .int (iI b)), (2, .int (iI w)), (3, .ref od)]) (S1 := [.int (iI ((kn 3 b.toNat))), .int (iI 0), .ref od]) (ws1 := ((od, aL g 1 (o)) :: wTp g r qn qt qv (va_up kn 3 (va_up (kn 3) b.toNat w)) kt (svk kn kv ns) (svs sc) (svn ns) tx tn pl)) rfl rfl rfl ?_
  refine j_i2lw C dL_setWeight_8 ?_
  refine j_last (ws1 := ((od, aL g 1 (va_up o 0 (w32 ((kn 3 b.toNat))))) :: wTp g r qn qt qv (va_up kn 3 (va_up (kn 3) b.toNat w)) kt (svk kn kv ns) (svs sc) (svn ns) tx tn pl)) C 0 0 rfl rfl (by decide) (by decide) dL_setWeight_9 rfl ?_
  refine j_goto (tgt := 21) C dL_setWeight_10 (by decide) ?_
  refine j_iconst C dL_setWeight_21 ?_
  exact j_iret C hr hlk dL_setWeight_22 ⟨rfl, kt, pl, rfl⟩ (by decide) (by decide)
theorem w_setWeight_1 (l : Launch) (hl : l.stackTraces = false) (g : Gh) (r : Nat → Nat) (qn qt : Nat → Nat) (qv : Nat → Nat → Nat) (kn kt : Nat → Nat → Int) (kv : Nat → Nat → Nat → Int) (sc : Int) (ns : Nat) (tx : Nat → Int) (tn : Nat) (pl : Int) (od : Nat) (o : Nat → Int) (b w : Int) (hT : TOK kn kv sc ns tx tn) (hrb : -2147483648 ≤ b ∧ b < 2147483648) (hrw : -2147483648 ≤ w ∧ w < 2147483648) (hb4 : b < 0 ∨ 4 ≤ b) : CW l g yL_setWeight cL_setWeight 5 (some FieldType.int) [(0, 10, 13, 13), (0, 10, 17, 15)] ({ frames := 8, cells := 1, slots := 6, locals := 145 }) [.ref (r 0), .int (iI b), .int (iI w), .ref od] ((od, aL g 1 o) :: wTp g r qn qt qv kn kt kv sc ns tx tn pl) (fun r9 w9 => r9 = some (.int (iI 1)) ∧ ∃ (kt9 : Nat → Nat → Int) (pl9 : Int), w9 = ((od, aL g 1 (o)) :: wTp g r qn qt qv kn kt9 kv sc ns tx tn pl9)) := by
  refine CW.intro (L0 := [(0, .ref (r 0)), (1, .int (iI b)), (2, .int (iI w)), (3, .ref od)]) (own := RL) (by decide) rfl (Nat.le_of_ble_eq_true rfl) rfl ?_
  intro pX eX sX mX argsX belowX methX cX A C hr hlk hnt
  refine J.vx ?_
  refine j_aload_n C 3 dL_setWeight_0 rfl rfl ?_
  refine j_iconst C dL_setWeight_1 ?_
  refine j_aload_n C 0 dL_setWeight_2 rfl rfl ?_
  refine j_iload_n C 1 dL_setWeight_3 rfl rfl ?_
  refine j_iload_n C 2 dL_setWeight_4 rfl rfl ?_
  refine j_callVC (As := [.int (iI b), .int (iI w)]) (rest := [.int (iI 0), .ref od]) C yv_X4_setWeight qw433 (x_X4_setWeight_1 l hl g r qn qt qv kn kt kv sc ns tx tn pl b w hT hrb hrw hb4) (by decide) 1 rfl rfl rfl dL_setWeight_5 rfl (Nat.le_of_ble_eq_true rfl) (by decide) (pfL [(od, aL g 1 o)]) rfl (name := "java/lang/IndexOutOfBoundsException") [] [⟨0, 10, 17, 15⟩] ⟨0, 10, 13, 13⟩ hnt (fun z hz => absurd hz List.not_mem_nil) (by decide) (by decide) qw431 qn404 (fun w9 q9 hq9 => ?_)
  subst hq9
  refine J.to (L1 := [(0, .ref (r 0)), (1, .int (iI b)), (2, .int (iI w)), (3, .ref od)]) (S1 := [.ref q9]) (ws1 := ((od, aL g 1 (o)) :: wTp g r qn qt qv kn kt kv sc ns tx tn pl)) rfl rfl rfl ?_
  refine j_astore (L1 := [(4, .ref q9), (0, .ref (r 0)), (1, .int (iI b)), (2, .int (iI w)), (3, .ref od)]) C dL_setWeight_13 (by decide) rfl ?_
  refine j_iconst C dL_setWeight_15 ?_
  exact j_iret C hr hlk dL_setWeight_16 ⟨rfl, kt, pl, rfl⟩ (by decide) (by decide)
theorem w_setWeight_2 (l : Launch) (hl : l.stackTraces = false) (g : Gh) (r : Nat → Nat) (qn qt : Nat → Nat) (qv : Nat → Nat → Nat) (kn kt : Nat → Nat → Int) (kv : Nat → Nat → Nat → Int) (sc : Int) (ns : Nat) (tx : Nat → Int) (tn : Nat) (pl : Int) (od : Nat) (o : Nat → Int) (b w : Int) (hT : TOK kn kv sc ns tx tn) (hrb : -2147483648 ≤ b ∧ b < 2147483648) (hrw : -2147483648 ≤ w ∧ w < 2147483648) (hb4 : 0 ≤ b ∧ b < 4) (hw : w < 0 ∨ 50000 < w) : CW l g yL_setWeight cL_setWeight 5 (some FieldType.int) [(0, 10, 13, 13), (0, 10, 17, 15)] ({ frames := 8, cells := 1, slots := 6, locals := 145 }) [.ref (r 0), .int (iI b), .int (iI w), .ref od] ((od, aL g 1 o) :: wTp g r qn qt qv kn kt kv sc ns tx tn pl) (fun r9 w9 => r9 = some (.int (iI 2)) ∧ ∃ (kt9 : Nat → Nat → Int) (pl9 : Int), w9 = ((od, aL g 1 (o)) :: wTp g r qn qt qv kn kt9 kv sc ns tx tn pl9)) := by
  refine CW.intro (L0 := [(0, .ref (r 0)), (1, .int (iI b)), (2, .int (iI w)), (3, .ref od)]) (own := RL) (by decide) rfl (Nat.le_of_ble_eq_true rfl) rfl ?_
  intro pX eX sX mX argsX belowX methX cX A C hr hlk hnt
  refine J.vx ?_
  refine j_aload_n C 3 dL_setWeight_0 rfl rfl ?_
  refine j_iconst C dL_setWeight_1 ?_
  refine j_aload_n C 0 dL_setWeight_2 rfl rfl ?_
  refine j_iload_n C 1 dL_setWeight_3 rfl rfl ?_
  refine j_iload_n C 2 dL_setWeight_4 rfl rfl ?_
  refine j_callVC (As := [.int (iI b), .int (iI w)]) (rest := [.int (iI 0), .ref od]) C yv_X4_setWeight qw433 (x_X4_setWeight_2 l hl g r qn qt qv kn kt kv sc ns tx tn pl b w hT hrb hrw hb4 hw) (by decide) 1 rfl rfl rfl dL_setWeight_5 rfl (Nat.le_of_ble_eq_true rfl) (by decide) (pfL [(od, aL g 1 o)]) rfl (name := "java/lang/IllegalArgumentException") [⟨0, 10, 13, 13⟩] [] ⟨0, 10, 17, 15⟩ hnt (fun z hz => by rcases List.mem_singleton.mp hz with rfl; exact Or.inr ⟨by decide, "java/lang/IndexOutOfBoundsException", C.2.2.2.2.1 _ qw431, C.2.2.2.2.2.1.2.2.1 ("java/lang/IllegalArgumentException", "java/lang/IndexOutOfBoundsException") (List.mem_of_getElem? (i := 0) rfl)⟩) (by decide) (by decide) qw432 qn325 (fun w9 q9 hq9 => ?_)
  subst hq9
  refine J.to (L1 := [(0, .ref (r 0)), (1, .int (iI b)), (2, .int (iI w)), (3, .ref od)]) (S1 := [.ref q9]) (ws1 := ((od, aL g 1 (o)) :: wTp g r qn qt qv kn kt kv sc ns tx tn pl)) rfl rfl rfl ?_
  refine j_astore (L1 := [(4, .ref q9), (0, .ref (r 0)), (1, .int (iI b)), (2, .int (iI w)), (3, .ref od)]) C dL_setWeight_17 (by decide) rfl ?_
  refine j_iconst C dL_setWeight_19 ?_
  exact j_iret C hr hlk dL_setWeight_20 ⟨rfl, kt, pl, rfl⟩ (by decide) (by decide)
theorem yw_L_setFriction : YW yL_setFriction RL cL_setFriction 4 (some FieldType.int) [(0, 9, 12, 15)] 3 := ⟨qw444, qw0, qw445, rfl, ⟨by decide +kernel, by decide +kernel⟩, by decide +kernel⟩
theorem w_setFriction_0 (l : Launch) (g : Gh) (r : Nat → Nat) (qn qt : Nat → Nat) (qv : Nat → Nat → Nat) (kn kt : Nat → Nat → Int) (kv : Nat → Nat → Nat → Int) (sc : Int) (ns : Nat) (tx : Nat → Int) (tn : Nat) (pl : Int) (od : Nat) (o : Nat → Int) (f : Int) (hT : TOK kn kv sc ns tx tn) (hf : 0 ≤ f ∧ f ≤ 30) : CW l g yL_setFriction cL_setFriction 4 (some FieldType.int) [(0, 9, 12, 15)] ({ frames := 5, cells := 0, slots := 0, locals := 107 }) [.ref (r 0), .int (iI f), .ref od] ((od, aL g 1 o) :: wTp g r qn qt qv kn kt kv sc ns tx tn pl) (fun r9 w9 => r9 = some (.int (iI 0)) ∧ ∃ (kt9 : Nat → Nat → Int) (pl9 : Int), w9 = ((od, aL g 1 (va_up o 0 (w32 ((kn 0 1))))) :: wTp g r qn qt qv (va_up kn 0 (va_up (kn 0) 1 f)) kt9 (svk kn kv ns) (svs sc) (svn ns) tx tn pl9)) := by
  refine CW.intro (L0 := [(0, .ref (r 0)), (1, .int (iI f)), (2, .ref od)]) (own := RL) (by decide) rfl (Nat.le_of_ble_eq_true rfl) rfl ?_
  intro pX eX sX mX argsX belowX methX cX A C hr hlk hnt
  refine J.vx ?_
  refine j_aload_n C 2 dL_setFriction_0 rfl rfl ?_
  refine j_iconst C dL_setFriction_1 ?_
  refine j_aload_n C 0 dL_setFriction_2 rfl rfl ?_
  refine j_iload_n C 1 dL_setFriction_3 rfl rfl ?_
  refine j_callV (As := [.int (iI f)]) (rest := [.int (iI 0), .ref od]) C yv_X4_setFriction qw446 (c_X4_setFriction l g r qn qt qv kn kt kv sc ns tx tn pl f hT hf) (by decide) 1 rfl rfl rfl dL_setFriction_4 rfl (Nat.le_of_ble_eq_true rfl) (by decide) (pfL [(od, aL g 1 o)]) rfl (fun r9 w9 hq9 => ?_)
  obtain ⟨rfl, rfl⟩ := hq9
  refine J.to (L1 := [(0, .ref (r 0)), (1, .int (iI f)), (2, .ref od)]) (S1 := [.int (iI ((kn 0 1))), .int (iI 0), .ref od]) (ws1 := ((od, aL g 1 (o)) :: wTp g r qn qt qv (va_up kn 0 (va_up (kn 0) 1 f)) kt (svk kn kv ns) (svs sc) (svn ns) tx tn pl)) rfl rfl rfl ?_
  refine j_i2lw C dL_setFriction_7 ?_
  refine j_last (ws1 := ((od, aL g 1 (va_up o 0 (w32 ((kn 0 1))))) :: wTp g r qn qt qv (va_up kn 0 (va_up (kn 0) 1 f)) kt (svk kn kv ns) (svs sc) (svn ns) tx tn pl)) C 0 0 rfl rfl (by decide) (by decide) dL_setFriction_8 rfl ?_
  refine j_goto (tgt := 15) C dL_setFriction_9 (by decide) ?_
  refine j_iconst C dL_setFriction_15 ?_
  exact j_iret C hr hlk dL_setFriction_16 ⟨rfl, kt, pl, rfl⟩ (by decide) (by decide)
theorem w_setFriction_1 (l : Launch) (hl : l.stackTraces = false) (g : Gh) (r : Nat → Nat) (qn qt : Nat → Nat) (qv : Nat → Nat → Nat) (kn kt : Nat → Nat → Int) (kv : Nat → Nat → Nat → Int) (sc : Int) (ns : Nat) (tx : Nat → Int) (tn : Nat) (pl : Int) (od : Nat) (o : Nat → Int) (f : Int) (hT : TOK kn kv sc ns tx tn) (hrf : -2147483648 ≤ f ∧ f < 2147483648) (hf : f < 0 ∨ 30 < f) : CW l g yL_setFriction cL_setFriction 4 (some FieldType.int) [(0, 9, 12, 15)] ({ frames := 8, cells := 1, slots := 6, locals := 144 }) [.ref (r 0), .int (iI f), .ref od] ((od, aL g 1 o) :: wTp g r qn qt qv kn kt kv sc ns tx tn pl) (fun r9 w9 => r9 = some (.int (iI 1)) ∧ ∃ (kt9 : Nat → Nat → Int) (pl9 : Int), w9 = ((od, aL g 1 (o)) :: wTp g r qn qt qv kn kt9 kv sc ns tx tn pl9)) := by
  refine CW.intro (L0 := [(0, .ref (r 0)), (1, .int (iI f)), (2, .ref od)]) (own := RL) (by decide) rfl (Nat.le_of_ble_eq_true rfl) rfl ?_
  intro pX eX sX mX argsX belowX methX cX A C hr hlk hnt
  refine J.vx ?_
  refine j_aload_n C 2 dL_setFriction_0 rfl rfl ?_
  refine j_iconst C dL_setFriction_1 ?_
  refine j_aload_n C 0 dL_setFriction_2 rfl rfl ?_
  refine j_iload_n C 1 dL_setFriction_3 rfl rfl ?_
  refine j_callVC (As := [.int (iI f)]) (rest := [.int (iI 0), .ref od]) C yv_X4_setFriction qw446 (x_X4_setFriction_1 l hl g r qn qt qv kn kt kv sc ns tx tn pl f hT hrf hf) (by decide) 1 rfl rfl rfl dL_setFriction_4 rfl (Nat.le_of_ble_eq_true rfl) (by decide) (pfL [(od, aL g 1 o)]) rfl (name := "java/lang/IllegalArgumentException") [] [] ⟨0, 9, 12, 15⟩ hnt (fun z hz => absurd hz List.not_mem_nil) (by decide) (by decide) qw432 qn325 (fun w9 q9 hq9 => ?_)
  subst hq9
  refine J.to (L1 := [(0, .ref (r 0)), (1, .int (iI f)), (2, .ref od)]) (S1 := [.ref q9]) (ws1 := ((od, aL g 1 (o)) :: wTp g r qn qt qv kn kt kv sc ns tx tn pl)) rfl rfl rfl ?_
  refine j_astore_n (L1 := [(3, .ref q9), (0, .ref (r 0)), (1, .int (iI f)), (2, .ref od)]) C dL_setFriction_12 rfl (by decide) rfl ?_
  refine j_iconst C dL_setFriction_13 ?_
  exact j_iret C hr hlk dL_setFriction_14 ⟨rfl, kt, pl, rfl⟩ (by decide) (by decide)
theorem yw_L_setLength : YW yL_setLength RL cL_setLength 4 (some FieldType.int) [(0, 9, 12, 15), (0, 9, 15, 24)] 3 := ⟨qw451, qw0, qw452, rfl, ⟨by decide +kernel, by decide +kernel⟩, by decide +kernel⟩
theorem w_setLength_0 (l : Launch) (g : Gh) (r : Nat → Nat) (qn qt : Nat → Nat) (qv : Nat → Nat → Nat) (kn kt : Nat → Nat → Int) (kv : Nat → Nat → Nat → Int) (sc : Int) (ns : Nat) (tx : Nat → Int) (tn : Nat) (pl : Int) (od : Nat) (o : Nat → Int) (x : Int) (hT : TOK kn kv sc ns tx tn) (hx : 1000 ≤ x ∧ x ≤ 300000) (hh : 0 ≤ hnd (kLen kn kt x)) : CW l g yL_setLength cL_setLength 4 (some FieldType.int) [(0, 9, 12, 15), (0, 9, 15, 24)] ({ frames := 6, cells := 0, slots := 0, locals := 127 }) [.ref (r 0), .int (iI x), .ref od] ((od, aL g 1 o) :: wTp g r qn qt qv kn kt kv sc ns tx tn pl) (fun r9 w9 => r9 = some (.int (iI 0)) ∧ ∃ (kt9 : Nat → Nat → Int) (pl9 : Int), w9 = ((od, aL g 1 (va_up o 0 (w32 ((hnd (cpS (kLen kn kt x) kn)))))) :: wTp g r qn qt qv (cpS (kLen kn kt x) kn) kt9 (svk kn kv ns) (svs sc) (svn ns) tx tn pl9)) := by
  refine CW.intro (L0 := [(0, .ref (r 0)), (1, .int (iI x)), (2, .ref od)]) (own := RL) (by decide) rfl (Nat.le_of_ble_eq_true rfl) rfl ?_
  intro pX eX sX mX argsX belowX methX cX A C hr hlk hnt
  refine J.vx ?_
  refine j_aload_n C 2 dL_setLength_0 rfl rfl ?_
  refine j_iconst C dL_setLength_1 ?_
  refine j_aload_n C 0 dL_setLength_2 rfl rfl ?_
  refine j_iload_n C 1 dL_setLength_3 rfl rfl ?_
  refine j_callV (As := [.int (iI x)]) (rest := [.int (iI 0), .ref od]) C yv_X4_setLength qw454 (c_X4_setLength l g r qn qt qv kn kt kv sc ns tx tn pl x hT hx hh) (by decide) 1 rfl rfl rfl dL_setLength_4 rfl (Nat.le_of_ble_eq_true rfl) (by decide) (pfL [(od, aL g 1 o)]) rfl (fun r9 w9 hq9 => ?_)
  obtain ⟨rfl, rfl⟩ := hq9
  refine J.to (L1 := [(0, .ref (r 0)), (1, .int (iI x)), (2, .ref od)]) (S1 := [.int (iI ((hnd (cpS (kLen kn kt x) kn)))), .int (iI 0), .ref od]) (ws1 := ((od, aL g 1 (o)) :: wTp g r qn qt qv (cpS (kLen kn kt x) kn) (kLen kn kt x) (svk kn kv ns) (svs sc) (svn ns) tx tn pl)) rfl rfl rfl ?_
  refine j_i2lw C dL_setLength_7 ?_
  refine j_last (ws1 := ((od, aL g 1 (va_up o 0 (w32 ((hnd (cpS (kLen kn kt x) kn)))))) :: wTp g r qn qt qv (cpS (kLen kn kt x) kn) (kLen kn kt x) (svk kn kv ns) (svs sc) (svn ns) tx tn pl)) C 0 0 rfl rfl (by decide) (by decide) dL_setLength_8 rfl ?_
  refine j_goto (tgt := 18) C dL_setLength_9 (by decide) ?_
  refine j_iconst C dL_setLength_18 ?_
  exact j_iret C hr hlk dL_setLength_19 ⟨rfl, (kLen kn kt x), pl, rfl⟩ (by decide) (by decide)
theorem w_setLength_1 (l : Launch) (hl : l.stackTraces = false) (g : Gh) (r : Nat → Nat) (qn qt : Nat → Nat) (qv : Nat → Nat → Nat) (kn kt : Nat → Nat → Int) (kv : Nat → Nat → Nat → Int) (sc : Int) (ns : Nat) (tx : Nat → Int) (tn : Nat) (pl : Int) (od : Nat) (o : Nat → Int) (x : Int) (hT : TOK kn kv sc ns tx tn) (hrx : -2147483648 ≤ x ∧ x < 2147483648) (hx : x < 1000 ∨ 300000 < x) : CW l g yL_setLength cL_setLength 4 (some FieldType.int) [(0, 9, 12, 15), (0, 9, 15, 24)] ({ frames := 8, cells := 1, slots := 6, locals := 143 }) [.ref (r 0), .int (iI x), .ref od] ((od, aL g 1 o) :: wTp g r qn qt qv kn kt kv sc ns tx tn pl) (fun r9 w9 => r9 = some (.int (iI 1)) ∧ ∃ (kt9 : Nat → Nat → Int) (pl9 : Int), w9 = ((od, aL g 1 (o)) :: wTp g r qn qt qv kn kt9 kv sc ns tx tn pl9)) := by
  refine CW.intro (L0 := [(0, .ref (r 0)), (1, .int (iI x)), (2, .ref od)]) (own := RL) (by decide) rfl (Nat.le_of_ble_eq_true rfl) rfl ?_
  intro pX eX sX mX argsX belowX methX cX A C hr hlk hnt
  refine J.vx ?_
  refine j_aload_n C 2 dL_setLength_0 rfl rfl ?_
  refine j_iconst C dL_setLength_1 ?_
  refine j_aload_n C 0 dL_setLength_2 rfl rfl ?_
  refine j_iload_n C 1 dL_setLength_3 rfl rfl ?_
  refine j_callVC (As := [.int (iI x)]) (rest := [.int (iI 0), .ref od]) C yv_X4_setLength qw454 (x_X4_setLength_1 l hl g r qn qt qv kn kt kv sc ns tx tn pl x hT hrx hx) (by decide) 1 rfl rfl rfl dL_setLength_4 rfl (Nat.le_of_ble_eq_true rfl) (by decide) (pfL [(od, aL g 1 o)]) rfl (name := "java/lang/IllegalArgumentException") [] [⟨0, 9, 15, 24⟩] ⟨0, 9, 12, 15⟩ hnt (fun z hz => absurd hz List.not_mem_nil) (by decide) (by decide) qw432 qn325 (fun w9 q9 hq9 => ?_)
  subst hq9
  refine J.to (L1 := [(0, .ref (r 0)), (1, .int (iI x)), (2, .ref od)]) (S1 := [.ref q9]) (ws1 := ((od, aL g 1 (o)) :: wTp g r qn qt qv kn kt kv sc ns tx tn pl)) rfl rfl rfl ?_
  refine j_astore_n (L1 := [(3, .ref q9), (0, .ref (r 0)), (1, .int (iI x)), (2, .ref od)]) C dL_setLength_12 rfl (by decide) rfl ?_
  refine j_iconst C dL_setLength_13 ?_
  exact j_iret C hr hlk dL_setLength_14 ⟨rfl, kt, pl, rfl⟩ (by decide) (by decide)
theorem w_setLength_2 (l : Launch) (hl : l.stackTraces = false) (g : Gh) (r : Nat → Nat) (qn qt : Nat → Nat) (qv : Nat → Nat → Nat) (kn kt : Nat → Nat → Int) (kv : Nat → Nat → Nat → Int) (sc : Int) (ns : Nat) (tx : Nat → Int) (tn : Nat) (pl : Int) (od : Nat) (o : Nat → Int) (x : Int) (hT : TOK kn kv sc ns tx tn) (hx : 1000 ≤ x ∧ x ≤ 300000) (hh : hnd (kLen kn kt x) < 0) : CW l g yL_setLength cL_setLength 4 (some FieldType.int) [(0, 9, 12, 15), (0, 9, 15, 24)] ({ frames := 8, cells := 1, slots := 6, locals := 143 }) [.ref (r 0), .int (iI x), .ref od] ((od, aL g 1 o) :: wTp g r qn qt qv kn kt kv sc ns tx tn pl) (fun r9 w9 => r9 = some (.int (iI 2)) ∧ ∃ (kt9 : Nat → Nat → Int) (pl9 : Int), w9 = ((od, aL g 1 (o)) :: wTp g r qn qt qv kn kt9 kv sc ns tx tn pl9)) := by
  refine CW.intro (L0 := [(0, .ref (r 0)), (1, .int (iI x)), (2, .ref od)]) (own := RL) (by decide) rfl (Nat.le_of_ble_eq_true rfl) rfl ?_
  intro pX eX sX mX argsX belowX methX cX A C hr hlk hnt
  refine J.vx ?_
  refine j_aload_n C 2 dL_setLength_0 rfl rfl ?_
  refine j_iconst C dL_setLength_1 ?_
  refine j_aload_n C 0 dL_setLength_2 rfl rfl ?_
  refine j_iload_n C 1 dL_setLength_3 rfl rfl ?_
  refine j_callVC (As := [.int (iI x)]) (rest := [.int (iI 0), .ref od]) C yv_X4_setLength qw454 (x_X4_setLength_2 l hl g r qn qt qv kn kt kv sc ns tx tn pl x hT hx hh) (by decide) 1 rfl rfl rfl dL_setLength_4 rfl (Nat.le_of_ble_eq_true rfl) (by decide) (pfL [(od, aL g 1 o)]) rfl (name := "java/lang/IllegalStateException") [⟨0, 9, 12, 15⟩] [] ⟨0, 9, 15, 24⟩ hnt (fun z hz => by rcases List.mem_singleton.mp hz with rfl; exact Or.inr ⟨by decide, "java/lang/IllegalArgumentException", C.2.2.2.2.1 _ qw432, C.2.2.2.2.2.1.2.2.1 ("java/lang/IllegalStateException", "java/lang/IllegalArgumentException") (List.mem_of_getElem? (i := 2) rfl)⟩) (by decide) (by decide) qw453 qn465 (fun w9 q9 hq9 => ?_)
  subst hq9
  refine J.to (L1 := [(0, .ref (r 0)), (1, .int (iI x)), (2, .ref od)]) (S1 := [.ref q9]) (ws1 := ((od, aL g 1 (o)) :: wTp g r qn qt qv kn (kLen kn kt x) kv sc ns tx tn pl)) rfl rfl rfl ?_
  refine j_astore_n (L1 := [(3, .ref q9), (0, .ref (r 0)), (1, .int (iI x)), (2, .ref od)]) C dL_setLength_15 rfl (by decide) rfl ?_
  refine j_iconst C dL_setLength_16 ?_
  exact j_iret C hr hlk dL_setLength_17 ⟨rfl, (kLen kn kt x), pl, rfl⟩ (by decide) (by decide)
theorem yw_L_addPulley : YW yL_addPulley RL cL_addPulley 4 (some FieldType.int) [(0, 9, 12, 13), (0, 9, 15, 24)] 3 := ⟨qw480, qw0, qw481, rfl, ⟨by decide +kernel, by decide +kernel⟩, by decide +kernel⟩
theorem w_addPulley_0 (l : Launch) (g : Gh) (r : Nat → Nat) (qn qt : Nat → Nat) (qv : Nat → Nat → Nat) (kn kt : Nat → Nat → Int) (kv : Nat → Nat → Nat → Int) (sc : Int) (ns : Nat) (tx : Nat → Int) (tn : Nat) (pl : Int) (od : Nat) (o : Nat → Int) (b : Int) (hT : TOK kn kv sc ns tx tn) (hb4 : 0 ≤ b ∧ b < 4) (hP9 : kn 0 2 < 10) (hh : 0 ≤ hnd (kAdd kn kt b)) : CW l g yL_addPulley cL_addPulley 4 (some FieldType.int) [(0, 9, 12, 13), (0, 9, 15, 24)] ({ frames := 6, cells := 0, slots := 0, locals := 127 }) [.ref (r 0), .int (iI b), .ref od] ((od, aL g 1 o) :: wTp g r qn qt qv kn kt kv sc ns tx tn pl) (fun r9 w9 => r9 = some (.int (iI 0)) ∧ ∃ (kt9 : Nat → Nat → Int) (pl9 : Int), w9 = ((od, aL g 1 (va_up o 0 (w32 ((kn 0 2 + 1))))) :: wTp g r qn qt qv (cpS (kAdd kn kt b) kn) kt9 (svk kn kv ns) (svs sc) (svn ns) tx tn pl9)) := by
  refine CW.intro (L0 := [(0, .ref (r 0)), (1, .int (iI b)), (2, .ref od)]) (own := RL) (by decide) rfl (Nat.le_of_ble_eq_true rfl) rfl ?_
  intro pX eX sX mX argsX belowX methX cX A C hr hlk hnt
  refine J.vx ?_
  refine j_aload_n C 2 dL_addPulley_0 rfl rfl ?_
  refine j_iconst C dL_addPulley_1 ?_
  refine j_aload_n C 0 dL_addPulley_2 rfl rfl ?_
  refine j_iload_n C 1 dL_addPulley_3 rfl rfl ?_
  refine j_callV (As := [.int (iI b)]) (rest := [.int (iI 0), .ref od]) C yv_X4_addPulley qw482 (c_X4_addPulley l g r qn qt qv kn kt kv sc ns tx tn pl b hT hb4 hP9 hh) (by decide) 1 rfl rfl rfl dL_addPulley_4 rfl (Nat.le_of_ble_eq_true rfl) (by decide) (pfL [(od, aL g 1 o)]) rfl (fun r9 w9 hq9 => ?_)
  obtain ⟨rfl, rfl⟩ := hq9
  refine J.to (L1 := [(0, .ref (r 0)), (1, .int (iI b)), (2, .ref od)]) (S1 := [.int (iI ((kn 0 2 + 1))), .int (iI 0), .ref od]) (ws1 := ((od, aL g 1 (o)) :: wTp g r qn qt qv (cpS (kAdd kn kt b) kn) (kAdd kn kt b) (svk kn kv ns) (svs sc) (svn ns) tx tn pl)) rfl rfl rfl ?_
  refine j_i2lw C dL_addPulley_7 ?_
  refine j_last (ws1 := ((od, aL g 1 (va_up o 0 (w32 ((kn 0 2 + 1))))) :: wTp g r qn qt qv (cpS (kAdd kn kt b) kn) (kAdd kn kt b) (svk kn kv ns) (svs sc) (svn ns) tx tn pl)) C 0 0 rfl rfl (by decide) (by decide) dL_addPulley_8 rfl ?_
  refine j_goto (tgt := 18) C dL_addPulley_9 (by decide) ?_
  refine j_iconst C dL_addPulley_18 ?_
  exact j_iret C hr hlk dL_addPulley_19 ⟨rfl, (kAdd kn kt b), pl, rfl⟩ (by decide) (by decide)
theorem w_addPulley_1 (l : Launch) (hl : l.stackTraces = false) (g : Gh) (r : Nat → Nat) (qn qt : Nat → Nat) (qv : Nat → Nat → Nat) (kn kt : Nat → Nat → Int) (kv : Nat → Nat → Nat → Int) (sc : Int) (ns : Nat) (tx : Nat → Int) (tn : Nat) (pl : Int) (od : Nat) (o : Nat → Int) (b : Int) (hT : TOK kn kv sc ns tx tn) (hrb : -2147483648 ≤ b ∧ b < 2147483648) (hb4 : b < 0 ∨ 4 ≤ b) : CW l g yL_addPulley cL_addPulley 4 (some FieldType.int) [(0, 9, 12, 13), (0, 9, 15, 24)] ({ frames := 8, cells := 1, slots := 6, locals := 141 }) [.ref (r 0), .int (iI b), .ref od] ((od, aL g 1 o) :: wTp g r qn qt qv kn kt kv sc ns tx tn pl) (fun r9 w9 => r9 = some (.int (iI 1)) ∧ ∃ (kt9 : Nat → Nat → Int) (pl9 : Int), w9 = ((od, aL g 1 (o)) :: wTp g r qn qt qv kn kt9 kv sc ns tx tn pl9)) := by
  refine CW.intro (L0 := [(0, .ref (r 0)), (1, .int (iI b)), (2, .ref od)]) (own := RL) (by decide) rfl (Nat.le_of_ble_eq_true rfl) rfl ?_
  intro pX eX sX mX argsX belowX methX cX A C hr hlk hnt
  refine J.vx ?_
  refine j_aload_n C 2 dL_addPulley_0 rfl rfl ?_
  refine j_iconst C dL_addPulley_1 ?_
  refine j_aload_n C 0 dL_addPulley_2 rfl rfl ?_
  refine j_iload_n C 1 dL_addPulley_3 rfl rfl ?_
  refine j_callVC (As := [.int (iI b)]) (rest := [.int (iI 0), .ref od]) C yv_X4_addPulley qw482 (x_X4_addPulley_1 l hl g r qn qt qv kn kt kv sc ns tx tn pl b hT hrb hb4) (by decide) 1 rfl rfl rfl dL_addPulley_4 rfl (Nat.le_of_ble_eq_true rfl) (by decide) (pfL [(od, aL g 1 o)]) rfl (name := "java/lang/IndexOutOfBoundsException") [] [⟨0, 9, 15, 24⟩] ⟨0, 9, 12, 13⟩ hnt (fun z hz => absurd hz List.not_mem_nil) (by decide) (by decide) qw431 qn404 (fun w9 q9 hq9 => ?_)
  subst hq9
  refine J.to (L1 := [(0, .ref (r 0)), (1, .int (iI b)), (2, .ref od)]) (S1 := [.ref q9]) (ws1 := ((od, aL g 1 (o)) :: wTp g r qn qt qv kn kt kv sc ns tx tn pl)) rfl rfl rfl ?_
  refine j_astore_n (L1 := [(3, .ref q9), (0, .ref (r 0)), (1, .int (iI b)), (2, .ref od)]) C dL_addPulley_12 rfl (by decide) rfl ?_
  refine j_iconst C dL_addPulley_13 ?_
  exact j_iret C hr hlk dL_addPulley_14 ⟨rfl, kt, pl, rfl⟩ (by decide) (by decide)
theorem w_addPulley_2 (l : Launch) (hl : l.stackTraces = false) (g : Gh) (r : Nat → Nat) (qn qt : Nat → Nat) (qv : Nat → Nat → Nat) (kn kt : Nat → Nat → Int) (kv : Nat → Nat → Nat → Int) (sc : Int) (ns : Nat) (tx : Nat → Int) (tn : Nat) (pl : Int) (od : Nat) (o : Nat → Int) (b : Int) (hT : TOK kn kv sc ns tx tn) (hb4 : 0 ≤ b ∧ b < 4) (hP9 : kn 0 2 = 10) : CW l g yL_addPulley cL_addPulley 4 (some FieldType.int) [(0, 9, 12, 13), (0, 9, 15, 24)] ({ frames := 8, cells := 1, slots := 6, locals := 141 }) [.ref (r 0), .int (iI b), .ref od] ((od, aL g 1 o) :: wTp g r qn qt qv kn kt kv sc ns tx tn pl) (fun r9 w9 => r9 = some (.int (iI 2)) ∧ ∃ (kt9 : Nat → Nat → Int) (pl9 : Int), w9 = ((od, aL g 1 (o)) :: wTp g r qn qt qv kn kt9 kv sc ns tx tn pl9)) := by
  refine CW.intro (L0 := [(0, .ref (r 0)), (1, .int (iI b)), (2, .ref od)]) (own := RL) (by decide) rfl (Nat.le_of_ble_eq_true rfl) rfl ?_
  intro pX eX sX mX argsX belowX methX cX A C hr hlk hnt
  refine J.vx ?_
  refine j_aload_n C 2 dL_addPulley_0 rfl rfl ?_
  refine j_iconst C dL_addPulley_1 ?_
  refine j_aload_n C 0 dL_addPulley_2 rfl rfl ?_
  refine j_iload_n C 1 dL_addPulley_3 rfl rfl ?_
  refine j_callVC (As := [.int (iI b)]) (rest := [.int (iI 0), .ref od]) C yv_X4_addPulley qw482 (x_X4_addPulley_2 l hl g r qn qt qv kn kt kv sc ns tx tn pl b hT hb4 hP9) (by decide) 1 rfl rfl rfl dL_addPulley_4 rfl (Nat.le_of_ble_eq_true rfl) (by decide) (pfL [(od, aL g 1 o)]) rfl (name := "java/lang/IllegalStateException") [⟨0, 9, 12, 13⟩] [] ⟨0, 9, 15, 24⟩ hnt (fun z hz => by rcases List.mem_singleton.mp hz with rfl; exact Or.inr ⟨by decide, "java/lang/IndexOutOfBoundsException", C.2.2.2.2.1 _ qw431, C.2.2.2.2.2.1.2.2.1 ("java/lang/IllegalStateException", "java/lang/IndexOutOfBoundsException") (List.mem_of_getElem? (i := 1) rfl)⟩) (by decide) (by decide) qw453 qn465 (fun w9 q9 hq9 => ?_)
  subst hq9
  refine J.to (L1 := [(0, .ref (r 0)), (1, .int (iI b)), (2, .ref od)]) (S1 := [.ref q9]) (ws1 := ((od, aL g 1 (o)) :: wTp g r qn qt qv kn kt kv sc ns tx tn pl)) rfl rfl rfl ?_
  refine j_astore_n (L1 := [(3, .ref q9), (0, .ref (r 0)), (1, .int (iI b)), (2, .ref od)]) C dL_addPulley_15 rfl (by decide) rfl ?_
  refine j_iconst C dL_addPulley_16 ?_
  exact j_iret C hr hlk dL_addPulley_17 ⟨rfl, kt, pl, rfl⟩ (by decide) (by decide)
theorem w_addPulley_2b (l : Launch) (hl : l.stackTraces = false) (g : Gh) (r : Nat → Nat) (qn qt : Nat → Nat) (qv : Nat → Nat → Nat) (kn kt : Nat → Nat → Int) (kv : Nat → Nat → Nat → Int) (sc : Int) (ns : Nat) (tx : Nat → Int) (tn : Nat) (pl : Int) (od : Nat) (o : Nat → Int) (b : Int) (hT : TOK kn kv sc ns tx tn) (hb4 : 0 ≤ b ∧ b < 4) (hP9 : kn 0 2 < 10) (hh : hnd (kAdd kn kt b) < 0) : CW l g yL_addPulley cL_addPulley 4 (some FieldType.int) [(0, 9, 12, 13), (0, 9, 15, 24)] ({ frames := 8, cells := 1, slots := 6, locals := 141 }) [.ref (r 0), .int (iI b), .ref od] ((od, aL g 1 o) :: wTp g r qn qt qv kn kt kv sc ns tx tn pl) (fun r9 w9 => r9 = some (.int (iI 2)) ∧ ∃ (kt9 : Nat → Nat → Int) (pl9 : Int), w9 = ((od, aL g 1 (o)) :: wTp g r qn qt qv kn kt9 kv sc ns tx tn pl9)) := by
  refine CW.intro (L0 := [(0, .ref (r 0)), (1, .int (iI b)), (2, .ref od)]) (own := RL) (by decide) rfl (Nat.le_of_ble_eq_true rfl) rfl ?_
  intro pX eX sX mX argsX belowX methX cX A C hr hlk hnt
  refine J.vx ?_
  refine j_aload_n C 2 dL_addPulley_0 rfl rfl ?_
  refine j_iconst C dL_addPulley_1 ?_
  refine j_aload_n C 0 dL_addPulley_2 rfl rfl ?_
  refine j_iload_n C 1 dL_addPulley_3 rfl rfl ?_
  refine j_callVC (As := [.int (iI b)]) (rest := [.int (iI 0), .ref od]) C yv_X4_addPulley qw482 (x_X4_addPulley_3 l hl g r qn qt qv kn kt kv sc ns tx tn pl b hT hb4 hP9 hh) (by decide) 1 rfl rfl rfl dL_addPulley_4 rfl (Nat.le_of_ble_eq_true rfl) (by decide) (pfL [(od, aL g 1 o)]) rfl (name := "java/lang/IllegalStateException") [⟨0, 9, 12, 13⟩] [] ⟨0, 9, 15, 24⟩ hnt (fun z hz => by rcases List.mem_singleton.mp hz with rfl; exact Or.inr ⟨by decide, "java/lang/IndexOutOfBoundsException", C.2.2.2.2.1 _ qw431, C.2.2.2.2.2.1.2.2.1 ("java/lang/IllegalStateException", "java/lang/IndexOutOfBoundsException") (List.mem_of_getElem? (i := 1) rfl)⟩) (by decide) (by decide) qw453 qn465 (fun w9 q9 hq9 => ?_)
  subst hq9
  refine J.to (L1 := [(0, .ref (r 0)), (1, .int (iI b)), (2, .ref od)]) (S1 := [.ref q9]) (ws1 := ((od, aL g 1 (o)) :: wTp g r qn qt qv kn (kAdd kn kt b) kv sc ns tx tn pl)) rfl rfl rfl ?_
  refine j_astore_n (L1 := [(3, .ref q9), (0, .ref (r 0)), (1, .int (iI b)), (2, .ref od)]) C dL_addPulley_15 rfl (by decide) rfl ?_
  refine j_iconst C dL_addPulley_16 ?_
  exact j_iret C hr hlk dL_addPulley_17 ⟨rfl, (kAdd kn kt b), pl, rfl⟩ (by decide) (by decide)
theorem yw_L_takePulley : YW yL_takePulley RL cL_takePulley 3 (some FieldType.int) [(0, 8, 11, 24)] 2 := ⟨qw489, qw0, qw490, rfl, ⟨by decide +kernel, by decide +kernel⟩, by decide +kernel⟩
theorem w_takePulley_0 (l : Launch) (g : Gh) (r : Nat → Nat) (qn qt : Nat → Nat) (qv : Nat → Nat → Nat) (kn kt : Nat → Nat → Int) (kv : Nat → Nat → Nat → Int) (sc : Int) (ns : Nat) (tx : Nat → Int) (tn : Nat) (pl : Int) (od : Nat) (o : Nat → Int) (hT : TOK kn kv sc ns tx tn) (hP0 : 0 < kn 0 2) : CW l g yL_takePulley cL_takePulley 3 (some FieldType.int) [(0, 8, 11, 24)] ({ frames := 5, cells := 0, slots := 0, locals := 105 }) [.ref (r 0), .ref od] ((od, aL g 1 o) :: wTp g r qn qt qv kn kt kv sc ns tx tn pl) (fun r9 w9 => r9 = some (.int (iI 0)) ∧ ∃ (kt9 : Nat → Nat → Int) (pl9 : Int), w9 = ((od, aL g 1 (va_up o 0 (w32 ((kn 1 (kn 0 2 - 1).toNat))))) :: wTp g r qn qt qv (kTake kn) kt9 (svk kn kv ns) (svs sc) (svn ns) tx tn pl9)) := by
  refine CW.intro (L0 := [(0, .ref (r 0)), (1, .ref od)]) (own := RL) (by decide) rfl (Nat.le_of_ble_eq_true rfl) rfl ?_
  intro pX eX sX mX argsX belowX methX cX A C hr hlk hnt
  refine J.vx ?_
  refine j_aload_n C 1 dL_takePulley_0 rfl rfl ?_
  refine j_iconst C dL_takePulley_1 ?_
  refine j_aload_n C 0 dL_takePulley_2 rfl rfl ?_
  refine j_callV (As := []) (rest := [.int (iI 0), .ref od]) C yv_X4_takePulley qw491 (c_X4_takePulley l g r qn qt qv kn kt kv sc ns tx tn pl hT hP0) (by decide) 1 rfl rfl rfl dL_takePulley_3 rfl (Nat.le_of_ble_eq_true rfl) (by decide) (pfL [(od, aL g 1 o)]) rfl (fun r9 w9 hq9 => ?_)
  obtain ⟨rfl, rfl⟩ := hq9
  refine J.to (L1 := [(0, .ref (r 0)), (1, .ref od)]) (S1 := [.int (iI ((kn 1 (kn 0 2 - 1).toNat))), .int (iI 0), .ref od]) (ws1 := ((od, aL g 1 (o)) :: wTp g r qn qt qv (kTake kn) kt (svk kn kv ns) (svs sc) (svn ns) tx tn pl)) rfl rfl rfl ?_
  refine j_i2lw C dL_takePulley_6 ?_
  refine j_last (ws1 := ((od, aL g 1 (va_up o 0 (w32 ((kn 1 (kn 0 2 - 1).toNat))))) :: wTp g r qn qt qv (kTake kn) kt (svk kn kv ns) (svs sc) (svn ns) tx tn pl)) C 0 0 rfl rfl (by decide) (by decide) dL_takePulley_7 rfl ?_
  refine j_goto (tgt := 14) C dL_takePulley_8 (by decide) ?_
  refine j_iconst C dL_takePulley_14 ?_
  exact j_iret C hr hlk dL_takePulley_15 ⟨rfl, kt, pl, rfl⟩ (by decide) (by decide)
theorem w_takePulley_1 (l : Launch) (hl : l.stackTraces = false) (g : Gh) (r : Nat → Nat) (qn qt : Nat → Nat) (qv : Nat → Nat → Nat) (kn kt : Nat → Nat → Int) (kv : Nat → Nat → Nat → Int) (sc : Int) (ns : Nat) (tx : Nat → Int) (tn : Nat) (pl : Int) (od : Nat) (o : Nat → Int) (hT : TOK kn kv sc ns tx tn) (hP0 : kn 0 2 = 0) : CW l g yL_takePulley cL_takePulley 3 (some FieldType.int) [(0, 8, 11, 24)] ({ frames := 7, cells := 1, slots := 6, locals := 120 }) [.ref (r 0), .ref od] ((od, aL g 1 o) :: wTp g r qn qt qv kn kt kv sc ns tx tn pl) (fun r9 w9 => r9 = some (.int (iI 1)) ∧ ∃ (kt9 : Nat → Nat → Int) (pl9 : Int), w9 = ((od, aL g 1 (o)) :: wTp g r qn qt qv kn kt9 kv sc ns tx tn pl9)) := by
  refine CW.intro (L0 := [(0, .ref (r 0)), (1, .ref od)]) (own := RL) (by decide) rfl (Nat.le_of_ble_eq_true rfl) rfl ?_
  intro pX eX sX mX argsX belowX methX cX A C hr hlk hnt
  refine J.vx ?_
  refine j_aload_n C 1 dL_takePulley_0 rfl rfl ?_
  refine j_iconst C dL_takePulley_1 ?_
  refine j_aload_n C 0 dL_takePulley_2 rfl rfl ?_
  refine j_callVC (As := []) (rest := [.int (iI 0), .ref od]) C yv_X4_takePulley qw491 (x_X4_takePulley_1 l hl g r qn qt qv kn kt kv sc ns tx tn pl hT hP0) (by decide) 1 rfl rfl rfl dL_takePulley_3 rfl (Nat.le_of_ble_eq_true rfl) (by decide) (pfL [(od, aL g 1 o)]) rfl (name := "java/lang/IllegalStateException") [] [] ⟨0, 8, 11, 24⟩ hnt (fun z hz => absurd hz List.not_mem_nil) (by decide) (by decide) qw453 qn465 (fun w9 q9 hq9 => ?_)
  subst hq9
  refine J.to (L1 := [(0, .ref (r 0)), (1, .ref od)]) (S1 := [.ref q9]) (ws1 := ((od, aL g 1 (o)) :: wTp g r qn qt qv kn kt kv sc ns tx tn pl)) rfl rfl rfl ?_
  refine j_astore_n (L1 := [(2, .ref q9), (0, .ref (r 0)), (1, .ref od)]) C dL_takePulley_11 rfl (by decide) rfl ?_
  refine j_iconst C dL_takePulley_12 ?_
  exact j_iret C hr hlk dL_takePulley_13 ⟨rfl, kt, pl, rfl⟩ (by decide) (by decide)
theorem yw_L_setEnd : YW yL_setEnd RL cL_setEnd 4 (some FieldType.int) [(0, 9, 12, 13), (0, 9, 15, 24)] 3 := ⟨qw502, qw0, qw503, rfl, ⟨by decide +kernel, by decide +kernel⟩, by decide +kernel⟩
theorem w_setEnd_0 (l : Launch) (g : Gh) (r : Nat → Nat) (qn qt : Nat → Nat) (qv : Nat → Nat → Nat) (kn kt : Nat → Nat → Int) (kv : Nat → Nat → Nat → Int) (sc : Int) (ns : Nat) (tx : Nat → Int) (tn : Nat) (pl : Int) (od : Nat) (o : Nat → Int) (x : Int) (hT : TOK kn kv sc ns tx tn) (hx : 0 ≤ x ∧ x ≤ 4) (hh : 0 ≤ hnd (kEnd kn kt x)) : CW l g yL_setEnd cL_setEnd 4 (some FieldType.int) [(0, 9, 12, 13), (0, 9, 15, 24)] ({ frames := 6, cells := 0, slots := 0, locals := 128 }) [.ref (r 0), .int (iI x), .ref od] ((od, aL g 1 o) :: wTp g r qn qt qv kn kt kv sc ns tx tn pl) (fun r9 w9 => r9 = some (.int (iI 0)) ∧ ∃ (kt9 : Nat → Nat → Int) (pl9 : Int), w9 = ((od, aL g 1 (va_up o 0 (w32 ((kn 0 3))))) :: wTp g r qn qt qv (cpS (kEnd kn kt x) kn) kt9 (svk kn kv ns) (svs sc) (svn ns) tx tn pl9)) := by
  refine CW.intro (L0 := [(0, .ref (r 0)), (1, .int (iI x)), (2, .ref od)]) (own := RL) (by decide) rfl (Nat.le_of_ble_eq_true rfl) rfl ?_
  intro pX eX sX mX argsX belowX methX cX A C hr hlk hnt
  refine J.vx ?_
  refine j_aload_n C 2 dL_setEnd_0 rfl rfl ?_
  refine j_iconst C dL_setEnd_1 ?_
  refine j_aload_n C 0 dL_setEnd_2 rfl rfl ?_
  refine j_iload_n C 1 dL_setEnd_3 rfl rfl ?_
  refine j_callV (As := [.int (iI x)]) (rest := [.int (iI 0), .ref od]) C yv_X4_setEnd qw504 (c_X4_setEnd l g r qn qt qv kn kt kv sc ns tx tn pl x hT hx hh) (by decide) 1 rfl rfl rfl dL_setEnd_4 rfl (Nat.le_of_ble_eq_true rfl) (by decide) (pfL [(od, aL g 1 o)]) rfl (fun r9 w9 hq9 => ?_)
  obtain ⟨rfl, rfl⟩ := hq9
  refine J.to (L1 := [(0, .ref (r 0)), (1, .int (iI x)), (2, .ref od)]) (S1 := [.int (iI ((kn 0 3))), .int (iI 0), .ref od]) (ws1 := ((od, aL g 1 (o)) :: wTp g r qn qt qv (cpS (kEnd kn kt x) kn) (kEnd kn kt x) (svk kn kv ns) (svs sc) (svn ns) tx tn pl)) rfl rfl rfl ?_
  refine j_i2lw C dL_setEnd_7 ?_
  refine j_last (ws1 := ((od, aL g 1 (va_up o 0 (w32 ((kn 0 3))))) :: wTp g r qn qt qv (cpS (kEnd kn kt x) kn) (kEnd kn kt x) (svk kn kv ns) (svs sc) (svn ns) tx tn pl)) C 0 0 rfl rfl (by decide) (by decide) dL_setEnd_8 rfl ?_
  refine j_goto (tgt := 18) C dL_setEnd_9 (by decide) ?_
  refine j_iconst C dL_setEnd_18 ?_
  exact j_iret C hr hlk dL_setEnd_19 ⟨rfl, (kEnd kn kt x), pl, rfl⟩ (by decide) (by decide)
theorem w_setEnd_1 (l : Launch) (hl : l.stackTraces = false) (g : Gh) (r : Nat → Nat) (qn qt : Nat → Nat) (qv : Nat → Nat → Nat) (kn kt : Nat → Nat → Int) (kv : Nat → Nat → Nat → Int) (sc : Int) (ns : Nat) (tx : Nat → Int) (tn : Nat) (pl : Int) (od : Nat) (o : Nat → Int) (x : Int) (hT : TOK kn kv sc ns tx tn) (hrx : -2147483648 ≤ x ∧ x < 2147483648) (hx : x < 0 ∨ 4 < x) : CW l g yL_setEnd cL_setEnd 4 (some FieldType.int) [(0, 9, 12, 13), (0, 9, 15, 24)] ({ frames := 8, cells := 1, slots := 6, locals := 142 }) [.ref (r 0), .int (iI x), .ref od] ((od, aL g 1 o) :: wTp g r qn qt qv kn kt kv sc ns tx tn pl) (fun r9 w9 => r9 = some (.int (iI 1)) ∧ ∃ (kt9 : Nat → Nat → Int) (pl9 : Int), w9 = ((od, aL g 1 (o)) :: wTp g r qn qt qv kn kt9 kv sc ns tx tn pl9)) := by
  refine CW.intro (L0 := [(0, .ref (r 0)), (1, .int (iI x)), (2, .ref od)]) (own := RL) (by decide) rfl (Nat.le_of_ble_eq_true rfl) rfl ?_
  intro pX eX sX mX argsX belowX methX cX A C hr hlk hnt
  refine J.vx ?_
  refine j_aload_n C 2 dL_setEnd_0 rfl rfl ?_
  refine j_iconst C dL_setEnd_1 ?_
  refine j_aload_n C 0 dL_setEnd_2 rfl rfl ?_
  refine j_iload_n C 1 dL_setEnd_3 rfl rfl ?_
  refine j_callVC (As := [.int (iI x)]) (rest := [.int (iI 0), .ref od]) C yv_X4_setEnd qw504 (x_X4_setEnd_1 l hl g r qn qt qv kn kt kv sc ns tx tn pl x hT hrx hx) (by decide) 1 rfl rfl rfl dL_setEnd_4 rfl (Nat.le_of_ble_eq_true rfl) (by decide) (pfL [(od, aL g 1 o)]) rfl (name := "java/lang/IndexOutOfBoundsException") [] [⟨0, 9, 15, 24⟩] ⟨0, 9, 12, 13⟩ hnt (fun z hz => absurd hz List.not_mem_nil) (by decide) (by decide) qw431 qn404 (fun w9 q9 hq9 => ?_)
  subst hq9
  refine J.to (L1 := [(0, .ref (r 0)), (1, .int (iI x)), (2, .ref od)]) (S1 := [.ref q9]) (ws1 := ((od, aL g 1 (o)) :: wTp g r qn qt qv kn kt kv sc ns tx tn pl)) rfl rfl rfl ?_
  refine j_astore_n (L1 := [(3, .ref q9), (0, .ref (r 0)), (1, .int (iI x)), (2, .ref od)]) C dL_setEnd_12 rfl (by decide) rfl ?_
  refine j_iconst C dL_setEnd_13 ?_
  exact j_iret C hr hlk dL_setEnd_14 ⟨rfl, kt, pl, rfl⟩ (by decide) (by decide)
theorem w_setEnd_2 (l : Launch) (hl : l.stackTraces = false) (g : Gh) (r : Nat → Nat) (qn qt : Nat → Nat) (qv : Nat → Nat → Nat) (kn kt : Nat → Nat → Int) (kv : Nat → Nat → Nat → Int) (sc : Int) (ns : Nat) (tx : Nat → Int) (tn : Nat) (pl : Int) (od : Nat) (o : Nat → Int) (x : Int) (hT : TOK kn kv sc ns tx tn) (hx : 0 ≤ x ∧ x ≤ 4) (hh : hnd (kEnd kn kt x) < 0) : CW l g yL_setEnd cL_setEnd 4 (some FieldType.int) [(0, 9, 12, 13), (0, 9, 15, 24)] ({ frames := 8, cells := 1, slots := 6, locals := 142 }) [.ref (r 0), .int (iI x), .ref od] ((od, aL g 1 o) :: wTp g r qn qt qv kn kt kv sc ns tx tn pl) (fun r9 w9 => r9 = some (.int (iI 2)) ∧ ∃ (kt9 : Nat → Nat → Int) (pl9 : Int), w9 = ((od, aL g 1 (o)) :: wTp g r qn qt qv kn kt9 kv sc ns tx tn pl9)) := by
  refine CW.intro (L0 := [(0, .ref (r 0)), (1, .int (iI x)), (2, .ref od)]) (own := RL) (by decide) rfl (Nat.le_of_ble_eq_true rfl) rfl ?_
  intro pX eX sX mX argsX belowX methX cX A C hr hlk hnt
  refine J.vx ?_
  refine j_aload_n C 2 dL_setEnd_0 rfl rfl ?_
  refine j_iconst C dL_setEnd_1 ?_
  refine j_aload_n C 0 dL_setEnd_2 rfl rfl ?_
  refine j_iload_n C 1 dL_setEnd_3 rfl rfl ?_
  refine j_callVC (As := [.int (iI x)]) (rest := [.int (iI 0), .ref od]) C yv_X4_setEnd qw504 (x_X4_setEnd_2 l hl g r qn qt qv kn kt kv sc ns tx tn pl x hT hx hh) (by decide) 1 rfl rfl rfl dL_setEnd_4 rfl (Nat.le_of_ble_eq_true rfl) (by decide) (pfL [(od, aL g 1 o)]) rfl (name := "java/lang/IllegalStateException") [⟨0, 9, 12, 13⟩] [] ⟨0, 9, 15, 24⟩ hnt (fun z hz => by rcases List.mem_singleton.mp hz with rfl; exact Or.inr ⟨by decide, "java/lang/IndexOutOfBoundsException", C.2.2.2.2.1 _ qw431, C.2.2.2.2.2.1.2.2.1 ("java/lang/IllegalStateException", "java/lang/IndexOutOfBoundsException") (List.mem_of_getElem? (i := 1) rfl)⟩) (by decide) (by decide) qw453 qn465 (fun w9 q9 hq9 => ?_)
  subst hq9
  refine J.to (L1 := [(0, .ref (r 0)), (1, .int (iI x)), (2, .ref od)]) (S1 := [.ref q9]) (ws1 := ((od, aL g 1 (o)) :: wTp g r qn qt qv kn (kEnd kn kt x) kv sc ns tx tn pl)) rfl rfl rfl ?_
  refine j_astore_n (L1 := [(3, .ref q9), (0, .ref (r 0)), (1, .int (iI x)), (2, .ref od)]) C dL_setEnd_15 rfl (by decide) rfl ?_
  refine j_iconst C dL_setEnd_16 ?_
  exact j_iret C hr hlk dL_setEnd_17 ⟨rfl, (kEnd kn kt x), pl, rfl⟩ (by decide) (by decide)
theorem yw_L_haul : YW yL_haul RL cL_haul 5 (some FieldType.int) [(0, 10, 13, 15)] 4 := ⟨qw510, qw0, qw511, rfl, ⟨by decide +kernel, by decide +kernel⟩, by decide +kernel⟩
theorem w_haul_0 (l : Launch) (g : Gh) (r : Nat → Nat) (qn qt : Nat → Nat) (qv : Nat → Nat → Nat) (kn kt : Nat → Nat → Int) (kv : Nat → Nat → Nat → Int) (sc : Int) (ns : Nat) (tx : Nat → Int) (tn : Nat) (pl : Int) (od : Nat) (o : Nat → Int) (f n : Int) (hT : TOK kn kv sc ns tx tn) (hf : 0 ≤ f ∧ f ≤ 1000000) (hn : 0 ≤ n ∧ n ≤ 100000) : CW l g yL_haul cL_haul 5 (some FieldType.int) [(0, 10, 13, 15)] ({ frames := 7, cells := 0, slots := 0, locals := 171 }) [.ref (r 0), .int (iI f), .int (iI n), .ref od] ((od, aL g 1 o) :: wTp g r qn qt qv kn kt kv sc ns tx tn pl) (fun r9 w9 => r9 = some (.int (iI 0)) ∧ ∃ (kt9 : Nat → Nat → Int) (pl9 : Int), w9 = ((od, aL g 1 (va_up o 0 (w32 (((mup f n kn).2))))) :: wTp g r qn qt qv ((mup f n kn).1) kt9 (svk kn kv ns) (svs sc) (svn ns) tx tn pl9)) := by
  refine CW.intro (L0 := [(0, .ref (r 0)), (1, .int (iI f)), (2, .int (iI n)), (3, .ref od)]) (own := RL) (by decide) rfl (Nat.le_of_ble_eq_true rfl) rfl ?_
  intro pX eX sX mX argsX belowX methX cX A C hr hlk hnt
  refine J.vx ?_
  refine j_aload_n C 3 dL_haul_0 rfl rfl ?_
  refine j_iconst C dL_haul_1 ?_
  refine j_aload_n C 0 dL_haul_2 rfl rfl ?_
  refine j_iload_n C 1 dL_haul_3 rfl rfl ?_
  refine j_iload_n C 2 dL_haul_4 rfl rfl ?_
  refine j_callV (As := [.int (iI f), .int (iI n)]) (rest := [.int (iI 0), .ref od]) C yv_X4_haul qw512 (c_X4_haul l g r qn qt qv kn kt kv sc ns tx tn pl f n hT hf hn) (by decide) 1 rfl rfl rfl dL_haul_5 rfl (Nat.le_of_ble_eq_true rfl) (by decide) (pfL [(od, aL g 1 o)]) rfl (fun r9 w9 hq9 => ?_)
  obtain ⟨rfl, rfl⟩ := hq9
  refine J.to (L1 := [(0, .ref (r 0)), (1, .int (iI f)), (2, .int (iI n)), (3, .ref od)]) (S1 := [.int (iI (((mup f n kn).2))), .int (iI 0), .ref od]) (ws1 := ((od, aL g 1 (o)) :: wTp g r qn qt qv ((mup f n kn).1) kt (svk kn kv ns) (svs sc) (svn ns) tx tn pl)) rfl rfl rfl ?_
  refine j_i2lw C dL_haul_8 ?_
  refine j_last (ws1 := ((od, aL g 1 (va_up o 0 (w32 (((mup f n kn).2))))) :: wTp g r qn qt qv ((mup f n kn).1) kt (svk kn kv ns) (svs sc) (svn ns) tx tn pl)) C 0 0 rfl rfl (by decide) (by decide) dL_haul_9 rfl ?_
  refine j_goto (tgt := 17) C dL_haul_10 (by decide) ?_
  refine j_iconst C dL_haul_17 ?_
  exact j_iret C hr hlk dL_haul_18 ⟨rfl, kt, pl, rfl⟩ (by decide) (by decide)
theorem w_haul_1 (l : Launch) (hl : l.stackTraces = false) (g : Gh) (r : Nat → Nat) (qn qt : Nat → Nat) (qv : Nat → Nat → Nat) (kn kt : Nat → Nat → Int) (kv : Nat → Nat → Nat → Int) (sc : Int) (ns : Nat) (tx : Nat → Int) (tn : Nat) (pl : Int) (od : Nat) (o : Nat → Int) (f n : Int) (hT : TOK kn kv sc ns tx tn) (hrf : -2147483648 ≤ f ∧ f < 2147483648) (hrn : -2147483648 ≤ n ∧ n < 2147483648) (hf : f < 0 ∨ 1000000 < f) : CW l g yL_haul cL_haul 5 (some FieldType.int) [(0, 10, 13, 15)] ({ frames := 8, cells := 1, slots := 6, locals := 144 }) [.ref (r 0), .int (iI f), .int (iI n), .ref od] ((od, aL g 1 o) :: wTp g r qn qt qv kn kt kv sc ns tx tn pl) (fun r9 w9 => r9 = some (.int (iI 1)) ∧ ∃ (kt9 : Nat → Nat → Int) (pl9 : Int), w9 = ((od, aL g 1 (o)) :: wTp g r qn qt qv kn kt9 kv sc ns tx tn pl9)) := by
  refine CW.intro (L0 := [(0, .ref (r 0)), (1, .int (iI f)), (2, .int (iI n)), (3, .ref od)]) (own := RL) (by decide) rfl (Nat.le_of_ble_eq_true rfl) rfl ?_
  intro pX eX sX mX argsX belowX methX cX A C hr hlk hnt
  refine J.vx ?_
  refine j_aload_n C 3 dL_haul_0 rfl rfl ?_
  refine j_iconst C dL_haul_1 ?_
  refine j_aload_n C 0 dL_haul_2 rfl rfl ?_
  refine j_iload_n C 1 dL_haul_3 rfl rfl ?_
  refine j_iload_n C 2 dL_haul_4 rfl rfl ?_
  refine j_callVC (As := [.int (iI f), .int (iI n)]) (rest := [.int (iI 0), .ref od]) C yv_X4_haul qw512 (x_X4_haul_1 l hl g r qn qt qv kn kt kv sc ns tx tn pl f n hT hrf hrn hf) (by decide) 1 rfl rfl rfl dL_haul_5 rfl (Nat.le_of_ble_eq_true rfl) (by decide) (pfL [(od, aL g 1 o)]) rfl (name := "java/lang/IllegalArgumentException") [] [] ⟨0, 10, 13, 15⟩ hnt (fun z hz => absurd hz List.not_mem_nil) (by decide) (by decide) qw432 qn325 (fun w9 q9 hq9 => ?_)
  subst hq9
  refine J.to (L1 := [(0, .ref (r 0)), (1, .int (iI f)), (2, .int (iI n)), (3, .ref od)]) (S1 := [.ref q9]) (ws1 := ((od, aL g 1 (o)) :: wTp g r qn qt qv kn kt kv sc ns tx tn pl)) rfl rfl rfl ?_
  refine j_astore (L1 := [(4, .ref q9), (0, .ref (r 0)), (1, .int (iI f)), (2, .int (iI n)), (3, .ref od)]) C dL_haul_13 (by decide) rfl ?_
  refine j_iconst C dL_haul_15 ?_
  exact j_iret C hr hlk dL_haul_16 ⟨rfl, kt, pl, rfl⟩ (by decide) (by decide)
theorem w_haul_1b (l : Launch) (hl : l.stackTraces = false) (g : Gh) (r : Nat → Nat) (qn qt : Nat → Nat) (qv : Nat → Nat → Nat) (kn kt : Nat → Nat → Int) (kv : Nat → Nat → Nat → Int) (sc : Int) (ns : Nat) (tx : Nat → Int) (tn : Nat) (pl : Int) (od : Nat) (o : Nat → Int) (f n : Int) (hT : TOK kn kv sc ns tx tn) (hrf : -2147483648 ≤ f ∧ f < 2147483648) (hrn : -2147483648 ≤ n ∧ n < 2147483648) (hf : 0 ≤ f ∧ f ≤ 1000000) (hn : n < 0 ∨ 100000 < n) : CW l g yL_haul cL_haul 5 (some FieldType.int) [(0, 10, 13, 15)] ({ frames := 8, cells := 1, slots := 6, locals := 144 }) [.ref (r 0), .int (iI f), .int (iI n), .ref od] ((od, aL g 1 o) :: wTp g r qn qt qv kn kt kv sc ns tx tn pl) (fun r9 w9 => r9 = some (.int (iI 1)) ∧ ∃ (kt9 : Nat → Nat → Int) (pl9 : Int), w9 = ((od, aL g 1 (o)) :: wTp g r qn qt qv kn kt9 kv sc ns tx tn pl9)) := by
  refine CW.intro (L0 := [(0, .ref (r 0)), (1, .int (iI f)), (2, .int (iI n)), (3, .ref od)]) (own := RL) (by decide) rfl (Nat.le_of_ble_eq_true rfl) rfl ?_
  intro pX eX sX mX argsX belowX methX cX A C hr hlk hnt
  refine J.vx ?_
  refine j_aload_n C 3 dL_haul_0 rfl rfl ?_
  refine j_iconst C dL_haul_1 ?_
  refine j_aload_n C 0 dL_haul_2 rfl rfl ?_
  refine j_iload_n C 1 dL_haul_3 rfl rfl ?_
  refine j_iload_n C 2 dL_haul_4 rfl rfl ?_
  refine j_callVC (As := [.int (iI f), .int (iI n)]) (rest := [.int (iI 0), .ref od]) C yv_X4_haul qw512 (x_X4_haul_2 l hl g r qn qt qv kn kt kv sc ns tx tn pl f n hT hrf hrn hf hn) (by decide) 1 rfl rfl rfl dL_haul_5 rfl (Nat.le_of_ble_eq_true rfl) (by decide) (pfL [(od, aL g 1 o)]) rfl (name := "java/lang/IllegalArgumentException") [] [] ⟨0, 10, 13, 15⟩ hnt (fun z hz => absurd hz List.not_mem_nil) (by decide) (by decide) qw432 qn325 (fun w9 q9 hq9 => ?_)
  subst hq9
  refine J.to (L1 := [(0, .ref (r 0)), (1, .int (iI f)), (2, .int (iI n)), (3, .ref od)]) (S1 := [.ref q9]) (ws1 := ((od, aL g 1 (o)) :: wTp g r qn qt qv kn kt kv sc ns tx tn pl)) rfl rfl rfl ?_
  refine j_astore (L1 := [(4, .ref q9), (0, .ref (r 0)), (1, .int (iI f)), (2, .int (iI n)), (3, .ref od)]) C dL_haul_13 (by decide) rfl ?_
  refine j_iconst C dL_haul_15 ?_
  exact j_iret C hr hlk dL_haul_16 ⟨rfl, kt, pl, rfl⟩ (by decide) (by decide)
theorem yw_L_letOut : YW yL_letOut RL cL_letOut 5 (some FieldType.int) [(0, 10, 13, 15)] 4 := ⟨qw544, qw0, qw545, rfl, ⟨by decide +kernel, by decide +kernel⟩, by decide +kernel⟩
theorem w_letOut_0 (l : Launch) (g : Gh) (r : Nat → Nat) (qn qt : Nat → Nat) (qv : Nat → Nat → Nat) (kn kt : Nat → Nat → Int) (kv : Nat → Nat → Nat → Int) (sc : Int) (ns : Nat) (tx : Nat → Int) (tn : Nat) (pl : Int) (od : Nat) (o : Nat → Int) (f n : Int) (hT : TOK kn kv sc ns tx tn) (hf : 0 ≤ f ∧ f ≤ 1000000) (hn : 0 ≤ n ∧ n ≤ 100000) : CW l g yL_letOut cL_letOut 5 (some FieldType.int) [(0, 10, 13, 15)] ({ frames := 7, cells := 0, slots := 0, locals := 170 }) [.ref (r 0), .int (iI f), .int (iI n), .ref od] ((od, aL g 1 o) :: wTp g r qn qt qv kn kt kv sc ns tx tn pl) (fun r9 w9 => r9 = some (.int (iI 0)) ∧ ∃ (kt9 : Nat → Nat → Int) (pl9 : Int), w9 = ((od, aL g 1 (va_up o 0 (w32 (((mdn f n kn).2))))) :: wTp g r qn qt qv ((mdn f n kn).1) kt9 (svk kn kv ns) (svs sc) (svn ns) tx tn pl9)) := by
  refine CW.intro (L0 := [(0, .ref (r 0)), (1, .int (iI f)), (2, .int (iI n)), (3, .ref od)]) (own := RL) (by decide) rfl (Nat.le_of_ble_eq_true rfl) rfl ?_
  intro pX eX sX mX argsX belowX methX cX A C hr hlk hnt
  refine J.vx ?_
  refine j_aload_n C 3 dL_letOut_0 rfl rfl ?_
  refine j_iconst C dL_letOut_1 ?_
  refine j_aload_n C 0 dL_letOut_2 rfl rfl ?_
  refine j_iload_n C 1 dL_letOut_3 rfl rfl ?_
  refine j_iload_n C 2 dL_letOut_4 rfl rfl ?_
  refine j_callV (As := [.int (iI f), .int (iI n)]) (rest := [.int (iI 0), .ref od]) C yv_X4_letOut qw546 (c_X4_letOut l g r qn qt qv kn kt kv sc ns tx tn pl f n hT hf hn) (by decide) 1 rfl rfl rfl dL_letOut_5 rfl (Nat.le_of_ble_eq_true rfl) (by decide) (pfL [(od, aL g 1 o)]) rfl (fun r9 w9 hq9 => ?_)
  obtain ⟨rfl, rfl⟩ := hq9
  refine J.to (L1 := [(0, .ref (r 0)), (1, .int (iI f)), (2, .int (iI n)), (3, .ref od)]) (S1 := [.int (iI (((mdn f n kn).2))), .int (iI 0), .ref od]) (ws1 := ((od, aL g 1 (o)) :: wTp g r qn qt qv ((mdn f n kn).1) kt (svk kn kv ns) (svs sc) (svn ns) tx tn pl)) rfl rfl rfl ?_
  refine j_i2lw C dL_letOut_8 ?_
  refine j_last (ws1 := ((od, aL g 1 (va_up o 0 (w32 (((mdn f n kn).2))))) :: wTp g r qn qt qv ((mdn f n kn).1) kt (svk kn kv ns) (svs sc) (svn ns) tx tn pl)) C 0 0 rfl rfl (by decide) (by decide) dL_letOut_9 rfl ?_
  refine j_goto (tgt := 17) C dL_letOut_10 (by decide) ?_
  refine j_iconst C dL_letOut_17 ?_
  exact j_iret C hr hlk dL_letOut_18 ⟨rfl, kt, pl, rfl⟩ (by decide) (by decide)
theorem w_letOut_1 (l : Launch) (hl : l.stackTraces = false) (g : Gh) (r : Nat → Nat) (qn qt : Nat → Nat) (qv : Nat → Nat → Nat) (kn kt : Nat → Nat → Int) (kv : Nat → Nat → Nat → Int) (sc : Int) (ns : Nat) (tx : Nat → Int) (tn : Nat) (pl : Int) (od : Nat) (o : Nat → Int) (f n : Int) (hT : TOK kn kv sc ns tx tn) (hrf : -2147483648 ≤ f ∧ f < 2147483648) (hrn : -2147483648 ≤ n ∧ n < 2147483648) (hf : f < 0 ∨ 1000000 < f) : CW l g yL_letOut cL_letOut 5 (some FieldType.int) [(0, 10, 13, 15)] ({ frames := 8, cells := 1, slots := 6, locals := 144 }) [.ref (r 0), .int (iI f), .int (iI n), .ref od] ((od, aL g 1 o) :: wTp g r qn qt qv kn kt kv sc ns tx tn pl) (fun r9 w9 => r9 = some (.int (iI 1)) ∧ ∃ (kt9 : Nat → Nat → Int) (pl9 : Int), w9 = ((od, aL g 1 (o)) :: wTp g r qn qt qv kn kt9 kv sc ns tx tn pl9)) := by
  refine CW.intro (L0 := [(0, .ref (r 0)), (1, .int (iI f)), (2, .int (iI n)), (3, .ref od)]) (own := RL) (by decide) rfl (Nat.le_of_ble_eq_true rfl) rfl ?_
  intro pX eX sX mX argsX belowX methX cX A C hr hlk hnt
  refine J.vx ?_
  refine j_aload_n C 3 dL_letOut_0 rfl rfl ?_
  refine j_iconst C dL_letOut_1 ?_
  refine j_aload_n C 0 dL_letOut_2 rfl rfl ?_
  refine j_iload_n C 1 dL_letOut_3 rfl rfl ?_
  refine j_iload_n C 2 dL_letOut_4 rfl rfl ?_
  refine j_callVC (As := [.int (iI f), .int (iI n)]) (rest := [.int (iI 0), .ref od]) C yv_X4_letOut qw546 (x_X4_letOut_1 l hl g r qn qt qv kn kt kv sc ns tx tn pl f n hT hrf hrn hf) (by decide) 1 rfl rfl rfl dL_letOut_5 rfl (Nat.le_of_ble_eq_true rfl) (by decide) (pfL [(od, aL g 1 o)]) rfl (name := "java/lang/IllegalArgumentException") [] [] ⟨0, 10, 13, 15⟩ hnt (fun z hz => absurd hz List.not_mem_nil) (by decide) (by decide) qw432 qn325 (fun w9 q9 hq9 => ?_)
  subst hq9
  refine J.to (L1 := [(0, .ref (r 0)), (1, .int (iI f)), (2, .int (iI n)), (3, .ref od)]) (S1 := [.ref q9]) (ws1 := ((od, aL g 1 (o)) :: wTp g r qn qt qv kn kt kv sc ns tx tn pl)) rfl rfl rfl ?_
  refine j_astore (L1 := [(4, .ref q9), (0, .ref (r 0)), (1, .int (iI f)), (2, .int (iI n)), (3, .ref od)]) C dL_letOut_13 (by decide) rfl ?_
  refine j_iconst C dL_letOut_15 ?_
  exact j_iret C hr hlk dL_letOut_16 ⟨rfl, kt, pl, rfl⟩ (by decide) (by decide)
theorem w_letOut_1b (l : Launch) (hl : l.stackTraces = false) (g : Gh) (r : Nat → Nat) (qn qt : Nat → Nat) (qv : Nat → Nat → Nat) (kn kt : Nat → Nat → Int) (kv : Nat → Nat → Nat → Int) (sc : Int) (ns : Nat) (tx : Nat → Int) (tn : Nat) (pl : Int) (od : Nat) (o : Nat → Int) (f n : Int) (hT : TOK kn kv sc ns tx tn) (hrf : -2147483648 ≤ f ∧ f < 2147483648) (hrn : -2147483648 ≤ n ∧ n < 2147483648) (hf : 0 ≤ f ∧ f ≤ 1000000) (hn : n < 0 ∨ 100000 < n) : CW l g yL_letOut cL_letOut 5 (some FieldType.int) [(0, 10, 13, 15)] ({ frames := 8, cells := 1, slots := 6, locals := 144 }) [.ref (r 0), .int (iI f), .int (iI n), .ref od] ((od, aL g 1 o) :: wTp g r qn qt qv kn kt kv sc ns tx tn pl) (fun r9 w9 => r9 = some (.int (iI 1)) ∧ ∃ (kt9 : Nat → Nat → Int) (pl9 : Int), w9 = ((od, aL g 1 (o)) :: wTp g r qn qt qv kn kt9 kv sc ns tx tn pl9)) := by
  refine CW.intro (L0 := [(0, .ref (r 0)), (1, .int (iI f)), (2, .int (iI n)), (3, .ref od)]) (own := RL) (by decide) rfl (Nat.le_of_ble_eq_true rfl) rfl ?_
  intro pX eX sX mX argsX belowX methX cX A C hr hlk hnt
  refine J.vx ?_
  refine j_aload_n C 3 dL_letOut_0 rfl rfl ?_
  refine j_iconst C dL_letOut_1 ?_
  refine j_aload_n C 0 dL_letOut_2 rfl rfl ?_
  refine j_iload_n C 1 dL_letOut_3 rfl rfl ?_
  refine j_iload_n C 2 dL_letOut_4 rfl rfl ?_
  refine j_callVC (As := [.int (iI f), .int (iI n)]) (rest := [.int (iI 0), .ref od]) C yv_X4_letOut qw546 (x_X4_letOut_2 l hl g r qn qt qv kn kt kv sc ns tx tn pl f n hT hrf hrn hf hn) (by decide) 1 rfl rfl rfl dL_letOut_5 rfl (Nat.le_of_ble_eq_true rfl) (by decide) (pfL [(od, aL g 1 o)]) rfl (name := "java/lang/IllegalArgumentException") [] [] ⟨0, 10, 13, 15⟩ hnt (fun z hz => absurd hz List.not_mem_nil) (by decide) (by decide) qw432 qn325 (fun w9 q9 hq9 => ?_)
  subst hq9
  refine J.to (L1 := [(0, .ref (r 0)), (1, .int (iI f)), (2, .int (iI n)), (3, .ref od)]) (S1 := [.ref q9]) (ws1 := ((od, aL g 1 (o)) :: wTp g r qn qt qv kn kt kv sc ns tx tn pl)) rfl rfl rfl ?_
  refine j_astore (L1 := [(4, .ref q9), (0, .ref (r 0)), (1, .int (iI f)), (2, .int (iI n)), (3, .ref od)]) C dL_letOut_13 (by decide) rfl ?_
  refine j_iconst C dL_letOut_15 ?_
  exact j_iret C hr hlk dL_letOut_16 ⟨rfl, kt, pl, rfl⟩ (by decide) (by decide)
theorem yw_L_block : YW yL_block RL cL_block 5 (some FieldType.int) [(0, 10, 13, 13), (0, 10, 17, 15)] 4 := ⟨qw556, qw0, qw557, rfl, ⟨by decide +kernel, by decide +kernel⟩, by decide +kernel⟩
theorem w_block_0 (l : Launch) (g : Gh) (r : Nat → Nat) (qn qt : Nat → Nat) (qv : Nat → Nat → Nat) (kn kt : Nat → Nat → Int) (kv : Nat → Nat → Nat → Int) (sc : Int) (ns : Nat) (tx : Nat → Int) (tn : Nat) (pl : Int) (od : Nat) (o : Nat → Int) (b w : Int) (hT : TOK kn kv sc ns tx tn) (hb4 : 0 ≤ b ∧ b < 4) (hw : 0 ≤ w ∧ w ≤ 6) : CW l g yL_block cL_block 5 (some FieldType.int) [(0, 10, 13, 13), (0, 10, 17, 15)] ({ frames := 5, cells := 0, slots := 0, locals := 126 }) [.ref (r 0), .int (iI b), .int (iI w), .ref od] ((od, aL g 1 o) :: wTp g r qn qt qv kn kt kv sc ns tx tn pl) (fun r9 w9 => r9 = some (.int (iI 0)) ∧ ∃ (kt9 : Nat → Nat → Int) (pl9 : Int), w9 = ((od, aL g 1 (va_up o 0 (w32 ((blkF kn b w))))) :: wTp g r qn qt qv kn kt9 kv sc ns tx tn pl9)) := by
  refine CW.intro (L0 := [(0, .ref (r 0)), (1, .int (iI b)), (2, .int (iI w)), (3, .ref od)]) (own := RL) (by decide) rfl (Nat.le_of_ble_eq_true rfl) rfl ?_
  intro pX eX sX mX argsX belowX methX cX A C hr hlk hnt
  refine J.vx ?_
  refine j_aload_n C 3 dL_block_0 rfl rfl ?_
  refine j_iconst C dL_block_1 ?_
  refine j_aload_n C 0 dL_block_2 rfl rfl ?_
  refine j_iload_n C 1 dL_block_3 rfl rfl ?_
  refine j_iload_n C 2 dL_block_4 rfl rfl ?_
  refine j_callV (As := [.int (iI b), .int (iI w)]) (rest := [.int (iI 0), .ref od]) C yv_X4_block qw558 (c_X4_block l g r qn qt qv kn kt kv sc ns tx tn pl b w hT hb4 hw) (by decide) 1 rfl rfl rfl dL_block_5 rfl (Nat.le_of_ble_eq_true rfl) (by decide) (pfL [(od, aL g 1 o)]) rfl (fun r9 w9 hq9 => ?_)
  obtain ⟨rfl, rfl⟩ := hq9
  refine J.to (L1 := [(0, .ref (r 0)), (1, .int (iI b)), (2, .int (iI w)), (3, .ref od)]) (S1 := [.int (iI ((blkF kn b w))), .int (iI 0), .ref od]) (ws1 := ((od, aL g 1 (o)) :: wTp g r qn qt qv kn kt kv sc ns tx tn pl)) rfl rfl rfl ?_
  refine j_i2lw C dL_block_8 ?_
  refine j_last (ws1 := ((od, aL g 1 (va_up o 0 (w32 ((blkF kn b w))))) :: wTp g r qn qt qv kn kt kv sc ns tx tn pl)) C 0 0 rfl rfl (by decide) (by decide) dL_block_9 rfl ?_
  refine j_goto (tgt := 21) C dL_block_10 (by decide) ?_
  refine j_iconst C dL_block_21 ?_
  exact j_iret C hr hlk dL_block_22 ⟨rfl, kt, pl, rfl⟩ (by decide) (by decide)
theorem w_block_1 (l : Launch) (hl : l.stackTraces = false) (g : Gh) (r : Nat → Nat) (qn qt : Nat → Nat) (qv : Nat → Nat → Nat) (kn kt : Nat → Nat → Int) (kv : Nat → Nat → Nat → Int) (sc : Int) (ns : Nat) (tx : Nat → Int) (tn : Nat) (pl : Int) (od : Nat) (o : Nat → Int) (b w : Int) (hT : TOK kn kv sc ns tx tn) (hrb : -2147483648 ≤ b ∧ b < 2147483648) (hrw : -2147483648 ≤ w ∧ w < 2147483648) (hb4 : b < 0 ∨ 4 ≤ b) : CW l g yL_block cL_block 5 (some FieldType.int) [(0, 10, 13, 13), (0, 10, 17, 15)] ({ frames := 8, cells := 1, slots := 6, locals := 142 }) [.ref (r 0), .int (iI b), .int (iI w), .ref od] ((od, aL g 1 o) :: wTp g r qn qt qv kn kt kv sc ns tx tn pl) (fun r9 w9 => r9 = some (.int (iI 1)) ∧ ∃ (kt9 : Nat → Nat → Int) (pl9 : Int), w9 = ((od, aL g 1 (o)) :: wTp g r qn qt qv kn kt9 kv sc ns tx tn pl9)) := by
  refine CW.intro (L0 := [(0, .ref (r 0)), (1, .int (iI b)), (2, .int (iI w)), (3, .ref od)]) (own := RL) (by decide) rfl (Nat.le_of_ble_eq_true rfl) rfl ?_
  intro pX eX sX mX argsX belowX methX cX A C hr hlk hnt
  refine J.vx ?_
  refine j_aload_n C 3 dL_block_0 rfl rfl ?_
  refine j_iconst C dL_block_1 ?_
  refine j_aload_n C 0 dL_block_2 rfl rfl ?_
  refine j_iload_n C 1 dL_block_3 rfl rfl ?_
  refine j_iload_n C 2 dL_block_4 rfl rfl ?_
  refine j_callVC (As := [.int (iI b), .int (iI w)]) (rest := [.int (iI 0), .ref od]) C yv_X4_block qw558 (x_X4_block_1 l hl g r qn qt qv kn kt kv sc ns tx tn pl b w hT hrb hrw hb4) (by decide) 1 rfl rfl rfl dL_block_5 rfl (Nat.le_of_ble_eq_true rfl) (by decide) (pfL [(od, aL g 1 o)]) rfl (name := "java/lang/IndexOutOfBoundsException") [] [⟨0, 10, 17, 15⟩] ⟨0, 10, 13, 13⟩ hnt (fun z hz => absurd hz List.not_mem_nil) (by decide) (by decide) qw431 qn404 (fun w9 q9 hq9 => ?_)
  subst hq9
  refine J.to (L1 := [(0, .ref (r 0)), (1, .int (iI b)), (2, .int (iI w)), (3, .ref od)]) (S1 := [.ref q9]) (ws1 := ((od, aL g 1 (o)) :: wTp g r qn qt qv kn kt kv sc ns tx tn pl)) rfl rfl rfl ?_
  refine j_astore (L1 := [(4, .ref q9), (0, .ref (r 0)), (1, .int (iI b)), (2, .int (iI w)), (3, .ref od)]) C dL_block_13 (by decide) rfl ?_
  refine j_iconst C dL_block_15 ?_
  exact j_iret C hr hlk dL_block_16 ⟨rfl, kt, pl, rfl⟩ (by decide) (by decide)
theorem w_block_2 (l : Launch) (hl : l.stackTraces = false) (g : Gh) (r : Nat → Nat) (qn qt : Nat → Nat) (qv : Nat → Nat → Nat) (kn kt : Nat → Nat → Int) (kv : Nat → Nat → Nat → Int) (sc : Int) (ns : Nat) (tx : Nat → Int) (tn : Nat) (pl : Int) (od : Nat) (o : Nat → Int) (b w : Int) (hT : TOK kn kv sc ns tx tn) (hrb : -2147483648 ≤ b ∧ b < 2147483648) (hrw : -2147483648 ≤ w ∧ w < 2147483648) (hb4 : 0 ≤ b ∧ b < 4) (hw : w < 0 ∨ 6 < w) : CW l g yL_block cL_block 5 (some FieldType.int) [(0, 10, 13, 13), (0, 10, 17, 15)] ({ frames := 8, cells := 1, slots := 6, locals := 142 }) [.ref (r 0), .int (iI b), .int (iI w), .ref od] ((od, aL g 1 o) :: wTp g r qn qt qv kn kt kv sc ns tx tn pl) (fun r9 w9 => r9 = some (.int (iI 2)) ∧ ∃ (kt9 : Nat → Nat → Int) (pl9 : Int), w9 = ((od, aL g 1 (o)) :: wTp g r qn qt qv kn kt9 kv sc ns tx tn pl9)) := by
  refine CW.intro (L0 := [(0, .ref (r 0)), (1, .int (iI b)), (2, .int (iI w)), (3, .ref od)]) (own := RL) (by decide) rfl (Nat.le_of_ble_eq_true rfl) rfl ?_
  intro pX eX sX mX argsX belowX methX cX A C hr hlk hnt
  refine J.vx ?_
  refine j_aload_n C 3 dL_block_0 rfl rfl ?_
  refine j_iconst C dL_block_1 ?_
  refine j_aload_n C 0 dL_block_2 rfl rfl ?_
  refine j_iload_n C 1 dL_block_3 rfl rfl ?_
  refine j_iload_n C 2 dL_block_4 rfl rfl ?_
  refine j_callVC (As := [.int (iI b), .int (iI w)]) (rest := [.int (iI 0), .ref od]) C yv_X4_block qw558 (x_X4_block_2 l hl g r qn qt qv kn kt kv sc ns tx tn pl b w hT hrb hrw hb4 hw) (by decide) 1 rfl rfl rfl dL_block_5 rfl (Nat.le_of_ble_eq_true rfl) (by decide) (pfL [(od, aL g 1 o)]) rfl (name := "java/lang/IllegalArgumentException") [⟨0, 10, 13, 13⟩] [] ⟨0, 10, 17, 15⟩ hnt (fun z hz => by rcases List.mem_singleton.mp hz with rfl; exact Or.inr ⟨by decide, "java/lang/IndexOutOfBoundsException", C.2.2.2.2.1 _ qw431, C.2.2.2.2.2.1.2.2.1 ("java/lang/IllegalArgumentException", "java/lang/IndexOutOfBoundsException") (List.mem_of_getElem? (i := 0) rfl)⟩) (by decide) (by decide) qw432 qn325 (fun w9 q9 hq9 => ?_)
  subst hq9
  refine J.to (L1 := [(0, .ref (r 0)), (1, .int (iI b)), (2, .int (iI w)), (3, .ref od)]) (S1 := [.ref q9]) (ws1 := ((od, aL g 1 (o)) :: wTp g r qn qt qv kn kt kv sc ns tx tn pl)) rfl rfl rfl ?_
  refine j_astore (L1 := [(4, .ref q9), (0, .ref (r 0)), (1, .int (iI b)), (2, .int (iI w)), (3, .ref od)]) C dL_block_17 (by decide) rfl ?_
  refine j_iconst C dL_block_19 ?_
  exact j_iret C hr hlk dL_block_20 ⟨rfl, kt, pl, rfl⟩ (by decide) (by decide)
theorem yw_L_pulley : YW yL_pulley RL cL_pulley 4 (some FieldType.int) [(0, 9, 12, 13)] 3 := ⟨qw560, qw0, qw561, rfl, ⟨by decide +kernel, by decide +kernel⟩, by decide +kernel⟩
theorem w_pulley_0 (l : Launch) (g : Gh) (r : Nat → Nat) (qn qt : Nat → Nat) (qv : Nat → Nat → Nat) (kn kt : Nat → Nat → Int) (kv : Nat → Nat → Nat → Int) (sc : Int) (ns : Nat) (tx : Nat → Int) (tn : Nat) (pl : Int) (od : Nat) (o : Nat → Int) (x : Int) (hT : TOK kn kv sc ns tx tn) (hi : 0 ≤ x ∧ x < kn 0 2) : CW l g yL_pulley cL_pulley 4 (some FieldType.int) [(0, 9, 12, 13)] ({ frames := 2, cells := 0, slots := 0, locals := 42 }) [.ref (r 0), .int (iI x), .ref od] ((od, aL g 1 o) :: wTp g r qn qt qv kn kt kv sc ns tx tn pl) (fun r9 w9 => r9 = some (.int (iI 0)) ∧ ∃ (kt9 : Nat → Nat → Int) (pl9 : Int), w9 = ((od, aL g 1 (va_up o 0 (w32 ((kn 1 x.toNat))))) :: wTp g r qn qt qv kn kt9 kv sc ns tx tn pl9)) := by
  refine CW.intro (L0 := [(0, .ref (r 0)), (1, .int (iI x)), (2, .ref od)]) (own := RL) (by decide) rfl (Nat.le_of_ble_eq_true rfl) rfl ?_
  intro pX eX sX mX argsX belowX methX cX A C hr hlk hnt
  refine J.vx ?_
  refine j_aload_n C 2 dL_pulley_0 rfl rfl ?_
  refine j_iconst C dL_pulley_1 ?_
  refine j_aload_n C 0 dL_pulley_2 rfl rfl ?_
  refine j_iload_n C 1 dL_pulley_3 rfl rfl ?_
  refine j_callV (As := [.int (iI x)]) (rest := [.int (iI 0), .ref od]) C yv_X4_pulley qw562 (c_X4_pulley l g r qn qt qv kn kt kv sc ns tx tn pl x hT hi) (by decide) 1 rfl rfl rfl dL_pulley_4 rfl (Nat.le_of_ble_eq_true rfl) (by decide) (pfL [(od, aL g 1 o)]) rfl (fun r9 w9 hq9 => ?_)
  obtain ⟨rfl, rfl⟩ := hq9
  refine J.to (L1 := [(0, .ref (r 0)), (1, .int (iI x)), (2, .ref od)]) (S1 := [.int (iI ((kn 1 x.toNat))), .int (iI 0), .ref od]) (ws1 := ((od, aL g 1 (o)) :: wTp g r qn qt qv kn kt kv sc ns tx tn pl)) rfl rfl rfl ?_
  refine j_i2lw C dL_pulley_7 ?_
  refine j_last (ws1 := ((od, aL g 1 (va_up o 0 (w32 ((kn 1 x.toNat))))) :: wTp g r qn qt qv kn kt kv sc ns tx tn pl)) C 0 0 rfl rfl (by decide) (by decide) dL_pulley_8 rfl ?_
  refine j_goto (tgt := 15) C dL_pulley_9 (by decide) ?_
  refine j_iconst C dL_pulley_15 ?_
  exact j_iret C hr hlk dL_pulley_16 ⟨rfl, kt, pl, rfl⟩ (by decide) (by decide)
theorem w_pulley_1 (l : Launch) (hl : l.stackTraces = false) (g : Gh) (r : Nat → Nat) (qn qt : Nat → Nat) (qv : Nat → Nat → Nat) (kn kt : Nat → Nat → Int) (kv : Nat → Nat → Nat → Int) (sc : Int) (ns : Nat) (tx : Nat → Int) (tn : Nat) (pl : Int) (od : Nat) (o : Nat → Int) (x : Int) (hT : TOK kn kv sc ns tx tn) (hrx : -2147483648 ≤ x ∧ x < 2147483648) (hi : x < 0 ∨ kn 0 2 ≤ x) : CW l g yL_pulley cL_pulley 4 (some FieldType.int) [(0, 9, 12, 13)] ({ frames := 8, cells := 1, slots := 6, locals := 142 }) [.ref (r 0), .int (iI x), .ref od] ((od, aL g 1 o) :: wTp g r qn qt qv kn kt kv sc ns tx tn pl) (fun r9 w9 => r9 = some (.int (iI 1)) ∧ ∃ (kt9 : Nat → Nat → Int) (pl9 : Int), w9 = ((od, aL g 1 (o)) :: wTp g r qn qt qv kn kt9 kv sc ns tx tn pl9)) := by
  refine CW.intro (L0 := [(0, .ref (r 0)), (1, .int (iI x)), (2, .ref od)]) (own := RL) (by decide) rfl (Nat.le_of_ble_eq_true rfl) rfl ?_
  intro pX eX sX mX argsX belowX methX cX A C hr hlk hnt
  refine J.vx ?_
  refine j_aload_n C 2 dL_pulley_0 rfl rfl ?_
  refine j_iconst C dL_pulley_1 ?_
  refine j_aload_n C 0 dL_pulley_2 rfl rfl ?_
  refine j_iload_n C 1 dL_pulley_3 rfl rfl ?_
  refine j_callVC (As := [.int (iI x)]) (rest := [.int (iI 0), .ref od]) C yv_X4_pulley qw562 (x_X4_pulley_1 l hl g r qn qt qv kn kt kv sc ns tx tn pl x hT hrx hi) (by decide) 1 rfl rfl rfl dL_pulley_4 rfl (Nat.le_of_ble_eq_true rfl) (by decide) (pfL [(od, aL g 1 o)]) rfl (name := "java/lang/IndexOutOfBoundsException") [] [] ⟨0, 9, 12, 13⟩ hnt (fun z hz => absurd hz List.not_mem_nil) (by decide) (by decide) qw431 qn404 (fun w9 q9 hq9 => ?_)
  subst hq9
  refine J.to (L1 := [(0, .ref (r 0)), (1, .int (iI x)), (2, .ref od)]) (S1 := [.ref q9]) (ws1 := ((od, aL g 1 (o)) :: wTp g r qn qt qv kn kt kv sc ns tx tn pl)) rfl rfl rfl ?_
  refine j_astore_n (L1 := [(3, .ref q9), (0, .ref (r 0)), (1, .int (iI x)), (2, .ref od)]) C dL_pulley_12 rfl (by decide) rfl ?_
  refine j_iconst C dL_pulley_13 ?_
  exact j_iret C hr hlk dL_pulley_14 ⟨rfl, kt, pl, rfl⟩ (by decide) (by decide)
theorem yw_L_force : YW yL_force RL cL_force 6 (some FieldType.int) [(0, 11, 14, 15)] 5 := ⟨qw572, qw0, qw573, rfl, ⟨by decide +kernel, by decide +kernel⟩, by decide +kernel⟩
theorem w_force_0 (l : Launch) (g : Gh) (r : Nat → Nat) (qn qt : Nat → Nat) (qv : Nat → Nat → Nat) (kn kt : Nat → Nat → Int) (kv : Nat → Nat → Nat → Int) (sc : Int) (ns : Nat) (tx : Nat → Int) (tn : Nat) (pl : Int) (od : Nat) (o : Nat → Int) (f q : Int) (h : Bool) (hT : TOK kn kv sc ns tx tn) (hf : 0 ≤ f ∧ f ≤ 1000000) (hp : 0 ≤ q ∧ q ≤ passF kn) : CW l g yL_force cL_force 6 (some FieldType.int) [(0, 11, 14, 15)] ({ frames := 3, cells := 0, slots := 0, locals := 74 }) [.ref (r 0), .int (iI f), .int (iI q), .int (iI (b2i h)), .ref od] ((od, aL g 1 o) :: wTp g r qn qt qv kn kt kv sc ns tx tn pl) (fun r9 w9 => r9 = some (.int (iI 0)) ∧ ∃ (kt9 : Nat → Nat → Int) (pl9 : Int), w9 = ((od, aL g 1 (va_up o 0 ((fbn (kn 0 1) h f q.toNat)))) :: wTp g r qn qt qv kn kt9 kv sc ns tx tn pl9)) := by
  refine CW.intro (L0 := [(0, .ref (r 0)), (1, .int (iI f)), (2, .int (iI q)), (3, .int (iI (b2i h))), (4, .ref od)]) (own := RL) (by decide) rfl (Nat.le_of_ble_eq_true rfl) rfl ?_
  intro pX eX sX mX argsX belowX methX cX A C hr hlk hnt
  refine J.vx ?_
  refine j_aload C 4 dL_force_0 rfl ?_
  refine j_iconst C dL_force_2 ?_
  refine j_aload_n C 0 dL_force_3 rfl rfl ?_
  refine j_iload_n C 1 dL_force_4 rfl rfl ?_
  refine j_iload_n C 2 dL_force_5 rfl rfl ?_
  refine j_iload_n C 3 dL_force_6 rfl rfl ?_
  refine j_callV (As := [.int (iI f), .int (iI q), .int (iI (b2i h))]) (rest := [.int (iI 0), .ref od]) C yv_X4_force qw574 (c_X4_force l g r qn qt qv kn kt kv sc ns tx tn pl f q h hT hf hp) (by decide) 1 rfl rfl rfl dL_force_7 rfl (Nat.le_of_ble_eq_true rfl) (by decide) (pfL [(od, aL g 1 o)]) rfl (fun r9 w9 hq9 => ?_)
  obtain ⟨rfl, rfl⟩ := hq9
  refine J.to (L1 := [(0, .ref (r 0)), (1, .int (iI f)), (2, .int (iI q)), (3, .int (iI (b2i h))), (4, .ref od)]) (S1 := [.long (lI ((fbn (kn 0 1) h f q.toNat))), .int (iI 0), .ref od]) (ws1 := ((od, aL g 1 (o)) :: wTp g r qn qt qv kn kt kv sc ns tx tn pl)) rfl rfl rfl ?_
  refine j_last (ws1 := ((od, aL g 1 (va_up o 0 ((fbn (kn 0 1) h f q.toNat)))) :: wTp g r qn qt qv kn kt kv sc ns tx tn pl)) C 0 0 rfl rfl (by decide) (by decide) dL_force_10 rfl ?_
  refine j_goto (tgt := 18) C dL_force_11 (by decide) ?_
  refine j_iconst C dL_force_18 ?_
  exact j_iret C hr hlk dL_force_19 ⟨rfl, kt, pl, rfl⟩ (by decide) (by decide)
theorem w_force_1 (l : Launch) (hl : l.stackTraces = false) (g : Gh) (r : Nat → Nat) (qn qt : Nat → Nat) (qv : Nat → Nat → Nat) (kn kt : Nat → Nat → Int) (kv : Nat → Nat → Nat → Int) (sc : Int) (ns : Nat) (tx : Nat → Int) (tn : Nat) (pl : Int) (od : Nat) (o : Nat → Int) (f q : Int) (h : Bool) (hT : TOK kn kv sc ns tx tn) (hrf : -2147483648 ≤ f ∧ f < 2147483648) (hrq : -2147483648 ≤ q ∧ q < 2147483648) (hf : f < 0 ∨ 1000000 < f) : CW l g yL_force cL_force 6 (some FieldType.int) [(0, 11, 14, 15)] ({ frames := 8, cells := 1, slots := 6, locals := 145 }) [.ref (r 0), .int (iI f), .int (iI q), .int (iI (b2i h)), .ref od] ((od, aL g 1 o) :: wTp g r qn qt qv kn kt kv sc ns tx tn pl) (fun r9 w9 => r9 = some (.int (iI 1)) ∧ ∃ (kt9 : Nat → Nat → Int) (pl9 : Int), w9 = ((od, aL g 1 (o)) :: wTp g r qn qt qv kn kt9 kv sc ns tx tn pl9)) := by
  refine CW.intro (L0 := [(0, .ref (r 0)), (1, .int (iI f)), (2, .int (iI q)), (3, .int (iI (b2i h))), (4, .ref od)]) (own := RL) (by decide) rfl (Nat.le_of_ble_eq_true rfl) rfl ?_
  intro pX eX sX mX argsX belowX methX cX A C hr hlk hnt
  refine J.vx ?_
  refine j_aload C 4 dL_force_0 rfl ?_
  refine j_iconst C dL_force_2 ?_
  refine j_aload_n C 0 dL_force_3 rfl rfl ?_
  refine j_iload_n C 1 dL_force_4 rfl rfl ?_
  refine j_iload_n C 2 dL_force_5 rfl rfl ?_
  refine j_iload_n C 3 dL_force_6 rfl rfl ?_
  refine j_callVC (As := [.int (iI f), .int (iI q), .int (iI (b2i h))]) (rest := [.int (iI 0), .ref od]) C yv_X4_force qw574 (x_X4_force_1 l hl g r qn qt qv kn kt kv sc ns tx tn pl f q h hT hrf hrq hf) (by decide) 1 rfl rfl rfl dL_force_7 rfl (Nat.le_of_ble_eq_true rfl) (by decide) (pfL [(od, aL g 1 o)]) rfl (name := "java/lang/IllegalArgumentException") [] [] ⟨0, 11, 14, 15⟩ hnt (fun z hz => absurd hz List.not_mem_nil) (by decide) (by decide) qw432 qn325 (fun w9 q9 hq9 => ?_)
  subst hq9
  refine J.to (L1 := [(0, .ref (r 0)), (1, .int (iI f)), (2, .int (iI q)), (3, .int (iI (b2i h))), (4, .ref od)]) (S1 := [.ref q9]) (ws1 := ((od, aL g 1 (o)) :: wTp g r qn qt qv kn kt kv sc ns tx tn pl)) rfl rfl rfl ?_
  refine j_astore (L1 := [(5, .ref q9), (0, .ref (r 0)), (1, .int (iI f)), (2, .int (iI q)), (3, .int (iI (b2i h))), (4, .ref od)]) C dL_force_14 (by decide) rfl ?_
  refine j_iconst C dL_force_16 ?_
  exact j_iret C hr hlk dL_force_17 ⟨rfl, kt, pl, rfl⟩ (by decide) (by decide)
theorem w_force_1b (l : Launch) (hl : l.stackTraces = false) (g : Gh) (r : Nat → Nat) (qn qt : Nat → Nat) (qv : Nat → Nat → Nat) (kn kt : Nat → Nat → Int) (kv : Nat → Nat → Nat → Int) (sc : Int) (ns : Nat) (tx : Nat → Int) (tn : Nat) (pl : Int) (od : Nat) (o : Nat → Int) (f q : Int) (h : Bool) (hT : TOK kn kv sc ns tx tn) (hrf : -2147483648 ≤ f ∧ f < 2147483648) (hrq : -2147483648 ≤ q ∧ q < 2147483648) (hf : 0 ≤ f ∧ f ≤ 1000000) (hp : q < 0 ∨ passF kn < q) : CW l g yL_force cL_force 6 (some FieldType.int) [(0, 11, 14, 15)] ({ frames := 8, cells := 1, slots := 6, locals := 145 }) [.ref (r 0), .int (iI f), .int (iI q), .int (iI (b2i h)), .ref od] ((od, aL g 1 o) :: wTp g r qn qt qv kn kt kv sc ns tx tn pl) (fun r9 w9 => r9 = some (.int (iI 1)) ∧ ∃ (kt9 : Nat → Nat → Int) (pl9 : Int), w9 = ((od, aL g 1 (o)) :: wTp g r qn qt qv kn kt9 kv sc ns tx tn pl9)) := by
  refine CW.intro (L0 := [(0, .ref (r 0)), (1, .int (iI f)), (2, .int (iI q)), (3, .int (iI (b2i h))), (4, .ref od)]) (own := RL) (by decide) rfl (Nat.le_of_ble_eq_true rfl) rfl ?_
  intro pX eX sX mX argsX belowX methX cX A C hr hlk hnt
  refine J.vx ?_
  refine j_aload C 4 dL_force_0 rfl ?_
  refine j_iconst C dL_force_2 ?_
  refine j_aload_n C 0 dL_force_3 rfl rfl ?_
  refine j_iload_n C 1 dL_force_4 rfl rfl ?_
  refine j_iload_n C 2 dL_force_5 rfl rfl ?_
  refine j_iload_n C 3 dL_force_6 rfl rfl ?_
  refine j_callVC (As := [.int (iI f), .int (iI q), .int (iI (b2i h))]) (rest := [.int (iI 0), .ref od]) C yv_X4_force qw574 (x_X4_force_2 l hl g r qn qt qv kn kt kv sc ns tx tn pl f q h hT hrf hrq hf hp) (by decide) 1 rfl rfl rfl dL_force_7 rfl (Nat.le_of_ble_eq_true rfl) (by decide) (pfL [(od, aL g 1 o)]) rfl (name := "java/lang/IllegalArgumentException") [] [] ⟨0, 11, 14, 15⟩ hnt (fun z hz => absurd hz List.not_mem_nil) (by decide) (by decide) qw432 qn325 (fun w9 q9 hq9 => ?_)
  subst hq9
  refine J.to (L1 := [(0, .ref (r 0)), (1, .int (iI f)), (2, .int (iI q)), (3, .int (iI (b2i h))), (4, .ref od)]) (S1 := [.ref q9]) (ws1 := ((od, aL g 1 (o)) :: wTp g r qn qt qv kn kt kv sc ns tx tn pl)) rfl rfl rfl ?_
  refine j_astore (L1 := [(5, .ref q9), (0, .ref (r 0)), (1, .int (iI f)), (2, .int (iI q)), (3, .int (iI (b2i h))), (4, .ref od)]) C dL_force_14 (by decide) rfl ?_
  refine j_iconst C dL_force_16 ?_
  exact j_iret C hr hlk dL_force_17 ⟨rfl, kt, pl, rfl⟩ (by decide) (by decide)
theorem yw_L_pull : YW yL_pull RL cL_pull 6 (some FieldType.int) [(0, 11, 14, 13), (0, 11, 18, 15)] 5 := ⟨qw583, qw0, qw584, rfl, ⟨by decide +kernel, by decide +kernel⟩, by decide +kernel⟩
theorem w_pull_0 (l : Launch) (g : Gh) (r : Nat → Nat) (qn qt : Nat → Nat) (qv : Nat → Nat → Nat) (kn kt : Nat → Nat → Int) (kv : Nat → Nat → Nat → Int) (sc : Int) (ns : Nat) (tx : Nat → Int) (tn : Nat) (pl : Int) (od : Nat) (o : Nat → Int) (b f : Int) (h : Bool) (hT : TOK kn kv sc ns tx tn) (hb4 : 0 ≤ b ∧ b < 4) (hf : 0 ≤ f ∧ f ≤ 1000000) : CW l g yL_pull cL_pull 6 (some FieldType.int) [(0, 11, 14, 13), (0, 11, 18, 15)] ({ frames := 3, cells := 0, slots := 0, locals := 78 }) [.ref (r 0), .int (iI b), .int (iI f), .int (iI (b2i h)), .ref od] ((od, aL g 1 o) :: wTp g r qn qt qv kn kt kv sc ns tx tn pl) (fun r9 w9 => r9 = some (.int (iI 0)) ∧ ∃ (kt9 : Nat → Nat → Int) (pl9 : Int), w9 = ((od, aL g 1 (va_up o 0 ((pul (kn 1) (kn 0 1) h (kn 0 2).toNat (kn 0 3) b f)))) :: wTp g r qn qt qv kn kt9 kv sc ns tx tn pl9)) := by
  refine CW.intro (L0 := [(0, .ref (r 0)), (1, .int (iI b)), (2, .int (iI f)), (3, .int (iI (b2i h))), (4, .ref od)]) (own := RL) (by decide) rfl (Nat.le_of_ble_eq_true rfl) rfl ?_
  intro pX eX sX mX argsX belowX methX cX A C hr hlk hnt
  refine J.vx ?_
  refine j_aload C 4 dL_pull_0 rfl ?_
  refine j_iconst C dL_pull_2 ?_
  refine j_aload_n C 0 dL_pull_3 rfl rfl ?_
  refine j_iload_n C 1 dL_pull_4 rfl rfl ?_
  refine j_iload_n C 2 dL_pull_5 rfl rfl ?_
  refine j_iload_n C 3 dL_pull_6 rfl rfl ?_
  refine j_callV (As := [.int (iI b), .int (iI f), .int (iI (b2i h))]) (rest := [.int (iI 0), .ref od]) C yv_X4_pull qw585 (c_X4_pull l g r qn qt qv kn kt kv sc ns tx tn pl b f h hT hb4 hf) (by decide) 1 rfl rfl rfl dL_pull_7 rfl (Nat.le_of_ble_eq_true rfl) (by decide) (pfL [(od, aL g 1 o)]) rfl (fun r9 w9 hq9 => ?_)
  obtain ⟨rfl, rfl⟩ := hq9
  refine J.to (L1 := [(0, .ref (r 0)), (1, .int (iI b)), (2, .int (iI f)), (3, .int (iI (b2i h))), (4, .ref od)]) (S1 := [.long (lI ((pul (kn 1) (kn 0 1) h (kn 0 2).toNat (kn 0 3) b f))), .int (iI 0), .ref od]) (ws1 := ((od, aL g 1 (o)) :: wTp g r qn qt qv kn kt kv sc ns tx tn pl)) rfl rfl rfl ?_
  refine j_last (ws1 := ((od, aL g 1 (va_up o 0 ((pul (kn 1) (kn 0 1) h (kn 0 2).toNat (kn 0 3) b f)))) :: wTp g r qn qt qv kn kt kv sc ns tx tn pl)) C 0 0 rfl rfl (by decide) (by decide) dL_pull_10 rfl ?_
  refine j_goto (tgt := 22) C dL_pull_11 (by decide) ?_
  refine j_iconst C dL_pull_22 ?_
  exact j_iret C hr hlk dL_pull_23 ⟨rfl, kt, pl, rfl⟩ (by decide) (by decide)
theorem w_pull_1 (l : Launch) (hl : l.stackTraces = false) (g : Gh) (r : Nat → Nat) (qn qt : Nat → Nat) (qv : Nat → Nat → Nat) (kn kt : Nat → Nat → Int) (kv : Nat → Nat → Nat → Int) (sc : Int) (ns : Nat) (tx : Nat → Int) (tn : Nat) (pl : Int) (od : Nat) (o : Nat → Int) (b f : Int) (h : Bool) (hT : TOK kn kv sc ns tx tn) (hrb : -2147483648 ≤ b ∧ b < 2147483648) (hrf : -2147483648 ≤ f ∧ f < 2147483648) (hb4 : b < 0 ∨ 4 ≤ b) : CW l g yL_pull cL_pull 6 (some FieldType.int) [(0, 11, 14, 13), (0, 11, 18, 15)] ({ frames := 8, cells := 1, slots := 6, locals := 145 }) [.ref (r 0), .int (iI b), .int (iI f), .int (iI (b2i h)), .ref od] ((od, aL g 1 o) :: wTp g r qn qt qv kn kt kv sc ns tx tn pl) (fun r9 w9 => r9 = some (.int (iI 1)) ∧ ∃ (kt9 : Nat → Nat → Int) (pl9 : Int), w9 = ((od, aL g 1 (o)) :: wTp g r qn qt qv kn kt9 kv sc ns tx tn pl9)) := by
  refine CW.intro (L0 := [(0, .ref (r 0)), (1, .int (iI b)), (2, .int (iI f)), (3, .int (iI (b2i h))), (4, .ref od)]) (own := RL) (by decide) rfl (Nat.le_of_ble_eq_true rfl) rfl ?_
  intro pX eX sX mX argsX belowX methX cX A C hr hlk hnt
  refine J.vx ?_
  refine j_aload C 4 dL_pull_0 rfl ?_
  refine j_iconst C dL_pull_2 ?_
  refine j_aload_n C 0 dL_pull_3 rfl rfl ?_
  refine j_iload_n C 1 dL_pull_4 rfl rfl ?_
  refine j_iload_n C 2 dL_pull_5 rfl rfl ?_
  refine j_iload_n C 3 dL_pull_6 rfl rfl ?_
  refine j_callVC (As := [.int (iI b), .int (iI f), .int (iI (b2i h))]) (rest := [.int (iI 0), .ref od]) C yv_X4_pull qw585 (x_X4_pull_1 l hl g r qn qt qv kn kt kv sc ns tx tn pl b f h hT hrb hrf hb4) (by decide) 1 rfl rfl rfl dL_pull_7 rfl (Nat.le_of_ble_eq_true rfl) (by decide) (pfL [(od, aL g 1 o)]) rfl (name := "java/lang/IndexOutOfBoundsException") [] [⟨0, 11, 18, 15⟩] ⟨0, 11, 14, 13⟩ hnt (fun z hz => absurd hz List.not_mem_nil) (by decide) (by decide) qw431 qn404 (fun w9 q9 hq9 => ?_)
  subst hq9
  refine J.to (L1 := [(0, .ref (r 0)), (1, .int (iI b)), (2, .int (iI f)), (3, .int (iI (b2i h))), (4, .ref od)]) (S1 := [.ref q9]) (ws1 := ((od, aL g 1 (o)) :: wTp g r qn qt qv kn kt kv sc ns tx tn pl)) rfl rfl rfl ?_
  refine j_astore (L1 := [(5, .ref q9), (0, .ref (r 0)), (1, .int (iI b)), (2, .int (iI f)), (3, .int (iI (b2i h))), (4, .ref od)]) C dL_pull_14 (by decide) rfl ?_
  refine j_iconst C dL_pull_16 ?_
  exact j_iret C hr hlk dL_pull_17 ⟨rfl, kt, pl, rfl⟩ (by decide) (by decide)
theorem w_pull_2 (l : Launch) (hl : l.stackTraces = false) (g : Gh) (r : Nat → Nat) (qn qt : Nat → Nat) (qv : Nat → Nat → Nat) (kn kt : Nat → Nat → Int) (kv : Nat → Nat → Nat → Int) (sc : Int) (ns : Nat) (tx : Nat → Int) (tn : Nat) (pl : Int) (od : Nat) (o : Nat → Int) (b f : Int) (h : Bool) (hT : TOK kn kv sc ns tx tn) (hrb : -2147483648 ≤ b ∧ b < 2147483648) (hrf : -2147483648 ≤ f ∧ f < 2147483648) (hb4 : 0 ≤ b ∧ b < 4) (hf : f < 0 ∨ 1000000 < f) : CW l g yL_pull cL_pull 6 (some FieldType.int) [(0, 11, 14, 13), (0, 11, 18, 15)] ({ frames := 8, cells := 1, slots := 6, locals := 145 }) [.ref (r 0), .int (iI b), .int (iI f), .int (iI (b2i h)), .ref od] ((od, aL g 1 o) :: wTp g r qn qt qv kn kt kv sc ns tx tn pl) (fun r9 w9 => r9 = some (.int (iI 2)) ∧ ∃ (kt9 : Nat → Nat → Int) (pl9 : Int), w9 = ((od, aL g 1 (o)) :: wTp g r qn qt qv kn kt9 kv sc ns tx tn pl9)) := by
  refine CW.intro (L0 := [(0, .ref (r 0)), (1, .int (iI b)), (2, .int (iI f)), (3, .int (iI (b2i h))), (4, .ref od)]) (own := RL) (by decide) rfl (Nat.le_of_ble_eq_true rfl) rfl ?_
  intro pX eX sX mX argsX belowX methX cX A C hr hlk hnt
  refine J.vx ?_
  refine j_aload C 4 dL_pull_0 rfl ?_
  refine j_iconst C dL_pull_2 ?_
  refine j_aload_n C 0 dL_pull_3 rfl rfl ?_
  refine j_iload_n C 1 dL_pull_4 rfl rfl ?_
  refine j_iload_n C 2 dL_pull_5 rfl rfl ?_
  refine j_iload_n C 3 dL_pull_6 rfl rfl ?_
  refine j_callVC (As := [.int (iI b), .int (iI f), .int (iI (b2i h))]) (rest := [.int (iI 0), .ref od]) C yv_X4_pull qw585 (x_X4_pull_2 l hl g r qn qt qv kn kt kv sc ns tx tn pl b f h hT hrb hrf hb4 hf) (by decide) 1 rfl rfl rfl dL_pull_7 rfl (Nat.le_of_ble_eq_true rfl) (by decide) (pfL [(od, aL g 1 o)]) rfl (name := "java/lang/IllegalArgumentException") [⟨0, 11, 14, 13⟩] [] ⟨0, 11, 18, 15⟩ hnt (fun z hz => by rcases List.mem_singleton.mp hz with rfl; exact Or.inr ⟨by decide, "java/lang/IndexOutOfBoundsException", C.2.2.2.2.1 _ qw431, C.2.2.2.2.2.1.2.2.1 ("java/lang/IllegalArgumentException", "java/lang/IndexOutOfBoundsException") (List.mem_of_getElem? (i := 0) rfl)⟩) (by decide) (by decide) qw432 qn325 (fun w9 q9 hq9 => ?_)
  subst hq9
  refine J.to (L1 := [(0, .ref (r 0)), (1, .int (iI b)), (2, .int (iI f)), (3, .int (iI (b2i h))), (4, .ref od)]) (S1 := [.ref q9]) (ws1 := ((od, aL g 1 (o)) :: wTp g r qn qt qv kn kt kv sc ns tx tn pl)) rfl rfl rfl ?_
  refine j_astore (L1 := [(5, .ref q9), (0, .ref (r 0)), (1, .int (iI b)), (2, .int (iI f)), (3, .int (iI (b2i h))), (4, .ref od)]) C dL_pull_18 (by decide) rfl ?_
  refine j_iconst C dL_pull_20 ?_
  exact j_iret C hr hlk dL_pull_21 ⟨rfl, kt, pl, rfl⟩ (by decide) (by decide)
theorem yw_L_value : YW yL_value RL cL_value 4 (some FieldType.int) [(0, 9, 12, 15)] 3 := ⟨qw591, qw0, qw592, rfl, ⟨by decide +kernel, by decide +kernel⟩, by decide +kernel⟩
theorem w_value_0 (l : Launch) (g : Gh) (r : Nat → Nat) (qn qt : Nat → Nat) (qv : Nat → Nat → Nat) (kn kt : Nat → Nat → Int) (kv : Nat → Nat → Nat → Int) (sc : Int) (ns : Nat) (tx : Nat → Int) (tn : Nat) (pl : Int) (od : Nat) (o : Nat → Int) (w : Int) (hT : TOK kn kv sc ns tx tn) (hw : 0 ≤ w ∧ w ≤ 9) : CW l g yL_value cL_value 4 (some FieldType.int) [(0, 9, 12, 15)] ({ frames := 5, cells := 0, slots := 0, locals := 107 }) [.ref (r 0), .int (iI w), .ref od] ((od, aL g 1 o) :: wTp g r qn qt qv kn kt kv sc ns tx tn pl) (fun r9 w9 => r9 = some (.int (iI 0)) ∧ ∃ (kt9 : Nat → Nat → Int) (pl9 : Int), w9 = ((od, aL g 1 (va_up o 0 (w32 ((valF kn w))))) :: wTp g r qn qt qv kn kt9 kv sc ns tx tn pl9)) := by
  refine CW.intro (L0 := [(0, .ref (r 0)), (1, .int (iI w)), (2, .ref od)]) (own := RL) (by decide) rfl (Nat.le_of_ble_eq_true rfl) rfl ?_
  intro pX eX sX mX argsX belowX methX cX A C hr hlk hnt
  refine J.vx ?_
  refine j_aload_n C 2 dL_value_0 rfl rfl ?_
  refine j_iconst C dL_value_1 ?_
  refine j_aload_n C 0 dL_value_2 rfl rfl ?_
  refine j_iload_n C 1 dL_value_3 rfl rfl ?_
  refine j_callV (As := [.int (iI w)]) (rest := [.int (iI 0), .ref od]) C yv_X4_value qw593 (c_X4_value l g r qn qt qv kn kt kv sc ns tx tn pl w hT hw) (by decide) 1 rfl rfl rfl dL_value_4 rfl (Nat.le_of_ble_eq_true rfl) (by decide) (pfL [(od, aL g 1 o)]) rfl (fun r9 w9 hq9 => ?_)
  obtain ⟨rfl, rfl⟩ := hq9
  refine J.to (L1 := [(0, .ref (r 0)), (1, .int (iI w)), (2, .ref od)]) (S1 := [.int (iI ((valF kn w))), .int (iI 0), .ref od]) (ws1 := ((od, aL g 1 (o)) :: wTp g r qn qt qv kn kt kv sc ns tx tn pl)) rfl rfl rfl ?_
  refine j_i2lw C dL_value_7 ?_
  refine j_last (ws1 := ((od, aL g 1 (va_up o 0 (w32 ((valF kn w))))) :: wTp g r qn qt qv kn kt kv sc ns tx tn pl)) C 0 0 rfl rfl (by decide) (by decide) dL_value_8 rfl ?_
  refine j_goto (tgt := 15) C dL_value_9 (by decide) ?_
  refine j_iconst C dL_value_15 ?_
  exact j_iret C hr hlk dL_value_16 ⟨rfl, kt, pl, rfl⟩ (by decide) (by decide)
theorem w_value_1 (l : Launch) (hl : l.stackTraces = false) (g : Gh) (r : Nat → Nat) (qn qt : Nat → Nat) (qv : Nat → Nat → Nat) (kn kt : Nat → Nat → Int) (kv : Nat → Nat → Nat → Int) (sc : Int) (ns : Nat) (tx : Nat → Int) (tn : Nat) (pl : Int) (od : Nat) (o : Nat → Int) (w : Int) (hT : TOK kn kv sc ns tx tn) (hrw : -2147483648 ≤ w ∧ w < 2147483648) (hw : w < 0 ∨ 9 < w) : CW l g yL_value cL_value 4 (some FieldType.int) [(0, 9, 12, 15)] ({ frames := 7, cells := 1, slots := 6, locals := 121 }) [.ref (r 0), .int (iI w), .ref od] ((od, aL g 1 o) :: wTp g r qn qt qv kn kt kv sc ns tx tn pl) (fun r9 w9 => r9 = some (.int (iI 1)) ∧ ∃ (kt9 : Nat → Nat → Int) (pl9 : Int), w9 = ((od, aL g 1 (o)) :: wTp g r qn qt qv kn kt9 kv sc ns tx tn pl9)) := by
  refine CW.intro (L0 := [(0, .ref (r 0)), (1, .int (iI w)), (2, .ref od)]) (own := RL) (by decide) rfl (Nat.le_of_ble_eq_true rfl) rfl ?_
  intro pX eX sX mX argsX belowX methX cX A C hr hlk hnt
  refine J.vx ?_
  refine j_aload_n C 2 dL_value_0 rfl rfl ?_
  refine j_iconst C dL_value_1 ?_
  refine j_aload_n C 0 dL_value_2 rfl rfl ?_
  refine j_iload_n C 1 dL_value_3 rfl rfl ?_
  refine j_callVC (As := [.int (iI w)]) (rest := [.int (iI 0), .ref od]) C yv_X4_value qw593 (x_X4_value_1 l hl g r qn qt qv kn kt kv sc ns tx tn pl w hT hrw hw) (by decide) 1 rfl rfl rfl dL_value_4 rfl (Nat.le_of_ble_eq_true rfl) (by decide) (pfL [(od, aL g 1 o)]) rfl (name := "java/lang/IllegalArgumentException") [] [] ⟨0, 9, 12, 15⟩ hnt (fun z hz => absurd hz List.not_mem_nil) (by decide) (by decide) qw432 qn325 (fun w9 q9 hq9 => ?_)
  subst hq9
  refine J.to (L1 := [(0, .ref (r 0)), (1, .int (iI w)), (2, .ref od)]) (S1 := [.ref q9]) (ws1 := ((od, aL g 1 (o)) :: wTp g r qn qt qv kn kt kv sc ns tx tn pl)) rfl rfl rfl ?_
  refine j_astore_n (L1 := [(3, .ref q9), (0, .ref (r 0)), (1, .int (iI w)), (2, .ref od)]) C dL_value_12 rfl (by decide) rfl ?_
  refine j_iconst C dL_value_13 ?_
  exact j_iret C hr hlk dL_value_14 ⟨rfl, kt, pl, rfl⟩ (by decide) (by decide)
theorem yw_L_entry : YW yL_entry RL cL_entry 5 (some FieldType.int) [(0, 10, 13, 13), (0, 10, 17, 15)] 4 := ⟨qw595, qw0, qw596, rfl, ⟨by decide +kernel, by decide +kernel⟩, by decide +kernel⟩
theorem w_entry_0 (l : Launch) (g : Gh) (r : Nat → Nat) (qn qt : Nat → Nat) (qv : Nat → Nat → Nat) (kn kt : Nat → Nat → Int) (kv : Nat → Nat → Nat → Int) (sc : Int) (ns : Nat) (tx : Nat → Int) (tn : Nat) (pl : Int) (od : Nat) (o : Nat → Int) (x w : Int) (hT : TOK kn kv sc ns tx tn) (hi : 0 ≤ x ∧ x < kn 0 6) (hw : 0 ≤ w ∧ w ≤ 2) : CW l g yL_entry cL_entry 5 (some FieldType.int) [(0, 10, 13, 13), (0, 10, 17, 15)] ({ frames := 3, cells := 0, slots := 0, locals := 66 }) [.ref (r 0), .int (iI x), .int (iI w), .ref od] ((od, aL g 1 o) :: wTp g r qn qt qv kn kt kv sc ns tx tn pl) (fun r9 w9 => r9 = some (.int (iI 0)) ∧ ∃ (kt9 : Nat → Nat → Int) (pl9 : Int), w9 = ((od, aL g 1 (va_up o 0 (w32 ((kn 2 ((kn 0 9 - x) % 16 * 3 + w).toNat))))) :: wTp g r qn qt qv kn kt9 kv sc ns tx tn pl9)) := by
  refine CW.intro (L0 := [(0, .ref (r 0)), (1, .int (iI x)), (2, .int (iI w)), (3, .ref od)]) (own := RL) (by decide) rfl (Nat.le_of_ble_eq_true rfl) rfl ?_
  intro pX eX sX mX argsX belowX methX cX A C hr hlk hnt
  refine J.vx ?_
  refine j_aload_n C 3 dL_entry_0 rfl rfl ?_
  refine j_iconst C dL_entry_1 ?_
  refine j_aload_n C 0 dL_entry_2 rfl rfl ?_
  refine j_iload_n C 1 dL_entry_3 rfl rfl ?_
  refine j_iload_n C 2 dL_entry_4 rfl rfl ?_
  refine j_callV (As := [.int (iI x), .int (iI w)]) (rest := [.int (iI 0), .ref od]) C yv_X4_entry qw597 (c_X4_entry l g r qn qt qv kn kt kv sc ns tx tn pl x w hT hi hw) (by decide) 1 rfl rfl rfl dL_entry_5 rfl (Nat.le_of_ble_eq_true rfl) (by decide) (pfL [(od, aL g 1 o)]) rfl (fun r9 w9 hq9 => ?_)
  obtain ⟨rfl, rfl⟩ := hq9
  refine J.to (L1 := [(0, .ref (r 0)), (1, .int (iI x)), (2, .int (iI w)), (3, .ref od)]) (S1 := [.int (iI ((kn 2 ((kn 0 9 - x) % 16 * 3 + w).toNat))), .int (iI 0), .ref od]) (ws1 := ((od, aL g 1 (o)) :: wTp g r qn qt qv kn kt kv sc ns tx tn pl)) rfl rfl rfl ?_
  refine j_i2lw C dL_entry_8 ?_
  refine j_last (ws1 := ((od, aL g 1 (va_up o 0 (w32 ((kn 2 ((kn 0 9 - x) % 16 * 3 + w).toNat))))) :: wTp g r qn qt qv kn kt kv sc ns tx tn pl)) C 0 0 rfl rfl (by decide) (by decide) dL_entry_9 rfl ?_
  refine j_goto (tgt := 21) C dL_entry_10 (by decide) ?_
  refine j_iconst C dL_entry_21 ?_
  exact j_iret C hr hlk dL_entry_22 ⟨rfl, kt, pl, rfl⟩ (by decide) (by decide)
theorem w_entry_1 (l : Launch) (hl : l.stackTraces = false) (g : Gh) (r : Nat → Nat) (qn qt : Nat → Nat) (qv : Nat → Nat → Nat) (kn kt : Nat → Nat → Int) (kv : Nat → Nat → Nat → Int) (sc : Int) (ns : Nat) (tx : Nat → Int) (tn : Nat) (pl : Int) (od : Nat) (o : Nat → Int) (x w : Int) (hT : TOK kn kv sc ns tx tn) (hrx : -2147483648 ≤ x ∧ x < 2147483648) (hrw : -2147483648 ≤ w ∧ w < 2147483648) (hi : x < 0 ∨ kn 0 6 ≤ x) : CW l g yL_entry cL_entry 5 (some FieldType.int) [(0, 10, 13, 13), (0, 10, 17, 15)] ({ frames := 8, cells := 1, slots := 6, locals := 144 }) [.ref (r 0), .int (iI x), .int (iI w), .ref od] ((od, aL g 1 o) :: wTp g r qn qt qv kn kt kv sc ns tx tn pl) (fun r9 w9 => r9 = some (.int (iI 1)) ∧ ∃ (kt9 : Nat → Nat → Int) (pl9 : Int), w9 = ((od, aL g 1 (o)) :: wTp g r qn qt qv kn kt9 kv sc ns tx tn pl9)) := by
  refine CW.intro (L0 := [(0, .ref (r 0)), (1, .int (iI x)), (2, .int (iI w)), (3, .ref od)]) (own := RL) (by decide) rfl (Nat.le_of_ble_eq_true rfl) rfl ?_
  intro pX eX sX mX argsX belowX methX cX A C hr hlk hnt
  refine J.vx ?_
  refine j_aload_n C 3 dL_entry_0 rfl rfl ?_
  refine j_iconst C dL_entry_1 ?_
  refine j_aload_n C 0 dL_entry_2 rfl rfl ?_
  refine j_iload_n C 1 dL_entry_3 rfl rfl ?_
  refine j_iload_n C 2 dL_entry_4 rfl rfl ?_
  refine j_callVC (As := [.int (iI x), .int (iI w)]) (rest := [.int (iI 0), .ref od]) C yv_X4_entry qw597 (x_X4_entry_1 l hl g r qn qt qv kn kt kv sc ns tx tn pl x w hT hrx hrw hi) (by decide) 1 rfl rfl rfl dL_entry_5 rfl (Nat.le_of_ble_eq_true rfl) (by decide) (pfL [(od, aL g 1 o)]) rfl (name := "java/lang/IndexOutOfBoundsException") [] [⟨0, 10, 17, 15⟩] ⟨0, 10, 13, 13⟩ hnt (fun z hz => absurd hz List.not_mem_nil) (by decide) (by decide) qw431 qn404 (fun w9 q9 hq9 => ?_)
  subst hq9
  refine J.to (L1 := [(0, .ref (r 0)), (1, .int (iI x)), (2, .int (iI w)), (3, .ref od)]) (S1 := [.ref q9]) (ws1 := ((od, aL g 1 (o)) :: wTp g r qn qt qv kn kt kv sc ns tx tn pl)) rfl rfl rfl ?_
  refine j_astore (L1 := [(4, .ref q9), (0, .ref (r 0)), (1, .int (iI x)), (2, .int (iI w)), (3, .ref od)]) C dL_entry_13 (by decide) rfl ?_
  refine j_iconst C dL_entry_15 ?_
  exact j_iret C hr hlk dL_entry_16 ⟨rfl, kt, pl, rfl⟩ (by decide) (by decide)
theorem w_entry_2 (l : Launch) (hl : l.stackTraces = false) (g : Gh) (r : Nat → Nat) (qn qt : Nat → Nat) (qv : Nat → Nat → Nat) (kn kt : Nat → Nat → Int) (kv : Nat → Nat → Nat → Int) (sc : Int) (ns : Nat) (tx : Nat → Int) (tn : Nat) (pl : Int) (od : Nat) (o : Nat → Int) (x w : Int) (hT : TOK kn kv sc ns tx tn) (hrx : -2147483648 ≤ x ∧ x < 2147483648) (hrw : -2147483648 ≤ w ∧ w < 2147483648) (hi : 0 ≤ x ∧ x < kn 0 6) (hw : w < 0 ∨ 2 < w) : CW l g yL_entry cL_entry 5 (some FieldType.int) [(0, 10, 13, 13), (0, 10, 17, 15)] ({ frames := 8, cells := 1, slots := 6, locals := 144 }) [.ref (r 0), .int (iI x), .int (iI w), .ref od] ((od, aL g 1 o) :: wTp g r qn qt qv kn kt kv sc ns tx tn pl) (fun r9 w9 => r9 = some (.int (iI 2)) ∧ ∃ (kt9 : Nat → Nat → Int) (pl9 : Int), w9 = ((od, aL g 1 (o)) :: wTp g r qn qt qv kn kt9 kv sc ns tx tn pl9)) := by
  refine CW.intro (L0 := [(0, .ref (r 0)), (1, .int (iI x)), (2, .int (iI w)), (3, .ref od)]) (own := RL) (by decide) rfl (Nat.le_of_ble_eq_true rfl) rfl ?_
  intro pX eX sX mX argsX belowX methX cX A C hr hlk hnt
  refine J.vx ?_
  refine j_aload_n C 3 dL_entry_0 rfl rfl ?_
  refine j_iconst C dL_entry_1 ?_
  refine j_aload_n C 0 dL_entry_2 rfl rfl ?_
  refine j_iload_n C 1 dL_entry_3 rfl rfl ?_
  refine j_iload_n C 2 dL_entry_4 rfl rfl ?_
  refine j_callVC (As := [.int (iI x), .int (iI w)]) (rest := [.int (iI 0), .ref od]) C yv_X4_entry qw597 (x_X4_entry_2 l hl g r qn qt qv kn kt kv sc ns tx tn pl x w hT hrx hrw hi hw) (by decide) 1 rfl rfl rfl dL_entry_5 rfl (Nat.le_of_ble_eq_true rfl) (by decide) (pfL [(od, aL g 1 o)]) rfl (name := "java/lang/IllegalArgumentException") [⟨0, 10, 13, 13⟩] [] ⟨0, 10, 17, 15⟩ hnt (fun z hz => by rcases List.mem_singleton.mp hz with rfl; exact Or.inr ⟨by decide, "java/lang/IndexOutOfBoundsException", C.2.2.2.2.1 _ qw431, C.2.2.2.2.2.1.2.2.1 ("java/lang/IllegalArgumentException", "java/lang/IndexOutOfBoundsException") (List.mem_of_getElem? (i := 0) rfl)⟩) (by decide) (by decide) qw432 qn325 (fun w9 q9 hq9 => ?_)
  subst hq9
  refine J.to (L1 := [(0, .ref (r 0)), (1, .int (iI x)), (2, .int (iI w)), (3, .ref od)]) (S1 := [.ref q9]) (ws1 := ((od, aL g 1 (o)) :: wTp g r qn qt qv kn kt kv sc ns tx tn pl)) rfl rfl rfl ?_
  refine j_astore (L1 := [(4, .ref q9), (0, .ref (r 0)), (1, .int (iI x)), (2, .int (iI w)), (3, .ref od)]) C dL_entry_17 (by decide) rfl ?_
  refine j_iconst C dL_entry_19 ?_
  exact j_iret C hr hlk dL_entry_20 ⟨rfl, kt, pl, rfl⟩ (by decide) (by decide)
theorem yw_L_pulleysFor : YW yL_pulleysFor RL cL_pulleysFor 5 (some FieldType.int) [(0, 10, 13, 13), (0, 10, 17, 15)] 4 := ⟨qw603, qw0, qw604, rfl, ⟨by decide +kernel, by decide +kernel⟩, by decide +kernel⟩
theorem w_pulleysFor_0 (l : Launch) (g : Gh) (r : Nat → Nat) (qn qt : Nat → Nat) (qv : Nat → Nat → Nat) (kn kt : Nat → Nat → Int) (kv : Nat → Nat → Nat → Int) (sc : Int) (ns : Nat) (tx : Nat → Int) (tn : Nat) (pl : Int) (od : Nat) (o : Nat → Int) (b f : Int) (hT : TOK kn kv sc ns tx tn) (hb4 : 0 ≤ b ∧ b < 4) (hf : 0 ≤ f ∧ f ≤ 1000000) : CW l g yL_pulleysFor cL_pulleysFor 5 (some FieldType.int) [(0, 10, 13, 13), (0, 10, 17, 15)] ({ frames := 4, cells := 0, slots := 0, locals := 87 }) [.ref (r 0), .int (iI b), .int (iI f), .ref od] ((od, aL g 1 o) :: wTp g r qn qt qv kn kt kv sc ns tx tn pl) (fun r9 w9 => r9 = some (.int (iI 0)) ∧ ∃ (kt9 : Nat → Nat → Int) (pl9 : Int), w9 = ((od, aL g 1 (va_up o 0 (w32 ((pfs (kn 0 1) f (kn 3 b.toNat) 10 0))))) :: wTp g r qn qt qv kn kt9 kv sc ns tx tn pl9)) := by
  refine CW.intro (L0 := [(0, .ref (r 0)), (1, .int (iI b)), (2, .int (iI f)), (3, .ref od)]) (own := RL) (by decide) rfl (Nat.le_of_ble_eq_true rfl) rfl ?_
  intro pX eX sX mX argsX belowX methX cX A C hr hlk hnt
  refine J.vx ?_
  refine j_aload_n C 3 dL_pulleysFor_0 rfl rfl ?_
  refine j_iconst C dL_pulleysFor_1 ?_
  refine j_aload_n C 0 dL_pulleysFor_2 rfl rfl ?_
  refine j_iload_n C 1 dL_pulleysFor_3 rfl rfl ?_
  refine j_iload_n C 2 dL_pulleysFor_4 rfl rfl ?_
  refine j_callV (As := [.int (iI b), .int (iI f)]) (rest := [.int (iI 0), .ref od]) C yv_X4_pulleysFor qw605 (c_X4_pulleysFor l g r qn qt qv kn kt kv sc ns tx tn pl b f hT hb4 hf) (by decide) 1 rfl rfl rfl dL_pulleysFor_5 rfl (Nat.le_of_ble_eq_true rfl) (by decide) (pfL [(od, aL g 1 o)]) rfl (fun r9 w9 hq9 => ?_)
  obtain ⟨rfl, kt9, rfl⟩ := hq9
  refine J.to (L1 := [(0, .ref (r 0)), (1, .int (iI b)), (2, .int (iI f)), (3, .ref od)]) (S1 := [.int (iI ((pfs (kn 0 1) f (kn 3 b.toNat) 10 0))), .int (iI 0), .ref od]) (ws1 := ((od, aL g 1 (o)) :: wTp g r qn qt qv kn kt9 kv sc ns tx tn pl)) rfl rfl rfl ?_
  refine j_i2lw C dL_pulleysFor_8 ?_
  refine j_last (ws1 := ((od, aL g 1 (va_up o 0 (w32 ((pfs (kn 0 1) f (kn 3 b.toNat) 10 0))))) :: wTp g r qn qt qv kn kt9 kv sc ns tx tn pl)) C 0 0 rfl rfl (by decide) (by decide) dL_pulleysFor_9 rfl ?_
  refine j_goto (tgt := 21) C dL_pulleysFor_10 (by decide) ?_
  refine j_iconst C dL_pulleysFor_21 ?_
  exact j_iret C hr hlk dL_pulleysFor_22 ⟨rfl, kt9, pl, rfl⟩ (by decide) (by decide)
theorem w_pulleysFor_1 (l : Launch) (hl : l.stackTraces = false) (g : Gh) (r : Nat → Nat) (qn qt : Nat → Nat) (qv : Nat → Nat → Nat) (kn kt : Nat → Nat → Int) (kv : Nat → Nat → Nat → Int) (sc : Int) (ns : Nat) (tx : Nat → Int) (tn : Nat) (pl : Int) (od : Nat) (o : Nat → Int) (b f : Int) (hT : TOK kn kv sc ns tx tn) (hrb : -2147483648 ≤ b ∧ b < 2147483648) (hrf : -2147483648 ≤ f ∧ f < 2147483648) (hb4 : b < 0 ∨ 4 ≤ b) : CW l g yL_pulleysFor cL_pulleysFor 5 (some FieldType.int) [(0, 10, 13, 13), (0, 10, 17, 15)] ({ frames := 8, cells := 1, slots := 6, locals := 145 }) [.ref (r 0), .int (iI b), .int (iI f), .ref od] ((od, aL g 1 o) :: wTp g r qn qt qv kn kt kv sc ns tx tn pl) (fun r9 w9 => r9 = some (.int (iI 1)) ∧ ∃ (kt9 : Nat → Nat → Int) (pl9 : Int), w9 = ((od, aL g 1 (o)) :: wTp g r qn qt qv kn kt9 kv sc ns tx tn pl9)) := by
  refine CW.intro (L0 := [(0, .ref (r 0)), (1, .int (iI b)), (2, .int (iI f)), (3, .ref od)]) (own := RL) (by decide) rfl (Nat.le_of_ble_eq_true rfl) rfl ?_
  intro pX eX sX mX argsX belowX methX cX A C hr hlk hnt
  refine J.vx ?_
  refine j_aload_n C 3 dL_pulleysFor_0 rfl rfl ?_
  refine j_iconst C dL_pulleysFor_1 ?_
  refine j_aload_n C 0 dL_pulleysFor_2 rfl rfl ?_
  refine j_iload_n C 1 dL_pulleysFor_3 rfl rfl ?_
  refine j_iload_n C 2 dL_pulleysFor_4 rfl rfl ?_
  refine j_callVC (As := [.int (iI b), .int (iI f)]) (rest := [.int (iI 0), .ref od]) C yv_X4_pulleysFor qw605 (x_X4_pulleysFor_1 l hl g r qn qt qv kn kt kv sc ns tx tn pl b f hT hrb hrf hb4) (by decide) 1 rfl rfl rfl dL_pulleysFor_5 rfl (Nat.le_of_ble_eq_true rfl) (by decide) (pfL [(od, aL g 1 o)]) rfl (name := "java/lang/IndexOutOfBoundsException") [] [⟨0, 10, 17, 15⟩] ⟨0, 10, 13, 13⟩ hnt (fun z hz => absurd hz List.not_mem_nil) (by decide) (by decide) qw431 qn404 (fun w9 q9 hq9 => ?_)
  subst hq9
  refine J.to (L1 := [(0, .ref (r 0)), (1, .int (iI b)), (2, .int (iI f)), (3, .ref od)]) (S1 := [.ref q9]) (ws1 := ((od, aL g 1 (o)) :: wTp g r qn qt qv kn kt kv sc ns tx tn pl)) rfl rfl rfl ?_
  refine j_astore (L1 := [(4, .ref q9), (0, .ref (r 0)), (1, .int (iI b)), (2, .int (iI f)), (3, .ref od)]) C dL_pulleysFor_13 (by decide) rfl ?_
  refine j_iconst C dL_pulleysFor_15 ?_
  exact j_iret C hr hlk dL_pulleysFor_16 ⟨rfl, kt, pl, rfl⟩ (by decide) (by decide)
theorem w_pulleysFor_2 (l : Launch) (hl : l.stackTraces = false) (g : Gh) (r : Nat → Nat) (qn qt : Nat → Nat) (qv : Nat → Nat → Nat) (kn kt : Nat → Nat → Int) (kv : Nat → Nat → Nat → Int) (sc : Int) (ns : Nat) (tx : Nat → Int) (tn : Nat) (pl : Int) (od : Nat) (o : Nat → Int) (b f : Int) (hT : TOK kn kv sc ns tx tn) (hrb : -2147483648 ≤ b ∧ b < 2147483648) (hrf : -2147483648 ≤ f ∧ f < 2147483648) (hb4 : 0 ≤ b ∧ b < 4) (hf : f < 0 ∨ 1000000 < f) : CW l g yL_pulleysFor cL_pulleysFor 5 (some FieldType.int) [(0, 10, 13, 13), (0, 10, 17, 15)] ({ frames := 8, cells := 1, slots := 6, locals := 145 }) [.ref (r 0), .int (iI b), .int (iI f), .ref od] ((od, aL g 1 o) :: wTp g r qn qt qv kn kt kv sc ns tx tn pl) (fun r9 w9 => r9 = some (.int (iI 2)) ∧ ∃ (kt9 : Nat → Nat → Int) (pl9 : Int), w9 = ((od, aL g 1 (o)) :: wTp g r qn qt qv kn kt9 kv sc ns tx tn pl9)) := by
  refine CW.intro (L0 := [(0, .ref (r 0)), (1, .int (iI b)), (2, .int (iI f)), (3, .ref od)]) (own := RL) (by decide) rfl (Nat.le_of_ble_eq_true rfl) rfl ?_
  intro pX eX sX mX argsX belowX methX cX A C hr hlk hnt
  refine J.vx ?_
  refine j_aload_n C 3 dL_pulleysFor_0 rfl rfl ?_
  refine j_iconst C dL_pulleysFor_1 ?_
  refine j_aload_n C 0 dL_pulleysFor_2 rfl rfl ?_
  refine j_iload_n C 1 dL_pulleysFor_3 rfl rfl ?_
  refine j_iload_n C 2 dL_pulleysFor_4 rfl rfl ?_
  refine j_callVC (As := [.int (iI b), .int (iI f)]) (rest := [.int (iI 0), .ref od]) C yv_X4_pulleysFor qw605 (x_X4_pulleysFor_2 l hl g r qn qt qv kn kt kv sc ns tx tn pl b f hT hrb hrf hb4 hf) (by decide) 1 rfl rfl rfl dL_pulleysFor_5 rfl (Nat.le_of_ble_eq_true rfl) (by decide) (pfL [(od, aL g 1 o)]) rfl (name := "java/lang/IllegalArgumentException") [⟨0, 10, 13, 13⟩] [] ⟨0, 10, 17, 15⟩ hnt (fun z hz => by rcases List.mem_singleton.mp hz with rfl; exact Or.inr ⟨by decide, "java/lang/IndexOutOfBoundsException", C.2.2.2.2.1 _ qw431, C.2.2.2.2.2.1.2.2.1 ("java/lang/IllegalArgumentException", "java/lang/IndexOutOfBoundsException") (List.mem_of_getElem? (i := 0) rfl)⟩) (by decide) (by decide) qw432 qn325 (fun w9 q9 hq9 => ?_)
  subst hq9
  refine J.to (L1 := [(0, .ref (r 0)), (1, .int (iI b)), (2, .int (iI f)), (3, .ref od)]) (S1 := [.ref q9]) (ws1 := ((od, aL g 1 (o)) :: wTp g r qn qt qv kn kt kv sc ns tx tn pl)) rfl rfl rfl ?_
  refine j_astore (L1 := [(4, .ref q9), (0, .ref (r 0)), (1, .int (iI b)), (2, .int (iI f)), (3, .ref od)]) C dL_pulleysFor_17 (by decide) rfl ?_
  refine j_iconst C dL_pulleysFor_19 ?_
  exact j_iret C hr hlk dL_pulleysFor_20 ⟨rfl, kt, pl, rfl⟩ (by decide) (by decide)
theorem yw_L_bestEnd : YW yL_bestEnd RL cL_bestEnd 4 (some FieldType.int) [(0, 9, 12, 13)] 3 := ⟨qw611, qw0, qw612, rfl, ⟨by decide +kernel, by decide +kernel⟩, by decide +kernel⟩
theorem w_bestEnd_0 (l : Launch) (g : Gh) (r : Nat → Nat) (qn qt : Nat → Nat) (qv : Nat → Nat → Nat) (kn kt : Nat → Nat → Int) (kv : Nat → Nat → Nat → Int) (sc : Int) (ns : Nat) (tx : Nat → Int) (tn : Nat) (pl : Int) (od : Nat) (o : Nat → Int) (b : Int) (hT : TOK kn kv sc ns tx tn) (hb4 : 0 ≤ b ∧ b < 4) : CW l g yL_bestEnd cL_bestEnd 4 (some FieldType.int) [(0, 9, 12, 13)] ({ frames := 5, cells := 0, slots := 0, locals := 129 }) [.ref (r 0), .int (iI b), .ref od] ((od, aL g 1 o) :: wTp g r qn qt qv kn kt kv sc ns tx tn pl) (fun r9 w9 => r9 = some (.int (iI 0)) ∧ ∃ (kt9 : Nat → Nat → Int) (pl9 : Int), w9 = ((od, aL g 1 (va_up o 0 (w32 ((nxr (fcE kn b) (fun _ => 0) 1000000 5))))) :: wTp g r qn qt qv kn kt9 kv sc ns tx tn pl9)) := by
  refine CW.intro (L0 := [(0, .ref (r 0)), (1, .int (iI b)), (2, .ref od)]) (own := RL) (by decide) rfl (Nat.le_of_ble_eq_true rfl) rfl ?_
  intro pX eX sX mX argsX belowX methX cX A C hr hlk hnt
  refine J.vx ?_
  refine j_aload_n C 2 dL_bestEnd_0 rfl rfl ?_
  refine j_iconst C dL_bestEnd_1 ?_
  refine j_aload_n C 0 dL_bestEnd_2 rfl rfl ?_
  refine j_iload_n C 1 dL_bestEnd_3 rfl rfl ?_
  refine j_callV (As := [.int (iI b)]) (rest := [.int (iI 0), .ref od]) C yv_X4_bestEnd qw613 (c_X4_bestEnd l g r qn qt qv kn kt kv sc ns tx tn pl b hT hb4) (by decide) 1 rfl rfl rfl dL_bestEnd_4 rfl (Nat.le_of_ble_eq_true rfl) (by decide) (pfL [(od, aL g 1 o)]) rfl (fun r9 w9 hq9 => ?_)
  obtain ⟨rfl, kt9, rfl⟩ := hq9
  refine J.to (L1 := [(0, .ref (r 0)), (1, .int (iI b)), (2, .ref od)]) (S1 := [.int (iI ((nxr (fcE kn b) (fun _ => 0) 1000000 5))), .int (iI 0), .ref od]) (ws1 := ((od, aL g 1 (o)) :: wTp g r qn qt qv kn kt9 kv sc ns tx tn pl)) rfl rfl rfl ?_
  refine j_i2lw C dL_bestEnd_7 ?_
  refine j_last (ws1 := ((od, aL g 1 (va_up o 0 (w32 ((nxr (fcE kn b) (fun _ => 0) 1000000 5))))) :: wTp g r qn qt qv kn kt9 kv sc ns tx tn pl)) C 0 0 rfl rfl (by decide) (by decide) dL_bestEnd_8 rfl ?_
  refine j_goto (tgt := 15) C dL_bestEnd_9 (by decide) ?_
  refine j_iconst C dL_bestEnd_15 ?_
  exact j_iret C hr hlk dL_bestEnd_16 ⟨rfl, kt9, pl, rfl⟩ (by decide) (by decide)
theorem w_bestEnd_1 (l : Launch) (hl : l.stackTraces = false) (g : Gh) (r : Nat → Nat) (qn qt : Nat → Nat) (qv : Nat → Nat → Nat) (kn kt : Nat → Nat → Int) (kv : Nat → Nat → Nat → Int) (sc : Int) (ns : Nat) (tx : Nat → Int) (tn : Nat) (pl : Int) (od : Nat) (o : Nat → Int) (b : Int) (hT : TOK kn kv sc ns tx tn) (hrb : -2147483648 ≤ b ∧ b < 2147483648) (hb4 : b < 0 ∨ 4 ≤ b) : CW l g yL_bestEnd cL_bestEnd 4 (some FieldType.int) [(0, 9, 12, 13)] ({ frames := 8, cells := 1, slots := 6, locals := 145 }) [.ref (r 0), .int (iI b), .ref od] ((od, aL g 1 o) :: wTp g r qn qt qv kn kt kv sc ns tx tn pl) (fun r9 w9 => r9 = some (.int (iI 1)) ∧ ∃ (kt9 : Nat → Nat → Int) (pl9 : Int), w9 = ((od, aL g 1 (o)) :: wTp g r qn qt qv kn kt9 kv sc ns tx tn pl9)) := by
  refine CW.intro (L0 := [(0, .ref (r 0)), (1, .int (iI b)), (2, .ref od)]) (own := RL) (by decide) rfl (Nat.le_of_ble_eq_true rfl) rfl ?_
  intro pX eX sX mX argsX belowX methX cX A C hr hlk hnt
  refine J.vx ?_
  refine j_aload_n C 2 dL_bestEnd_0 rfl rfl ?_
  refine j_iconst C dL_bestEnd_1 ?_
  refine j_aload_n C 0 dL_bestEnd_2 rfl rfl ?_
  refine j_iload_n C 1 dL_bestEnd_3 rfl rfl ?_
  refine j_callVC (As := [.int (iI b)]) (rest := [.int (iI 0), .ref od]) C yv_X4_bestEnd qw613 (x_X4_bestEnd_1 l hl g r qn qt qv kn kt kv sc ns tx tn pl b hT hrb hb4) (by decide) 1 rfl rfl rfl dL_bestEnd_4 rfl (Nat.le_of_ble_eq_true rfl) (by decide) (pfL [(od, aL g 1 o)]) rfl (name := "java/lang/IndexOutOfBoundsException") [] [] ⟨0, 9, 12, 13⟩ hnt (fun z hz => absurd hz List.not_mem_nil) (by decide) (by decide) qw431 qn404 (fun w9 q9 hq9 => ?_)
  subst hq9
  refine J.to (L1 := [(0, .ref (r 0)), (1, .int (iI b)), (2, .ref od)]) (S1 := [.ref q9]) (ws1 := ((od, aL g 1 (o)) :: wTp g r qn qt qv kn kt kv sc ns tx tn pl)) rfl rfl rfl ?_
  refine j_astore_n (L1 := [(3, .ref q9), (0, .ref (r 0)), (1, .int (iI b)), (2, .ref od)]) C dL_bestEnd_12 rfl (by decide) rfl ?_
  refine j_iconst C dL_bestEnd_13 ?_
  exact j_iret C hr hlk dL_bestEnd_14 ⟨rfl, kt, pl, rfl⟩ (by decide) (by decide)
theorem yw_L_swapped : YW yL_swapped RL cL_swapped 6 (some FieldType.int) [(0, 12, 15, 13)] 5 := ⟨qw618, qw0, qw619, rfl, ⟨by decide +kernel, by decide +kernel⟩, by decide +kernel⟩
theorem w_swapped_0 (l : Launch) (g : Gh) (r : Nat → Nat) (qn qt : Nat → Nat) (qv : Nat → Nat → Nat) (kn kt : Nat → Nat → Int) (kv : Nat → Nat → Nat → Int) (sc : Int) (ns : Nat) (tx : Nat → Int) (tn : Nat) (pl : Int) (od : Nat) (o : Nat → Int) (b x y : Int) (hT : TOK kn kv sc ns tx tn) (hb4 : 0 ≤ b ∧ b < 4) (hi : 0 ≤ x ∧ x < kn 0 2) (hj : 0 ≤ y ∧ y < kn 0 2) : CW l g yL_swapped cL_swapped 6 (some FieldType.int) [(0, 12, 15, 13)] ({ frames := 5, cells := 0, slots := 0, locals := 127 }) [.ref (r 0), .int (iI b), .int (iI x), .int (iI y), .ref od] ((od, aL g 1 o) :: wTp g r qn qt qv kn kt kv sc ns tx tn pl) (fun r9 w9 => r9 = some (.int (iI 0)) ∧ ∃ (kt9 : Nat → Nat → Int) (pl9 : Int), w9 = ((od, aL g 1 (va_up o 0 (w32 ((lea (swp (kn 1) x.toNat y.toNat) (kn 0 1) true (kn 0 2).toNat (kn 0 3) b (kn 3 b.toNat)))))) :: wTp g r qn qt qv kn kt9 kv sc ns tx tn pl9)) := by
  refine CW.intro (L0 := [(0, .ref (r 0)), (1, .int (iI b)), (2, .int (iI x)), (3, .int (iI y)), (4, .ref od)]) (own := RL) (by decide) rfl (Nat.le_of_ble_eq_true rfl) rfl ?_
  intro pX eX sX mX argsX belowX methX cX A C hr hlk hnt
  refine J.vx ?_
  refine j_aload C 4 dL_swapped_0 rfl ?_
  refine j_iconst C dL_swapped_2 ?_
  refine j_aload_n C 0 dL_swapped_3 rfl rfl ?_
  refine j_iload_n C 1 dL_swapped_4 rfl rfl ?_
  refine j_iload_n C 2 dL_swapped_5 rfl rfl ?_
  refine j_iload_n C 3 dL_swapped_6 rfl rfl ?_
  refine j_callV (As := [.int (iI b), .int (iI x), .int (iI y)]) (rest := [.int (iI 0), .ref od]) C yv_X4_swapped qw620 (c_X4_swapped l g r qn qt qv kn kt kv sc ns tx tn pl b x y hT hb4 hi hj) (by decide) 1 rfl rfl rfl dL_swapped_7 rfl (Nat.le_of_ble_eq_true rfl) (by decide) (pfL [(od, aL g 1 o)]) rfl (fun r9 w9 hq9 => ?_)
  obtain ⟨rfl, kt9, rfl⟩ := hq9
  refine J.to (L1 := [(0, .ref (r 0)), (1, .int (iI b)), (2, .int (iI x)), (3, .int (iI y)), (4, .ref od)]) (S1 := [.int (iI ((lea (swp (kn 1) x.toNat y.toNat) (kn 0 1) true (kn 0 2).toNat (kn 0 3) b (kn 3 b.toNat)))), .int (iI 0), .ref od]) (ws1 := ((od, aL g 1 (o)) :: wTp g r qn qt qv kn kt9 kv sc ns tx tn pl)) rfl rfl rfl ?_
  refine j_i2lw C dL_swapped_10 ?_
  refine j_last (ws1 := ((od, aL g 1 (va_up o 0 (w32 ((lea (swp (kn 1) x.toNat y.toNat) (kn 0 1) true (kn 0 2).toNat (kn 0 3) b (kn 3 b.toNat)))))) :: wTp g r qn qt qv kn kt9 kv sc ns tx tn pl)) C 0 0 rfl rfl (by decide) (by decide) dL_swapped_11 rfl ?_
  refine j_goto (tgt := 19) C dL_swapped_12 (by decide) ?_
  refine j_iconst C dL_swapped_19 ?_
  exact j_iret C hr hlk dL_swapped_20 ⟨rfl, kt9, pl, rfl⟩ (by decide) (by decide)
theorem w_swapped_1 (l : Launch) (hl : l.stackTraces = false) (g : Gh) (r : Nat → Nat) (qn qt : Nat → Nat) (qv : Nat → Nat → Nat) (kn kt : Nat → Nat → Int) (kv : Nat → Nat → Nat → Int) (sc : Int) (ns : Nat) (tx : Nat → Int) (tn : Nat) (pl : Int) (od : Nat) (o : Nat → Int) (b x y : Int) (hT : TOK kn kv sc ns tx tn) (hrb : -2147483648 ≤ b ∧ b < 2147483648) (hrx : -2147483648 ≤ x ∧ x < 2147483648) (hry : -2147483648 ≤ y ∧ y < 2147483648) (hb4 : b < 0 ∨ 4 ≤ b) : CW l g yL_swapped cL_swapped 6 (some FieldType.int) [(0, 12, 15, 13)] ({ frames := 8, cells := 1, slots := 6, locals := 144 }) [.ref (r 0), .int (iI b), .int (iI x), .int (iI y), .ref od] ((od, aL g 1 o) :: wTp g r qn qt qv kn kt kv sc ns tx tn pl) (fun r9 w9 => r9 = some (.int (iI 1)) ∧ ∃ (kt9 : Nat → Nat → Int) (pl9 : Int), w9 = ((od, aL g 1 (o)) :: wTp g r qn qt qv kn kt9 kv sc ns tx tn pl9)) := by
  refine CW.intro (L0 := [(0, .ref (r 0)), (1, .int (iI b)), (2, .int (iI x)), (3, .int (iI y)), (4, .ref od)]) (own := RL) (by decide) rfl (Nat.le_of_ble_eq_true rfl) rfl ?_
  intro pX eX sX mX argsX belowX methX cX A C hr hlk hnt
  refine J.vx ?_
  refine j_aload C 4 dL_swapped_0 rfl ?_
  refine j_iconst C dL_swapped_2 ?_
  refine j_aload_n C 0 dL_swapped_3 rfl rfl ?_
  refine j_iload_n C 1 dL_swapped_4 rfl rfl ?_
  refine j_iload_n C 2 dL_swapped_5 rfl rfl ?_
  refine j_iload_n C 3 dL_swapped_6 rfl rfl ?_
  refine j_callVC (As := [.int (iI b), .int (iI x), .int (iI y)]) (rest := [.int (iI 0), .ref od]) C yv_X4_swapped qw620 (x_X4_swapped_1 l hl g r qn qt qv kn kt kv sc ns tx tn pl b x y hT hrb hrx hry hb4) (by decide) 1 rfl rfl rfl dL_swapped_7 rfl (Nat.le_of_ble_eq_true rfl) (by decide) (pfL [(od, aL g 1 o)]) rfl (name := "java/lang/IndexOutOfBoundsException") [] [] ⟨0, 12, 15, 13⟩ hnt (fun z hz => absurd hz List.not_mem_nil) (by decide) (by decide) qw431 qn404 (fun w9 q9 hq9 => ?_)
  subst hq9
  refine J.to (L1 := [(0, .ref (r 0)), (1, .int (iI b)), (2, .int (iI x)), (3, .int (iI y)), (4, .ref od)]) (S1 := [.ref q9]) (ws1 := ((od, aL g 1 (o)) :: wTp g r qn qt qv kn kt kv sc ns tx tn pl)) rfl rfl rfl ?_
  refine j_astore (L1 := [(5, .ref q9), (0, .ref (r 0)), (1, .int (iI b)), (2, .int (iI x)), (3, .int (iI y)), (4, .ref od)]) C dL_swapped_15 (by decide) rfl ?_
  refine j_iconst C dL_swapped_17 ?_
  exact j_iret C hr hlk dL_swapped_18 ⟨rfl, kt, pl, rfl⟩ (by decide) (by decide)
theorem w_swapped_1b (l : Launch) (hl : l.stackTraces = false) (g : Gh) (r : Nat → Nat) (qn qt : Nat → Nat) (qv : Nat → Nat → Nat) (kn kt : Nat → Nat → Int) (kv : Nat → Nat → Nat → Int) (sc : Int) (ns : Nat) (tx : Nat → Int) (tn : Nat) (pl : Int) (od : Nat) (o : Nat → Int) (b x y : Int) (hT : TOK kn kv sc ns tx tn) (hrb : -2147483648 ≤ b ∧ b < 2147483648) (hrx : -2147483648 ≤ x ∧ x < 2147483648) (hry : -2147483648 ≤ y ∧ y < 2147483648) (hb4 : 0 ≤ b ∧ b < 4) (hi : x < 0 ∨ kn 0 2 ≤ x) : CW l g yL_swapped cL_swapped 6 (some FieldType.int) [(0, 12, 15, 13)] ({ frames := 8, cells := 1, slots := 6, locals := 144 }) [.ref (r 0), .int (iI b), .int (iI x), .int (iI y), .ref od] ((od, aL g 1 o) :: wTp g r qn qt qv kn kt kv sc ns tx tn pl) (fun r9 w9 => r9 = some (.int (iI 1)) ∧ ∃ (kt9 : Nat → Nat → Int) (pl9 : Int), w9 = ((od, aL g 1 (o)) :: wTp g r qn qt qv kn kt9 kv sc ns tx tn pl9)) := by
  refine CW.intro (L0 := [(0, .ref (r 0)), (1, .int (iI b)), (2, .int (iI x)), (3, .int (iI y)), (4, .ref od)]) (own := RL) (by decide) rfl (Nat.le_of_ble_eq_true rfl) rfl ?_
  intro pX eX sX mX argsX belowX methX cX A C hr hlk hnt
  refine J.vx ?_
  refine j_aload C 4 dL_swapped_0 rfl ?_
  refine j_iconst C dL_swapped_2 ?_
  refine j_aload_n C 0 dL_swapped_3 rfl rfl ?_
  refine j_iload_n C 1 dL_swapped_4 rfl rfl ?_
  refine j_iload_n C 2 dL_swapped_5 rfl rfl ?_
  refine j_iload_n C 3 dL_swapped_6 rfl rfl ?_
  refine j_callVC (As := [.int (iI b), .int (iI x), .int (iI y)]) (rest := [.int (iI 0), .ref od]) C yv_X4_swapped qw620 (x_X4_swapped_2 l hl g r qn qt qv kn kt kv sc ns tx tn pl b x y hT hrb hrx hry hb4 hi) (by decide) 1 rfl rfl rfl dL_swapped_7 rfl (Nat.le_of_ble_eq_true rfl) (by decide) (pfL [(od, aL g 1 o)]) rfl (name := "java/lang/IndexOutOfBoundsException") [] [] ⟨0, 12, 15, 13⟩ hnt (fun z hz => absurd hz List.not_mem_nil) (by decide) (by decide) qw431 qn404 (fun w9 q9 hq9 => ?_)
  subst hq9
  refine J.to (L1 := [(0, .ref (r 0)), (1, .int (iI b)), (2, .int (iI x)), (3, .int (iI y)), (4, .ref od)]) (S1 := [.ref q9]) (ws1 := ((od, aL g 1 (o)) :: wTp g r qn qt qv kn kt kv sc ns tx tn pl)) rfl rfl rfl ?_
  refine j_astore (L1 := [(5, .ref q9), (0, .ref (r 0)), (1, .int (iI b)), (2, .int (iI x)), (3, .int (iI y)), (4, .ref od)]) C dL_swapped_15 (by decide) rfl ?_
  refine j_iconst C dL_swapped_17 ?_
  exact j_iret C hr hlk dL_swapped_18 ⟨rfl, kt, pl, rfl⟩ (by decide) (by decide)
theorem w_swapped_1c (l : Launch) (hl : l.stackTraces = false) (g : Gh) (r : Nat → Nat) (qn qt : Nat → Nat) (qv : Nat → Nat → Nat) (kn kt : Nat → Nat → Int) (kv : Nat → Nat → Nat → Int) (sc : Int) (ns : Nat) (tx : Nat → Int) (tn : Nat) (pl : Int) (od : Nat) (o : Nat → Int) (b x y : Int) (hT : TOK kn kv sc ns tx tn) (hrb : -2147483648 ≤ b ∧ b < 2147483648) (hrx : -2147483648 ≤ x ∧ x < 2147483648) (hry : -2147483648 ≤ y ∧ y < 2147483648) (hb4 : 0 ≤ b ∧ b < 4) (hi : 0 ≤ x ∧ x < kn 0 2) (hj : y < 0 ∨ kn 0 2 ≤ y) : CW l g yL_swapped cL_swapped 6 (some FieldType.int) [(0, 12, 15, 13)] ({ frames := 8, cells := 1, slots := 6, locals := 144 }) [.ref (r 0), .int (iI b), .int (iI x), .int (iI y), .ref od] ((od, aL g 1 o) :: wTp g r qn qt qv kn kt kv sc ns tx tn pl) (fun r9 w9 => r9 = some (.int (iI 1)) ∧ ∃ (kt9 : Nat → Nat → Int) (pl9 : Int), w9 = ((od, aL g 1 (o)) :: wTp g r qn qt qv kn kt9 kv sc ns tx tn pl9)) := by
  refine CW.intro (L0 := [(0, .ref (r 0)), (1, .int (iI b)), (2, .int (iI x)), (3, .int (iI y)), (4, .ref od)]) (own := RL) (by decide) rfl (Nat.le_of_ble_eq_true rfl) rfl ?_
  intro pX eX sX mX argsX belowX methX cX A C hr hlk hnt
  refine J.vx ?_
  refine j_aload C 4 dL_swapped_0 rfl ?_
  refine j_iconst C dL_swapped_2 ?_
  refine j_aload_n C 0 dL_swapped_3 rfl rfl ?_
  refine j_iload_n C 1 dL_swapped_4 rfl rfl ?_
  refine j_iload_n C 2 dL_swapped_5 rfl rfl ?_
  refine j_iload_n C 3 dL_swapped_6 rfl rfl ?_
  refine j_callVC (As := [.int (iI b), .int (iI x), .int (iI y)]) (rest := [.int (iI 0), .ref od]) C yv_X4_swapped qw620 (x_X4_swapped_3 l hl g r qn qt qv kn kt kv sc ns tx tn pl b x y hT hrb hrx hry hb4 hi hj) (by decide) 1 rfl rfl rfl dL_swapped_7 rfl (Nat.le_of_ble_eq_true rfl) (by decide) (pfL [(od, aL g 1 o)]) rfl (name := "java/lang/IndexOutOfBoundsException") [] [] ⟨0, 12, 15, 13⟩ hnt (fun z hz => absurd hz List.not_mem_nil) (by decide) (by decide) qw431 qn404 (fun w9 q9 hq9 => ?_)
  subst hq9
  refine J.to (L1 := [(0, .ref (r 0)), (1, .int (iI b)), (2, .int (iI x)), (3, .int (iI y)), (4, .ref od)]) (S1 := [.ref q9]) (ws1 := ((od, aL g 1 (o)) :: wTp g r qn qt qv kn kt kv sc ns tx tn pl)) rfl rfl rfl ?_
  refine j_astore (L1 := [(5, .ref q9), (0, .ref (r 0)), (1, .int (iI b)), (2, .int (iI x)), (3, .int (iI y)), (4, .ref od)]) C dL_swapped_15 (by decide) rfl ?_
  refine j_iconst C dL_swapped_17 ?_
  exact j_iret C hr hlk dL_swapped_18 ⟨rfl, kt, pl, rfl⟩ (by decide) (by decide)
theorem yw_L_riseBy : YW yL_riseBy RL cL_riseBy 6 (some FieldType.int) [(0, 12, 15, 13), (0, 12, 19, 15)] 5 := ⟨qw629, qw0, qw630, rfl, ⟨by decide +kernel, by decide +kernel⟩, by decide +kernel⟩
theorem w_riseBy_0 (l : Launch) (g : Gh) (r : Nat → Nat) (qn qt : Nat → Nat) (qv : Nat → Nat → Nat) (kn kt : Nat → Nat → Int) (kv : Nat → Nat → Nat → Int) (sc : Int) (ns : Nat) (tx : Nat → Int) (tn : Nat) (pl : Int) (od : Nat) (o : Nat → Int) (b f n : Int) (hT : TOK kn kv sc ns tx tn) (hb4 : 0 ≤ b ∧ b < 4) (hf : 0 ≤ f ∧ f ≤ 1000000) (hn : 0 ≤ n ∧ n ≤ 100000) : CW l g yL_riseBy cL_riseBy 6 (some FieldType.int) [(0, 12, 15, 13), (0, 12, 19, 15)] ({ frames := 7, cells := 0, slots := 0, locals := 172 }) [.ref (r 0), .int (iI b), .int (iI f), .int (iI n), .ref od] ((od, aL g 1 o) :: wTp g r qn qt qv kn kt kv sc ns tx tn pl) (fun r9 w9 => r9 = some (.int (iI 0)) ∧ ∃ (kt9 : Nat → Nat → Int) (pl9 : Int), w9 = ((od, aL g 1 (va_up o 0 (w32 (((mup f n (cpS kn kt)).1 4 b.toNat - kn 4 b.toNat))))) :: wTp g r qn qt qv kn kt9 kv sc ns tx tn pl9)) := by
  refine CW.intro (L0 := [(0, .ref (r 0)), (1, .int (iI b)), (2, .int (iI f)), (3, .int (iI n)), (4, .ref od)]) (own := RL) (by decide) rfl (Nat.le_of_ble_eq_true rfl) rfl ?_
  intro pX eX sX mX argsX belowX methX cX A C hr hlk hnt
  refine J.vx ?_
  refine j_aload C 4 dL_riseBy_0 rfl ?_
  refine j_iconst C dL_riseBy_2 ?_
  refine j_aload_n C 0 dL_riseBy_3 rfl rfl ?_
  refine j_iload_n C 1 dL_riseBy_4 rfl rfl ?_
  refine j_iload_n C 2 dL_riseBy_5 rfl rfl ?_
  refine j_iload_n C 3 dL_riseBy_6 rfl rfl ?_
  refine j_callV (As := [.int (iI b), .int (iI f), .int (iI n)]) (rest := [.int (iI 0), .ref od]) C yv_X4_riseBy qw631 (c_X4_riseBy l g r qn qt qv kn kt kv sc ns tx tn pl b f n hT hb4 hf hn) (by decide) 1 rfl rfl rfl dL_riseBy_7 rfl (Nat.le_of_ble_eq_true rfl) (by decide) (pfL [(od, aL g 1 o)]) rfl (fun r9 w9 hq9 => ?_)
  obtain ⟨rfl, kt9, rfl⟩ := hq9
  refine J.to (L1 := [(0, .ref (r 0)), (1, .int (iI b)), (2, .int (iI f)), (3, .int (iI n)), (4, .ref od)]) (S1 := [.int (iI (((mup f n (cpS kn kt)).1 4 b.toNat - kn 4 b.toNat))), .int (iI 0), .ref od]) (ws1 := ((od, aL g 1 (o)) :: wTp g r qn qt qv kn kt9 kv sc ns tx tn pl)) rfl rfl rfl ?_
  refine j_i2lw C dL_riseBy_10 ?_
  refine j_last (ws1 := ((od, aL g 1 (va_up o 0 (w32 (((mup f n (cpS kn kt)).1 4 b.toNat - kn 4 b.toNat))))) :: wTp g r qn qt qv kn kt9 kv sc ns tx tn pl)) C 0 0 rfl rfl (by decide) (by decide) dL_riseBy_11 rfl ?_
  refine j_goto (tgt := 23) C dL_riseBy_12 (by decide) ?_
  refine j_iconst C dL_riseBy_23 ?_
  exact j_iret C hr hlk dL_riseBy_24 ⟨rfl, kt9, pl, rfl⟩ (by decide) (by decide)
theorem w_riseBy_1 (l : Launch) (hl : l.stackTraces = false) (g : Gh) (r : Nat → Nat) (qn qt : Nat → Nat) (qv : Nat → Nat → Nat) (kn kt : Nat → Nat → Int) (kv : Nat → Nat → Nat → Int) (sc : Int) (ns : Nat) (tx : Nat → Int) (tn : Nat) (pl : Int) (od : Nat) (o : Nat → Int) (b f n : Int) (hT : TOK kn kv sc ns tx tn) (hrb : -2147483648 ≤ b ∧ b < 2147483648) (hrf : -2147483648 ≤ f ∧ f < 2147483648) (hrn : -2147483648 ≤ n ∧ n < 2147483648) (hb4 : b < 0 ∨ 4 ≤ b) : CW l g yL_riseBy cL_riseBy 6 (some FieldType.int) [(0, 12, 15, 13), (0, 12, 19, 15)] ({ frames := 8, cells := 1, slots := 6, locals := 145 }) [.ref (r 0), .int (iI b), .int (iI f), .int (iI n), .ref od] ((od, aL g 1 o) :: wTp g r qn qt qv kn kt kv sc ns tx tn pl) (fun r9 w9 => r9 = some (.int (iI 1)) ∧ ∃ (kt9 : Nat → Nat → Int) (pl9 : Int), w9 = ((od, aL g 1 (o)) :: wTp g r qn qt qv kn kt9 kv sc ns tx tn pl9)) := by
  refine CW.intro (L0 := [(0, .ref (r 0)), (1, .int (iI b)), (2, .int (iI f)), (3, .int (iI n)), (4, .ref od)]) (own := RL) (by decide) rfl (Nat.le_of_ble_eq_true rfl) rfl ?_
  intro pX eX sX mX argsX belowX methX cX A C hr hlk hnt
  refine J.vx ?_
  refine j_aload C 4 dL_riseBy_0 rfl ?_
  refine j_iconst C dL_riseBy_2 ?_
  refine j_aload_n C 0 dL_riseBy_3 rfl rfl ?_
  refine j_iload_n C 1 dL_riseBy_4 rfl rfl ?_
  refine j_iload_n C 2 dL_riseBy_5 rfl rfl ?_
  refine j_iload_n C 3 dL_riseBy_6 rfl rfl ?_
  refine j_callVC (As := [.int (iI b), .int (iI f), .int (iI n)]) (rest := [.int (iI 0), .ref od]) C yv_X4_riseBy qw631 (x_X4_riseBy_1 l hl g r qn qt qv kn kt kv sc ns tx tn pl b f n hT hrb hrf hrn hb4) (by decide) 1 rfl rfl rfl dL_riseBy_7 rfl (Nat.le_of_ble_eq_true rfl) (by decide) (pfL [(od, aL g 1 o)]) rfl (name := "java/lang/IndexOutOfBoundsException") [] [⟨0, 12, 19, 15⟩] ⟨0, 12, 15, 13⟩ hnt (fun z hz => absurd hz List.not_mem_nil) (by decide) (by decide) qw431 qn404 (fun w9 q9 hq9 => ?_)
  subst hq9
  refine J.to (L1 := [(0, .ref (r 0)), (1, .int (iI b)), (2, .int (iI f)), (3, .int (iI n)), (4, .ref od)]) (S1 := [.ref q9]) (ws1 := ((od, aL g 1 (o)) :: wTp g r qn qt qv kn kt kv sc ns tx tn pl)) rfl rfl rfl ?_
  refine j_astore (L1 := [(5, .ref q9), (0, .ref (r 0)), (1, .int (iI b)), (2, .int (iI f)), (3, .int (iI n)), (4, .ref od)]) C dL_riseBy_15 (by decide) rfl ?_
  refine j_iconst C dL_riseBy_17 ?_
  exact j_iret C hr hlk dL_riseBy_18 ⟨rfl, kt, pl, rfl⟩ (by decide) (by decide)
theorem w_riseBy_2 (l : Launch) (hl : l.stackTraces = false) (g : Gh) (r : Nat → Nat) (qn qt : Nat → Nat) (qv : Nat → Nat → Nat) (kn kt : Nat → Nat → Int) (kv : Nat → Nat → Nat → Int) (sc : Int) (ns : Nat) (tx : Nat → Int) (tn : Nat) (pl : Int) (od : Nat) (o : Nat → Int) (b f n : Int) (hT : TOK kn kv sc ns tx tn) (hrb : -2147483648 ≤ b ∧ b < 2147483648) (hrf : -2147483648 ≤ f ∧ f < 2147483648) (hrn : -2147483648 ≤ n ∧ n < 2147483648) (hb4 : 0 ≤ b ∧ b < 4) (hf : f < 0 ∨ 1000000 < f) : CW l g yL_riseBy cL_riseBy 6 (some FieldType.int) [(0, 12, 15, 13), (0, 12, 19, 15)] ({ frames := 8, cells := 1, slots := 6, locals := 145 }) [.ref (r 0), .int (iI b), .int (iI f), .int (iI n), .ref od] ((od, aL g 1 o) :: wTp g r qn qt qv kn kt kv sc ns tx tn pl) (fun r9 w9 => r9 = some (.int (iI 2)) ∧ ∃ (kt9 : Nat → Nat → Int) (pl9 : Int), w9 = ((od, aL g 1 (o)) :: wTp g r qn qt qv kn kt9 kv sc ns tx tn pl9)) := by
  refine CW.intro (L0 := [(0, .ref (r 0)), (1, .int (iI b)), (2, .int (iI f)), (3, .int (iI n)), (4, .ref od)]) (own := RL) (by decide) rfl (Nat.le_of_ble_eq_true rfl) rfl ?_
  intro pX eX sX mX argsX belowX methX cX A C hr hlk hnt
  refine J.vx ?_
  refine j_aload C 4 dL_riseBy_0 rfl ?_
  refine j_iconst C dL_riseBy_2 ?_
  refine j_aload_n C 0 dL_riseBy_3 rfl rfl ?_
  refine j_iload_n C 1 dL_riseBy_4 rfl rfl ?_
  refine j_iload_n C 2 dL_riseBy_5 rfl rfl ?_
  refine j_iload_n C 3 dL_riseBy_6 rfl rfl ?_
  refine j_callVC (As := [.int (iI b), .int (iI f), .int (iI n)]) (rest := [.int (iI 0), .ref od]) C yv_X4_riseBy qw631 (x_X4_riseBy_2 l hl g r qn qt qv kn kt kv sc ns tx tn pl b f n hT hrb hrf hrn hb4 hf) (by decide) 1 rfl rfl rfl dL_riseBy_7 rfl (Nat.le_of_ble_eq_true rfl) (by decide) (pfL [(od, aL g 1 o)]) rfl (name := "java/lang/IllegalArgumentException") [⟨0, 12, 15, 13⟩] [] ⟨0, 12, 19, 15⟩ hnt (fun z hz => by rcases List.mem_singleton.mp hz with rfl; exact Or.inr ⟨by decide, "java/lang/IndexOutOfBoundsException", C.2.2.2.2.1 _ qw431, C.2.2.2.2.2.1.2.2.1 ("java/lang/IllegalArgumentException", "java/lang/IndexOutOfBoundsException") (List.mem_of_getElem? (i := 0) rfl)⟩) (by decide) (by decide) qw432 qn325 (fun w9 q9 hq9 => ?_)
  subst hq9
  refine J.to (L1 := [(0, .ref (r 0)), (1, .int (iI b)), (2, .int (iI f)), (3, .int (iI n)), (4, .ref od)]) (S1 := [.ref q9]) (ws1 := ((od, aL g 1 (o)) :: wTp g r qn qt qv kn kt kv sc ns tx tn pl)) rfl rfl rfl ?_
  refine j_astore (L1 := [(5, .ref q9), (0, .ref (r 0)), (1, .int (iI b)), (2, .int (iI f)), (3, .int (iI n)), (4, .ref od)]) C dL_riseBy_19 (by decide) rfl ?_
  refine j_iconst C dL_riseBy_21 ?_
  exact j_iret C hr hlk dL_riseBy_22 ⟨rfl, kt, pl, rfl⟩ (by decide) (by decide)
theorem w_riseBy_2b (l : Launch) (hl : l.stackTraces = false) (g : Gh) (r : Nat → Nat) (qn qt : Nat → Nat) (qv : Nat → Nat → Nat) (kn kt : Nat → Nat → Int) (kv : Nat → Nat → Nat → Int) (sc : Int) (ns : Nat) (tx : Nat → Int) (tn : Nat) (pl : Int) (od : Nat) (o : Nat → Int) (b f n : Int) (hT : TOK kn kv sc ns tx tn) (hrb : -2147483648 ≤ b ∧ b < 2147483648) (hrf : -2147483648 ≤ f ∧ f < 2147483648) (hrn : -2147483648 ≤ n ∧ n < 2147483648) (hb4 : 0 ≤ b ∧ b < 4) (hf : 0 ≤ f ∧ f ≤ 1000000) (hn : n < 0 ∨ 100000 < n) : CW l g yL_riseBy cL_riseBy 6 (some FieldType.int) [(0, 12, 15, 13), (0, 12, 19, 15)] ({ frames := 8, cells := 1, slots := 6, locals := 145 }) [.ref (r 0), .int (iI b), .int (iI f), .int (iI n), .ref od] ((od, aL g 1 o) :: wTp g r qn qt qv kn kt kv sc ns tx tn pl) (fun r9 w9 => r9 = some (.int (iI 2)) ∧ ∃ (kt9 : Nat → Nat → Int) (pl9 : Int), w9 = ((od, aL g 1 (o)) :: wTp g r qn qt qv kn kt9 kv sc ns tx tn pl9)) := by
  refine CW.intro (L0 := [(0, .ref (r 0)), (1, .int (iI b)), (2, .int (iI f)), (3, .int (iI n)), (4, .ref od)]) (own := RL) (by decide) rfl (Nat.le_of_ble_eq_true rfl) rfl ?_
  intro pX eX sX mX argsX belowX methX cX A C hr hlk hnt
  refine J.vx ?_
  refine j_aload C 4 dL_riseBy_0 rfl ?_
  refine j_iconst C dL_riseBy_2 ?_
  refine j_aload_n C 0 dL_riseBy_3 rfl rfl ?_
  refine j_iload_n C 1 dL_riseBy_4 rfl rfl ?_
  refine j_iload_n C 2 dL_riseBy_5 rfl rfl ?_
  refine j_iload_n C 3 dL_riseBy_6 rfl rfl ?_
  refine j_callVC (As := [.int (iI b), .int (iI f), .int (iI n)]) (rest := [.int (iI 0), .ref od]) C yv_X4_riseBy qw631 (x_X4_riseBy_3 l hl g r qn qt qv kn kt kv sc ns tx tn pl b f n hT hrb hrf hrn hb4 hf hn) (by decide) 1 rfl rfl rfl dL_riseBy_7 rfl (Nat.le_of_ble_eq_true rfl) (by decide) (pfL [(od, aL g 1 o)]) rfl (name := "java/lang/IllegalArgumentException") [⟨0, 12, 15, 13⟩] [] ⟨0, 12, 19, 15⟩ hnt (fun z hz => by rcases List.mem_singleton.mp hz with rfl; exact Or.inr ⟨by decide, "java/lang/IndexOutOfBoundsException", C.2.2.2.2.1 _ qw431, C.2.2.2.2.2.1.2.2.1 ("java/lang/IllegalArgumentException", "java/lang/IndexOutOfBoundsException") (List.mem_of_getElem? (i := 0) rfl)⟩) (by decide) (by decide) qw432 qn325 (fun w9 q9 hq9 => ?_)
  subst hq9
  refine J.to (L1 := [(0, .ref (r 0)), (1, .int (iI b)), (2, .int (iI f)), (3, .int (iI n)), (4, .ref od)]) (S1 := [.ref q9]) (ws1 := ((od, aL g 1 (o)) :: wTp g r qn qt qv kn kt kv sc ns tx tn pl)) rfl rfl rfl ?_
  refine j_astore (L1 := [(5, .ref q9), (0, .ref (r 0)), (1, .int (iI b)), (2, .int (iI f)), (3, .int (iI n)), (4, .ref od)]) C dL_riseBy_19 (by decide) rfl ?_
  refine j_iconst C dL_riseBy_21 ?_
  exact j_iret C hr hlk dL_riseBy_22 ⟨rfl, kt, pl, rfl⟩ (by decide) (by decide)
theorem yw_L_append : YW yL_append RL cL_append 4 (some FieldType.int) [(0, 9, 12, 15), (0, 9, 15, 24)] 3 := ⟨qw636, qw0, qw637, rfl, ⟨by decide +kernel, by decide +kernel⟩, by decide +kernel⟩
theorem w_append_0 (l : Launch) (g : Gh) (r : Nat → Nat) (qn qt : Nat → Nat) (qv : Nat → Nat → Nat) (kn kt : Nat → Nat → Int) (kv : Nat → Nat → Nat → Int) (sc : Int) (ns : Nat) (tx : Nat → Int) (tn : Nat) (pl : Int) (od : Nat) (o : Nat → Int) (v : Int) (hT : TOK kn kv sc ns tx tn) (hv : 0 ≤ v ∧ v ≤ 127) (hn9 : tn < 60) : CW l g yL_append cL_append 4 (some FieldType.int) [(0, 9, 12, 15), (0, 9, 15, 24)] ({ frames := 2, cells := 0, slots := 0, locals := 43 }) [.ref (r 0), .int (iI v), .ref od] ((od, aL g 1 o) :: wTp g r qn qt qv kn kt kv sc ns tx tn pl) (fun r9 w9 => r9 = some (.int (iI 0)) ∧ ∃ (kt9 : Nat → Nat → Int) (pl9 : Int), w9 = ((od, aL g 1 (va_up o 0 (w32 (((tn : Int) + 1))))) :: wTp g r qn qt qv kn kt9 kv sc ns (va_up tx tn v) (tn + 1) pl9)) := by
  refine CW.intro (L0 := [(0, .ref (r 0)), (1, .int (iI v)), (2, .ref od)]) (own := RL) (by decide) rfl (Nat.le_of_ble_eq_true rfl) rfl ?_
  intro pX eX sX mX argsX belowX methX cX A C hr hlk hnt
  refine J.vx ?_
  refine j_aload_n C 2 dL_append_0 rfl rfl ?_
  refine j_iconst C dL_append_1 ?_
  refine j_aload_n C 0 dL_append_2 rfl rfl ?_
  refine j_iload_n C 1 dL_append_3 rfl rfl ?_
  refine j_callV (As := [.int (iI v)]) (rest := [.int (iI 0), .ref od]) C yv_X4_append qw638 (c_X4_append l g r qn qt qv kn kt kv sc ns tx tn pl v hT hv hn9) (by decide) 1 rfl rfl rfl dL_append_4 rfl (Nat.le_of_ble_eq_true rfl) (by decide) (pfL [(od, aL g 1 o)]) rfl (fun r9 w9 hq9 => ?_)
  obtain ⟨rfl, rfl⟩ := hq9
  refine J.to (L1 := [(0, .ref (r 0)), (1, .int (iI v)), (2, .ref od)]) (S1 := [.int (iI (((tn : Int) + 1))), .int (iI 0), .ref od]) (ws1 := ((od, aL g 1 (o)) :: wTp g r qn qt qv kn kt kv sc ns (va_up tx tn v) (tn + 1) pl)) rfl rfl rfl ?_
  refine j_i2lw C dL_append_7 ?_
  refine j_last (ws1 := ((od, aL g 1 (va_up o 0 (w32 (((tn : Int) + 1))))) :: wTp g r qn qt qv kn kt kv sc ns (va_up tx tn v) (tn + 1) pl)) C 0 0 rfl rfl (by decide) (by decide) dL_append_8 rfl ?_
  refine j_goto (tgt := 18) C dL_append_9 (by decide) ?_
  refine j_iconst C dL_append_18 ?_
  exact j_iret C hr hlk dL_append_19 ⟨rfl, kt, pl, rfl⟩ (by decide) (by decide)
theorem w_append_1 (l : Launch) (hl : l.stackTraces = false) (g : Gh) (r : Nat → Nat) (qn qt : Nat → Nat) (qv : Nat → Nat → Nat) (kn kt : Nat → Nat → Int) (kv : Nat → Nat → Nat → Int) (sc : Int) (ns : Nat) (tx : Nat → Int) (tn : Nat) (pl : Int) (od : Nat) (o : Nat → Int) (v : Int) (hT : TOK kn kv sc ns tx tn) (hrv : -2147483648 ≤ v ∧ v < 2147483648) (hv : v < 0 ∨ 127 < v) : CW l g yL_append cL_append 4 (some FieldType.int) [(0, 9, 12, 15), (0, 9, 15, 24)] ({ frames := 8, cells := 1, slots := 6, locals := 143 }) [.ref (r 0), .int (iI v), .ref od] ((od, aL g 1 o) :: wTp g r qn qt qv kn kt kv sc ns tx tn pl) (fun r9 w9 => r9 = some (.int (iI 1)) ∧ ∃ (kt9 : Nat → Nat → Int) (pl9 : Int), w9 = ((od, aL g 1 (o)) :: wTp g r qn qt qv kn kt9 kv sc ns tx tn pl9)) := by
  refine CW.intro (L0 := [(0, .ref (r 0)), (1, .int (iI v)), (2, .ref od)]) (own := RL) (by decide) rfl (Nat.le_of_ble_eq_true rfl) rfl ?_
  intro pX eX sX mX argsX belowX methX cX A C hr hlk hnt
  refine J.vx ?_
  refine j_aload_n C 2 dL_append_0 rfl rfl ?_
  refine j_iconst C dL_append_1 ?_
  refine j_aload_n C 0 dL_append_2 rfl rfl ?_
  refine j_iload_n C 1 dL_append_3 rfl rfl ?_
  refine j_callVC (As := [.int (iI v)]) (rest := [.int (iI 0), .ref od]) C yv_X4_append qw638 (x_X4_append_1 l hl g r qn qt qv kn kt kv sc ns tx tn pl v hT hrv hv) (by decide) 1 rfl rfl rfl dL_append_4 rfl (Nat.le_of_ble_eq_true rfl) (by decide) (pfL [(od, aL g 1 o)]) rfl (name := "java/lang/IllegalArgumentException") [] [⟨0, 9, 15, 24⟩] ⟨0, 9, 12, 15⟩ hnt (fun z hz => absurd hz List.not_mem_nil) (by decide) (by decide) qw432 qn325 (fun w9 q9 hq9 => ?_)
  subst hq9
  refine J.to (L1 := [(0, .ref (r 0)), (1, .int (iI v)), (2, .ref od)]) (S1 := [.ref q9]) (ws1 := ((od, aL g 1 (o)) :: wTp g r qn qt qv kn kt kv sc ns tx tn pl)) rfl rfl rfl ?_
  refine j_astore_n (L1 := [(3, .ref q9), (0, .ref (r 0)), (1, .int (iI v)), (2, .ref od)]) C dL_append_12 rfl (by decide) rfl ?_
  refine j_iconst C dL_append_13 ?_
  exact j_iret C hr hlk dL_append_14 ⟨rfl, kt, pl, rfl⟩ (by decide) (by decide)
theorem w_append_2 (l : Launch) (hl : l.stackTraces = false) (g : Gh) (r : Nat → Nat) (qn qt : Nat → Nat) (qv : Nat → Nat → Nat) (kn kt : Nat → Nat → Int) (kv : Nat → Nat → Nat → Int) (sc : Int) (ns : Nat) (tx : Nat → Int) (tn : Nat) (pl : Int) (od : Nat) (o : Nat → Int) (v : Int) (hT : TOK kn kv sc ns tx tn) (hv : 0 ≤ v ∧ v ≤ 127) (hn9 : tn = 60) : CW l g yL_append cL_append 4 (some FieldType.int) [(0, 9, 12, 15), (0, 9, 15, 24)] ({ frames := 8, cells := 1, slots := 6, locals := 143 }) [.ref (r 0), .int (iI v), .ref od] ((od, aL g 1 o) :: wTp g r qn qt qv kn kt kv sc ns tx tn pl) (fun r9 w9 => r9 = some (.int (iI 2)) ∧ ∃ (kt9 : Nat → Nat → Int) (pl9 : Int), w9 = ((od, aL g 1 (o)) :: wTp g r qn qt qv kn kt9 kv sc ns tx tn pl9)) := by
  refine CW.intro (L0 := [(0, .ref (r 0)), (1, .int (iI v)), (2, .ref od)]) (own := RL) (by decide) rfl (Nat.le_of_ble_eq_true rfl) rfl ?_
  intro pX eX sX mX argsX belowX methX cX A C hr hlk hnt
  refine J.vx ?_
  refine j_aload_n C 2 dL_append_0 rfl rfl ?_
  refine j_iconst C dL_append_1 ?_
  refine j_aload_n C 0 dL_append_2 rfl rfl ?_
  refine j_iload_n C 1 dL_append_3 rfl rfl ?_
  refine j_callVC (As := [.int (iI v)]) (rest := [.int (iI 0), .ref od]) C yv_X4_append qw638 (x_X4_append_2 l hl g r qn qt qv kn kt kv sc ns tx tn pl v hT hv hn9) (by decide) 1 rfl rfl rfl dL_append_4 rfl (Nat.le_of_ble_eq_true rfl) (by decide) (pfL [(od, aL g 1 o)]) rfl (name := "java/lang/IllegalStateException") [⟨0, 9, 12, 15⟩] [] ⟨0, 9, 15, 24⟩ hnt (fun z hz => by rcases List.mem_singleton.mp hz with rfl; exact Or.inr ⟨by decide, "java/lang/IllegalArgumentException", C.2.2.2.2.1 _ qw432, C.2.2.2.2.2.1.2.2.1 ("java/lang/IllegalStateException", "java/lang/IllegalArgumentException") (List.mem_of_getElem? (i := 2) rfl)⟩) (by decide) (by decide) qw453 qn465 (fun w9 q9 hq9 => ?_)
  subst hq9
  refine J.to (L1 := [(0, .ref (r 0)), (1, .int (iI v)), (2, .ref od)]) (S1 := [.ref q9]) (ws1 := ((od, aL g 1 (o)) :: wTp g r qn qt qv kn kt kv sc ns tx tn pl)) rfl rfl rfl ?_
  refine j_astore_n (L1 := [(3, .ref q9), (0, .ref (r 0)), (1, .int (iI v)), (2, .ref od)]) C dL_append_15 rfl (by decide) rfl ?_
  refine j_iconst C dL_append_16 ?_
  exact j_iret C hr hlk dL_append_17 ⟨rfl, kt, pl, rfl⟩ (by decide) (by decide)
theorem yw_L_undo : YW yL_undo RL cL_undo 3 (some FieldType.int) [(0, 8, 11, 24)] 2 := ⟨qw645, qw0, qw646, rfl, ⟨by decide +kernel, by decide +kernel⟩, by decide +kernel⟩
theorem w_undo_0 (l : Launch) (g : Gh) (r : Nat → Nat) (qn qt : Nat → Nat) (qv : Nat → Nat → Nat) (kn kt : Nat → Nat → Int) (kv : Nat → Nat → Nat → Int) (sc : Int) (ns : Nat) (tx : Nat → Int) (tn : Nat) (pl : Int) (od : Nat) (o : Nat → Int) (hsc : 0 < sc ∧ sc ≤ 4) (hns : ns < 4) : CW l g yL_undo cL_undo 3 (some FieldType.int) [(0, 8, 11, 24)] ({ frames := 4, cells := 0, slots := 0, locals := 85 }) [.ref (r 0), .ref od] ((od, aL g 1 o) :: wTp g r qn qt qv kn kt kv sc ns tx tn pl) (fun r9 w9 => r9 = some (.int (iI 0)) ∧ ∃ (kt9 : Nat → Nat → Int) (pl9 : Int), w9 = ((od, aL g 1 (va_up o 0 (w32 ((sc - 1))))) :: wTp g r qn qt qv (cpS (kv ((ns + 3) % 4)) kn) kt9 kv (sc - 1) ((ns + 3) % 4) tx tn pl9)) := by
  refine CW.intro (L0 := [(0, .ref (r 0)), (1, .ref od)]) (own := RL) (by decide) rfl (Nat.le_of_ble_eq_true rfl) rfl ?_
  intro pX eX sX mX argsX belowX methX cX A C hr hlk hnt
  refine J.vx ?_
  refine j_aload_n C 1 dL_undo_0 rfl rfl ?_
  refine j_iconst C dL_undo_1 ?_
  refine j_aload_n C 0 dL_undo_2 rfl rfl ?_
  refine j_callV (As := []) (rest := [.int (iI 0), .ref od]) C yv_X4_undo qw647 (c_X4_undo l g r qn qt qv kn kt kv sc ns tx tn pl hsc hns) (by decide) 1 rfl rfl rfl dL_undo_3 rfl (Nat.le_of_ble_eq_true rfl) (by decide) (pfL [(od, aL g 1 o)]) rfl (fun r9 w9 hq9 => ?_)
  obtain ⟨rfl, rfl⟩ := hq9
  refine J.to (L1 := [(0, .ref (r 0)), (1, .ref od)]) (S1 := [.int (iI ((sc - 1))), .int (iI 0), .ref od]) (ws1 := ((od, aL g 1 (o)) :: wTp g r qn qt qv (cpS (kv ((ns + 3) % 4)) kn) kt kv (sc - 1) ((ns + 3) % 4) tx tn pl)) rfl rfl rfl ?_
  refine j_i2lw C dL_undo_6 ?_
  refine j_last (ws1 := ((od, aL g 1 (va_up o 0 (w32 ((sc - 1))))) :: wTp g r qn qt qv (cpS (kv ((ns + 3) % 4)) kn) kt kv (sc - 1) ((ns + 3) % 4) tx tn pl)) C 0 0 rfl rfl (by decide) (by decide) dL_undo_7 rfl ?_
  refine j_goto (tgt := 14) C dL_undo_8 (by decide) ?_
  refine j_iconst C dL_undo_14 ?_
  exact j_iret C hr hlk dL_undo_15 ⟨rfl, kt, pl, rfl⟩ (by decide) (by decide)
theorem w_undo_1 (l : Launch) (hl : l.stackTraces = false) (g : Gh) (r : Nat → Nat) (qn qt : Nat → Nat) (qv : Nat → Nat → Nat) (kn kt : Nat → Nat → Int) (kv : Nat → Nat → Nat → Int) (sc : Int) (ns : Nat) (tx : Nat → Int) (tn : Nat) (pl : Int) (od : Nat) (o : Nat → Int) (hT : TOK kn kv sc ns tx tn) (hs0 : sc = 0) : CW l g yL_undo cL_undo 3 (some FieldType.int) [(0, 8, 11, 24)] ({ frames := 7, cells := 1, slots := 6, locals := 121 }) [.ref (r 0), .ref od] ((od, aL g 1 o) :: wTp g r qn qt qv kn kt kv sc ns tx tn pl) (fun r9 w9 => r9 = some (.int (iI 1)) ∧ ∃ (kt9 : Nat → Nat → Int) (pl9 : Int), w9 = ((od, aL g 1 (o)) :: wTp g r qn qt qv kn kt9 kv sc ns tx tn pl9)) := by
  refine CW.intro (L0 := [(0, .ref (r 0)), (1, .ref od)]) (own := RL) (by decide) rfl (Nat.le_of_ble_eq_true rfl) rfl ?_
  intro pX eX sX mX argsX belowX methX cX A C hr hlk hnt
  refine J.vx ?_
  refine j_aload_n C 1 dL_undo_0 rfl rfl ?_
  refine j_iconst C dL_undo_1 ?_
  refine j_aload_n C 0 dL_undo_2 rfl rfl ?_
  refine j_callVC (As := []) (rest := [.int (iI 0), .ref od]) C yv_X4_undo qw647 (x_X4_undo_1 l hl g r qn qt qv kn kt kv sc ns tx tn pl hT hs0) (by decide) 1 rfl rfl rfl dL_undo_3 rfl (Nat.le_of_ble_eq_true rfl) (by decide) (pfL [(od, aL g 1 o)]) rfl (name := "java/lang/IllegalStateException") [] [] ⟨0, 8, 11, 24⟩ hnt (fun z hz => absurd hz List.not_mem_nil) (by decide) (by decide) qw453 qn465 (fun w9 q9 hq9 => ?_)
  subst hq9
  refine J.to (L1 := [(0, .ref (r 0)), (1, .ref od)]) (S1 := [.ref q9]) (ws1 := ((od, aL g 1 (o)) :: wTp g r qn qt qv kn kt kv sc ns tx tn pl)) rfl rfl rfl ?_
  refine j_astore_n (L1 := [(2, .ref q9), (0, .ref (r 0)), (1, .ref od)]) C dL_undo_11 rfl (by decide) rfl ?_
  refine j_iconst C dL_undo_12 ?_
  exact j_iret C hr hlk dL_undo_13 ⟨rfl, kt, pl, rfl⟩ (by decide) (by decide)
