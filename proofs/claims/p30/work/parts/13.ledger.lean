/-! floorMod; RopeTackle.Ledger -/
section JFM
variable {p : Program} {l : Launch} {e : Env} {R : Room} {s : State} {m : MethodId} {args : Array Value} {below : List Frame} {meth : Method} {c : Code} {g : Gh} {A : Nat → Prop} {cc : ByteArray} {nL : Nat} {own : String} {pc : Nat} {L : List (Nat × Value)} {S : List Value} {ws : va_W} {cells slots : Nat} {Q : State → Prop}
theorem j_irem (C : Cx p g s m args c cc nL own A) {x y : Int} (hx : -2147483648 ≤ x ∧ x < 2147483648) (hy : 0 < y ∧ y < 2147483648) (hd : decode cc pc = .ok (.irem, 1)) (kk : J p l e R s m args below meth c g A nL (pc + 1) L (.int (iI (x.tmod y)) :: S) ws cells slots Q) : J p l e R s m args below meth c g A nL pc L (.int (iI y) :: .int (iI x) :: S) ws cells slots Q := by
  intro H locs ls hP hD hS h
  refine lv_irem C.1 C.2.1 hd (fun h0 => ?_) ?_
  · rw [← iI_0, iI_eq (by omega) (by omega)] at h0; omega
  have hb9 := tmod_bounds (a := x) (M := y) hy.1
  have e9 : iI (x.tmod y) = iI x - iI x / iI y * iI y := by
    apply Int32.toInt_inj.mp
    rw [rem_toInt, iI_toInt (by omega), iI_toInt (by omega), iI_toInt (by omega)]
  rw [← e9]
  exact kk H locs ls hP hD hS h
theorem xor_ge {a b : Int32} (hb : 0 ≤ b.toInt) : 0 ≤ a ^^^ b ↔ 0 ≤ a := by
  rw [Int32.le_iff_toInt_le, Int32.le_iff_toInt_le]
  show (0 : Int) ≤ (a ^^^ b).toBitVec.toInt ↔ (0 : Int) ≤ a.toBitVec.toInt
  rw [Int32.toBitVec_xor]
  have hb1 : b.toBitVec.msb = false := by rw [BitVec.msb_eq_toInt]; exact decide_eq_false (by show ¬ b.toInt < 0; omega)
  have h1 : (a.toBitVec ^^^ b.toBitVec).msb = a.toBitVec.msb := by rw [BitVec.msb_xor, hb1]; simp
  rw [BitVec.msb_eq_toInt, BitVec.msb_eq_toInt] at h1
  have h2 := decide_eq_decide.mp h1
  omega
theorem j_ixor_ge (C : Cx p g s m args c cc nL own A) {x y off : Int} {tgt : Nat} (hx : -2147483648 ≤ x ∧ x < 2147483648) (hy : 0 ≤ y ∧ y < 2147483648) (hd : decode cc pc = .ok (.ixor, 1)) (hd2 : decode cc (pc + 1) = .ok (.ifCond .ge off, 3)) (ht : ((pc + 1 : Nat) : Int) + off = (tgt : Int)) (kt : 0 ≤ x → J p l e R s m args below meth c g A nL tgt L S ws cells slots Q) (kf : x < 0 → J p l e R s m args below meth c g A nL (pc + 4) L S ws cells slots Q) : J p l e R s m args below meth c g A nL pc L (.int (iI y) :: .int (iI x) :: S) ws cells slots Q := by
  intro H locs ls hP hD hS h
  refine lv_ixor C.1 C.2.1 hd ?_
  have e9 : 0 ≤ iI x ^^^ iI y ↔ 0 ≤ x := by
    rw [xor_ge (by rw [iI_toInt (by omega)]; exact hy.1), ← iI_0, iI_le (by omega) hx]
  exact lv_if_ge C.1 C.2.1 hd2 ht (fun hc => kt (e9.mp hc) H locs ls hP hD hS h) (fun hc => kf (Int.not_le.mp (fun e => hc (e9.mpr e))) H locs ls hP hD hS h)
end JFM
theorem tmod_pos {x y : Int} (hx : 0 ≤ x) : x.tmod y = x % y := Int.tmod_eq_emod_of_nonneg hx
theorem tmod_neg {x y : Int} (hx : x < 0) : x.tmod y = -((-x) % y) := by
  have e : x.tmod y = -((-x).tmod y) := by rw [Int.neg_tmod, Int.neg_neg]
  rw [e, Int.tmod_eq_emod_of_nonneg (by omega)]
theorem Met.ofWF {l : Launch} {y : MethodName} {ws ws' : List Cond} {rm : Room} {Pc : Array Value → State → Prop} {Qc : Array Value → State → Outcome → State → Prop} {mc ms : Nat} {free : Addr → Prop} {cc : ByteArray} {maxL : Nat} {ret : Option FieldType}
    (hy : plainFor y = true) (hw : ws = Cond.code y cc maxL ret :: ws')
    (body : ∀ p e s m args below meth c s₁, BodyLoose p l y (headSpec ws rm) cc maxL ret e s m args below meth c s₁ → c.maxLocals = maxL → Pc args s →
      W p l e (headSpec ws rm).room s m args below meth c s.heap [] 0 0 (MQ below Qc args s mc ms free) (entryFrame m args maxL)) : Met l y ws rm Pc Qc mc ms free := by
  refine MetFree.of_bodySF (code := cc) (maxLocals := maxL) (ret := ret) hy ?_ ?_
  · intro args s m h hn
    obtain ⟨meth, c, h1, h2, h3, h4, h5, h6, -, -⟩ := Cond.code_spec hn (atoms_spec (ws := ws) h _ (by rw [hw]; exact List.mem_cons_self))
    exact ⟨meth, c, h1, h2, h3, h4, h5, h6⟩
  · intro p e s m args below meth c s₁ B hml hP _
    have hh0 : s₁.heap = s.heap := by rw [B.state]; rfl
    obtain ⟨t, a1, o, b1, b2, b3⟩ := body p e s m args below meth c s₁ B hml hP s₁ hh0 (Stand.of_body B)
    exact ⟨t, o, a1, b1, b2, ⟨b3.1, b3.2⟩⟩
theorem CT.introF {l : Launch} {g : Gh} {y : MethodName} {cc : ByteArray} {nL : Nat} {ret : Option FieldType} {rm : Room} {av : List Value} {w : va_W} {Post : Option Value → va_W → Prop} {own : String} {L0 : List (Nat × Value)} (hy : plainFor y = true) (hown : y.cls = own) (hfit : (lg_sl av).length ≤ nL) (hL : lv_args 0 av = L0)
    (body : ∀ (p : Program) (e : Env) (s : State) (m : MethodId) (args : Array Value) (below : List Frame) (meth : Method) (c : Code) (A : Nat → Prop), Cx p g s m args c cc nL own A → meth.sig.returnType = ret → meth.locks = false → J p l e rm s m args below meth c g A nL 0 L0 [] w 0 0 (MQ below (QE g A Post) args s rm.cells rm.slots A)) : CT l g y cc nL ret rm av w Post := by
  intro sz
  subst hown; subst hL
  refine Met.ofWF (cc := cc) (maxL := nL) (ret := ret) hy rfl ?_
  intro p e s m args below meth c s₁ B hml hv
  obtain ⟨rfl, hsz, hP, hK, hD0, hN, hX⟩ := hv
  subst hsz
  have hts := atoms_spec (ws := Cond.code y cc nL ret :: wAll) B.pre
  have C0 : Cx p g s m av.toArray c cc nL y.cls (va_A w s.heap.size) := ⟨B.exec, B.bytes, hml, findClass_of_methodNamed B.named, fun w h => hts w (List.mem_cons_of_mem _ h), hN, hK, fun q h => Or.inr h, hX⟩
  have hl := lv_entry av (n := nL) hfit
  rw [lg_entry_eq]
  exact body p e s m _ below meth c _ C0 B.returns B.notSynchronized s.heap [] _ hP (hD0.self (sz := s.heap.size)) va_S.rf hl
theorem c_J9_floorMod_7cf53 (l : Launch) (g : Gh) (x y : Int) (hx : -100 ≤ x ∧ x ≤ 100) (hy : y = 4 ∨ y = 16) : CT l g yJ9_floorMod_7cf53 cJ9_floorMod_7cf53 3 (some FieldType.int) ({ frames := 0, cells := 0, slots := 0, locals := 0 }) [.int (iI x), .int (iI y)] [] (PE (some (.int (iI (x % y)))) []) := by
  refine CT.introF (L0 := [(0, .int (iI x)), (1, .int (iI y))]) (own := RJ9) (by decide +kernel) rfl (Nat.le_of_ble_eq_true rfl) rfl ?_
  intro pX eX sX mX argsX belowX methX cX A C hr hlk
  have hb9 := tmod_bounds (a := x) (M := y) (by omega)
  refine j_iload_n C 0 dJ9_floorMod_7cf53_0 rfl rfl ?_
  refine j_iload_n C 1 dJ9_floorMod_7cf53_1 rfl rfl ?_
  refine j_irem C (by omega) (by omega) dJ9_floorMod_7cf53_2 ?_
  refine j_istore_n (L1 := [(2, .int (iI (x.tmod y))), (0, .int (iI x)), (1, .int (iI y))]) C dJ9_floorMod_7cf53_3 rfl (by decide) rfl ?_
  refine j_iload_n C 1 dJ9_floorMod_7cf53_4 rfl rfl ?_
  refine j_iload_n C 2 dJ9_floorMod_7cf53_5 rfl rfl ?_
  refine j_ixor_ge (tgt := 18) C (by omega) (by omega) dJ9_floorMod_7cf53_6 dJ9_floorMod_7cf53_7 (by decide) (fun c6 => ?_) (fun c6 => ?_)
  · refine j_iload_n C 0 dJ9_floorMod_7cf53_18 rfl rfl ?_
    exact j_iret C hr hlk dJ9_floorMod_7cf53_19 ⟨by rw [tmod_pos c6], rfl⟩ (by decide) (by decide)
  · refine j_iload_n C 0 dJ9_floorMod_7cf53_10 rfl rfl ?_
    refine j_if_eq (tgt := 18) C (by omega) dJ9_floorMod_7cf53_11 (by decide) (fun c11 => ?_) (fun c11 => ?_)
    · refine j_iload_n C 0 dJ9_floorMod_7cf53_18 rfl rfl ?_
      exact j_iret C hr hlk dJ9_floorMod_7cf53_19 ⟨by congr 3; rw [tmod_neg c6] at c11 ⊢; rcases hy with rfl | rfl <;> omega, rfl⟩ (by decide) (by decide)
    · refine j_iload_n C 0 dJ9_floorMod_7cf53_14 rfl rfl ?_
      refine j_iload_n C 2 dJ9_floorMod_7cf53_15 rfl rfl ?_
      refine j_iadd C dJ9_floorMod_7cf53_16 ?_
      exact j_iret C hr hlk dJ9_floorMod_7cf53_17 ⟨by congr 3; rw [tmod_neg c6] at c11 ⊢; rcases hy with rfl | rfl <;> omega, rfl⟩ (by decide) (by decide)

theorem c_X0_note_up (l : Launch) (g : Gh) (a b : Nat) (pt : Nat → Int) (lat kept ris snk put got : Int) (bl way rope : Int) (hlat : 0 ≤ lat ∧ lat ≤ 15) (hkept : 0 ≤ kept ∧ kept ≤ 16) (hway : 0 < way ∧ way ≤ 100000) : CT l g yX0_note cX0_note 4 none ({ frames := 1, cells := 0, slots := 0, locals := 22 }) [.ref a, .int (iI bl), .int (iI way), .int (iI rope)] [(a, .inr (0, [.ref b, .int (iI lat), .int (iI kept), .int (iI ris), .int (iI snk), .long (lI put), .long (lI got)])), (b, aI g 48 pt)] (PE none [(a, .inr (0, [.ref b, .int (iI ((lat + 1) % 16)), .int (iI (if 16 < kept + 1 then 16 else kept + 1)), .int (iI (ris + 1)), .int (iI snk), .long (lI put), .long (lI got)])), (b, aI g 48 (va_up (va_up (va_up pt ((lat + 1) % 16 * 3).toNat bl) ((lat + 1) % 16 * 3 + 1).toNat way) ((lat + 1) % 16 * 3 + 2).toNat rope))]) := by
  refine CT.intro (L0 := [(0, .ref a), (1, .int (iI bl)), (2, .int (iI way)), (3, .int (iI rope))]) (own := RX0) (by decide) rfl (Nat.le_of_ble_eq_true rfl) rfl ?_
  intro pX eX sX mX argsX belowX methX cX A C hr hlk
  refine j_iload_n C 2 dX0_note_0 rfl rfl ?_
  refine j_if_le (tgt := 17) C (by omega) dX0_note_1 (by decide) (fun c1 => absurd c1 (by omega)) (fun c1 => ?_)
  refine j_aload_n C 0 dX0_note_4 rfl rfl ?_
  refine j_dup C dX0_note_5 rfl ?_
  refine j_get C ck0 0 3 (by decide) qw62 rfl rfl dX0_note_6 ?_
  refine j_iconst C dX0_note_9 ?_
  refine j_iadd C dX0_note_10 ?_
  refine j_put (ws1 := [(a, .inr (0, [.ref b, .int (iI lat), .int (iI kept), .int (iI (ris + 1)), .int (iI snk), .long (lI put), .long (lI got)])), (b, aI g 48 pt)]) C ck0 0 3 (by decide) qw62 rfl dX0_note_11 rfl rfl rfl rfl (Nat.le_of_ble_eq_true rfl) ?_
  refine j_goto (tgt := 27) C dX0_note_14 (by decide) ?_
  refine j_aload_n C 0 dX0_note_27 rfl rfl ?_
  refine j_aload_n C 0 dX0_note_28 rfl rfl ?_
  refine j_get C ck0 0 1 (by decide) qw59 rfl rfl dX0_note_29 ?_
  refine j_iconst C dX0_note_32 ?_
  refine j_iadd C dX0_note_33 ?_
  refine j_bipush C dX0_note_34 (by decide) ?_
  refine j_callS (As := [.int (iI (lat + 1)), .int (iI 16)]) (rest := [.ref a]) C ys_J9_floorMod_7cf53 qw427 (c_J9_floorMod_7cf53 l g (lat + 1) 16 (by omega) (by decide)) (by decide) rfl dX0_note_36 rfl (Nat.le_of_ble_eq_true rfl) (by decide) (pf1 [] [(a, .inr (0, [.ref b, .int (iI lat), .int (iI kept), .int (iI (ris + 1)), .int (iI snk), .long (lI put), .long (lI got)])), (b, aI g 48 pt)]) rfl (fun r9 w9 hq9 => ?_)
  obtain ⟨rfl, rfl⟩ := hq9
  refine J.to (L1 := [(0, .ref a), (1, .int (iI bl)), (2, .int (iI way)), (3, .int (iI rope))]) (S1 := [.int (iI ((lat + 1) % 16)), .ref a]) (ws1 := [(a, .inr (0, [.ref b, .int (iI lat), .int (iI kept), .int (iI (ris + 1)), .int (iI snk), .long (lI put), .long (lI got)])), (b, aI g 48 pt)]) rfl rfl rfl ?_
  refine j_put (ws1 := [(a, .inr (0, [.ref b, .int (iI ((lat + 1) % 16)), .int (iI kept), .int (iI (ris + 1)), .int (iI snk), .long (lI put), .long (lI got)])), (b, aI g 48 pt)]) C ck0 0 1 (by decide) qw59 rfl dX0_note_39 rfl rfl rfl rfl (Nat.le_of_ble_eq_true rfl) ?_
  refine j_aload_n C 0 dX0_note_42 rfl rfl ?_
  refine j_get C ck0 0 0 (by decide) qw58 rfl rfl dX0_note_43 ?_
  refine j_aload_n C 0 dX0_note_46 rfl rfl ?_
  refine j_get C ck0 0 1 (by decide) qw59 rfl rfl dX0_note_47 ?_
  refine j_iconst C dX0_note_50 ?_
  refine j_imul C dX0_note_51 ?_
  refine j_iload_n C 1 dX0_note_52 rfl rfl ?_
  refine j_callSN (As := [.ref b, .int (iI (((lat + 1) % 16) * 3)), .int (iI bl)]) (rest := []) C ys_X4_put qn428 (c_X4_put l g b 48 pt (((lat + 1) % 16) * 3) ((((lat + 1) % 16) * 3).toNat) bl (by omega) (by omega) (by decide)) (by decide) rfl dX0_note_53 rfl (Nat.le_of_ble_eq_true rfl) (by decide) (pf1 [(a, .inr (0, [.ref b, .int (iI ((lat + 1) % 16)), .int (iI kept), .int (iI (ris + 1)), .int (iI snk), .long (lI put), .long (lI got)]))] []) rfl (fun r9 w9 hq9 => ?_)
  obtain ⟨rfl, rfl⟩ := hq9
  refine J.to (L1 := [(0, .ref a), (1, .int (iI bl)), (2, .int (iI way)), (3, .int (iI rope))]) (S1 := []) (ws1 := [(a, .inr (0, [.ref b, .int (iI ((lat + 1) % 16)), .int (iI kept), .int (iI (ris + 1)), .int (iI snk), .long (lI put), .long (lI got)])), (b, aI g 48 (va_up pt ((((lat + 1) % 16) * 3).toNat) bl))]) rfl rfl rfl ?_
  refine j_aload_n C 0 dX0_note_56 rfl rfl ?_
  refine j_get C ck0 0 0 (by decide) qw58 rfl rfl dX0_note_57 ?_
  refine j_aload_n C 0 dX0_note_60 rfl rfl ?_
  refine j_get C ck0 0 1 (by decide) qw59 rfl rfl dX0_note_61 ?_
  refine j_iconst C dX0_note_64 ?_
  refine j_imul C dX0_note_65 ?_
  refine j_iconst C dX0_note_66 ?_
  refine j_iadd C dX0_note_67 ?_
  refine j_iload_n C 2 dX0_note_68 rfl rfl ?_
  refine j_callSN (As := [.ref b, .int (iI ((((lat + 1) % 16) * 3) + 1)), .int (iI way)]) (rest := []) C ys_X4_put qn428 (c_X4_put l g b 48 (va_up pt ((((lat + 1) % 16) * 3).toNat) bl) ((((lat + 1) % 16) * 3) + 1) (((((lat + 1) % 16) * 3) + 1).toNat) way (by omega) (by omega) (by decide)) (by decide) rfl dX0_note_69 rfl (Nat.le_of_ble_eq_true rfl) (by decide) (pf1 [(a, .inr (0, [.ref b, .int (iI ((lat + 1) % 16)), .int (iI kept), .int (iI (ris + 1)), .int (iI snk), .long (lI put), .long (lI got)]))] []) rfl (fun r9 w9 hq9 => ?_)
  obtain ⟨rfl, rfl⟩ := hq9
  refine J.to (L1 := [(0, .ref a), (1, .int (iI bl)), (2, .int (iI way)), (3, .int (iI rope))]) (S1 := []) (ws1 := [(a, .inr (0, [.ref b, .int (iI ((lat + 1) % 16)), .int (iI kept), .int (iI (ris + 1)), .int (iI snk), .long (lI put), .long (lI got)])), (b, aI g 48 (va_up (va_up pt ((((lat + 1) % 16) * 3).toNat) bl) (((((lat + 1) % 16) * 3) + 1).toNat) way))]) rfl rfl rfl ?_
  refine j_aload_n C 0 dX0_note_72 rfl rfl ?_
  refine j_get C ck0 0 0 (by decide) qw58 rfl rfl dX0_note_73 ?_
  refine j_aload_n C 0 dX0_note_76 rfl rfl ?_
  refine j_get C ck0 0 1 (by decide) qw59 rfl rfl dX0_note_77 ?_
  refine j_iconst C dX0_note_80 ?_
  refine j_imul C dX0_note_81 ?_
  refine j_iconst C dX0_note_82 ?_
  refine j_iadd C dX0_note_83 ?_
  refine j_iload_n C 3 dX0_note_84 rfl rfl ?_
  refine j_callSN (As := [.ref b, .int (iI ((((lat + 1) % 16) * 3) + 2)), .int (iI rope)]) (rest := []) C ys_X4_put qn428 (c_X4_put l g b 48 (va_up (va_up pt ((((lat + 1) % 16) * 3).toNat) bl) (((((lat + 1) % 16) * 3) + 1).toNat) way) ((((lat + 1) % 16) * 3) + 2) (((((lat + 1) % 16) * 3) + 2).toNat) rope (by omega) (by omega) (by decide)) (by decide) rfl dX0_note_85 rfl (Nat.le_of_ble_eq_true rfl) (by decide) (pf1 [(a, .inr (0, [.ref b, .int (iI ((lat + 1) % 16)), .int (iI kept), .int (iI (ris + 1)), .int (iI snk), .long (lI put), .long (lI got)]))] []) rfl (fun r9 w9 hq9 => ?_)
  obtain ⟨rfl, rfl⟩ := hq9
  refine J.to (L1 := [(0, .ref a), (1, .int (iI bl)), (2, .int (iI way)), (3, .int (iI rope))]) (S1 := []) (ws1 := [(a, .inr (0, [.ref b, .int (iI ((lat + 1) % 16)), .int (iI kept), .int (iI (ris + 1)), .int (iI snk), .long (lI put), .long (lI got)])), (b, aI g 48 (va_up (va_up (va_up pt ((((lat + 1) % 16) * 3).toNat) bl) (((((lat + 1) % 16) * 3) + 1).toNat) way) (((((lat + 1) % 16) * 3) + 2).toNat) rope))]) rfl rfl rfl ?_
  refine j_aload_n C 0 dX0_note_88 rfl rfl ?_
  refine j_aload_n C 0 dX0_note_89 rfl rfl ?_
  refine j_get C ck0 0 2 (by decide) qw60 rfl rfl dX0_note_90 ?_
  refine j_iconst C dX0_note_93 ?_
  refine j_iadd C dX0_note_94 ?_
  refine j_bipush C dX0_note_95 (by decide) ?_
  refine j_mmin C (by omega) (by decide) qw429 qw_min1 qw_min2 qw_min3 (by decide) (Nat.le_of_ble_eq_true rfl) (by decide) dX0_note_97 ?_
  refine j_put (ws1 := [(a, .inr (0, [.ref b, .int (iI ((lat + 1) % 16)), .int (iI (if 16 < kept + 1 then 16 else kept + 1)), .int (iI (ris + 1)), .int (iI snk), .long (lI put), .long (lI got)])), (b, aI g 48 (va_up (va_up (va_up pt ((((lat + 1) % 16) * 3).toNat) bl) (((((lat + 1) % 16) * 3) + 1).toNat) way) (((((lat + 1) % 16) * 3) + 2).toNat) rope))]) C ck0 0 2 (by decide) qw60 rfl dX0_note_100 rfl rfl rfl rfl (Nat.le_of_ble_eq_true rfl) ?_
  exact j_vret C hr hlk dX0_note_103 ⟨rfl, rfl⟩ (by decide) (by decide)

theorem c_X0_note_dn (l : Launch) (g : Gh) (a b : Nat) (pt : Nat → Int) (lat kept ris snk put got : Int) (bl way rope : Int) (hlat : 0 ≤ lat ∧ lat ≤ 15) (hkept : 0 ≤ kept ∧ kept ≤ 16) (hway : -100000 ≤ way ∧ way ≤ 0) : CT l g yX0_note cX0_note 4 none ({ frames := 1, cells := 0, slots := 0, locals := 22 }) [.ref a, .int (iI bl), .int (iI way), .int (iI rope)] [(a, .inr (0, [.ref b, .int (iI lat), .int (iI kept), .int (iI ris), .int (iI snk), .long (lI put), .long (lI got)])), (b, aI g 48 pt)] (PE none [(a, .inr (0, [.ref b, .int (iI ((lat + 1) % 16)), .int (iI (if 16 < kept + 1 then 16 else kept + 1)), .int (iI ris), .int (iI (snk + 1)), .long (lI put), .long (lI got)])), (b, aI g 48 (va_up (va_up (va_up pt ((lat + 1) % 16 * 3).toNat bl) ((lat + 1) % 16 * 3 + 1).toNat way) ((lat + 1) % 16 * 3 + 2).toNat rope))]) := by
  refine CT.intro (L0 := [(0, .ref a), (1, .int (iI bl)), (2, .int (iI way)), (3, .int (iI rope))]) (own := RX0) (by decide) rfl (Nat.le_of_ble_eq_true rfl) rfl ?_
  intro pX eX sX mX argsX belowX methX cX A C hr hlk
  refine j_iload_n C 2 dX0_note_0 rfl rfl ?_
  refine j_if_le (tgt := 17) C (by omega) dX0_note_1 (by decide) (fun c1 => ?_) (fun c1 => absurd c1 (by omega))
  refine j_aload_n C 0 dX0_note_17 rfl rfl ?_
  refine j_dup C dX0_note_18 rfl ?_
  refine j_get C ck0 0 4 (by decide) qw64 rfl rfl dX0_note_19 ?_
  refine j_iconst C dX0_note_22 ?_
  refine j_iadd C dX0_note_23 ?_
  refine j_put (ws1 := [(a, .inr (0, [.ref b, .int (iI lat), .int (iI kept), .int (iI ris), .int (iI (snk + 1)), .long (lI put), .long (lI got)])), (b, aI g 48 pt)]) C ck0 0 4 (by decide) qw64 rfl dX0_note_24 rfl rfl rfl rfl (Nat.le_of_ble_eq_true rfl) ?_
  refine j_aload_n C 0 dX0_note_27 rfl rfl ?_
  refine j_aload_n C 0 dX0_note_28 rfl rfl ?_
  refine j_get C ck0 0 1 (by decide) qw59 rfl rfl dX0_note_29 ?_
  refine j_iconst C dX0_note_32 ?_
  refine j_iadd C dX0_note_33 ?_
  refine j_bipush C dX0_note_34 (by decide) ?_
  refine j_callS (As := [.int (iI (lat + 1)), .int (iI 16)]) (rest := [.ref a]) C ys_J9_floorMod_7cf53 qw427 (c_J9_floorMod_7cf53 l g (lat + 1) 16 (by omega) (by decide)) (by decide) rfl dX0_note_36 rfl (Nat.le_of_ble_eq_true rfl) (by decide) (pf1 [] [(a, .inr (0, [.ref b, .int (iI lat), .int (iI kept), .int (iI ris), .int (iI (snk + 1)), .long (lI put), .long (lI got)])), (b, aI g 48 pt)]) rfl (fun r9 w9 hq9 => ?_)
  obtain ⟨rfl, rfl⟩ := hq9
  refine J.to (L1 := [(0, .ref a), (1, .int (iI bl)), (2, .int (iI way)), (3, .int (iI rope))]) (S1 := [.int (iI ((lat + 1) % 16)), .ref a]) (ws1 := [(a, .inr (0, [.ref b, .int (iI lat), .int (iI kept), .int (iI ris), .int (iI (snk + 1)), .long (lI put), .long (lI got)])), (b, aI g 48 pt)]) rfl rfl rfl ?_
  refine j_put (ws1 := [(a, .inr (0, [.ref b, .int (iI ((lat + 1) % 16)), .int (iI kept), .int (iI ris), .int (iI (snk + 1)), .long (lI put), .long (lI got)])), (b, aI g 48 pt)]) C ck0 0 1 (by decide) qw59 rfl dX0_note_39 rfl rfl rfl rfl (Nat.le_of_ble_eq_true rfl) ?_
  refine j_aload_n C 0 dX0_note_42 rfl rfl ?_
  refine j_get C ck0 0 0 (by decide) qw58 rfl rfl dX0_note_43 ?_
  refine j_aload_n C 0 dX0_note_46 rfl rfl ?_
  refine j_get C ck0 0 1 (by decide) qw59 rfl rfl dX0_note_47 ?_
  refine j_iconst C dX0_note_50 ?_
  refine j_imul C dX0_note_51 ?_
  refine j_iload_n C 1 dX0_note_52 rfl rfl ?_
  refine j_callSN (As := [.ref b, .int (iI (((lat + 1) % 16) * 3)), .int (iI bl)]) (rest := []) C ys_X4_put qn428 (c_X4_put l g b 48 pt (((lat + 1) % 16) * 3) ((((lat + 1) % 16) * 3).toNat) bl (by omega) (by omega) (by decide)) (by decide) rfl dX0_note_53 rfl (Nat.le_of_ble_eq_true rfl) (by decide) (pf1 [(a, .inr (0, [.ref b, .int (iI ((lat + 1) % 16)), .int (iI kept), .int (iI ris), .int (iI (snk + 1)), .long (lI put), .long (lI got)]))] []) rfl (fun r9 w9 hq9 => ?_)
  obtain ⟨rfl, rfl⟩ := hq9
  refine J.to (L1 := [(0, .ref a), (1, .int (iI bl)), (2, .int (iI way)), (3, .int (iI rope))]) (S1 := []) (ws1 := [(a, .inr (0, [.ref b, .int (iI ((lat + 1) % 16)), .int (iI kept), .int (iI ris), .int (iI (snk + 1)), .long (lI put), .long (lI got)])), (b, aI g 48 (va_up pt ((((lat + 1) % 16) * 3).toNat) bl))]) rfl rfl rfl ?_
  refine j_aload_n C 0 dX0_note_56 rfl rfl ?_
  refine j_get C ck0 0 0 (by decide) qw58 rfl rfl dX0_note_57 ?_
  refine j_aload_n C 0 dX0_note_60 rfl rfl ?_
  refine j_get C ck0 0 1 (by decide) qw59 rfl rfl dX0_note_61 ?_
  refine j_iconst C dX0_note_64 ?_
  refine j_imul C dX0_note_65 ?_
  refine j_iconst C dX0_note_66 ?_
  refine j_iadd C dX0_note_67 ?_
  refine j_iload_n C 2 dX0_note_68 rfl rfl ?_
  refine j_callSN (As := [.ref b, .int (iI ((((lat + 1) % 16) * 3) + 1)), .int (iI way)]) (rest := []) C ys_X4_put qn428 (c_X4_put l g b 48 (va_up pt ((((lat + 1) % 16) * 3).toNat) bl) ((((lat + 1) % 16) * 3) + 1) (((((lat + 1) % 16) * 3) + 1).toNat) way (by omega) (by omega) (by decide)) (by decide) rfl dX0_note_69 rfl (Nat.le_of_ble_eq_true rfl) (by decide) (pf1 [(a, .inr (0, [.ref b, .int (iI ((lat + 1) % 16)), .int (iI kept), .int (iI ris), .int (iI (snk + 1)), .long (lI put), .long (lI got)]))] []) rfl (fun r9 w9 hq9 => ?_)
  obtain ⟨rfl, rfl⟩ := hq9
  refine J.to (L1 := [(0, .ref a), (1, .int (iI bl)), (2, .int (iI way)), (3, .int (iI rope))]) (S1 := []) (ws1 := [(a, .inr (0, [.ref b, .int (iI ((lat + 1) % 16)), .int (iI kept), .int (iI ris), .int (iI (snk + 1)), .long (lI put), .long (lI got)])), (b, aI g 48 (va_up (va_up pt ((((lat + 1) % 16) * 3).toNat) bl) (((((lat + 1) % 16) * 3) + 1).toNat) way))]) rfl rfl rfl ?_
  refine j_aload_n C 0 dX0_note_72 rfl rfl ?_
  refine j_get C ck0 0 0 (by decide) qw58 rfl rfl dX0_note_73 ?_
  refine j_aload_n C 0 dX0_note_76 rfl rfl ?_
  refine j_get C ck0 0 1 (by decide) qw59 rfl rfl dX0_note_77 ?_
  refine j_iconst C dX0_note_80 ?_
  refine j_imul C dX0_note_81 ?_
  refine j_iconst C dX0_note_82 ?_
  refine j_iadd C dX0_note_83 ?_
  refine j_iload_n C 3 dX0_note_84 rfl rfl ?_
  refine j_callSN (As := [.ref b, .int (iI ((((lat + 1) % 16) * 3) + 2)), .int (iI rope)]) (rest := []) C ys_X4_put qn428 (c_X4_put l g b 48 (va_up (va_up pt ((((lat + 1) % 16) * 3).toNat) bl) (((((lat + 1) % 16) * 3) + 1).toNat) way) ((((lat + 1) % 16) * 3) + 2) (((((lat + 1) % 16) * 3) + 2).toNat) rope (by omega) (by omega) (by decide)) (by decide) rfl dX0_note_85 rfl (Nat.le_of_ble_eq_true rfl) (by decide) (pf1 [(a, .inr (0, [.ref b, .int (iI ((lat + 1) % 16)), .int (iI kept), .int (iI ris), .int (iI (snk + 1)), .long (lI put), .long (lI got)]))] []) rfl (fun r9 w9 hq9 => ?_)
  obtain ⟨rfl, rfl⟩ := hq9
  refine J.to (L1 := [(0, .ref a), (1, .int (iI bl)), (2, .int (iI way)), (3, .int (iI rope))]) (S1 := []) (ws1 := [(a, .inr (0, [.ref b, .int (iI ((lat + 1) % 16)), .int (iI kept), .int (iI ris), .int (iI (snk + 1)), .long (lI put), .long (lI got)])), (b, aI g 48 (va_up (va_up (va_up pt ((((lat + 1) % 16) * 3).toNat) bl) (((((lat + 1) % 16) * 3) + 1).toNat) way) (((((lat + 1) % 16) * 3) + 2).toNat) rope))]) rfl rfl rfl ?_
  refine j_aload_n C 0 dX0_note_88 rfl rfl ?_
  refine j_aload_n C 0 dX0_note_89 rfl rfl ?_
  refine j_get C ck0 0 2 (by decide) qw60 rfl rfl dX0_note_90 ?_
  refine j_iconst C dX0_note_93 ?_
  refine j_iadd C dX0_note_94 ?_
  refine j_bipush C dX0_note_95 (by decide) ?_
  refine j_mmin C (by omega) (by decide) qw429 qw_min1 qw_min2 qw_min3 (by decide) (Nat.le_of_ble_eq_true rfl) (by decide) dX0_note_97 ?_
  refine j_put (ws1 := [(a, .inr (0, [.ref b, .int (iI ((lat + 1) % 16)), .int (iI (if 16 < kept + 1 then 16 else kept + 1)), .int (iI ris), .int (iI (snk + 1)), .long (lI put), .long (lI got)])), (b, aI g 48 (va_up (va_up (va_up pt ((((lat + 1) % 16) * 3).toNat) bl) (((((lat + 1) % 16) * 3) + 1).toNat) way) (((((lat + 1) % 16) * 3) + 2).toNat) rope))]) C ck0 0 2 (by decide) qw60 rfl dX0_note_100 rfl rfl rfl rfl (Nat.le_of_ble_eq_true rfl) ?_
  exact j_vret C hr hlk dX0_note_103 ⟨rfl, rfl⟩ (by decide) (by decide)

theorem c_X0_part (l : Launch) (g : Gh) (a b : Nat) (pt : Nat → Int) (lat kept ris snk put got : Int) (ix wh : Int) (hlat : 0 ≤ lat ∧ lat ≤ 15) (hix : 0 ≤ ix ∧ ix ≤ 15) (hwh : 0 ≤ wh ∧ wh ≤ 2) : CT l g yX0_part cX0_part 3 (some FieldType.int) ({ frames := 1, cells := 0, slots := 0, locals := 22 }) [.ref a, .int (iI ix), .int (iI wh)] [(a, .inr (0, [.ref b, .int (iI lat), .int (iI kept), .int (iI ris), .int (iI snk), .long (lI put), .long (lI got)])), (b, aI g 48 pt)] (PE (some (.int (iI (pt ((lat - ix) % 16 * 3 + wh).toNat)))) [(a, .inr (0, [.ref b, .int (iI lat), .int (iI kept), .int (iI ris), .int (iI snk), .long (lI put), .long (lI got)])), (b, aI g 48 pt)]) := by
  refine CT.intro (L0 := [(0, .ref a), (1, .int (iI ix)), (2, .int (iI wh))]) (own := RX0) (by decide) rfl (Nat.le_of_ble_eq_true rfl) rfl ?_
  intro pX eX sX mX argsX belowX methX cX A C hr hlk
  refine j_aload_n C 0 dX0_part_0 rfl rfl ?_
  refine j_get C ck0 0 0 (by decide) qw58 rfl rfl dX0_part_1 ?_
  refine j_aload_n C 0 dX0_part_4 rfl rfl ?_
  refine j_get C ck0 0 1 (by decide) qw59 rfl rfl dX0_part_5 ?_
  refine j_iload_n C 1 dX0_part_8 rfl rfl ?_
  refine j_isub C dX0_part_9 ?_
  refine j_bipush C dX0_part_10 (by decide) ?_
  refine j_callS (As := [.int (iI (lat - ix)), .int (iI 16)]) (rest := [.ref b]) C ys_J9_floorMod_7cf53 qw427 (c_J9_floorMod_7cf53 l g (lat - ix) 16 (by omega) (by decide)) (by decide) rfl dX0_part_12 rfl (Nat.le_of_ble_eq_true rfl) (by decide) (pf1 [] [(a, .inr (0, [.ref b, .int (iI lat), .int (iI kept), .int (iI ris), .int (iI snk), .long (lI put), .long (lI got)])), (b, aI g 48 pt)]) rfl (fun r9 w9 hq9 => ?_)
  obtain ⟨rfl, rfl⟩ := hq9
  refine J.to (L1 := [(0, .ref a), (1, .int (iI ix)), (2, .int (iI wh))]) (S1 := [.int (iI ((lat - ix) % 16)), .ref b]) (ws1 := [(a, .inr (0, [.ref b, .int (iI lat), .int (iI kept), .int (iI ris), .int (iI snk), .long (lI put), .long (lI got)])), (b, aI g 48 pt)]) rfl rfl rfl ?_
  refine j_iconst C dX0_part_15 ?_
  refine j_imul C dX0_part_16 ?_
  refine j_iload_n C 2 dX0_part_17 rfl rfl ?_
  refine j_iadd C dX0_part_18 ?_
  refine j_callSN (As := [.ref b, .int (iI ((((lat - ix) % 16) * 3) + wh))]) (rest := []) C ys_X4_at qn493 (c_X4_at l g b 48 pt ((((lat - ix) % 16) * 3) + wh) (((((lat - ix) % 16) * 3) + wh).toNat) (by omega) (by omega) (by decide)) (by decide) rfl dX0_part_19 rfl (Nat.le_of_ble_eq_true rfl) (by decide) (pf1 [(a, .inr (0, [.ref b, .int (iI lat), .int (iI kept), .int (iI ris), .int (iI snk), .long (lI put), .long (lI got)]))] []) rfl (fun r9 w9 hq9 => ?_)
  obtain ⟨rfl, rfl⟩ := hq9
  refine J.to (L1 := [(0, .ref a), (1, .int (iI ix)), (2, .int (iI wh))]) (S1 := [.int (iI (pt (((((lat - ix) % 16) * 3) + wh).toNat)))]) (ws1 := [(a, .inr (0, [.ref b, .int (iI lat), .int (iI kept), .int (iI ris), .int (iI snk), .long (lI put), .long (lI got)])), (b, aI g 48 pt)]) rfl rfl rfl ?_
  exact j_iret C hr hlk dX0_part_22 ⟨rfl, rfl⟩ (by decide) (by decide)

theorem c_X0_copyFrom (l : Launch) (g : Gh) (a b : Nat) (pt : Nat → Int) (lat kept ris snk put got : Int) (a2 b2 : Nat) (pt2 : Nat → Int) (lat2 kept2 ris2 snk2 put2 got2 : Int)  : CT l g yX0_copyFrom cX0_copyFrom 2 none ({ frames := 1, cells := 0, slots := 0, locals := 22 }) [.ref a, .ref a2] [(a, .inr (0, [.ref b, .int (iI lat), .int (iI kept), .int (iI ris), .int (iI snk), .long (lI put), .long (lI got)])), (b, aI g 48 pt), (a2, .inr (0, [.ref b2, .int (iI lat2), .int (iI kept2), .int (iI ris2), .int (iI snk2), .long (lI put2), .long (lI got2)])), (b2, aI g 48 pt2)] (PE none [(a, .inr (0, [.ref b, .int (iI lat2), .int (iI kept2), .int (iI ris2), .int (iI snk2), .long (lI put2), .long (lI got2)])), (b, aI g 48 (cpy 48 pt2 pt)), (a2, .inr (0, [.ref b2, .int (iI lat2), .int (iI kept2), .int (iI ris2), .int (iI snk2), .long (lI put2), .long (lI got2)])), (b2, aI g 48 pt2)]) := by
  refine CT.intro (L0 := [(0, .ref a), (1, .ref a2)]) (own := RX0) (by decide) rfl (Nat.le_of_ble_eq_true rfl) rfl ?_
  intro pX eX sX mX argsX belowX methX cX A C hr hlk
  refine j_aload_n C 1 dX0_copyFrom_0 rfl rfl ?_
  refine j_get C ck0 2 0 (by decide) qw58 rfl rfl dX0_copyFrom_1 ?_
  refine j_aload_n C 0 dX0_copyFrom_4 rfl rfl ?_
  refine j_get C ck0 0 0 (by decide) qw58 rfl rfl dX0_copyFrom_5 ?_
  refine j_callSN (As := [.ref b2, .ref b]) (rest := []) C ys_X4_copyRow qn283 (c_X4_copyRow l g b2 b 48 pt2 pt (by decide)) (by decide) rfl dX0_copyFrom_8 rfl (Nat.le_of_ble_eq_true rfl) (by decide) (pf2r [(a, .inr (0, [.ref b, .int (iI lat), .int (iI kept), .int (iI ris), .int (iI snk), .long (lI put), .long (lI got)]))] 1 [(a2, .inr (0, [.ref b2, .int (iI lat2), .int (iI kept2), .int (iI ris2), .int (iI snk2), .long (lI put2), .long (lI got2)]))] []) rfl (fun r9 w9 hq9 => ?_)
  obtain ⟨rfl, rfl⟩ := hq9
  refine J.to (L1 := [(0, .ref a), (1, .ref a2)]) (S1 := []) (ws1 := [(a, .inr (0, [.ref b, .int (iI lat), .int (iI kept), .int (iI ris), .int (iI snk), .long (lI put), .long (lI got)])), (b, aI g 48 (cpy 48 pt2 pt)), (a2, .inr (0, [.ref b2, .int (iI lat2), .int (iI kept2), .int (iI ris2), .int (iI snk2), .long (lI put2), .long (lI got2)])), (b2, aI g 48 pt2)]) rfl rfl rfl ?_
  refine j_aload_n C 0 dX0_copyFrom_11 rfl rfl ?_
  refine j_aload_n C 1 dX0_copyFrom_12 rfl rfl ?_
  refine j_get C ck0 2 1 (by decide) qw59 rfl rfl dX0_copyFrom_13 ?_
  refine j_put (ws1 := [(a, .inr (0, [.ref b, .int (iI lat2), .int (iI kept), .int (iI ris), .int (iI snk), .long (lI put), .long (lI got)])), (b, aI g 48 (cpy 48 pt2 pt)), (a2, .inr (0, [.ref b2, .int (iI lat2), .int (iI kept2), .int (iI ris2), .int (iI snk2), .long (lI put2), .long (lI got2)])), (b2, aI g 48 pt2)]) C ck0 0 1 (by decide) qw59 rfl dX0_copyFrom_16 rfl rfl rfl rfl (Nat.le_of_ble_eq_true rfl) ?_
  refine j_aload_n C 0 dX0_copyFrom_19 rfl rfl ?_
  refine j_aload_n C 1 dX0_copyFrom_20 rfl rfl ?_
  refine j_get C ck0 2 2 (by decide) qw60 rfl rfl dX0_copyFrom_21 ?_
  refine j_put (ws1 := [(a, .inr (0, [.ref b, .int (iI lat2), .int (iI kept2), .int (iI ris), .int (iI snk), .long (lI put), .long (lI got)])), (b, aI g 48 (cpy 48 pt2 pt)), (a2, .inr (0, [.ref b2, .int (iI lat2), .int (iI kept2), .int (iI ris2), .int (iI snk2), .long (lI put2), .long (lI got2)])), (b2, aI g 48 pt2)]) C ck0 0 2 (by decide) qw60 rfl dX0_copyFrom_24 rfl rfl rfl rfl (Nat.le_of_ble_eq_true rfl) ?_
  refine j_aload_n C 0 dX0_copyFrom_27 rfl rfl ?_
  refine j_aload_n C 1 dX0_copyFrom_28 rfl rfl ?_
  refine j_get C ck0 2 3 (by decide) qw62 rfl rfl dX0_copyFrom_29 ?_
  refine j_put (ws1 := [(a, .inr (0, [.ref b, .int (iI lat2), .int (iI kept2), .int (iI ris2), .int (iI snk), .long (lI put), .long (lI got)])), (b, aI g 48 (cpy 48 pt2 pt)), (a2, .inr (0, [.ref b2, .int (iI lat2), .int (iI kept2), .int (iI ris2), .int (iI snk2), .long (lI put2), .long (lI got2)])), (b2, aI g 48 pt2)]) C ck0 0 3 (by decide) qw62 rfl dX0_copyFrom_32 rfl rfl rfl rfl (Nat.le_of_ble_eq_true rfl) ?_
  refine j_aload_n C 0 dX0_copyFrom_35 rfl rfl ?_
  refine j_aload_n C 1 dX0_copyFrom_36 rfl rfl ?_
  refine j_get C ck0 2 4 (by decide) qw64 rfl rfl dX0_copyFrom_37 ?_
  refine j_put (ws1 := [(a, .inr (0, [.ref b, .int (iI lat2), .int (iI kept2), .int (iI ris2), .int (iI snk2), .long (lI put), .long (lI got)])), (b, aI g 48 (cpy 48 pt2 pt)), (a2, .inr (0, [.ref b2, .int (iI lat2), .int (iI kept2), .int (iI ris2), .int (iI snk2), .long (lI put2), .long (lI got2)])), (b2, aI g 48 pt2)]) C ck0 0 4 (by decide) qw64 rfl dX0_copyFrom_40 rfl rfl rfl rfl (Nat.le_of_ble_eq_true rfl) ?_
  refine j_aload_n C 0 dX0_copyFrom_43 rfl rfl ?_
  refine j_aload_n C 1 dX0_copyFrom_44 rfl rfl ?_
  refine j_get C ck0 2 5 (by decide) qw66 rfl rfl dX0_copyFrom_45 ?_
  refine j_put (ws1 := [(a, .inr (0, [.ref b, .int (iI lat2), .int (iI kept2), .int (iI ris2), .int (iI snk2), .long (lI put2), .long (lI got)])), (b, aI g 48 (cpy 48 pt2 pt)), (a2, .inr (0, [.ref b2, .int (iI lat2), .int (iI kept2), .int (iI ris2), .int (iI snk2), .long (lI put2), .long (lI got2)])), (b2, aI g 48 pt2)]) C ck0 0 5 (by decide) qw66 rfl dX0_copyFrom_48 rfl rfl rfl rfl (Nat.le_of_ble_eq_true rfl) ?_
  refine j_aload_n C 0 dX0_copyFrom_51 rfl rfl ?_
  refine j_aload_n C 1 dX0_copyFrom_52 rfl rfl ?_
  refine j_get C ck0 2 6 (by decide) qw69 rfl rfl dX0_copyFrom_53 ?_
  refine j_put (ws1 := [(a, .inr (0, [.ref b, .int (iI lat2), .int (iI kept2), .int (iI ris2), .int (iI snk2), .long (lI put2), .long (lI got2)])), (b, aI g 48 (cpy 48 pt2 pt)), (a2, .inr (0, [.ref b2, .int (iI lat2), .int (iI kept2), .int (iI ris2), .int (iI snk2), .long (lI put2), .long (lI got2)])), (b2, aI g 48 pt2)]) C ck0 0 6 (by decide) qw69 rfl dX0_copyFrom_56 rfl rfl rfl rfl (Nat.le_of_ble_eq_true rfl) ?_
  exact j_vret C hr hlk dX0_copyFrom_59 ⟨rfl, rfl⟩ (by decide) (by decide)

