/-! methods that throw, their callers, and handlers -/
/-- a method that always throws E -/
def XE (g : Gh) (A : Nat → Prop) (E : String) (PostX : va_W → Prop) : String → State → State → Prop := fun E' st t => E' = E ∧ (∃ w' : va_W, PostX w' ∧ va_P (gD g) vwCl w' t.heap ∧ va_D A w') ∧ va_F A st t
def CX (l : Launch) (g : Gh) (y : MethodName) (cc : ByteArray) (nL : Nat) (ret : Option FieldType) (rm : Room) (av : List Value) (w : va_W) (E : String) (PostX : va_W → Prop) : Prop :=
  ∀ sz : Nat, vx_Met l y (Cond.code y cc nL ret :: wAll) rm (va_Pc av (PU g w sz)) (fun _ _ _ _ => False) (XE g (va_A w sz) E PostX) rm.cells rm.slots (va_A w sz)
theorem CX.intro {l : Launch} {g : Gh} {y : MethodName} {cc : ByteArray} {nL : Nat} {ret : Option FieldType} {rm : Room} {av : List Value} {w : va_W} {E : String} {PostX : va_W → Prop} {own : String} {L0 : List (Nat × Value)} (hy : plainName y.cls = true) (hown : y.cls = own) (hfit : (lg_sl av).length ≤ nL) (hL : lv_args 0 av = L0)
    (body : ∀ (p : Program) (e : Env) (s : State) (m : MethodId) (args : Array Value) (below : List Frame) (meth : Method) (c : Code) (A : Nat → Prop), Cx p g s m args c cc nL own A → meth.locks = false → (∀ x ∈ c.exceptionTable.toList, False) → J p l e rm s m args below meth c g A nL 0 L0 [] w 0 0 (vx_MQ below (fun _ _ _ _ => False) (XE g A E PostX) args s rm.cells rm.slots A)) : CX l g y cc nL ret rm av w E PostX := by
  intro sz
  subst hown; subst hL
  refine vx_ofW (cc := cc) (maxL := nL) (ret := ret) hy rfl ?_
  intro p e s m args below meth c s₁ B hml hnt hv
  obtain ⟨rfl, hsz, hP, hK, hD0, hN, hX⟩ := hv
  subst hsz
  have hts := atoms_spec (ws := Cond.code y cc nL ret :: wAll) B.pre
  have C0 : Cx p g s m av.toArray c cc nL y.cls (va_A w s.heap.size) := ⟨B.exec, B.bytes, hml, findClass_of_methodNamed B.named, fun w h => hts w (List.mem_cons_of_mem _ h), hN, hK, fun q h => Or.inr h, hX⟩
  have hl := lv_entry av (n := nL) hfit
  rw [lg_entry_eq]
  exact body p e s m _ below meth c _ C0 B.notSynchronized hnt s.heap [] _ hP (hD0.self (sz := s.heap.size)) va_S.rf hl
/-- a method with handlers that returns -/
def CW (l : Launch) (g : Gh) (y : MethodName) (cc : ByteArray) (nL : Nat) (ret : Option FieldType) (hh : List (Nat × Nat × Nat × Nat)) (rm : Room) (av : List Value) (w : va_W) (Post : Option Value → va_W → Prop) : Prop :=
  ∀ sz : Nat, vx_Met l y (Cond.codeWith y cc nL ret hh :: wAll) rm (va_Pc av (PU g w sz)) (QE g (va_A w sz) Post) (fun _ _ _ => False) rm.cells rm.slots (va_A w sz)
theorem CW.intro {l : Launch} {g : Gh} {y : MethodName} {cc : ByteArray} {nL : Nat} {ret : Option FieldType} {hh : List (Nat × Nat × Nat × Nat)} {rm : Room} {av : List Value} {w : va_W} {Post : Option Value → va_W → Prop} {own : String} {L0 : List (Nat × Value)} (hy : plainName y.cls = true) (hown : y.cls = own) (hfit : (lg_sl av).length ≤ nL) (hL : lv_args 0 av = L0)
    (body : ∀ (p : Program) (e : Env) (s : State) (m : MethodId) (args : Array Value) (below : List Frame) (meth : Method) (c : Code) (A : Nat → Prop), Cx p g s m args c cc nL own A → meth.sig.returnType = ret → meth.locks = false → c.exceptionTable.toList = tableOf hh → J p l e rm s m args below meth c g A nL 0 L0 [] w 0 0 (vx_MQ below (QE g A Post) (fun _ _ _ => False) args s rm.cells rm.slots A)) : CW l g y cc nL ret hh rm av w Post := by
  intro sz
  subst hown; subst hL
  refine vx_ofWH (cc := cc) (maxL := nL) (ret := ret) (hh := hh) hy rfl ?_
  intro p e s m args below meth c s₁ B hml hv
  obtain ⟨rfl, hsz, hP, hK, hD0, hN, hX⟩ := hv
  subst hsz
  have hts := atoms_spec (ws := Cond.codeWith y cc nL ret hh :: wAll) B.pre
  have ht := vx_table (x := y) B (hts _ List.mem_cons_self)
  have C0 : Cx p g s m av.toArray c cc nL y.cls (va_A w s.heap.size) := ⟨B.exec, B.bytes, hml, findClass_of_methodNamed B.named, fun w h => hts w (List.mem_cons_of_mem _ h), hN, hK, fun q h => Or.inr h, hX⟩
  have hl := lv_entry av (n := nL) hfit
  rw [lg_entry_eq]
  exact body p e s m _ below meth c _ C0 B.returns B.notSynchronized ht s.heap [] _ hP (hD0.self (sz := s.heap.size)) va_S.rf hl
/-- the words that a throw of E needs -/
def exWords (ic : Nat) (E : String) : Prop := (∀ w ∈ vx_atS "RopeTackle" ic E ["java/lang/RuntimeException", "java/lang/Exception"], w ∈ tables_1 ∧ (goodWord w = true ∨ isNest w = true)) ∧ ∀ w ∈ vx_atS "RopeTackle" ic E ["java/lang/RuntimeException", "java/lang/Exception"], vx_ot w = true
theorem tbl_in {w : Cond} (h : w ∈ tables_1) : w ∈ lw_tbl := List.mem_append_right _ h
set_option maxRecDepth 100000 in
set_option maxHeartbeats 4000000 in
theorem exw_IndexOutOfBoundsException : exWords 106 "java/lang/IndexOutOfBoundsException" := ⟨by decide +kernel, by decide +kernel⟩
set_option maxRecDepth 100000 in
set_option maxHeartbeats 4000000 in
theorem exw_IllegalArgumentException : exWords 136 "java/lang/IllegalArgumentException" := ⟨by decide +kernel, by decide +kernel⟩
set_option maxRecDepth 100000 in
set_option maxHeartbeats 4000000 in
theorem exw_IllegalStateException : exWords 91 "java/lang/IllegalStateException" := ⟨by decide +kernel, by decide +kernel⟩
section JX
variable {p : Program} {l : Launch} {e : Env} {R : Room} {s : State} {m : MethodId} {args : Array Value} {below : List Frame} {meth : Method} {c : Code} {g : Gh} {A : Nat → Prop} {cc : ByteArray} {nL : Nat} {own : String} {pc : Nat} {L : List (Nat × Value)} {S : List Value} {ws : va_W} {cells slots : Nat} {Q : State → Prop}
theorem J.vx {Qc : Array Value → State → Outcome → State → Prop} {XC : String → State → State → Prop} {mc ms : Nat} {free : Addr → Prop} (kk : J p l e R s m args below meth c g A nL pc L S ws cells slots (MQ below Qc args s mc ms free)) : J p l e R s m args below meth c g A nL pc L S ws cells slots (vx_MQ below Qc XC args s mc ms free) := fun H locs ls hP hD hS h => vx_ret (kk H locs ls hP hD hS h)
theorem j_throw (C : Cx p g s m args c cc nL "RopeTackle" A) (hl : l.stackTraces = false) (hlk : meth.locks = false) (hnt : ∀ x ∈ c.exceptionTable.toList, False) {ik is ic : Nat} {E text : String} {PostX : va_W → Prop} {Qc : Array Value → State → Outcome → State → Prop} {mc ms : Nat} (hw : exWords ic E) (hk : Cond.classLink "RopeTackle" ik E ∈ wAll) (hi : Cond.initialized E ∈ wAll) (hf : Bundle.fit E = true) (hst : (is, text) ∈ strL)
    (d0 : decode cc pc = .ok (.new ik, 3)) (d3 : decode cc (pc + 3) = .ok (.dup, 1)) (d4 : decode cc (pc + 4) = .ok (.ldc is, 2)) (d6 : decode cc (pc + 6) = .ok (.invokespecial ic, 3)) (d9 : decode cc (pc + 9) = .ok (.athrow, 1))
    (hR : 5 < R.frames ∧ (S.map fun v => v.category).sum + 82 ≤ R.locals) (hRc : cells + 1 ≤ R.cells ∧ slots + 6 ≤ R.slots) (hpo : PostX ws) (hc : cells + 1 ≤ mc ∧ slots + 6 ≤ ms) : J p l e R s m args below meth c g A nL pc L S ws cells slots (vx_MQ below Qc (XE g A E PostX) args s mc ms A) := by
  intro H locs ls hP hD hS h
  obtain ⟨sa, hsa⟩ := C.2.2.2.2.2.1.2.1 _ hst
  have hat : ∀ w ∈ vx_atS "RopeTackle" ic E ["java/lang/RuntimeException", "java/lang/Exception"], w.before args s = true := by
    intro w h9
    obtain ⟨h1, h2⟩ := hw.1 w h9
    rcases h2 with h2 | h2
    · exact C.2.2.2.2.1 w (List.mem_filter.mpr ⟨tbl_in h1, h2⟩)
    · exact va_Nw.use (by cases w <;> first | rfl | (simp [isNest] at h2; done)) (C.2.2.2.2.2.1.1 w h1 h2)
  refine vx_throwS (names := ["java/lang/RuntimeException", "java/lang/Exception"]) (A := A) C.1 C.2.1 hl C.2.2.2.1 hf (by decide +kernel) (C.2.2.2.2.1 _ hk) (C.2.2.2.2.1 _ hi) hsa hat ?_ C.2.2.2.2.2.2.2.2.1 C.2.2.2.2.2.2.2.2.2 hS (h.1.trans C.2.2.1.symm) d0 d3 d4 d6 d9 (fun x hx => (hnt x hx).elim) hR.1 hR.2 hRc.1 hRc.2 hlk ?_ hS.2.2 hc.1 hc.2
  · intro w h9
    rcases List.mem_cons.mp h9 with rfl | h9
    · rfl
    · rcases List.mem_cons.mp h9 with rfl | h9
      · rfl
      · exact hw.2 w h9
  · intro t hvm hsz hkeep
    refine ⟨rfl, ⟨ws, hpo, hP.kept (fun k q hq => hkeep q.1 ((hP k q hq).lt)), hD⟩, Nat.le_trans hS.1 hsz, fun q h1 h2 => ?_⟩
    rw [hkeep q (Nat.lt_of_lt_of_le h1 hS.1)]
    exact hS.2.1 q h1 h2
/-- a call that throws -/
theorem j_xrun {mc ms : Nat} {wc wr : va_W} {F : va_W → va_W} {E : String} {PostX : va_W → Prop} {st0 rest : List Value} (C : Cx p g s m args c cc nL own A) (hF : ∀ w : va_W, (F w).Perm (w ++ wr)) (hws : ws = F wc)
    (hr : ∀ (H : Heap) (locs : List Loc) (ls : Array Slot), va_P (gD g) vwCl (wc ++ wr) H → va_D A (wc ++ wr) → va_S A s.heap H locs → ls.size = nL → vx_Run p l e R s m args below meth c H locs cells slots mc ms (F0 m pc ls st0) rest (fun _ _ _ => False) (XE g (va_A wc H.size) E PostX) (va_A wc H.size))
    (kx : ∀ (w' : va_W) (H1 : Heap) (locs1 : List Loc) (ls : Array Slot) (q : Addr) (ce : Cell), PostX w' → va_P (gD g) vwCl (F w') H1 → va_D A (F w') → va_S A s.heap H1 locs1 → lv_has ls nL L → H1[q]? = some ce → ce.vm = .none → s.vm.findClass E = some ce.cls → vx_W p l e R s m args below meth c H1 locs1 (cells + mc) (slots + ms) Q (F0 m pc ls rest) q) : J p l e R s m args below meth c g A nL pc L st0 ws cells slots Q := by
  intro H locs ls hP hD hS h T hT X
  subst hws
  have hP := wP_perm (hF wc) hP
  have hD := wD_perm (hF wc) hD
  have hsub := (jPre C hP hD hS []).2
  rcases hr H locs ls hP hD hS h.1 T hT X with ⟨v, st₀, t, T', L9, h0, X', hL, e1, e2, hq, st⟩ | ⟨q, st₀, t, T', L9, E', ce, h0, X', hL, e1, e2, ⟨rfl, ⟨w', hpo, hP1, hD1⟩, hz, hk⟩, hce, hcv, hcl, st⟩
  · exact hq.elim
  · rw [h0] at hz hk
    rw [← e1] at hz hk hP1 hce
    obtain ⟨hP2, hD2⟩ := wJoin hP hD hsub hP1 hD1 hk
    obtain ⟨t2, a1, b1⟩ := kx w' T'.heap (locs ++ L9) ls q ce hpo (wP_perm (hF w').symm hP2) (wD_perm (hF w').symm hD2)
      ⟨Nat.le_trans hS.1 hz, fun q h1 h2 => by rw [hk q (Nat.lt_of_lt_of_le h1 hS.1) (fun z => h2 (hsub q z))]; exact hS.2.1 q h1 h2, fun q hq => by
        rcases List.mem_append.mp hq with h9 | h9
        · exact hS.2.2 q h9
        · exact hsub _ (hL q h9)⟩ h hce hcv hcl T' rfl X'
    exact ⟨t2, st.trans a1, b1⟩
theorem j_callSX (C : Cx p g s m args c cc nL own A) {index maxL n : Nat} {y : MethodName} {C' : String} {bytes : ByteArray} {ret : Option FieldType} {rm : Room} {As rest st0 : List Value} {wc wr : va_W} {F : va_W → va_W} {E : String} {PostX : va_W → Prop}  {PostY : va_W → Prop} {Qc : Array Value → State → Outcome → State → Prop} {mc ms : Nat} (Y : YS y C' bytes maxL ret n) (hw : Cond.methodLink own index y ∈ wAll) (hM : CX l g y bytes maxL ret rm (As) wc E PostX) (hR : rm.frames + 1 ≤ R.frames ∧ 8 + (maxL + 11) + rm.locals ≤ R.locals)  (hst : st0 = As.reverse ++ rest) (hd : decode cc pc = .ok (.invokestatic index, 3)) (hn : As.length = n) (hsum : (rest.map fun v => v.category).sum ≤ 8) (hf : cells + rm.cells ≤ R.cells ∧ slots + rm.slots ≤ R.slots) (hF : ∀ w : va_W, (F w).Perm (w ++ wr)) (hws : ws = F wc) (hnt : ∀ x ∈ c.exceptionTable.toList, False) (hlk : meth.locks = false) (hc2 : cells + rm.cells ≤ mc ∧ slots + rm.slots ≤ ms) (hpo : ∀ w' : va_W, PostX w' → PostY (F w')) : J p l e R s m args below meth c g A nL pc L st0 ws cells slots (vx_MQ below Qc (XE g A E PostY) args s mc ms A) := by
  obtain ⟨y1, y3, y4, rfl, y6, y7⟩ := Y
  refine j_xrun (rest := rest) C hF hws (fun H locs ls hP hD hS hsz => ?_) (fun w' H1 locs1 ls q ce h1 hP hD hS h hce hcv hcl => vx_out (fun x hx => (hnt x hx).elim) hlk hce hcv hcl (fun t ht hvm => ⟨rfl, ⟨F w', hpo w' h1, by rw [ht]; exact hP, hD⟩, hS.F ht⟩) hS.2.2 hc2.1 hc2.2)
  exact vx_runS (As := As) (rest := rest) ⟨C.1, C.2.1, C.2.2.1, C.2.2.2.1, C.2.2.2.2.1⟩ (hM H.size) ⟨callB_of (Ts := wAll) n C.2.2.2.2.1 (gW y4) rfl rfl rfl (C.2.2.2.2.1 _ y3) (C.2.2.2.2.1 _ hw) ⟨y6.1, y6.2, y7⟩ hR, C.2.2.2.2.1 _ y1⟩ ⟨PU.blind, fun U hU hW => (jPre C hP hD hS (As)).1 U hU hW⟩ rfl hn hsz hst (lv_room hsum) hd hf
theorem j_callSC (C : Cx p g s m args c cc nL own A) {index maxL n : Nat} {y : MethodName} {C' : String} {bytes : ByteArray} {ret : Option FieldType} {rm : Room} {As rest st0 : List Value} {wc wr : va_W} {F : va_W → va_W} {E : String} {PostX : va_W → Prop}  (Y : YS y C' bytes maxL ret n) (hw : Cond.methodLink own index y ∈ wAll) (hM : CX l g y bytes maxL ret rm (As) wc E PostX) (hR : rm.frames + 1 ≤ R.frames ∧ 8 + (maxL + 11) + rm.locals ≤ R.locals)  (hst : st0 = As.reverse ++ rest) (hd : decode cc pc = .ok (.invokestatic index, 3)) (hn : As.length = n) (hsum : (rest.map fun v => v.category).sum ≤ 8) (hf : cells + rm.cells ≤ R.cells ∧ slots + rm.slots ≤ R.slots) (hF : ∀ w : va_W, (F w).Perm (w ++ wr)) (hws : ws = F wc) {name : String} (pre suf : List ExceptionTableEntry) (x : ExceptionTableEntry) (hsplit : c.exceptionTable.toList = pre ++ x :: suf) (hpass : ∀ z ∈ pre, covers z pc = false ∨ (z.catchType ≠ 0 ∧ ∃ nm : String, (Cond.classLink own z.catchType nm).before args s = true ∧ va_Nc E nm s)) (hcov : covers x pc = true) (h00 : x.catchType ≠ 0) (hlink : Cond.classLink own x.catchType name ∈ wAll) (hcast : Cond.castable E name ∈ tables_1) (kk : ∀ (w' : va_W) (q : Nat), PostX w' → J p l e R s m args below meth c g A nL x.handlerPc L [.ref q] (F w') (cells + rm.cells) (slots + rm.slots) Q) : J p l e R s m args below meth c g A nL pc L st0 ws cells slots Q := by
  obtain ⟨y1, y3, y4, rfl, y6, y7⟩ := Y
  refine j_xrun (rest := rest) C hF hws (fun H locs ls hP hD hS hsz => ?_) (fun w' H1 locs1 ls q ce h1 hP hD hS h hce hcv hcl => vx_catch C.2.2.2.1 pre x suf hsplit (fun z hz => hpass z hz) hcov h00 (C.2.2.2.2.1 _ hlink) (va_Nw.use rfl (C.2.2.2.2.2.1.1 _ hcast rfl)) hce hcv hcl (kk w' q h1 H1 locs1 ls hP hD hS h))
  exact vx_runS (As := As) (rest := rest) ⟨C.1, C.2.1, C.2.2.1, C.2.2.2.1, C.2.2.2.2.1⟩ (hM H.size) ⟨callB_of (Ts := wAll) n C.2.2.2.2.1 (gW y4) rfl rfl rfl (C.2.2.2.2.1 _ y3) (C.2.2.2.2.1 _ hw) ⟨y6.1, y6.2, y7⟩ hR, C.2.2.2.2.1 _ y1⟩ ⟨PU.blind, fun U hU hW => (jPre C hP hD hS (As)).1 U hU hW⟩ rfl hn hsz hst (lv_room hsum) hd hf
theorem j_callVX (C : Cx p g s m args c cc nL own A) {index maxL n : Nat} {y : MethodName} {C' : String} {bytes : ByteArray} {ret : Option FieldType} {rm : Room} {As rest st0 : List Value} {wc wr : va_W} {F : va_W → va_W} {E : String} {PostX : va_W → Prop} {b ci N : Nat} {fs : List Value} {T : u_T} {PostY : va_W → Prop} {Qc : Array Value → State → Outcome → State → Prop} {mc ms : Nat} (Y : YV y C' bytes maxL ret n) (hw : Cond.methodLink own index y ∈ wAll) (hM : CX l g y bytes maxL ret rm (.ref b :: As) wc E PostX) (hR : rm.frames + 1 ≤ R.frames ∧ 8 + (maxL + 11) + rm.locals ≤ R.locals) (q0 : Nat) (he : ws[q0]? = some (b, .inr (ci, fs))) (hc : vwCl[ci]? = some (C', T, N)) (hst : st0 = As.reverse ++ .ref b :: rest) (hd : decode cc pc = .ok (.invokevirtual index, 3)) (hn : As.length = n) (hsum : (rest.map fun v => v.category).sum ≤ 8) (hf : cells + rm.cells ≤ R.cells ∧ slots + rm.slots ≤ R.slots) (hF : ∀ w : va_W, (F w).Perm (w ++ wr)) (hws : ws = F wc) (hnt : ∀ x ∈ c.exceptionTable.toList, False) (hlk : meth.locks = false) (hc2 : cells + rm.cells ≤ mc ∧ slots + rm.slots ≤ ms) (hpo : ∀ w' : va_W, PostX w' → PostY (F w')) : J p l e R s m args below meth c g A nL pc L st0 ws cells slots (vx_MQ below Qc (XE g A E PostY) args s mc ms A) := by
  obtain ⟨y1, y2, y3, y4, rfl, y6, y7⟩ := Y
  refine j_xrun (rest := rest) C hF hws (fun H locs ls hP hD hS hsz => ?_) (fun w' H1 locs1 ls q ce h1 hP hD hS h hce hcv hcl => vx_out (fun x hx => (hnt x hx).elim) hlk hce hcv hcl (fun t ht hvm => ⟨rfl, ⟨F w', hpo w' h1, by rw [ht]; exact hP, hD⟩, hS.F ht⟩) hS.2.2 hc2.1 hc2.2)
  have hcell : ∃ cellB : Cell, H[b]? = some cellB ∧ cellB.vm.isStatics = false ∧ s.vm.findClass y.cls = some cellB.cls := by
    have hq : (b, (Sum.inr (ci, fs) : va_E)) ∈ wc ++ wr := (hF wc).mem_iff.mp (hws ▸ List.mem_of_getElem? he)
    obtain ⟨i9, h9⟩ := List.getElem?_of_mem hq
    exact va_recv C.2.2.2.2.2.2.1 hP hc h9
  exact vx_runV (As := As) (rest := rest) ⟨C.1, C.2.1, C.2.2.1, C.2.2.2.1, C.2.2.2.2.1⟩ (hM H.size) ⟨callB_of (Ts := wAll) n C.2.2.2.2.1 (gW y4) rfl rfl rfl (C.2.2.2.2.1 _ y3) (C.2.2.2.2.1 _ hw) ⟨y6.1, y6.2, y7⟩ hR, C.2.2.2.2.1 _ y1, C.2.2.2.2.1 _ y2⟩ ⟨PU.blind, hcell, fun U hU hW => (jPre C hP hD hS (.ref b :: As)).1 U hU hW⟩ rfl hn hsz hst (lv_room hsum) hd hf
theorem j_callVC (C : Cx p g s m args c cc nL own A) {index maxL n : Nat} {y : MethodName} {C' : String} {bytes : ByteArray} {ret : Option FieldType} {rm : Room} {As rest st0 : List Value} {wc wr : va_W} {F : va_W → va_W} {E : String} {PostX : va_W → Prop} {b ci N : Nat} {fs : List Value} {T : u_T} (Y : YV y C' bytes maxL ret n) (hw : Cond.methodLink own index y ∈ wAll) (hM : CX l g y bytes maxL ret rm (.ref b :: As) wc E PostX) (hR : rm.frames + 1 ≤ R.frames ∧ 8 + (maxL + 11) + rm.locals ≤ R.locals) (q0 : Nat) (he : ws[q0]? = some (b, .inr (ci, fs))) (hc : vwCl[ci]? = some (C', T, N)) (hst : st0 = As.reverse ++ .ref b :: rest) (hd : decode cc pc = .ok (.invokevirtual index, 3)) (hn : As.length = n) (hsum : (rest.map fun v => v.category).sum ≤ 8) (hf : cells + rm.cells ≤ R.cells ∧ slots + rm.slots ≤ R.slots) (hF : ∀ w : va_W, (F w).Perm (w ++ wr)) (hws : ws = F wc) {name : String} (pre suf : List ExceptionTableEntry) (x : ExceptionTableEntry) (hsplit : c.exceptionTable.toList = pre ++ x :: suf) (hpass : ∀ z ∈ pre, covers z pc = false ∨ (z.catchType ≠ 0 ∧ ∃ nm : String, (Cond.classLink own z.catchType nm).before args s = true ∧ va_Nc E nm s)) (hcov : covers x pc = true) (h00 : x.catchType ≠ 0) (hlink : Cond.classLink own x.catchType name ∈ wAll) (hcast : Cond.castable E name ∈ tables_1) (kk : ∀ (w' : va_W) (q : Nat), PostX w' → J p l e R s m args below meth c g A nL x.handlerPc L [.ref q] (F w') (cells + rm.cells) (slots + rm.slots) Q) : J p l e R s m args below meth c g A nL pc L st0 ws cells slots Q := by
  obtain ⟨y1, y2, y3, y4, rfl, y6, y7⟩ := Y
  refine j_xrun (rest := rest) C hF hws (fun H locs ls hP hD hS hsz => ?_) (fun w' H1 locs1 ls q ce h1 hP hD hS h hce hcv hcl => vx_catch C.2.2.2.1 pre x suf hsplit (fun z hz => hpass z hz) hcov h00 (C.2.2.2.2.1 _ hlink) (va_Nw.use rfl (C.2.2.2.2.2.1.1 _ hcast rfl)) hce hcv hcl (kk w' q h1 H1 locs1 ls hP hD hS h))
  have hcell : ∃ cellB : Cell, H[b]? = some cellB ∧ cellB.vm.isStatics = false ∧ s.vm.findClass y.cls = some cellB.cls := by
    have hq : (b, (Sum.inr (ci, fs) : va_E)) ∈ wc ++ wr := (hF wc).mem_iff.mp (hws ▸ List.mem_of_getElem? he)
    obtain ⟨i9, h9⟩ := List.getElem?_of_mem hq
    exact va_recv C.2.2.2.2.2.2.1 hP hc h9
  exact vx_runV (As := As) (rest := rest) ⟨C.1, C.2.1, C.2.2.1, C.2.2.2.1, C.2.2.2.2.1⟩ (hM H.size) ⟨callB_of (Ts := wAll) n C.2.2.2.2.1 (gW y4) rfl rfl rfl (C.2.2.2.2.1 _ y3) (C.2.2.2.2.1 _ hw) ⟨y6.1, y6.2, y7⟩ hR, C.2.2.2.2.1 _ y1, C.2.2.2.2.1 _ y2⟩ ⟨PU.blind, hcell, fun U hU hW => (jPre C hP hD hS (.ref b :: As)).1 U hU hW⟩ rfl hn hsz hst (lv_room hsum) hd hf
def YW (y : MethodName) (C' : String) (bytes : ByteArray) (maxL : Nat) (ret : Option FieldType) (hh : List (Nat × Nat × Nat × Nat)) (n : Nat) : Prop := Cond.static y ∈ wAll ∧ Cond.initialized C' ∈ wAll ∧ Cond.codeWith y bytes maxL ret hh ∈ wAll ∧ y.cls = C' ∧ (y.cls ≠ "java/lang/invoke/MethodHandle" ∧ y.cls ≠ "java/lang/invoke/VarHandle") ∧ (parseMethodDescriptor y.desc).map (fun d => d.parameters.length) = some n
theorem j_callSW (C : Cx p g s m args c cc nL own A) {index maxL n : Nat} {y : MethodName} {C' : String} {bytes : ByteArray} {ret : Option FieldType} {rm : Room} {As rest st0 : List Value} {wc wr : va_W} {F : va_W → va_W} {Post : Option Value → va_W → Prop} {hh : List (Nat × Nat × Nat × Nat)} (Y : YW y C' bytes maxL ret hh n) (hw : Cond.methodLink own index y ∈ wAll) (hM : CW l g y bytes maxL ret hh rm As wc Post) (hR : rm.frames + 1 ≤ R.frames ∧ 8 + (maxL + 11) + rm.locals ≤ R.locals) (hst : st0 = As.reverse ++ rest) (hd : decode cc pc = .ok (.invokestatic index, 3)) (hn : As.length = n) (hsum : (rest.map fun v => v.category).sum ≤ 8) (hf : cells + rm.cells ≤ R.cells ∧ slots + rm.slots ≤ R.slots) (hF : ∀ w : va_W, (F w).Perm (w ++ wr)) (hws : ws = F wc) (kk : ∀ (r : Option Value) (w' : va_W), Post r w' → J p l e R s m args below meth c g A nL (pc + 3) L (r.toList ++ rest) (F w') (cells + rm.cells) (slots + rm.slots) Q) : J p l e R s m args below meth c g A nL pc L st0 ws cells slots Q := by
  obtain ⟨y1, y3, y4, rfl, y6, y7⟩ := Y
  refine j_run (a9 := As.toArray) C hF hws (fun H locs ls hP hD hS hsz => ?_) kk
  have hG : GoodIn wAll (va_wsS own index y (Cond.codeWith y bytes maxL ret hh :: wAll)) := by
    intro w h9
    unfold va_wsS at h9
    rcases List.mem_append.mp h9 with h9 | h9
    · simp only [List.mem_cons, List.not_mem_nil, or_false] at h9
      rcases h9 with rfl | rfl | rfl
      · exact ⟨hw, wAll_good hw⟩
      · exact ⟨y1, wAll_good y1⟩
      · exact ⟨y3, wAll_good y3⟩
    · rcases List.mem_cons.mp h9 with rfl | h9
      · exact ⟨y4, wAll_good y4⟩
      · exact ⟨h9, wAll_good h9⟩
  have hrun : vx_Run p l e R s m args below meth c H locs cells slots rm.cells rm.slots (F0 m pc ls st0) rest (QE g (va_A wc H.size) Post As.toArray) (fun _ _ _ => False) (va_A wc H.size) := vx_runSX (hh := hh) (As := As) (rest := rest) (g := F0 m pc ls st0) ⟨C.1, C.2.1, C.2.2.1, C.2.2.2.1, C.2.2.2.2.1⟩ (hM H.size) (vx_cwSW (own := own) (index := index) n C.2.2.2.2.1 hG rfl rfl rfl ⟨y6.1, y6.2, y7⟩ hR) ⟨PU.blind, fun U hU hW => (jPre C hP hD hS As).1 U hU hW⟩ rfl hn hsz hst (lv_room hsum) hd hf
  intro T hT X
  rcases hrun T hT X with h9 | ⟨q, st₀, t, T', L9, E', ce, -, -, -, -, -, hq, -⟩
  · exact h9
  · exact hq.elim
end JX
