/-! constructors -/
section JNEW
variable {p : Program} {l : Launch} {e : Env} {R : Room} {s : State} {m : MethodId} {args : Array Value} {below : List Frame} {meth : Method} {c : Code} {g : Gh} {A : Nat → Prop} {cc : ByteArray} {nL : Nat} {own : String} {pc : Nat} {L : List (Nat × Value)} {S : List Value} {ws : va_W} {cells slots : Nat} {Q : State → Prop}
theorem j_newI (C : Cx p g s m args c cc nL own A) {n : Int} {N' : Nat} (hn : n = (N' : Int)) (hN : N' ≤ 1000) (hd : decode cc pc = .ok (.newarray .int, 2)) (hc : cells + 1 ≤ R.cells) (hs : slots + N' ≤ R.slots) (kk : ∀ q : Nat, J p l e R s m args below meth c g A nL (pc + 2) L (.ref q :: S) (ws ++ [(q, aI g N' (fun _ => 0))]) (cells + 1) (slots + N') Q) : J p l e R s m args below meth c g A nL pc L (.int (iI n) :: S) ws cells slots Q := by
  intro H locs ls hP hD hS h
  subst hn
  refine va_newa (atype := .int) C.1 C.2.1 (C.2.2.2.2.1 _ qw51) (ty := .int) rfl C.2.2.2.2.2.2.1 hP hD hS C.2.2.2.2.2.2.2.1 (a0 := (N', .inl (fun _ => iI 0))) (fun cA => rfl) ?_ (iI_clamp rfl (by omega)) (show N' * 4 ≤ 536870912 by omega) hc hs hd fun q cA H1 hK1 hP1 hD1 hS1 => ?_
  · rw [Int32.lt_iff_toInt_lt, iI_toInt (by omega)]
    show ¬ (N' : Int) < 0
    omega
  have e : cA = gI g := Option.some.inj ((va_nm_int (hK1.2 2 (cA, .int) rfl).2).symm.trans (va_nm_int (hK1.2 0 _ rfl).2))
  subst e
  exact kk q H1 locs ls hP1 hD1 hS1 h
theorem j_newO (C : Cx p g s m args c cc nL own A) {ci index : Nat} {C' : String} {T : u_T} {N : Nat} {ty0 : Nat → FieldType} {fs : List Value} (K : CK ci C' T N ty0) (hw : Cond.classLink own index C' ∈ wAll) (hi : Cond.instantiable C' N ∈ wAll) (hini : Cond.initialized C' ∈ wAll) (hfs : ∀ j, j < N → defaultValue (ty0 j) = vp_V fs j) (hd : decode cc pc = .ok (.new index, 3)) (hc : cells + 1 ≤ R.cells) (hs : slots + N ≤ R.slots) (kk : ∀ q : Nat, J p l e R s m args below meth c g A nL (pc + 3) L (.ref q :: S) (ws ++ [(q, .inr (ci, fs))]) (cells + 1) (slots + N) Q) : J p l e R s m args below meth c g A nL pc L S ws cells slots Q := by
  intro H locs ls hP hD hS h
  exact va_new C.1 C.2.1 C.2.2.2.2.1 K.1 ty0 K.2.1 C.2.2.2.1 (C.2.2.2.2.1 _ hw) (C.2.2.2.2.1 _ hi) (C.2.2.2.2.1 _ hini) C.2.2.2.2.2.2.1 hP hD hS C.2.2.2.2.2.2.2.1 K.2.2.2 hfs hc hs hd fun q H1 hP1 hD1 hS1 => kk q H1 locs ls hP1 hD1 hS1 h
theorem j_newQ (C : Cx p g s m args c cc nL own A) {n : Int} {N' index : Nat} (hn : n = (N' : Int)) (hN : N' ≤ 1000) (hw : Cond.classLink own index "RopeTackle$State" ∈ wAll) (hd : decode cc pc = .ok (.anewarray index, 3)) (hc : cells + 1 ≤ R.cells) (hs : slots + N' ≤ R.slots) (kk : ∀ q : Nat, J p l e R s m args below meth c g A nL (pc + 3) L (.ref q :: S) (ws ++ [(q, aS g N' (fun _ => none))]) (cells + 1) (slots + N') Q) : J p l e R s m args below meth c g A nL pc L (.int (iI n) :: S) ws cells slots Q := by
  intro H locs ls hP hD hS h
  subst hn
  refine va_newq C.1 C.2.1 C.2.2.2.1 (C.2.2.2.2.1 _ hw) C.2.2.2.2.2.1.2.2.2 C.2.2.2.2.2.2.1 hP hD hS C.2.2.2.2.2.2.2.1 ?_ (iI_clamp rfl (by omega)) (by omega) hc hs hd fun q cA H1 hK1 hP1 hD1 hS1 => ?_
  · rw [Int32.lt_iff_toInt_lt, iI_toInt (by omega)]
    show ¬ (N' : Int) < 0
    omega
  have e : cA = gS g := Option.some.inj ((va_nmO (nm := "[" ++ (FieldType.object "RopeTackle$State").toString) (hK1.2 2 (cA, .object "RopeTackle$State") rfl).2 rfl).symm.trans (va_nmO (hK1.2 1 _ rfl).2 rfl))
  subst e
  exact kk q H1 locs ls hP1 hD1 hS1 h
end JNEW
theorem CT.introI {l : Launch} {g : Gh} {y : MethodName} {cc : ByteArray} {nL : Nat} {ret : Option FieldType} {rm : Room} {av : List Value} {w : va_W} {Post : Option Value → va_W → Prop} {own : String} {L0 : List (Nat × Value)} (hy : plainName y.cls = true) (hown : y.cls = own) (hfit : (lg_sl av).length ≤ nL) (hL : lv_args 0 av = L0)
    (body : ∀ (p : Program) (e : Env) (s : State) (m : MethodId) (args : Array Value) (below : List Frame) (meth : Method) (c : Code) (A : Nat → Prop), Cx p g s m args c cc nL own A → meth.sig.returnType = ret → meth.locks = false → meth.name = y.name → J p l e rm s m args below meth c g A nL 0 L0 [] w 0 0 (MQ below (QE g A Post) args s rm.cells rm.slots A)) : CT l g y cc nL ret rm av w Post := by
  intro sz
  subst hown; subst hL
  refine Met.ofW (cc := cc) (maxL := nL) (ret := ret) hy rfl ?_
  intro p e s m args below meth c s₁ B hml hv
  obtain ⟨rfl, hsz, hP, hK, hD0, hN, hX⟩ := hv
  subst hsz
  have hts := atoms_spec (ws := Cond.code y cc nL ret :: wAll) B.pre
  have C0 : Cx p g s m av.toArray c cc nL y.cls (va_A w s.heap.size) := ⟨B.exec, B.bytes, hml, findClass_of_methodNamed B.named, fun w h => hts w (List.mem_cons_of_mem _ h), hN, hK, fun q h => Or.inr h, hX⟩
  have hl := lv_entry av (n := nL) hfit
  rw [lg_entry_eq]
  exact body p e s m _ below meth c _ C0 B.returns B.notSynchronized (name_of_methodNamed B.named B.method).1 s.heap [] _ hP (hD0.self (sz := s.heap.size)) va_S.rf hl
