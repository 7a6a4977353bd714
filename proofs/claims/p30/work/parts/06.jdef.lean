/-! the judgement J and the contracts CT: over any heap that holds the world -/
abbrev Gh : Type := va_G × ClassId × ClassId × ClassId
abbrev gD (g : Gh) : va_G := g.1
abbrev gI (g : Gh) : ClassId := g.2.1
abbrev gL (g : Gh) : ClassId := g.2.2.1
abbrev gS (g : Gh) : ClassId := g.2.2.2
abbrev tysOf (g : Gh) : List (ClassId × FieldType) := [(gI g, .int), (gS g, .object "RopeTackle$State")]
abbrev iI (x : Int) : Int32 := Int32.ofInt x
abbrev lI (x : Int) : Int64 := Int64.ofInt x
/-- the exceptions' texts -/
def strL : List (Nat × String) := [(176, "no such value"), (256, "no such block"), (134, "no such value of a block"), (260, "out of range"), (250, "the rope is too short"), (89, "the row is full"), (97, "the row is empty"), (104, "no such end"), (258, "no such pulley"), (185, "no such entry"), (211, "the text is full"), (224, "nothing is saved")]
def isNest : Cond → Bool
  | .fieldLinkNest .. => true
  | .methodLinkNest .. => true
  | .castable .. => true
  | .declares _ => true
  | _ => false
/-- exceptions that the handler of another one doesn't catch -/
def ncL : List (String × String) := [("java/lang/IllegalArgumentException", "java/lang/IndexOutOfBoundsException"), ("java/lang/IllegalStateException", "java/lang/IndexOutOfBoundsException"), ("java/lang/IllegalStateException", "java/lang/IllegalArgumentException"), ("java/lang/IndexOutOfBoundsException", "java/lang/IllegalArgumentException"), ("java/lang/IndexOutOfBoundsException", "java/lang/IllegalStateException"), ("java/lang/IllegalArgumentException", "java/lang/IllegalStateException")]
def NX (U : State) : Prop := (∀ w ∈ tables_1, isNest w = true → va_Nw w U) ∧ (∀ q ∈ strL, ∃ a : Nat, vk_R "RopeTackle" q.1 q.2 a U) ∧ (∀ q ∈ ncL, va_Nc q.1 q.2 U) ∧ va_AO "RopeTackle$State" U
theorem NX.warm {s U : State} (hW : s.WarmedH U.vm) (h : NX s) : NX U := by
  refine ⟨fun w hw hn => ?_, fun q hq => ?_, ⟨fun q hq => (h.2.2.1 q hq).moved hW.alike, h.2.2.2.moved hW.alike⟩⟩
  · have h1 := h.1 w hw hn
    cases w <;> first | exact va_Nw.warmF hW h1 | exact va_Nw.warmM hW h1 | exact va_Nw.warmC hW h1 | exact va_Nw.warmD hW h1 | (simp [isNest] at hn; done)
  · obtain ⟨a, ha⟩ := h.2.1 q hq
    exact ⟨a, vk_R.warm hW ha⟩
theorem NX.same {u U : State} (hv : U.vm = u.vm) (h : NX u) : NX U := by
  refine ⟨fun w hw hn => ?_, fun q hq => ?_, ⟨fun q hq => (h.2.2.1 q hq).moved (by rw [hv]; exact Vm.Alike.refl _), h.2.2.2.moved (by rw [hv]; exact Vm.Alike.refl _)⟩⟩
  · have h1 := h.1 w hw hn
    cases w <;> first | exact va_Nw.same rfl hv.symm h1 | (simp [isNest] at hn; done)
  · obtain ⟨a, ha⟩ := h.2.1 q hq
    exact ⟨a, vk_R.same hv ha⟩
/-- the two statics that Throwable's constructor reads -/
def XH (A : Nat → Prop) (U : State) (H : Heap) : Prop := vx_Zq Bundle.tN "UNASSIGNED_STACK" Bundle.steD A U H ∧ vx_Zq Bundle.tN "SUPPRESSED_SENTINEL" Bundle.listD A U H
theorem XH.moved {A : Nat → Prop} {u U : State} {H : Heap} (hvm : u.vm.Alike U.vm) (h : XH A u H) : XH A U H := ⟨h.1.moved hvm, h.2.moved hvm⟩
theorem XH.kept {A : Nat → Prop} {U : State} {H H1 : Heap} (h : XH A U H) (hq : ∀ a : Nat, a < H.size → ¬ A a → H1[a]? = H[a]?) : XH A U H1 := ⟨h.1.kept hq, h.2.kept hq⟩
theorem XH.narrow {A B : Nat → Prop} {U : State} {H : Heap} (h : XH A U H) (hAB : ∀ q, B q → A q) : XH B U H := ⟨h.1.narrow hAB, h.2.narrow hAB⟩
/-- a method's start: a world of these cells -/
def PU (g : Gh) (w : va_W) (sz : Nat) (U : State) : Prop := U.heap.size = sz ∧ va_P (gD g) vwCl w U.heap ∧ va_K (gD g) vwCl (tysOf g) U ∧ va_D (fun _ => True) w ∧ NX U ∧ XH (va_A w sz) U U.heap
theorem PU.blind {g : Gh} {av : List Value} {w : va_W} {sz : Nat} : FrameBlind (va_Pc av (PU g w sz)) := fun a U gg mk ⟨h0, h1, h2, h3, h4, h5, h6⟩ =>
  ⟨h0, h1, h2, va_K.moved (u := U) (U := U.calling gg mk a) (Vm.Alike.refl U.vm) h3, h4, NX.same (u := U) rfl h5, XH.moved (u := U) (U := U.calling gg mk a) (Vm.Alike.refl U.vm) h6⟩
/-- a method's end: its answer and the world, of which Post speaks -/
def QE (g : Gh) (A : Nat → Prop) (Post : Option Value → va_W → Prop) : Array Value → State → Outcome → State → Prop := fun _ st oc t => (∃ (r : Option Value) (w' : va_W), oc = .returned r ∧ Post r w' ∧ va_P (gD g) vwCl w' t.heap ∧ va_D A w') ∧ va_F A st t
/-- a contract -/
def CT (l : Launch) (g : Gh) (y : MethodName) (cc : ByteArray) (nL : Nat) (ret : Option FieldType) (rm : Room) (av : List Value) (w : va_W) (Post : Option Value → va_W → Prop) : Prop :=
  ∀ sz : Nat, Met l y (Cond.code y cc nL ret :: wAll) rm (va_Pc av (PU g w sz)) (QE g (va_A w sz) Post) rm.cells rm.slots (va_A w sz)
/-- what stands all through a method -/
def Cx (p : Program) (g : Gh) (s : State) (m : MethodId) (args : Array Value) (c : Code) (cc : ByteArray) (nL : Nat) (own : String) (A : Nat → Prop) : Prop :=
  p.tables.exec = Jvm.exec ∧ c.code = cc ∧ c.maxLocals = nL ∧ s.vm.findClass own = some m.cls ∧ (∀ w ∈ wAll, w.before args s = true) ∧ NX s ∧ va_K (gD g) vwCl (tysOf g) s ∧ (∀ q, s.heap.size ≤ q → A q) ∧ XH A s s.heap
def J (p : Program) (l : Launch) (e : Env) (R : Room) (s : State) (m : MethodId) (args : Array Value) (below : List Frame) (meth : Method) (c : Code) (g : Gh) (A : Nat → Prop) (nL : Nat) (pc : Nat) (L : List (Nat × Value)) (S : List Value) (ws : va_W) (cells slots : Nat) (Q : State → Prop) : Prop :=
  ∀ (H : Heap) (locs : List Loc) (ls : Array Slot), va_P (gD g) vwCl ws H → va_D A ws → va_S A s.heap H locs → lv_has ls nL L → W p l e R s m args below meth c H locs cells slots Q (F0 m pc ls S)
theorem CT.intro {l : Launch} {g : Gh} {y : MethodName} {cc : ByteArray} {nL : Nat} {ret : Option FieldType} {rm : Room} {av : List Value} {w : va_W} {Post : Option Value → va_W → Prop} {own : String} {L0 : List (Nat × Value)} (hy : plainName y.cls = true) (hown : y.cls = own) (hfit : (lg_sl av).length ≤ nL) (hL : lv_args 0 av = L0)
    (body : ∀ (p : Program) (e : Env) (s : State) (m : MethodId) (args : Array Value) (below : List Frame) (meth : Method) (c : Code) (A : Nat → Prop), Cx p g s m args c cc nL own A → meth.sig.returnType = ret → meth.locks = false → J p l e rm s m args below meth c g A nL 0 L0 [] w 0 0 (MQ below (QE g A Post) args s rm.cells rm.slots A)) : CT l g y cc nL ret rm av w Post := by
  intro sz
  subst hown; subst hL
  refine Met.ofW (cc := cc) (maxL := nL) (ret := ret) hy rfl ?_
  intro p e s m args below meth c s₁ B hml hv
  obtain ⟨rfl, hsz, hP, hK, hD0, hN, hX⟩ := hv
  subst hsz
  have hts := atoms_spec (ws := Cond.code y cc nL ret :: wAll) B.pre
  have C0 : Cx p g s m av.toArray c cc nL y.cls (va_A w s.heap.size) := ⟨B.exec, B.bytes, hml, findClass_of_methodNamed B.named, fun w h => hts w (List.mem_cons_of_mem _ h), hN, hK, fun q h => Or.inr h, hX⟩
  have hl := lv_entry av (n := nL) hfit
  rw [lg_entry_eq]
  exact body p e s m _ below meth c _ C0 B.returns B.notSynchronized s.heap [] _ hP (hD0.self (sz := s.heap.size)) va_S.rf hl
/-- lists: locals behind a store -/
theorem lP {α : Type} {l : List α} {q : α} (i : Nat) (h : l[i]? = some q) : l[i]? = some q := h
