/-! the law, from its entry -/
def R_law : String := "RopeTackleLaw"
def lw_P (b : Addr) (xs : List Int32) (args : Array Value) (s : State) : Prop := args = #[.ref b] ∧ s.IntsAt b xs ∧ xs.length ≤ 260 ∧ (Jvm.Cond.and given_1 narrow_1).before args s = true
def lw_Q (_ : Array Value) (s : State) (o : Outcome) (t : State) : Prop := o = .returned (some (.int 1)) ∧ Framed s o t [] 709023 6974398
def lw_Z (below : List Frame) (a : Array Value) (s : State) : State → Prop := fun t => ∃ o, t.status = .running ∧ Ended t below o ∧ lw_Q a s o t
/-- the law's own end, with 1 on the stack, nothing written that was there before, its room as the claim has it -/
theorem lw_ret {p : Program} {l : Launch} {e : Env} {s : State} {m : MethodId} {below : List Frame} {meth : Method} {c : Code} {b : Nat} (hx : p.tables.exec = Jvm.exec) (hb : c.code = code) (hr : meth.sig.returnType = ret) (hlocks : meth.locks = false) {pc : Nat} {H : Heap} {ls : Array Slot} (hdg : decode code pc = .ok (.ireturn, 1)) : W p l e room_1 s m #[Value.ref b] below meth c H [] 709023 6974398 (lw_Z below #[Value.ref b] s) (F0 m pc ls [.int 1]) := by
  intro T hT X
  obtain ⟨fs, hret, hrun, hended, hW, hframe⟩ := X.leave (v := some (.int 1)) (hlocks := hlocks) (fun h => by rw [hr] at h; cases h)
  have hmeth' : T.vm.method? m = some meth := X.method'
  refine ⟨T.setFrames fs, ?_, .returned (some (.int 1)), hrun, hended, rfl, ⟨_, rfl⟩, hW, hframe⟩
  jvm_step X.here [X.here.top, hx, hb, hdg, hmeth', hr, ret, narrow_b1]
  (try refine ⟨rfl, ?_⟩); (try refine ⟨rfl, ?_⟩)
  first | (intro acts; rw [hret _ acts rfl rfl rfl]) | rw [hret _ _ rfl rfl rfl]
  exact Steps.refl _
/-- what holds at the law's entry: the machine, the code, the tables' words (any of lw_tbl by 'hts w (by decide +kernel)'), the script of L ints xs at the cell b, what the Statement gives of the start (any of its parts by flat_of_before) -/
def lw_At (p : Program) (s : State) (m : MethodId) (meth : Method) (c : Code) (b L : Nat) (xs : Nat → Int32) : Prop :=
  p.tables.exec = Jvm.exec ∧ c.code = code ∧ meth.sig.returnType = ret ∧ c.maxLocals = 8 ∧ s.vm.findClass R_law = some m.cls ∧ (∀ w ∈ lw_tbl, w.before #[Value.ref b] s = true) ∧ va_X b L xs s s.heap ∧ b < s.heap.size ∧ meth.locks = false ∧ (Jvm.Cond.and given_1 narrow_1).before #[Value.ref b] s = true
def lawA (s : State) : Nat → Prop := fun q => s.heap.size ≤ q
theorem law_end {p : Program} {l : Launch} {e : Env} {s : State} {m : MethodId} {below : List Frame} {meth : Method} {c : Code} {g : Gh} {r : Nat → Nat} {qn qt : Nat → Nat} {qv : Nat → Nat → Nat} {b0 : Nat} (C : Cx p g s m #[Value.ref b0] c cL_law 8 RL (lawA s)) (hl : l.stackTraces = false) (hr : meth.sig.returnType = ret) (hlk : meth.locks = false) (kn kt : Nat → Nat → Int) (kv : Nat → Nat → Nat → Int) (sc : Int) (ns : Nat) (tx : Nat → Int) (tn : Nat) (pl : Int) (hI : IV 152 kn kv sc ns tx tn) : J p l e room_1 s m #[Value.ref b0] below meth c g (lawA s) 8 259 [(0, .ref b0), (1, .ref (r 0)), (2, .int (iI 1))] [] (wTp g r qn qt qv kn kt kv sc ns tx tn pl) (75 + 750) (733 + 4380) (lw_Z below #[Value.ref b0] s) := by
  have hT := hI.1
  refine j_iload_n C 2 dL_law_259 rfl rfl ?_
  refine j_if_eq (tgt := 274) C (by decide) dL_law_260 (by decide) (fun c260 => absurd c260 (by decide)) (fun c260 => ?_)
  refine j_aload_n C 1 dL_law_263 rfl rfl ?_
  refine j_callS (As := [.ref (r 0)]) (rest := []) C ys_L_refused qw498 (c_L_refused l hl g r qn qt qv kn kt kv sc ns tx tn pl hT) (by decide) rfl dL_law_264 rfl (Nat.le_of_ble_eq_true rfl) (by decide) pf0 rfl (fun r9 w9 hq9 => ?_)
  obtain ⟨rfl, kt_1, rfl⟩ := hq9
  refine J.to (L1 := [(0, .ref b0), (1, .ref (r 0)), (2, .int (iI 1))]) (S1 := [.int (iI 1)]) (ws1 := (wTp g r qn qt qv kn kt_1 kv sc ns tx tn pl)) rfl rfl rfl ?_
  refine j_if_eq (tgt := 274) C (by decide) dL_law_267 (by decide) (fun c267 => absurd c267 (by decide)) (fun c267 => ?_)
  refine j_iconst C dL_law_270 ?_
  refine j_goto (tgt := 275) C dL_law_271 (by decide) ?_
  intro H locs ls hP hD hS h
  refine va_forget (fun q hq => hS.2.2 q hq) ?_
  refine W.widen (k := 709023) (n := 6974398) (by decide) (by decide) ?_
  exact lw_ret C.1 C.2.1 hr hlk dL_law_275
theorem str_in : ∀ q ∈ strL, Cond.stringRef "RopeTackle" q.1 q.2 ∈ tables_1 := by decide +kernel
theorem str_ex : ∀ q ∈ strL, Cond.exactly (.string "RopeTackle" q.1) "java/lang/String" ∈ flatC (Jvm.Cond.and given_1 narrow_1) := by decide +kernel
theorem nc_in : ∀ q ∈ ncL, Cond.not (.castable q.1 q.2) ∈ flatC (Jvm.Cond.and given_1 narrow_1) := by decide +kernel
theorem law_nx {s : State} {b : Nat} (hts : ∀ w ∈ lw_tbl, w.before #[Value.ref b] s = true) (hgv : (Jvm.Cond.and given_1 narrow_1).before #[Value.ref b] s = true) : NX s := by
  have hs := flat_of_before _ hgv
  refine ⟨fun w hw hn => ?_, fun q hq => ?_, fun q hq => va_Nc.of (hs _ (nc_in q hq)), va_AO.of (hts _ (by decide +kernel))⟩
  · exact va_Nw.of (by cases w <;> first | rfl | (simp [isNest] at hn; done)) (hts w (tbl_in hw))
  · obtain ⟨a, c, cell, k, h1, -⟩ := Cond.exactly_spec (hs _ (str_ex q hq))
    exact ⟨a, vk_R.of (A := #[]) (hts _ (tbl_in (str_in q hq))) h1⟩
theorem law_xh {s : State} {b : Nat} (hts : ∀ w ∈ lw_tbl, w.before #[Value.ref b] s = true) (hgv : (Jvm.Cond.and given_1 narrow_1).before #[Value.ref b] s = true) : XH (lawA s) s s.heap := by
  have hs := flat_of_before _ hgv
  exact ⟨vx_Zqof (hts _ (by decide +kernel)) (hts _ (by decide +kernel)) (hs _ (by decide +kernel)) (fun a h => Nat.not_le.mpr h), vx_Zqof (hts _ (by decide +kernel)) (hts _ (by decide +kernel)) (hs _ (by decide +kernel)) (fun a h => Nat.not_le.mpr h)⟩
theorem law_arr {s : State} {b : Nat} {ty : FieldType} (h : (Cond.arrayClass ty).before #[Value.ref b] s = true) (hty : ∀ C, ty ≠ .object C) : ∃ cA : ClassId, ArrOfT s cA ty ∧ va_RA s cA ty := by
  obtain ⟨cA, kA, comp, h1, h2, h3⟩ := Cond.arrayClass_spec h
  refine ⟨cA, fun n z => ⟨fun k h => (by cases h), kA, h2, comp, h3⟩, ?_⟩
  cases ty <;> first | exact h1 | exact absurd rfl (hty _)
theorem law_arq {s : State} {b : Nat} {C : String} (h : (Cond.arrayOver (.object C)).before #[Value.ref b] s = true) : ∃ cA : ClassId, ArrOfT s cA (.object C) ∧ va_RA s cA (.object C) := by
  obtain ⟨comp, cA, kA, h1, -, h3, h4, h5⟩ := Cond.arrayOver_spec h
  exact ⟨cA, fun n z => ⟨fun k h => (by cases h), kA, h3, comp, h4⟩, kA, comp, h3, h4, h1, h5⟩
theorem law_k {s : State} {b : Nat} (hts : ∀ w ∈ lw_tbl, w.before #[Value.ref b] s = true) : ∃ g : Gh, va_K (gD g) vwCl (tysOf g) s := by
  have htA : ∀ w ∈ wAll, w.before #[Value.ref b] s = true := fun w h => hts w (wAll_tbl h)
  obtain ⟨c0, i0, k0⟩ := u_known (C := RX0) (T := TX0) (N := 7) (n := 7) htA ck0.1 (htA _ qw53)
  obtain ⟨c1, i1, k1⟩ := u_known (C := RX1) (T := TX1) (N := 4) (n := 4) htA ck1.1 (htA _ qw28)
  obtain ⟨c2, i2, k2⟩ := u_known (C := RX2) (T := TX2) (N := 6) (n := 6) htA ck2.1 (htA _ qw22)
  obtain ⟨c3, i3, k3⟩ := u_known (C := RX3) (T := TX3) (N := 3) (n := 3) htA ck3.1 (htA _ qw113)
  obtain ⟨c4, i4, k4⟩ := u_known (C := RX4) (T := TX4) (N := 6) (n := 6) htA ck4.1 (htA _ qw14)
  obtain ⟨aI9, hI1, hI2⟩ := law_arr (htA _ qw51) (fun C h => by cases h)
  obtain ⟨aS9, hS1, hS2⟩ := law_arq (C := "RopeTackle$State") (hts (.arrayOver (.object "RopeTackle$State")) (by decide +kernel))
  refine ⟨((fun k => match k with | 0 => c0 | 1 => c1 | 2 => c2 | 3 => c3 | _ => c4, fun k => match k with | 0 => i0 | 1 => i1 | 2 => i2 | 3 => i3 | _ => i4), aI9, aI9, aS9), fun k q hq => ?_, fun k q hq => ?_⟩
  · match k, hq with
    | 0, hq => cases hq; exact k0
    | 1, hq => cases hq; exact k1
    | 2, hq => cases hq; exact k2
    | 3, hq => cases hq; exact k3
    | 4, hq => cases hq; exact k4
    | k + 5, hq => simp [vwCl] at hq
  · match k, hq with
    | 0, hq => cases hq; exact ⟨hI1, hI2⟩
    | 1, hq => cases hq; exact ⟨hS1, hS2⟩
    | k + 2, hq => simp [tysOf] at hq
