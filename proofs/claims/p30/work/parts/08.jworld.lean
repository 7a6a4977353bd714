section JW
theorem wP_iff {D : va_G} {cl : List vw_C} {ws : va_W} {H : Heap} : va_P D cl ws H ↔ ∀ q ∈ ws, va_at D cl q H := by
  refine ⟨fun h q hq => ?_, fun h k q hk => h q (List.mem_of_getElem? hk)⟩
  obtain ⟨i, hi⟩ := List.getElem?_of_mem hq
  exact h i q hi
theorem wD_iff {A : Nat → Prop} {ws : va_W} : va_D A ws ↔ (ws.map (fun q => q.1)).Nodup ∧ ∀ q ∈ ws, A q.1 := by
  constructor
  · intro h
    refine ⟨?_, fun q hq => ?_⟩
    · rw [List.Nodup, List.pairwise_iff_getElem]
      intro i j hi hj hij he
      simp only [List.length_map] at hi hj
      simp only [List.getElem_map] at he
      have := h.1 i j _ _ (List.getElem?_eq_getElem hi) (List.getElem?_eq_getElem hj) he
      omega
    · obtain ⟨i, hi⟩ := List.getElem?_of_mem hq
      exact h.2 i q hi
  · rintro ⟨hn, hA⟩
    refine ⟨fun i j p q hi hj he => ?_, fun k q hk => hA q (List.mem_of_getElem? hk)⟩
    rw [List.Nodup, List.pairwise_iff_getElem] at hn
    have li := (List.getElem?_eq_some_iff.mp hi).1
    have lj := (List.getElem?_eq_some_iff.mp hj).1
    have ei := (List.getElem?_eq_some_iff.mp hi).2
    have ej := (List.getElem?_eq_some_iff.mp hj).2
    rcases Nat.lt_trichotomy i j with h | h | h
    · have h9 := hn i j (by simpa using li) (by simpa using lj) h
      simp only [List.getElem_map, ei, ej] at h9
      exact absurd he h9
    · exact h
    · have h9 := hn j i (by simpa using lj) (by simpa using li) h
      simp only [List.getElem_map, ei, ej] at h9
      exact absurd he.symm h9
theorem wP_perm {D : va_G} {cl : List vw_C} {w1 w2 : va_W} {H : Heap} (hp : w1.Perm w2) (h : va_P D cl w1 H) : va_P D cl w2 H := wP_iff.mpr fun q hq => wP_iff.mp h q (hp.mem_iff.mpr hq)
theorem wD_perm {A : Nat → Prop} {w1 w2 : va_W} (hp : w1.Perm w2) (h : va_D A w1) : va_D A w2 := by
  rw [wD_iff] at h ⊢
  exact ⟨(hp.map _).nodup_iff.mp h.1, fun q hq => h.2 q (hp.mem_iff.mpr hq)⟩
theorem wA_iff {ws : va_W} {sz q : Nat} : va_A ws sz q ↔ (∃ e ∈ ws, e.1 = q) ∨ sz ≤ q := by
  constructor
  · rintro (⟨k, e, h⟩ | h)
    · exact Or.inl ⟨(q, e), List.mem_of_getElem? h, rfl⟩
    · exact Or.inr h
  · rintro (⟨e, h, rfl⟩ | h)
    · obtain ⟨i, hi⟩ := List.getElem?_of_mem h
      exact Or.inl ⟨i, e.2, hi⟩
    · exact Or.inr h
/-- behind a call: the callee's new world beside the rest -/
theorem wJoin {A : Nat → Prop} {D : va_G} {cl : List vw_C} {wc wr w1 : va_W} {H H1 : Heap} (hP : va_P D cl (wc ++ wr) H) (hD : va_D A (wc ++ wr)) (hA : ∀ q, va_A wc H.size q → A q) (hP1 : va_P D cl w1 H1) (hD1 : va_D (va_A wc H.size) w1) (hk : ∀ q : Nat, q < H.size → ¬ va_A wc H.size q → H1[q]? = H[q]?) : va_P D cl (w1 ++ wr) H1 ∧ va_D A (w1 ++ wr) := by
  rw [wP_iff] at hP hP1 ⊢
  rw [wD_iff] at hD hD1 ⊢
  obtain ⟨hn, hAA⟩ := hD
  rw [List.map_append, List.nodup_append] at hn
  have apart : ∀ q ∈ wr, q.1 < H.size ∧ ¬ va_A wc H.size q.1 := by
    intro q hq
    have hl := (hP q (List.mem_append_right _ hq)).lt
    refine ⟨hl, fun h => ?_⟩
    rcases wA_iff.mp h with ⟨e, he, h9⟩ | h9
    · exact hn.2.2 _ (List.mem_map.mpr ⟨e, he, rfl⟩) _ (List.mem_map.mpr ⟨q, hq, rfl⟩) h9
    · omega
  refine ⟨fun q hq => ?_, ?_, fun q hq => ?_⟩
  · rcases List.mem_append.mp hq with h | h
    · exact hP1 q h
    · exact (hP q (List.mem_append_right _ h)).kept (hk q.1 (apart q h).1 (apart q h).2)
  · rw [List.map_append, List.nodup_append]
    refine ⟨hD1.1, hn.2.1, fun a ha b hb hab => ?_⟩
    obtain ⟨x, hx, rfl⟩ := List.mem_map.mp ha
    obtain ⟨y, hy, rfl⟩ := List.mem_map.mp hb
    exact (apart y hy).2 (hab ▸ hD1.2 x hx)
  · rcases List.mem_append.mp hq with h | h
    · exact hA _ (hD1.2 q h)
    · exact hAA q (List.mem_append_right _ h)
theorem pf0 : ∀ w : va_W, w.Perm (w ++ []) := fun w => by rw [List.append_nil]
theorem pf1 (pre post : va_W) : ∀ w : va_W, (pre ++ (w ++ post)).Perm (w ++ (pre ++ post)) := fun w => by
  rw [← List.append_assoc, ← List.append_assoc]
  exact List.Perm.append_right post List.perm_append_comm
theorem pf2 (pre : va_W) (n : Nat) (mid post : va_W) : ∀ w : va_W, (pre ++ (w.take n ++ (mid ++ (w.drop n ++ post)))).Perm (w ++ (pre ++ (mid ++ post))) := fun w => by
  have h1 : (pre ++ (w.take n ++ (mid ++ (w.drop n ++ post)))).Perm (w.take n ++ (pre ++ (mid ++ (w.drop n ++ post)))) := pf1 pre _ _
  have h2 : (pre ++ (mid ++ (w.drop n ++ post))).Perm (w.drop n ++ (pre ++ (mid ++ post))) := by
    have := pf1 (pre ++ mid) post (w.drop n)
    rw [List.append_assoc, List.append_assoc] at this
    exact this
  have h3 := h1.trans (List.Perm.append_left (w.take n) h2)
  rw [show w.take n ++ (w.drop n ++ (pre ++ (mid ++ post))) = w ++ (pre ++ (mid ++ post)) by rw [← List.append_assoc, List.take_append_drop]] at h3
  exact h3
/-- a class of the worlds: its fields and what the tables say of them -/
def CK (ci : Nat) (C' : String) (T : u_T) (N : Nat) (ty0 : Nat → FieldType) : Prop := (∀ w ∈ u_ws C' T N, w ∈ wAll) ∧ (∀ k, k < N → parseFieldDescriptor (T k).2.2.1 = some (ty0 k)) ∧ (∀ a, a < N → ∀ b, b < N → a ≠ b → (T a).2.1 ≠ (T b).2.1) ∧ vwCl[ci]? = some (C', T, N)
theorem ck0 : CK 0 RX0 TX0 7 tyX0 := ⟨by decide +kernel, tyX0_ok, nmX0, rfl⟩
theorem ck1 : CK 1 RX1 TX1 4 tyX1 := ⟨by decide +kernel, tyX1_ok, nmX1, rfl⟩
theorem ck2 : CK 2 RX2 TX2 6 tyX2 := ⟨by decide +kernel, tyX2_ok, nmX2, rfl⟩
theorem ck3 : CK 3 RX3 TX3 3 tyX3 := ⟨by decide +kernel, tyX3_ok, nmX3, rfl⟩
theorem ck4 : CK 4 RX4 TX4 6 tyX4 := ⟨by decide +kernel, tyX4_ok, nmX4, rfl⟩
variable {p : Program} {l : Launch} {e : Env} {R : Room} {s : State} {m : MethodId} {args : Array Value} {below : List Frame} {meth : Method} {c : Code} {g : Gh} {A : Nat → Prop} {cc : ByteArray} {nL : Nat} {own : String} {pc : Nat} {L : List (Nat × Value)} {S : List Value} {ws : va_W} {cells slots : Nat} {Q : State → Prop}
theorem J.world {ws1 : va_W} (h : ws = ws1) (kk : J p l e R s m args below meth c g A nL pc L S ws1 cells slots Q) : J p l e R s m args below meth c g A nL pc L S ws cells slots Q := h ▸ kk
theorem J.to {ws1 : va_W} {L1 : List (Nat × Value)} {S1 : List Value} (h : ws = ws1) (hL : L = L1) (hS : S = S1) (kk : J p l e R s m args below meth c g A nL pc L1 S1 ws1 cells slots Q) : J p l e R s m args below meth c g A nL pc L S ws cells slots Q := by subst h; subst hL; subst hS; exact kk
theorem J.sub {L1 : List (Nat × Value)} (ks : List Nat) (hl : lv_pick L ks = L1) (kk : J p l e R s m args below meth c g A nL pc L1 S ws cells slots Q) : J p l e R s m args below meth c g A nL pc L S ws cells slots Q := fun H locs ls hP hD hS h => kk H locs ls hP hD hS (lv_sub h ks hl)
theorem J.wide {k n : Nat} (h1 : cells ≤ k) (h2 : slots ≤ n) (kk : J p l e R s m args below meth c g A nL pc L S ws k n Q) : J p l e R s m args below meth c g A nL pc L S ws cells slots Q := fun H locs ls hP hD hS h => W.widen h1 h2 (kk H locs ls hP hD hS h)
theorem J.perm {w1 : va_W} (hp : ws.Perm w1) (kk : J p l e R s m args below meth c g A nL pc L S w1 cells slots Q) : J p l e R s m args below meth c g A nL pc L S ws cells slots Q := fun H locs ls hP hD hS h => kk H locs ls (wP_perm hp hP) (wD_perm hp hD) hS h
theorem j_get (C : Cx p g s m args c cc nL own A) {ci index : Nat} {C' : String} {T : u_T} {N : Nat} {ty0 : Nat → FieldType} {a : Nat} {fs : List Value} {v : Value} (K : CK ci C' T N ty0) (q0 k : Nat) (hk : k < N) (hw : Cond.fieldLink own index (T k).1 (T k).2.1 (T k).2.2.1 ∈ wAll) (he : ws[q0]? = some (a, .inr (ci, fs))) (hv : fs[k]? = some v) (hd : decode cc pc = .ok (.getfield index, 3)) (kk : J p l e R s m args below meth c g A nL (pc + 3) L (v :: S) ws cells slots Q) : J p l e R s m args below meth c g A nL pc L (.ref a :: S) ws cells slots Q := by
  intro H locs ls hP hD hS h
  exact va_get C.1 C.2.1 C.2.2.2.2.1 K.1 C.2.2.2.1 C.2.2.2.2.2.2.1 hP q0 he K.2.2.2 k hk (C.2.2.2.2.1 _ hw) (fun _ h9 => h9) hv hd (kk H locs ls hP hD hS h)
theorem j_getN (C : Cx p g s m args c cc nL own A) {ci index : Nat} {C' : String} {T : u_T} {N : Nat} {ty0 : Nat → FieldType} {a : Nat} {fs : List Value} {v : Value} {host : String} (K : CK ci C' T N ty0) (q0 k : Nat) (hk : k < N) (hw : Cond.fieldLinkNest own index (T k).1 (T k).2.1 (T k).2.2.1 host ∈ tables_1) (he : ws[q0]? = some (a, .inr (ci, fs))) (hv : fs[k]? = some v) (hd : decode cc pc = .ok (.getfield index, 3)) (kk : J p l e R s m args below meth c g A nL (pc + 3) L (v :: S) ws cells slots Q) : J p l e R s m args below meth c g A nL pc L (.ref a :: S) ws cells slots Q := by
  intro H locs ls hP hD hS h
  exact va_getN C.1 C.2.1 C.2.2.2.2.1 K.1 C.2.2.2.1 C.2.2.2.2.2.2.1 hP q0 he K.2.2.2 k hk (va_Nw.use rfl (C.2.2.2.2.2.1.1 _ hw rfl)) (fun _ h9 => h9) hv hd (kk H locs ls hP hD hS h)
theorem j_put (C : Cx p g s m args c cc nL own A) {ci index : Nat} {C' : String} {T : u_T} {N : Nat} {ty0 : Nat → FieldType} {a : Nat} {fs : List Value} {v : Value} {ws1 : va_W} (K : CK ci C' T N ty0) (q0 k : Nat) (hk : k < N) (hw : Cond.fieldLink own index (T k).1 (T k).2.1 (T k).2.2.1 ∈ wAll) (he : ws[q0]? = some (a, .inr (ci, fs))) (hd : decode cc pc = .ok (.putfield index, 3)) (hws : ws.set q0 (a, .inr (ci, fs.set k v)) = ws1) (hfin : (T k).2.2.2 = false) (hn : narrow (ty0 k) v = v) (hfit : fits (ty0 k) v = true) (hl : k < fs.length) (kk : J p l e R s m args below meth c g A nL (pc + 3) L S ws1 cells slots Q) : J p l e R s m args below meth c g A nL pc L (v :: .ref a :: S) ws cells slots Q := by
  intro H locs ls hP hD hS h
  subst hws
  exact va_put C.1 C.2.1 C.2.2.2.2.1 K.1 ty0 K.2.1 K.2.2.1 C.2.2.2.1 C.2.2.2.2.2.2.1 hP hD hS q0 he K.2.2.2 k hk (C.2.2.2.2.1 _ hw) (fun _ h9 => h9) hfin (K.2.1 k hk) hn hfit hl hd (fun H1 locs1 hP hD hS => kk H1 locs1 ls hP hD hS h)
theorem j_putN (C : Cx p g s m args c cc nL own A) {ci index : Nat} {C' : String} {T : u_T} {N : Nat} {ty0 : Nat → FieldType} {a : Nat} {fs : List Value} {v : Value} {ws1 : va_W} {host : String} (K : CK ci C' T N ty0) (q0 k : Nat) (hk : k < N) (hw : Cond.fieldLinkNest own index (T k).1 (T k).2.1 (T k).2.2.1 host ∈ tables_1) (he : ws[q0]? = some (a, .inr (ci, fs))) (hd : decode cc pc = .ok (.putfield index, 3)) (hws : ws.set q0 (a, .inr (ci, fs.set k v)) = ws1) (hfin : (T k).2.2.2 = false) (hn : narrow (ty0 k) v = v) (hfit : fits (ty0 k) v = true) (hl : k < fs.length) (kk : J p l e R s m args below meth c g A nL (pc + 3) L S ws1 cells slots Q) : J p l e R s m args below meth c g A nL pc L (v :: .ref a :: S) ws cells slots Q := by
  intro H locs ls hP hD hS h
  subst hws
  exact va_putN C.1 C.2.1 C.2.2.2.2.1 K.1 ty0 K.2.1 K.2.2.1 C.2.2.2.1 C.2.2.2.2.2.2.1 hP hD hS q0 he K.2.2.2 k hk (va_Nw.use rfl (C.2.2.2.2.2.1.1 _ hw rfl)) (fun _ h9 => h9) hfin (K.2.1 k hk) hn hfit hl hd (fun H1 locs1 hP hD hS => kk H1 locs1 ls hP hD hS h)
theorem j_putF (C : Cx p g s m args c cc nL own A) {ci index : Nat} {C' : String} {T : u_T} {N : Nat} {ty0 : Nat → FieldType} {a : Nat} {fs : List Value} {v : Value} {ws1 : va_W} (hin2 : meth.name = "<init>") (K : CK ci C' T N ty0) (q0 k : Nat) (hk : k < N) (hw : Cond.fieldLink own index (T k).1 (T k).2.1 (T k).2.2.1 ∈ wAll) (hdecl : (T k).1 = own) (he : ws[q0]? = some (a, .inr (ci, fs))) (hd : decode cc pc = .ok (.putfield index, 3)) (hws : ws.set q0 (a, .inr (ci, fs.set k v)) = ws1) (hfin : (T k).2.2.2 = true) (hn : narrow (ty0 k) v = v) (hfit : fits (ty0 k) v = true) (hl : k < fs.length) (kk : J p l e R s m args below meth c g A nL (pc + 3) L S ws1 cells slots Q) : J p l e R s m args below meth c g A nL pc L (v :: .ref a :: S) ws cells slots Q := by
  intro H locs ls hP hD hS h
  subst hws
  exact va_putF C.1 C.2.1 C.2.2.2.2.1 K.1 ty0 K.2.1 K.2.2.1 C.2.2.2.1 C.2.2.2.2.2.2.1 hP hD hS q0 he K.2.2.2 k hk (C.2.2.2.2.1 _ hw) (fun _ h9 => h9) hfin hin2 hdecl (K.2.1 k hk) hn hfit hl hd (fun H1 locs1 hP hD hS => kk H1 locs1 ls hP hD hS h)
theorem j_iald (C : Cx p g s m args c cc nL own A) {a n : Nat} {f : Nat → Int} {i : Int} (q0 k : Nat) (he : ws[q0]? = some (a, .inl (gI g, n, .inl (fun j => iI (f j))))) (hk : i = (k : Int)) (hn : k < n) (hN : (n : Int) ≤ 2147483648) (hd : decode cc pc = .ok (.iaload, 1)) (kk : J p l e R s m args below meth c g A nL (pc + 1) L (.int (iI (f k)) :: S) ws cells slots Q) : J p l e R s m args below meth c g A nL pc L (.int (iI i) :: .ref a :: S) ws cells slots Q := by
  intro H locs ls hP hD hS h
  refine va_iald C.1 C.2.1 C.2.2.2.2.2.2.1 hP q0 0 he rfl (iI_in hk hn hN) hd ?_
  rw [iI_clamp hk (by omega)]
  exact kk H locs ls hP hD hS h
theorem j_iast (C : Cx p g s m args c cc nL own A) {a n : Nat} {f : Nat → Int} {i x : Int} {ws1 : va_W} (q0 k : Nat) (he : ws[q0]? = some (a, .inl (gI g, n, .inl (fun j => iI (f j))))) (hk : i = (k : Int)) (hn : k < n) (hN : (n : Int) ≤ 2147483648) (hd : decode cc pc = .ok (.iastore, 1)) (hws : ws.set q0 (a, .inl (gI g, n, .inl (fun j => iI (va_up f k x j)))) = ws1) (kk : J p l e R s m args below meth c g A nL (pc + 1) L S ws1 cells slots Q) : J p l e R s m args below meth c g A nL pc L (.int (iI x) :: .int (iI i) :: .ref a :: S) ws cells slots Q := by
  intro H locs ls hP hD hS h
  subst hws
  refine va_iast C.1 C.2.1 C.2.2.2.2.2.2.1 hP hD hS q0 0 he rfl (iI_in hk hn hN) hd (fun H1 locs1 hP hD hS => ?_)
  rw [iI_clamp hk (by omega), va_up_iI] at hP hD
  exact kk H1 locs1 ls hP hD hS h
theorem j_ilen (C : Cx p g s m args c cc nL own A) {a n : Nat} {f : Nat → Int} {v : Int} (q0 : Nat) (he : ws[q0]? = some (a, .inl (gI g, n, .inl (fun j => iI (f j))))) (hv : (n : Int) = v) (hd : decode cc pc = .ok (.arraylength, 1)) (kk : J p l e R s m args below meth c g A nL (pc + 1) L (.int (iI v) :: S) ws cells slots Q) : J p l e R s m args below meth c g A nL pc L (.ref a :: S) ws cells slots Q := by
  intro H locs ls hP hD hS h
  subst hv
  exact va_alen C.1 C.2.1 C.2.2.2.2.2.2.1 hP q0 0 he rfl (iI_nI n).symm hd (kk H locs ls hP hD hS h)
theorem j_aald (C : Cx p g s m args c cc nL own A) {a n : Nat} {f : Nat → Option Nat} {i : Int} {b : Nat} (q0 k : Nat) (he : ws[q0]? = some (a, .inl (gS g, n, .inr (.inr (.inr (.inr f)))))) (hk : i = (k : Int)) (hn : k < n) (hN : (n : Int) ≤ 2147483648) (hb : f k = some b) (hd : decode cc pc = .ok (.aaload, 1)) (kk : J p l e R s m args below meth c g A nL (pc + 1) L (.ref b :: S) ws cells slots Q) : J p l e R s m args below meth c g A nL pc L (.int (iI i) :: .ref a :: S) ws cells slots Q := by
  intro H locs ls hP hD hS h
  refine va_aldq C.1 C.2.1 C.2.2.2.2.2.2.1 hP q0 1 he rfl (iI_in hk hn hN) hd ?_
  rw [iI_clamp hk (by omega), hb]
  exact kk H locs ls hP hD hS h
theorem j_aalen (C : Cx p g s m args c cc nL own A) {a n : Nat} {f : Nat → Option Nat} {v : Int} (q0 : Nat) (he : ws[q0]? = some (a, .inl (gS g, n, .inr (.inr (.inr (.inr f)))))) (hv : (n : Int) = v) (hd : decode cc pc = .ok (.arraylength, 1)) (kk : J p l e R s m args below meth c g A nL (pc + 1) L (.int (iI v) :: S) ws cells slots Q) : J p l e R s m args below meth c g A nL pc L (.ref a :: S) ws cells slots Q := by
  intro H locs ls hP hD hS h
  subst hv
  exact va_alen C.1 C.2.1 C.2.2.2.2.2.2.1 hP q0 1 he rfl (iI_nI n).symm hd (kk H locs ls hP hD hS h)
theorem j_ifnull (C : Cx p g s m args c cc nL own A) {x : Nat} {off : Int} (hd : decode cc pc = .ok (.ifnull off, 3)) (kk : J p l e R s m args below meth c g A nL (pc + 3) L S ws cells slots Q) : J p l e R s m args below meth c g A nL pc L (.ref x :: S) ws cells slots Q := by
  intro H locs ls hP hD hS h
  exact lv_ifnull C.1 C.2.1 hd (kk H locs ls hP hD hS h)
theorem j_iret (C : Cx p g s m args c cc nL own A) {Post : Option Value → va_W → Prop} {mc ms : Nat} {v : Int32} (hr : meth.sig.returnType = some .int) (hlk : meth.locks = false) (hd : decode cc pc = .ok (.ireturn, 1)) (hpo : Post (some (.int v)) ws) (hc : cells ≤ mc) (hs : slots ≤ ms) : J p l e R s m args below meth c g A nL pc L [.int v] ws cells slots (MQ below (QE g A Post) args s mc ms A) := by
  intro H locs ls hP hD hS h
  refine W.widen hc hs ?_
  exact W.iret C.1 C.2.1 hr (fun t ht hW => ⟨⟨_, ws, rfl, hpo, by rw [ht]; exact hP, hD⟩, hS.F ht⟩) hS.2.2 hd hlk
theorem j_zret (C : Cx p g s m args c cc nL own A) {Post : Option Value → va_W → Prop} {mc ms : Nat} {v : Int32} (hr : meth.sig.returnType = some .boolean) (hlk : meth.locks = false) (hv : narrow .boolean (.int v) = .int v) (hd : decode cc pc = .ok (.ireturn, 1)) (hpo : Post (some (.int v)) ws) (hc : cells ≤ mc) (hs : slots ≤ ms) : J p l e R s m args below meth c g A nL pc L [.int v] ws cells slots (MQ below (QE g A Post) args s mc ms A) := by
  intro H locs ls hP hD hS h
  refine W.widen hc hs ?_
  exact W.zret C.1 C.2.1 hr hv (fun t ht hW => ⟨⟨_, ws, rfl, hpo, by rw [ht]; exact hP, hD⟩, hS.F ht⟩) hS.2.2 hd hlk
theorem j_lret (C : Cx p g s m args c cc nL own A) {Post : Option Value → va_W → Prop} {mc ms : Nat} {v : Int64} (hr : meth.sig.returnType = some .long) (hlk : meth.locks = false) (hd : decode cc pc = .ok (.lreturn, 1)) (hpo : Post (some (.long v)) ws) (hc : cells ≤ mc) (hs : slots ≤ ms) : J p l e R s m args below meth c g A nL pc L [.long v] ws cells slots (MQ below (QE g A Post) args s mc ms A) := by
  intro H locs ls hP hD hS h
  refine W.widen hc hs ?_
  exact W.lret C.1 C.2.1 hr (fun t ht hW => ⟨⟨_, ws, rfl, hpo, by rw [ht]; exact hP, hD⟩, hS.F ht⟩) hS.2.2 hd hlk
theorem j_dret (C : Cx p g s m args c cc nL own A) {Post : Option Value → va_W → Prop} {mc ms : Nat} {v : UInt64} (hr : meth.sig.returnType = some .double) (hlk : meth.locks = false) (hd : decode cc pc = .ok (.dreturn, 1)) (hpo : Post (some (.double v)) ws) (hc : cells ≤ mc) (hs : slots ≤ ms) : J p l e R s m args below meth c g A nL pc L [.double v] ws cells slots (MQ below (QE g A Post) args s mc ms A) := by
  intro H locs ls hP hD hS h
  refine W.widen hc hs ?_
  exact W.dret C.1 C.2.1 hr (fun t ht hW => ⟨⟨_, ws, rfl, hpo, by rw [ht]; exact hP, hD⟩, hS.F ht⟩) hS.2.2 hd hlk
theorem j_vret (C : Cx p g s m args c cc nL own A) {Post : Option Value → va_W → Prop} {mc ms : Nat}  (hr : meth.sig.returnType = none) (hlk : meth.locks = false) (hd : decode cc pc = .ok (.return_, 1)) (hpo : Post none ws) (hc : cells ≤ mc) (hs : slots ≤ ms) : J p l e R s m args below meth c g A nL pc L [] ws cells slots (MQ below (QE g A Post) args s mc ms A) := by
  intro H locs ls hP hD hS h
  refine W.widen hc hs ?_
  exact W.vret C.1 C.2.1 hr (fun t ht hW => ⟨⟨_, ws, rfl, hpo, by rw [ht]; exact hP, hD⟩, hS.F ht⟩) hS.2.2 hd hlk
theorem j_aret (C : Cx p g s m args c cc nL own A) {Post : Option Value → va_W → Prop} {mc ms : Nat} {v : Nat} {n : String} (hr : meth.sig.returnType = some (.object n)) (hlk : meth.locks = false) (hd : decode cc pc = .ok (.areturn, 1)) (hpo : Post (some (.ref v)) ws) (hc : cells ≤ mc) (hs : slots ≤ ms) : J p l e R s m args below meth c g A nL pc L [.ref v] ws cells slots (MQ below (QE g A Post) args s mc ms A) := by
  intro H locs ls hP hD hS h
  refine W.widen hc hs ?_
  exact W.aret C.1 C.2.1 hr (Or.inl ⟨_, rfl⟩) (Or.inr ⟨_, rfl⟩) (fun t ht hW => ⟨⟨_, ws, rfl, hpo, by rw [ht]; exact hP, hD⟩, hS.F ht⟩) hS.2.2 hd hlk
/-- a method, whoever calls it -/
def YV (y : MethodName) (C' : String) (bytes : ByteArray) (maxL : Nat) (ret : Option FieldType) (n : Nat) : Prop := Cond.instanceMethod y ∈ wAll ∧ Cond.selects C' y y ∈ wAll ∧ Cond.initialized C' ∈ wAll ∧ Cond.code y bytes maxL ret ∈ wAll ∧ y.cls = C' ∧ (y.cls ≠ "java/lang/invoke/MethodHandle" ∧ y.cls ≠ "java/lang/invoke/VarHandle") ∧ (parseMethodDescriptor y.desc).map (fun d => d.parameters.length) = some n
def YS (y : MethodName) (C' : String) (bytes : ByteArray) (maxL : Nat) (ret : Option FieldType) (n : Nat) : Prop := Cond.static y ∈ wAll ∧ Cond.initialized C' ∈ wAll ∧ Cond.code y bytes maxL ret ∈ wAll ∧ y.cls = C' ∧ (y.cls ≠ "java/lang/invoke/MethodHandle" ∧ y.cls ≠ "java/lang/invoke/VarHandle") ∧ (parseMethodDescriptor y.desc).map (fun d => d.parameters.length) = some n
def YI (y : MethodName) (C' : String) (bytes : ByteArray) (maxL : Nat) (n : Nat) : Prop := Cond.instanceMethod y ∈ wAll ∧ Cond.initialized C' ∈ wAll ∧ Cond.code y bytes maxL none ∈ wAll ∧ y.cls = C' ∧ y.name = "<init>" ∧ (y.cls ≠ "java/lang/invoke/MethodHandle" ∧ y.cls ≠ "java/lang/invoke/VarHandle") ∧ (parseMethodDescriptor y.desc).map (fun d => d.parameters.length) = some n
theorem gW {y : MethodName} {bytes : ByteArray} {maxL : Nat} {ret : Option FieldType} (h : Cond.code y bytes maxL ret ∈ wAll) : GoodIn wAll (Cond.code y bytes maxL ret :: wAll) := by
  intro w hw
  rcases List.mem_cons.mp hw with rfl | hw
  · exact ⟨h, wAll_good h⟩
  · exact ⟨hw, wAll_good hw⟩
theorem jPre {p : Program} {g : Gh} {s : State} {m : MethodId} {args : Array Value} {c : Code} {cc : ByteArray} {nL : Nat} {own : String} {A : Nat → Prop} (C : Cx p g s m args c cc nL own A) {H : Heap} {locs : List Loc} {wc wr : va_W} (hP : va_P (gD g) vwCl (wc ++ wr) H) (hD : va_D A (wc ++ wr)) (hS : va_S A s.heap H locs) (av : List Value) :
    (∀ U : State, U.heap = H → s.WarmedH U.vm → va_Pc av (PU g wc H.size) av.toArray U) ∧ (∀ q, va_A wc H.size q → A q) := by
  obtain ⟨-, -, -, -, -, hN, hK, hA, hX⟩ := C
  have hsub : ∀ q, va_A wc H.size q → A q := by
    intro q h
    rcases wA_iff.mp h with ⟨e, he, rfl⟩ | h
    · exact (wD_iff.mp hD).2 e (List.mem_append_left _ he)
    · exact hA q (Nat.le_trans hS.1 h)
  refine ⟨fun U hU hW => ⟨rfl, by rw [hU], ?_, hK.moved hW.alike, ?_, hN.warm hW, ?_⟩, hsub⟩
  · rw [hU, wP_iff]; exact fun q hq => wP_iff.mp hP q (List.mem_append_left _ hq)
  · have h9 := (wD_iff.mp hD).1
    rw [List.map_append, List.nodup_append] at h9
    exact wD_iff.mpr ⟨h9.1, fun _ _ => trivial⟩
  · rw [hU]; exact ((hX.kept hS.2.1).moved hW.alike).narrow hsub
theorem j_run {mc ms : Nat} {wc wr : va_W} {F : va_W → va_W} {Post : Option Value → va_W → Prop} {st0 rest : List Value} {a9 : Array Value} (C : Cx p g s m args c cc nL own A) (hF : ∀ w : va_W, (F w).Perm (w ++ wr)) (hws : ws = F wc)
    (hr : ∀ (H : Heap) (locs : List Loc) (ls : Array Slot), va_P (gD g) vwCl (wc ++ wr) H → va_D A (wc ++ wr) → va_S A s.heap H locs → ls.size = nL → va_Run p l e R s m args below meth c H locs cells slots mc ms (F0 m pc ls st0) rest (QE g (va_A wc H.size) Post a9) (va_A wc H.size))
    (kk : ∀ (r : Option Value) (w' : va_W), Post r w' → J p l e R s m args below meth c g A nL (pc + 3) L (r.toList ++ rest) (F w') (cells + mc) (slots + ms) Q) : J p l e R s m args below meth c g A nL pc L st0 ws cells slots Q := by
  intro H locs ls hP hD hS h T hT X
  subst hws
  have hP := wP_perm (hF wc) hP
  have hD := wD_perm (hF wc) hD
  have hsub := (jPre C hP hD hS []).2
  obtain ⟨v, st₀, t, T', L9, h0, X', hL, e1, e2, ⟨⟨r, w', hv, hpo, hP1, hD1⟩, hz, hk⟩, st⟩ := hr H locs ls hP hD hS h.1 T hT X
  cases hv
  rw [h0] at hz hk
  rw [← e1] at hz hk hP1
  obtain ⟨hP2, hD2⟩ := wJoin hP hD hsub hP1 hD1 hk
  obtain ⟨t2, a1, b1⟩ := kk v w' hpo T'.heap (locs ++ L9) ls (wP_perm (hF w').symm hP2) (wD_perm (hF w').symm hD2)
    ⟨Nat.le_trans hS.1 hz, fun q h1 h2 => by rw [hk q (Nat.lt_of_lt_of_le h1 hS.1) (fun z => h2 (hsub q z))]; exact hS.2.1 q h1 h2, fun q hq => by
      rcases List.mem_append.mp hq with h9 | h9
      · exact hS.2.2 q h9
      · exact hsub _ (hL q h9)⟩ h T' rfl X'
  exact ⟨t2, st t2 a1, b1⟩
theorem j_callV (C : Cx p g s m args c cc nL own A) {index maxL n : Nat} {y : MethodName} {C' : String} {bytes : ByteArray} {ret : Option FieldType} {rm : Room} {As rest st0 : List Value} {wc wr : va_W} {F : va_W → va_W} {Post : Option Value → va_W → Prop} {b ci N : Nat} {fs : List Value} {T : u_T} (Y : YV y C' bytes maxL ret n) (hw : Cond.methodLink own index y ∈ wAll) (hM : CT l g y bytes maxL ret rm (.ref b :: As) wc Post) (hR : rm.frames + 1 ≤ R.frames ∧ 8 + (maxL + 11) + rm.locals ≤ R.locals) (q0 : Nat) (he : ws[q0]? = some (b, .inr (ci, fs))) (hc : vwCl[ci]? = some (C', T, N)) (hst : st0 = As.reverse ++ .ref b :: rest) (hd : decode cc pc = .ok (.invokevirtual index, 3)) (hn : As.length = n) (hsum : (rest.map fun v => v.category).sum ≤ 8) (hf : cells + rm.cells ≤ R.cells ∧ slots + rm.slots ≤ R.slots) (hF : ∀ w : va_W, (F w).Perm (w ++ wr)) (hws : ws = F wc) (kk : ∀ (r : Option Value) (w' : va_W), Post r w' → J p l e R s m args below meth c g A nL (pc + 3) L (r.toList ++ rest) (F w') (cells + rm.cells) (slots + rm.slots) Q) : J p l e R s m args below meth c g A nL pc L st0 ws cells slots Q := by
  obtain ⟨y1, y2, y3, y4, rfl, y6, y7⟩ := Y
  refine j_run (a9 := (Value.ref b :: As).toArray) C hF hws (fun H locs ls hP hD hS hsz => ?_) kk
  have hcell : ∃ cellB : Cell, H[b]? = some cellB ∧ cellB.vm.isStatics = false ∧ s.vm.findClass y.cls = some cellB.cls := by
    have hq : (b, (Sum.inr (ci, fs) : va_E)) ∈ wc ++ wr := (hF wc).mem_iff.mp (hws ▸ List.mem_of_getElem? he)
    obtain ⟨i9, h9⟩ := List.getElem?_of_mem hq
    exact va_recv C.2.2.2.2.2.2.1 hP hc h9
  exact va_runV (As := As) (rest := rest) ⟨C.1, C.2.1, C.2.2.1, C.2.2.2.1, C.2.2.2.2.1⟩ (hM H.size) ⟨callB_of (Ts := wAll) n C.2.2.2.2.1 (gW y4) rfl rfl rfl (C.2.2.2.2.1 _ y3) (C.2.2.2.2.1 _ hw) ⟨y6.1, y6.2, y7⟩ hR, C.2.2.2.2.1 _ y1, C.2.2.2.2.1 _ y2⟩ ⟨PU.blind, hcell, fun U hU hW => (jPre C hP hD hS (.ref b :: As)).1 U hU hW⟩ rfl hn hsz hst (lv_room hsum) hd hf
theorem j_callS (C : Cx p g s m args c cc nL own A) {index maxL n : Nat} {y : MethodName} {C' : String} {bytes : ByteArray} {ret : Option FieldType} {rm : Room} {As rest st0 : List Value} {wc wr : va_W} {F : va_W → va_W} {Post : Option Value → va_W → Prop} (Y : YS y C' bytes maxL ret n) (hw : Cond.methodLink own index y ∈ wAll) (hM : CT l g y bytes maxL ret rm As wc Post) (hR : rm.frames + 1 ≤ R.frames ∧ 8 + (maxL + 11) + rm.locals ≤ R.locals) (hst : st0 = As.reverse ++ rest) (hd : decode cc pc = .ok (.invokestatic index, 3)) (hn : As.length = n) (hsum : (rest.map fun v => v.category).sum ≤ 8) (hf : cells + rm.cells ≤ R.cells ∧ slots + rm.slots ≤ R.slots) (hF : ∀ w : va_W, (F w).Perm (w ++ wr)) (hws : ws = F wc) (kk : ∀ (r : Option Value) (w' : va_W), Post r w' → J p l e R s m args below meth c g A nL (pc + 3) L (r.toList ++ rest) (F w') (cells + rm.cells) (slots + rm.slots) Q) : J p l e R s m args below meth c g A nL pc L st0 ws cells slots Q := by
  obtain ⟨y1, y3, y4, rfl, y6, y7⟩ := Y
  refine j_run (a9 := As.toArray) C hF hws (fun H locs ls hP hD hS hsz => ?_) kk
  exact va_runS (As := As) (rest := rest) ⟨C.1, C.2.1, C.2.2.1, C.2.2.2.1, C.2.2.2.2.1⟩ (hM H.size) ⟨callB_of (Ts := wAll) n C.2.2.2.2.1 (gW y4) rfl rfl rfl (C.2.2.2.2.1 _ y3) (C.2.2.2.2.1 _ hw) ⟨y6.1, y6.2, y7⟩ hR, C.2.2.2.2.1 _ y1⟩ ⟨PU.blind, fun U hU hW => (jPre C hP hD hS As).1 U hU hW⟩ rfl hn hsz hst (lv_room hsum) hd hf
theorem j_callSN (C : Cx p g s m args c cc nL own A) {index maxL n : Nat} {y : MethodName} {C' : String} {bytes : ByteArray} {ret : Option FieldType} {rm : Room} {As rest st0 : List Value} {wc wr : va_W} {F : va_W → va_W} {Post : Option Value → va_W → Prop} {host : String} (Y : YS y C' bytes maxL ret n) (hw : Cond.methodLinkNest own index y host ∈ tables_1) (hM : CT l g y bytes maxL ret rm As wc Post) (hR : rm.frames + 1 ≤ R.frames ∧ 8 + (maxL + 11) + rm.locals ≤ R.locals) (hst : st0 = As.reverse ++ rest) (hd : decode cc pc = .ok (.invokestatic index, 3)) (hn : As.length = n) (hsum : (rest.map fun v => v.category).sum ≤ 8) (hf : cells + rm.cells ≤ R.cells ∧ slots + rm.slots ≤ R.slots) (hF : ∀ w : va_W, (F w).Perm (w ++ wr)) (hws : ws = F wc) (kk : ∀ (r : Option Value) (w' : va_W), Post r w' → J p l e R s m args below meth c g A nL (pc + 3) L (r.toList ++ rest) (F w') (cells + rm.cells) (slots + rm.slots) Q) : J p l e R s m args below meth c g A nL pc L st0 ws cells slots Q := by
  obtain ⟨y1, y3, y4, rfl, y6, y7⟩ := Y
  refine j_run (a9 := As.toArray) C hF hws (fun H locs ls hP hD hS hsz => ?_) kk
  exact va_runSN (As := As) (rest := rest) ⟨C.1, C.2.1, C.2.2.1, C.2.2.2.1, C.2.2.2.2.1⟩ (hM H.size) ⟨va_cnB n C.2.2.2.2.1 (gW y4) rfl rfl rfl (C.2.2.2.2.2.1.1 _ hw rfl) (C.2.2.2.2.1 _ y3) ⟨y6.1, y6.2, y7⟩ hR, C.2.2.2.2.1 _ y1, trivial⟩ ⟨PU.blind, fun U hU hW => (jPre C hP hD hS As).1 U hU hW⟩ rfl hn hsz hst (lv_room hsum) hd hf
theorem j_callI (C : Cx p g s m args c cc nL own A) {index maxL n : Nat} {y : MethodName} {C' : String} {bytes : ByteArray} {rm : Room} {As rest st0 : List Value} {wc wr : va_W} {F : va_W → va_W} {Post : Option Value → va_W → Prop} {b : Nat} (Y : YI y C' bytes maxL n) (hw : Cond.methodLink own index y ∈ wAll) (hM : CT l g y bytes maxL none rm (.ref b :: As) wc Post) (hR : rm.frames + 1 ≤ R.frames ∧ 8 + (maxL + 11) + rm.locals ≤ R.locals) (hst : st0 = As.reverse ++ .ref b :: rest) (hd : decode cc pc = .ok (.invokespecial index, 3)) (hn : As.length = n) (hsum : (rest.map fun v => v.category).sum ≤ 8) (hf : cells + rm.cells ≤ R.cells ∧ slots + rm.slots ≤ R.slots) (hF : ∀ w : va_W, (F w).Perm (w ++ wr)) (hws : ws = F wc) (kk : ∀ (r : Option Value) (w' : va_W), Post r w' → J p l e R s m args below meth c g A nL (pc + 3) L (r.toList ++ rest) (F w') (cells + rm.cells) (slots + rm.slots) Q) : J p l e R s m args below meth c g A nL pc L st0 ws cells slots Q := by
  obtain ⟨y1, y3, y4, rfl, yn, y6, y7⟩ := Y
  refine j_run (a9 := (Value.ref b :: As).toArray) C hF hws (fun H locs ls hP hD hS hsz => ?_) kk
  exact va_runI (As := As) (rest := rest) ⟨C.1, C.2.1, C.2.2.1, C.2.2.2.1, C.2.2.2.2.1⟩ (hM H.size) ⟨callB_of (Ts := wAll) n C.2.2.2.2.1 (gW y4) rfl rfl rfl (C.2.2.2.2.1 _ y3) (C.2.2.2.2.1 _ hw) ⟨y6.1, y6.2, y7⟩ hR, yn, C.2.2.2.2.1 _ y1⟩ ⟨PU.blind, fun U hU hW => (jPre C hP hD hS (.ref b :: As)).1 U hU hW⟩ rfl hn hsz hst (lv_room hsum) hd hf
theorem j_callIN (C : Cx p g s m args c cc nL own A) {index maxL n : Nat} {y : MethodName} {C' : String} {bytes : ByteArray} {rm : Room} {As rest st0 : List Value} {wc wr : va_W} {F : va_W → va_W} {Post : Option Value → va_W → Prop} {b : Nat} {host : String} (Y : YI y C' bytes maxL n) (hw : Cond.methodLinkNest own index y host ∈ tables_1) (hM : CT l g y bytes maxL none rm (.ref b :: As) wc Post) (hR : rm.frames + 1 ≤ R.frames ∧ 8 + (maxL + 11) + rm.locals ≤ R.locals) (hst : st0 = As.reverse ++ .ref b :: rest) (hd : decode cc pc = .ok (.invokespecial index, 3)) (hn : As.length = n) (hsum : (rest.map fun v => v.category).sum ≤ 8) (hf : cells + rm.cells ≤ R.cells ∧ slots + rm.slots ≤ R.slots) (hF : ∀ w : va_W, (F w).Perm (w ++ wr)) (hws : ws = F wc) (kk : ∀ (r : Option Value) (w' : va_W), Post r w' → J p l e R s m args below meth c g A nL (pc + 3) L (r.toList ++ rest) (F w') (cells + rm.cells) (slots + rm.slots) Q) : J p l e R s m args below meth c g A nL pc L st0 ws cells slots Q := by
  obtain ⟨y1, y3, y4, rfl, yn, y6, y7⟩ := Y
  refine j_run (a9 := (Value.ref b :: As).toArray) C hF hws (fun H locs ls hP hD hS hsz => ?_) kk
  exact va_runIN (As := As) (rest := rest) ⟨C.1, C.2.1, C.2.2.1, C.2.2.2.1, C.2.2.2.2.1⟩ (hM H.size) ⟨va_cnB n C.2.2.2.2.1 (gW y4) rfl rfl rfl (C.2.2.2.2.2.1.1 _ hw rfl) (C.2.2.2.2.1 _ y3) ⟨y6.1, y6.2, y7⟩ hR, yn, C.2.2.2.2.1 _ y1⟩ ⟨PU.blind, fun U hU hW => (jPre C hP hD hS (.ref b :: As)).1 U hU hW⟩ rfl hn hsz hst (lv_room hsum) hd hf
theorem j_mmin (C : Cx p g s m args c cc nL own A) {index : Nat} {x y : Int} (hx : -2147483648 ≤ x ∧ x < 2147483648) (hy : -2147483648 ≤ y ∧ y < 2147483648) (hw : Cond.methodLink own index Lib.Math.min.name ∈ wAll) (w2 : Cond.static Lib.Math.min.name ∈ wAll) (w3 : Cond.initialized "java/lang/Math" ∈ wAll) (w4 : Cond.code Lib.Math.min.name Lib.Math.min.code 2 (some .int) ∈ wAll) (hfr : 1 ≤ R.frames) (hlo : (S.map fun v => v.category).sum + 13 ≤ R.locals) (hf : cells ≤ R.cells ∧ slots ≤ R.slots) (hd : decode cc pc = .ok (.invokestatic index, 3)) (kk : J p l e R s m args below meth c g A nL (pc + 3) L (.int (iI (if y < x then y else x)) :: S) ws cells slots Q) : J p l e R s m args below meth c g A nL pc L (.int (iI y) :: .int (iI x) :: S) ws cells slots Q := by
  intro H locs ls hP hD hS h
  refine va_mmin C.1 C.2.1 (C.2.2.1.trans h.1.symm) C.2.2.2.1 (C.2.2.2.2.1 _ hw) (C.2.2.2.2.1 _ w2) (C.2.2.2.2.1 _ w3) (C.2.2.2.2.1 _ w4) hfr hlo hf.1 hf.2 hd ?_
  have e : (if iI y < iI x then iI y else iI x) = iI (if y < x then y else x) := by
    simp only [iI_lt hy hx]
    split <;> rfl
  rw [e]
  exact kk H locs ls hP hD hS h
end JW
