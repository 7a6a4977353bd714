section JR
variable {p : Program} {l : Launch} {e : Env} {R : Room} {s : State} {m : MethodId} {args : Array Value} {below : List Frame} {meth : Method} {c : Code} {g : Gh} {A : Nat → Prop} {cc : ByteArray} {nL : Nat} {own : String} {pc : Nat} {L : List (Nat × Value)} {S : List Value} {ws : va_W} {cells slots : Nat} {Q : State → Prop}
theorem iI_toInt {x : Int} (h : -2147483648 ≤ x ∧ x < 2147483648) : (iI x).toInt = x := Int32.toInt_ofInt_of_le (by omega) (by omega)
theorem lI_toInt {x : Int} (h : -9223372036854775808 ≤ x ∧ x < 9223372036854775808) : (lI x).toInt = x := Int64.toInt_ofInt_of_le (by omega) (by omega)
theorem iI_lt {x y : Int} (hx : -2147483648 ≤ x ∧ x < 2147483648) (hy : -2147483648 ≤ y ∧ y < 2147483648) : iI x < iI y ↔ x < y := by rw [Int32.lt_iff_toInt_lt, iI_toInt hx, iI_toInt hy]
theorem iI_le {x y : Int} (hx : -2147483648 ≤ x ∧ x < 2147483648) (hy : -2147483648 ≤ y ∧ y < 2147483648) : iI x ≤ iI y ↔ x ≤ y := by rw [Int32.le_iff_toInt_le, iI_toInt hx, iI_toInt hy]
theorem iI_eq {x y : Int} (hx : -2147483648 ≤ x ∧ x < 2147483648) (hy : -2147483648 ≤ y ∧ y < 2147483648) : iI x = iI y ↔ x = y := ⟨fun h => by rw [← iI_toInt hx, h, iI_toInt hy], fun h => by rw [h]⟩
theorem lI_lt {x y : Int} (hx : -9223372036854775808 ≤ x ∧ x < 9223372036854775808) (hy : -9223372036854775808 ≤ y ∧ y < 9223372036854775808) : lI x < lI y ↔ x < y := by rw [Int64.lt_iff_toInt_lt, lI_toInt hx, lI_toInt hy]
theorem lI_eq {x y : Int} (hx : -9223372036854775808 ≤ x ∧ x < 9223372036854775808) (hy : -9223372036854775808 ≤ y ∧ y < 9223372036854775808) : lI x = lI y ↔ x = y := ⟨fun h => by rw [← lI_toInt hx, h, lI_toInt hy], fun h => by rw [h]⟩
theorem iI_0 : iI 0 = 0 := rfl
theorem iI_nI (n : Nat) : iI (n : Int) = Int32.ofNat n := by first | rfl | exact Int32.ofInt_natCast n | simp [iI]
theorem iI_clamp {x : Int} {k : Nat} (hk : x = (k : Int)) (h : (k : Int) < 2147483648) : (iI x).toNatClampNeg = k := by
  subst hk
  show (iI (k : Int)).toInt.toNat = k
  rw [iI_toInt (by omega)]
  omega
theorem iI_in {x : Int} {k n : Nat} (hk : x = (k : Int)) (h : k < n) (hn : (n : Int) ≤ 2147483648) : vp_in (iI x) n := by
  rintro (h1 | h1)
  · rw [← iI_0, iI_lt (by omega) (by omega)] at h1; omega
  · rw [iI_clamp hk (by omega)] at h1; omega
theorem i2l_ok {x : Int} (hx : -2147483648 ≤ x ∧ x < 2147483648) : (iI x).toInt64 = lI x := by
  apply Int64.toInt_inj.mp
  rw [Int32.toInt_toInt64, iI_toInt hx, lI_toInt (by omega)]
theorem l2i_ok (x : Int) : (lI x).toInt32 = iI x := by first | exact Int64.toInt32_ofInt x | simp [lI, iI]
theorem va_up_iI (f : Nat → Int) (k : Nat) (x : Int) : upd (fun j => iI (f j)) k (iI x) = fun j => iI (va_up f k x j) := by
  funext j
  by_cases h : j = k <;> simp [upd, va_up, h]
theorem va_up_lI (f : Nat → Int) (k : Nat) (x : Int) : vp_updL (fun j => lI (f j)) k (lI x) = fun j => lI (va_up f k x j) := by
  funext j
  by_cases h : j = k <;> simp [vp_updL, va_up, h]
theorem j_iconst (C : Cx p g s m args c cc nL own A) {n : Int} (hd : decode cc pc = .ok (.iconst n, 1)) (kk : J p l e R s m args below meth c g A nL (pc + 1) L (.int (iI n) :: S) ws cells slots Q) : J p l e R s m args below meth c g A nL pc L S ws cells slots Q := by
  intro H locs ls hP hD hS h
  exact lv_iconst C.1 C.2.1 hd rfl (kk H locs ls hP hD hS h)
theorem j_bipush (C : Cx p g s m args c cc nL own A) {n : Int} (hd : decode cc pc = .ok (.bipush n, 2)) (hv : (Int8.ofInt n).toInt32 = iI n) (kk : J p l e R s m args below meth c g A nL (pc + 2) L (.int (iI n) :: S) ws cells slots Q) : J p l e R s m args below meth c g A nL pc L S ws cells slots Q := by
  intro H locs ls hP hD hS h
  exact lv_bipush C.1 C.2.1 hd hv (kk H locs ls hP hD hS h)
theorem j_sipush (C : Cx p g s m args c cc nL own A) {n : Int} (hd : decode cc pc = .ok (.sipush n, 3)) (hv : (Int16.ofInt n).toInt32 = iI n) (kk : J p l e R s m args below meth c g A nL (pc + 3) L (.int (iI n) :: S) ws cells slots Q) : J p l e R s m args below meth c g A nL pc L S ws cells slots Q := by
  intro H locs ls hP hD hS h
  exact lv_sipush C.1 C.2.1 hd hv (kk H locs ls hP hD hS h)
theorem j_lconst (C : Cx p g s m args c cc nL own A) {n : Fin 2} {v : Int} (hd : decode cc pc = .ok (.lconst n, 1)) (hv : Int64.ofNat (n : Nat) = lI v) (kk : J p l e R s m args below meth c g A nL (pc + 1) L (.long (lI v) :: S) ws cells slots Q) : J p l e R s m args below meth c g A nL pc L S ws cells slots Q := by
  intro H locs ls hP hD hS h
  exact lv_lconst C.1 C.2.1 hd hv (kk H locs ls hP hD hS h)
theorem j_ldc (C : Cx p g s m args c cc nL own A) {index : Nat} {v : Int32} {x : Int} (hw : Cond.constant own index v ∈ wAll) (hv : v = iI x) (hd : decode cc pc = .ok (.ldc index, 2)) (kk : J p l e R s m args below meth c g A nL (pc + 2) L (.int (iI x) :: S) ws cells slots Q) : J p l e R s m args below meth c g A nL pc L S ws cells slots Q := by
  intro H locs ls hP hD hS h
  subst hv
  exact lv_ldc C.1 C.2.1 C.2.2.2.1 (C.2.2.2.2.1 _ hw) hd (kk H locs ls hP hD hS h)
theorem j_ldcw (C : Cx p g s m args c cc nL own A) {index : Nat} {v : Int32} {x : Int} (hw : Cond.constant own index v ∈ wAll) (hv : v = iI x) (hd : decode cc pc = .ok (.ldc_w index, 3)) (kk : J p l e R s m args below meth c g A nL (pc + 3) L (.int (iI x) :: S) ws cells slots Q) : J p l e R s m args below meth c g A nL pc L S ws cells slots Q := by
  intro H locs ls hP hD hS h
  subst hv
  exact lv_ldcw C.1 C.2.1 C.2.2.2.1 (C.2.2.2.2.1 _ hw) hd (kk H locs ls hP hD hS h)
theorem j_ldc2 (C : Cx p g s m args c cc nL own A) {index : Nat} {v : Int64} {x : Int} (hw : Cond.constantLong own index v ∈ wAll) (hv : v = lI x) (hd : decode cc pc = .ok (.ldc2_w index, 3)) (kk : J p l e R s m args below meth c g A nL (pc + 3) L (.long (lI x) :: S) ws cells slots Q) : J p l e R s m args below meth c g A nL pc L S ws cells slots Q := by
  intro H locs ls hP hD hS h
  subst hv
  exact lv_ldc2 C.1 C.2.1 C.2.2.2.1 (C.2.2.2.2.1 _ hw) hd (kk H locs ls hP hD hS h)
theorem j_iload_n (C : Cx p g s m args c cc nL own A) {k : Fin 4} {i : Nat} {x : Int32} (q : Nat) (hd : decode cc pc = .ok (.iload_n k, 1)) (hi : (k : Nat) = i) (hl : L[q]? = some (i, .int x)) (kk : J p l e R s m args below meth c g A nL (pc + 1) L (.int x :: S) ws cells slots Q) : J p l e R s m args below meth c g A nL pc L S ws cells slots Q := by
  intro H locs ls hP hD hS h
  exact lv_iload_n C.1 C.2.1 hd hi (lv_at h q hl) (kk H locs ls hP hD hS h)
theorem j_iload (C : Cx p g s m args c cc nL own A) {i : Nat} {x : Int32} (q : Nat) (hd : decode cc pc = .ok (.iload i, 2)) (hl : L[q]? = some (i, .int x)) (kk : J p l e R s m args below meth c g A nL (pc + 2) L (.int x :: S) ws cells slots Q) : J p l e R s m args below meth c g A nL pc L S ws cells slots Q := by
  intro H locs ls hP hD hS h
  exact lv_iload C.1 C.2.1 hd (lv_at h q hl) (kk H locs ls hP hD hS h)
theorem j_istore_n (C : Cx p g s m args c cc nL own A) {k : Fin 4} {i : Nat} {x : Int32} {L1 : List (Nat × Value)} (hd : decode cc pc = .ok (.istore_n k, 1)) (hi : (k : Nat) = i) (hn : i < nL) (hl : (i, Value.int x) :: L.filter (fun q => !(q.1 == i) && !(q.1 + 1 == i && q.2.category == 2)) = L1) (kk : J p l e R s m args below meth c g A nL (pc + 1) L1 S ws cells slots Q) : J p l e R s m args below meth c g A nL pc L (.int x :: S) ws cells slots Q := by
  intro H locs ls hP hD hS h
  exact lv_istore_n C.1 C.2.1 hd hi h hn hl (fun ls h => kk H locs ls hP hD hS h)
theorem j_istore (C : Cx p g s m args c cc nL own A) {i : Nat} {x : Int32} {L1 : List (Nat × Value)} (hd : decode cc pc = .ok (.istore i, 2)) (hn : i < nL) (hl : (i, Value.int x) :: L.filter (fun q => !(q.1 == i) && !(q.1 + 1 == i && q.2.category == 2)) = L1) (kk : J p l e R s m args below meth c g A nL (pc + 2) L1 S ws cells slots Q) : J p l e R s m args below meth c g A nL pc L (.int x :: S) ws cells slots Q := by
  intro H locs ls hP hD hS h
  exact lv_istore C.1 C.2.1 hd h hn hl (fun ls h => kk H locs ls hP hD hS h)
theorem j_lload_n (C : Cx p g s m args c cc nL own A) {k : Fin 4} {i : Nat} {x : Int64} (q : Nat) (hd : decode cc pc = .ok (.lload_n k, 1)) (hi : (k : Nat) = i) (hl : L[q]? = some (i, .long x)) (kk : J p l e R s m args below meth c g A nL (pc + 1) L (.long x :: S) ws cells slots Q) : J p l e R s m args below meth c g A nL pc L S ws cells slots Q := by
  intro H locs ls hP hD hS h
  exact lv_lload_n C.1 C.2.1 hd hi (lv_at h q hl) (kk H locs ls hP hD hS h)
theorem j_lload (C : Cx p g s m args c cc nL own A) {i : Nat} {x : Int64} (q : Nat) (hd : decode cc pc = .ok (.lload i, 2)) (hl : L[q]? = some (i, .long x)) (kk : J p l e R s m args below meth c g A nL (pc + 2) L (.long x :: S) ws cells slots Q) : J p l e R s m args below meth c g A nL pc L S ws cells slots Q := by
  intro H locs ls hP hD hS h
  exact lv_lload C.1 C.2.1 hd (lv_at h q hl) (kk H locs ls hP hD hS h)
theorem j_lstore_n (C : Cx p g s m args c cc nL own A) {k : Fin 4} {i : Nat} {x : Int64} {L1 : List (Nat × Value)} (hd : decode cc pc = .ok (.lstore_n k, 1)) (hi : (k : Nat) = i) (hn : i + 1 < nL) (hl : (i, Value.long x) :: L.filter (fun q => !(q.1 == i) && (!(q.1 == i + 1) && !(q.1 + 1 == i && q.2.category == 2))) = L1) (kk : J p l e R s m args below meth c g A nL (pc + 1) L1 S ws cells slots Q) : J p l e R s m args below meth c g A nL pc L (.long x :: S) ws cells slots Q := by
  intro H locs ls hP hD hS h
  exact lv_lstore_n C.1 C.2.1 hd hi h hn hl (fun ls h => kk H locs ls hP hD hS h)
theorem j_lstore (C : Cx p g s m args c cc nL own A) {i : Nat} {x : Int64} {L1 : List (Nat × Value)} (hd : decode cc pc = .ok (.lstore i, 2)) (hn : i + 1 < nL) (hl : (i, Value.long x) :: L.filter (fun q => !(q.1 == i) && (!(q.1 == i + 1) && !(q.1 + 1 == i && q.2.category == 2))) = L1) (kk : J p l e R s m args below meth c g A nL (pc + 2) L1 S ws cells slots Q) : J p l e R s m args below meth c g A nL pc L (.long x :: S) ws cells slots Q := by
  intro H locs ls hP hD hS h
  exact lv_lstore C.1 C.2.1 hd h hn hl (fun ls h => kk H locs ls hP hD hS h)
theorem j_aload_n (C : Cx p g s m args c cc nL own A) {k : Fin 4} {i : Nat} {x : Nat} (q : Nat) (hd : decode cc pc = .ok (.aload_n k, 1)) (hi : (k : Nat) = i) (hl : L[q]? = some (i, .ref x)) (kk : J p l e R s m args below meth c g A nL (pc + 1) L (.ref x :: S) ws cells slots Q) : J p l e R s m args below meth c g A nL pc L S ws cells slots Q := by
  intro H locs ls hP hD hS h
  exact lv_aload_n C.1 C.2.1 hd hi (lv_at h q hl) (kk H locs ls hP hD hS h)
theorem j_aload (C : Cx p g s m args c cc nL own A) {i : Nat} {x : Nat} (q : Nat) (hd : decode cc pc = .ok (.aload i, 2)) (hl : L[q]? = some (i, .ref x)) (kk : J p l e R s m args below meth c g A nL (pc + 2) L (.ref x :: S) ws cells slots Q) : J p l e R s m args below meth c g A nL pc L S ws cells slots Q := by
  intro H locs ls hP hD hS h
  exact lv_aload C.1 C.2.1 hd (lv_at h q hl) (kk H locs ls hP hD hS h)
theorem j_astore_n (C : Cx p g s m args c cc nL own A) {k : Fin 4} {i : Nat} {x : Nat} {L1 : List (Nat × Value)} (hd : decode cc pc = .ok (.astore_n k, 1)) (hi : (k : Nat) = i) (hn : i < nL) (hl : (i, Value.ref x) :: L.filter (fun q => !(q.1 == i) && !(q.1 + 1 == i && q.2.category == 2)) = L1) (kk : J p l e R s m args below meth c g A nL (pc + 1) L1 S ws cells slots Q) : J p l e R s m args below meth c g A nL pc L (.ref x :: S) ws cells slots Q := by
  intro H locs ls hP hD hS h
  exact lv_astore_n C.1 C.2.1 hd hi h hn hl (fun ls h => kk H locs ls hP hD hS h)
theorem j_astore (C : Cx p g s m args c cc nL own A) {i : Nat} {x : Nat} {L1 : List (Nat × Value)} (hd : decode cc pc = .ok (.astore i, 2)) (hn : i < nL) (hl : (i, Value.ref x) :: L.filter (fun q => !(q.1 == i) && !(q.1 + 1 == i && q.2.category == 2)) = L1) (kk : J p l e R s m args below meth c g A nL (pc + 2) L1 S ws cells slots Q) : J p l e R s m args below meth c g A nL pc L (.ref x :: S) ws cells slots Q := by
  intro H locs ls hP hD hS h
  exact lv_astore C.1 C.2.1 hd h hn hl (fun ls h => kk H locs ls hP hD hS h)
theorem j_dload_n (C : Cx p g s m args c cc nL own A) {k : Fin 4} {i : Nat} {x : UInt64} (q : Nat) (hd : decode cc pc = .ok (.dload_n k, 1)) (hi : (k : Nat) = i) (hl : L[q]? = some (i, .double x)) (kk : J p l e R s m args below meth c g A nL (pc + 1) L (.double x :: S) ws cells slots Q) : J p l e R s m args below meth c g A nL pc L S ws cells slots Q := by
  intro H locs ls hP hD hS h
  exact lv_dload_n C.1 C.2.1 hd hi (lv_at h q hl) (kk H locs ls hP hD hS h)
theorem j_dload (C : Cx p g s m args c cc nL own A) {i : Nat} {x : UInt64} (q : Nat) (hd : decode cc pc = .ok (.dload i, 2)) (hl : L[q]? = some (i, .double x)) (kk : J p l e R s m args below meth c g A nL (pc + 2) L (.double x :: S) ws cells slots Q) : J p l e R s m args below meth c g A nL pc L S ws cells slots Q := by
  intro H locs ls hP hD hS h
  exact lv_dload C.1 C.2.1 hd (lv_at h q hl) (kk H locs ls hP hD hS h)
theorem j_dstore_n (C : Cx p g s m args c cc nL own A) {k : Fin 4} {i : Nat} {x : UInt64} {L1 : List (Nat × Value)} (hd : decode cc pc = .ok (.dstore_n k, 1)) (hi : (k : Nat) = i) (hn : i + 1 < nL) (hl : (i, Value.double x) :: L.filter (fun q => !(q.1 == i) && (!(q.1 == i + 1) && !(q.1 + 1 == i && q.2.category == 2))) = L1) (kk : J p l e R s m args below meth c g A nL (pc + 1) L1 S ws cells slots Q) : J p l e R s m args below meth c g A nL pc L (.double x :: S) ws cells slots Q := by
  intro H locs ls hP hD hS h
  exact lv_dstore_n C.1 C.2.1 hd hi h hn hl (fun ls h => kk H locs ls hP hD hS h)
theorem j_dstore (C : Cx p g s m args c cc nL own A) {i : Nat} {x : UInt64} {L1 : List (Nat × Value)} (hd : decode cc pc = .ok (.dstore i, 2)) (hn : i + 1 < nL) (hl : (i, Value.double x) :: L.filter (fun q => !(q.1 == i) && (!(q.1 == i + 1) && !(q.1 + 1 == i && q.2.category == 2))) = L1) (kk : J p l e R s m args below meth c g A nL (pc + 2) L1 S ws cells slots Q) : J p l e R s m args below meth c g A nL pc L (.double x :: S) ws cells slots Q := by
  intro H locs ls hP hD hS h
  exact lv_dstore C.1 C.2.1 hd h hn hl (fun ls h => kk H locs ls hP hD hS h)
theorem j_iinc (C : Cx p g s m args c cc nL own A) {i : Nat} {n x : Int} {L1 : List (Nat × Value)} (q : Nat) (hd : decode cc pc = .ok (.iinc i n, 3)) (hk : L[q]? = some (i, .int (iI x))) (hn : i < nL) (hl : (i, Value.int (iI (x + n))) :: L.filter (fun q => !(q.1 == i) && !(q.1 + 1 == i && q.2.category == 2)) = L1) (kk : J p l e R s m args below meth c g A nL (pc + 3) L1 S ws cells slots Q) : J p l e R s m args below meth c g A nL pc L S ws cells slots Q := by
  intro H locs ls hP hD hS h
  exact lv_iinc C.1 C.2.1 hd h hk (by rw [show iI (x + n) = iI x + iI n from Int32.ofInt_add ..]) hn hl (fun ls h => kk H locs ls hP hD hS h)
theorem j_dup (C : Cx p g s m args c cc nL own A) {v : Value} (hd : decode cc pc = .ok (.dup, 1)) (hc : v.category = 1) (kk : J p l e R s m args below meth c g A nL (pc + 1) L (v :: v :: S) ws cells slots Q) : J p l e R s m args below meth c g A nL pc L (v :: S) ws cells slots Q := by
  intro H locs ls hP hD hS h
  exact lv_dup C.1 C.2.1 hd hc (kk H locs ls hP hD hS h)
theorem j_dup2 (C : Cx p g s m args c cc nL own A) {v w : Value} (hd : decode cc pc = .ok (.dup2, 1)) (hc : v.category = 1) (hc2 : w.category = 1) (kk : J p l e R s m args below meth c g A nL (pc + 1) L (v :: w :: v :: w :: S) ws cells slots Q) : J p l e R s m args below meth c g A nL pc L (v :: w :: S) ws cells slots Q := by
  intro H locs ls hP hD hS h
  exact lv_dup2_11 C.1 C.2.1 hd hc hc2 (kk H locs ls hP hD hS h)
theorem j_pop (C : Cx p g s m args c cc nL own A) {v : Value} (hd : decode cc pc = .ok (.pop, 1)) (hc : v.category = 1) (kk : J p l e R s m args below meth c g A nL (pc + 1) L S ws cells slots Q) : J p l e R s m args below meth c g A nL pc L (v :: S) ws cells slots Q := by
  intro H locs ls hP hD hS h
  exact lv_pop C.1 C.2.1 hd hc (kk H locs ls hP hD hS h)
theorem j_null (C : Cx p g s m args c cc nL own A)  (hd : decode cc pc = .ok (.aconst_null, 1)) (kk : J p l e R s m args below meth c g A nL (pc + 1) L (.null :: S) ws cells slots Q) : J p l e R s m args below meth c g A nL pc L S ws cells slots Q := by
  intro H locs ls hP hD hS h
  exact lv_null C.1 C.2.1 hd (kk H locs ls hP hD hS h)
theorem j_iadd (C : Cx p g s m args c cc nL own A) {x y : Int} (hd : decode cc pc = .ok (.iadd, 1)) (kk : J p l e R s m args below meth c g A nL (pc + 1) L (.int (iI (x + y)) :: S) ws cells slots Q) : J p l e R s m args below meth c g A nL pc L (.int (iI y) :: .int (iI x) :: S) ws cells slots Q := by
  intro H locs ls hP hD hS h
  refine lv_iadd C.1 C.2.1 hd ?_
  rw [← show iI (x + y) = iI x + iI y from Int32.ofInt_add ..]
  exact kk H locs ls hP hD hS h
theorem j_ladd (C : Cx p g s m args c cc nL own A) {x y : Int} (hd : decode cc pc = .ok (.ladd, 1)) (kk : J p l e R s m args below meth c g A nL (pc + 1) L (.long (lI (x + y)) :: S) ws cells slots Q) : J p l e R s m args below meth c g A nL pc L (.long (lI y) :: .long (lI x) :: S) ws cells slots Q := by
  intro H locs ls hP hD hS h
  refine lv_ladd C.1 C.2.1 hd ?_
  rw [← show lI (x + y) = lI x + lI y from Int64.ofInt_add ..]
  exact kk H locs ls hP hD hS h
theorem j_isub (C : Cx p g s m args c cc nL own A) {x y : Int} (hd : decode cc pc = .ok (.isub, 1)) (kk : J p l e R s m args below meth c g A nL (pc + 1) L (.int (iI (x - y)) :: S) ws cells slots Q) : J p l e R s m args below meth c g A nL pc L (.int (iI y) :: .int (iI x) :: S) ws cells slots Q := by
  intro H locs ls hP hD hS h
  refine lv_isub C.1 C.2.1 hd ?_
  rw [← show iI (x - y) = iI x - iI y from Int32.ofInt_sub ..]
  exact kk H locs ls hP hD hS h
theorem j_lsub (C : Cx p g s m args c cc nL own A) {x y : Int} (hd : decode cc pc = .ok (.lsub, 1)) (kk : J p l e R s m args below meth c g A nL (pc + 1) L (.long (lI (x - y)) :: S) ws cells slots Q) : J p l e R s m args below meth c g A nL pc L (.long (lI y) :: .long (lI x) :: S) ws cells slots Q := by
  intro H locs ls hP hD hS h
  refine lv_lsub C.1 C.2.1 hd ?_
  rw [← show lI (x - y) = lI x - lI y from Int64.ofInt_sub ..]
  exact kk H locs ls hP hD hS h
theorem j_imul (C : Cx p g s m args c cc nL own A) {x y : Int} (hd : decode cc pc = .ok (.imul, 1)) (kk : J p l e R s m args below meth c g A nL (pc + 1) L (.int (iI (x * y)) :: S) ws cells slots Q) : J p l e R s m args below meth c g A nL pc L (.int (iI y) :: .int (iI x) :: S) ws cells slots Q := by
  intro H locs ls hP hD hS h
  refine lv_imul C.1 C.2.1 hd ?_
  rw [← show iI (x * y) = iI x * iI y from Int32.ofInt_mul ..]
  exact kk H locs ls hP hD hS h
theorem j_lmul (C : Cx p g s m args c cc nL own A) {x y : Int} (hd : decode cc pc = .ok (.lmul, 1)) (kk : J p l e R s m args below meth c g A nL (pc + 1) L (.long (lI (x * y)) :: S) ws cells slots Q) : J p l e R s m args below meth c g A nL pc L (.long (lI y) :: .long (lI x) :: S) ws cells slots Q := by
  intro H locs ls hP hD hS h
  refine lv_lmul C.1 C.2.1 hd ?_
  rw [← show lI (x * y) = lI x * lI y from Int64.ofInt_mul ..]
  exact kk H locs ls hP hD hS h
theorem j_ineg (C : Cx p g s m args c cc nL own A) {x : Int} (hd : decode cc pc = .ok (.ineg, 1)) (kk : J p l e R s m args below meth c g A nL (pc + 1) L (.int (iI (-x)) :: S) ws cells slots Q) : J p l e R s m args below meth c g A nL pc L (.int (iI x) :: S) ws cells slots Q := by
  intro H locs ls hP hD hS h
  refine lv_ineg C.1 C.2.1 hd ?_
  rw [← show iI (-x) = -iI x from Int32.ofInt_neg ..]
  exact kk H locs ls hP hD hS h
theorem j_i2l (C : Cx p g s m args c cc nL own A) {x : Int} (hx : -2147483648 ≤ x ∧ x < 2147483648) (hd : decode cc pc = .ok (.i2l, 1)) (kk : J p l e R s m args below meth c g A nL (pc + 1) L (.long (lI x) :: S) ws cells slots Q) : J p l e R s m args below meth c g A nL pc L (.int (iI x) :: S) ws cells slots Q := by
  intro H locs ls hP hD hS h
  exact lv_i2l C.1 C.2.1 hd (i2l_ok hx) (kk H locs ls hP hD hS h)
theorem j_l2i (C : Cx p g s m args c cc nL own A) {x : Int} (hd : decode cc pc = .ok (.l2i, 1)) (kk : J p l e R s m args below meth c g A nL (pc + 1) L (.int (iI x) :: S) ws cells slots Q) : J p l e R s m args below meth c g A nL pc L (.long (lI x) :: S) ws cells slots Q := by
  intro H locs ls hP hD hS h
  exact lv_l2i C.1 C.2.1 hd (l2i_ok x) (kk H locs ls hP hD hS h)
theorem j_idiv (C : Cx p g s m args c cc nL own A) {x y : Int} (hx : 0 ≤ x ∧ x < 2147483648) (hy : 0 < y ∧ y < 2147483648) (hd : decode cc pc = .ok (.idiv, 1)) (kk : J p l e R s m args below meth c g A nL (pc + 1) L (.int (iI (x / y)) :: S) ws cells slots Q) : J p l e R s m args below meth c g A nL pc L (.int (iI y) :: .int (iI x) :: S) ws cells slots Q := by
  intro H locs ls hP hD hS h
  refine lv_idiv C.1 C.2.1 hd (fun h0 => ?_) ?_
  · rw [← iI_0, iI_eq (by omega) (by omega)] at h0; omega
  have h1 : 0 ≤ x / y := Int.ediv_nonneg hx.1 (by omega)
  have h2 : x / y ≤ x := Int.ediv_le_self _ hx.1
  have e : iI (x / y) = iI x / iI y := by
    apply Int32.toInt_inj.mp
    rw [Int32.toInt_div, iI_toInt (by omega), iI_toInt (by omega), iI_toInt (by omega), Int.tdiv_eq_ediv_of_nonneg hx.1]
    rw [Int.bmod_eq_of_le (by omega) (by omega)]
  rw [← e]
  exact kk H locs ls hP hD hS h
theorem j_ldiv (C : Cx p g s m args c cc nL own A) {x y : Int} (hx : 0 ≤ x ∧ x < 9223372036854775808) (hy : 0 < y ∧ y < 9223372036854775808) (hd : decode cc pc = .ok (.ldiv, 1)) (kk : J p l e R s m args below meth c g A nL (pc + 1) L (.long (lI (x / y)) :: S) ws cells slots Q) : J p l e R s m args below meth c g A nL pc L (.long (lI y) :: .long (lI x) :: S) ws cells slots Q := by
  intro H locs ls hP hD hS h
  have l0 : lI 0 = 0 := rfl
  refine lv_ldiv C.1 C.2.1 hd (fun h0 => ?_) ?_
  · rw [← l0, lI_eq (by omega) (by omega)] at h0; omega
  have h1 : 0 ≤ x / y := Int.ediv_nonneg hx.1 (by omega)
  have h2 : x / y ≤ x := Int.ediv_le_self _ hx.1
  have e : lI (x / y) = lI x / lI y := by
    apply Int64.toInt_inj.mp
    rw [Int64.toInt_div, lI_toInt (by omega), lI_toInt (by omega), lI_toInt (by omega), Int.tdiv_eq_ediv_of_nonneg hx.1]
    rw [Int.bmod_eq_of_le (by omega) (by omega)]
  rw [← e]
  exact kk H locs ls hP hD hS h
theorem j_icmp_lt (C : Cx p g s m args c cc nL own A) {x y off : Int} {tgt : Nat} (hx : -2147483648 ≤ x ∧ x < 2147483648) (hy : -2147483648 ≤ y ∧ y < 2147483648) (hd : decode cc pc = .ok (.if_icmp .lt off, 3)) (ht : (pc : Int) + off = (tgt : Int)) (kt : x < y → J p l e R s m args below meth c g A nL tgt L S ws cells slots Q) (kf : y ≤ x → J p l e R s m args below meth c g A nL (pc + 3) L S ws cells slots Q) : J p l e R s m args below meth c g A nL pc L (.int (iI y) :: .int (iI x) :: S) ws cells slots Q := by
  intro H locs ls hP hD hS h
  exact lv_icmp_lt C.1 C.2.1 hd ht (fun hc => kt ((iI_lt hx hy).mp hc) H locs ls hP hD hS h) (fun hc => kf (Int.not_lt.mp (fun e => hc ((iI_lt hx hy).mpr e))) H locs ls hP hD hS h)
theorem j_if_lt (C : Cx p g s m args c cc nL own A) {x off : Int} {tgt : Nat} (hx : -2147483648 ≤ x ∧ x < 2147483648) (hd : decode cc pc = .ok (.ifCond .lt off, 3)) (ht : (pc : Int) + off = (tgt : Int)) (kt : x < 0 → J p l e R s m args below meth c g A nL tgt L S ws cells slots Q) (kf : 0 ≤ x → J p l e R s m args below meth c g A nL (pc + 3) L S ws cells slots Q) : J p l e R s m args below meth c g A nL pc L (.int (iI x) :: S) ws cells slots Q := by
  intro H locs ls hP hD hS h
  exact lv_if_lt C.1 C.2.1 hd ht (fun hc => kt ((iI_lt hx (by omega)).mp hc) H locs ls hP hD hS h) (fun hc => kf (Int.not_lt.mp (fun e => hc ((iI_lt hx (by omega)).mpr e))) H locs ls hP hD hS h)
theorem j_icmp_ge (C : Cx p g s m args c cc nL own A) {x y off : Int} {tgt : Nat} (hx : -2147483648 ≤ x ∧ x < 2147483648) (hy : -2147483648 ≤ y ∧ y < 2147483648) (hd : decode cc pc = .ok (.if_icmp .ge off, 3)) (ht : (pc : Int) + off = (tgt : Int)) (kt : y ≤ x → J p l e R s m args below meth c g A nL tgt L S ws cells slots Q) (kf : x < y → J p l e R s m args below meth c g A nL (pc + 3) L S ws cells slots Q) : J p l e R s m args below meth c g A nL pc L (.int (iI y) :: .int (iI x) :: S) ws cells slots Q := by
  intro H locs ls hP hD hS h
  exact lv_icmp_ge C.1 C.2.1 hd ht (fun hc => kt ((iI_le hy hx).mp hc) H locs ls hP hD hS h) (fun hc => kf (Int.not_le.mp (fun e => hc ((iI_le hy hx).mpr e))) H locs ls hP hD hS h)
theorem j_if_ge (C : Cx p g s m args c cc nL own A) {x off : Int} {tgt : Nat} (hx : -2147483648 ≤ x ∧ x < 2147483648) (hd : decode cc pc = .ok (.ifCond .ge off, 3)) (ht : (pc : Int) + off = (tgt : Int)) (kt : 0 ≤ x → J p l e R s m args below meth c g A nL tgt L S ws cells slots Q) (kf : x < 0 → J p l e R s m args below meth c g A nL (pc + 3) L S ws cells slots Q) : J p l e R s m args below meth c g A nL pc L (.int (iI x) :: S) ws cells slots Q := by
  intro H locs ls hP hD hS h
  exact lv_if_ge C.1 C.2.1 hd ht (fun hc => kt ((iI_le (by omega) hx).mp hc) H locs ls hP hD hS h) (fun hc => kf (Int.not_le.mp (fun e => hc ((iI_le (by omega) hx).mpr e))) H locs ls hP hD hS h)
theorem j_icmp_gt (C : Cx p g s m args c cc nL own A) {x y off : Int} {tgt : Nat} (hx : -2147483648 ≤ x ∧ x < 2147483648) (hy : -2147483648 ≤ y ∧ y < 2147483648) (hd : decode cc pc = .ok (.if_icmp .gt off, 3)) (ht : (pc : Int) + off = (tgt : Int)) (kt : y < x → J p l e R s m args below meth c g A nL tgt L S ws cells slots Q) (kf : x ≤ y → J p l e R s m args below meth c g A nL (pc + 3) L S ws cells slots Q) : J p l e R s m args below meth c g A nL pc L (.int (iI y) :: .int (iI x) :: S) ws cells slots Q := by
  intro H locs ls hP hD hS h
  exact lv_icmp_gt C.1 C.2.1 hd ht (fun hc => kt ((iI_lt hy hx).mp hc) H locs ls hP hD hS h) (fun hc => kf (Int.not_lt.mp (fun e => hc ((iI_lt hy hx).mpr e))) H locs ls hP hD hS h)
theorem j_if_gt (C : Cx p g s m args c cc nL own A) {x off : Int} {tgt : Nat} (hx : -2147483648 ≤ x ∧ x < 2147483648) (hd : decode cc pc = .ok (.ifCond .gt off, 3)) (ht : (pc : Int) + off = (tgt : Int)) (kt : 0 < x → J p l e R s m args below meth c g A nL tgt L S ws cells slots Q) (kf : x ≤ 0 → J p l e R s m args below meth c g A nL (pc + 3) L S ws cells slots Q) : J p l e R s m args below meth c g A nL pc L (.int (iI x) :: S) ws cells slots Q := by
  intro H locs ls hP hD hS h
  exact lv_if_gt C.1 C.2.1 hd ht (fun hc => kt ((iI_lt (by omega) hx).mp hc) H locs ls hP hD hS h) (fun hc => kf (Int.not_lt.mp (fun e => hc ((iI_lt (by omega) hx).mpr e))) H locs ls hP hD hS h)
theorem j_icmp_le (C : Cx p g s m args c cc nL own A) {x y off : Int} {tgt : Nat} (hx : -2147483648 ≤ x ∧ x < 2147483648) (hy : -2147483648 ≤ y ∧ y < 2147483648) (hd : decode cc pc = .ok (.if_icmp .le off, 3)) (ht : (pc : Int) + off = (tgt : Int)) (kt : x ≤ y → J p l e R s m args below meth c g A nL tgt L S ws cells slots Q) (kf : y < x → J p l e R s m args below meth c g A nL (pc + 3) L S ws cells slots Q) : J p l e R s m args below meth c g A nL pc L (.int (iI y) :: .int (iI x) :: S) ws cells slots Q := by
  intro H locs ls hP hD hS h
  exact lv_icmp_le C.1 C.2.1 hd ht (fun hc => kt ((iI_le hx hy).mp hc) H locs ls hP hD hS h) (fun hc => kf (Int.not_le.mp (fun e => hc ((iI_le hx hy).mpr e))) H locs ls hP hD hS h)
theorem j_if_le (C : Cx p g s m args c cc nL own A) {x off : Int} {tgt : Nat} (hx : -2147483648 ≤ x ∧ x < 2147483648) (hd : decode cc pc = .ok (.ifCond .le off, 3)) (ht : (pc : Int) + off = (tgt : Int)) (kt : x ≤ 0 → J p l e R s m args below meth c g A nL tgt L S ws cells slots Q) (kf : 0 < x → J p l e R s m args below meth c g A nL (pc + 3) L S ws cells slots Q) : J p l e R s m args below meth c g A nL pc L (.int (iI x) :: S) ws cells slots Q := by
  intro H locs ls hP hD hS h
  exact lv_if_le C.1 C.2.1 hd ht (fun hc => kt ((iI_le hx (by omega)).mp hc) H locs ls hP hD hS h) (fun hc => kf (Int.not_le.mp (fun e => hc ((iI_le hx (by omega)).mpr e))) H locs ls hP hD hS h)
theorem j_icmp_eq (C : Cx p g s m args c cc nL own A) {x y off : Int} {tgt : Nat} (hx : -2147483648 ≤ x ∧ x < 2147483648) (hy : -2147483648 ≤ y ∧ y < 2147483648) (hd : decode cc pc = .ok (.if_icmp .eq off, 3)) (ht : (pc : Int) + off = (tgt : Int)) (kt : x = y → J p l e R s m args below meth c g A nL tgt L S ws cells slots Q) (kf : x ≠ y → J p l e R s m args below meth c g A nL (pc + 3) L S ws cells slots Q) : J p l e R s m args below meth c g A nL pc L (.int (iI y) :: .int (iI x) :: S) ws cells slots Q := by
  intro H locs ls hP hD hS h
  exact lv_icmp_eq C.1 C.2.1 hd ht (fun hc => kt ((iI_eq hx hy).mp hc) H locs ls hP hD hS h) (fun hc => kf (fun e => hc ((iI_eq hx hy).mpr e)) H locs ls hP hD hS h)
theorem j_if_eq (C : Cx p g s m args c cc nL own A) {x off : Int} {tgt : Nat} (hx : -2147483648 ≤ x ∧ x < 2147483648) (hd : decode cc pc = .ok (.ifCond .eq off, 3)) (ht : (pc : Int) + off = (tgt : Int)) (kt : x = 0 → J p l e R s m args below meth c g A nL tgt L S ws cells slots Q) (kf : x ≠ 0 → J p l e R s m args below meth c g A nL (pc + 3) L S ws cells slots Q) : J p l e R s m args below meth c g A nL pc L (.int (iI x) :: S) ws cells slots Q := by
  intro H locs ls hP hD hS h
  exact lv_if_eq C.1 C.2.1 hd ht (fun hc => kt ((iI_eq hx (by omega)).mp hc) H locs ls hP hD hS h) (fun hc => kf (fun e => hc ((iI_eq hx (by omega)).mpr e)) H locs ls hP hD hS h)
theorem j_icmp_ne (C : Cx p g s m args c cc nL own A) {x y off : Int} {tgt : Nat} (hx : -2147483648 ≤ x ∧ x < 2147483648) (hy : -2147483648 ≤ y ∧ y < 2147483648) (hd : decode cc pc = .ok (.if_icmp .ne off, 3)) (ht : (pc : Int) + off = (tgt : Int)) (kt : x ≠ y → J p l e R s m args below meth c g A nL tgt L S ws cells slots Q) (kf : x = y → J p l e R s m args below meth c g A nL (pc + 3) L S ws cells slots Q) : J p l e R s m args below meth c g A nL pc L (.int (iI y) :: .int (iI x) :: S) ws cells slots Q := by
  intro H locs ls hP hD hS h
  exact lv_icmp_ne C.1 C.2.1 hd ht (fun hc => kt (fun e => hc ((iI_eq hx hy).mpr e)) H locs ls hP hD hS h) (fun hc => kf ((iI_eq hx hy).mp hc) H locs ls hP hD hS h)
theorem j_if_ne (C : Cx p g s m args c cc nL own A) {x off : Int} {tgt : Nat} (hx : -2147483648 ≤ x ∧ x < 2147483648) (hd : decode cc pc = .ok (.ifCond .ne off, 3)) (ht : (pc : Int) + off = (tgt : Int)) (kt : x ≠ 0 → J p l e R s m args below meth c g A nL tgt L S ws cells slots Q) (kf : x = 0 → J p l e R s m args below meth c g A nL (pc + 3) L S ws cells slots Q) : J p l e R s m args below meth c g A nL pc L (.int (iI x) :: S) ws cells slots Q := by
  intro H locs ls hP hD hS h
  exact lv_if_ne C.1 C.2.1 hd ht (fun hc => kt (fun e => hc ((iI_eq hx (by omega)).mpr e)) H locs ls hP hD hS h) (fun hc => kf ((iI_eq hx (by omega)).mp hc) H locs ls hP hD hS h)
theorem j_goto (C : Cx p g s m args c cc nL own A) {off : Int} {tgt : Nat} (hd : decode cc pc = .ok (.goto off, 3)) (ht : (pc : Int) + off = (tgt : Int)) (kk : J p l e R s m args below meth c g A nL tgt L S ws cells slots Q) : J p l e R s m args below meth c g A nL pc L S ws cells slots Q := by
  intro H locs ls hP hD hS h
  exact lv_goto C.1 C.2.1 hd ht (kk H locs ls hP hD hS h)
theorem j_lcmp (C : Cx p g s m args c cc nL own A) {x y : Int} (hx : -9223372036854775808 ≤ x ∧ x < 9223372036854775808) (hy : -9223372036854775808 ≤ y ∧ y < 9223372036854775808) (hd : decode cc pc = .ok (.lcmp, 1)) (kk : J p l e R s m args below meth c g A nL (pc + 1) L (.int (iI (if y < x then 1 else if x = y then 0 else -1)) :: S) ws cells slots Q) : J p l e R s m args below meth c g A nL pc L (.long (lI y) :: .long (lI x) :: S) ws cells slots Q := by
  intro H locs ls hP hD hS h
  refine W.lcmp C.1 C.2.1 hd ?_
  have e : lg_cmp (lI x) (lI y) = iI (if y < x then 1 else if x = y then 0 else -1) := by
    unfold lg_cmp
    by_cases h1 : y < x
    · simp only [gt_iff_lt, lI_lt hy hx, if_pos h1]; rfl
    · by_cases h2 : x = y
      · simp only [gt_iff_lt, lI_lt hy hx, lI_eq hx hy, if_neg h1, if_pos h2]; rfl
      · simp only [gt_iff_lt, lI_lt hy hx, lI_eq hx hy, if_neg h1, if_neg h2]; rfl
  rw [e]
  exact kk H locs ls hP hD hS h
end JR
