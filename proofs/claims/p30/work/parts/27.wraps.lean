/-! the law's wrappers: a call, caught; rows for the law -/
def w32 (x : Int) : Int := (iI x).toInt
theorem w32_eq {x : Int} (hx : -2147483648 ≤ x ∧ x < 2147483648) : w32 x = x := iI_toInt hx
theorem w32_i (x : Int) : (iI x).toInt64 = lI (w32 x) := by
  have h1 := (iI x).le_toInt
  have h2 := (iI x).toInt_lt
  have e : iI (w32 x) = iI x := Int32.ofInt_toInt _
  rw [← e, i2l_ok (by unfold w32; omega)]
theorem rng32 (v : Int32) : -2147483648 ≤ v.toInt ∧ v.toInt < 2147483648 := by
  have h1 := v.le_toInt
  have h2 := v.toInt_lt
  omega
/-- what low answers -/
def lwF (x n : Int) : Int := (iI x &&& iI 2147483647).toInt % n
theorem and_nn (v : Int32) : 0 ≤ (v &&& iI 2147483647).toInt := by
  have h : (v &&& iI 2147483647).toInt = (v.toBitVec &&& (2147483647#32)).toInt := rfl
  rw [h, BitVec.toInt_eq_toNat_of_lt]
  · omega
  · have h2 : (v.toBitVec &&& (2147483647#32)).toNat = v.toBitVec.toNat &&& 2147483647 := by rw [BitVec.toNat_and]; rfl
    have h3 : v.toBitVec.toNat &&& 2147483647 ≤ 2147483647 := Nat.and_le_right
    omega
theorem lwF_rng {x n : Int} (hn : 0 < n) : 0 ≤ lwF x n ∧ lwF x n < n := ⟨Int.emod_nonneg _ (by omega), Int.emod_lt_of_pos _ hn⟩
section JWR
variable {p : Program} {l : Launch} {e : Env} {R : Room} {s : State} {m : MethodId} {args : Array Value} {below : List Frame} {meth : Method} {c : Code} {g : Gh} {A : Nat → Prop} {cc : ByteArray} {nL : Nat} {own : String} {pc : Nat} {L : List (Nat × Value)} {S : List Value} {ws : va_W} {cells slots : Nat} {Q : State → Prop}
theorem pfL (pre : va_W) : ∀ w : va_W, (pre ++ w).Perm (w ++ pre) := fun w => List.perm_append_comm
theorem j_i2lw (C : Cx p g s m args c cc nL own A) {x : Int} (hd : decode cc pc = .ok (.i2l, 1)) (kk : J p l e R s m args below meth c g A nL (pc + 1) L (.long (lI (w32 x)) :: S) ws cells slots Q) : J p l e R s m args below meth c g A nL pc L (.int (iI x) :: S) ws cells slots Q := by
  intro H locs ls hP hD hS h
  exact lv_i2l C.1 C.2.1 hd (w32_i x) (kk H locs ls hP hD hS h)
theorem j_sld (C : Cx p g s m args c cc nL own A) {b n0 : Nat} {xs : Nat → Int32} (hX : va_X b n0 xs s s.heap) (hbl : b < s.heap.size) (hbA : ¬ A b) {x : Int} (k : Nat) (hk : x = (k : Int)) (hn : k < n0) (hN : (n0 : Int) ≤ 2147483648) (hd : decode cc pc = .ok (.iaload, 1)) (kk : ∀ z : Int, J p l e R s m args below meth c g A nL (pc + 1) L (.int (iI z) :: S) ws cells slots Q) : J p l e R s m args below meth c g A nL pc L (.int (iI x) :: .ref b :: S) ws cells slots Q := by
  intro H locs ls hP hD hS h
  refine va_sld C.1 C.2.1 hX hbl hbA hS (iI_in hk hn hN) hd ?_
  have e : iI (xs k).toInt = xs k := Int32.ofInt_toInt _
  rw [iI_clamp hk (by omega), ← e]
  exact kk _ H locs ls hP hD hS h
theorem j_slen (C : Cx p g s m args c cc nL own A) {b n0 : Nat} {xs : Nat → Int32} (hX : va_X b n0 xs s s.heap) (hbl : b < s.heap.size) (hbA : ¬ A b) (hd : decode cc pc = .ok (.arraylength, 1)) (kk : J p l e R s m args below meth c g A nL (pc + 1) L (.int (iI (n0 : Int)) :: S) ws cells slots Q) : J p l e R s m args below meth c g A nL pc L (.ref b :: S) ws cells slots Q := by
  intro H locs ls hP hD hS h
  refine va_slen C.1 C.2.1 hX hbl hbA hS hd ?_
  rw [← iI_nI]
  exact kk H locs ls hP hD hS h
theorem j_iand (C : Cx p g s m args c cc nL own A) {x y : Int} (hd : decode cc pc = .ok (.iand, 1)) (kk : J p l e R s m args below meth c g A nL (pc + 1) L (.int (iI (iI x &&& iI y).toInt) :: S) ws cells slots Q) : J p l e R s m args below meth c g A nL pc L (.int (iI y) :: .int (iI x) :: S) ws cells slots Q := by
  intro H locs ls hP hD hS h
  have e : iI (iI x &&& iI y).toInt = iI x &&& iI y := Int32.ofInt_toInt _
  refine lv_iand C.1 C.2.1 hd ?_
  rw [← e]
  exact kk H locs ls hP hD hS h
theorem j_ixorA (C : Cx p g s m args c cc nL own A) {x y : Int32} (hd : decode cc pc = .ok (.ixor, 1)) (kk : ∀ z : Int, (-2147483648 ≤ z ∧ z < 2147483648) → J p l e R s m args below meth c g A nL (pc + 1) L (.int (iI z) :: S) ws cells slots Q) : J p l e R s m args below meth c g A nL pc L (.int y :: .int x :: S) ws cells slots Q := by
  intro H locs ls hP hD hS h
  have e : iI (x ^^^ y).toInt = x ^^^ y := Int32.ofInt_toInt _
  refine lv_ixor C.1 C.2.1 hd ?_
  rw [← e]
  exact kk _ (rng32 _) H locs ls hP hD hS h
theorem j_ishrA (C : Cx p g s m args c cc nL own A) {x y : Int32} (hd : decode cc pc = .ok (.ishr, 1)) (kk : ∀ z : Int, (-2147483648 ≤ z ∧ z < 2147483648) → J p l e R s m args below meth c g A nL (pc + 1) L (.int (iI z) :: S) ws cells slots Q) : J p l e R s m args below meth c g A nL pc L (.int y :: .int x :: S) ws cells slots Q := by
  intro H locs ls hP hD hS h
  refine lv_ishr C.1 C.2.1 hd ?_
  have e : iI (x >>> (y &&& 31)).toInt = x >>> (y &&& 31) := Int32.ofInt_toInt _
  rw [← e]
  exact kk _ (rng32 _) H locs ls hP hD hS h
theorem j_iushrA (C : Cx p g s m args c cc nL own A) {x y : Int32} (hd : decode cc pc = .ok (.iushr, 1)) (kk : ∀ z : Int, J p l e R s m args below meth c g A nL (pc + 1) L (.int (iI z) :: S) ws cells slots Q) : J p l e R s m args below meth c g A nL pc L (.int y :: .int x :: S) ws cells slots Q := by
  intro H locs ls hP hD hS h
  refine lv_iushr C.1 C.2.1 hd (v := iI ((x.toUInt32 >>> (y.toUInt32 &&& Int32.toUInt32 31)).toInt32).toInt) (Int32.ofInt_toInt _).symm ?_
  exact kk _ H locs ls hP hD hS h
theorem j_irng {x : Int} (kk : ∀ z : Int, (-2147483648 ≤ z ∧ z < 2147483648) → J p l e R s m args below meth c g A nL pc L (.int (iI z) :: S) ws cells slots Q) : J p l e R s m args below meth c g A nL pc L (.int (iI x) :: S) ws cells slots Q := by
  intro H locs ls hP hD hS h
  have e : iI (iI x).toInt = iI x := Int32.ofInt_toInt _
  rw [← e]
  exact kk _ (rng32 _) H locs ls hP hD hS h
theorem j_isameF (C : Cx p g s m args c cc nL own A) {x y off : Int} (hxy : x = y) (hd : decode cc pc = .ok (.if_icmp .ne off, 3)) {tgt : Nat} (ht : (pc : Int) + off = (tgt : Int)) (kk : J p l e R s m args below meth c g A nL (pc + 3) L S ws cells slots Q) : J p l e R s m args below meth c g A nL pc L (.int (iI y) :: .int (iI x) :: S) ws cells slots Q := by
  intro H locs ls hP hD hS h
  exact lv_icmp_ne C.1 C.2.1 hd ht (fun hc => absurd (congrArg iI hxy) hc) (fun _ => kk H locs ls hP hD hS h)
theorem j_lsameF (C : Cx p g s m args c cc nL own A) {x y off : Int} {tgt : Nat} (hxy : x = y) (hd : decode cc pc = .ok (.lcmp, 1)) (hd2 : decode cc (pc + 1) = .ok (.ifCond .ne off, 3)) (ht : ((pc + 1 : Nat) : Int) + off = (tgt : Int)) (kk : J p l e R s m args below meth c g A nL (pc + 4) L S ws cells slots Q) : J p l e R s m args below meth c g A nL pc L (.long (lI y) :: .long (lI x) :: S) ws cells slots Q := by
  intro H locs ls hP hD hS h
  subst hxy
  refine W.lcmp C.1 C.2.1 hd ?_
  have e : lg_cmp (lI x) (lI x) = 0 := by unfold lg_cmp; simp
  rw [e]
  exact lv_if_ne C.1 C.2.1 hd2 ht (fun hc => absurd rfl hc) (fun _ => kk H locs ls hP hD hS h)
theorem J.dropR {ex : va_W} (kk : J p l e R s m args below meth c g A nL pc L S ws cells slots Q) : J p l e R s m args below meth c g A nL pc L S (ws ++ ex) cells slots Q := fun H locs ls hP hD hS h => kk H locs ls (wP_iff.mpr fun q hq => wP_iff.mp hP q (List.mem_append_left _ hq)) (wD_iff.mpr ⟨by have h9 := (wD_iff.mp hD).1; rw [List.map_append, List.nodup_append] at h9; exact h9.1, fun q hq => (wD_iff.mp hD).2 q (List.mem_append_left _ hq)⟩) hS h
theorem J.dropL {ex : va_W} (kk : J p l e R s m args below meth c g A nL pc L S ws cells slots Q) : J p l e R s m args below meth c g A nL pc L S (ex ++ ws) cells slots Q := fun H locs ls hP hD hS h => kk H locs ls (wP_iff.mpr fun q hq => wP_iff.mp hP q (List.mem_append_right _ hq)) (wD_iff.mpr ⟨by have h9 := (wD_iff.mp hD).1; rw [List.map_append, List.nodup_append] at h9; exact h9.2.1, fun q hq => (wD_iff.mp hD).2 q (List.mem_append_right _ hq)⟩) hS h
end JWR
/-- a contract with fewer things told: less is promised, more room is asked -/
theorem CT.post {l : Launch} {g : Gh} {y : MethodName} {cc : ByteArray} {nL : Nat} {ret : Option FieldType} {rm : Room} {av : List Value} {w : va_W} {Post Post' : Option Value → va_W → Prop} (h : CT l g y cc nL ret rm av w Post) (e : Post = Post') : CT l g y cc nL ret rm av w Post' := e ▸ h
theorem yw_L_weight : YW yL_weight RL cL_weight 4 (some FieldType.int) [(0, 6, 7, 15), (0, 6, 11, 18)] 3 := ⟨qw158, qw0, qw159, rfl, ⟨by decide +kernel, by decide +kernel⟩, by decide +kernel⟩
theorem w_weight (l : Launch) (g : Gh) (r : Nat → Nat) (qn qt : Nat → Nat) (qv : Nat → Nat → Nat) (kn kt : Nat → Nat → Int) (kv : Nat → Nat → Nat → Int) (sc : Int) (ns : Nat) (tx : Nat → Int) (tn : Nat) (pl : Int) (b w : Int) (hT : TOK kn kv sc ns tx tn) (hb4 : 0 ≤ b ∧ b < 4) (hw : 0 ≤ w ∧ w ≤ 50000) : CW l g yL_weight cL_weight 4 (some FieldType.int) [(0, 6, 7, 15), (0, 6, 11, 18)] ({ frames := 5, cells := 0, slots := 0, locals := 108 }) [.ref (r 0), .int (iI b), .int (iI w)] (wTp g r qn qt qv kn kt kv sc ns tx tn pl) (PE (some (.int (iI (kn 3 b.toNat)))) (wTp g r qn qt qv (va_up kn 3 (va_up (kn 3) b.toNat w)) kt (svk kn kv ns) (svs sc) (svn ns) tx tn pl)) := by
  refine CW.intro (L0 := [(0, .ref (r 0)), (1, .int (iI b)), (2, .int (iI w))]) (own := RL) (by decide) rfl (Nat.le_of_ble_eq_true rfl) rfl ?_
  intro pX eX sX mX argsX belowX methX cX A C hr hlk hnt
  refine J.vx ?_
  refine j_aload_n C 0 dL_weight_0 rfl rfl ?_
  refine j_iload_n C 1 dL_weight_1 rfl rfl ?_
  refine j_iload_n C 2 dL_weight_2 rfl rfl ?_
  refine j_callV (As := [.int (iI b), .int (iI w)]) (rest := []) C yv_X4_setWeight qw162 (c_X4_setWeight l g r qn qt qv kn kt kv sc ns tx tn pl b w hT hb4 hw) (by decide) 0 rfl rfl rfl dL_weight_3 rfl (Nat.le_of_ble_eq_true rfl) (by decide) pf0 rfl (fun r9 w9 hq9 => ?_)
  obtain ⟨rfl, rfl⟩ := hq9
  refine J.to (L1 := [(0, .ref (r 0)), (1, .int (iI b)), (2, .int (iI w))]) (S1 := [.int (iI ((kn 3 b.toNat)))]) (ws1 := wTp g r qn qt qv (va_up kn 3 (va_up (kn 3) b.toNat w)) kt (svk kn kv ns) (svs sc) (svn ns) tx tn pl) rfl rfl rfl ?_
  exact j_iret C hr hlk dL_weight_6 ⟨rfl, rfl⟩ (by decide) (by decide)
theorem w_weight_x1 (l : Launch) (hl : l.stackTraces = false) (g : Gh) (r : Nat → Nat) (qn qt : Nat → Nat) (qv : Nat → Nat → Nat) (kn kt : Nat → Nat → Int) (kv : Nat → Nat → Nat → Int) (sc : Int) (ns : Nat) (tx : Nat → Int) (tn : Nat) (pl : Int) (b w : Int) (hT : TOK kn kv sc ns tx tn) (hrb : -2147483648 ≤ b ∧ b < 2147483648) (hrw : -2147483648 ≤ w ∧ w < 2147483648) (hb4 : b < 0 ∨ 4 ≤ b) : CW l g yL_weight cL_weight 4 (some FieldType.int) [(0, 6, 7, 15), (0, 6, 11, 18)] ({ frames := 8, cells := 1, slots := 6, locals := 145 }) [.ref (r 0), .int (iI b), .int (iI w)] (wTp g r qn qt qv kn kt kv sc ns tx tn pl) (PE (some (.int (iI (-900000003)))) (wTp g r qn qt qv kn kt kv sc ns tx tn pl)) := by
  refine CW.intro (L0 := [(0, .ref (r 0)), (1, .int (iI b)), (2, .int (iI w))]) (own := RL) (by decide) rfl (Nat.le_of_ble_eq_true rfl) rfl ?_
  intro pX eX sX mX argsX belowX methX cX A C hr hlk hnt
  refine J.vx ?_
  refine j_aload_n C 0 dL_weight_0 rfl rfl ?_
  refine j_iload_n C 1 dL_weight_1 rfl rfl ?_
  refine j_iload_n C 2 dL_weight_2 rfl rfl ?_
  refine j_callVC (As := [.int (iI b), .int (iI w)]) (rest := []) C yv_X4_setWeight qw162 (x_X4_setWeight_1 l hl g r qn qt qv kn kt kv sc ns tx tn pl b w hT hrb hrw hb4) (by decide) 0 rfl rfl rfl dL_weight_3 rfl (Nat.le_of_ble_eq_true rfl) (by decide) pf0 rfl (name := "java/lang/IndexOutOfBoundsException") [] [⟨0, 6, 11, 18⟩] ⟨0, 6, 7, 15⟩ hnt (fun z hz => absurd hz List.not_mem_nil) (by decide) (by decide) qw160 qn174 (fun w9 q9 hq9 => ?_)
  subst hq9
  refine J.to (L1 := [(0, .ref (r 0)), (1, .int (iI b)), (2, .int (iI w))]) (S1 := [.ref q9]) (ws1 := wTp g r qn qt qv kn kt kv sc ns tx tn pl) rfl rfl rfl ?_
  refine j_astore_n (L1 := [(3, .ref q9), (0, .ref (r 0)), (1, .int (iI b)), (2, .int (iI w))]) C dL_weight_7 rfl (by decide) rfl ?_
  refine j_ldc (x := -900000003) C qw305 (by decide) dL_weight_8 ?_
  exact j_iret C hr hlk dL_weight_10 ⟨rfl, rfl⟩ (by decide) (by decide)
theorem w_weight_x2 (l : Launch) (hl : l.stackTraces = false) (g : Gh) (r : Nat → Nat) (qn qt : Nat → Nat) (qv : Nat → Nat → Nat) (kn kt : Nat → Nat → Int) (kv : Nat → Nat → Nat → Int) (sc : Int) (ns : Nat) (tx : Nat → Int) (tn : Nat) (pl : Int) (b w : Int) (hT : TOK kn kv sc ns tx tn) (hrb : -2147483648 ≤ b ∧ b < 2147483648) (hrw : -2147483648 ≤ w ∧ w < 2147483648) (hb4 : 0 ≤ b ∧ b < 4) (hw : w < 0 ∨ 50000 < w) : CW l g yL_weight cL_weight 4 (some FieldType.int) [(0, 6, 7, 15), (0, 6, 11, 18)] ({ frames := 8, cells := 1, slots := 6, locals := 145 }) [.ref (r 0), .int (iI b), .int (iI w)] (wTp g r qn qt qv kn kt kv sc ns tx tn pl) (PE (some (.int (iI (-900000001)))) (wTp g r qn qt qv kn kt kv sc ns tx tn pl)) := by
  refine CW.intro (L0 := [(0, .ref (r 0)), (1, .int (iI b)), (2, .int (iI w))]) (own := RL) (by decide) rfl (Nat.le_of_ble_eq_true rfl) rfl ?_
  intro pX eX sX mX argsX belowX methX cX A C hr hlk hnt
  refine J.vx ?_
  refine j_aload_n C 0 dL_weight_0 rfl rfl ?_
  refine j_iload_n C 1 dL_weight_1 rfl rfl ?_
  refine j_iload_n C 2 dL_weight_2 rfl rfl ?_
  refine j_callVC (As := [.int (iI b), .int (iI w)]) (rest := []) C yv_X4_setWeight qw162 (x_X4_setWeight_2 l hl g r qn qt qv kn kt kv sc ns tx tn pl b w hT hrb hrw hb4 hw) (by decide) 0 rfl rfl rfl dL_weight_3 rfl (Nat.le_of_ble_eq_true rfl) (by decide) pf0 rfl (name := "java/lang/IllegalArgumentException") [⟨0, 6, 7, 15⟩] [] ⟨0, 6, 11, 18⟩ hnt (fun z hz => by rcases List.mem_singleton.mp hz with rfl; exact Or.inr ⟨by decide, "java/lang/IndexOutOfBoundsException", C.2.2.2.2.1 _ qw160, C.2.2.2.2.2.1.2.2.1 ("java/lang/IllegalArgumentException", "java/lang/IndexOutOfBoundsException") (List.mem_of_getElem? (i := 0) rfl)⟩) (by decide) (by decide) qw161 qn246 (fun w9 q9 hq9 => ?_)
  subst hq9
  refine J.to (L1 := [(0, .ref (r 0)), (1, .int (iI b)), (2, .int (iI w))]) (S1 := [.ref q9]) (ws1 := wTp g r qn qt qv kn kt kv sc ns tx tn pl) rfl rfl rfl ?_
  refine j_astore_n (L1 := [(3, .ref q9), (0, .ref (r 0)), (1, .int (iI b)), (2, .int (iI w))]) C dL_weight_11 rfl (by decide) rfl ?_
  refine j_ldc (x := -900000001) C qw306 (by decide) dL_weight_12 ?_
  exact j_iret C hr hlk dL_weight_14 ⟨rfl, rfl⟩ (by decide) (by decide)
theorem yw_L_friction : YW yL_friction RL cL_friction 3 (some FieldType.int) [(0, 5, 6, 18)] 2 := ⟨qw308, qw0, qw309, rfl, ⟨by decide +kernel, by decide +kernel⟩, by decide +kernel⟩
theorem w_friction (l : Launch) (g : Gh) (r : Nat → Nat) (qn qt : Nat → Nat) (qv : Nat → Nat → Nat) (kn kt : Nat → Nat → Int) (kv : Nat → Nat → Nat → Int) (sc : Int) (ns : Nat) (tx : Nat → Int) (tn : Nat) (pl : Int) (f : Int) (hT : TOK kn kv sc ns tx tn) (hf : 0 ≤ f ∧ f ≤ 30) : CW l g yL_friction cL_friction 3 (some FieldType.int) [(0, 5, 6, 18)] ({ frames := 5, cells := 0, slots := 0, locals := 107 }) [.ref (r 0), .int (iI f)] (wTp g r qn qt qv kn kt kv sc ns tx tn pl) (PE (some (.int (iI (kn 0 1)))) (wTp g r qn qt qv (va_up kn 0 (va_up (kn 0) 1 f)) kt (svk kn kv ns) (svs sc) (svn ns) tx tn pl)) := by
  refine CW.intro (L0 := [(0, .ref (r 0)), (1, .int (iI f))]) (own := RL) (by decide) rfl (Nat.le_of_ble_eq_true rfl) rfl ?_
  intro pX eX sX mX argsX belowX methX cX A C hr hlk hnt
  refine J.vx ?_
  refine j_aload_n C 0 dL_friction_0 rfl rfl ?_
  refine j_iload_n C 1 dL_friction_1 rfl rfl ?_
  refine j_callV (As := [.int (iI f)]) (rest := []) C yv_X4_setFriction qw310 (c_X4_setFriction l g r qn qt qv kn kt kv sc ns tx tn pl f hT hf) (by decide) 0 rfl rfl rfl dL_friction_2 rfl (Nat.le_of_ble_eq_true rfl) (by decide) pf0 rfl (fun r9 w9 hq9 => ?_)
  obtain ⟨rfl, rfl⟩ := hq9
  refine J.to (L1 := [(0, .ref (r 0)), (1, .int (iI f))]) (S1 := [.int (iI ((kn 0 1)))]) (ws1 := wTp g r qn qt qv (va_up kn 0 (va_up (kn 0) 1 f)) kt (svk kn kv ns) (svs sc) (svn ns) tx tn pl) rfl rfl rfl ?_
  exact j_iret C hr hlk dL_friction_5 ⟨rfl, rfl⟩ (by decide) (by decide)
theorem w_friction_x1 (l : Launch) (hl : l.stackTraces = false) (g : Gh) (r : Nat → Nat) (qn qt : Nat → Nat) (qv : Nat → Nat → Nat) (kn kt : Nat → Nat → Int) (kv : Nat → Nat → Nat → Int) (sc : Int) (ns : Nat) (tx : Nat → Int) (tn : Nat) (pl : Int) (f : Int) (hT : TOK kn kv sc ns tx tn) (hrf : -2147483648 ≤ f ∧ f < 2147483648) (hf : f < 0 ∨ 30 < f) : CW l g yL_friction cL_friction 3 (some FieldType.int) [(0, 5, 6, 18)] ({ frames := 8, cells := 1, slots := 6, locals := 144 }) [.ref (r 0), .int (iI f)] (wTp g r qn qt qv kn kt kv sc ns tx tn pl) (PE (some (.int (iI (-900000001)))) (wTp g r qn qt qv kn kt kv sc ns tx tn pl)) := by
  refine CW.intro (L0 := [(0, .ref (r 0)), (1, .int (iI f))]) (own := RL) (by decide) rfl (Nat.le_of_ble_eq_true rfl) rfl ?_
  intro pX eX sX mX argsX belowX methX cX A C hr hlk hnt
  refine J.vx ?_
  refine j_aload_n C 0 dL_friction_0 rfl rfl ?_
  refine j_iload_n C 1 dL_friction_1 rfl rfl ?_
  refine j_callVC (As := [.int (iI f)]) (rest := []) C yv_X4_setFriction qw310 (x_X4_setFriction_1 l hl g r qn qt qv kn kt kv sc ns tx tn pl f hT hrf hf) (by decide) 0 rfl rfl rfl dL_friction_2 rfl (Nat.le_of_ble_eq_true rfl) (by decide) pf0 rfl (name := "java/lang/IllegalArgumentException") [] [] ⟨0, 5, 6, 18⟩ hnt (fun z hz => absurd hz List.not_mem_nil) (by decide) (by decide) qw161 qn246 (fun w9 q9 hq9 => ?_)
  subst hq9
  refine J.to (L1 := [(0, .ref (r 0)), (1, .int (iI f))]) (S1 := [.ref q9]) (ws1 := wTp g r qn qt qv kn kt kv sc ns tx tn pl) rfl rfl rfl ?_
  refine j_astore_n (L1 := [(2, .ref q9), (0, .ref (r 0)), (1, .int (iI f))]) C dL_friction_6 rfl (by decide) rfl ?_
  refine j_ldc (x := -900000001) C qw306 (by decide) dL_friction_7 ?_
  exact j_iret C hr hlk dL_friction_9 ⟨rfl, rfl⟩ (by decide) (by decide)
theorem yw_L_longer : YW yL_longer RL cL_longer 3 (some FieldType.int) [(0, 5, 6, 18), (0, 5, 10, 28)] 2 := ⟨qw315, qw0, qw316, rfl, ⟨by decide +kernel, by decide +kernel⟩, by decide +kernel⟩
theorem w_longer (l : Launch) (g : Gh) (r : Nat → Nat) (qn qt : Nat → Nat) (qv : Nat → Nat → Nat) (kn kt : Nat → Nat → Int) (kv : Nat → Nat → Nat → Int) (sc : Int) (ns : Nat) (tx : Nat → Int) (tn : Nat) (pl : Int) (x : Int) (hT : TOK kn kv sc ns tx tn) (hx : 1000 ≤ x ∧ x ≤ 300000) (hh : 0 ≤ hnd (kLen kn kt x)) : CW l g yL_longer cL_longer 3 (some FieldType.int) [(0, 5, 6, 18), (0, 5, 10, 28)] ({ frames := 6, cells := 0, slots := 0, locals := 127 }) [.ref (r 0), .int (iI x)] (wTp g r qn qt qv kn kt kv sc ns tx tn pl) (PE (some (.int (iI (hnd (cpS (kLen kn kt x) kn))))) (wTp g r qn qt qv (cpS (kLen kn kt x) kn) (kLen kn kt x) (svk kn kv ns) (svs sc) (svn ns) tx tn pl)) := by
  refine CW.intro (L0 := [(0, .ref (r 0)), (1, .int (iI x))]) (own := RL) (by decide) rfl (Nat.le_of_ble_eq_true rfl) rfl ?_
  intro pX eX sX mX argsX belowX methX cX A C hr hlk hnt
  refine J.vx ?_
  refine j_aload_n C 0 dL_longer_0 rfl rfl ?_
  refine j_iload_n C 1 dL_longer_1 rfl rfl ?_
  refine j_callV (As := [.int (iI x)]) (rest := []) C yv_X4_setLength qw318 (c_X4_setLength l g r qn qt qv kn kt kv sc ns tx tn pl x hT hx hh) (by decide) 0 rfl rfl rfl dL_longer_2 rfl (Nat.le_of_ble_eq_true rfl) (by decide) pf0 rfl (fun r9 w9 hq9 => ?_)
  obtain ⟨rfl, rfl⟩ := hq9
  refine J.to (L1 := [(0, .ref (r 0)), (1, .int (iI x))]) (S1 := [.int (iI ((hnd (cpS (kLen kn kt x) kn))))]) (ws1 := wTp g r qn qt qv (cpS (kLen kn kt x) kn) (kLen kn kt x) (svk kn kv ns) (svs sc) (svn ns) tx tn pl) rfl rfl rfl ?_
  exact j_iret C hr hlk dL_longer_5 ⟨rfl, rfl⟩ (by decide) (by decide)
theorem w_longer_x1 (l : Launch) (hl : l.stackTraces = false) (g : Gh) (r : Nat → Nat) (qn qt : Nat → Nat) (qv : Nat → Nat → Nat) (kn kt : Nat → Nat → Int) (kv : Nat → Nat → Nat → Int) (sc : Int) (ns : Nat) (tx : Nat → Int) (tn : Nat) (pl : Int) (x : Int) (hT : TOK kn kv sc ns tx tn) (hrx : -2147483648 ≤ x ∧ x < 2147483648) (hx : x < 1000 ∨ 300000 < x) : CW l g yL_longer cL_longer 3 (some FieldType.int) [(0, 5, 6, 18), (0, 5, 10, 28)] ({ frames := 8, cells := 1, slots := 6, locals := 143 }) [.ref (r 0), .int (iI x)] (wTp g r qn qt qv kn kt kv sc ns tx tn pl) (PE (some (.int (iI (-900000001)))) (wTp g r qn qt qv kn kt kv sc ns tx tn pl)) := by
  refine CW.intro (L0 := [(0, .ref (r 0)), (1, .int (iI x))]) (own := RL) (by decide) rfl (Nat.le_of_ble_eq_true rfl) rfl ?_
  intro pX eX sX mX argsX belowX methX cX A C hr hlk hnt
  refine J.vx ?_
  refine j_aload_n C 0 dL_longer_0 rfl rfl ?_
  refine j_iload_n C 1 dL_longer_1 rfl rfl ?_
  refine j_callVC (As := [.int (iI x)]) (rest := []) C yv_X4_setLength qw318 (x_X4_setLength_1 l hl g r qn qt qv kn kt kv sc ns tx tn pl x hT hrx hx) (by decide) 0 rfl rfl rfl dL_longer_2 rfl (Nat.le_of_ble_eq_true rfl) (by decide) pf0 rfl (name := "java/lang/IllegalArgumentException") [] [⟨0, 5, 10, 28⟩] ⟨0, 5, 6, 18⟩ hnt (fun z hz => absurd hz List.not_mem_nil) (by decide) (by decide) qw161 qn246 (fun w9 q9 hq9 => ?_)
  subst hq9
  refine J.to (L1 := [(0, .ref (r 0)), (1, .int (iI x))]) (S1 := [.ref q9]) (ws1 := wTp g r qn qt qv kn kt kv sc ns tx tn pl) rfl rfl rfl ?_
  refine j_astore_n (L1 := [(2, .ref q9), (0, .ref (r 0)), (1, .int (iI x))]) C dL_longer_6 rfl (by decide) rfl ?_
  refine j_ldc (x := -900000001) C qw306 (by decide) dL_longer_7 ?_
  exact j_iret C hr hlk dL_longer_9 ⟨rfl, rfl⟩ (by decide) (by decide)
theorem w_longer_x2 (l : Launch) (hl : l.stackTraces = false) (g : Gh) (r : Nat → Nat) (qn qt : Nat → Nat) (qv : Nat → Nat → Nat) (kn kt : Nat → Nat → Int) (kv : Nat → Nat → Nat → Int) (sc : Int) (ns : Nat) (tx : Nat → Int) (tn : Nat) (pl : Int) (x : Int) (hT : TOK kn kv sc ns tx tn) (hx : 1000 ≤ x ∧ x ≤ 300000) (hh : hnd (kLen kn kt x) < 0) : CW l g yL_longer cL_longer 3 (some FieldType.int) [(0, 5, 6, 18), (0, 5, 10, 28)] ({ frames := 8, cells := 1, slots := 6, locals := 143 }) [.ref (r 0), .int (iI x)] (wTp g r qn qt qv kn kt kv sc ns tx tn pl) (PE (some (.int (iI (-900000002)))) (wTp g r qn qt qv kn (kLen kn kt x) kv sc ns tx tn pl)) := by
  refine CW.intro (L0 := [(0, .ref (r 0)), (1, .int (iI x))]) (own := RL) (by decide) rfl (Nat.le_of_ble_eq_true rfl) rfl ?_
  intro pX eX sX mX argsX belowX methX cX A C hr hlk hnt
  refine J.vx ?_
  refine j_aload_n C 0 dL_longer_0 rfl rfl ?_
  refine j_iload_n C 1 dL_longer_1 rfl rfl ?_
  refine j_callVC (As := [.int (iI x)]) (rest := []) C yv_X4_setLength qw318 (x_X4_setLength_2 l hl g r qn qt qv kn kt kv sc ns tx tn pl x hT hx hh) (by decide) 0 rfl rfl rfl dL_longer_2 rfl (Nat.le_of_ble_eq_true rfl) (by decide) pf0 rfl (name := "java/lang/IllegalStateException") [⟨0, 5, 6, 18⟩] [] ⟨0, 5, 10, 28⟩ hnt (fun z hz => by rcases List.mem_singleton.mp hz with rfl; exact Or.inr ⟨by decide, "java/lang/IllegalArgumentException", C.2.2.2.2.1 _ qw161, C.2.2.2.2.2.1.2.2.1 ("java/lang/IllegalStateException", "java/lang/IllegalArgumentException") (List.mem_of_getElem? (i := 2) rfl)⟩) (by decide) (by decide) qw317 qn349 (fun w9 q9 hq9 => ?_)
  subst hq9
  refine J.to (L1 := [(0, .ref (r 0)), (1, .int (iI x))]) (S1 := [.ref q9]) (ws1 := wTp g r qn qt qv kn (kLen kn kt x) kv sc ns tx tn pl) rfl rfl rfl ?_
  refine j_astore_n (L1 := [(2, .ref q9), (0, .ref (r 0)), (1, .int (iI x))]) C dL_longer_10 rfl (by decide) rfl ?_
  refine j_ldc (x := -900000002) C qw367 (by decide) dL_longer_11 ?_
  exact j_iret C hr hlk dL_longer_13 ⟨rfl, rfl⟩ (by decide) (by decide)
theorem yw_L_more : YW yL_more RL cL_more 3 (some FieldType.int) [(0, 5, 6, 15), (0, 5, 10, 28)] 2 := ⟨qw502, qw0, qw503, rfl, ⟨by decide +kernel, by decide +kernel⟩, by decide +kernel⟩
theorem w_more (l : Launch) (g : Gh) (r : Nat → Nat) (qn qt : Nat → Nat) (qv : Nat → Nat → Nat) (kn kt : Nat → Nat → Int) (kv : Nat → Nat → Nat → Int) (sc : Int) (ns : Nat) (tx : Nat → Int) (tn : Nat) (pl : Int) (b : Int) (hT : TOK kn kv sc ns tx tn) (hb4 : 0 ≤ b ∧ b < 4) (hP9 : kn 0 2 < 10) (hh : 0 ≤ hnd (kAdd kn kt b)) : CW l g yL_more cL_more 3 (some FieldType.int) [(0, 5, 6, 15), (0, 5, 10, 28)] ({ frames := 6, cells := 0, slots := 0, locals := 127 }) [.ref (r 0), .int (iI b)] (wTp g r qn qt qv kn kt kv sc ns tx tn pl) (PE (some (.int (iI (kn 0 2 + 1)))) (wTp g r qn qt qv (cpS (kAdd kn kt b) kn) (kAdd kn kt b) (svk kn kv ns) (svs sc) (svn ns) tx tn pl)) := by
  refine CW.intro (L0 := [(0, .ref (r 0)), (1, .int (iI b))]) (own := RL) (by decide) rfl (Nat.le_of_ble_eq_true rfl) rfl ?_
  intro pX eX sX mX argsX belowX methX cX A C hr hlk hnt
  refine J.vx ?_
  refine j_aload_n C 0 dL_more_0 rfl rfl ?_
  refine j_iload_n C 1 dL_more_1 rfl rfl ?_
  refine j_callV (As := [.int (iI b)]) (rest := []) C yv_X4_addPulley qw504 (c_X4_addPulley l g r qn qt qv kn kt kv sc ns tx tn pl b hT hb4 hP9 hh) (by decide) 0 rfl rfl rfl dL_more_2 rfl (Nat.le_of_ble_eq_true rfl) (by decide) pf0 rfl (fun r9 w9 hq9 => ?_)
  obtain ⟨rfl, rfl⟩ := hq9
  refine J.to (L1 := [(0, .ref (r 0)), (1, .int (iI b))]) (S1 := [.int (iI ((kn 0 2 + 1)))]) (ws1 := wTp g r qn qt qv (cpS (kAdd kn kt b) kn) (kAdd kn kt b) (svk kn kv ns) (svs sc) (svn ns) tx tn pl) rfl rfl rfl ?_
  exact j_iret C hr hlk dL_more_5 ⟨rfl, rfl⟩ (by decide) (by decide)
theorem w_more_x1 (l : Launch) (hl : l.stackTraces = false) (g : Gh) (r : Nat → Nat) (qn qt : Nat → Nat) (qv : Nat → Nat → Nat) (kn kt : Nat → Nat → Int) (kv : Nat → Nat → Nat → Int) (sc : Int) (ns : Nat) (tx : Nat → Int) (tn : Nat) (pl : Int) (b : Int) (hT : TOK kn kv sc ns tx tn) (hrb : -2147483648 ≤ b ∧ b < 2147483648) (hb4 : b < 0 ∨ 4 ≤ b) : CW l g yL_more cL_more 3 (some FieldType.int) [(0, 5, 6, 15), (0, 5, 10, 28)] ({ frames := 8, cells := 1, slots := 6, locals := 141 }) [.ref (r 0), .int (iI b)] (wTp g r qn qt qv kn kt kv sc ns tx tn pl) (PE (some (.int (iI (-900000003)))) (wTp g r qn qt qv kn kt kv sc ns tx tn pl)) := by
  refine CW.intro (L0 := [(0, .ref (r 0)), (1, .int (iI b))]) (own := RL) (by decide) rfl (Nat.le_of_ble_eq_true rfl) rfl ?_
  intro pX eX sX mX argsX belowX methX cX A C hr hlk hnt
  refine J.vx ?_
  refine j_aload_n C 0 dL_more_0 rfl rfl ?_
  refine j_iload_n C 1 dL_more_1 rfl rfl ?_
  refine j_callVC (As := [.int (iI b)]) (rest := []) C yv_X4_addPulley qw504 (x_X4_addPulley_1 l hl g r qn qt qv kn kt kv sc ns tx tn pl b hT hrb hb4) (by decide) 0 rfl rfl rfl dL_more_2 rfl (Nat.le_of_ble_eq_true rfl) (by decide) pf0 rfl (name := "java/lang/IndexOutOfBoundsException") [] [⟨0, 5, 10, 28⟩] ⟨0, 5, 6, 15⟩ hnt (fun z hz => absurd hz List.not_mem_nil) (by decide) (by decide) qw160 qn174 (fun w9 q9 hq9 => ?_)
  subst hq9
  refine J.to (L1 := [(0, .ref (r 0)), (1, .int (iI b))]) (S1 := [.ref q9]) (ws1 := wTp g r qn qt qv kn kt kv sc ns tx tn pl) rfl rfl rfl ?_
  refine j_astore_n (L1 := [(2, .ref q9), (0, .ref (r 0)), (1, .int (iI b))]) C dL_more_6 rfl (by decide) rfl ?_
  refine j_ldc (x := -900000003) C qw305 (by decide) dL_more_7 ?_
  exact j_iret C hr hlk dL_more_9 ⟨rfl, rfl⟩ (by decide) (by decide)
theorem w_more_x2 (l : Launch) (hl : l.stackTraces = false) (g : Gh) (r : Nat → Nat) (qn qt : Nat → Nat) (qv : Nat → Nat → Nat) (kn kt : Nat → Nat → Int) (kv : Nat → Nat → Nat → Int) (sc : Int) (ns : Nat) (tx : Nat → Int) (tn : Nat) (pl : Int) (b : Int) (hT : TOK kn kv sc ns tx tn) (hb4 : 0 ≤ b ∧ b < 4) (hP9 : kn 0 2 = 10) : CW l g yL_more cL_more 3 (some FieldType.int) [(0, 5, 6, 15), (0, 5, 10, 28)] ({ frames := 8, cells := 1, slots := 6, locals := 141 }) [.ref (r 0), .int (iI b)] (wTp g r qn qt qv kn kt kv sc ns tx tn pl) (PE (some (.int (iI (-900000002)))) (wTp g r qn qt qv kn kt kv sc ns tx tn pl)) := by
  refine CW.intro (L0 := [(0, .ref (r 0)), (1, .int (iI b))]) (own := RL) (by decide) rfl (Nat.le_of_ble_eq_true rfl) rfl ?_
  intro pX eX sX mX argsX belowX methX cX A C hr hlk hnt
  refine J.vx ?_
  refine j_aload_n C 0 dL_more_0 rfl rfl ?_
  refine j_iload_n C 1 dL_more_1 rfl rfl ?_
  refine j_callVC (As := [.int (iI b)]) (rest := []) C yv_X4_addPulley qw504 (x_X4_addPulley_2 l hl g r qn qt qv kn kt kv sc ns tx tn pl b hT hb4 hP9) (by decide) 0 rfl rfl rfl dL_more_2 rfl (Nat.le_of_ble_eq_true rfl) (by decide) pf0 rfl (name := "java/lang/IllegalStateException") [⟨0, 5, 6, 15⟩] [] ⟨0, 5, 10, 28⟩ hnt (fun z hz => by rcases List.mem_singleton.mp hz with rfl; exact Or.inr ⟨by decide, "java/lang/IndexOutOfBoundsException", C.2.2.2.2.1 _ qw160, C.2.2.2.2.2.1.2.2.1 ("java/lang/IllegalStateException", "java/lang/IndexOutOfBoundsException") (List.mem_of_getElem? (i := 1) rfl)⟩) (by decide) (by decide) qw317 qn349 (fun w9 q9 hq9 => ?_)
  subst hq9
  refine J.to (L1 := [(0, .ref (r 0)), (1, .int (iI b))]) (S1 := [.ref q9]) (ws1 := wTp g r qn qt qv kn kt kv sc ns tx tn pl) rfl rfl rfl ?_
  refine j_astore_n (L1 := [(2, .ref q9), (0, .ref (r 0)), (1, .int (iI b))]) C dL_more_10 rfl (by decide) rfl ?_
  refine j_ldc (x := -900000002) C qw367 (by decide) dL_more_11 ?_
  exact j_iret C hr hlk dL_more_13 ⟨rfl, rfl⟩ (by decide) (by decide)
theorem w_more_x3 (l : Launch) (hl : l.stackTraces = false) (g : Gh) (r : Nat → Nat) (qn qt : Nat → Nat) (qv : Nat → Nat → Nat) (kn kt : Nat → Nat → Int) (kv : Nat → Nat → Nat → Int) (sc : Int) (ns : Nat) (tx : Nat → Int) (tn : Nat) (pl : Int) (b : Int) (hT : TOK kn kv sc ns tx tn) (hb4 : 0 ≤ b ∧ b < 4) (hP9 : kn 0 2 < 10) (hh : hnd (kAdd kn kt b) < 0) : CW l g yL_more cL_more 3 (some FieldType.int) [(0, 5, 6, 15), (0, 5, 10, 28)] ({ frames := 8, cells := 1, slots := 6, locals := 141 }) [.ref (r 0), .int (iI b)] (wTp g r qn qt qv kn kt kv sc ns tx tn pl) (PE (some (.int (iI (-900000002)))) (wTp g r qn qt qv kn (kAdd kn kt b) kv sc ns tx tn pl)) := by
  refine CW.intro (L0 := [(0, .ref (r 0)), (1, .int (iI b))]) (own := RL) (by decide) rfl (Nat.le_of_ble_eq_true rfl) rfl ?_
  intro pX eX sX mX argsX belowX methX cX A C hr hlk hnt
  refine J.vx ?_
  refine j_aload_n C 0 dL_more_0 rfl rfl ?_
  refine j_iload_n C 1 dL_more_1 rfl rfl ?_
  refine j_callVC (As := [.int (iI b)]) (rest := []) C yv_X4_addPulley qw504 (x_X4_addPulley_3 l hl g r qn qt qv kn kt kv sc ns tx tn pl b hT hb4 hP9 hh) (by decide) 0 rfl rfl rfl dL_more_2 rfl (Nat.le_of_ble_eq_true rfl) (by decide) pf0 rfl (name := "java/lang/IllegalStateException") [⟨0, 5, 6, 15⟩] [] ⟨0, 5, 10, 28⟩ hnt (fun z hz => by rcases List.mem_singleton.mp hz with rfl; exact Or.inr ⟨by decide, "java/lang/IndexOutOfBoundsException", C.2.2.2.2.1 _ qw160, C.2.2.2.2.2.1.2.2.1 ("java/lang/IllegalStateException", "java/lang/IndexOutOfBoundsException") (List.mem_of_getElem? (i := 1) rfl)⟩) (by decide) (by decide) qw317 qn349 (fun w9 q9 hq9 => ?_)
  subst hq9
  refine J.to (L1 := [(0, .ref (r 0)), (1, .int (iI b))]) (S1 := [.ref q9]) (ws1 := wTp g r qn qt qv kn (kAdd kn kt b) kv sc ns tx tn pl) rfl rfl rfl ?_
  refine j_astore_n (L1 := [(2, .ref q9), (0, .ref (r 0)), (1, .int (iI b))]) C dL_more_10 rfl (by decide) rfl ?_
  refine j_ldc (x := -900000002) C qw367 (by decide) dL_more_11 ?_
  exact j_iret C hr hlk dL_more_13 ⟨rfl, rfl⟩ (by decide) (by decide)
theorem yw_L_less : YW yL_less RL cL_less 2 (some FieldType.int) [(0, 4, 5, 28)] 1 := ⟨qw584, qw0, qw585, rfl, ⟨by decide +kernel, by decide +kernel⟩, by decide +kernel⟩
theorem w_less (l : Launch) (g : Gh) (r : Nat → Nat) (qn qt : Nat → Nat) (qv : Nat → Nat → Nat) (kn kt : Nat → Nat → Int) (kv : Nat → Nat → Nat → Int) (sc : Int) (ns : Nat) (tx : Nat → Int) (tn : Nat) (pl : Int) (hT : TOK kn kv sc ns tx tn) (hP0 : 0 < kn 0 2) : CW l g yL_less cL_less 2 (some FieldType.int) [(0, 4, 5, 28)] ({ frames := 5, cells := 0, slots := 0, locals := 105 }) [.ref (r 0)] (wTp g r qn qt qv kn kt kv sc ns tx tn pl) (PE (some (.int (iI (kn 1 (kn 0 2 - 1).toNat)))) (wTp g r qn qt qv (kTake kn) kt (svk kn kv ns) (svs sc) (svn ns) tx tn pl)) := by
  refine CW.intro (L0 := [(0, .ref (r 0))]) (own := RL) (by decide) rfl (Nat.le_of_ble_eq_true rfl) rfl ?_
  intro pX eX sX mX argsX belowX methX cX A C hr hlk hnt
  refine J.vx ?_
  refine j_aload_n C 0 dL_less_0 rfl rfl ?_
  refine j_callV (As := []) (rest := []) C yv_X4_takePulley qw586 (c_X4_takePulley l g r qn qt qv kn kt kv sc ns tx tn pl hT hP0) (by decide) 0 rfl rfl rfl dL_less_1 rfl (Nat.le_of_ble_eq_true rfl) (by decide) pf0 rfl (fun r9 w9 hq9 => ?_)
  obtain ⟨rfl, rfl⟩ := hq9
  refine J.to (L1 := [(0, .ref (r 0))]) (S1 := [.int (iI ((kn 1 (kn 0 2 - 1).toNat)))]) (ws1 := wTp g r qn qt qv (kTake kn) kt (svk kn kv ns) (svs sc) (svn ns) tx tn pl) rfl rfl rfl ?_
  exact j_iret C hr hlk dL_less_4 ⟨rfl, rfl⟩ (by decide) (by decide)
theorem w_less_x1 (l : Launch) (hl : l.stackTraces = false) (g : Gh) (r : Nat → Nat) (qn qt : Nat → Nat) (qv : Nat → Nat → Nat) (kn kt : Nat → Nat → Int) (kv : Nat → Nat → Nat → Int) (sc : Int) (ns : Nat) (tx : Nat → Int) (tn : Nat) (pl : Int) (hT : TOK kn kv sc ns tx tn) (hP0 : kn 0 2 = 0) : CW l g yL_less cL_less 2 (some FieldType.int) [(0, 4, 5, 28)] ({ frames := 7, cells := 1, slots := 6, locals := 120 }) [.ref (r 0)] (wTp g r qn qt qv kn kt kv sc ns tx tn pl) (PE (some (.int (iI (-900000002)))) (wTp g r qn qt qv kn kt kv sc ns tx tn pl)) := by
  refine CW.intro (L0 := [(0, .ref (r 0))]) (own := RL) (by decide) rfl (Nat.le_of_ble_eq_true rfl) rfl ?_
  intro pX eX sX mX argsX belowX methX cX A C hr hlk hnt
  refine J.vx ?_
  refine j_aload_n C 0 dL_less_0 rfl rfl ?_
  refine j_callVC (As := []) (rest := []) C yv_X4_takePulley qw586 (x_X4_takePulley_1 l hl g r qn qt qv kn kt kv sc ns tx tn pl hT hP0) (by decide) 0 rfl rfl rfl dL_less_1 rfl (Nat.le_of_ble_eq_true rfl) (by decide) pf0 rfl (name := "java/lang/IllegalStateException") [] [] ⟨0, 4, 5, 28⟩ hnt (fun z hz => absurd hz List.not_mem_nil) (by decide) (by decide) qw317 qn349 (fun w9 q9 hq9 => ?_)
  subst hq9
  refine J.to (L1 := [(0, .ref (r 0))]) (S1 := [.ref q9]) (ws1 := wTp g r qn qt qv kn kt kv sc ns tx tn pl) rfl rfl rfl ?_
  refine j_astore_n (L1 := [(1, .ref q9), (0, .ref (r 0))]) C dL_less_5 rfl (by decide) rfl ?_
  refine j_ldc (x := -900000002) C qw367 (by decide) dL_less_6 ?_
  exact j_iret C hr hlk dL_less_8 ⟨rfl, rfl⟩ (by decide) (by decide)
theorem yw_L_ends : YW yL_ends RL cL_ends 3 (some FieldType.int) [(0, 5, 6, 15), (0, 5, 10, 28)] 2 := ⟨qw515, qw0, qw516, rfl, ⟨by decide +kernel, by decide +kernel⟩, by decide +kernel⟩
theorem w_ends (l : Launch) (g : Gh) (r : Nat → Nat) (qn qt : Nat → Nat) (qv : Nat → Nat → Nat) (kn kt : Nat → Nat → Int) (kv : Nat → Nat → Nat → Int) (sc : Int) (ns : Nat) (tx : Nat → Int) (tn : Nat) (pl : Int) (x : Int) (hT : TOK kn kv sc ns tx tn) (hx : 0 ≤ x ∧ x ≤ 4) (hh : 0 ≤ hnd (kEnd kn kt x)) : CW l g yL_ends cL_ends 3 (some FieldType.int) [(0, 5, 6, 15), (0, 5, 10, 28)] ({ frames := 6, cells := 0, slots := 0, locals := 128 }) [.ref (r 0), .int (iI x)] (wTp g r qn qt qv kn kt kv sc ns tx tn pl) (PE (some (.int (iI (kn 0 3)))) (wTp g r qn qt qv (cpS (kEnd kn kt x) kn) (kEnd kn kt x) (svk kn kv ns) (svs sc) (svn ns) tx tn pl)) := by
  refine CW.intro (L0 := [(0, .ref (r 0)), (1, .int (iI x))]) (own := RL) (by decide) rfl (Nat.le_of_ble_eq_true rfl) rfl ?_
  intro pX eX sX mX argsX belowX methX cX A C hr hlk hnt
  refine J.vx ?_
  refine j_aload_n C 0 dL_ends_0 rfl rfl ?_
  refine j_iload_n C 1 dL_ends_1 rfl rfl ?_
  refine j_callV (As := [.int (iI x)]) (rest := []) C yv_X4_setEnd qw517 (c_X4_setEnd l g r qn qt qv kn kt kv sc ns tx tn pl x hT hx hh) (by decide) 0 rfl rfl rfl dL_ends_2 rfl (Nat.le_of_ble_eq_true rfl) (by decide) pf0 rfl (fun r9 w9 hq9 => ?_)
  obtain ⟨rfl, rfl⟩ := hq9
  refine J.to (L1 := [(0, .ref (r 0)), (1, .int (iI x))]) (S1 := [.int (iI ((kn 0 3)))]) (ws1 := wTp g r qn qt qv (cpS (kEnd kn kt x) kn) (kEnd kn kt x) (svk kn kv ns) (svs sc) (svn ns) tx tn pl) rfl rfl rfl ?_
  exact j_iret C hr hlk dL_ends_5 ⟨rfl, rfl⟩ (by decide) (by decide)
theorem w_ends_x1 (l : Launch) (hl : l.stackTraces = false) (g : Gh) (r : Nat → Nat) (qn qt : Nat → Nat) (qv : Nat → Nat → Nat) (kn kt : Nat → Nat → Int) (kv : Nat → Nat → Nat → Int) (sc : Int) (ns : Nat) (tx : Nat → Int) (tn : Nat) (pl : Int) (x : Int) (hT : TOK kn kv sc ns tx tn) (hrx : -2147483648 ≤ x ∧ x < 2147483648) (hx : x < 0 ∨ 4 < x) : CW l g yL_ends cL_ends 3 (some FieldType.int) [(0, 5, 6, 15), (0, 5, 10, 28)] ({ frames := 8, cells := 1, slots := 6, locals := 142 }) [.ref (r 0), .int (iI x)] (wTp g r qn qt qv kn kt kv sc ns tx tn pl) (PE (some (.int (iI (-900000003)))) (wTp g r qn qt qv kn kt kv sc ns tx tn pl)) := by
  refine CW.intro (L0 := [(0, .ref (r 0)), (1, .int (iI x))]) (own := RL) (by decide) rfl (Nat.le_of_ble_eq_true rfl) rfl ?_
  intro pX eX sX mX argsX belowX methX cX A C hr hlk hnt
  refine J.vx ?_
  refine j_aload_n C 0 dL_ends_0 rfl rfl ?_
  refine j_iload_n C 1 dL_ends_1 rfl rfl ?_
  refine j_callVC (As := [.int (iI x)]) (rest := []) C yv_X4_setEnd qw517 (x_X4_setEnd_1 l hl g r qn qt qv kn kt kv sc ns tx tn pl x hT hrx hx) (by decide) 0 rfl rfl rfl dL_ends_2 rfl (Nat.le_of_ble_eq_true rfl) (by decide) pf0 rfl (name := "java/lang/IndexOutOfBoundsException") [] [⟨0, 5, 10, 28⟩] ⟨0, 5, 6, 15⟩ hnt (fun z hz => absurd hz List.not_mem_nil) (by decide) (by decide) qw160 qn174 (fun w9 q9 hq9 => ?_)
  subst hq9
  refine J.to (L1 := [(0, .ref (r 0)), (1, .int (iI x))]) (S1 := [.ref q9]) (ws1 := wTp g r qn qt qv kn kt kv sc ns tx tn pl) rfl rfl rfl ?_
  refine j_astore_n (L1 := [(2, .ref q9), (0, .ref (r 0)), (1, .int (iI x))]) C dL_ends_6 rfl (by decide) rfl ?_
  refine j_ldc (x := -900000003) C qw305 (by decide) dL_ends_7 ?_
  exact j_iret C hr hlk dL_ends_9 ⟨rfl, rfl⟩ (by decide) (by decide)
theorem w_ends_x2 (l : Launch) (hl : l.stackTraces = false) (g : Gh) (r : Nat → Nat) (qn qt : Nat → Nat) (qv : Nat → Nat → Nat) (kn kt : Nat → Nat → Int) (kv : Nat → Nat → Nat → Int) (sc : Int) (ns : Nat) (tx : Nat → Int) (tn : Nat) (pl : Int) (x : Int) (hT : TOK kn kv sc ns tx tn) (hx : 0 ≤ x ∧ x ≤ 4) (hh : hnd (kEnd kn kt x) < 0) : CW l g yL_ends cL_ends 3 (some FieldType.int) [(0, 5, 6, 15), (0, 5, 10, 28)] ({ frames := 8, cells := 1, slots := 6, locals := 142 }) [.ref (r 0), .int (iI x)] (wTp g r qn qt qv kn kt kv sc ns tx tn pl) (PE (some (.int (iI (-900000002)))) (wTp g r qn qt qv kn (kEnd kn kt x) kv sc ns tx tn pl)) := by
  refine CW.intro (L0 := [(0, .ref (r 0)), (1, .int (iI x))]) (own := RL) (by decide) rfl (Nat.le_of_ble_eq_true rfl) rfl ?_
  intro pX eX sX mX argsX belowX methX cX A C hr hlk hnt
  refine J.vx ?_
  refine j_aload_n C 0 dL_ends_0 rfl rfl ?_
  refine j_iload_n C 1 dL_ends_1 rfl rfl ?_
  refine j_callVC (As := [.int (iI x)]) (rest := []) C yv_X4_setEnd qw517 (x_X4_setEnd_2 l hl g r qn qt qv kn kt kv sc ns tx tn pl x hT hx hh) (by decide) 0 rfl rfl rfl dL_ends_2 rfl (Nat.le_of_ble_eq_true rfl) (by decide) pf0 rfl (name := "java/lang/IllegalStateException") [⟨0, 5, 6, 15⟩] [] ⟨0, 5, 10, 28⟩ hnt (fun z hz => by rcases List.mem_singleton.mp hz with rfl; exact Or.inr ⟨by decide, "java/lang/IndexOutOfBoundsException", C.2.2.2.2.1 _ qw160, C.2.2.2.2.2.1.2.2.1 ("java/lang/IllegalStateException", "java/lang/IndexOutOfBoundsException") (List.mem_of_getElem? (i := 1) rfl)⟩) (by decide) (by decide) qw317 qn349 (fun w9 q9 hq9 => ?_)
  subst hq9
  refine J.to (L1 := [(0, .ref (r 0)), (1, .int (iI x))]) (S1 := [.ref q9]) (ws1 := wTp g r qn qt qv kn (kEnd kn kt x) kv sc ns tx tn pl) rfl rfl rfl ?_
  refine j_astore_n (L1 := [(2, .ref q9), (0, .ref (r 0)), (1, .int (iI x))]) C dL_ends_10 rfl (by decide) rfl ?_
  refine j_ldc (x := -900000002) C qw367 (by decide) dL_ends_11 ?_
  exact j_iret C hr hlk dL_ends_13 ⟨rfl, rfl⟩ (by decide) (by decide)
theorem yw_L_hauls : YW yL_hauls RL cL_hauls 4 (some FieldType.int) [(0, 6, 7, 18)] 3 := ⟨qw369, qw0, qw370, rfl, ⟨by decide +kernel, by decide +kernel⟩, by decide +kernel⟩
theorem w_hauls (l : Launch) (g : Gh) (r : Nat → Nat) (qn qt : Nat → Nat) (qv : Nat → Nat → Nat) (kn kt : Nat → Nat → Int) (kv : Nat → Nat → Nat → Int) (sc : Int) (ns : Nat) (tx : Nat → Int) (tn : Nat) (pl : Int) (f n : Int) (hT : TOK kn kv sc ns tx tn) (hf : 0 ≤ f ∧ f ≤ 1000000) (hn : 0 ≤ n ∧ n ≤ 100000) : CW l g yL_hauls cL_hauls 4 (some FieldType.int) [(0, 6, 7, 18)] ({ frames := 7, cells := 0, slots := 0, locals := 171 }) [.ref (r 0), .int (iI f), .int (iI n)] (wTp g r qn qt qv kn kt kv sc ns tx tn pl) (PE (some (.int (iI ((mup f n kn).2)))) (wTp g r qn qt qv ((mup f n kn).1) kt (svk kn kv ns) (svs sc) (svn ns) tx tn pl)) := by
  refine CW.intro (L0 := [(0, .ref (r 0)), (1, .int (iI f)), (2, .int (iI n))]) (own := RL) (by decide) rfl (Nat.le_of_ble_eq_true rfl) rfl ?_
  intro pX eX sX mX argsX belowX methX cX A C hr hlk hnt
  refine J.vx ?_
  refine j_aload_n C 0 dL_hauls_0 rfl rfl ?_
  refine j_iload_n C 1 dL_hauls_1 rfl rfl ?_
  refine j_iload_n C 2 dL_hauls_2 rfl rfl ?_
  refine j_callV (As := [.int (iI f), .int (iI n)]) (rest := []) C yv_X4_haul qw371 (c_X4_haul l g r qn qt qv kn kt kv sc ns tx tn pl f n hT hf hn) (by decide) 0 rfl rfl rfl dL_hauls_3 rfl (Nat.le_of_ble_eq_true rfl) (by decide) pf0 rfl (fun r9 w9 hq9 => ?_)
  obtain ⟨rfl, rfl⟩ := hq9
  refine J.to (L1 := [(0, .ref (r 0)), (1, .int (iI f)), (2, .int (iI n))]) (S1 := [.int (iI (((mup f n kn).2)))]) (ws1 := wTp g r qn qt qv ((mup f n kn).1) kt (svk kn kv ns) (svs sc) (svn ns) tx tn pl) rfl rfl rfl ?_
  exact j_iret C hr hlk dL_hauls_6 ⟨rfl, rfl⟩ (by decide) (by decide)
theorem w_hauls_x1 (l : Launch) (hl : l.stackTraces = false) (g : Gh) (r : Nat → Nat) (qn qt : Nat → Nat) (qv : Nat → Nat → Nat) (kn kt : Nat → Nat → Int) (kv : Nat → Nat → Nat → Int) (sc : Int) (ns : Nat) (tx : Nat → Int) (tn : Nat) (pl : Int) (f n : Int) (hT : TOK kn kv sc ns tx tn) (hrf : -2147483648 ≤ f ∧ f < 2147483648) (hrn : -2147483648 ≤ n ∧ n < 2147483648) (hf : f < 0 ∨ 1000000 < f) : CW l g yL_hauls cL_hauls 4 (some FieldType.int) [(0, 6, 7, 18)] ({ frames := 8, cells := 1, slots := 6, locals := 144 }) [.ref (r 0), .int (iI f), .int (iI n)] (wTp g r qn qt qv kn kt kv sc ns tx tn pl) (PE (some (.int (iI (-900000001)))) (wTp g r qn qt qv kn kt kv sc ns tx tn pl)) := by
  refine CW.intro (L0 := [(0, .ref (r 0)), (1, .int (iI f)), (2, .int (iI n))]) (own := RL) (by decide) rfl (Nat.le_of_ble_eq_true rfl) rfl ?_
  intro pX eX sX mX argsX belowX methX cX A C hr hlk hnt
  refine J.vx ?_
  refine j_aload_n C 0 dL_hauls_0 rfl rfl ?_
  refine j_iload_n C 1 dL_hauls_1 rfl rfl ?_
  refine j_iload_n C 2 dL_hauls_2 rfl rfl ?_
  refine j_callVC (As := [.int (iI f), .int (iI n)]) (rest := []) C yv_X4_haul qw371 (x_X4_haul_1 l hl g r qn qt qv kn kt kv sc ns tx tn pl f n hT hrf hrn hf) (by decide) 0 rfl rfl rfl dL_hauls_3 rfl (Nat.le_of_ble_eq_true rfl) (by decide) pf0 rfl (name := "java/lang/IllegalArgumentException") [] [] ⟨0, 6, 7, 18⟩ hnt (fun z hz => absurd hz List.not_mem_nil) (by decide) (by decide) qw161 qn246 (fun w9 q9 hq9 => ?_)
  subst hq9
  refine J.to (L1 := [(0, .ref (r 0)), (1, .int (iI f)), (2, .int (iI n))]) (S1 := [.ref q9]) (ws1 := wTp g r qn qt qv kn kt kv sc ns tx tn pl) rfl rfl rfl ?_
  refine j_astore_n (L1 := [(3, .ref q9), (0, .ref (r 0)), (1, .int (iI f)), (2, .int (iI n))]) C dL_hauls_7 rfl (by decide) rfl ?_
  refine j_ldc (x := -900000001) C qw306 (by decide) dL_hauls_8 ?_
  exact j_iret C hr hlk dL_hauls_10 ⟨rfl, rfl⟩ (by decide) (by decide)
theorem w_hauls_x2 (l : Launch) (hl : l.stackTraces = false) (g : Gh) (r : Nat → Nat) (qn qt : Nat → Nat) (qv : Nat → Nat → Nat) (kn kt : Nat → Nat → Int) (kv : Nat → Nat → Nat → Int) (sc : Int) (ns : Nat) (tx : Nat → Int) (tn : Nat) (pl : Int) (f n : Int) (hT : TOK kn kv sc ns tx tn) (hrf : -2147483648 ≤ f ∧ f < 2147483648) (hrn : -2147483648 ≤ n ∧ n < 2147483648) (hf : 0 ≤ f ∧ f ≤ 1000000) (hn : n < 0 ∨ 100000 < n) : CW l g yL_hauls cL_hauls 4 (some FieldType.int) [(0, 6, 7, 18)] ({ frames := 8, cells := 1, slots := 6, locals := 144 }) [.ref (r 0), .int (iI f), .int (iI n)] (wTp g r qn qt qv kn kt kv sc ns tx tn pl) (PE (some (.int (iI (-900000001)))) (wTp g r qn qt qv kn kt kv sc ns tx tn pl)) := by
  refine CW.intro (L0 := [(0, .ref (r 0)), (1, .int (iI f)), (2, .int (iI n))]) (own := RL) (by decide) rfl (Nat.le_of_ble_eq_true rfl) rfl ?_
  intro pX eX sX mX argsX belowX methX cX A C hr hlk hnt
  refine J.vx ?_
  refine j_aload_n C 0 dL_hauls_0 rfl rfl ?_
  refine j_iload_n C 1 dL_hauls_1 rfl rfl ?_
  refine j_iload_n C 2 dL_hauls_2 rfl rfl ?_
  refine j_callVC (As := [.int (iI f), .int (iI n)]) (rest := []) C yv_X4_haul qw371 (x_X4_haul_2 l hl g r qn qt qv kn kt kv sc ns tx tn pl f n hT hrf hrn hf hn) (by decide) 0 rfl rfl rfl dL_hauls_3 rfl (Nat.le_of_ble_eq_true rfl) (by decide) pf0 rfl (name := "java/lang/IllegalArgumentException") [] [] ⟨0, 6, 7, 18⟩ hnt (fun z hz => absurd hz List.not_mem_nil) (by decide) (by decide) qw161 qn246 (fun w9 q9 hq9 => ?_)
  subst hq9
  refine J.to (L1 := [(0, .ref (r 0)), (1, .int (iI f)), (2, .int (iI n))]) (S1 := [.ref q9]) (ws1 := wTp g r qn qt qv kn kt kv sc ns tx tn pl) rfl rfl rfl ?_
  refine j_astore_n (L1 := [(3, .ref q9), (0, .ref (r 0)), (1, .int (iI f)), (2, .int (iI n))]) C dL_hauls_7 rfl (by decide) rfl ?_
  refine j_ldc (x := -900000001) C qw306 (by decide) dL_hauls_8 ?_
  exact j_iret C hr hlk dL_hauls_10 ⟨rfl, rfl⟩ (by decide) (by decide)
theorem yw_L_lets : YW yL_lets RL cL_lets 4 (some FieldType.int) [(0, 6, 7, 18)] 3 := ⟨qw524, qw0, qw525, rfl, ⟨by decide +kernel, by decide +kernel⟩, by decide +kernel⟩
theorem w_lets (l : Launch) (g : Gh) (r : Nat → Nat) (qn qt : Nat → Nat) (qv : Nat → Nat → Nat) (kn kt : Nat → Nat → Int) (kv : Nat → Nat → Nat → Int) (sc : Int) (ns : Nat) (tx : Nat → Int) (tn : Nat) (pl : Int) (f n : Int) (hT : TOK kn kv sc ns tx tn) (hf : 0 ≤ f ∧ f ≤ 1000000) (hn : 0 ≤ n ∧ n ≤ 100000) : CW l g yL_lets cL_lets 4 (some FieldType.int) [(0, 6, 7, 18)] ({ frames := 7, cells := 0, slots := 0, locals := 170 }) [.ref (r 0), .int (iI f), .int (iI n)] (wTp g r qn qt qv kn kt kv sc ns tx tn pl) (PE (some (.int (iI ((mdn f n kn).2)))) (wTp g r qn qt qv ((mdn f n kn).1) kt (svk kn kv ns) (svs sc) (svn ns) tx tn pl)) := by
  refine CW.intro (L0 := [(0, .ref (r 0)), (1, .int (iI f)), (2, .int (iI n))]) (own := RL) (by decide) rfl (Nat.le_of_ble_eq_true rfl) rfl ?_
  intro pX eX sX mX argsX belowX methX cX A C hr hlk hnt
  refine J.vx ?_
  refine j_aload_n C 0 dL_lets_0 rfl rfl ?_
  refine j_iload_n C 1 dL_lets_1 rfl rfl ?_
  refine j_iload_n C 2 dL_lets_2 rfl rfl ?_
  refine j_callV (As := [.int (iI f), .int (iI n)]) (rest := []) C yv_X4_letOut qw526 (c_X4_letOut l g r qn qt qv kn kt kv sc ns tx tn pl f n hT hf hn) (by decide) 0 rfl rfl rfl dL_lets_3 rfl (Nat.le_of_ble_eq_true rfl) (by decide) pf0 rfl (fun r9 w9 hq9 => ?_)
  obtain ⟨rfl, rfl⟩ := hq9
  refine J.to (L1 := [(0, .ref (r 0)), (1, .int (iI f)), (2, .int (iI n))]) (S1 := [.int (iI (((mdn f n kn).2)))]) (ws1 := wTp g r qn qt qv ((mdn f n kn).1) kt (svk kn kv ns) (svs sc) (svn ns) tx tn pl) rfl rfl rfl ?_
  exact j_iret C hr hlk dL_lets_6 ⟨rfl, rfl⟩ (by decide) (by decide)
theorem w_lets_x1 (l : Launch) (hl : l.stackTraces = false) (g : Gh) (r : Nat → Nat) (qn qt : Nat → Nat) (qv : Nat → Nat → Nat) (kn kt : Nat → Nat → Int) (kv : Nat → Nat → Nat → Int) (sc : Int) (ns : Nat) (tx : Nat → Int) (tn : Nat) (pl : Int) (f n : Int) (hT : TOK kn kv sc ns tx tn) (hrf : -2147483648 ≤ f ∧ f < 2147483648) (hrn : -2147483648 ≤ n ∧ n < 2147483648) (hf : f < 0 ∨ 1000000 < f) : CW l g yL_lets cL_lets 4 (some FieldType.int) [(0, 6, 7, 18)] ({ frames := 8, cells := 1, slots := 6, locals := 144 }) [.ref (r 0), .int (iI f), .int (iI n)] (wTp g r qn qt qv kn kt kv sc ns tx tn pl) (PE (some (.int (iI (-900000001)))) (wTp g r qn qt qv kn kt kv sc ns tx tn pl)) := by
  refine CW.intro (L0 := [(0, .ref (r 0)), (1, .int (iI f)), (2, .int (iI n))]) (own := RL) (by decide) rfl (Nat.le_of_ble_eq_true rfl) rfl ?_
  intro pX eX sX mX argsX belowX methX cX A C hr hlk hnt
  refine J.vx ?_
  refine j_aload_n C 0 dL_lets_0 rfl rfl ?_
  refine j_iload_n C 1 dL_lets_1 rfl rfl ?_
  refine j_iload_n C 2 dL_lets_2 rfl rfl ?_
  refine j_callVC (As := [.int (iI f), .int (iI n)]) (rest := []) C yv_X4_letOut qw526 (x_X4_letOut_1 l hl g r qn qt qv kn kt kv sc ns tx tn pl f n hT hrf hrn hf) (by decide) 0 rfl rfl rfl dL_lets_3 rfl (Nat.le_of_ble_eq_true rfl) (by decide) pf0 rfl (name := "java/lang/IllegalArgumentException") [] [] ⟨0, 6, 7, 18⟩ hnt (fun z hz => absurd hz List.not_mem_nil) (by decide) (by decide) qw161 qn246 (fun w9 q9 hq9 => ?_)
  subst hq9
  refine J.to (L1 := [(0, .ref (r 0)), (1, .int (iI f)), (2, .int (iI n))]) (S1 := [.ref q9]) (ws1 := wTp g r qn qt qv kn kt kv sc ns tx tn pl) rfl rfl rfl ?_
  refine j_astore_n (L1 := [(3, .ref q9), (0, .ref (r 0)), (1, .int (iI f)), (2, .int (iI n))]) C dL_lets_7 rfl (by decide) rfl ?_
  refine j_ldc (x := -900000001) C qw306 (by decide) dL_lets_8 ?_
  exact j_iret C hr hlk dL_lets_10 ⟨rfl, rfl⟩ (by decide) (by decide)
theorem w_lets_x2 (l : Launch) (hl : l.stackTraces = false) (g : Gh) (r : Nat → Nat) (qn qt : Nat → Nat) (qv : Nat → Nat → Nat) (kn kt : Nat → Nat → Int) (kv : Nat → Nat → Nat → Int) (sc : Int) (ns : Nat) (tx : Nat → Int) (tn : Nat) (pl : Int) (f n : Int) (hT : TOK kn kv sc ns tx tn) (hrf : -2147483648 ≤ f ∧ f < 2147483648) (hrn : -2147483648 ≤ n ∧ n < 2147483648) (hf : 0 ≤ f ∧ f ≤ 1000000) (hn : n < 0 ∨ 100000 < n) : CW l g yL_lets cL_lets 4 (some FieldType.int) [(0, 6, 7, 18)] ({ frames := 8, cells := 1, slots := 6, locals := 144 }) [.ref (r 0), .int (iI f), .int (iI n)] (wTp g r qn qt qv kn kt kv sc ns tx tn pl) (PE (some (.int (iI (-900000001)))) (wTp g r qn qt qv kn kt kv sc ns tx tn pl)) := by
  refine CW.intro (L0 := [(0, .ref (r 0)), (1, .int (iI f)), (2, .int (iI n))]) (own := RL) (by decide) rfl (Nat.le_of_ble_eq_true rfl) rfl ?_
  intro pX eX sX mX argsX belowX methX cX A C hr hlk hnt
  refine J.vx ?_
  refine j_aload_n C 0 dL_lets_0 rfl rfl ?_
  refine j_iload_n C 1 dL_lets_1 rfl rfl ?_
  refine j_iload_n C 2 dL_lets_2 rfl rfl ?_
  refine j_callVC (As := [.int (iI f), .int (iI n)]) (rest := []) C yv_X4_letOut qw526 (x_X4_letOut_2 l hl g r qn qt qv kn kt kv sc ns tx tn pl f n hT hrf hrn hf hn) (by decide) 0 rfl rfl rfl dL_lets_3 rfl (Nat.le_of_ble_eq_true rfl) (by decide) pf0 rfl (name := "java/lang/IllegalArgumentException") [] [] ⟨0, 6, 7, 18⟩ hnt (fun z hz => absurd hz List.not_mem_nil) (by decide) (by decide) qw161 qn246 (fun w9 q9 hq9 => ?_)
  subst hq9
  refine J.to (L1 := [(0, .ref (r 0)), (1, .int (iI f)), (2, .int (iI n))]) (S1 := [.ref q9]) (ws1 := wTp g r qn qt qv kn kt kv sc ns tx tn pl) rfl rfl rfl ?_
  refine j_astore_n (L1 := [(3, .ref q9), (0, .ref (r 0)), (1, .int (iI f)), (2, .int (iI n))]) C dL_lets_7 rfl (by decide) rfl ?_
  refine j_ldc (x := -900000001) C qw306 (by decide) dL_lets_8 ?_
  exact j_iret C hr hlk dL_lets_10 ⟨rfl, rfl⟩ (by decide) (by decide)
theorem yw_L_block : YW yL_block RL cL_block 4 (some FieldType.int) [(0, 6, 7, 15), (0, 6, 11, 18)] 3 := ⟨qw457, qw0, qw458, rfl, ⟨by decide +kernel, by decide +kernel⟩, by decide +kernel⟩
theorem w_block (l : Launch) (g : Gh) (r : Nat → Nat) (qn qt : Nat → Nat) (qv : Nat → Nat → Nat) (kn kt : Nat → Nat → Int) (kv : Nat → Nat → Nat → Int) (sc : Int) (ns : Nat) (tx : Nat → Int) (tn : Nat) (pl : Int) (b w : Int) (hT : TOK kn kv sc ns tx tn) (hb4 : 0 ≤ b ∧ b < 4) (hw : 0 ≤ w ∧ w ≤ 6) : CW l g yL_block cL_block 4 (some FieldType.int) [(0, 6, 7, 15), (0, 6, 11, 18)] ({ frames := 5, cells := 0, slots := 0, locals := 126 }) [.ref (r 0), .int (iI b), .int (iI w)] (wTp g r qn qt qv kn kt kv sc ns tx tn pl) (PE (some (.int (iI (blkF kn b w)))) (wTp g r qn qt qv kn kt kv sc ns tx tn pl)) := by
  refine CW.intro (L0 := [(0, .ref (r 0)), (1, .int (iI b)), (2, .int (iI w))]) (own := RL) (by decide) rfl (Nat.le_of_ble_eq_true rfl) rfl ?_
  intro pX eX sX mX argsX belowX methX cX A C hr hlk hnt
  refine J.vx ?_
  refine j_aload_n C 0 dL_block_0 rfl rfl ?_
  refine j_iload_n C 1 dL_block_1 rfl rfl ?_
  refine j_iload_n C 2 dL_block_2 rfl rfl ?_
  refine j_callV (As := [.int (iI b), .int (iI w)]) (rest := []) C yv_X4_block qw459 (c_X4_block l g r qn qt qv kn kt kv sc ns tx tn pl b w hT hb4 hw) (by decide) 0 rfl rfl rfl dL_block_3 rfl (Nat.le_of_ble_eq_true rfl) (by decide) pf0 rfl (fun r9 w9 hq9 => ?_)
  obtain ⟨rfl, rfl⟩ := hq9
  refine J.to (L1 := [(0, .ref (r 0)), (1, .int (iI b)), (2, .int (iI w))]) (S1 := [.int (iI ((blkF kn b w)))]) (ws1 := wTp g r qn qt qv kn kt kv sc ns tx tn pl) rfl rfl rfl ?_
  exact j_iret C hr hlk dL_block_6 ⟨rfl, rfl⟩ (by decide) (by decide)
theorem w_block_x1 (l : Launch) (hl : l.stackTraces = false) (g : Gh) (r : Nat → Nat) (qn qt : Nat → Nat) (qv : Nat → Nat → Nat) (kn kt : Nat → Nat → Int) (kv : Nat → Nat → Nat → Int) (sc : Int) (ns : Nat) (tx : Nat → Int) (tn : Nat) (pl : Int) (b w : Int) (hT : TOK kn kv sc ns tx tn) (hrb : -2147483648 ≤ b ∧ b < 2147483648) (hrw : -2147483648 ≤ w ∧ w < 2147483648) (hb4 : b < 0 ∨ 4 ≤ b) : CW l g yL_block cL_block 4 (some FieldType.int) [(0, 6, 7, 15), (0, 6, 11, 18)] ({ frames := 8, cells := 1, slots := 6, locals := 142 }) [.ref (r 0), .int (iI b), .int (iI w)] (wTp g r qn qt qv kn kt kv sc ns tx tn pl) (PE (some (.int (iI (-900000003)))) (wTp g r qn qt qv kn kt kv sc ns tx tn pl)) := by
  refine CW.intro (L0 := [(0, .ref (r 0)), (1, .int (iI b)), (2, .int (iI w))]) (own := RL) (by decide) rfl (Nat.le_of_ble_eq_true rfl) rfl ?_
  intro pX eX sX mX argsX belowX methX cX A C hr hlk hnt
  refine J.vx ?_
  refine j_aload_n C 0 dL_block_0 rfl rfl ?_
  refine j_iload_n C 1 dL_block_1 rfl rfl ?_
  refine j_iload_n C 2 dL_block_2 rfl rfl ?_
  refine j_callVC (As := [.int (iI b), .int (iI w)]) (rest := []) C yv_X4_block qw459 (x_X4_block_1 l hl g r qn qt qv kn kt kv sc ns tx tn pl b w hT hrb hrw hb4) (by decide) 0 rfl rfl rfl dL_block_3 rfl (Nat.le_of_ble_eq_true rfl) (by decide) pf0 rfl (name := "java/lang/IndexOutOfBoundsException") [] [⟨0, 6, 11, 18⟩] ⟨0, 6, 7, 15⟩ hnt (fun z hz => absurd hz List.not_mem_nil) (by decide) (by decide) qw160 qn174 (fun w9 q9 hq9 => ?_)
  subst hq9
  refine J.to (L1 := [(0, .ref (r 0)), (1, .int (iI b)), (2, .int (iI w))]) (S1 := [.ref q9]) (ws1 := wTp g r qn qt qv kn kt kv sc ns tx tn pl) rfl rfl rfl ?_
  refine j_astore_n (L1 := [(3, .ref q9), (0, .ref (r 0)), (1, .int (iI b)), (2, .int (iI w))]) C dL_block_7 rfl (by decide) rfl ?_
  refine j_ldc (x := -900000003) C qw305 (by decide) dL_block_8 ?_
  exact j_iret C hr hlk dL_block_10 ⟨rfl, rfl⟩ (by decide) (by decide)
theorem w_block_x2 (l : Launch) (hl : l.stackTraces = false) (g : Gh) (r : Nat → Nat) (qn qt : Nat → Nat) (qv : Nat → Nat → Nat) (kn kt : Nat → Nat → Int) (kv : Nat → Nat → Nat → Int) (sc : Int) (ns : Nat) (tx : Nat → Int) (tn : Nat) (pl : Int) (b w : Int) (hT : TOK kn kv sc ns tx tn) (hrb : -2147483648 ≤ b ∧ b < 2147483648) (hrw : -2147483648 ≤ w ∧ w < 2147483648) (hb4 : 0 ≤ b ∧ b < 4) (hw : w < 0 ∨ 6 < w) : CW l g yL_block cL_block 4 (some FieldType.int) [(0, 6, 7, 15), (0, 6, 11, 18)] ({ frames := 8, cells := 1, slots := 6, locals := 142 }) [.ref (r 0), .int (iI b), .int (iI w)] (wTp g r qn qt qv kn kt kv sc ns tx tn pl) (PE (some (.int (iI (-900000001)))) (wTp g r qn qt qv kn kt kv sc ns tx tn pl)) := by
  refine CW.intro (L0 := [(0, .ref (r 0)), (1, .int (iI b)), (2, .int (iI w))]) (own := RL) (by decide) rfl (Nat.le_of_ble_eq_true rfl) rfl ?_
  intro pX eX sX mX argsX belowX methX cX A C hr hlk hnt
  refine J.vx ?_
  refine j_aload_n C 0 dL_block_0 rfl rfl ?_
  refine j_iload_n C 1 dL_block_1 rfl rfl ?_
  refine j_iload_n C 2 dL_block_2 rfl rfl ?_
  refine j_callVC (As := [.int (iI b), .int (iI w)]) (rest := []) C yv_X4_block qw459 (x_X4_block_2 l hl g r qn qt qv kn kt kv sc ns tx tn pl b w hT hrb hrw hb4 hw) (by decide) 0 rfl rfl rfl dL_block_3 rfl (Nat.le_of_ble_eq_true rfl) (by decide) pf0 rfl (name := "java/lang/IllegalArgumentException") [⟨0, 6, 7, 15⟩] [] ⟨0, 6, 11, 18⟩ hnt (fun z hz => by rcases List.mem_singleton.mp hz with rfl; exact Or.inr ⟨by decide, "java/lang/IndexOutOfBoundsException", C.2.2.2.2.1 _ qw160, C.2.2.2.2.2.1.2.2.1 ("java/lang/IllegalArgumentException", "java/lang/IndexOutOfBoundsException") (List.mem_of_getElem? (i := 0) rfl)⟩) (by decide) (by decide) qw161 qn246 (fun w9 q9 hq9 => ?_)
  subst hq9
  refine J.to (L1 := [(0, .ref (r 0)), (1, .int (iI b)), (2, .int (iI w))]) (S1 := [.ref q9]) (ws1 := wTp g r qn qt qv kn kt kv sc ns tx tn pl) rfl rfl rfl ?_
  refine j_astore_n (L1 := [(3, .ref q9), (0, .ref (r 0)), (1, .int (iI b)), (2, .int (iI w))]) C dL_block_11 rfl (by decide) rfl ?_
  refine j_ldc (x := -900000001) C qw306 (by decide) dL_block_12 ?_
  exact j_iret C hr hlk dL_block_14 ⟨rfl, rfl⟩ (by decide) (by decide)
theorem yw_L_pulley : YW yL_pulley RL cL_pulley 3 (some FieldType.int) [(0, 5, 6, 15)] 2 := ⟨qw469, qw0, qw470, rfl, ⟨by decide +kernel, by decide +kernel⟩, by decide +kernel⟩
theorem w_pulley (l : Launch) (g : Gh) (r : Nat → Nat) (qn qt : Nat → Nat) (qv : Nat → Nat → Nat) (kn kt : Nat → Nat → Int) (kv : Nat → Nat → Nat → Int) (sc : Int) (ns : Nat) (tx : Nat → Int) (tn : Nat) (pl : Int) (x : Int) (hT : TOK kn kv sc ns tx tn) (hi : 0 ≤ x ∧ x < kn 0 2) : CW l g yL_pulley cL_pulley 3 (some FieldType.int) [(0, 5, 6, 15)] ({ frames := 2, cells := 0, slots := 0, locals := 42 }) [.ref (r 0), .int (iI x)] (wTp g r qn qt qv kn kt kv sc ns tx tn pl) (PE (some (.int (iI (kn 1 x.toNat)))) (wTp g r qn qt qv kn kt kv sc ns tx tn pl)) := by
  refine CW.intro (L0 := [(0, .ref (r 0)), (1, .int (iI x))]) (own := RL) (by decide) rfl (Nat.le_of_ble_eq_true rfl) rfl ?_
  intro pX eX sX mX argsX belowX methX cX A C hr hlk hnt
  refine J.vx ?_
  refine j_aload_n C 0 dL_pulley_0 rfl rfl ?_
  refine j_iload_n C 1 dL_pulley_1 rfl rfl ?_
  refine j_callV (As := [.int (iI x)]) (rest := []) C yv_X4_pulley qw471 (c_X4_pulley l g r qn qt qv kn kt kv sc ns tx tn pl x hT hi) (by decide) 0 rfl rfl rfl dL_pulley_2 rfl (Nat.le_of_ble_eq_true rfl) (by decide) pf0 rfl (fun r9 w9 hq9 => ?_)
  obtain ⟨rfl, rfl⟩ := hq9
  refine J.to (L1 := [(0, .ref (r 0)), (1, .int (iI x))]) (S1 := [.int (iI ((kn 1 x.toNat)))]) (ws1 := wTp g r qn qt qv kn kt kv sc ns tx tn pl) rfl rfl rfl ?_
  exact j_iret C hr hlk dL_pulley_5 ⟨rfl, rfl⟩ (by decide) (by decide)
theorem w_pulley_x1 (l : Launch) (hl : l.stackTraces = false) (g : Gh) (r : Nat → Nat) (qn qt : Nat → Nat) (qv : Nat → Nat → Nat) (kn kt : Nat → Nat → Int) (kv : Nat → Nat → Nat → Int) (sc : Int) (ns : Nat) (tx : Nat → Int) (tn : Nat) (pl : Int) (x : Int) (hT : TOK kn kv sc ns tx tn) (hrx : -2147483648 ≤ x ∧ x < 2147483648) (hi : x < 0 ∨ kn 0 2 ≤ x) : CW l g yL_pulley cL_pulley 3 (some FieldType.int) [(0, 5, 6, 15)] ({ frames := 8, cells := 1, slots := 6, locals := 142 }) [.ref (r 0), .int (iI x)] (wTp g r qn qt qv kn kt kv sc ns tx tn pl) (PE (some (.int (iI (-900000003)))) (wTp g r qn qt qv kn kt kv sc ns tx tn pl)) := by
  refine CW.intro (L0 := [(0, .ref (r 0)), (1, .int (iI x))]) (own := RL) (by decide) rfl (Nat.le_of_ble_eq_true rfl) rfl ?_
  intro pX eX sX mX argsX belowX methX cX A C hr hlk hnt
  refine J.vx ?_
  refine j_aload_n C 0 dL_pulley_0 rfl rfl ?_
  refine j_iload_n C 1 dL_pulley_1 rfl rfl ?_
  refine j_callVC (As := [.int (iI x)]) (rest := []) C yv_X4_pulley qw471 (x_X4_pulley_1 l hl g r qn qt qv kn kt kv sc ns tx tn pl x hT hrx hi) (by decide) 0 rfl rfl rfl dL_pulley_2 rfl (Nat.le_of_ble_eq_true rfl) (by decide) pf0 rfl (name := "java/lang/IndexOutOfBoundsException") [] [] ⟨0, 5, 6, 15⟩ hnt (fun z hz => absurd hz List.not_mem_nil) (by decide) (by decide) qw160 qn174 (fun w9 q9 hq9 => ?_)
  subst hq9
  refine J.to (L1 := [(0, .ref (r 0)), (1, .int (iI x))]) (S1 := [.ref q9]) (ws1 := wTp g r qn qt qv kn kt kv sc ns tx tn pl) rfl rfl rfl ?_
  refine j_astore_n (L1 := [(2, .ref q9), (0, .ref (r 0)), (1, .int (iI x))]) C dL_pulley_6 rfl (by decide) rfl ?_
  refine j_ldc (x := -900000003) C qw305 (by decide) dL_pulley_7 ?_
  exact j_iret C hr hlk dL_pulley_9 ⟨rfl, rfl⟩ (by decide) (by decide)
theorem yw_L_force : YW yL_force RL cL_force 5 (some FieldType.long) [(0, 7, 8, 18)] 4 := ⟨qw596, qw0, qw597, rfl, ⟨by decide +kernel, by decide +kernel⟩, by decide +kernel⟩
theorem w_force (l : Launch) (g : Gh) (r : Nat → Nat) (qn qt : Nat → Nat) (qv : Nat → Nat → Nat) (kn kt : Nat → Nat → Int) (kv : Nat → Nat → Nat → Int) (sc : Int) (ns : Nat) (tx : Nat → Int) (tn : Nat) (pl : Int) (f q : Int) (h : Bool) (hT : TOK kn kv sc ns tx tn) (hf : 0 ≤ f ∧ f ≤ 1000000) (hp : 0 ≤ q ∧ q ≤ passF kn) : CW l g yL_force cL_force 5 (some FieldType.long) [(0, 7, 8, 18)] ({ frames := 3, cells := 0, slots := 0, locals := 74 }) [.ref (r 0), .int (iI f), .int (iI q), .int (iI (b2i h))] (wTp g r qn qt qv kn kt kv sc ns tx tn pl) (PE (some (.long (lI (fbn (kn 0 1) h f q.toNat)))) (wTp g r qn qt qv kn kt kv sc ns tx tn pl)) := by
  refine CW.intro (L0 := [(0, .ref (r 0)), (1, .int (iI f)), (2, .int (iI q)), (3, .int (iI (b2i h)))]) (own := RL) (by decide) rfl (Nat.le_of_ble_eq_true rfl) rfl ?_
  intro pX eX sX mX argsX belowX methX cX A C hr hlk hnt
  refine J.vx ?_
  refine j_aload_n C 0 dL_force_0 rfl rfl ?_
  refine j_iload_n C 1 dL_force_1 rfl rfl ?_
  refine j_iload_n C 2 dL_force_2 rfl rfl ?_
  refine j_iload_n C 3 dL_force_3 rfl rfl ?_
  refine j_callV (As := [.int (iI f), .int (iI q), .int (iI (b2i h))]) (rest := []) C yv_X4_force qw598 (c_X4_force l g r qn qt qv kn kt kv sc ns tx tn pl f q h hT hf hp) (by decide) 0 rfl rfl rfl dL_force_4 rfl (Nat.le_of_ble_eq_true rfl) (by decide) pf0 rfl (fun r9 w9 hq9 => ?_)
  obtain ⟨rfl, rfl⟩ := hq9
  refine J.to (L1 := [(0, .ref (r 0)), (1, .int (iI f)), (2, .int (iI q)), (3, .int (iI (b2i h)))]) (S1 := [.long (lI ((fbn (kn 0 1) h f q.toNat)))]) (ws1 := wTp g r qn qt qv kn kt kv sc ns tx tn pl) rfl rfl rfl ?_
  exact j_lret C hr hlk dL_force_7 ⟨rfl, rfl⟩ (by decide) (by decide)
theorem w_force_x1 (l : Launch) (hl : l.stackTraces = false) (g : Gh) (r : Nat → Nat) (qn qt : Nat → Nat) (qv : Nat → Nat → Nat) (kn kt : Nat → Nat → Int) (kv : Nat → Nat → Nat → Int) (sc : Int) (ns : Nat) (tx : Nat → Int) (tn : Nat) (pl : Int) (f q : Int) (h : Bool) (hT : TOK kn kv sc ns tx tn) (hrf : -2147483648 ≤ f ∧ f < 2147483648) (hrq : -2147483648 ≤ q ∧ q < 2147483648) (hf : f < 0 ∨ 1000000 < f) : CW l g yL_force cL_force 5 (some FieldType.long) [(0, 7, 8, 18)] ({ frames := 8, cells := 1, slots := 6, locals := 145 }) [.ref (r 0), .int (iI f), .int (iI q), .int (iI (b2i h))] (wTp g r qn qt qv kn kt kv sc ns tx tn pl) (PE (some (.long (lI (-900000001)))) (wTp g r qn qt qv kn kt kv sc ns tx tn pl)) := by
  refine CW.intro (L0 := [(0, .ref (r 0)), (1, .int (iI f)), (2, .int (iI q)), (3, .int (iI (b2i h)))]) (own := RL) (by decide) rfl (Nat.le_of_ble_eq_true rfl) rfl ?_
  intro pX eX sX mX argsX belowX methX cX A C hr hlk hnt
  refine J.vx ?_
  refine j_aload_n C 0 dL_force_0 rfl rfl ?_
  refine j_iload_n C 1 dL_force_1 rfl rfl ?_
  refine j_iload_n C 2 dL_force_2 rfl rfl ?_
  refine j_iload_n C 3 dL_force_3 rfl rfl ?_
  refine j_callVC (As := [.int (iI f), .int (iI q), .int (iI (b2i h))]) (rest := []) C yv_X4_force qw598 (x_X4_force_1 l hl g r qn qt qv kn kt kv sc ns tx tn pl f q h hT hrf hrq hf) (by decide) 0 rfl rfl rfl dL_force_4 rfl (Nat.le_of_ble_eq_true rfl) (by decide) pf0 rfl (name := "java/lang/IllegalArgumentException") [] [] ⟨0, 7, 8, 18⟩ hnt (fun z hz => absurd hz List.not_mem_nil) (by decide) (by decide) qw161 qn246 (fun w9 q9 hq9 => ?_)
  subst hq9
  refine J.to (L1 := [(0, .ref (r 0)), (1, .int (iI f)), (2, .int (iI q)), (3, .int (iI (b2i h)))]) (S1 := [.ref q9]) (ws1 := wTp g r qn qt qv kn kt kv sc ns tx tn pl) rfl rfl rfl ?_
  refine j_astore (L1 := [(4, .ref q9), (0, .ref (r 0)), (1, .int (iI f)), (2, .int (iI q)), (3, .int (iI (b2i h)))]) C dL_force_8 (by decide) rfl ?_
  refine j_ldc2 (x := -900000001) C qw606 (by decide) dL_force_10 ?_
  exact j_lret C hr hlk dL_force_13 ⟨rfl, rfl⟩ (by decide) (by decide)
theorem w_force_x2 (l : Launch) (hl : l.stackTraces = false) (g : Gh) (r : Nat → Nat) (qn qt : Nat → Nat) (qv : Nat → Nat → Nat) (kn kt : Nat → Nat → Int) (kv : Nat → Nat → Nat → Int) (sc : Int) (ns : Nat) (tx : Nat → Int) (tn : Nat) (pl : Int) (f q : Int) (h : Bool) (hT : TOK kn kv sc ns tx tn) (hrf : -2147483648 ≤ f ∧ f < 2147483648) (hrq : -2147483648 ≤ q ∧ q < 2147483648) (hf : 0 ≤ f ∧ f ≤ 1000000) (hp : q < 0 ∨ passF kn < q) : CW l g yL_force cL_force 5 (some FieldType.long) [(0, 7, 8, 18)] ({ frames := 8, cells := 1, slots := 6, locals := 145 }) [.ref (r 0), .int (iI f), .int (iI q), .int (iI (b2i h))] (wTp g r qn qt qv kn kt kv sc ns tx tn pl) (PE (some (.long (lI (-900000001)))) (wTp g r qn qt qv kn kt kv sc ns tx tn pl)) := by
  refine CW.intro (L0 := [(0, .ref (r 0)), (1, .int (iI f)), (2, .int (iI q)), (3, .int (iI (b2i h)))]) (own := RL) (by decide) rfl (Nat.le_of_ble_eq_true rfl) rfl ?_
  intro pX eX sX mX argsX belowX methX cX A C hr hlk hnt
  refine J.vx ?_
  refine j_aload_n C 0 dL_force_0 rfl rfl ?_
  refine j_iload_n C 1 dL_force_1 rfl rfl ?_
  refine j_iload_n C 2 dL_force_2 rfl rfl ?_
  refine j_iload_n C 3 dL_force_3 rfl rfl ?_
  refine j_callVC (As := [.int (iI f), .int (iI q), .int (iI (b2i h))]) (rest := []) C yv_X4_force qw598 (x_X4_force_2 l hl g r qn qt qv kn kt kv sc ns tx tn pl f q h hT hrf hrq hf hp) (by decide) 0 rfl rfl rfl dL_force_4 rfl (Nat.le_of_ble_eq_true rfl) (by decide) pf0 rfl (name := "java/lang/IllegalArgumentException") [] [] ⟨0, 7, 8, 18⟩ hnt (fun z hz => absurd hz List.not_mem_nil) (by decide) (by decide) qw161 qn246 (fun w9 q9 hq9 => ?_)
  subst hq9
  refine J.to (L1 := [(0, .ref (r 0)), (1, .int (iI f)), (2, .int (iI q)), (3, .int (iI (b2i h)))]) (S1 := [.ref q9]) (ws1 := wTp g r qn qt qv kn kt kv sc ns tx tn pl) rfl rfl rfl ?_
  refine j_astore (L1 := [(4, .ref q9), (0, .ref (r 0)), (1, .int (iI f)), (2, .int (iI q)), (3, .int (iI (b2i h)))]) C dL_force_8 (by decide) rfl ?_
  refine j_ldc2 (x := -900000001) C qw606 (by decide) dL_force_10 ?_
  exact j_lret C hr hlk dL_force_13 ⟨rfl, rfl⟩ (by decide) (by decide)
theorem yw_L_pull : YW yL_pull RL cL_pull 5 (some FieldType.long) [(0, 7, 8, 15), (0, 7, 14, 18)] 4 := ⟨qw615, qw0, qw616, rfl, ⟨by decide +kernel, by decide +kernel⟩, by decide +kernel⟩
theorem w_pull (l : Launch) (g : Gh) (r : Nat → Nat) (qn qt : Nat → Nat) (qv : Nat → Nat → Nat) (kn kt : Nat → Nat → Int) (kv : Nat → Nat → Nat → Int) (sc : Int) (ns : Nat) (tx : Nat → Int) (tn : Nat) (pl : Int) (b f : Int) (h : Bool) (hT : TOK kn kv sc ns tx tn) (hb4 : 0 ≤ b ∧ b < 4) (hf : 0 ≤ f ∧ f ≤ 1000000) : CW l g yL_pull cL_pull 5 (some FieldType.long) [(0, 7, 8, 15), (0, 7, 14, 18)] ({ frames := 3, cells := 0, slots := 0, locals := 78 }) [.ref (r 0), .int (iI b), .int (iI f), .int (iI (b2i h))] (wTp g r qn qt qv kn kt kv sc ns tx tn pl) (PE (some (.long (lI (pul (kn 1) (kn 0 1) h (kn 0 2).toNat (kn 0 3) b f)))) (wTp g r qn qt qv kn kt kv sc ns tx tn pl)) := by
  refine CW.intro (L0 := [(0, .ref (r 0)), (1, .int (iI b)), (2, .int (iI f)), (3, .int (iI (b2i h)))]) (own := RL) (by decide) rfl (Nat.le_of_ble_eq_true rfl) rfl ?_
  intro pX eX sX mX argsX belowX methX cX A C hr hlk hnt
  refine J.vx ?_
  refine j_aload_n C 0 dL_pull_0 rfl rfl ?_
  refine j_iload_n C 1 dL_pull_1 rfl rfl ?_
  refine j_iload_n C 2 dL_pull_2 rfl rfl ?_
  refine j_iload_n C 3 dL_pull_3 rfl rfl ?_
  refine j_callV (As := [.int (iI b), .int (iI f), .int (iI (b2i h))]) (rest := []) C yv_X4_pull qw617 (c_X4_pull l g r qn qt qv kn kt kv sc ns tx tn pl b f h hT hb4 hf) (by decide) 0 rfl rfl rfl dL_pull_4 rfl (Nat.le_of_ble_eq_true rfl) (by decide) pf0 rfl (fun r9 w9 hq9 => ?_)
  obtain ⟨rfl, rfl⟩ := hq9
  refine J.to (L1 := [(0, .ref (r 0)), (1, .int (iI b)), (2, .int (iI f)), (3, .int (iI (b2i h)))]) (S1 := [.long (lI ((pul (kn 1) (kn 0 1) h (kn 0 2).toNat (kn 0 3) b f)))]) (ws1 := wTp g r qn qt qv kn kt kv sc ns tx tn pl) rfl rfl rfl ?_
  exact j_lret C hr hlk dL_pull_7 ⟨rfl, rfl⟩ (by decide) (by decide)
theorem w_pull_x1 (l : Launch) (hl : l.stackTraces = false) (g : Gh) (r : Nat → Nat) (qn qt : Nat → Nat) (qv : Nat → Nat → Nat) (kn kt : Nat → Nat → Int) (kv : Nat → Nat → Nat → Int) (sc : Int) (ns : Nat) (tx : Nat → Int) (tn : Nat) (pl : Int) (b f : Int) (h : Bool) (hT : TOK kn kv sc ns tx tn) (hrb : -2147483648 ≤ b ∧ b < 2147483648) (hrf : -2147483648 ≤ f ∧ f < 2147483648) (hb4 : b < 0 ∨ 4 ≤ b) : CW l g yL_pull cL_pull 5 (some FieldType.long) [(0, 7, 8, 15), (0, 7, 14, 18)] ({ frames := 8, cells := 1, slots := 6, locals := 145 }) [.ref (r 0), .int (iI b), .int (iI f), .int (iI (b2i h))] (wTp g r qn qt qv kn kt kv sc ns tx tn pl) (PE (some (.long (lI (-900000003)))) (wTp g r qn qt qv kn kt kv sc ns tx tn pl)) := by
  refine CW.intro (L0 := [(0, .ref (r 0)), (1, .int (iI b)), (2, .int (iI f)), (3, .int (iI (b2i h)))]) (own := RL) (by decide) rfl (Nat.le_of_ble_eq_true rfl) rfl ?_
  intro pX eX sX mX argsX belowX methX cX A C hr hlk hnt
  refine J.vx ?_
  refine j_aload_n C 0 dL_pull_0 rfl rfl ?_
  refine j_iload_n C 1 dL_pull_1 rfl rfl ?_
  refine j_iload_n C 2 dL_pull_2 rfl rfl ?_
  refine j_iload_n C 3 dL_pull_3 rfl rfl ?_
  refine j_callVC (As := [.int (iI b), .int (iI f), .int (iI (b2i h))]) (rest := []) C yv_X4_pull qw617 (x_X4_pull_1 l hl g r qn qt qv kn kt kv sc ns tx tn pl b f h hT hrb hrf hb4) (by decide) 0 rfl rfl rfl dL_pull_4 rfl (Nat.le_of_ble_eq_true rfl) (by decide) pf0 rfl (name := "java/lang/IndexOutOfBoundsException") [] [⟨0, 7, 14, 18⟩] ⟨0, 7, 8, 15⟩ hnt (fun z hz => absurd hz List.not_mem_nil) (by decide) (by decide) qw160 qn174 (fun w9 q9 hq9 => ?_)
  subst hq9
  refine J.to (L1 := [(0, .ref (r 0)), (1, .int (iI b)), (2, .int (iI f)), (3, .int (iI (b2i h)))]) (S1 := [.ref q9]) (ws1 := wTp g r qn qt qv kn kt kv sc ns tx tn pl) rfl rfl rfl ?_
  refine j_astore (L1 := [(4, .ref q9), (0, .ref (r 0)), (1, .int (iI b)), (2, .int (iI f)), (3, .int (iI (b2i h)))]) C dL_pull_8 (by decide) rfl ?_
  refine j_ldc2 (x := -900000003) C qw621 (by decide) dL_pull_10 ?_
  exact j_lret C hr hlk dL_pull_13 ⟨rfl, rfl⟩ (by decide) (by decide)
theorem w_pull_x2 (l : Launch) (hl : l.stackTraces = false) (g : Gh) (r : Nat → Nat) (qn qt : Nat → Nat) (qv : Nat → Nat → Nat) (kn kt : Nat → Nat → Int) (kv : Nat → Nat → Nat → Int) (sc : Int) (ns : Nat) (tx : Nat → Int) (tn : Nat) (pl : Int) (b f : Int) (h : Bool) (hT : TOK kn kv sc ns tx tn) (hrb : -2147483648 ≤ b ∧ b < 2147483648) (hrf : -2147483648 ≤ f ∧ f < 2147483648) (hb4 : 0 ≤ b ∧ b < 4) (hf : f < 0 ∨ 1000000 < f) : CW l g yL_pull cL_pull 5 (some FieldType.long) [(0, 7, 8, 15), (0, 7, 14, 18)] ({ frames := 8, cells := 1, slots := 6, locals := 145 }) [.ref (r 0), .int (iI b), .int (iI f), .int (iI (b2i h))] (wTp g r qn qt qv kn kt kv sc ns tx tn pl) (PE (some (.long (lI (-900000001)))) (wTp g r qn qt qv kn kt kv sc ns tx tn pl)) := by
  refine CW.intro (L0 := [(0, .ref (r 0)), (1, .int (iI b)), (2, .int (iI f)), (3, .int (iI (b2i h)))]) (own := RL) (by decide) rfl (Nat.le_of_ble_eq_true rfl) rfl ?_
  intro pX eX sX mX argsX belowX methX cX A C hr hlk hnt
  refine J.vx ?_
  refine j_aload_n C 0 dL_pull_0 rfl rfl ?_
  refine j_iload_n C 1 dL_pull_1 rfl rfl ?_
  refine j_iload_n C 2 dL_pull_2 rfl rfl ?_
  refine j_iload_n C 3 dL_pull_3 rfl rfl ?_
  refine j_callVC (As := [.int (iI b), .int (iI f), .int (iI (b2i h))]) (rest := []) C yv_X4_pull qw617 (x_X4_pull_2 l hl g r qn qt qv kn kt kv sc ns tx tn pl b f h hT hrb hrf hb4 hf) (by decide) 0 rfl rfl rfl dL_pull_4 rfl (Nat.le_of_ble_eq_true rfl) (by decide) pf0 rfl (name := "java/lang/IllegalArgumentException") [⟨0, 7, 8, 15⟩] [] ⟨0, 7, 14, 18⟩ hnt (fun z hz => by rcases List.mem_singleton.mp hz with rfl; exact Or.inr ⟨by decide, "java/lang/IndexOutOfBoundsException", C.2.2.2.2.1 _ qw160, C.2.2.2.2.2.1.2.2.1 ("java/lang/IllegalArgumentException", "java/lang/IndexOutOfBoundsException") (List.mem_of_getElem? (i := 0) rfl)⟩) (by decide) (by decide) qw161 qn246 (fun w9 q9 hq9 => ?_)
  subst hq9
  refine J.to (L1 := [(0, .ref (r 0)), (1, .int (iI b)), (2, .int (iI f)), (3, .int (iI (b2i h)))]) (S1 := [.ref q9]) (ws1 := wTp g r qn qt qv kn kt kv sc ns tx tn pl) rfl rfl rfl ?_
  refine j_astore (L1 := [(4, .ref q9), (0, .ref (r 0)), (1, .int (iI b)), (2, .int (iI f)), (3, .int (iI (b2i h)))]) C dL_pull_14 (by decide) rfl ?_
  refine j_ldc2 (x := -900000001) C qw606 (by decide) dL_pull_16 ?_
  exact j_lret C hr hlk dL_pull_19 ⟨rfl, rfl⟩ (by decide) (by decide)
theorem yw_L_value : YW yL_value RL cL_value 3 (some FieldType.int) [(0, 5, 6, 18)] 2 := ⟨qw444, qw0, qw445, rfl, ⟨by decide +kernel, by decide +kernel⟩, by decide +kernel⟩
theorem w_value (l : Launch) (g : Gh) (r : Nat → Nat) (qn qt : Nat → Nat) (qv : Nat → Nat → Nat) (kn kt : Nat → Nat → Int) (kv : Nat → Nat → Nat → Int) (sc : Int) (ns : Nat) (tx : Nat → Int) (tn : Nat) (pl : Int) (w : Int) (hT : TOK kn kv sc ns tx tn) (hw : 0 ≤ w ∧ w ≤ 9) : CW l g yL_value cL_value 3 (some FieldType.int) [(0, 5, 6, 18)] ({ frames := 5, cells := 0, slots := 0, locals := 107 }) [.ref (r 0), .int (iI w)] (wTp g r qn qt qv kn kt kv sc ns tx tn pl) (PE (some (.int (iI (valF kn w)))) (wTp g r qn qt qv kn kt kv sc ns tx tn pl)) := by
  refine CW.intro (L0 := [(0, .ref (r 0)), (1, .int (iI w))]) (own := RL) (by decide) rfl (Nat.le_of_ble_eq_true rfl) rfl ?_
  intro pX eX sX mX argsX belowX methX cX A C hr hlk hnt
  refine J.vx ?_
  refine j_aload_n C 0 dL_value_0 rfl rfl ?_
  refine j_iload_n C 1 dL_value_1 rfl rfl ?_
  refine j_callV (As := [.int (iI w)]) (rest := []) C yv_X4_value qw446 (c_X4_value l g r qn qt qv kn kt kv sc ns tx tn pl w hT hw) (by decide) 0 rfl rfl rfl dL_value_2 rfl (Nat.le_of_ble_eq_true rfl) (by decide) pf0 rfl (fun r9 w9 hq9 => ?_)
  obtain ⟨rfl, rfl⟩ := hq9
  refine J.to (L1 := [(0, .ref (r 0)), (1, .int (iI w))]) (S1 := [.int (iI ((valF kn w)))]) (ws1 := wTp g r qn qt qv kn kt kv sc ns tx tn pl) rfl rfl rfl ?_
  exact j_iret C hr hlk dL_value_5 ⟨rfl, rfl⟩ (by decide) (by decide)
theorem w_value_x1 (l : Launch) (hl : l.stackTraces = false) (g : Gh) (r : Nat → Nat) (qn qt : Nat → Nat) (qv : Nat → Nat → Nat) (kn kt : Nat → Nat → Int) (kv : Nat → Nat → Nat → Int) (sc : Int) (ns : Nat) (tx : Nat → Int) (tn : Nat) (pl : Int) (w : Int) (hT : TOK kn kv sc ns tx tn) (hrw : -2147483648 ≤ w ∧ w < 2147483648) (hw : w < 0 ∨ 9 < w) : CW l g yL_value cL_value 3 (some FieldType.int) [(0, 5, 6, 18)] ({ frames := 7, cells := 1, slots := 6, locals := 121 }) [.ref (r 0), .int (iI w)] (wTp g r qn qt qv kn kt kv sc ns tx tn pl) (PE (some (.int (iI (-900000001)))) (wTp g r qn qt qv kn kt kv sc ns tx tn pl)) := by
  refine CW.intro (L0 := [(0, .ref (r 0)), (1, .int (iI w))]) (own := RL) (by decide) rfl (Nat.le_of_ble_eq_true rfl) rfl ?_
  intro pX eX sX mX argsX belowX methX cX A C hr hlk hnt
  refine J.vx ?_
  refine j_aload_n C 0 dL_value_0 rfl rfl ?_
  refine j_iload_n C 1 dL_value_1 rfl rfl ?_
  refine j_callVC (As := [.int (iI w)]) (rest := []) C yv_X4_value qw446 (x_X4_value_1 l hl g r qn qt qv kn kt kv sc ns tx tn pl w hT hrw hw) (by decide) 0 rfl rfl rfl dL_value_2 rfl (Nat.le_of_ble_eq_true rfl) (by decide) pf0 rfl (name := "java/lang/IllegalArgumentException") [] [] ⟨0, 5, 6, 18⟩ hnt (fun z hz => absurd hz List.not_mem_nil) (by decide) (by decide) qw161 qn246 (fun w9 q9 hq9 => ?_)
  subst hq9
  refine J.to (L1 := [(0, .ref (r 0)), (1, .int (iI w))]) (S1 := [.ref q9]) (ws1 := wTp g r qn qt qv kn kt kv sc ns tx tn pl) rfl rfl rfl ?_
  refine j_astore_n (L1 := [(2, .ref q9), (0, .ref (r 0)), (1, .int (iI w))]) C dL_value_6 rfl (by decide) rfl ?_
  refine j_ldc (x := -900000001) C qw306 (by decide) dL_value_7 ?_
  exact j_iret C hr hlk dL_value_9 ⟨rfl, rfl⟩ (by decide) (by decide)
theorem yw_L_entry : YW yL_entry RL cL_entry 4 (some FieldType.int) [(0, 6, 7, 15), (0, 6, 11, 18)] 3 := ⟨qw482, qw0, qw483, rfl, ⟨by decide +kernel, by decide +kernel⟩, by decide +kernel⟩
theorem w_entry (l : Launch) (g : Gh) (r : Nat → Nat) (qn qt : Nat → Nat) (qv : Nat → Nat → Nat) (kn kt : Nat → Nat → Int) (kv : Nat → Nat → Nat → Int) (sc : Int) (ns : Nat) (tx : Nat → Int) (tn : Nat) (pl : Int) (x w : Int) (hT : TOK kn kv sc ns tx tn) (hi : 0 ≤ x ∧ x < kn 0 6) (hw : 0 ≤ w ∧ w ≤ 2) : CW l g yL_entry cL_entry 4 (some FieldType.int) [(0, 6, 7, 15), (0, 6, 11, 18)] ({ frames := 3, cells := 0, slots := 0, locals := 66 }) [.ref (r 0), .int (iI x), .int (iI w)] (wTp g r qn qt qv kn kt kv sc ns tx tn pl) (PE (some (.int (iI (kn 2 ((kn 0 9 - x) % 16 * 3 + w).toNat)))) (wTp g r qn qt qv kn kt kv sc ns tx tn pl)) := by
  refine CW.intro (L0 := [(0, .ref (r 0)), (1, .int (iI x)), (2, .int (iI w))]) (own := RL) (by decide) rfl (Nat.le_of_ble_eq_true rfl) rfl ?_
  intro pX eX sX mX argsX belowX methX cX A C hr hlk hnt
  refine J.vx ?_
  refine j_aload_n C 0 dL_entry_0 rfl rfl ?_
  refine j_iload_n C 1 dL_entry_1 rfl rfl ?_
  refine j_iload_n C 2 dL_entry_2 rfl rfl ?_
  refine j_callV (As := [.int (iI x), .int (iI w)]) (rest := []) C yv_X4_entry qw484 (c_X4_entry l g r qn qt qv kn kt kv sc ns tx tn pl x w hT hi hw) (by decide) 0 rfl rfl rfl dL_entry_3 rfl (Nat.le_of_ble_eq_true rfl) (by decide) pf0 rfl (fun r9 w9 hq9 => ?_)
  obtain ⟨rfl, rfl⟩ := hq9
  refine J.to (L1 := [(0, .ref (r 0)), (1, .int (iI x)), (2, .int (iI w))]) (S1 := [.int (iI ((kn 2 ((kn 0 9 - x) % 16 * 3 + w).toNat)))]) (ws1 := wTp g r qn qt qv kn kt kv sc ns tx tn pl) rfl rfl rfl ?_
  exact j_iret C hr hlk dL_entry_6 ⟨rfl, rfl⟩ (by decide) (by decide)
theorem w_entry_x1 (l : Launch) (hl : l.stackTraces = false) (g : Gh) (r : Nat → Nat) (qn qt : Nat → Nat) (qv : Nat → Nat → Nat) (kn kt : Nat → Nat → Int) (kv : Nat → Nat → Nat → Int) (sc : Int) (ns : Nat) (tx : Nat → Int) (tn : Nat) (pl : Int) (x w : Int) (hT : TOK kn kv sc ns tx tn) (hrx : -2147483648 ≤ x ∧ x < 2147483648) (hrw : -2147483648 ≤ w ∧ w < 2147483648) (hi : x < 0 ∨ kn 0 6 ≤ x) : CW l g yL_entry cL_entry 4 (some FieldType.int) [(0, 6, 7, 15), (0, 6, 11, 18)] ({ frames := 8, cells := 1, slots := 6, locals := 144 }) [.ref (r 0), .int (iI x), .int (iI w)] (wTp g r qn qt qv kn kt kv sc ns tx tn pl) (PE (some (.int (iI (-900000003)))) (wTp g r qn qt qv kn kt kv sc ns tx tn pl)) := by
  refine CW.intro (L0 := [(0, .ref (r 0)), (1, .int (iI x)), (2, .int (iI w))]) (own := RL) (by decide) rfl (Nat.le_of_ble_eq_true rfl) rfl ?_
  intro pX eX sX mX argsX belowX methX cX A C hr hlk hnt
  refine J.vx ?_
  refine j_aload_n C 0 dL_entry_0 rfl rfl ?_
  refine j_iload_n C 1 dL_entry_1 rfl rfl ?_
  refine j_iload_n C 2 dL_entry_2 rfl rfl ?_
  refine j_callVC (As := [.int (iI x), .int (iI w)]) (rest := []) C yv_X4_entry qw484 (x_X4_entry_1 l hl g r qn qt qv kn kt kv sc ns tx tn pl x w hT hrx hrw hi) (by decide) 0 rfl rfl rfl dL_entry_3 rfl (Nat.le_of_ble_eq_true rfl) (by decide) pf0 rfl (name := "java/lang/IndexOutOfBoundsException") [] [⟨0, 6, 11, 18⟩] ⟨0, 6, 7, 15⟩ hnt (fun z hz => absurd hz List.not_mem_nil) (by decide) (by decide) qw160 qn174 (fun w9 q9 hq9 => ?_)
  subst hq9
  refine J.to (L1 := [(0, .ref (r 0)), (1, .int (iI x)), (2, .int (iI w))]) (S1 := [.ref q9]) (ws1 := wTp g r qn qt qv kn kt kv sc ns tx tn pl) rfl rfl rfl ?_
  refine j_astore_n (L1 := [(3, .ref q9), (0, .ref (r 0)), (1, .int (iI x)), (2, .int (iI w))]) C dL_entry_7 rfl (by decide) rfl ?_
  refine j_ldc (x := -900000003) C qw305 (by decide) dL_entry_8 ?_
  exact j_iret C hr hlk dL_entry_10 ⟨rfl, rfl⟩ (by decide) (by decide)
theorem w_entry_x2 (l : Launch) (hl : l.stackTraces = false) (g : Gh) (r : Nat → Nat) (qn qt : Nat → Nat) (qv : Nat → Nat → Nat) (kn kt : Nat → Nat → Int) (kv : Nat → Nat → Nat → Int) (sc : Int) (ns : Nat) (tx : Nat → Int) (tn : Nat) (pl : Int) (x w : Int) (hT : TOK kn kv sc ns tx tn) (hrx : -2147483648 ≤ x ∧ x < 2147483648) (hrw : -2147483648 ≤ w ∧ w < 2147483648) (hi : 0 ≤ x ∧ x < kn 0 6) (hw : w < 0 ∨ 2 < w) : CW l g yL_entry cL_entry 4 (some FieldType.int) [(0, 6, 7, 15), (0, 6, 11, 18)] ({ frames := 8, cells := 1, slots := 6, locals := 144 }) [.ref (r 0), .int (iI x), .int (iI w)] (wTp g r qn qt qv kn kt kv sc ns tx tn pl) (PE (some (.int (iI (-900000001)))) (wTp g r qn qt qv kn kt kv sc ns tx tn pl)) := by
  refine CW.intro (L0 := [(0, .ref (r 0)), (1, .int (iI x)), (2, .int (iI w))]) (own := RL) (by decide) rfl (Nat.le_of_ble_eq_true rfl) rfl ?_
  intro pX eX sX mX argsX belowX methX cX A C hr hlk hnt
  refine J.vx ?_
  refine j_aload_n C 0 dL_entry_0 rfl rfl ?_
  refine j_iload_n C 1 dL_entry_1 rfl rfl ?_
  refine j_iload_n C 2 dL_entry_2 rfl rfl ?_
  refine j_callVC (As := [.int (iI x), .int (iI w)]) (rest := []) C yv_X4_entry qw484 (x_X4_entry_2 l hl g r qn qt qv kn kt kv sc ns tx tn pl x w hT hrx hrw hi hw) (by decide) 0 rfl rfl rfl dL_entry_3 rfl (Nat.le_of_ble_eq_true rfl) (by decide) pf0 rfl (name := "java/lang/IllegalArgumentException") [⟨0, 6, 7, 15⟩] [] ⟨0, 6, 11, 18⟩ hnt (fun z hz => by rcases List.mem_singleton.mp hz with rfl; exact Or.inr ⟨by decide, "java/lang/IndexOutOfBoundsException", C.2.2.2.2.1 _ qw160, C.2.2.2.2.2.1.2.2.1 ("java/lang/IllegalArgumentException", "java/lang/IndexOutOfBoundsException") (List.mem_of_getElem? (i := 0) rfl)⟩) (by decide) (by decide) qw161 qn246 (fun w9 q9 hq9 => ?_)
  subst hq9
  refine J.to (L1 := [(0, .ref (r 0)), (1, .int (iI x)), (2, .int (iI w))]) (S1 := [.ref q9]) (ws1 := wTp g r qn qt qv kn kt kv sc ns tx tn pl) rfl rfl rfl ?_
  refine j_astore_n (L1 := [(3, .ref q9), (0, .ref (r 0)), (1, .int (iI x)), (2, .int (iI w))]) C dL_entry_11 rfl (by decide) rfl ?_
  refine j_ldc (x := -900000001) C qw306 (by decide) dL_entry_12 ?_
  exact j_iret C hr hlk dL_entry_14 ⟨rfl, rfl⟩ (by decide) (by decide)
theorem yw_L_need : YW yL_need RL cL_need 4 (some FieldType.int) [(0, 6, 7, 15), (0, 6, 11, 18)] 3 := ⟨qw537, qw0, qw538, rfl, ⟨by decide +kernel, by decide +kernel⟩, by decide +kernel⟩
theorem w_need (l : Launch) (g : Gh) (r : Nat → Nat) (qn qt : Nat → Nat) (qv : Nat → Nat → Nat) (kn kt : Nat → Nat → Int) (kv : Nat → Nat → Nat → Int) (sc : Int) (ns : Nat) (tx : Nat → Int) (tn : Nat) (pl : Int) (b f : Int) (hT : TOK kn kv sc ns tx tn) (hb4 : 0 ≤ b ∧ b < 4) (hf : 0 ≤ f ∧ f ≤ 1000000) : CW l g yL_need cL_need 4 (some FieldType.int) [(0, 6, 7, 15), (0, 6, 11, 18)] ({ frames := 4, cells := 0, slots := 0, locals := 87 }) [.ref (r 0), .int (iI b), .int (iI f)] (wTp g r qn qt qv kn kt kv sc ns tx tn pl) (fun r9 w9 => r9 = (some (.int (iI (pfs (kn 0 1) f (kn 3 b.toNat) 10 0)))) ∧ ∃ kt9 : Nat → Nat → Int, w9 = wTp g r qn qt qv kn kt9 kv sc ns tx tn pl) := by
  refine CW.intro (L0 := [(0, .ref (r 0)), (1, .int (iI b)), (2, .int (iI f))]) (own := RL) (by decide) rfl (Nat.le_of_ble_eq_true rfl) rfl ?_
  intro pX eX sX mX argsX belowX methX cX A C hr hlk hnt
  refine J.vx ?_
  refine j_aload_n C 0 dL_need_0 rfl rfl ?_
  refine j_iload_n C 1 dL_need_1 rfl rfl ?_
  refine j_iload_n C 2 dL_need_2 rfl rfl ?_
  refine j_callV (As := [.int (iI b), .int (iI f)]) (rest := []) C yv_X4_pulleysFor qw539 (c_X4_pulleysFor l g r qn qt qv kn kt kv sc ns tx tn pl b f hT hb4 hf) (by decide) 0 rfl rfl rfl dL_need_3 rfl (Nat.le_of_ble_eq_true rfl) (by decide) pf0 rfl (fun r9 w9 hq9 => ?_)
  obtain ⟨rfl, kt9, rfl⟩ := hq9
  refine J.to (L1 := [(0, .ref (r 0)), (1, .int (iI b)), (2, .int (iI f))]) (S1 := [.int (iI ((pfs (kn 0 1) f (kn 3 b.toNat) 10 0)))]) (ws1 := wTp g r qn qt qv kn kt9 kv sc ns tx tn pl) rfl rfl rfl ?_
  exact j_iret C hr hlk dL_need_6 ⟨rfl, kt9, rfl⟩ (by decide) (by decide)
theorem w_need_x1 (l : Launch) (hl : l.stackTraces = false) (g : Gh) (r : Nat → Nat) (qn qt : Nat → Nat) (qv : Nat → Nat → Nat) (kn kt : Nat → Nat → Int) (kv : Nat → Nat → Nat → Int) (sc : Int) (ns : Nat) (tx : Nat → Int) (tn : Nat) (pl : Int) (b f : Int) (hT : TOK kn kv sc ns tx tn) (hrb : -2147483648 ≤ b ∧ b < 2147483648) (hrf : -2147483648 ≤ f ∧ f < 2147483648) (hb4 : b < 0 ∨ 4 ≤ b) : CW l g yL_need cL_need 4 (some FieldType.int) [(0, 6, 7, 15), (0, 6, 11, 18)] ({ frames := 8, cells := 1, slots := 6, locals := 145 }) [.ref (r 0), .int (iI b), .int (iI f)] (wTp g r qn qt qv kn kt kv sc ns tx tn pl) (PE (some (.int (iI (-900000003)))) (wTp g r qn qt qv kn kt kv sc ns tx tn pl)) := by
  refine CW.intro (L0 := [(0, .ref (r 0)), (1, .int (iI b)), (2, .int (iI f))]) (own := RL) (by decide) rfl (Nat.le_of_ble_eq_true rfl) rfl ?_
  intro pX eX sX mX argsX belowX methX cX A C hr hlk hnt
  refine J.vx ?_
  refine j_aload_n C 0 dL_need_0 rfl rfl ?_
  refine j_iload_n C 1 dL_need_1 rfl rfl ?_
  refine j_iload_n C 2 dL_need_2 rfl rfl ?_
  refine j_callVC (As := [.int (iI b), .int (iI f)]) (rest := []) C yv_X4_pulleysFor qw539 (x_X4_pulleysFor_1 l hl g r qn qt qv kn kt kv sc ns tx tn pl b f hT hrb hrf hb4) (by decide) 0 rfl rfl rfl dL_need_3 rfl (Nat.le_of_ble_eq_true rfl) (by decide) pf0 rfl (name := "java/lang/IndexOutOfBoundsException") [] [⟨0, 6, 11, 18⟩] ⟨0, 6, 7, 15⟩ hnt (fun z hz => absurd hz List.not_mem_nil) (by decide) (by decide) qw160 qn174 (fun w9 q9 hq9 => ?_)
  subst hq9
  refine J.to (L1 := [(0, .ref (r 0)), (1, .int (iI b)), (2, .int (iI f))]) (S1 := [.ref q9]) (ws1 := wTp g r qn qt qv kn kt kv sc ns tx tn pl) rfl rfl rfl ?_
  refine j_astore_n (L1 := [(3, .ref q9), (0, .ref (r 0)), (1, .int (iI b)), (2, .int (iI f))]) C dL_need_7 rfl (by decide) rfl ?_
  refine j_ldc (x := -900000003) C qw305 (by decide) dL_need_8 ?_
  exact j_iret C hr hlk dL_need_10 ⟨rfl, rfl⟩ (by decide) (by decide)
theorem w_need_x2 (l : Launch) (hl : l.stackTraces = false) (g : Gh) (r : Nat → Nat) (qn qt : Nat → Nat) (qv : Nat → Nat → Nat) (kn kt : Nat → Nat → Int) (kv : Nat → Nat → Nat → Int) (sc : Int) (ns : Nat) (tx : Nat → Int) (tn : Nat) (pl : Int) (b f : Int) (hT : TOK kn kv sc ns tx tn) (hrb : -2147483648 ≤ b ∧ b < 2147483648) (hrf : -2147483648 ≤ f ∧ f < 2147483648) (hb4 : 0 ≤ b ∧ b < 4) (hf : f < 0 ∨ 1000000 < f) : CW l g yL_need cL_need 4 (some FieldType.int) [(0, 6, 7, 15), (0, 6, 11, 18)] ({ frames := 8, cells := 1, slots := 6, locals := 145 }) [.ref (r 0), .int (iI b), .int (iI f)] (wTp g r qn qt qv kn kt kv sc ns tx tn pl) (PE (some (.int (iI (-900000001)))) (wTp g r qn qt qv kn kt kv sc ns tx tn pl)) := by
  refine CW.intro (L0 := [(0, .ref (r 0)), (1, .int (iI b)), (2, .int (iI f))]) (own := RL) (by decide) rfl (Nat.le_of_ble_eq_true rfl) rfl ?_
  intro pX eX sX mX argsX belowX methX cX A C hr hlk hnt
  refine J.vx ?_
  refine j_aload_n C 0 dL_need_0 rfl rfl ?_
  refine j_iload_n C 1 dL_need_1 rfl rfl ?_
  refine j_iload_n C 2 dL_need_2 rfl rfl ?_
  refine j_callVC (As := [.int (iI b), .int (iI f)]) (rest := []) C yv_X4_pulleysFor qw539 (x_X4_pulleysFor_2 l hl g r qn qt qv kn kt kv sc ns tx tn pl b f hT hrb hrf hb4 hf) (by decide) 0 rfl rfl rfl dL_need_3 rfl (Nat.le_of_ble_eq_true rfl) (by decide) pf0 rfl (name := "java/lang/IllegalArgumentException") [⟨0, 6, 7, 15⟩] [] ⟨0, 6, 11, 18⟩ hnt (fun z hz => by rcases List.mem_singleton.mp hz with rfl; exact Or.inr ⟨by decide, "java/lang/IndexOutOfBoundsException", C.2.2.2.2.1 _ qw160, C.2.2.2.2.2.1.2.2.1 ("java/lang/IllegalArgumentException", "java/lang/IndexOutOfBoundsException") (List.mem_of_getElem? (i := 0) rfl)⟩) (by decide) (by decide) qw161 qn246 (fun w9 q9 hq9 => ?_)
  subst hq9
  refine J.to (L1 := [(0, .ref (r 0)), (1, .int (iI b)), (2, .int (iI f))]) (S1 := [.ref q9]) (ws1 := wTp g r qn qt qv kn kt kv sc ns tx tn pl) rfl rfl rfl ?_
  refine j_astore_n (L1 := [(3, .ref q9), (0, .ref (r 0)), (1, .int (iI b)), (2, .int (iI f))]) C dL_need_11 rfl (by decide) rfl ?_
  refine j_ldc (x := -900000001) C qw306 (by decide) dL_need_12 ?_
  exact j_iret C hr hlk dL_need_14 ⟨rfl, rfl⟩ (by decide) (by decide)
theorem yw_L_best : YW yL_best RL cL_best 3 (some FieldType.int) [(0, 5, 6, 15)] 2 := ⟨qw565, qw0, qw566, rfl, ⟨by decide +kernel, by decide +kernel⟩, by decide +kernel⟩
theorem w_best (l : Launch) (g : Gh) (r : Nat → Nat) (qn qt : Nat → Nat) (qv : Nat → Nat → Nat) (kn kt : Nat → Nat → Int) (kv : Nat → Nat → Nat → Int) (sc : Int) (ns : Nat) (tx : Nat → Int) (tn : Nat) (pl : Int) (b : Int) (hT : TOK kn kv sc ns tx tn) (hb4 : 0 ≤ b ∧ b < 4) : CW l g yL_best cL_best 3 (some FieldType.int) [(0, 5, 6, 15)] ({ frames := 5, cells := 0, slots := 0, locals := 129 }) [.ref (r 0), .int (iI b)] (wTp g r qn qt qv kn kt kv sc ns tx tn pl) (fun r9 w9 => r9 = (some (.int (iI (nxr (fcE kn b) (fun _ => 0) 1000000 5)))) ∧ ∃ kt9 : Nat → Nat → Int, w9 = wTp g r qn qt qv kn kt9 kv sc ns tx tn pl) := by
  refine CW.intro (L0 := [(0, .ref (r 0)), (1, .int (iI b))]) (own := RL) (by decide) rfl (Nat.le_of_ble_eq_true rfl) rfl ?_
  intro pX eX sX mX argsX belowX methX cX A C hr hlk hnt
  refine J.vx ?_
  refine j_aload_n C 0 dL_best_0 rfl rfl ?_
  refine j_iload_n C 1 dL_best_1 rfl rfl ?_
  refine j_callV (As := [.int (iI b)]) (rest := []) C yv_X4_bestEnd qw567 (c_X4_bestEnd l g r qn qt qv kn kt kv sc ns tx tn pl b hT hb4) (by decide) 0 rfl rfl rfl dL_best_2 rfl (Nat.le_of_ble_eq_true rfl) (by decide) pf0 rfl (fun r9 w9 hq9 => ?_)
  obtain ⟨rfl, kt9, rfl⟩ := hq9
  refine J.to (L1 := [(0, .ref (r 0)), (1, .int (iI b))]) (S1 := [.int (iI ((nxr (fcE kn b) (fun _ => 0) 1000000 5)))]) (ws1 := wTp g r qn qt qv kn kt9 kv sc ns tx tn pl) rfl rfl rfl ?_
  exact j_iret C hr hlk dL_best_5 ⟨rfl, kt9, rfl⟩ (by decide) (by decide)
theorem w_best_x1 (l : Launch) (hl : l.stackTraces = false) (g : Gh) (r : Nat → Nat) (qn qt : Nat → Nat) (qv : Nat → Nat → Nat) (kn kt : Nat → Nat → Int) (kv : Nat → Nat → Nat → Int) (sc : Int) (ns : Nat) (tx : Nat → Int) (tn : Nat) (pl : Int) (b : Int) (hT : TOK kn kv sc ns tx tn) (hrb : -2147483648 ≤ b ∧ b < 2147483648) (hb4 : b < 0 ∨ 4 ≤ b) : CW l g yL_best cL_best 3 (some FieldType.int) [(0, 5, 6, 15)] ({ frames := 8, cells := 1, slots := 6, locals := 145 }) [.ref (r 0), .int (iI b)] (wTp g r qn qt qv kn kt kv sc ns tx tn pl) (PE (some (.int (iI (-900000003)))) (wTp g r qn qt qv kn kt kv sc ns tx tn pl)) := by
  refine CW.intro (L0 := [(0, .ref (r 0)), (1, .int (iI b))]) (own := RL) (by decide) rfl (Nat.le_of_ble_eq_true rfl) rfl ?_
  intro pX eX sX mX argsX belowX methX cX A C hr hlk hnt
  refine J.vx ?_
  refine j_aload_n C 0 dL_best_0 rfl rfl ?_
  refine j_iload_n C 1 dL_best_1 rfl rfl ?_
  refine j_callVC (As := [.int (iI b)]) (rest := []) C yv_X4_bestEnd qw567 (x_X4_bestEnd_1 l hl g r qn qt qv kn kt kv sc ns tx tn pl b hT hrb hb4) (by decide) 0 rfl rfl rfl dL_best_2 rfl (Nat.le_of_ble_eq_true rfl) (by decide) pf0 rfl (name := "java/lang/IndexOutOfBoundsException") [] [] ⟨0, 5, 6, 15⟩ hnt (fun z hz => absurd hz List.not_mem_nil) (by decide) (by decide) qw160 qn174 (fun w9 q9 hq9 => ?_)
  subst hq9
  refine J.to (L1 := [(0, .ref (r 0)), (1, .int (iI b))]) (S1 := [.ref q9]) (ws1 := wTp g r qn qt qv kn kt kv sc ns tx tn pl) rfl rfl rfl ?_
  refine j_astore_n (L1 := [(2, .ref q9), (0, .ref (r 0)), (1, .int (iI b))]) C dL_best_6 rfl (by decide) rfl ?_
  refine j_ldc (x := -900000003) C qw305 (by decide) dL_best_7 ?_
  exact j_iret C hr hlk dL_best_9 ⟨rfl, rfl⟩ (by decide) (by decide)
theorem yw_L_swapped : YW yL_swapped RL cL_swapped 5 (some FieldType.int) [(0, 7, 8, 15)] 4 := ⟨qw572, qw0, qw573, rfl, ⟨by decide +kernel, by decide +kernel⟩, by decide +kernel⟩
theorem w_swapped (l : Launch) (g : Gh) (r : Nat → Nat) (qn qt : Nat → Nat) (qv : Nat → Nat → Nat) (kn kt : Nat → Nat → Int) (kv : Nat → Nat → Nat → Int) (sc : Int) (ns : Nat) (tx : Nat → Int) (tn : Nat) (pl : Int) (b x y : Int) (hT : TOK kn kv sc ns tx tn) (hb4 : 0 ≤ b ∧ b < 4) (hi : 0 ≤ x ∧ x < kn 0 2) (hj : 0 ≤ y ∧ y < kn 0 2) : CW l g yL_swapped cL_swapped 5 (some FieldType.int) [(0, 7, 8, 15)] ({ frames := 5, cells := 0, slots := 0, locals := 127 }) [.ref (r 0), .int (iI b), .int (iI x), .int (iI y)] (wTp g r qn qt qv kn kt kv sc ns tx tn pl) (fun r9 w9 => r9 = (some (.int (iI (lea (swp (kn 1) x.toNat y.toNat) (kn 0 1) true (kn 0 2).toNat (kn 0 3) b (kn 3 b.toNat))))) ∧ ∃ kt9 : Nat → Nat → Int, w9 = wTp g r qn qt qv kn kt9 kv sc ns tx tn pl) := by
  refine CW.intro (L0 := [(0, .ref (r 0)), (1, .int (iI b)), (2, .int (iI x)), (3, .int (iI y))]) (own := RL) (by decide) rfl (Nat.le_of_ble_eq_true rfl) rfl ?_
  intro pX eX sX mX argsX belowX methX cX A C hr hlk hnt
  refine J.vx ?_
  refine j_aload_n C 0 dL_swapped_0 rfl rfl ?_
  refine j_iload_n C 1 dL_swapped_1 rfl rfl ?_
  refine j_iload_n C 2 dL_swapped_2 rfl rfl ?_
  refine j_iload_n C 3 dL_swapped_3 rfl rfl ?_
  refine j_callV (As := [.int (iI b), .int (iI x), .int (iI y)]) (rest := []) C yv_X4_swapped qw574 (c_X4_swapped l g r qn qt qv kn kt kv sc ns tx tn pl b x y hT hb4 hi hj) (by decide) 0 rfl rfl rfl dL_swapped_4 rfl (Nat.le_of_ble_eq_true rfl) (by decide) pf0 rfl (fun r9 w9 hq9 => ?_)
  obtain ⟨rfl, kt9, rfl⟩ := hq9
  refine J.to (L1 := [(0, .ref (r 0)), (1, .int (iI b)), (2, .int (iI x)), (3, .int (iI y))]) (S1 := [.int (iI ((lea (swp (kn 1) x.toNat y.toNat) (kn 0 1) true (kn 0 2).toNat (kn 0 3) b (kn 3 b.toNat))))]) (ws1 := wTp g r qn qt qv kn kt9 kv sc ns tx tn pl) rfl rfl rfl ?_
  exact j_iret C hr hlk dL_swapped_7 ⟨rfl, kt9, rfl⟩ (by decide) (by decide)
theorem w_swapped_x1 (l : Launch) (hl : l.stackTraces = false) (g : Gh) (r : Nat → Nat) (qn qt : Nat → Nat) (qv : Nat → Nat → Nat) (kn kt : Nat → Nat → Int) (kv : Nat → Nat → Nat → Int) (sc : Int) (ns : Nat) (tx : Nat → Int) (tn : Nat) (pl : Int) (b x y : Int) (hT : TOK kn kv sc ns tx tn) (hrb : -2147483648 ≤ b ∧ b < 2147483648) (hrx : -2147483648 ≤ x ∧ x < 2147483648) (hry : -2147483648 ≤ y ∧ y < 2147483648) (hb4 : b < 0 ∨ 4 ≤ b) : CW l g yL_swapped cL_swapped 5 (some FieldType.int) [(0, 7, 8, 15)] ({ frames := 8, cells := 1, slots := 6, locals := 144 }) [.ref (r 0), .int (iI b), .int (iI x), .int (iI y)] (wTp g r qn qt qv kn kt kv sc ns tx tn pl) (PE (some (.int (iI (-900000003)))) (wTp g r qn qt qv kn kt kv sc ns tx tn pl)) := by
  refine CW.intro (L0 := [(0, .ref (r 0)), (1, .int (iI b)), (2, .int (iI x)), (3, .int (iI y))]) (own := RL) (by decide) rfl (Nat.le_of_ble_eq_true rfl) rfl ?_
  intro pX eX sX mX argsX belowX methX cX A C hr hlk hnt
  refine J.vx ?_
  refine j_aload_n C 0 dL_swapped_0 rfl rfl ?_
  refine j_iload_n C 1 dL_swapped_1 rfl rfl ?_
  refine j_iload_n C 2 dL_swapped_2 rfl rfl ?_
  refine j_iload_n C 3 dL_swapped_3 rfl rfl ?_
  refine j_callVC (As := [.int (iI b), .int (iI x), .int (iI y)]) (rest := []) C yv_X4_swapped qw574 (x_X4_swapped_1 l hl g r qn qt qv kn kt kv sc ns tx tn pl b x y hT hrb hrx hry hb4) (by decide) 0 rfl rfl rfl dL_swapped_4 rfl (Nat.le_of_ble_eq_true rfl) (by decide) pf0 rfl (name := "java/lang/IndexOutOfBoundsException") [] [] ⟨0, 7, 8, 15⟩ hnt (fun z hz => absurd hz List.not_mem_nil) (by decide) (by decide) qw160 qn174 (fun w9 q9 hq9 => ?_)
  subst hq9
  refine J.to (L1 := [(0, .ref (r 0)), (1, .int (iI b)), (2, .int (iI x)), (3, .int (iI y))]) (S1 := [.ref q9]) (ws1 := wTp g r qn qt qv kn kt kv sc ns tx tn pl) rfl rfl rfl ?_
  refine j_astore (L1 := [(4, .ref q9), (0, .ref (r 0)), (1, .int (iI b)), (2, .int (iI x)), (3, .int (iI y))]) C dL_swapped_8 (by decide) rfl ?_
  refine j_ldc (x := -900000003) C qw305 (by decide) dL_swapped_10 ?_
  exact j_iret C hr hlk dL_swapped_12 ⟨rfl, rfl⟩ (by decide) (by decide)
theorem w_swapped_x2 (l : Launch) (hl : l.stackTraces = false) (g : Gh) (r : Nat → Nat) (qn qt : Nat → Nat) (qv : Nat → Nat → Nat) (kn kt : Nat → Nat → Int) (kv : Nat → Nat → Nat → Int) (sc : Int) (ns : Nat) (tx : Nat → Int) (tn : Nat) (pl : Int) (b x y : Int) (hT : TOK kn kv sc ns tx tn) (hrb : -2147483648 ≤ b ∧ b < 2147483648) (hrx : -2147483648 ≤ x ∧ x < 2147483648) (hry : -2147483648 ≤ y ∧ y < 2147483648) (hb4 : 0 ≤ b ∧ b < 4) (hi : x < 0 ∨ kn 0 2 ≤ x) : CW l g yL_swapped cL_swapped 5 (some FieldType.int) [(0, 7, 8, 15)] ({ frames := 8, cells := 1, slots := 6, locals := 144 }) [.ref (r 0), .int (iI b), .int (iI x), .int (iI y)] (wTp g r qn qt qv kn kt kv sc ns tx tn pl) (PE (some (.int (iI (-900000003)))) (wTp g r qn qt qv kn kt kv sc ns tx tn pl)) := by
  refine CW.intro (L0 := [(0, .ref (r 0)), (1, .int (iI b)), (2, .int (iI x)), (3, .int (iI y))]) (own := RL) (by decide) rfl (Nat.le_of_ble_eq_true rfl) rfl ?_
  intro pX eX sX mX argsX belowX methX cX A C hr hlk hnt
  refine J.vx ?_
  refine j_aload_n C 0 dL_swapped_0 rfl rfl ?_
  refine j_iload_n C 1 dL_swapped_1 rfl rfl ?_
  refine j_iload_n C 2 dL_swapped_2 rfl rfl ?_
  refine j_iload_n C 3 dL_swapped_3 rfl rfl ?_
  refine j_callVC (As := [.int (iI b), .int (iI x), .int (iI y)]) (rest := []) C yv_X4_swapped qw574 (x_X4_swapped_2 l hl g r qn qt qv kn kt kv sc ns tx tn pl b x y hT hrb hrx hry hb4 hi) (by decide) 0 rfl rfl rfl dL_swapped_4 rfl (Nat.le_of_ble_eq_true rfl) (by decide) pf0 rfl (name := "java/lang/IndexOutOfBoundsException") [] [] ⟨0, 7, 8, 15⟩ hnt (fun z hz => absurd hz List.not_mem_nil) (by decide) (by decide) qw160 qn174 (fun w9 q9 hq9 => ?_)
  subst hq9
  refine J.to (L1 := [(0, .ref (r 0)), (1, .int (iI b)), (2, .int (iI x)), (3, .int (iI y))]) (S1 := [.ref q9]) (ws1 := wTp g r qn qt qv kn kt kv sc ns tx tn pl) rfl rfl rfl ?_
  refine j_astore (L1 := [(4, .ref q9), (0, .ref (r 0)), (1, .int (iI b)), (2, .int (iI x)), (3, .int (iI y))]) C dL_swapped_8 (by decide) rfl ?_
  refine j_ldc (x := -900000003) C qw305 (by decide) dL_swapped_10 ?_
  exact j_iret C hr hlk dL_swapped_12 ⟨rfl, rfl⟩ (by decide) (by decide)
theorem w_swapped_x3 (l : Launch) (hl : l.stackTraces = false) (g : Gh) (r : Nat → Nat) (qn qt : Nat → Nat) (qv : Nat → Nat → Nat) (kn kt : Nat → Nat → Int) (kv : Nat → Nat → Nat → Int) (sc : Int) (ns : Nat) (tx : Nat → Int) (tn : Nat) (pl : Int) (b x y : Int) (hT : TOK kn kv sc ns tx tn) (hrb : -2147483648 ≤ b ∧ b < 2147483648) (hrx : -2147483648 ≤ x ∧ x < 2147483648) (hry : -2147483648 ≤ y ∧ y < 2147483648) (hb4 : 0 ≤ b ∧ b < 4) (hi : 0 ≤ x ∧ x < kn 0 2) (hj : y < 0 ∨ kn 0 2 ≤ y) : CW l g yL_swapped cL_swapped 5 (some FieldType.int) [(0, 7, 8, 15)] ({ frames := 8, cells := 1, slots := 6, locals := 144 }) [.ref (r 0), .int (iI b), .int (iI x), .int (iI y)] (wTp g r qn qt qv kn kt kv sc ns tx tn pl) (PE (some (.int (iI (-900000003)))) (wTp g r qn qt qv kn kt kv sc ns tx tn pl)) := by
  refine CW.intro (L0 := [(0, .ref (r 0)), (1, .int (iI b)), (2, .int (iI x)), (3, .int (iI y))]) (own := RL) (by decide) rfl (Nat.le_of_ble_eq_true rfl) rfl ?_
  intro pX eX sX mX argsX belowX methX cX A C hr hlk hnt
  refine J.vx ?_
  refine j_aload_n C 0 dL_swapped_0 rfl rfl ?_
  refine j_iload_n C 1 dL_swapped_1 rfl rfl ?_
  refine j_iload_n C 2 dL_swapped_2 rfl rfl ?_
  refine j_iload_n C 3 dL_swapped_3 rfl rfl ?_
  refine j_callVC (As := [.int (iI b), .int (iI x), .int (iI y)]) (rest := []) C yv_X4_swapped qw574 (x_X4_swapped_3 l hl g r qn qt qv kn kt kv sc ns tx tn pl b x y hT hrb hrx hry hb4 hi hj) (by decide) 0 rfl rfl rfl dL_swapped_4 rfl (Nat.le_of_ble_eq_true rfl) (by decide) pf0 rfl (name := "java/lang/IndexOutOfBoundsException") [] [] ⟨0, 7, 8, 15⟩ hnt (fun z hz => absurd hz List.not_mem_nil) (by decide) (by decide) qw160 qn174 (fun w9 q9 hq9 => ?_)
  subst hq9
  refine J.to (L1 := [(0, .ref (r 0)), (1, .int (iI b)), (2, .int (iI x)), (3, .int (iI y))]) (S1 := [.ref q9]) (ws1 := wTp g r qn qt qv kn kt kv sc ns tx tn pl) rfl rfl rfl ?_
  refine j_astore (L1 := [(4, .ref q9), (0, .ref (r 0)), (1, .int (iI b)), (2, .int (iI x)), (3, .int (iI y))]) C dL_swapped_8 (by decide) rfl ?_
  refine j_ldc (x := -900000003) C qw305 (by decide) dL_swapped_10 ?_
  exact j_iret C hr hlk dL_swapped_12 ⟨rfl, rfl⟩ (by decide) (by decide)
theorem yw_L_rise : YW yL_rise RL cL_rise 5 (some FieldType.int) [(0, 7, 8, 15), (0, 7, 13, 18)] 4 := ⟨qw549, qw0, qw550, rfl, ⟨by decide +kernel, by decide +kernel⟩, by decide +kernel⟩
theorem w_rise (l : Launch) (g : Gh) (r : Nat → Nat) (qn qt : Nat → Nat) (qv : Nat → Nat → Nat) (kn kt : Nat → Nat → Int) (kv : Nat → Nat → Nat → Int) (sc : Int) (ns : Nat) (tx : Nat → Int) (tn : Nat) (pl : Int) (b f n : Int) (hT : TOK kn kv sc ns tx tn) (hb4 : 0 ≤ b ∧ b < 4) (hf : 0 ≤ f ∧ f ≤ 1000000) (hn : 0 ≤ n ∧ n ≤ 100000) : CW l g yL_rise cL_rise 5 (some FieldType.int) [(0, 7, 8, 15), (0, 7, 13, 18)] ({ frames := 7, cells := 0, slots := 0, locals := 172 }) [.ref (r 0), .int (iI b), .int (iI f), .int (iI n)] (wTp g r qn qt qv kn kt kv sc ns tx tn pl) (fun r9 w9 => r9 = (some (.int (iI ((mup f n (cpS kn kt)).1 4 b.toNat - kn 4 b.toNat)))) ∧ ∃ kt9 : Nat → Nat → Int, w9 = wTp g r qn qt qv kn kt9 kv sc ns tx tn pl) := by
  refine CW.intro (L0 := [(0, .ref (r 0)), (1, .int (iI b)), (2, .int (iI f)), (3, .int (iI n))]) (own := RL) (by decide) rfl (Nat.le_of_ble_eq_true rfl) rfl ?_
  intro pX eX sX mX argsX belowX methX cX A C hr hlk hnt
  refine J.vx ?_
  refine j_aload_n C 0 dL_rise_0 rfl rfl ?_
  refine j_iload_n C 1 dL_rise_1 rfl rfl ?_
  refine j_iload_n C 2 dL_rise_2 rfl rfl ?_
  refine j_iload_n C 3 dL_rise_3 rfl rfl ?_
  refine j_callV (As := [.int (iI b), .int (iI f), .int (iI n)]) (rest := []) C yv_X4_riseBy qw551 (c_X4_riseBy l g r qn qt qv kn kt kv sc ns tx tn pl b f n hT hb4 hf hn) (by decide) 0 rfl rfl rfl dL_rise_4 rfl (Nat.le_of_ble_eq_true rfl) (by decide) pf0 rfl (fun r9 w9 hq9 => ?_)
  obtain ⟨rfl, kt9, rfl⟩ := hq9
  refine J.to (L1 := [(0, .ref (r 0)), (1, .int (iI b)), (2, .int (iI f)), (3, .int (iI n))]) (S1 := [.int (iI (((mup f n (cpS kn kt)).1 4 b.toNat - kn 4 b.toNat)))]) (ws1 := wTp g r qn qt qv kn kt9 kv sc ns tx tn pl) rfl rfl rfl ?_
  exact j_iret C hr hlk dL_rise_7 ⟨rfl, kt9, rfl⟩ (by decide) (by decide)
theorem w_rise_x1 (l : Launch) (hl : l.stackTraces = false) (g : Gh) (r : Nat → Nat) (qn qt : Nat → Nat) (qv : Nat → Nat → Nat) (kn kt : Nat → Nat → Int) (kv : Nat → Nat → Nat → Int) (sc : Int) (ns : Nat) (tx : Nat → Int) (tn : Nat) (pl : Int) (b f n : Int) (hT : TOK kn kv sc ns tx tn) (hrb : -2147483648 ≤ b ∧ b < 2147483648) (hrf : -2147483648 ≤ f ∧ f < 2147483648) (hrn : -2147483648 ≤ n ∧ n < 2147483648) (hb4 : b < 0 ∨ 4 ≤ b) : CW l g yL_rise cL_rise 5 (some FieldType.int) [(0, 7, 8, 15), (0, 7, 13, 18)] ({ frames := 8, cells := 1, slots := 6, locals := 145 }) [.ref (r 0), .int (iI b), .int (iI f), .int (iI n)] (wTp g r qn qt qv kn kt kv sc ns tx tn pl) (PE (some (.int (iI (-900000003)))) (wTp g r qn qt qv kn kt kv sc ns tx tn pl)) := by
  refine CW.intro (L0 := [(0, .ref (r 0)), (1, .int (iI b)), (2, .int (iI f)), (3, .int (iI n))]) (own := RL) (by decide) rfl (Nat.le_of_ble_eq_true rfl) rfl ?_
  intro pX eX sX mX argsX belowX methX cX A C hr hlk hnt
  refine J.vx ?_
  refine j_aload_n C 0 dL_rise_0 rfl rfl ?_
  refine j_iload_n C 1 dL_rise_1 rfl rfl ?_
  refine j_iload_n C 2 dL_rise_2 rfl rfl ?_
  refine j_iload_n C 3 dL_rise_3 rfl rfl ?_
  refine j_callVC (As := [.int (iI b), .int (iI f), .int (iI n)]) (rest := []) C yv_X4_riseBy qw551 (x_X4_riseBy_1 l hl g r qn qt qv kn kt kv sc ns tx tn pl b f n hT hrb hrf hrn hb4) (by decide) 0 rfl rfl rfl dL_rise_4 rfl (Nat.le_of_ble_eq_true rfl) (by decide) pf0 rfl (name := "java/lang/IndexOutOfBoundsException") [] [⟨0, 7, 13, 18⟩] ⟨0, 7, 8, 15⟩ hnt (fun z hz => absurd hz List.not_mem_nil) (by decide) (by decide) qw160 qn174 (fun w9 q9 hq9 => ?_)
  subst hq9
  refine J.to (L1 := [(0, .ref (r 0)), (1, .int (iI b)), (2, .int (iI f)), (3, .int (iI n))]) (S1 := [.ref q9]) (ws1 := wTp g r qn qt qv kn kt kv sc ns tx tn pl) rfl rfl rfl ?_
  refine j_astore (L1 := [(4, .ref q9), (0, .ref (r 0)), (1, .int (iI b)), (2, .int (iI f)), (3, .int (iI n))]) C dL_rise_8 (by decide) rfl ?_
  refine j_ldc (x := -900000003) C qw305 (by decide) dL_rise_10 ?_
  exact j_iret C hr hlk dL_rise_12 ⟨rfl, rfl⟩ (by decide) (by decide)
theorem w_rise_x2 (l : Launch) (hl : l.stackTraces = false) (g : Gh) (r : Nat → Nat) (qn qt : Nat → Nat) (qv : Nat → Nat → Nat) (kn kt : Nat → Nat → Int) (kv : Nat → Nat → Nat → Int) (sc : Int) (ns : Nat) (tx : Nat → Int) (tn : Nat) (pl : Int) (b f n : Int) (hT : TOK kn kv sc ns tx tn) (hrb : -2147483648 ≤ b ∧ b < 2147483648) (hrf : -2147483648 ≤ f ∧ f < 2147483648) (hrn : -2147483648 ≤ n ∧ n < 2147483648) (hb4 : 0 ≤ b ∧ b < 4) (hf : f < 0 ∨ 1000000 < f) : CW l g yL_rise cL_rise 5 (some FieldType.int) [(0, 7, 8, 15), (0, 7, 13, 18)] ({ frames := 8, cells := 1, slots := 6, locals := 145 }) [.ref (r 0), .int (iI b), .int (iI f), .int (iI n)] (wTp g r qn qt qv kn kt kv sc ns tx tn pl) (PE (some (.int (iI (-900000001)))) (wTp g r qn qt qv kn kt kv sc ns tx tn pl)) := by
  refine CW.intro (L0 := [(0, .ref (r 0)), (1, .int (iI b)), (2, .int (iI f)), (3, .int (iI n))]) (own := RL) (by decide) rfl (Nat.le_of_ble_eq_true rfl) rfl ?_
  intro pX eX sX mX argsX belowX methX cX A C hr hlk hnt
  refine J.vx ?_
  refine j_aload_n C 0 dL_rise_0 rfl rfl ?_
  refine j_iload_n C 1 dL_rise_1 rfl rfl ?_
  refine j_iload_n C 2 dL_rise_2 rfl rfl ?_
  refine j_iload_n C 3 dL_rise_3 rfl rfl ?_
  refine j_callVC (As := [.int (iI b), .int (iI f), .int (iI n)]) (rest := []) C yv_X4_riseBy qw551 (x_X4_riseBy_2 l hl g r qn qt qv kn kt kv sc ns tx tn pl b f n hT hrb hrf hrn hb4 hf) (by decide) 0 rfl rfl rfl dL_rise_4 rfl (Nat.le_of_ble_eq_true rfl) (by decide) pf0 rfl (name := "java/lang/IllegalArgumentException") [⟨0, 7, 8, 15⟩] [] ⟨0, 7, 13, 18⟩ hnt (fun z hz => by rcases List.mem_singleton.mp hz with rfl; exact Or.inr ⟨by decide, "java/lang/IndexOutOfBoundsException", C.2.2.2.2.1 _ qw160, C.2.2.2.2.2.1.2.2.1 ("java/lang/IllegalArgumentException", "java/lang/IndexOutOfBoundsException") (List.mem_of_getElem? (i := 0) rfl)⟩) (by decide) (by decide) qw161 qn246 (fun w9 q9 hq9 => ?_)
  subst hq9
  refine J.to (L1 := [(0, .ref (r 0)), (1, .int (iI b)), (2, .int (iI f)), (3, .int (iI n))]) (S1 := [.ref q9]) (ws1 := wTp g r qn qt qv kn kt kv sc ns tx tn pl) rfl rfl rfl ?_
  refine j_astore (L1 := [(4, .ref q9), (0, .ref (r 0)), (1, .int (iI b)), (2, .int (iI f)), (3, .int (iI n))]) C dL_rise_13 (by decide) rfl ?_
  refine j_ldc (x := -900000001) C qw306 (by decide) dL_rise_15 ?_
  exact j_iret C hr hlk dL_rise_17 ⟨rfl, rfl⟩ (by decide) (by decide)
theorem w_rise_x3 (l : Launch) (hl : l.stackTraces = false) (g : Gh) (r : Nat → Nat) (qn qt : Nat → Nat) (qv : Nat → Nat → Nat) (kn kt : Nat → Nat → Int) (kv : Nat → Nat → Nat → Int) (sc : Int) (ns : Nat) (tx : Nat → Int) (tn : Nat) (pl : Int) (b f n : Int) (hT : TOK kn kv sc ns tx tn) (hrb : -2147483648 ≤ b ∧ b < 2147483648) (hrf : -2147483648 ≤ f ∧ f < 2147483648) (hrn : -2147483648 ≤ n ∧ n < 2147483648) (hb4 : 0 ≤ b ∧ b < 4) (hf : 0 ≤ f ∧ f ≤ 1000000) (hn : n < 0 ∨ 100000 < n) : CW l g yL_rise cL_rise 5 (some FieldType.int) [(0, 7, 8, 15), (0, 7, 13, 18)] ({ frames := 8, cells := 1, slots := 6, locals := 145 }) [.ref (r 0), .int (iI b), .int (iI f), .int (iI n)] (wTp g r qn qt qv kn kt kv sc ns tx tn pl) (PE (some (.int (iI (-900000001)))) (wTp g r qn qt qv kn kt kv sc ns tx tn pl)) := by
  refine CW.intro (L0 := [(0, .ref (r 0)), (1, .int (iI b)), (2, .int (iI f)), (3, .int (iI n))]) (own := RL) (by decide) rfl (Nat.le_of_ble_eq_true rfl) rfl ?_
  intro pX eX sX mX argsX belowX methX cX A C hr hlk hnt
  refine J.vx ?_
  refine j_aload_n C 0 dL_rise_0 rfl rfl ?_
  refine j_iload_n C 1 dL_rise_1 rfl rfl ?_
  refine j_iload_n C 2 dL_rise_2 rfl rfl ?_
  refine j_iload_n C 3 dL_rise_3 rfl rfl ?_
  refine j_callVC (As := [.int (iI b), .int (iI f), .int (iI n)]) (rest := []) C yv_X4_riseBy qw551 (x_X4_riseBy_3 l hl g r qn qt qv kn kt kv sc ns tx tn pl b f n hT hrb hrf hrn hb4 hf hn) (by decide) 0 rfl rfl rfl dL_rise_4 rfl (Nat.le_of_ble_eq_true rfl) (by decide) pf0 rfl (name := "java/lang/IllegalArgumentException") [⟨0, 7, 8, 15⟩] [] ⟨0, 7, 13, 18⟩ hnt (fun z hz => by rcases List.mem_singleton.mp hz with rfl; exact Or.inr ⟨by decide, "java/lang/IndexOutOfBoundsException", C.2.2.2.2.1 _ qw160, C.2.2.2.2.2.1.2.2.1 ("java/lang/IllegalArgumentException", "java/lang/IndexOutOfBoundsException") (List.mem_of_getElem? (i := 0) rfl)⟩) (by decide) (by decide) qw161 qn246 (fun w9 q9 hq9 => ?_)
  subst hq9
  refine J.to (L1 := [(0, .ref (r 0)), (1, .int (iI b)), (2, .int (iI f)), (3, .int (iI n))]) (S1 := [.ref q9]) (ws1 := wTp g r qn qt qv kn kt kv sc ns tx tn pl) rfl rfl rfl ?_
  refine j_astore (L1 := [(4, .ref q9), (0, .ref (r 0)), (1, .int (iI b)), (2, .int (iI f)), (3, .int (iI n))]) C dL_rise_13 (by decide) rfl ?_
  refine j_ldc (x := -900000001) C qw306 (by decide) dL_rise_15 ?_
  exact j_iret C hr hlk dL_rise_17 ⟨rfl, rfl⟩ (by decide) (by decide)
theorem yw_L_types : YW yL_types RL cL_types 3 (some FieldType.int) [(0, 5, 6, 18), (0, 5, 10, 28)] 2 := ⟨qw556, qw0, qw557, rfl, ⟨by decide +kernel, by decide +kernel⟩, by decide +kernel⟩
theorem w_types (l : Launch) (g : Gh) (r : Nat → Nat) (qn qt : Nat → Nat) (qv : Nat → Nat → Nat) (kn kt : Nat → Nat → Int) (kv : Nat → Nat → Nat → Int) (sc : Int) (ns : Nat) (tx : Nat → Int) (tn : Nat) (pl : Int) (v : Int) (hT : TOK kn kv sc ns tx tn) (hv : 0 ≤ v ∧ v ≤ 127) (hn9 : tn < 60) : CW l g yL_types cL_types 3 (some FieldType.int) [(0, 5, 6, 18), (0, 5, 10, 28)] ({ frames := 2, cells := 0, slots := 0, locals := 43 }) [.ref (r 0), .int (iI v)] (wTp g r qn qt qv kn kt kv sc ns tx tn pl) (PE (some (.int (iI ((tn : Int) + 1)))) (wTp g r qn qt qv kn kt kv sc ns (va_up tx tn v) (tn + 1) pl)) := by
  refine CW.intro (L0 := [(0, .ref (r 0)), (1, .int (iI v))]) (own := RL) (by decide) rfl (Nat.le_of_ble_eq_true rfl) rfl ?_
  intro pX eX sX mX argsX belowX methX cX A C hr hlk hnt
  refine J.vx ?_
  refine j_aload_n C 0 dL_types_0 rfl rfl ?_
  refine j_iload_n C 1 dL_types_1 rfl rfl ?_
  refine j_callV (As := [.int (iI v)]) (rest := []) C yv_X4_append qw558 (c_X4_append l g r qn qt qv kn kt kv sc ns tx tn pl v hT hv hn9) (by decide) 0 rfl rfl rfl dL_types_2 rfl (Nat.le_of_ble_eq_true rfl) (by decide) pf0 rfl (fun r9 w9 hq9 => ?_)
  obtain ⟨rfl, rfl⟩ := hq9
  refine J.to (L1 := [(0, .ref (r 0)), (1, .int (iI v))]) (S1 := [.int (iI (((tn : Int) + 1)))]) (ws1 := wTp g r qn qt qv kn kt kv sc ns (va_up tx tn v) (tn + 1) pl) rfl rfl rfl ?_
  exact j_iret C hr hlk dL_types_5 ⟨rfl, rfl⟩ (by decide) (by decide)
theorem w_types_x1 (l : Launch) (hl : l.stackTraces = false) (g : Gh) (r : Nat → Nat) (qn qt : Nat → Nat) (qv : Nat → Nat → Nat) (kn kt : Nat → Nat → Int) (kv : Nat → Nat → Nat → Int) (sc : Int) (ns : Nat) (tx : Nat → Int) (tn : Nat) (pl : Int) (v : Int) (hT : TOK kn kv sc ns tx tn) (hrv : -2147483648 ≤ v ∧ v < 2147483648) (hv : v < 0 ∨ 127 < v) : CW l g yL_types cL_types 3 (some FieldType.int) [(0, 5, 6, 18), (0, 5, 10, 28)] ({ frames := 8, cells := 1, slots := 6, locals := 143 }) [.ref (r 0), .int (iI v)] (wTp g r qn qt qv kn kt kv sc ns tx tn pl) (PE (some (.int (iI (-900000001)))) (wTp g r qn qt qv kn kt kv sc ns tx tn pl)) := by
  refine CW.intro (L0 := [(0, .ref (r 0)), (1, .int (iI v))]) (own := RL) (by decide) rfl (Nat.le_of_ble_eq_true rfl) rfl ?_
  intro pX eX sX mX argsX belowX methX cX A C hr hlk hnt
  refine J.vx ?_
  refine j_aload_n C 0 dL_types_0 rfl rfl ?_
  refine j_iload_n C 1 dL_types_1 rfl rfl ?_
  refine j_callVC (As := [.int (iI v)]) (rest := []) C yv_X4_append qw558 (x_X4_append_1 l hl g r qn qt qv kn kt kv sc ns tx tn pl v hT hrv hv) (by decide) 0 rfl rfl rfl dL_types_2 rfl (Nat.le_of_ble_eq_true rfl) (by decide) pf0 rfl (name := "java/lang/IllegalArgumentException") [] [⟨0, 5, 10, 28⟩] ⟨0, 5, 6, 18⟩ hnt (fun z hz => absurd hz List.not_mem_nil) (by decide) (by decide) qw161 qn246 (fun w9 q9 hq9 => ?_)
  subst hq9
  refine J.to (L1 := [(0, .ref (r 0)), (1, .int (iI v))]) (S1 := [.ref q9]) (ws1 := wTp g r qn qt qv kn kt kv sc ns tx tn pl) rfl rfl rfl ?_
  refine j_astore_n (L1 := [(2, .ref q9), (0, .ref (r 0)), (1, .int (iI v))]) C dL_types_6 rfl (by decide) rfl ?_
  refine j_ldc (x := -900000001) C qw306 (by decide) dL_types_7 ?_
  exact j_iret C hr hlk dL_types_9 ⟨rfl, rfl⟩ (by decide) (by decide)
theorem w_types_x2 (l : Launch) (hl : l.stackTraces = false) (g : Gh) (r : Nat → Nat) (qn qt : Nat → Nat) (qv : Nat → Nat → Nat) (kn kt : Nat → Nat → Int) (kv : Nat → Nat → Nat → Int) (sc : Int) (ns : Nat) (tx : Nat → Int) (tn : Nat) (pl : Int) (v : Int) (hT : TOK kn kv sc ns tx tn) (hv : 0 ≤ v ∧ v ≤ 127) (hn9 : tn = 60) : CW l g yL_types cL_types 3 (some FieldType.int) [(0, 5, 6, 18), (0, 5, 10, 28)] ({ frames := 8, cells := 1, slots := 6, locals := 143 }) [.ref (r 0), .int (iI v)] (wTp g r qn qt qv kn kt kv sc ns tx tn pl) (PE (some (.int (iI (-900000002)))) (wTp g r qn qt qv kn kt kv sc ns tx tn pl)) := by
  refine CW.intro (L0 := [(0, .ref (r 0)), (1, .int (iI v))]) (own := RL) (by decide) rfl (Nat.le_of_ble_eq_true rfl) rfl ?_
  intro pX eX sX mX argsX belowX methX cX A C hr hlk hnt
  refine J.vx ?_
  refine j_aload_n C 0 dL_types_0 rfl rfl ?_
  refine j_iload_n C 1 dL_types_1 rfl rfl ?_
  refine j_callVC (As := [.int (iI v)]) (rest := []) C yv_X4_append qw558 (x_X4_append_2 l hl g r qn qt qv kn kt kv sc ns tx tn pl v hT hv hn9) (by decide) 0 rfl rfl rfl dL_types_2 rfl (Nat.le_of_ble_eq_true rfl) (by decide) pf0 rfl (name := "java/lang/IllegalStateException") [⟨0, 5, 6, 18⟩] [] ⟨0, 5, 10, 28⟩ hnt (fun z hz => by rcases List.mem_singleton.mp hz with rfl; exact Or.inr ⟨by decide, "java/lang/IllegalArgumentException", C.2.2.2.2.1 _ qw161, C.2.2.2.2.2.1.2.2.1 ("java/lang/IllegalStateException", "java/lang/IllegalArgumentException") (List.mem_of_getElem? (i := 2) rfl)⟩) (by decide) (by decide) qw317 qn349 (fun w9 q9 hq9 => ?_)
  subst hq9
  refine J.to (L1 := [(0, .ref (r 0)), (1, .int (iI v))]) (S1 := [.ref q9]) (ws1 := wTp g r qn qt qv kn kt kv sc ns tx tn pl) rfl rfl rfl ?_
  refine j_astore_n (L1 := [(2, .ref q9), (0, .ref (r 0)), (1, .int (iI v))]) C dL_types_10 rfl (by decide) rfl ?_
  refine j_ldc (x := -900000002) C qw367 (by decide) dL_types_11 ?_
  exact j_iret C hr hlk dL_types_13 ⟨rfl, rfl⟩ (by decide) (by decide)
theorem yw_L_back : YW yL_back RL cL_back 2 (some FieldType.int) [(0, 4, 5, 28)] 1 := ⟨qw431, qw0, qw432, rfl, ⟨by decide +kernel, by decide +kernel⟩, by decide +kernel⟩
theorem w_back (l : Launch) (g : Gh) (r : Nat → Nat) (qn qt : Nat → Nat) (qv : Nat → Nat → Nat) (kn kt : Nat → Nat → Int) (kv : Nat → Nat → Nat → Int) (sc : Int) (ns : Nat) (tx : Nat → Int) (tn : Nat) (pl : Int) (hsc : 0 < sc ∧ sc ≤ 4) (hns : ns < 4) : CW l g yL_back cL_back 2 (some FieldType.int) [(0, 4, 5, 28)] ({ frames := 4, cells := 0, slots := 0, locals := 85 }) [.ref (r 0)] (wTp g r qn qt qv kn kt kv sc ns tx tn pl) (PE (some (.int (iI (sc - 1)))) (wTp g r qn qt qv (cpS (kv ((ns + 3) % 4)) kn) kt kv (sc - 1) ((ns + 3) % 4) tx tn pl)) := by
  refine CW.intro (L0 := [(0, .ref (r 0))]) (own := RL) (by decide) rfl (Nat.le_of_ble_eq_true rfl) rfl ?_
  intro pX eX sX mX argsX belowX methX cX A C hr hlk hnt
  refine J.vx ?_
  refine j_aload_n C 0 dL_back_0 rfl rfl ?_
  refine j_callV (As := []) (rest := []) C yv_X4_undo qw433 (c_X4_undo l g r qn qt qv kn kt kv sc ns tx tn pl hsc hns) (by decide) 0 rfl rfl rfl dL_back_1 rfl (Nat.le_of_ble_eq_true rfl) (by decide) pf0 rfl (fun r9 w9 hq9 => ?_)
  obtain ⟨rfl, rfl⟩ := hq9
  refine J.to (L1 := [(0, .ref (r 0))]) (S1 := [.int (iI ((sc - 1)))]) (ws1 := wTp g r qn qt qv (cpS (kv ((ns + 3) % 4)) kn) kt kv (sc - 1) ((ns + 3) % 4) tx tn pl) rfl rfl rfl ?_
  exact j_iret C hr hlk dL_back_4 ⟨rfl, rfl⟩ (by decide) (by decide)
theorem w_back_x1 (l : Launch) (hl : l.stackTraces = false) (g : Gh) (r : Nat → Nat) (qn qt : Nat → Nat) (qv : Nat → Nat → Nat) (kn kt : Nat → Nat → Int) (kv : Nat → Nat → Nat → Int) (sc : Int) (ns : Nat) (tx : Nat → Int) (tn : Nat) (pl : Int) (hT : TOK kn kv sc ns tx tn) (hs0 : sc = 0) : CW l g yL_back cL_back 2 (some FieldType.int) [(0, 4, 5, 28)] ({ frames := 7, cells := 1, slots := 6, locals := 121 }) [.ref (r 0)] (wTp g r qn qt qv kn kt kv sc ns tx tn pl) (PE (some (.int (iI (-900000002)))) (wTp g r qn qt qv kn kt kv sc ns tx tn pl)) := by
  refine CW.intro (L0 := [(0, .ref (r 0))]) (own := RL) (by decide) rfl (Nat.le_of_ble_eq_true rfl) rfl ?_
  intro pX eX sX mX argsX belowX methX cX A C hr hlk hnt
  refine J.vx ?_
  refine j_aload_n C 0 dL_back_0 rfl rfl ?_
  refine j_callVC (As := []) (rest := []) C yv_X4_undo qw433 (x_X4_undo_1 l hl g r qn qt qv kn kt kv sc ns tx tn pl hT hs0) (by decide) 0 rfl rfl rfl dL_back_1 rfl (Nat.le_of_ble_eq_true rfl) (by decide) pf0 rfl (name := "java/lang/IllegalStateException") [] [] ⟨0, 4, 5, 28⟩ hnt (fun z hz => absurd hz List.not_mem_nil) (by decide) (by decide) qw317 qn349 (fun w9 q9 hq9 => ?_)
  subst hq9
  refine J.to (L1 := [(0, .ref (r 0))]) (S1 := [.ref q9]) (ws1 := wTp g r qn qt qv kn kt kv sc ns tx tn pl) rfl rfl rfl ?_
  refine j_astore_n (L1 := [(1, .ref q9), (0, .ref (r 0))]) C dL_back_5 rfl (by decide) rfl ?_
  refine j_ldc (x := -900000002) C qw367 (by decide) dL_back_6 ?_
  exact j_iret C hr hlk dL_back_8 ⟨rfl, rfl⟩ (by decide) (by decide)
theorem c_L_low (l : Launch) (g : Gh) (x n : Int) (hx : -2147483648 ≤ x ∧ x < 2147483648) (hn : 0 < n ∧ n < 2147483648) : CT l g yL_low cL_low 2 (some .int) ({ frames := 0, cells := 0, slots := 0, locals := 0 }) [.int (iI x), .int (iI n)] [] (PE (some (.int (iI (lwF x n)))) []) := by
  refine CT.intro (L0 := [(0, .int (iI x)), (1, .int (iI n))]) (own := RL) (by decide) rfl (Nat.le_of_ble_eq_true rfl) rfl ?_
  intro pX eX sX mX argsX belowX methX cX A C hr hlk
  have h1 := and_nn (iI x)
  have h2 := rng32 (iI x &&& iI 2147483647)
  refine j_iload_n C 0 dL_low_0 rfl rfl ?_
  refine j_ldc (x := 2147483647) C qw156 (by decide) dL_low_1 ?_
  refine j_iand C dL_low_3 ?_
  refine j_iload_n C 1 dL_low_4 rfl rfl ?_
  refine j_irem C h2 hn dL_low_5 ?_
  refine J.to (L1 := [(0, .int (iI x)), (1, .int (iI n))]) (S1 := [.int (iI (lwF x n))]) (ws1 := []) rfl rfl (by rw [tmod_pos h1]; rfl) ?_
  exact j_iret C hr hlk dL_low_6 ⟨rfl, rfl⟩ (by decide) (by decide)
/-- a method's start, the script beside the (empty) world -/
def PC (g : Gh) (b n0 : Nat) (xs : Nat → Int32) (sz : Nat) (U : State) : Prop := PU g [] sz U ∧ va_X b n0 xs U U.heap ∧ b < sz
theorem PC.blind {g : Gh} {av : List Value} {b n0 : Nat} {xs : Nat → Int32} {sz : Nat} : FrameBlind (va_Pc av (PC g b n0 xs sz)) := fun a U gg mk ⟨h0, h1, h2, h3⟩ =>
  ⟨h0, (PU.blind (av := av) a U gg mk ⟨h0, h1⟩).2, va_X.moved (u := U) (U := U.calling gg mk a) (Vm.Alike.refl U.vm) h2, h3⟩
theorem c_L_cell (l : Launch) (g : Gh) (b n0 : Nat) (xs : Nat → Int32) (hn0 : n0 ≤ 260) (k : Int) (hk : 0 ≤ k ∧ k ≤ 1000) (sz : Nat) : Met l yL_cell (Cond.code yL_cell cL_cell 3 (some .int) :: wAll) { frames := 0, cells := 0, slots := 0, locals := 0 } (va_Pc [.ref b, .int (iI k)] (PC g b n0 xs sz)) (QE g (va_A [] sz) (fun r9 w9 => ∃ z : Int, (-2147483648 ≤ z ∧ z < 2147483648) ∧ r9 = some (.int (iI z)) ∧ w9 = [])) 0 0 (va_A [] sz) := by
  refine Met.ofW (cc := cL_cell) (maxL := 3) (ret := some .int) (by decide) rfl ?_
  intro p e s m args below meth c s₁ B hml hv
  obtain ⟨rfl, ⟨hsz, hP, hK, hD0, hN, hX⟩, hsX, hbl⟩ := hv
  subst hsz
  have hts := atoms_spec (ws := Cond.code yL_cell cL_cell 3 (some .int) :: wAll) B.pre
  have C : Cx p g s m [Value.ref b, .int (iI k)].toArray c cL_cell 3 RL (va_A [] s.heap.size) := ⟨B.exec, B.bytes, hml, findClass_of_methodNamed B.named, fun w h => hts w (List.mem_cons_of_mem _ h), hN, hK, fun q h => Or.inr h, hX⟩
  have hbA : ¬ va_A [] s.heap.size b := fun h => by
    rcases h with ⟨k9, e9, h9⟩ | h9
    · simp at h9
    · omega
  have hl := lv_entry [Value.ref b, .int (iI k)] (n := 3) (Nat.le_of_ble_eq_true rfl)
  rw [lg_entry_eq]
  have fin : ∀ (v : Int), J p l e { frames := 0, cells := 0, slots := 0, locals := 0 } s m [Value.ref b, .int (iI k)].toArray below meth c g (va_A [] s.heap.size) 3 18 [(0, .ref b), (1, .int (iI k))] [.int (iI v)] [] 0 0 (MQ below (QE g (va_A [] s.heap.size) (fun r9 w9 => ∃ z : Int, (-2147483648 ≤ z ∧ z < 2147483648) ∧ r9 = some (.int (iI z)) ∧ w9 = [])) [Value.ref b, .int (iI k)].toArray s 0 0 (va_A [] s.heap.size)) := by
    intro v
    refine j_istore_n (L1 := [(2, .int (iI v)), (0, .ref b), (1, .int (iI k))]) C dL_cell_18 rfl (by decide) rfl ?_
    refine j_iload_n C 0 dL_cell_19 rfl rfl ?_
    refine j_iload_n C 0 dL_cell_20 rfl rfl ?_
    refine j_bipush C dL_cell_21 (by decide) ?_
    refine j_iushrA C dL_cell_23 (fun z => ?_)
    refine j_ixorA C dL_cell_24 (fun z hz => ?_)
    exact j_iret C B.returns B.notSynchronized dL_cell_25 ⟨z, hz, rfl, rfl⟩ (by decide) (by decide)
  have go : J p l e { frames := 0, cells := 0, slots := 0, locals := 0 } s m [Value.ref b, .int (iI k)].toArray below meth c g (va_A [] s.heap.size) 3 0 [(0, .ref b), (1, .int (iI k))] [] [] 0 0 (MQ below (QE g (va_A [] s.heap.size) (fun r9 w9 => ∃ z : Int, (-2147483648 ≤ z ∧ z < 2147483648) ∧ r9 = some (.int (iI z)) ∧ w9 = [])) [Value.ref b, .int (iI k)].toArray s 0 0 (va_A [] s.heap.size)) := by
    refine j_iload_n C 1 dL_cell_0 rfl rfl ?_
    refine j_aload_n C 0 dL_cell_1 rfl rfl ?_
    refine j_slen C hsX hbl hbA dL_cell_2 ?_
    refine j_icmp_ge (tgt := 12) C (by omega) (by omega) dL_cell_3 (by decide) (fun c3 => ?_) (fun c3 => ?_)
    · refine j_ldc (x := 916318735) C qw152 (by decide) dL_cell_12 ?_
      refine j_iload_n C 1 dL_cell_14 rfl rfl ?_
      refine j_iconst C dL_cell_15 ?_
      refine j_iadd C dL_cell_16 ?_
      refine j_imul C dL_cell_17 ?_
      exact fin _
    · refine j_aload_n C 0 dL_cell_6 rfl rfl ?_
      refine j_iload_n C 1 dL_cell_7 rfl rfl ?_
      refine j_sld C hsX hbl hbA k.toNat (by omega) (by omega) (by omega) dL_cell_8 (fun z => ?_)
      refine j_goto (tgt := 18) C dL_cell_9 (by decide) ?_
      exact fin z
  exact go s.heap [] _ hP (hD0.self (sz := s.heap.size)) va_S.rf hl
section JCL
variable {p : Program} {l : Launch} {e : Env} {R : Room} {s : State} {m : MethodId} {args : Array Value} {below : List Frame} {meth : Method} {c : Code} {g : Gh} {A : Nat → Prop} {cc : ByteArray} {nL : Nat} {own : String} {pc : Nat} {L : List (Nat × Value)} {S : List Value} {ws : va_W} {cells slots : Nat} {Q : State → Prop}
/-- the law's call of cell -/
theorem j_callCell (C : Cx p g s m args c cc nL own A) {b n0 index : Nat} {xs : Nat → Int32} {k : Int} (hX : va_X b n0 xs s s.heap) (hbl : b < s.heap.size) (hbA : ¬ A b) (hn0 : n0 ≤ 260) (hk : 0 ≤ k ∧ k ≤ 1000) (hw : Cond.methodLink own index yL_cell ∈ wAll) (hR : 1 ≤ R.frames ∧ 22 ≤ R.locals) (hc : cells ≤ R.cells ∧ slots ≤ R.slots) (hd : decode cc pc = .ok (.invokestatic index, 3)) {rest : List Value} (hsum : (rest.map fun v => v.category).sum ≤ 8) (kk : ∀ z : Int, (-2147483648 ≤ z ∧ z < 2147483648) → J p l e R s m args below meth c g A nL (pc + 3) L (.int (iI z) :: rest) ws cells slots Q) : J p l e R s m args below meth c g A nL pc L (.int (iI k) :: .ref b :: rest) ws cells slots Q := by
  obtain ⟨y1, y3, y4, y5, y6, y7⟩ := ys_L_cell
  refine j_run (mc := 0) (ms := 0) (wc := []) (wr := ws) (F := fun w => w ++ ws) (Post := fun r9 w9 => ∃ z : Int, (-2147483648 ≤ z ∧ z < 2147483648) ∧ r9 = some (.int (iI z)) ∧ w9 = []) (a9 := [Value.ref b, .int (iI k)].toArray) (rest := rest) C (fun w => List.Perm.refl _) rfl (fun H locs ls hP hD hS hsz => ?_) (fun r9 w9 h9 => ?_)
  · refine va_runS (As := [Value.ref b, .int (iI k)]) (rest := rest) ⟨C.1, C.2.1, C.2.2.1, C.2.2.2.1, C.2.2.2.2.1⟩ (c_L_cell l g b n0 xs hn0 k hk H.size) ⟨callB_of (Ts := wAll) 2 C.2.2.2.2.1 (gW y4) rfl rfl rfl (C.2.2.2.2.1 _ y3) (C.2.2.2.2.1 _ hw) ⟨y6.1, y6.2, y7⟩ ⟨by show 0 + 1 ≤ _; omega, by show 8 + (3 + 11) + 0 ≤ _; omega⟩, C.2.2.2.2.1 _ y1⟩ ⟨PC.blind, fun U hU hW => ?_⟩ rfl rfl hsz rfl (lv_room hsum) hd ⟨by show cells + 0 ≤ _; omega, by show slots + 0 ≤ _; omega⟩
    obtain ⟨h1, h2⟩ := (jPre (wc := []) (wr := ws) C hP hD hS [Value.ref b, .int (iI k)]).1 U hU hW
    refine ⟨h1, h2, ?_, Nat.lt_of_lt_of_le hbl hS.1⟩
    rw [hU]
    exact va_X.kept (va_X.moved hW.alike hX) (hS.2.1 b hbl hbA)
  · obtain ⟨z, hz, rfl, rfl⟩ := h9
    exact kk z hz
end JCL
