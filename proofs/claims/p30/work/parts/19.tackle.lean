/-! RopeTackle: checks, save, acceptTrial -/
section JTW
variable {p : Program} {l : Launch} {e : Env} {R : Room} {s : State} {m : MethodId} {args : Array Value} {below : List Frame} {meth : Method} {c : Code} {g : Gh} {A : Nat → Prop} {cc : ByteArray} {nL : Nat} {own : String} {pc : Nat} {L : List (Nat × Value)} {S : List Value} {ws : va_W} {cells slots : Nat} {Q : State → Prop}
theorem j_throwW (C : Cx p g s m args c cc nL "RopeTackle" A) (hl : l.stackTraces = false) (hlk : meth.locks = false) (hnt : ∀ x ∈ c.exceptionTable.toList, False) {ik is ic : Nat} {E text : String} {PostX : va_W → Prop} {Qc : Array Value → State → Outcome → State → Prop} {mc ms : Nat} (hw : exWords ic E) (hk : Cond.classLink "RopeTackle" ik E ∈ wAll) (hi : Cond.initialized E ∈ wAll) (hf : Bundle.fit E = true) (hst : (is, text) ∈ strL)
    (d0 : decode cc pc = .ok (.new ik, 3)) (d3 : decode cc (pc + 3) = .ok (.dup, 1)) (d4 : decode cc (pc + 4) = .ok (.ldc_w is, 3)) (d6 : decode cc (pc + 7) = .ok (.invokespecial ic, 3)) (d9 : decode cc (pc + 10) = .ok (.athrow, 1))
    (hR : 5 < R.frames ∧ (S.map fun v => v.category).sum + 82 ≤ R.locals) (hRc : cells + 1 ≤ R.cells ∧ slots + 6 ≤ R.slots) (hpo : PostX ws) (hc : cells + 1 ≤ mc ∧ slots + 6 ≤ ms) : J p l e R s m args below meth c g A nL pc L S ws cells slots (vx_MQ below Qc (XE g A E PostX) args s mc ms A) := by
  intro H locs ls hP hD hS h
  obtain ⟨sa, hsa⟩ := C.2.2.2.2.2.1.2.1 _ hst
  have hat : ∀ w ∈ vx_atS "RopeTackle" ic E ["java/lang/RuntimeException", "java/lang/Exception"], w.before args s = true := by
    intro w h9
    obtain ⟨h1, h2⟩ := hw.1 w h9
    rcases h2 with h2 | h2
    · exact C.2.2.2.2.1 w (List.mem_filter.mpr ⟨tbl_in h1, h2⟩)
    · exact va_Nw.use (by cases w <;> first | rfl | (simp [isNest] at h2; done)) (C.2.2.2.2.2.1.1 w h1 h2)
  refine vx_throwSW (names := ["java/lang/RuntimeException", "java/lang/Exception"]) (A := A) C.1 C.2.1 hl C.2.2.2.1 hf (by decide +kernel) (C.2.2.2.2.1 _ hk) (C.2.2.2.2.1 _ hi) hsa hat ?_ C.2.2.2.2.2.2.2.2.1 C.2.2.2.2.2.2.2.2.2 hS (h.1.trans C.2.2.1.symm) d0 d3 d4 d6 d9 (fun x hx => (hnt x hx).elim) hR.1 hR.2 hRc.1 hRc.2 hlk ?_ hS.2.2 hc.1 hc.2
  · intro w h9
    rcases List.mem_cons.mp h9 with rfl | h9
    · rfl
    · rcases List.mem_cons.mp h9 with rfl | h9
      · rfl
      · exact hw.2 w h9
  · intro t hvm hsz hkeep
    refine ⟨rfl, ⟨ws, hpo, hP.kept (fun k q hq => hkeep q.1 ((hP k q hq).lt)), hD⟩, Nat.le_trans hS.1 hsz, fun q h1 h2 => ?_⟩
    rw [hkeep q (Nat.lt_of_lt_of_le h1 hS.1)]
    exact hS.2.1 q h1 h2
end JTW
theorem c_X4_checkBlock (l : Launch) (g : Gh) (b : Int) (hb4 : 0 ≤ b ∧ b < 4) : CT l g yX4_checkBlock cX4_checkBlock 1 none ({ frames := 1, cells := 0, slots := 0, locals := 20 }) [.int (iI b)] [] (PE none []) := by
  refine CT.intro (L0 := [(0, .int (iI b))]) (own := RX4) (by decide) rfl (Nat.le_of_ble_eq_true rfl) rfl ?_
  intro pX eX sX mX argsX belowX methX cX A C hr hlk
  refine j_iload_n C 0 dX4_checkBlock_0 rfl rfl ?_
  refine j_callS (As := [.int (iI b)]) (rest := []) C ys_X4_isBlock qw169 (c_X4_isBlock_t l g b (by omega)) (by decide) rfl dX4_checkBlock_1 rfl (Nat.le_of_ble_eq_true rfl) (by decide) (pf1 [] []) rfl (fun r9 w9 hq9 => ?_)
  obtain ⟨rfl, rfl⟩ := hq9
  refine J.to (L1 := [(0, .int (iI b))]) (S1 := [.int (iI 1)]) (ws1 := []) rfl rfl rfl ?_
  refine j_if_ne (tgt := 18) C (by decide) dX4_checkBlock_4 (by decide) (fun c4 => ?_) (fun c4 => absurd c4 (by decide))
  exact j_vret C hr hlk dX4_checkBlock_18 ⟨rfl, rfl⟩ (by decide) (by decide)

theorem x_X4_checkBlock_no (l : Launch) (hl : l.stackTraces = false) (g : Gh) (b : Int) (hr : -2147483648 ≤ b ∧ b < 2147483648) (hb4 : b < 0 ∨ 4 ≤ b) : CX l g yX4_checkBlock cX4_checkBlock 1 none ({ frames := 6, cells := 1, slots := 6, locals := 100 }) [.int (iI b)] [] "java/lang/IndexOutOfBoundsException" (fun w9 => w9 = []) := by
  refine CX.intro (L0 := [(0, .int (iI b))]) (own := RX4) (by decide) rfl (Nat.le_of_ble_eq_true rfl) rfl ?_
  intro pX eX sX mX argsX belowX methX cX A C hlk hnt
  refine j_iload_n C 0 dX4_checkBlock_0 rfl rfl ?_
  refine j_callS (As := [.int (iI b)]) (rest := []) C ys_X4_isBlock qw169 (c_X4_isBlock_f l g b (by omega) (by omega)) (by decide) rfl dX4_checkBlock_1 rfl (Nat.le_of_ble_eq_true rfl) (by decide) (pf1 [] []) rfl (fun r9 w9 hq9 => ?_)
  obtain ⟨rfl, rfl⟩ := hq9
  refine J.to (L1 := [(0, .int (iI b))]) (S1 := [.int (iI 0)]) (ws1 := []) rfl rfl rfl ?_
  refine j_if_ne (tgt := 18) C (by decide) dX4_checkBlock_4 (by decide) (fun c4 => absurd c4 (by decide)) (fun c4 => ?_)
  exact j_throwW C hl hlk hnt exw_IndexOutOfBoundsException qw172 qw12 (by decide +kernel) (List.mem_of_getElem? (i := 1) rfl) dX4_checkBlock_7 dX4_checkBlock_10 dX4_checkBlock_11 dX4_checkBlock_14 dX4_checkBlock_17 ⟨by decide, Nat.le_of_ble_eq_true rfl⟩ ⟨by decide, by decide⟩ rfl ⟨by decide, by decide⟩

theorem c_X4_checkRange (l : Launch) (g : Gh) (x lo hi : Int) (hr : -2147483648 ≤ x ∧ x < 2147483648) (hlo : -2147483648 ≤ lo ∧ lo < 2147483648) (hhi : -2147483648 ≤ hi ∧ hi < 2147483648) (hin : lo ≤ x ∧ x ≤ hi) : CT l g yX4_checkRange cX4_checkRange 3 none ({ frames := 0, cells := 0, slots := 0, locals := 0 }) [.int (iI x), .int (iI lo), .int (iI hi)] [] (PE none []) := by
  refine CT.intro (L0 := [(0, .int (iI x)), (1, .int (iI lo)), (2, .int (iI hi))]) (own := RX4) (by decide) rfl (Nat.le_of_ble_eq_true rfl) rfl ?_
  intro pX eX sX mX argsX belowX methX cX A C hr hlk
  refine j_iload_n C 0 dX4_checkRange_0 rfl rfl ?_
  refine j_iload_n C 1 dX4_checkRange_1 rfl rfl ?_
  refine j_icmp_lt (tgt := 10) C (by omega) (by omega) dX4_checkRange_2 (by decide) (fun c2 => absurd c2 (by omega)) (fun c2 => ?_)
  refine j_iload_n C 0 dX4_checkRange_5 rfl rfl ?_
  refine j_iload_n C 2 dX4_checkRange_6 rfl rfl ?_
  refine j_icmp_le (tgt := 21) C (by omega) (by omega) dX4_checkRange_7 (by decide) (fun c7 => ?_) (fun c7 => absurd c7 (by omega))
  exact j_vret C hr hlk dX4_checkRange_21 ⟨rfl, rfl⟩ (by decide) (by decide)

theorem x_X4_checkRange_no (l : Launch) (hl : l.stackTraces = false) (g : Gh) (x lo hi : Int) (hr : -2147483648 ≤ x ∧ x < 2147483648) (hlo : -2147483648 ≤ lo ∧ lo < 2147483648) (hhi : -2147483648 ≤ hi ∧ hi < 2147483648) (hin : x < lo ∨ hi < x) : CX l g yX4_checkRange cX4_checkRange 3 none ({ frames := 6, cells := 1, slots := 6, locals := 100 }) [.int (iI x), .int (iI lo), .int (iI hi)] [] "java/lang/IllegalArgumentException" (fun w9 => w9 = []) := by
  refine CX.intro (L0 := [(0, .int (iI x)), (1, .int (iI lo)), (2, .int (iI hi))]) (own := RX4) (by decide) rfl (Nat.le_of_ble_eq_true rfl) rfl ?_
  intro pX eX sX mX argsX belowX methX cX A C hlk hnt
  refine j_iload_n C 0 dX4_checkRange_0 rfl rfl ?_
  refine j_iload_n C 1 dX4_checkRange_1 rfl rfl ?_
  refine j_icmp_lt (tgt := 10) C (by omega) (by omega) dX4_checkRange_2 (by decide) (fun c2 => ?_) (fun c2 => ?_)
  · exact j_throwW C hl hlk hnt exw_IllegalArgumentException qw244 qw11 (by decide +kernel) (List.mem_of_getElem? (i := 3) rfl) dX4_checkRange_10 dX4_checkRange_13 dX4_checkRange_14 dX4_checkRange_17 dX4_checkRange_20 ⟨by decide, Nat.le_of_ble_eq_true rfl⟩ ⟨by decide, by decide⟩ rfl ⟨by decide, by decide⟩
  · refine j_iload_n C 0 dX4_checkRange_5 rfl rfl ?_
    refine j_iload_n C 2 dX4_checkRange_6 rfl rfl ?_
    refine j_icmp_le (tgt := 21) C (by omega) (by omega) dX4_checkRange_7 (by decide) (fun c7 => ?_) (fun c7 => ?_)
    · exact absurd hin (by omega)
    · exact j_throwW C hl hlk hnt exw_IllegalArgumentException qw244 qw11 (by decide +kernel) (List.mem_of_getElem? (i := 3) rfl) dX4_checkRange_10 dX4_checkRange_13 dX4_checkRange_14 dX4_checkRange_17 dX4_checkRange_20 ⟨by decide, Nat.le_of_ble_eq_true rfl⟩ ⟨by decide, by decide⟩ rfl ⟨by decide, by decide⟩

abbrev wS4 (g : Gh) (qv : Nat → Nat → Nat) (kv : Nat → Nat → Nat → Int) : va_W := wSt g (qv 0) (kv 0) ++ (wSt g (qv 1) (kv 1) ++ (wSt g (qv 2) (kv 2) ++ wSt g (qv 3) (kv 3)))
abbrev wTp (g : Gh) (r : Nat → Nat) (qn qt : Nat → Nat) (qv : Nat → Nat → Nat) (kn kt : Nat → Nat → Int) (kv : Nat → Nat → Nat → Int) (sc : Int) (ns : Nat) (tx : Nat → Int) (tn : Nat) (pl : Int) : va_W := ([(r 0, .inr (4, [.ref (qn 0), .ref (qt 0), .ref (r 1), .int (iI sc), .int (iI ((ns : Int))), .ref (r 2)])), (r 1, aS g 4 (fun j => some (qv j 0))), (r 2, .inr (3, [.ref (r 3), .int (iI ((tn : Int))), .int (iI pl)])), (r 3, aI g 60 tx)] ++ (wSt g qn kn ++ (wSt g qt kt ++ (wS4 g qv kv))))
/-- a tackle's numbers are in their ranges -/
def TOK (kn : Nat → Nat → Int) (kv : Nat → Nat → Nat → Int) (sc : Int) (ns : Nat) (tx : Nat → Int) (tn : Nat) : Prop := (SOK kn ∧ 0 ≤ hnd kn) ∧ (∀ j, j < 4 → SOK (kv j) ∧ 0 ≤ hnd (kv j)) ∧ (0 ≤ sc ∧ sc ≤ 4) ∧ ns < 4 ∧ tn ≤ 60 ∧ ∀ i, i < tn → 0 ≤ tx i ∧ tx i ≤ 127
/-- what save() makes of the saved states -/
def svk (kn : Nat → Nat → Int) (kv : Nat → Nat → Nat → Int) (ns : Nat) : Nat → Nat → Nat → Int := va_up kv ns (cpS kn (kv ns))
abbrev svs (sc : Int) : Int := if 4 < sc + 1 then 4 else sc + 1
abbrev svn (ns : Nat) : Nat := (ns + 1) % 4
theorem hng_nn {f : Nat → Int} {n : Nat} {E : Int} {ht : Nat → Int} (h : ∀ b, b < 4 → 0 ≤ ht b ∧ ht b ≤ 9000) : ∀ b, b ≤ 4 → 0 ≤ hng f n E ht b
  | 0, _ => Int.le_refl _
  | b + 1, hb => by
    have h1 := hng_nn (f := f) (n := n) (E := E) h b (by omega)
    have h2 := h b (by omega)
    have h3 := Int.mul_nonneg (strn_rng f n E (b : Int)).1 (show 0 ≤ 10000 - ht b by omega)
    rw [hng]
    omega
theorem hnd_le {k : Nat → Nat → Int} (hk : SOK k) : hnd k ≤ 300000 := by
  have h1 := hng_nn (f := k 1) (n := (k 0 2).toNat) (E := k 0 3) hk.2.2.2.2.2.1 4 (Nat.le_refl _)
  have h2 := hk.2.2.2.2.2.2.1
  unfold hnd
  omega
theorem cpS_cnt {k2 k : Nat → Nat → Int} (hk : SOK k2) (E b : Int) : strn (cpy 10 (k2 1) (k 1)) (k2 0 2).toNat E b = strn (k2 1) (k2 0 2).toNat E b := strn_congr fun i hi => by
  have := hk.1
  unfold cpy
  exact if_pos (by omega)
theorem SOK_cpS {k2 k : Nat → Nat → Int} (hk : SOK k2) : SOK (cpS k2 k) := by
  obtain ⟨h1, h2, h3, h4, h5, h6, h7, h8, h9⟩ := hk
  refine ⟨h1, h2, h3, fun i hi => ?_, fun b hb => ?_, fun b hb => ?_, h7, h8, h9⟩
  · show 0 ≤ cpy 10 (k2 1) (k 1) i ∧ cpy 10 (k2 1) (k 1) i ≤ 3
    have hi2 : (i : Int) < k2 0 2 := hi
    unfold cpy
    rw [if_pos (by omega)]
    exact h4 i hi2
  · show 0 ≤ cpy 4 (k2 3) (k 3) b ∧ cpy 4 (k2 3) (k 3) b ≤ 50000
    unfold cpy
    rw [if_pos hb]
    exact h5 b hb
  · show 0 ≤ cpy 4 (k2 4) (k 4) b ∧ cpy 4 (k2 4) (k 4) b ≤ 9000
    unfold cpy
    rw [if_pos hb]
    exact h6 b hb
theorem hng_congr {f f' : Nat → Int} {n : Nat} {E : Int} {ht ht' : Nat → Int} (hf : ∀ i, i < n → f i = f' i) (hh : ∀ b, b < 4 → ht b = ht' b) : ∀ b, b ≤ 4 → hng f n E ht b = hng f' n E ht' b
  | 0, _ => rfl
  | b + 1, hb => by
    rw [hng, hng, hng_congr hf hh b (by omega), strn_congr hf, hh b (by omega)]
theorem hnd_cpS {k2 k : Nat → Nat → Int} (hk : SOK k2) : hnd (cpS k2 k) = hnd k2 := by
  have h1 := hk.1
  show k2 0 0 - hng (cpy 10 (k2 1) (k 1)) (k2 0 2).toNat (k2 0 3) (cpy 4 (k2 4) (k 4)) 4 = _
  rw [hng_congr (f' := k2 1) (ht' := k2 4) (fun i hi => by unfold cpy; exact if_pos (by omega)) (fun b hb => by unfold cpy; exact if_pos hb) 4 (Nat.le_refl _)]
  rfl
theorem c_X4_savedAt_0 (l : Launch) (g : Gh) (r : Nat → Nat) (a b : Nat) (sc ns : Int) (qv : Nat → Nat → Nat)  : CT l g yX4_savedAt cX4_savedAt 2 (some (FieldType.object "RopeTackle$State")) ({ frames := 0, cells := 0, slots := 0, locals := 0 }) [.ref (r 0), .int (iI 0)] [(r 0, .inr (4, [.ref a, .ref b, .ref (r 1), .int (iI sc), .int (iI ns), .ref (r 2)])), (r 1, aS g 4 (fun j => some (qv j 0)))] (PE (some (.ref (qv 0 0))) [(r 0, .inr (4, [.ref a, .ref b, .ref (r 1), .int (iI sc), .int (iI ns), .ref (r 2)])), (r 1, aS g 4 (fun j => some (qv j 0)))]) := by
  refine CT.intro (L0 := [(0, .ref (r 0)), (1, .int (iI 0))]) (own := RX4) (by decide) rfl (Nat.le_of_ble_eq_true rfl) rfl ?_
  intro pX eX sX mX argsX belowX methX cX A C hr hlk
  refine j_iload_n C 1 dX4_savedAt_0 rfl rfl ?_
  refine j_if_lt (tgt := 22) C (by decide) dX4_savedAt_1 (by decide) (fun c1 => absurd c1 (by decide)) (fun c1 => ?_)
  refine j_iload_n C 1 dX4_savedAt_4 rfl rfl ?_
  refine j_aload_n C 0 dX4_savedAt_5 rfl rfl ?_
  refine j_get C ck4 0 2 (by decide) qw132 rfl rfl dX4_savedAt_6 ?_
  refine j_aalen (n := 4) (f := fun j => some (qv j 0)) (v := 4) C 1 rfl rfl dX4_savedAt_9 ?_
  refine j_icmp_ge (tgt := 22) C (by decide) (by decide) dX4_savedAt_10 (by decide) (fun c10 => absurd c10 (by decide)) (fun c10 => ?_)
  refine j_aload_n C 0 dX4_savedAt_13 rfl rfl ?_
  refine j_get C ck4 0 2 (by decide) qw132 rfl rfl dX4_savedAt_14 ?_
  refine j_iload_n C 1 dX4_savedAt_17 rfl rfl ?_
  refine j_aald (n := 4) (f := fun j => some (qv j 0)) (b := qv 0 0) C 1 0 rfl rfl (by decide) (by decide) rfl dX4_savedAt_18 ?_
  refine j_goto (tgt := 23) C dX4_savedAt_19 (by decide) ?_
  exact j_aret C hr hlk dX4_savedAt_23 ⟨rfl, rfl⟩ (by decide) (by decide)

theorem c_X4_savedAt_1 (l : Launch) (g : Gh) (r : Nat → Nat) (a b : Nat) (sc ns : Int) (qv : Nat → Nat → Nat)  : CT l g yX4_savedAt cX4_savedAt 2 (some (FieldType.object "RopeTackle$State")) ({ frames := 0, cells := 0, slots := 0, locals := 0 }) [.ref (r 0), .int (iI 1)] [(r 0, .inr (4, [.ref a, .ref b, .ref (r 1), .int (iI sc), .int (iI ns), .ref (r 2)])), (r 1, aS g 4 (fun j => some (qv j 0)))] (PE (some (.ref (qv 1 0))) [(r 0, .inr (4, [.ref a, .ref b, .ref (r 1), .int (iI sc), .int (iI ns), .ref (r 2)])), (r 1, aS g 4 (fun j => some (qv j 0)))]) := by
  refine CT.intro (L0 := [(0, .ref (r 0)), (1, .int (iI 1))]) (own := RX4) (by decide) rfl (Nat.le_of_ble_eq_true rfl) rfl ?_
  intro pX eX sX mX argsX belowX methX cX A C hr hlk
  refine j_iload_n C 1 dX4_savedAt_0 rfl rfl ?_
  refine j_if_lt (tgt := 22) C (by decide) dX4_savedAt_1 (by decide) (fun c1 => absurd c1 (by decide)) (fun c1 => ?_)
  refine j_iload_n C 1 dX4_savedAt_4 rfl rfl ?_
  refine j_aload_n C 0 dX4_savedAt_5 rfl rfl ?_
  refine j_get C ck4 0 2 (by decide) qw132 rfl rfl dX4_savedAt_6 ?_
  refine j_aalen (n := 4) (f := fun j => some (qv j 0)) (v := 4) C 1 rfl rfl dX4_savedAt_9 ?_
  refine j_icmp_ge (tgt := 22) C (by decide) (by decide) dX4_savedAt_10 (by decide) (fun c10 => absurd c10 (by decide)) (fun c10 => ?_)
  refine j_aload_n C 0 dX4_savedAt_13 rfl rfl ?_
  refine j_get C ck4 0 2 (by decide) qw132 rfl rfl dX4_savedAt_14 ?_
  refine j_iload_n C 1 dX4_savedAt_17 rfl rfl ?_
  refine j_aald (n := 4) (f := fun j => some (qv j 0)) (b := qv 1 0) C 1 1 rfl rfl (by decide) (by decide) rfl dX4_savedAt_18 ?_
  refine j_goto (tgt := 23) C dX4_savedAt_19 (by decide) ?_
  exact j_aret C hr hlk dX4_savedAt_23 ⟨rfl, rfl⟩ (by decide) (by decide)

theorem c_X4_savedAt_2 (l : Launch) (g : Gh) (r : Nat → Nat) (a b : Nat) (sc ns : Int) (qv : Nat → Nat → Nat)  : CT l g yX4_savedAt cX4_savedAt 2 (some (FieldType.object "RopeTackle$State")) ({ frames := 0, cells := 0, slots := 0, locals := 0 }) [.ref (r 0), .int (iI 2)] [(r 0, .inr (4, [.ref a, .ref b, .ref (r 1), .int (iI sc), .int (iI ns), .ref (r 2)])), (r 1, aS g 4 (fun j => some (qv j 0)))] (PE (some (.ref (qv 2 0))) [(r 0, .inr (4, [.ref a, .ref b, .ref (r 1), .int (iI sc), .int (iI ns), .ref (r 2)])), (r 1, aS g 4 (fun j => some (qv j 0)))]) := by
  refine CT.intro (L0 := [(0, .ref (r 0)), (1, .int (iI 2))]) (own := RX4) (by decide) rfl (Nat.le_of_ble_eq_true rfl) rfl ?_
  intro pX eX sX mX argsX belowX methX cX A C hr hlk
  refine j_iload_n C 1 dX4_savedAt_0 rfl rfl ?_
  refine j_if_lt (tgt := 22) C (by decide) dX4_savedAt_1 (by decide) (fun c1 => absurd c1 (by decide)) (fun c1 => ?_)
  refine j_iload_n C 1 dX4_savedAt_4 rfl rfl ?_
  refine j_aload_n C 0 dX4_savedAt_5 rfl rfl ?_
  refine j_get C ck4 0 2 (by decide) qw132 rfl rfl dX4_savedAt_6 ?_
  refine j_aalen (n := 4) (f := fun j => some (qv j 0)) (v := 4) C 1 rfl rfl dX4_savedAt_9 ?_
  refine j_icmp_ge (tgt := 22) C (by decide) (by decide) dX4_savedAt_10 (by decide) (fun c10 => absurd c10 (by decide)) (fun c10 => ?_)
  refine j_aload_n C 0 dX4_savedAt_13 rfl rfl ?_
  refine j_get C ck4 0 2 (by decide) qw132 rfl rfl dX4_savedAt_14 ?_
  refine j_iload_n C 1 dX4_savedAt_17 rfl rfl ?_
  refine j_aald (n := 4) (f := fun j => some (qv j 0)) (b := qv 2 0) C 1 2 rfl rfl (by decide) (by decide) rfl dX4_savedAt_18 ?_
  refine j_goto (tgt := 23) C dX4_savedAt_19 (by decide) ?_
  exact j_aret C hr hlk dX4_savedAt_23 ⟨rfl, rfl⟩ (by decide) (by decide)

theorem c_X4_savedAt_3 (l : Launch) (g : Gh) (r : Nat → Nat) (a b : Nat) (sc ns : Int) (qv : Nat → Nat → Nat)  : CT l g yX4_savedAt cX4_savedAt 2 (some (FieldType.object "RopeTackle$State")) ({ frames := 0, cells := 0, slots := 0, locals := 0 }) [.ref (r 0), .int (iI 3)] [(r 0, .inr (4, [.ref a, .ref b, .ref (r 1), .int (iI sc), .int (iI ns), .ref (r 2)])), (r 1, aS g 4 (fun j => some (qv j 0)))] (PE (some (.ref (qv 3 0))) [(r 0, .inr (4, [.ref a, .ref b, .ref (r 1), .int (iI sc), .int (iI ns), .ref (r 2)])), (r 1, aS g 4 (fun j => some (qv j 0)))]) := by
  refine CT.intro (L0 := [(0, .ref (r 0)), (1, .int (iI 3))]) (own := RX4) (by decide) rfl (Nat.le_of_ble_eq_true rfl) rfl ?_
  intro pX eX sX mX argsX belowX methX cX A C hr hlk
  refine j_iload_n C 1 dX4_savedAt_0 rfl rfl ?_
  refine j_if_lt (tgt := 22) C (by decide) dX4_savedAt_1 (by decide) (fun c1 => absurd c1 (by decide)) (fun c1 => ?_)
  refine j_iload_n C 1 dX4_savedAt_4 rfl rfl ?_
  refine j_aload_n C 0 dX4_savedAt_5 rfl rfl ?_
  refine j_get C ck4 0 2 (by decide) qw132 rfl rfl dX4_savedAt_6 ?_
  refine j_aalen (n := 4) (f := fun j => some (qv j 0)) (v := 4) C 1 rfl rfl dX4_savedAt_9 ?_
  refine j_icmp_ge (tgt := 22) C (by decide) (by decide) dX4_savedAt_10 (by decide) (fun c10 => absurd c10 (by decide)) (fun c10 => ?_)
  refine j_aload_n C 0 dX4_savedAt_13 rfl rfl ?_
  refine j_get C ck4 0 2 (by decide) qw132 rfl rfl dX4_savedAt_14 ?_
  refine j_iload_n C 1 dX4_savedAt_17 rfl rfl ?_
  refine j_aald (n := 4) (f := fun j => some (qv j 0)) (b := qv 3 0) C 1 3 rfl rfl (by decide) (by decide) rfl dX4_savedAt_18 ?_
  refine j_goto (tgt := 23) C dX4_savedAt_19 (by decide) ?_
  exact j_aret C hr hlk dX4_savedAt_23 ⟨rfl, rfl⟩ (by decide) (by decide)

theorem c_X4_save_0 (l : Launch) (g : Gh) (r : Nat → Nat) (qn qt : Nat → Nat) (qv : Nat → Nat → Nat) (kn kt : Nat → Nat → Int) (kv : Nat → Nat → Nat → Int) (sc : Int) (tx : Nat → Int) (tn : Nat) (pl : Int) (hsc : 0 ≤ sc ∧ sc ≤ 4) : CT l g yX4_save cX4_save 2 none ({ frames := 3, cells := 0, slots := 0, locals := 64 }) [.ref (r 0)] ([(r 0, .inr (4, [.ref (qn 0), .ref (qt 0), .ref (r 1), .int (iI sc), .int (iI 0), .ref (r 2)])), (r 1, aS g 4 (fun j => some (qv j 0))), (r 2, .inr (3, [.ref (r 3), .int (iI ((tn : Int))), .int (iI pl)])), (r 3, aI g 60 tx)] ++ (wSt g qn kn ++ (wSt g qt kt ++ (wSt g (qv 0) (kv 0) ++ (wSt g (qv 1) (kv 1) ++ (wSt g (qv 2) (kv 2) ++ (wSt g (qv 3) (kv 3)))))))) (PE none ([(r 0, .inr (4, [.ref (qn 0), .ref (qt 0), .ref (r 1), .int (iI (svs sc)), .int (iI 1), .ref (r 2)])), (r 1, aS g 4 (fun j => some (qv j 0))), (r 2, .inr (3, [.ref (r 3), .int (iI ((tn : Int))), .int (iI pl)])), (r 3, aI g 60 tx)] ++ (wSt g qn kn ++ (wSt g qt kt ++ (wS4 g qv (svk kn kv 0)))))) := by
  refine CT.intro (L0 := [(0, .ref (r 0))]) (own := RX4) (by decide) rfl (Nat.le_of_ble_eq_true rfl) rfl ?_
  intro pX eX sX mX argsX belowX methX cX A C hr hlk
  refine j_aload_n C 0 dX4_save_0 rfl rfl ?_
  refine j_aload_n C 0 dX4_save_1 rfl rfl ?_
  refine j_get C ck4 0 4 (by decide) qw134 rfl rfl dX4_save_2 ?_
  refine j_callV (As := [.int (iI 0)]) (rest := []) C yv_X4_savedAt qw264 (c_X4_savedAt_0 l g r (qn 0) (qt 0) sc 0 qv) (by decide) 0 rfl rfl rfl dX4_save_5 rfl (Nat.le_of_ble_eq_true rfl) (by decide) (pf1 [] ([(r 2, .inr (3, [.ref (r 3), .int (iI ((tn : Int))), .int (iI pl)])), (r 3, aI g 60 tx)] ++ (wSt g qn kn ++ (wSt g qt kt ++ (wSt g (qv 0) (kv 0) ++ (wSt g (qv 1) (kv 1) ++ (wSt g (qv 2) (kv 2) ++ (wSt g (qv 3) (kv 3))))))))) rfl (fun r9 w9 hq9 => ?_)
  obtain ⟨rfl, rfl⟩ := hq9
  refine J.to (L1 := [(0, .ref (r 0))]) (S1 := [.ref (qv 0 0)]) (ws1 := ([(r 0, .inr (4, [.ref (qn 0), .ref (qt 0), .ref (r 1), .int (iI sc), .int (iI 0), .ref (r 2)])), (r 1, aS g 4 (fun j => some (qv j 0))), (r 2, .inr (3, [.ref (r 3), .int (iI ((tn : Int))), .int (iI pl)])), (r 3, aI g 60 tx)] ++ (wSt g qn kn ++ (wSt g qt kt ++ (wSt g (qv 0) (kv 0) ++ (wSt g (qv 1) (kv 1) ++ (wSt g (qv 2) (kv 2) ++ (wSt g (qv 3) (kv 3))))))))) rfl rfl rfl ?_
  refine j_astore_n (L1 := [(1, .ref (qv 0 0)), (0, .ref (r 0))]) C dX4_save_8 rfl (by decide) rfl ?_
  refine j_aload_n C 0 dX4_save_9 rfl rfl ?_
  refine j_ifnull C dX4_save_10 ?_
  refine j_aload_n C 0 dX4_save_13 rfl rfl ?_
  refine j_aload_n C 1 dX4_save_14 rfl rfl ?_
  refine j_get C ck4 0 0 (by decide) qw130 rfl rfl dX4_save_15 ?_
  refine j_callV (As := [.ref (qn 0)]) (rest := []) C yv_X2_copyFrom qw268 (c_X2_copyFrom l g (qv 0) (kv 0) qn kn) (by decide) 20 rfl rfl rfl dX4_save_18 rfl (Nat.le_of_ble_eq_true rfl) (by decide) (pf2r [(r 0, .inr (4, [.ref (qn 0), .ref (qt 0), .ref (r 1), .int (iI sc), .int (iI 0), .ref (r 2)])), (r 1, aS g 4 (fun j => some (qv j 0))), (r 2, .inr (3, [.ref (r 3), .int (iI ((tn : Int))), .int (iI pl)])), (r 3, aI g 60 tx)] 8 [(qt 0, .inr (2, [.ref (qt 1), .ref (qt 3), .ref (qt 5), .ref (qt 6), .ref (qt 7), .int (iI (kt 0 0))])), (qt 1, .inr (1, [.ref (qt 2), .int (iI (kt 0 2)), .int (iI (kt 0 3)), .int (iI (kt 0 1))])), (qt 2, aI g 10 (kt 1)), (qt 3, .inr (0, [.ref (qt 4), .int (iI (kt 0 9)), .int (iI (kt 0 6)), .int (iI (kt 0 4)), .int (iI (kt 0 5)), .long (lI (kt 0 7)), .long (lI (kt 0 8))])), (qt 4, aI g 48 (kt 2)), (qt 5, aI g 4 (kt 3)), (qt 6, aI g 4 (kt 4)), (qt 7, aI g 4 (kt 5))] (wSt g (qv 1) (kv 1) ++ (wSt g (qv 2) (kv 2) ++ (wSt g (qv 3) (kv 3))))) rfl (fun r9 w9 hq9 => ?_)
  obtain ⟨rfl, rfl⟩ := hq9
  refine J.to (L1 := [(1, .ref (qv 0 0)), (0, .ref (r 0))]) (S1 := []) (ws1 := ([(r 0, .inr (4, [.ref (qn 0), .ref (qt 0), .ref (r 1), .int (iI sc), .int (iI 0), .ref (r 2)])), (r 1, aS g 4 (fun j => some (qv j 0))), (r 2, .inr (3, [.ref (r 3), .int (iI ((tn : Int))), .int (iI pl)])), (r 3, aI g 60 tx)] ++ (wSt g qn kn ++ (wSt g qt kt ++ (wSt g (qv 0) (cpS kn (kv 0)) ++ (wSt g (qv 1) (kv 1) ++ (wSt g (qv 2) (kv 2) ++ (wSt g (qv 3) (kv 3))))))))) rfl rfl rfl ?_
  refine j_aload_n C 1 dX4_save_21 rfl rfl ?_
  refine j_aload_n C 1 dX4_save_22 rfl rfl ?_
  refine j_get C ck4 0 4 (by decide) qw134 rfl rfl dX4_save_23 ?_
  refine j_iconst C dX4_save_26 ?_
  refine j_iadd C dX4_save_27 ?_
  refine j_iconst C dX4_save_28 ?_
  refine j_callS (As := [.int (iI (0 + 1)), .int (iI 4)]) (rest := [.ref (r 0)]) C ys_J9_floorMod_7cf53 qw285 (c_J9_floorMod_7cf53 l g (0 + 1) 4 (by omega) (by decide)) (by decide) rfl dX4_save_29 rfl (Nat.le_of_ble_eq_true rfl) (by decide) (pf1 [] ([(r 0, .inr (4, [.ref (qn 0), .ref (qt 0), .ref (r 1), .int (iI sc), .int (iI 0), .ref (r 2)])), (r 1, aS g 4 (fun j => some (qv j 0))), (r 2, .inr (3, [.ref (r 3), .int (iI ((tn : Int))), .int (iI pl)])), (r 3, aI g 60 tx)] ++ (wSt g qn kn ++ (wSt g qt kt ++ (wSt g (qv 0) (cpS kn (kv 0)) ++ (wSt g (qv 1) (kv 1) ++ (wSt g (qv 2) (kv 2) ++ (wSt g (qv 3) (kv 3))))))))) rfl (fun r9 w9 hq9 => ?_)
  obtain ⟨rfl, rfl⟩ := hq9
  refine J.to (L1 := [(1, .ref (qv 0 0)), (0, .ref (r 0))]) (S1 := [.int (iI ((0 + 1) % 4)), .ref (r 0)]) (ws1 := ([(r 0, .inr (4, [.ref (qn 0), .ref (qt 0), .ref (r 1), .int (iI sc), .int (iI 0), .ref (r 2)])), (r 1, aS g 4 (fun j => some (qv j 0))), (r 2, .inr (3, [.ref (r 3), .int (iI ((tn : Int))), .int (iI pl)])), (r 3, aI g 60 tx)] ++ (wSt g qn kn ++ (wSt g qt kt ++ (wSt g (qv 0) (cpS kn (kv 0)) ++ (wSt g (qv 1) (kv 1) ++ (wSt g (qv 2) (kv 2) ++ (wSt g (qv 3) (kv 3))))))))) rfl rfl rfl ?_
  refine J.to (L1 := [(1, .ref (qv 0 0)), (0, .ref (r 0))]) (S1 := [.int (iI 1), .ref (r 0)]) (ws1 := ([(r 0, .inr (4, [.ref (qn 0), .ref (qt 0), .ref (r 1), .int (iI sc), .int (iI 0), .ref (r 2)])), (r 1, aS g 4 (fun j => some (qv j 0))), (r 2, .inr (3, [.ref (r 3), .int (iI ((tn : Int))), .int (iI pl)])), (r 3, aI g 60 tx)] ++ (wSt g qn kn ++ (wSt g qt kt ++ (wSt g (qv 0) (cpS kn (kv 0)) ++ (wSt g (qv 1) (kv 1) ++ (wSt g (qv 2) (kv 2) ++ (wSt g (qv 3) (kv 3))))))))) rfl rfl (by rw [show (((0 + 1) % 4 : Int)) = 1 from (by decide)]) ?_
  refine j_put (ws1 := ([(r 0, .inr (4, [.ref (qn 0), .ref (qt 0), .ref (r 1), .int (iI sc), .int (iI 1), .ref (r 2)])), (r 1, aS g 4 (fun j => some (qv j 0))), (r 2, .inr (3, [.ref (r 3), .int (iI ((tn : Int))), .int (iI pl)])), (r 3, aI g 60 tx)] ++ (wSt g qn kn ++ (wSt g qt kt ++ (wSt g (qv 0) (cpS kn (kv 0)) ++ (wSt g (qv 1) (kv 1) ++ (wSt g (qv 2) (kv 2) ++ (wSt g (qv 3) (kv 3))))))))) C ck4 0 4 (by decide) qw134 rfl dX4_save_32 rfl rfl rfl rfl (Nat.le_of_ble_eq_true rfl) ?_
  refine j_aload_n C 1 dX4_save_35 rfl rfl ?_
  refine j_aload_n C 1 dX4_save_36 rfl rfl ?_
  refine j_get C ck4 0 3 (by decide) qw133 rfl rfl dX4_save_37 ?_
  refine j_iconst C dX4_save_40 ?_
  refine j_iadd C dX4_save_41 ?_
  refine j_iconst C dX4_save_42 ?_
  refine j_mmin C (by omega) (by decide) qw288 qw_min1 qw_min2 qw_min3 (by decide) (Nat.le_of_ble_eq_true rfl) (by decide) dX4_save_43 ?_
  refine j_put (ws1 := ([(r 0, .inr (4, [.ref (qn 0), .ref (qt 0), .ref (r 1), .int (iI (if 4 < sc + 1 then 4 else sc + 1)), .int (iI 1), .ref (r 2)])), (r 1, aS g 4 (fun j => some (qv j 0))), (r 2, .inr (3, [.ref (r 3), .int (iI ((tn : Int))), .int (iI pl)])), (r 3, aI g 60 tx)] ++ (wSt g qn kn ++ (wSt g qt kt ++ (wSt g (qv 0) (cpS kn (kv 0)) ++ (wSt g (qv 1) (kv 1) ++ (wSt g (qv 2) (kv 2) ++ (wSt g (qv 3) (kv 3))))))))) C ck4 0 3 (by decide) qw133 rfl dX4_save_46 rfl rfl rfl rfl (Nat.le_of_ble_eq_true rfl) ?_
  exact j_vret C hr hlk dX4_save_49 ⟨rfl, rfl⟩ (by decide) (by decide)

theorem c_X4_save_1 (l : Launch) (g : Gh) (r : Nat → Nat) (qn qt : Nat → Nat) (qv : Nat → Nat → Nat) (kn kt : Nat → Nat → Int) (kv : Nat → Nat → Nat → Int) (sc : Int) (tx : Nat → Int) (tn : Nat) (pl : Int) (hsc : 0 ≤ sc ∧ sc ≤ 4) : CT l g yX4_save cX4_save 2 none ({ frames := 3, cells := 0, slots := 0, locals := 64 }) [.ref (r 0)] ([(r 0, .inr (4, [.ref (qn 0), .ref (qt 0), .ref (r 1), .int (iI sc), .int (iI 1), .ref (r 2)])), (r 1, aS g 4 (fun j => some (qv j 0))), (r 2, .inr (3, [.ref (r 3), .int (iI ((tn : Int))), .int (iI pl)])), (r 3, aI g 60 tx)] ++ (wSt g qn kn ++ (wSt g qt kt ++ (wSt g (qv 0) (kv 0) ++ (wSt g (qv 1) (kv 1) ++ (wSt g (qv 2) (kv 2) ++ (wSt g (qv 3) (kv 3)))))))) (PE none ([(r 0, .inr (4, [.ref (qn 0), .ref (qt 0), .ref (r 1), .int (iI (svs sc)), .int (iI 2), .ref (r 2)])), (r 1, aS g 4 (fun j => some (qv j 0))), (r 2, .inr (3, [.ref (r 3), .int (iI ((tn : Int))), .int (iI pl)])), (r 3, aI g 60 tx)] ++ (wSt g qn kn ++ (wSt g qt kt ++ (wS4 g qv (svk kn kv 1)))))) := by
  refine CT.intro (L0 := [(0, .ref (r 0))]) (own := RX4) (by decide) rfl (Nat.le_of_ble_eq_true rfl) rfl ?_
  intro pX eX sX mX argsX belowX methX cX A C hr hlk
  refine j_aload_n C 0 dX4_save_0 rfl rfl ?_
  refine j_aload_n C 0 dX4_save_1 rfl rfl ?_
  refine j_get C ck4 0 4 (by decide) qw134 rfl rfl dX4_save_2 ?_
  refine j_callV (As := [.int (iI 1)]) (rest := []) C yv_X4_savedAt qw264 (c_X4_savedAt_1 l g r (qn 0) (qt 0) sc 1 qv) (by decide) 0 rfl rfl rfl dX4_save_5 rfl (Nat.le_of_ble_eq_true rfl) (by decide) (pf1 [] ([(r 2, .inr (3, [.ref (r 3), .int (iI ((tn : Int))), .int (iI pl)])), (r 3, aI g 60 tx)] ++ (wSt g qn kn ++ (wSt g qt kt ++ (wSt g (qv 0) (kv 0) ++ (wSt g (qv 1) (kv 1) ++ (wSt g (qv 2) (kv 2) ++ (wSt g (qv 3) (kv 3))))))))) rfl (fun r9 w9 hq9 => ?_)
  obtain ⟨rfl, rfl⟩ := hq9
  refine J.to (L1 := [(0, .ref (r 0))]) (S1 := [.ref (qv 1 0)]) (ws1 := ([(r 0, .inr (4, [.ref (qn 0), .ref (qt 0), .ref (r 1), .int (iI sc), .int (iI 1), .ref (r 2)])), (r 1, aS g 4 (fun j => some (qv j 0))), (r 2, .inr (3, [.ref (r 3), .int (iI ((tn : Int))), .int (iI pl)])), (r 3, aI g 60 tx)] ++ (wSt g qn kn ++ (wSt g qt kt ++ (wSt g (qv 0) (kv 0) ++ (wSt g (qv 1) (kv 1) ++ (wSt g (qv 2) (kv 2) ++ (wSt g (qv 3) (kv 3))))))))) rfl rfl rfl ?_
  refine j_astore_n (L1 := [(1, .ref (qv 1 0)), (0, .ref (r 0))]) C dX4_save_8 rfl (by decide) rfl ?_
  refine j_aload_n C 0 dX4_save_9 rfl rfl ?_
  refine j_ifnull C dX4_save_10 ?_
  refine j_aload_n C 0 dX4_save_13 rfl rfl ?_
  refine j_aload_n C 1 dX4_save_14 rfl rfl ?_
  refine j_get C ck4 0 0 (by decide) qw130 rfl rfl dX4_save_15 ?_
  refine j_callV (As := [.ref (qn 0)]) (rest := []) C yv_X2_copyFrom qw268 (c_X2_copyFrom l g (qv 1) (kv 1) qn kn) (by decide) 28 rfl rfl rfl dX4_save_18 rfl (Nat.le_of_ble_eq_true rfl) (by decide) (pf2r [(r 0, .inr (4, [.ref (qn 0), .ref (qt 0), .ref (r 1), .int (iI sc), .int (iI 1), .ref (r 2)])), (r 1, aS g 4 (fun j => some (qv j 0))), (r 2, .inr (3, [.ref (r 3), .int (iI ((tn : Int))), .int (iI pl)])), (r 3, aI g 60 tx)] 8 (wSt g qt kt ++ (wSt g (qv 0) (kv 0))) (wSt g (qv 2) (kv 2) ++ (wSt g (qv 3) (kv 3)))) rfl (fun r9 w9 hq9 => ?_)
  obtain ⟨rfl, rfl⟩ := hq9
  refine J.to (L1 := [(1, .ref (qv 1 0)), (0, .ref (r 0))]) (S1 := []) (ws1 := ([(r 0, .inr (4, [.ref (qn 0), .ref (qt 0), .ref (r 1), .int (iI sc), .int (iI 1), .ref (r 2)])), (r 1, aS g 4 (fun j => some (qv j 0))), (r 2, .inr (3, [.ref (r 3), .int (iI ((tn : Int))), .int (iI pl)])), (r 3, aI g 60 tx)] ++ (wSt g qn kn ++ (wSt g qt kt ++ (wSt g (qv 0) (kv 0) ++ (wSt g (qv 1) (cpS kn (kv 1)) ++ (wSt g (qv 2) (kv 2) ++ (wSt g (qv 3) (kv 3))))))))) rfl rfl rfl ?_
  refine j_aload_n C 1 dX4_save_21 rfl rfl ?_
  refine j_aload_n C 1 dX4_save_22 rfl rfl ?_
  refine j_get C ck4 0 4 (by decide) qw134 rfl rfl dX4_save_23 ?_
  refine j_iconst C dX4_save_26 ?_
  refine j_iadd C dX4_save_27 ?_
  refine j_iconst C dX4_save_28 ?_
  refine j_callS (As := [.int (iI (1 + 1)), .int (iI 4)]) (rest := [.ref (r 0)]) C ys_J9_floorMod_7cf53 qw285 (c_J9_floorMod_7cf53 l g (1 + 1) 4 (by omega) (by decide)) (by decide) rfl dX4_save_29 rfl (Nat.le_of_ble_eq_true rfl) (by decide) (pf1 [] ([(r 0, .inr (4, [.ref (qn 0), .ref (qt 0), .ref (r 1), .int (iI sc), .int (iI 1), .ref (r 2)])), (r 1, aS g 4 (fun j => some (qv j 0))), (r 2, .inr (3, [.ref (r 3), .int (iI ((tn : Int))), .int (iI pl)])), (r 3, aI g 60 tx)] ++ (wSt g qn kn ++ (wSt g qt kt ++ (wSt g (qv 0) (kv 0) ++ (wSt g (qv 1) (cpS kn (kv 1)) ++ (wSt g (qv 2) (kv 2) ++ (wSt g (qv 3) (kv 3))))))))) rfl (fun r9 w9 hq9 => ?_)
  obtain ⟨rfl, rfl⟩ := hq9
  refine J.to (L1 := [(1, .ref (qv 1 0)), (0, .ref (r 0))]) (S1 := [.int (iI ((1 + 1) % 4)), .ref (r 0)]) (ws1 := ([(r 0, .inr (4, [.ref (qn 0), .ref (qt 0), .ref (r 1), .int (iI sc), .int (iI 1), .ref (r 2)])), (r 1, aS g 4 (fun j => some (qv j 0))), (r 2, .inr (3, [.ref (r 3), .int (iI ((tn : Int))), .int (iI pl)])), (r 3, aI g 60 tx)] ++ (wSt g qn kn ++ (wSt g qt kt ++ (wSt g (qv 0) (kv 0) ++ (wSt g (qv 1) (cpS kn (kv 1)) ++ (wSt g (qv 2) (kv 2) ++ (wSt g (qv 3) (kv 3))))))))) rfl rfl rfl ?_
  refine J.to (L1 := [(1, .ref (qv 1 0)), (0, .ref (r 0))]) (S1 := [.int (iI 2), .ref (r 0)]) (ws1 := ([(r 0, .inr (4, [.ref (qn 0), .ref (qt 0), .ref (r 1), .int (iI sc), .int (iI 1), .ref (r 2)])), (r 1, aS g 4 (fun j => some (qv j 0))), (r 2, .inr (3, [.ref (r 3), .int (iI ((tn : Int))), .int (iI pl)])), (r 3, aI g 60 tx)] ++ (wSt g qn kn ++ (wSt g qt kt ++ (wSt g (qv 0) (kv 0) ++ (wSt g (qv 1) (cpS kn (kv 1)) ++ (wSt g (qv 2) (kv 2) ++ (wSt g (qv 3) (kv 3))))))))) rfl rfl (by rw [show (((1 + 1) % 4 : Int)) = 2 from (by decide)]) ?_
  refine j_put (ws1 := ([(r 0, .inr (4, [.ref (qn 0), .ref (qt 0), .ref (r 1), .int (iI sc), .int (iI 2), .ref (r 2)])), (r 1, aS g 4 (fun j => some (qv j 0))), (r 2, .inr (3, [.ref (r 3), .int (iI ((tn : Int))), .int (iI pl)])), (r 3, aI g 60 tx)] ++ (wSt g qn kn ++ (wSt g qt kt ++ (wSt g (qv 0) (kv 0) ++ (wSt g (qv 1) (cpS kn (kv 1)) ++ (wSt g (qv 2) (kv 2) ++ (wSt g (qv 3) (kv 3))))))))) C ck4 0 4 (by decide) qw134 rfl dX4_save_32 rfl rfl rfl rfl (Nat.le_of_ble_eq_true rfl) ?_
  refine j_aload_n C 1 dX4_save_35 rfl rfl ?_
  refine j_aload_n C 1 dX4_save_36 rfl rfl ?_
  refine j_get C ck4 0 3 (by decide) qw133 rfl rfl dX4_save_37 ?_
  refine j_iconst C dX4_save_40 ?_
  refine j_iadd C dX4_save_41 ?_
  refine j_iconst C dX4_save_42 ?_
  refine j_mmin C (by omega) (by decide) qw288 qw_min1 qw_min2 qw_min3 (by decide) (Nat.le_of_ble_eq_true rfl) (by decide) dX4_save_43 ?_
  refine j_put (ws1 := ([(r 0, .inr (4, [.ref (qn 0), .ref (qt 0), .ref (r 1), .int (iI (if 4 < sc + 1 then 4 else sc + 1)), .int (iI 2), .ref (r 2)])), (r 1, aS g 4 (fun j => some (qv j 0))), (r 2, .inr (3, [.ref (r 3), .int (iI ((tn : Int))), .int (iI pl)])), (r 3, aI g 60 tx)] ++ (wSt g qn kn ++ (wSt g qt kt ++ (wSt g (qv 0) (kv 0) ++ (wSt g (qv 1) (cpS kn (kv 1)) ++ (wSt g (qv 2) (kv 2) ++ (wSt g (qv 3) (kv 3))))))))) C ck4 0 3 (by decide) qw133 rfl dX4_save_46 rfl rfl rfl rfl (Nat.le_of_ble_eq_true rfl) ?_
  exact j_vret C hr hlk dX4_save_49 ⟨rfl, rfl⟩ (by decide) (by decide)

theorem c_X4_save_2 (l : Launch) (g : Gh) (r : Nat → Nat) (qn qt : Nat → Nat) (qv : Nat → Nat → Nat) (kn kt : Nat → Nat → Int) (kv : Nat → Nat → Nat → Int) (sc : Int) (tx : Nat → Int) (tn : Nat) (pl : Int) (hsc : 0 ≤ sc ∧ sc ≤ 4) : CT l g yX4_save cX4_save 2 none ({ frames := 3, cells := 0, slots := 0, locals := 64 }) [.ref (r 0)] ([(r 0, .inr (4, [.ref (qn 0), .ref (qt 0), .ref (r 1), .int (iI sc), .int (iI 2), .ref (r 2)])), (r 1, aS g 4 (fun j => some (qv j 0))), (r 2, .inr (3, [.ref (r 3), .int (iI ((tn : Int))), .int (iI pl)])), (r 3, aI g 60 tx)] ++ (wSt g qn kn ++ (wSt g qt kt ++ (wSt g (qv 0) (kv 0) ++ (wSt g (qv 1) (kv 1) ++ (wSt g (qv 2) (kv 2) ++ (wSt g (qv 3) (kv 3)))))))) (PE none ([(r 0, .inr (4, [.ref (qn 0), .ref (qt 0), .ref (r 1), .int (iI (svs sc)), .int (iI 3), .ref (r 2)])), (r 1, aS g 4 (fun j => some (qv j 0))), (r 2, .inr (3, [.ref (r 3), .int (iI ((tn : Int))), .int (iI pl)])), (r 3, aI g 60 tx)] ++ (wSt g qn kn ++ (wSt g qt kt ++ (wS4 g qv (svk kn kv 2)))))) := by
  refine CT.intro (L0 := [(0, .ref (r 0))]) (own := RX4) (by decide) rfl (Nat.le_of_ble_eq_true rfl) rfl ?_
  intro pX eX sX mX argsX belowX methX cX A C hr hlk
  refine j_aload_n C 0 dX4_save_0 rfl rfl ?_
  refine j_aload_n C 0 dX4_save_1 rfl rfl ?_
  refine j_get C ck4 0 4 (by decide) qw134 rfl rfl dX4_save_2 ?_
  refine j_callV (As := [.int (iI 2)]) (rest := []) C yv_X4_savedAt qw264 (c_X4_savedAt_2 l g r (qn 0) (qt 0) sc 2 qv) (by decide) 0 rfl rfl rfl dX4_save_5 rfl (Nat.le_of_ble_eq_true rfl) (by decide) (pf1 [] ([(r 2, .inr (3, [.ref (r 3), .int (iI ((tn : Int))), .int (iI pl)])), (r 3, aI g 60 tx)] ++ (wSt g qn kn ++ (wSt g qt kt ++ (wSt g (qv 0) (kv 0) ++ (wSt g (qv 1) (kv 1) ++ (wSt g (qv 2) (kv 2) ++ (wSt g (qv 3) (kv 3))))))))) rfl (fun r9 w9 hq9 => ?_)
  obtain ⟨rfl, rfl⟩ := hq9
  refine J.to (L1 := [(0, .ref (r 0))]) (S1 := [.ref (qv 2 0)]) (ws1 := ([(r 0, .inr (4, [.ref (qn 0), .ref (qt 0), .ref (r 1), .int (iI sc), .int (iI 2), .ref (r 2)])), (r 1, aS g 4 (fun j => some (qv j 0))), (r 2, .inr (3, [.ref (r 3), .int (iI ((tn : Int))), .int (iI pl)])), (r 3, aI g 60 tx)] ++ (wSt g qn kn ++ (wSt g qt kt ++ (wSt g (qv 0) (kv 0) ++ (wSt g (qv 1) (kv 1) ++ (wSt g (qv 2) (kv 2) ++ (wSt g (qv 3) (kv 3))))))))) rfl rfl rfl ?_
  refine j_astore_n (L1 := [(1, .ref (qv 2 0)), (0, .ref (r 0))]) C dX4_save_8 rfl (by decide) rfl ?_
  refine j_aload_n C 0 dX4_save_9 rfl rfl ?_
  refine j_ifnull C dX4_save_10 ?_
  refine j_aload_n C 0 dX4_save_13 rfl rfl ?_
  refine j_aload_n C 1 dX4_save_14 rfl rfl ?_
  refine j_get C ck4 0 0 (by decide) qw130 rfl rfl dX4_save_15 ?_
  refine j_callV (As := [.ref (qn 0)]) (rest := []) C yv_X2_copyFrom qw268 (c_X2_copyFrom l g (qv 2) (kv 2) qn kn) (by decide) 36 rfl rfl rfl dX4_save_18 rfl (Nat.le_of_ble_eq_true rfl) (by decide) (pf2r [(r 0, .inr (4, [.ref (qn 0), .ref (qt 0), .ref (r 1), .int (iI sc), .int (iI 2), .ref (r 2)])), (r 1, aS g 4 (fun j => some (qv j 0))), (r 2, .inr (3, [.ref (r 3), .int (iI ((tn : Int))), .int (iI pl)])), (r 3, aI g 60 tx)] 8 (wSt g qt kt ++ (wSt g (qv 0) (kv 0) ++ (wSt g (qv 1) (kv 1)))) [(qv 3 0, .inr (2, [.ref (qv 3 1), .ref (qv 3 3), .ref (qv 3 5), .ref (qv 3 6), .ref (qv 3 7), .int (iI ((kv 3) 0 0))])), (qv 3 1, .inr (1, [.ref (qv 3 2), .int (iI ((kv 3) 0 2)), .int (iI ((kv 3) 0 3)), .int (iI ((kv 3) 0 1))])), (qv 3 2, aI g 10 ((kv 3) 1)), (qv 3 3, .inr (0, [.ref (qv 3 4), .int (iI ((kv 3) 0 9)), .int (iI ((kv 3) 0 6)), .int (iI ((kv 3) 0 4)), .int (iI ((kv 3) 0 5)), .long (lI ((kv 3) 0 7)), .long (lI ((kv 3) 0 8))])), (qv 3 4, aI g 48 ((kv 3) 2)), (qv 3 5, aI g 4 ((kv 3) 3)), (qv 3 6, aI g 4 ((kv 3) 4)), (qv 3 7, aI g 4 ((kv 3) 5))]) rfl (fun r9 w9 hq9 => ?_)
  obtain ⟨rfl, rfl⟩ := hq9
  refine J.to (L1 := [(1, .ref (qv 2 0)), (0, .ref (r 0))]) (S1 := []) (ws1 := ([(r 0, .inr (4, [.ref (qn 0), .ref (qt 0), .ref (r 1), .int (iI sc), .int (iI 2), .ref (r 2)])), (r 1, aS g 4 (fun j => some (qv j 0))), (r 2, .inr (3, [.ref (r 3), .int (iI ((tn : Int))), .int (iI pl)])), (r 3, aI g 60 tx)] ++ (wSt g qn kn ++ (wSt g qt kt ++ (wSt g (qv 0) (kv 0) ++ (wSt g (qv 1) (kv 1) ++ (wSt g (qv 2) (cpS kn (kv 2)) ++ (wSt g (qv 3) (kv 3))))))))) rfl rfl rfl ?_
  refine j_aload_n C 1 dX4_save_21 rfl rfl ?_
  refine j_aload_n C 1 dX4_save_22 rfl rfl ?_
  refine j_get C ck4 0 4 (by decide) qw134 rfl rfl dX4_save_23 ?_
  refine j_iconst C dX4_save_26 ?_
  refine j_iadd C dX4_save_27 ?_
  refine j_iconst C dX4_save_28 ?_
  refine j_callS (As := [.int (iI (2 + 1)), .int (iI 4)]) (rest := [.ref (r 0)]) C ys_J9_floorMod_7cf53 qw285 (c_J9_floorMod_7cf53 l g (2 + 1) 4 (by omega) (by decide)) (by decide) rfl dX4_save_29 rfl (Nat.le_of_ble_eq_true rfl) (by decide) (pf1 [] ([(r 0, .inr (4, [.ref (qn 0), .ref (qt 0), .ref (r 1), .int (iI sc), .int (iI 2), .ref (r 2)])), (r 1, aS g 4 (fun j => some (qv j 0))), (r 2, .inr (3, [.ref (r 3), .int (iI ((tn : Int))), .int (iI pl)])), (r 3, aI g 60 tx)] ++ (wSt g qn kn ++ (wSt g qt kt ++ (wSt g (qv 0) (kv 0) ++ (wSt g (qv 1) (kv 1) ++ (wSt g (qv 2) (cpS kn (kv 2)) ++ (wSt g (qv 3) (kv 3))))))))) rfl (fun r9 w9 hq9 => ?_)
  obtain ⟨rfl, rfl⟩ := hq9
  refine J.to (L1 := [(1, .ref (qv 2 0)), (0, .ref (r 0))]) (S1 := [.int (iI ((2 + 1) % 4)), .ref (r 0)]) (ws1 := ([(r 0, .inr (4, [.ref (qn 0), .ref (qt 0), .ref (r 1), .int (iI sc), .int (iI 2), .ref (r 2)])), (r 1, aS g 4 (fun j => some (qv j 0))), (r 2, .inr (3, [.ref (r 3), .int (iI ((tn : Int))), .int (iI pl)])), (r 3, aI g 60 tx)] ++ (wSt g qn kn ++ (wSt g qt kt ++ (wSt g (qv 0) (kv 0) ++ (wSt g (qv 1) (kv 1) ++ (wSt g (qv 2) (cpS kn (kv 2)) ++ (wSt g (qv 3) (kv 3))))))))) rfl rfl rfl ?_
  refine J.to (L1 := [(1, .ref (qv 2 0)), (0, .ref (r 0))]) (S1 := [.int (iI 3), .ref (r 0)]) (ws1 := ([(r 0, .inr (4, [.ref (qn 0), .ref (qt 0), .ref (r 1), .int (iI sc), .int (iI 2), .ref (r 2)])), (r 1, aS g 4 (fun j => some (qv j 0))), (r 2, .inr (3, [.ref (r 3), .int (iI ((tn : Int))), .int (iI pl)])), (r 3, aI g 60 tx)] ++ (wSt g qn kn ++ (wSt g qt kt ++ (wSt g (qv 0) (kv 0) ++ (wSt g (qv 1) (kv 1) ++ (wSt g (qv 2) (cpS kn (kv 2)) ++ (wSt g (qv 3) (kv 3))))))))) rfl rfl (by rw [show (((2 + 1) % 4 : Int)) = 3 from (by decide)]) ?_
  refine j_put (ws1 := ([(r 0, .inr (4, [.ref (qn 0), .ref (qt 0), .ref (r 1), .int (iI sc), .int (iI 3), .ref (r 2)])), (r 1, aS g 4 (fun j => some (qv j 0))), (r 2, .inr (3, [.ref (r 3), .int (iI ((tn : Int))), .int (iI pl)])), (r 3, aI g 60 tx)] ++ (wSt g qn kn ++ (wSt g qt kt ++ (wSt g (qv 0) (kv 0) ++ (wSt g (qv 1) (kv 1) ++ (wSt g (qv 2) (cpS kn (kv 2)) ++ (wSt g (qv 3) (kv 3))))))))) C ck4 0 4 (by decide) qw134 rfl dX4_save_32 rfl rfl rfl rfl (Nat.le_of_ble_eq_true rfl) ?_
  refine j_aload_n C 1 dX4_save_35 rfl rfl ?_
  refine j_aload_n C 1 dX4_save_36 rfl rfl ?_
  refine j_get C ck4 0 3 (by decide) qw133 rfl rfl dX4_save_37 ?_
  refine j_iconst C dX4_save_40 ?_
  refine j_iadd C dX4_save_41 ?_
  refine j_iconst C dX4_save_42 ?_
  refine j_mmin C (by omega) (by decide) qw288 qw_min1 qw_min2 qw_min3 (by decide) (Nat.le_of_ble_eq_true rfl) (by decide) dX4_save_43 ?_
  refine j_put (ws1 := ([(r 0, .inr (4, [.ref (qn 0), .ref (qt 0), .ref (r 1), .int (iI (if 4 < sc + 1 then 4 else sc + 1)), .int (iI 3), .ref (r 2)])), (r 1, aS g 4 (fun j => some (qv j 0))), (r 2, .inr (3, [.ref (r 3), .int (iI ((tn : Int))), .int (iI pl)])), (r 3, aI g 60 tx)] ++ (wSt g qn kn ++ (wSt g qt kt ++ (wSt g (qv 0) (kv 0) ++ (wSt g (qv 1) (kv 1) ++ (wSt g (qv 2) (cpS kn (kv 2)) ++ (wSt g (qv 3) (kv 3))))))))) C ck4 0 3 (by decide) qw133 rfl dX4_save_46 rfl rfl rfl rfl (Nat.le_of_ble_eq_true rfl) ?_
  exact j_vret C hr hlk dX4_save_49 ⟨rfl, rfl⟩ (by decide) (by decide)

theorem c_X4_save_3 (l : Launch) (g : Gh) (r : Nat → Nat) (qn qt : Nat → Nat) (qv : Nat → Nat → Nat) (kn kt : Nat → Nat → Int) (kv : Nat → Nat → Nat → Int) (sc : Int) (tx : Nat → Int) (tn : Nat) (pl : Int) (hsc : 0 ≤ sc ∧ sc ≤ 4) : CT l g yX4_save cX4_save 2 none ({ frames := 3, cells := 0, slots := 0, locals := 64 }) [.ref (r 0)] ([(r 0, .inr (4, [.ref (qn 0), .ref (qt 0), .ref (r 1), .int (iI sc), .int (iI 3), .ref (r 2)])), (r 1, aS g 4 (fun j => some (qv j 0))), (r 2, .inr (3, [.ref (r 3), .int (iI ((tn : Int))), .int (iI pl)])), (r 3, aI g 60 tx)] ++ (wSt g qn kn ++ (wSt g qt kt ++ (wSt g (qv 0) (kv 0) ++ (wSt g (qv 1) (kv 1) ++ (wSt g (qv 2) (kv 2) ++ (wSt g (qv 3) (kv 3)))))))) (PE none ([(r 0, .inr (4, [.ref (qn 0), .ref (qt 0), .ref (r 1), .int (iI (svs sc)), .int (iI 0), .ref (r 2)])), (r 1, aS g 4 (fun j => some (qv j 0))), (r 2, .inr (3, [.ref (r 3), .int (iI ((tn : Int))), .int (iI pl)])), (r 3, aI g 60 tx)] ++ (wSt g qn kn ++ (wSt g qt kt ++ (wS4 g qv (svk kn kv 3)))))) := by
  refine CT.intro (L0 := [(0, .ref (r 0))]) (own := RX4) (by decide) rfl (Nat.le_of_ble_eq_true rfl) rfl ?_
  intro pX eX sX mX argsX belowX methX cX A C hr hlk
  refine j_aload_n C 0 dX4_save_0 rfl rfl ?_
  refine j_aload_n C 0 dX4_save_1 rfl rfl ?_
  refine j_get C ck4 0 4 (by decide) qw134 rfl rfl dX4_save_2 ?_
  refine j_callV (As := [.int (iI 3)]) (rest := []) C yv_X4_savedAt qw264 (c_X4_savedAt_3 l g r (qn 0) (qt 0) sc 3 qv) (by decide) 0 rfl rfl rfl dX4_save_5 rfl (Nat.le_of_ble_eq_true rfl) (by decide) (pf1 [] ([(r 2, .inr (3, [.ref (r 3), .int (iI ((tn : Int))), .int (iI pl)])), (r 3, aI g 60 tx)] ++ (wSt g qn kn ++ (wSt g qt kt ++ (wSt g (qv 0) (kv 0) ++ (wSt g (qv 1) (kv 1) ++ (wSt g (qv 2) (kv 2) ++ (wSt g (qv 3) (kv 3))))))))) rfl (fun r9 w9 hq9 => ?_)
  obtain ⟨rfl, rfl⟩ := hq9
  refine J.to (L1 := [(0, .ref (r 0))]) (S1 := [.ref (qv 3 0)]) (ws1 := ([(r 0, .inr (4, [.ref (qn 0), .ref (qt 0), .ref (r 1), .int (iI sc), .int (iI 3), .ref (r 2)])), (r 1, aS g 4 (fun j => some (qv j 0))), (r 2, .inr (3, [.ref (r 3), .int (iI ((tn : Int))), .int (iI pl)])), (r 3, aI g 60 tx)] ++ (wSt g qn kn ++ (wSt g qt kt ++ (wSt g (qv 0) (kv 0) ++ (wSt g (qv 1) (kv 1) ++ (wSt g (qv 2) (kv 2) ++ (wSt g (qv 3) (kv 3))))))))) rfl rfl rfl ?_
  refine j_astore_n (L1 := [(1, .ref (qv 3 0)), (0, .ref (r 0))]) C dX4_save_8 rfl (by decide) rfl ?_
  refine j_aload_n C 0 dX4_save_9 rfl rfl ?_
  refine j_ifnull C dX4_save_10 ?_
  refine j_aload_n C 0 dX4_save_13 rfl rfl ?_
  refine j_aload_n C 1 dX4_save_14 rfl rfl ?_
  refine j_get C ck4 0 0 (by decide) qw130 rfl rfl dX4_save_15 ?_
  refine j_callV (As := [.ref (qn 0)]) (rest := []) C yv_X2_copyFrom qw268 (c_X2_copyFrom l g (qv 3) (kv 3) qn kn) (by decide) 44 rfl rfl rfl dX4_save_18 rfl (Nat.le_of_ble_eq_true rfl) (by decide) (pf2r [(r 0, .inr (4, [.ref (qn 0), .ref (qt 0), .ref (r 1), .int (iI sc), .int (iI 3), .ref (r 2)])), (r 1, aS g 4 (fun j => some (qv j 0))), (r 2, .inr (3, [.ref (r 3), .int (iI ((tn : Int))), .int (iI pl)])), (r 3, aI g 60 tx)] 8 (wSt g qt kt ++ (wSt g (qv 0) (kv 0) ++ (wSt g (qv 1) (kv 1) ++ (wSt g (qv 2) (kv 2))))) []) rfl (fun r9 w9 hq9 => ?_)
  obtain ⟨rfl, rfl⟩ := hq9
  refine J.to (L1 := [(1, .ref (qv 3 0)), (0, .ref (r 0))]) (S1 := []) (ws1 := ([(r 0, .inr (4, [.ref (qn 0), .ref (qt 0), .ref (r 1), .int (iI sc), .int (iI 3), .ref (r 2)])), (r 1, aS g 4 (fun j => some (qv j 0))), (r 2, .inr (3, [.ref (r 3), .int (iI ((tn : Int))), .int (iI pl)])), (r 3, aI g 60 tx)] ++ (wSt g qn kn ++ (wSt g qt kt ++ (wSt g (qv 0) (kv 0) ++ (wSt g (qv 1) (kv 1) ++ (wSt g (qv 2) (kv 2) ++ (wSt g (qv 3) (cpS kn (kv 3)))))))))) rfl rfl rfl ?_
  refine j_aload_n C 1 dX4_save_21 rfl rfl ?_
  refine j_aload_n C 1 dX4_save_22 rfl rfl ?_
  refine j_get C ck4 0 4 (by decide) qw134 rfl rfl dX4_save_23 ?_
  refine j_iconst C dX4_save_26 ?_
  refine j_iadd C dX4_save_27 ?_
  refine j_iconst C dX4_save_28 ?_
  refine j_callS (As := [.int (iI (3 + 1)), .int (iI 4)]) (rest := [.ref (r 0)]) C ys_J9_floorMod_7cf53 qw285 (c_J9_floorMod_7cf53 l g (3 + 1) 4 (by omega) (by decide)) (by decide) rfl dX4_save_29 rfl (Nat.le_of_ble_eq_true rfl) (by decide) (pf1 [] ([(r 0, .inr (4, [.ref (qn 0), .ref (qt 0), .ref (r 1), .int (iI sc), .int (iI 3), .ref (r 2)])), (r 1, aS g 4 (fun j => some (qv j 0))), (r 2, .inr (3, [.ref (r 3), .int (iI ((tn : Int))), .int (iI pl)])), (r 3, aI g 60 tx)] ++ (wSt g qn kn ++ (wSt g qt kt ++ (wSt g (qv 0) (kv 0) ++ (wSt g (qv 1) (kv 1) ++ (wSt g (qv 2) (kv 2) ++ (wSt g (qv 3) (cpS kn (kv 3)))))))))) rfl (fun r9 w9 hq9 => ?_)
  obtain ⟨rfl, rfl⟩ := hq9
  refine J.to (L1 := [(1, .ref (qv 3 0)), (0, .ref (r 0))]) (S1 := [.int (iI ((3 + 1) % 4)), .ref (r 0)]) (ws1 := ([(r 0, .inr (4, [.ref (qn 0), .ref (qt 0), .ref (r 1), .int (iI sc), .int (iI 3), .ref (r 2)])), (r 1, aS g 4 (fun j => some (qv j 0))), (r 2, .inr (3, [.ref (r 3), .int (iI ((tn : Int))), .int (iI pl)])), (r 3, aI g 60 tx)] ++ (wSt g qn kn ++ (wSt g qt kt ++ (wSt g (qv 0) (kv 0) ++ (wSt g (qv 1) (kv 1) ++ (wSt g (qv 2) (kv 2) ++ (wSt g (qv 3) (cpS kn (kv 3)))))))))) rfl rfl rfl ?_
  refine J.to (L1 := [(1, .ref (qv 3 0)), (0, .ref (r 0))]) (S1 := [.int (iI 0), .ref (r 0)]) (ws1 := ([(r 0, .inr (4, [.ref (qn 0), .ref (qt 0), .ref (r 1), .int (iI sc), .int (iI 3), .ref (r 2)])), (r 1, aS g 4 (fun j => some (qv j 0))), (r 2, .inr (3, [.ref (r 3), .int (iI ((tn : Int))), .int (iI pl)])), (r 3, aI g 60 tx)] ++ (wSt g qn kn ++ (wSt g qt kt ++ (wSt g (qv 0) (kv 0) ++ (wSt g (qv 1) (kv 1) ++ (wSt g (qv 2) (kv 2) ++ (wSt g (qv 3) (cpS kn (kv 3)))))))))) rfl rfl (by rw [show (((3 + 1) % 4 : Int)) = 0 from (by decide)]) ?_
  refine j_put (ws1 := ([(r 0, .inr (4, [.ref (qn 0), .ref (qt 0), .ref (r 1), .int (iI sc), .int (iI 0), .ref (r 2)])), (r 1, aS g 4 (fun j => some (qv j 0))), (r 2, .inr (3, [.ref (r 3), .int (iI ((tn : Int))), .int (iI pl)])), (r 3, aI g 60 tx)] ++ (wSt g qn kn ++ (wSt g qt kt ++ (wSt g (qv 0) (kv 0) ++ (wSt g (qv 1) (kv 1) ++ (wSt g (qv 2) (kv 2) ++ (wSt g (qv 3) (cpS kn (kv 3)))))))))) C ck4 0 4 (by decide) qw134 rfl dX4_save_32 rfl rfl rfl rfl (Nat.le_of_ble_eq_true rfl) ?_
  refine j_aload_n C 1 dX4_save_35 rfl rfl ?_
  refine j_aload_n C 1 dX4_save_36 rfl rfl ?_
  refine j_get C ck4 0 3 (by decide) qw133 rfl rfl dX4_save_37 ?_
  refine j_iconst C dX4_save_40 ?_
  refine j_iadd C dX4_save_41 ?_
  refine j_iconst C dX4_save_42 ?_
  refine j_mmin C (by omega) (by decide) qw288 qw_min1 qw_min2 qw_min3 (by decide) (Nat.le_of_ble_eq_true rfl) (by decide) dX4_save_43 ?_
  refine j_put (ws1 := ([(r 0, .inr (4, [.ref (qn 0), .ref (qt 0), .ref (r 1), .int (iI (if 4 < sc + 1 then 4 else sc + 1)), .int (iI 0), .ref (r 2)])), (r 1, aS g 4 (fun j => some (qv j 0))), (r 2, .inr (3, [.ref (r 3), .int (iI ((tn : Int))), .int (iI pl)])), (r 3, aI g 60 tx)] ++ (wSt g qn kn ++ (wSt g qt kt ++ (wSt g (qv 0) (kv 0) ++ (wSt g (qv 1) (kv 1) ++ (wSt g (qv 2) (kv 2) ++ (wSt g (qv 3) (cpS kn (kv 3)))))))))) C ck4 0 3 (by decide) qw133 rfl dX4_save_46 rfl rfl rfl rfl (Nat.le_of_ble_eq_true rfl) ?_
  exact j_vret C hr hlk dX4_save_49 ⟨rfl, rfl⟩ (by decide) (by decide)

theorem c_X4_save (l : Launch) (g : Gh) (r : Nat → Nat) (qn qt : Nat → Nat) (qv : Nat → Nat → Nat) (kn kt : Nat → Nat → Int) (kv : Nat → Nat → Nat → Int) (sc : Int) (ns : Nat) (tx : Nat → Int) (tn : Nat) (pl : Int) (hsc : 0 ≤ sc ∧ sc ≤ 4) (hns : ns < 4) : CT l g yX4_save cX4_save 2 none ({ frames := 3, cells := 0, slots := 0, locals := 64 }) [.ref (r 0)] (wTp g r qn qt qv kn kt kv sc ns tx tn pl) (PE none (wTp g r qn qt qv kn kt (svk kn kv ns) (svs sc) (svn ns) tx tn pl)) := by
  match ns, hns with
  | 0, _ => exact c_X4_save_0 l g r qn qt qv kn kt kv sc tx tn pl hsc
  | 1, _ => exact c_X4_save_1 l g r qn qt qv kn kt kv sc tx tn pl hsc
  | 2, _ => exact c_X4_save_2 l g r qn qt qv kn kt kv sc tx tn pl hsc
  | 3, _ => exact c_X4_save_3 l g r qn qt qv kn kt kv sc tx tn pl hsc
theorem c_X4_acceptTrial (l : Launch) (g : Gh) (r : Nat → Nat) (qn qt : Nat → Nat) (qv : Nat → Nat → Nat) (kn kt : Nat → Nat → Int) (kv : Nat → Nat → Nat → Int) (sc : Int) (ns : Nat) (tx : Nat → Int) (tn : Nat) (pl : Int) (hsc : 0 ≤ sc ∧ sc ≤ 4) (hns : ns < 4) : CT l g yX4_acceptTrial cX4_acceptTrial 1 none ({ frames := 4, cells := 0, slots := 0, locals := 85 }) [.ref (r 0)] ([(r 0, .inr (4, [.ref (qn 0), .ref (qt 0), .ref (r 1), .int (iI sc), .int (iI ((ns : Int))), .ref (r 2)])), (r 1, aS g 4 (fun j => some (qv j 0))), (r 2, .inr (3, [.ref (r 3), .int (iI ((tn : Int))), .int (iI pl)])), (r 3, aI g 60 tx)] ++ (wSt g qn kn ++ (wSt g qt kt ++ (wS4 g qv kv)))) (PE none (wTp g r qn qt qv (cpS kt kn) kt (svk kn kv ns) (svs sc) (svn ns) tx tn pl)) := by
  refine CT.intro (L0 := [(0, .ref (r 0))]) (own := RX4) (by decide) rfl (Nat.le_of_ble_eq_true rfl) rfl ?_
  intro pX eX sX mX argsX belowX methX cX A C hr hlk
  refine j_aload_n C 0 dX4_acceptTrial_0 rfl rfl ?_
  refine j_callV (As := []) (rest := []) C yv_X4_save qw260 (c_X4_save l g r qn qt qv kn kt kv sc ns tx tn pl hsc hns) (by decide) 0 rfl rfl rfl dX4_acceptTrial_1 rfl (Nat.le_of_ble_eq_true rfl) (by decide) pf0 rfl (fun r9 w9 hq9 => ?_)
  obtain ⟨rfl, rfl⟩ := hq9
  refine J.to (L1 := [(0, .ref (r 0))]) (S1 := []) (ws1 := ([(r 0, .inr (4, [.ref (qn 0), .ref (qt 0), .ref (r 1), .int (iI (svs sc)), .int (iI ((svn ns : Int))), .ref (r 2)])), (r 1, aS g 4 (fun j => some (qv j 0))), (r 2, .inr (3, [.ref (r 3), .int (iI ((tn : Int))), .int (iI pl)])), (r 3, aI g 60 tx)] ++ (wSt g qn kn ++ (wSt g qt kt ++ (wS4 g qv (svk kn kv ns)))))) rfl rfl rfl ?_
  refine j_aload_n C 0 dX4_acceptTrial_4 rfl rfl ?_
  refine j_get C ck4 0 0 (by decide) qw130 rfl rfl dX4_acceptTrial_5 ?_
  refine j_aload_n C 0 dX4_acceptTrial_8 rfl rfl ?_
  refine j_get C ck4 0 1 (by decide) qw131 rfl rfl dX4_acceptTrial_9 ?_
  refine j_callV (As := [.ref (qt 0)]) (rest := []) C yv_X2_copyFrom qw268 (c_X2_copyFrom l g qn kn qt kt) (by decide) 4 rfl rfl rfl dX4_acceptTrial_12 rfl (Nat.le_of_ble_eq_true rfl) (by decide) (pf2 [(r 0, .inr (4, [.ref (qn 0), .ref (qt 0), .ref (r 1), .int (iI (svs sc)), .int (iI ((svn ns : Int))), .ref (r 2)])), (r 1, aS g 4 (fun j => some (qv j 0))), (r 2, .inr (3, [.ref (r 3), .int (iI ((tn : Int))), .int (iI pl)])), (r 3, aI g 60 tx)] 8 [] (wS4 g qv (svk kn kv ns))) rfl (fun r9 w9 hq9 => ?_)
  obtain ⟨rfl, rfl⟩ := hq9
  refine J.to (L1 := [(0, .ref (r 0))]) (S1 := []) (ws1 := ([(r 0, .inr (4, [.ref (qn 0), .ref (qt 0), .ref (r 1), .int (iI (svs sc)), .int (iI ((svn ns : Int))), .ref (r 2)])), (r 1, aS g 4 (fun j => some (qv j 0))), (r 2, .inr (3, [.ref (r 3), .int (iI ((tn : Int))), .int (iI pl)])), (r 3, aI g 60 tx)] ++ (wSt g qn (cpS kt kn) ++ (wSt g qt kt ++ (wS4 g qv (svk kn kv ns)))))) rfl rfl rfl ?_
  exact j_vret C hr hlk dX4_acceptTrial_15 ⟨rfl, rfl⟩ (by decide) (by decide)

theorem c_X4_checkTrialRope (l : Launch) (g : Gh) (r : Nat → Nat) (qn qt : Nat → Nat) (qv : Nat → Nat → Nat) (kn kt : Nat → Nat → Int) (kv : Nat → Nat → Nat → Int) (sc : Int) (ns : Nat) (tx : Nat → Int) (tn : Nat) (pl : Int) (hkt : SOK kt) (hh : 0 ≤ hnd kt) : CT l g yX4_checkTrialRope cX4_checkTrialRope 1 none ({ frames := 4, cells := 0, slots := 0, locals := 86 }) [.ref (r 0)] ([(r 0, .inr (4, [.ref (qn 0), .ref (qt 0), .ref (r 1), .int (iI sc), .int (iI ((ns : Int))), .ref (r 2)])), (r 1, aS g 4 (fun j => some (qv j 0))), (r 2, .inr (3, [.ref (r 3), .int (iI ((tn : Int))), .int (iI pl)])), (r 3, aI g 60 tx)] ++ (wSt g qn kn ++ (wSt g qt kt ++ (wS4 g qv kv)))) (PE none (wTp g r qn qt qv kn kt kv sc ns tx tn pl)) := by
  refine CT.intro (L0 := [(0, .ref (r 0))]) (own := RX4) (by decide) rfl (Nat.le_of_ble_eq_true rfl) rfl ?_
  intro pX eX sX mX argsX belowX methX cX A C hr hlk
  have hl9 := hnd_le hkt
  refine j_aload_n C 0 dX4_checkTrialRope_0 rfl rfl ?_
  refine j_get C ck4 0 1 (by decide) qw131 rfl rfl dX4_checkTrialRope_1 ?_
  refine j_callV (As := []) (rest := []) C yv_X2_inHand qw327 (c_X2_inHand l g qt kt hkt) (by decide) 12 rfl rfl rfl dX4_checkTrialRope_4 rfl (Nat.le_of_ble_eq_true rfl) (by decide) (pf1 [(r 0, .inr (4, [.ref (qn 0), .ref (qt 0), .ref (r 1), .int (iI sc), .int (iI ((ns : Int))), .ref (r 2)])), (r 1, aS g 4 (fun j => some (qv j 0))), (r 2, .inr (3, [.ref (r 3), .int (iI ((tn : Int))), .int (iI pl)])), (r 3, aI g 60 tx), (qn 0, .inr (2, [.ref (qn 1), .ref (qn 3), .ref (qn 5), .ref (qn 6), .ref (qn 7), .int (iI (kn 0 0))])), (qn 1, .inr (1, [.ref (qn 2), .int (iI (kn 0 2)), .int (iI (kn 0 3)), .int (iI (kn 0 1))])), (qn 2, aI g 10 (kn 1)), (qn 3, .inr (0, [.ref (qn 4), .int (iI (kn 0 9)), .int (iI (kn 0 6)), .int (iI (kn 0 4)), .int (iI (kn 0 5)), .long (lI (kn 0 7)), .long (lI (kn 0 8))])), (qn 4, aI g 48 (kn 2)), (qn 5, aI g 4 (kn 3)), (qn 6, aI g 4 (kn 4)), (qn 7, aI g 4 (kn 5))] (wS4 g qv kv)) rfl (fun r9 w9 hq9 => ?_)
  obtain ⟨rfl, rfl⟩ := hq9
  refine J.to (L1 := [(0, .ref (r 0))]) (S1 := [.int (iI (hnd kt))]) (ws1 := ([(r 0, .inr (4, [.ref (qn 0), .ref (qt 0), .ref (r 1), .int (iI sc), .int (iI ((ns : Int))), .ref (r 2)])), (r 1, aS g 4 (fun j => some (qv j 0))), (r 2, .inr (3, [.ref (r 3), .int (iI ((tn : Int))), .int (iI pl)])), (r 3, aI g 60 tx)] ++ (wSt g qn kn ++ (wSt g qt kt ++ (wS4 g qv kv))))) rfl rfl rfl ?_
  refine j_if_ge (tgt := 20) C (by omega) dX4_checkTrialRope_7 (by decide) (fun c7 => ?_) (fun c7 => absurd c7 (by omega))
  exact j_vret C hr hlk dX4_checkTrialRope_20 ⟨rfl, rfl⟩ (by decide) (by decide)

theorem hng_le {f : Nat → Int} {n : Nat} {E : Int} {ht : Nat → Int} (hn : n ≤ 10) (h : ∀ b, b < 4 → 0 ≤ ht b ∧ ht b ≤ 9000) : ∀ b, b ≤ 4 → hng f n E ht b ≤ b * 210000
  | 0, _ => Int.le_refl _
  | b + 1, hb => by
    have h1 := hng_le (f := f) (n := n) (E := E) hn h b (by omega)
    have h2 := h b (by omega)
    have h4 := strn_rng f n E (b : Int)
    have h3 : strn f n E (b : Int) * (10000 - ht b) ≤ 21 * 10000 := Int.mul_le_mul (by omega) (by omega) (by omega) (by decide)
    rw [hng]
    omega
theorem hnd_ge {k : Nat → Nat → Int} (hk : SOK k) : -1000000 ≤ hnd k := by
  have h1 := hng_le (f := k 1) (n := (k 0 2).toNat) (E := k 0 3) (by have := hk.1; omega) hk.2.2.2.2.2.1 4 (Nat.le_refl _)
  have h2 := hk.2.2.2.2.2.2.1
  unfold hnd
  omega
theorem x_X4_checkTrialRope_no (l : Launch) (hl : l.stackTraces = false) (g : Gh) (r : Nat → Nat) (qn qt : Nat → Nat) (qv : Nat → Nat → Nat) (kn kt : Nat → Nat → Int) (kv : Nat → Nat → Nat → Int) (sc : Int) (ns : Nat) (tx : Nat → Int) (tn : Nat) (pl : Int) (hkt : SOK kt) (hh : hnd kt < 0) : CX l g yX4_checkTrialRope cX4_checkTrialRope 1 none ({ frames := 6, cells := 1, slots := 6, locals := 100 }) [.ref (r 0)] ([(r 0, .inr (4, [.ref (qn 0), .ref (qt 0), .ref (r 1), .int (iI sc), .int (iI ((ns : Int))), .ref (r 2)])), (r 1, aS g 4 (fun j => some (qv j 0))), (r 2, .inr (3, [.ref (r 3), .int (iI ((tn : Int))), .int (iI pl)])), (r 3, aI g 60 tx)] ++ (wSt g qn kn ++ (wSt g qt kt ++ (wS4 g qv kv)))) "java/lang/IllegalStateException" (fun w9 => w9 = wTp g r qn qt qv kn kt kv sc ns tx tn pl) := by
  refine CX.intro (L0 := [(0, .ref (r 0))]) (own := RX4) (by decide) rfl (Nat.le_of_ble_eq_true rfl) rfl ?_
  intro pX eX sX mX argsX belowX methX cX A C hlk hnt
  have hl9 := hnd_le hkt
  have hl8 := hnd_ge hkt
  refine j_aload_n C 0 dX4_checkTrialRope_0 rfl rfl ?_
  refine j_get C ck4 0 1 (by decide) qw131 rfl rfl dX4_checkTrialRope_1 ?_
  refine j_callV (As := []) (rest := []) C yv_X2_inHand qw327 (c_X2_inHand l g qt kt hkt) (by decide) 12 rfl rfl rfl dX4_checkTrialRope_4 rfl (Nat.le_of_ble_eq_true rfl) (by decide) (pf1 [(r 0, .inr (4, [.ref (qn 0), .ref (qt 0), .ref (r 1), .int (iI sc), .int (iI ((ns : Int))), .ref (r 2)])), (r 1, aS g 4 (fun j => some (qv j 0))), (r 2, .inr (3, [.ref (r 3), .int (iI ((tn : Int))), .int (iI pl)])), (r 3, aI g 60 tx), (qn 0, .inr (2, [.ref (qn 1), .ref (qn 3), .ref (qn 5), .ref (qn 6), .ref (qn 7), .int (iI (kn 0 0))])), (qn 1, .inr (1, [.ref (qn 2), .int (iI (kn 0 2)), .int (iI (kn 0 3)), .int (iI (kn 0 1))])), (qn 2, aI g 10 (kn 1)), (qn 3, .inr (0, [.ref (qn 4), .int (iI (kn 0 9)), .int (iI (kn 0 6)), .int (iI (kn 0 4)), .int (iI (kn 0 5)), .long (lI (kn 0 7)), .long (lI (kn 0 8))])), (qn 4, aI g 48 (kn 2)), (qn 5, aI g 4 (kn 3)), (qn 6, aI g 4 (kn 4)), (qn 7, aI g 4 (kn 5))] (wS4 g qv kv)) rfl (fun r9 w9 hq9 => ?_)
  obtain ⟨rfl, rfl⟩ := hq9
  refine J.to (L1 := [(0, .ref (r 0))]) (S1 := [.int (iI (hnd kt))]) (ws1 := ([(r 0, .inr (4, [.ref (qn 0), .ref (qt 0), .ref (r 1), .int (iI sc), .int (iI ((ns : Int))), .ref (r 2)])), (r 1, aS g 4 (fun j => some (qv j 0))), (r 2, .inr (3, [.ref (r 3), .int (iI ((tn : Int))), .int (iI pl)])), (r 3, aI g 60 tx)] ++ (wSt g qn kn ++ (wSt g qt kt ++ (wS4 g qv kv))))) rfl rfl rfl ?_
  refine j_if_ge (tgt := 20) C (by omega) dX4_checkTrialRope_7 (by decide) (fun c7 => absurd c7 (by omega)) (fun c7 => ?_)
  exact j_throw C hl hlk hnt exw_IllegalStateException qw347 qw9 (by decide +kernel) (List.mem_of_getElem? (i := 4) rfl) dX4_checkTrialRope_10 dX4_checkTrialRope_13 dX4_checkTrialRope_14 dX4_checkTrialRope_16 dX4_checkTrialRope_19 ⟨by decide, Nat.le_of_ble_eq_true rfl⟩ ⟨by decide, by decide⟩ rfl ⟨by decide, by decide⟩

