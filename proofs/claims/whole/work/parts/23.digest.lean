/-! RopeTackle: digest -/
section JDG
variable {p : Program} {l : Launch} {e : Env} {R : Room} {s : State} {m : MethodId} {args : Array Value} {below : List Frame} {meth : Method} {c : Code} {g : Gh} {A : Nat → Prop} {cc : ByteArray} {nL : Nat} {own : String} {pc : Nat} {L : List (Nat × Value)} {S : List Value} {ws : va_W} {cells slots : Nat} {Q : State → Prop}
def w32 (x : Int) : Int := (iI x).toInt
theorem w32_eq {x : Int} (hx : -2147483648 ≤ x ∧ x < 2147483648) : w32 x = x := iI_toInt hx
theorem w32_i (x : Int) : (iI x).toInt64 = lI (w32 x) := by
  have h1 := (iI x).le_toInt
  have h2 := (iI x).toInt_lt
  have e : iI (w32 x) = iI x := Int32.ofInt_toInt _
  rw [← e, i2l_ok (by unfold w32; omega)]
theorem j_i2lw (C : Cx p g s m args c cc nL own A) {x : Int} (hd : decode cc pc = .ok (.i2l, 1)) (kk : J p l e R s m args below meth c g A nL (pc + 1) L (.long (lI (w32 x)) :: S) ws cells slots Q) : J p l e R s m args below meth c g A nL pc L (.int (iI x) :: S) ws cells slots Q := by
  intro H locs ls hP hD hS h
  exact lv_i2l C.1 C.2.1 hd (w32_i x) (kk H locs ls hP hD hS h)
end JDG
def dgA (k : Nat → Nat → Int) (tn : Int) : Nat → Int
  | 0 => 112313 + tn
  | w + 1 => 31 * dgA k tn w + w32 (valF k (w : Int))
def dgB (k : Nat → Nat → Int) (tn : Int) : Int := 31 * (31 * dgA k tn 10 + k 0 7) + k 0 8
noncomputable def dgC (h0 : Int) (k : Nat → Nat → Int) : Nat → Int
  | 0 => h0
  | j + 1 => 31 * dgC h0 k j + w32 (blkF k ((j / 7 : Nat) : Int) ((j % 7 : Nat) : Int))
theorem dgC_s {h0 : Int} {k : Nat → Nat → Int} {b w : Nat} (hw : w < 7) : dgC h0 k (7 * b + (w + 1)) = 31 * dgC h0 k (7 * b + w) + w32 (blkF k (b : Int) (w : Int)) := by
  show 31 * dgC h0 k (7 * b + w) + w32 (blkF k (((7 * b + w) / 7 : Nat) : Int) (((7 * b + w) % 7 : Nat) : Int)) = _
  rw [show (7 * b + w) / 7 = b by omega, show (7 * b + w) % 7 = w by omega]
def dgD (h0 : Int) (k : Nat → Nat → Int) : Nat → Int
  | 0 => h0
  | i + 1 => 31 * dgD h0 k i + k 1 i
def dgE (h0 : Int) (k : Nat → Nat → Int) : Nat → Int
  | 0 => h0
  | j + 1 => 31 * dgE h0 k j + k 2 ((k 0 9 - ((j / 3 : Nat) : Int)) % 16 * 3 + ((j % 3 : Nat) : Int)).toNat
theorem dgE_s {h0 : Int} {k : Nat → Nat → Int} {b w : Nat} (hw : w < 3) : dgE h0 k (3 * b + (w + 1)) = 31 * dgE h0 k (3 * b + w) + k 2 ((k 0 9 - (b : Int)) % 16 * 3 + (w : Int)).toNat := by
  show 31 * dgE h0 k (3 * b + w) + k 2 ((k 0 9 - (((3 * b + w) / 3 : Nat) : Int)) % 16 * 3 + (((3 * b + w) % 3 : Nat) : Int)).toNat = _
  rw [show (3 * b + w) / 3 = b by omega, show (3 * b + w) % 3 = w by omega]
noncomputable def dig (k : Nat → Nat → Int) (tn sc : Int) : Int := 31 * dgE (dgD (dgC (dgB k tn) k 28) k (k 0 2).toNat) k (3 * (k 0 6).toNat) + sc
def POK (k : Nat → Nat → Int) : Prop := ∀ j, j < 48 → -1000000 ≤ k 2 j ∧ k 2 j ≤ 1000000
theorem lp_dg1 {p : Program} {l : Launch} {e : Env} {s : State} {m : MethodId} {args : Array Value} {below : List Frame} {meth : Method} {c : Code} {g : Gh} {A : Nat → Prop} {Q : State → Prop} (C : Cx p g s m args c cX4_digest 5 RX4 A) {r : Nat → Nat} {qn qt : Nat → Nat} {qv : Nat → Nat → Nat} {kn kt : Nat → Nat → Int} {kv : Nat → Nat → Nat → Int} {sc : Int} {ns : Nat} {tx : Nat → Int} {tn : Nat} {pl : Int} (hT : TOK kn kv sc ns tx tn)  (kk : J p l e ({ frames := 5, cells := 0, slots := 0, locals := 126 } : Room) s m args below meth c g A 5 40 [(0, .ref (r 0)), (1, .long (lI (dgA kn (tn : Int) 10)))] [] ([(r 0, .inr (4, [.ref (qn 0), .ref (qt 0), .ref (r 1), .int (iI sc), .int (iI ((ns : Int))), .ref (r 2)])), (r 1, aS g 4 (fun j => some (qv j 0))), (r 2, .inr (3, [.ref (r 3), .int (iI ((tn : Int))), .int (iI pl)])), (r 3, aI g 60 tx)] ++ (wSt g qn kn ++ (wSt g qt kt ++ (wS4 g qv kv)))) 0 0 Q) : ∀ (n i : Nat), i + n = 10 → J p l e ({ frames := 5, cells := 0, slots := 0, locals := 126 } : Room) s m args below meth c g A 5 15 [(0, .ref (r 0)), (1, .long (lI (dgA kn (tn : Int) i))), (3, .int (iI ((i : Int))))] [] ([(r 0, .inr (4, [.ref (qn 0), .ref (qt 0), .ref (r 1), .int (iI sc), .int (iI ((ns : Int))), .ref (r 2)])), (r 1, aS g 4 (fun j => some (qv j 0))), (r 2, .inr (3, [.ref (r 3), .int (iI ((tn : Int))), .int (iI pl)])), (r 3, aI g 60 tx)] ++ (wSt g qn kn ++ (wSt g qt kt ++ (wS4 g qv kv)))) 0 0 Q := by
  intro n
  induction n with
  | zero =>
    intro i hi
    refine j_iload_n C 2 dX4_digest_15 rfl rfl ?_
    refine j_bipush C dX4_digest_16 (by decide) ?_
    refine j_icmp_gt (tgt := 40) C (by omega) (by decide) dX4_digest_18 (by decide) (fun c18 => ?_) (fun c18 => absurd c18 (by omega))
    refine J.sub (L1 := [(0, .ref (r 0)), (1, .long (lI (dgA kn (tn : Int) i)))]) [0, 1] rfl ?_
    rw [show i = 10 by omega]
    exact kk
  | succ n ih =>
    intro i hi
    obtain ⟨⟨hk, hh0⟩, hkv, hsc, hns, htn, htx⟩ := id hT
    obtain ⟨hP, hE0, hF, hrow0, hwt, hht, hlen, hlat, hkept⟩ := id hk
    have hE : -10 ≤ kn 0 3 ∧ kn 0 3 ≤ 10 := by omega
    have hrow : ∀ i : Nat, (i : Int) < kn 0 2 → 0 ≤ kn 1 i ∧ kn 1 i ≤ 4 := fun i hi => by have := hrow0 i hi; omega
    have hc2 : cpS kn kt 0 2 = kn 0 2 := rfl
    have hhnd : 0 ≤ hnd kn ∧ hnd kn ≤ 300000 := ⟨hh0, hnd_le hk⟩
    refine j_iload_n C 2 dX4_digest_15 rfl rfl ?_
    refine j_bipush C dX4_digest_16 (by decide) ?_
    refine j_icmp_gt (tgt := 40) C (by omega) (by decide) dX4_digest_18 (by decide) (fun c18 => absurd c18 (by omega)) (fun c18 => ?_)
    refine j_ldc2 (x := 31) C qw313 (by decide) dX4_digest_21 ?_
    refine j_lload_n C 1 dX4_digest_24 rfl rfl ?_
    refine j_lmul C dX4_digest_25 ?_
    refine j_aload_n C 0 dX4_digest_26 rfl rfl ?_
    refine j_iload_n C 2 dX4_digest_27 rfl rfl ?_
    refine j_callV (As := [.int (iI ((i : Int)))]) (rest := [.long (lI (31 * (dgA kn (tn : Int) i)))]) C yv_X4_value qw314 (c_X4_value l g r qn qt qv kn kt kv sc ns tx tn pl ((i : Int)) hT (by omega)) (by decide) 0 rfl rfl rfl dX4_digest_28 rfl (Nat.le_of_ble_eq_true rfl) (by decide) pf0 rfl (fun r9 w9 hq9 => ?_)
    obtain ⟨rfl, rfl⟩ := hq9
    refine J.to (L1 := [(0, .ref (r 0)), (1, .long (lI (dgA kn (tn : Int) i))), (3, .int (iI ((i : Int))))]) (S1 := [.int (iI (valF kn ((i : Int)))), .long (lI (31 * (dgA kn (tn : Int) i)))]) (ws1 := ([(r 0, .inr (4, [.ref (qn 0), .ref (qt 0), .ref (r 1), .int (iI sc), .int (iI ((ns : Int))), .ref (r 2)])), (r 1, aS g 4 (fun j => some (qv j 0))), (r 2, .inr (3, [.ref (r 3), .int (iI ((tn : Int))), .int (iI pl)])), (r 3, aI g 60 tx)] ++ (wSt g qn kn ++ (wSt g qt kt ++ (wS4 g qv kv))))) rfl rfl rfl ?_
    refine j_i2lw C dX4_digest_31 ?_
    refine j_ladd C dX4_digest_32 ?_
    refine j_lstore_n (L1 := [(1, .long (lI ((31 * (dgA kn (tn : Int) i)) + (w32 (valF kn ((i : Int))))))), (0, .ref (r 0)), (3, .int (iI ((i : Int))))]) C dX4_digest_33 rfl (by decide) rfl ?_
    refine j_iinc (L1 := [(3, .int (iI (((i : Int)) + 1))), (1, .long (lI ((31 * (dgA kn (tn : Int) i)) + (w32 (valF kn ((i : Int))))))), (0, .ref (r 0))]) C 2 dX4_digest_34 rfl (by decide) rfl ?_
    refine j_goto (tgt := 15) C dX4_digest_37 (by decide) ?_
    refine J.sub (L1 := [(0, .ref (r 0)), (1, .long (lI ((31 * (dgA kn (tn : Int) i)) + (w32 (valF kn ((i : Int))))))), (3, .int (iI (((i : Int)) + 1)))]) [2, 1, 0] rfl ?_
    exact ih (i + 1) (by omega)

theorem lp_dg3 {p : Program} {l : Launch} {e : Env} {s : State} {m : MethodId} {args : Array Value} {below : List Frame} {meth : Method} {c : Code} {g : Gh} {A : Nat → Prop} {Q : State → Prop} (C : Cx p g s m args c cX4_digest 5 RX4 A) {r : Nat → Nat} {qn qt : Nat → Nat} {qv : Nat → Nat → Nat} {kn kt : Nat → Nat → Int} {kv : Nat → Nat → Nat → Int} {sc : Int} {ns : Nat} {tx : Nat → Int} {tn : Nat} {pl : Int} (hT : TOK kn kv sc ns tx tn) {b : Nat} {h0 : Int} (hb9 : b < 4) (kk : J p l e ({ frames := 5, cells := 0, slots := 0, locals := 126 } : Room) s m args below meth c g A 5 102 [(0, .ref (r 0)), (1, .long (lI (dgC h0 kn (7 * b + 7)))), (3, .int (iI ((b : Int))))] [] ([(r 0, .inr (4, [.ref (qn 0), .ref (qt 0), .ref (r 1), .int (iI sc), .int (iI ((ns : Int))), .ref (r 2)])), (r 1, aS g 4 (fun j => some (qv j 0))), (r 2, .inr (3, [.ref (r 3), .int (iI ((tn : Int))), .int (iI pl)])), (r 3, aI g 60 tx)] ++ (wSt g qn kn ++ (wSt g qt kt ++ (wS4 g qv kv)))) 0 0 Q) : ∀ (n w : Nat), w + n = 7 → J p l e ({ frames := 5, cells := 0, slots := 0, locals := 126 } : Room) s m args below meth c g A 5 74 [(0, .ref (r 0)), (1, .long (lI (dgC h0 kn (7 * b + w)))), (3, .int (iI ((b : Int)))), (4, .int (iI ((w : Int))))] [] ([(r 0, .inr (4, [.ref (qn 0), .ref (qt 0), .ref (r 1), .int (iI sc), .int (iI ((ns : Int))), .ref (r 2)])), (r 1, aS g 4 (fun j => some (qv j 0))), (r 2, .inr (3, [.ref (r 3), .int (iI ((tn : Int))), .int (iI pl)])), (r 3, aI g 60 tx)] ++ (wSt g qn kn ++ (wSt g qt kt ++ (wS4 g qv kv)))) 0 0 Q := by
  intro n
  induction n with
  | zero =>
    intro w hi
    refine j_iload C 3 dX4_digest_74 rfl ?_
    refine j_bipush C dX4_digest_76 (by decide) ?_
    refine j_icmp_gt (tgt := 102) C (by omega) (by decide) dX4_digest_78 (by decide) (fun c78 => ?_) (fun c78 => absurd c78 (by omega))
    refine J.sub (L1 := [(0, .ref (r 0)), (1, .long (lI (dgC h0 kn (7 * b + w)))), (3, .int (iI ((b : Int))))]) [0, 1, 2] rfl ?_
    rw [show w = 7 by omega]
    exact kk
  | succ n ih =>
    intro w hi
    obtain ⟨⟨hk, hh0⟩, hkv, hsc, hns, htn, htx⟩ := id hT
    obtain ⟨hP, hE0, hF, hrow0, hwt, hht, hlen, hlat, hkept⟩ := id hk
    have hE : -10 ≤ kn 0 3 ∧ kn 0 3 ≤ 10 := by omega
    have hrow : ∀ i : Nat, (i : Int) < kn 0 2 → 0 ≤ kn 1 i ∧ kn 1 i ≤ 4 := fun i hi => by have := hrow0 i hi; omega
    have hc2 : cpS kn kt 0 2 = kn 0 2 := rfl
    have hhnd : 0 ≤ hnd kn ∧ hnd kn ≤ 300000 := ⟨hh0, hnd_le hk⟩
    refine j_iload C 3 dX4_digest_74 rfl ?_
    refine j_bipush C dX4_digest_76 (by decide) ?_
    refine j_icmp_gt (tgt := 102) C (by omega) (by decide) dX4_digest_78 (by decide) (fun c78 => absurd c78 (by omega)) (fun c78 => ?_)
    refine j_ldc2 (x := 31) C qw313 (by decide) dX4_digest_81 ?_
    refine j_lload_n C 1 dX4_digest_84 rfl rfl ?_
    refine j_lmul C dX4_digest_85 ?_
    refine j_aload_n C 0 dX4_digest_86 rfl rfl ?_
    refine j_iload_n C 2 dX4_digest_87 rfl rfl ?_
    refine j_iload C 3 dX4_digest_88 rfl ?_
    refine j_callV (As := [.int (iI ((b : Int))), .int (iI ((w : Int)))]) (rest := [.long (lI (31 * (dgC h0 kn (7 * b + w))))]) C yv_X4_block qw392 (c_X4_block l g r qn qt qv kn kt kv sc ns tx tn pl ((b : Int)) ((w : Int)) hT (by omega) (by omega)) (by decide) 0 rfl rfl rfl dX4_digest_90 rfl (Nat.le_of_ble_eq_true rfl) (by decide) pf0 rfl (fun r9 w9 hq9 => ?_)
    obtain ⟨rfl, rfl⟩ := hq9
    refine J.to (L1 := [(0, .ref (r 0)), (1, .long (lI (dgC h0 kn (7 * b + w)))), (3, .int (iI ((b : Int)))), (4, .int (iI ((w : Int))))]) (S1 := [.int (iI (blkF kn ((b : Int)) ((w : Int)))), .long (lI (31 * (dgC h0 kn (7 * b + w))))]) (ws1 := ([(r 0, .inr (4, [.ref (qn 0), .ref (qt 0), .ref (r 1), .int (iI sc), .int (iI ((ns : Int))), .ref (r 2)])), (r 1, aS g 4 (fun j => some (qv j 0))), (r 2, .inr (3, [.ref (r 3), .int (iI ((tn : Int))), .int (iI pl)])), (r 3, aI g 60 tx)] ++ (wSt g qn kn ++ (wSt g qt kt ++ (wS4 g qv kv))))) rfl rfl rfl ?_
    refine j_i2lw C dX4_digest_93 ?_
    refine j_ladd C dX4_digest_94 ?_
    refine j_lstore_n (L1 := [(1, .long (lI ((31 * (dgC h0 kn (7 * b + w))) + (w32 (blkF kn ((b : Int)) ((w : Int))))))), (0, .ref (r 0)), (3, .int (iI ((b : Int)))), (4, .int (iI ((w : Int))))]) C dX4_digest_95 rfl (by decide) rfl ?_
    refine j_iinc (L1 := [(4, .int (iI (((w : Int)) + 1))), (1, .long (lI ((31 * (dgC h0 kn (7 * b + w))) + (w32 (blkF kn ((b : Int)) ((w : Int))))))), (0, .ref (r 0)), (3, .int (iI ((b : Int))))]) C 3 dX4_digest_96 rfl (by decide) rfl ?_
    refine j_goto (tgt := 74) C dX4_digest_99 (by decide) ?_
    refine J.sub (L1 := [(0, .ref (r 0)), (1, .long (lI ((31 * (dgC h0 kn (7 * b + w))) + (w32 (blkF kn ((b : Int)) ((w : Int))))))), (3, .int (iI ((b : Int)))), (4, .int (iI (((w : Int)) + 1)))]) [2, 1, 3, 0] rfl ?_
    rw [← dgC_s (by omega)]
    exact ih (w + 1) (by omega)

theorem lp_dg2 {p : Program} {l : Launch} {e : Env} {s : State} {m : MethodId} {args : Array Value} {below : List Frame} {meth : Method} {c : Code} {g : Gh} {A : Nat → Prop} {Q : State → Prop} (C : Cx p g s m args c cX4_digest 5 RX4 A) {r : Nat → Nat} {qn qt : Nat → Nat} {qv : Nat → Nat → Nat} {kn kt : Nat → Nat → Int} {kv : Nat → Nat → Nat → Int} {sc : Int} {ns : Nat} {tx : Nat → Int} {tn : Nat} {pl : Int} (hT : TOK kn kv sc ns tx tn) {h0 : Int} (kk : J p l e ({ frames := 5, cells := 0, slots := 0, locals := 126 } : Room) s m args below meth c g A 5 108 [(0, .ref (r 0)), (1, .long (lI (dgC h0 kn 28)))] [] ([(r 0, .inr (4, [.ref (qn 0), .ref (qt 0), .ref (r 1), .int (iI sc), .int (iI ((ns : Int))), .ref (r 2)])), (r 1, aS g 4 (fun j => some (qv j 0))), (r 2, .inr (3, [.ref (r 3), .int (iI ((tn : Int))), .int (iI pl)])), (r 3, aI g 60 tx)] ++ (wSt g qn kn ++ (wSt g qt kt ++ (wS4 g qv kv)))) 0 0 Q) : ∀ (n b : Nat), b + n = 4 → J p l e ({ frames := 5, cells := 0, slots := 0, locals := 126 } : Room) s m args below meth c g A 5 66 [(0, .ref (r 0)), (1, .long (lI (dgC h0 kn (7 * b)))), (3, .int (iI ((b : Int))))] [] ([(r 0, .inr (4, [.ref (qn 0), .ref (qt 0), .ref (r 1), .int (iI sc), .int (iI ((ns : Int))), .ref (r 2)])), (r 1, aS g 4 (fun j => some (qv j 0))), (r 2, .inr (3, [.ref (r 3), .int (iI ((tn : Int))), .int (iI pl)])), (r 3, aI g 60 tx)] ++ (wSt g qn kn ++ (wSt g qt kt ++ (wS4 g qv kv)))) 0 0 Q := by
  intro n
  induction n with
  | zero =>
    intro b hi
    refine j_iload_n C 2 dX4_digest_66 rfl rfl ?_
    refine j_iconst C dX4_digest_67 ?_
    refine j_icmp_ge (tgt := 108) C (by omega) (by decide) dX4_digest_68 (by decide) (fun c68 => ?_) (fun c68 => absurd c68 (by omega))
    refine J.sub (L1 := [(0, .ref (r 0)), (1, .long (lI (dgC h0 kn (7 * b))))]) [0, 1] rfl ?_
    rw [show b = 4 by omega]
    exact kk
  | succ n ih =>
    intro b hi
    obtain ⟨⟨hk, hh0⟩, hkv, hsc, hns, htn, htx⟩ := id hT
    obtain ⟨hP, hE0, hF, hrow0, hwt, hht, hlen, hlat, hkept⟩ := id hk
    have hE : -10 ≤ kn 0 3 ∧ kn 0 3 ≤ 10 := by omega
    have hrow : ∀ i : Nat, (i : Int) < kn 0 2 → 0 ≤ kn 1 i ∧ kn 1 i ≤ 4 := fun i hi => by have := hrow0 i hi; omega
    have hc2 : cpS kn kt 0 2 = kn 0 2 := rfl
    have hhnd : 0 ≤ hnd kn ∧ hnd kn ≤ 300000 := ⟨hh0, hnd_le hk⟩
    refine j_iload_n C 2 dX4_digest_66 rfl rfl ?_
    refine j_iconst C dX4_digest_67 ?_
    refine j_icmp_ge (tgt := 108) C (by omega) (by decide) dX4_digest_68 (by decide) (fun c68 => absurd c68 (by omega)) (fun c68 => ?_)
    refine j_iconst C dX4_digest_71 ?_
    refine j_istore (L1 := [(4, .int (iI 0)), (0, .ref (r 0)), (1, .long (lI (dgC h0 kn (7 * b)))), (3, .int (iI ((b : Int))))]) C dX4_digest_72 (by decide) rfl ?_
    refine J.sub (L1 := [(0, .ref (r 0)), (1, .long (lI (dgC h0 kn (7 * b)))), (3, .int (iI ((b : Int)))), (4, .int (iI 0))]) [1, 2, 3, 0] rfl ?_
    refine lp_dg3 C hT (b := b) (h0 := h0) (by omega) ?_ 7 0 (by omega)
    refine j_iinc (L1 := [(3, .int (iI (((b : Int)) + 1))), (0, .ref (r 0)), (1, .long (lI (dgC h0 kn (7 * b + 7))))]) C 2 dX4_digest_102 rfl (by decide) rfl ?_
    refine j_goto (tgt := 66) C dX4_digest_105 (by decide) ?_
    refine J.sub (L1 := [(0, .ref (r 0)), (1, .long (lI (dgC h0 kn (7 * b + 7)))), (3, .int (iI (((b : Int)) + 1)))]) [1, 2, 0] rfl ?_
    exact ih (b + 1) (by omega)

theorem lp_dg4 {p : Program} {l : Launch} {e : Env} {s : State} {m : MethodId} {args : Array Value} {below : List Frame} {meth : Method} {c : Code} {g : Gh} {A : Nat → Prop} {Q : State → Prop} (C : Cx p g s m args c cX4_digest 5 RX4 A) {r : Nat → Nat} {qn qt : Nat → Nat} {qv : Nat → Nat → Nat} {kn kt : Nat → Nat → Int} {kv : Nat → Nat → Nat → Int} {sc : Int} {ns : Nat} {tx : Nat → Int} {tn : Nat} {pl : Int} (hT : TOK kn kv sc ns tx tn) {h0 : Int} (kk : J p l e ({ frames := 5, cells := 0, slots := 0, locals := 126 } : Room) s m args below meth c g A 5 152 [(0, .ref (r 0)), (1, .long (lI (dgD h0 kn (kn 0 2).toNat)))] [] ([(r 0, .inr (4, [.ref (qn 0), .ref (qt 0), .ref (r 1), .int (iI sc), .int (iI ((ns : Int))), .ref (r 2)])), (r 1, aS g 4 (fun j => some (qv j 0))), (r 2, .inr (3, [.ref (r 3), .int (iI ((tn : Int))), .int (iI pl)])), (r 3, aI g 60 tx)] ++ (wSt g qn kn ++ (wSt g qt kt ++ (wS4 g qv kv)))) 0 0 Q) : ∀ (n i : Nat), (i : Int) + n = kn 0 2 → J p l e ({ frames := 5, cells := 0, slots := 0, locals := 126 } : Room) s m args below meth c g A 5 110 [(0, .ref (r 0)), (1, .long (lI (dgD h0 kn i))), (3, .int (iI ((i : Int))))] [] ([(r 0, .inr (4, [.ref (qn 0), .ref (qt 0), .ref (r 1), .int (iI sc), .int (iI ((ns : Int))), .ref (r 2)])), (r 1, aS g 4 (fun j => some (qv j 0))), (r 2, .inr (3, [.ref (r 3), .int (iI ((tn : Int))), .int (iI pl)])), (r 3, aI g 60 tx)] ++ (wSt g qn kn ++ (wSt g qt kt ++ (wS4 g qv kv)))) 0 0 Q := by
  intro n
  induction n with
  | zero =>
    intro i hi
    obtain ⟨⟨hk, hh0⟩, hkv, hsc, hns, htn, htx⟩ := id hT
    obtain ⟨hP, hE0, hF, hrow0, hwt, hht, hlen, hlat, hkept⟩ := id hk
    have hE : -10 ≤ kn 0 3 ∧ kn 0 3 ≤ 10 := by omega
    have hrow : ∀ i : Nat, (i : Int) < kn 0 2 → 0 ≤ kn 1 i ∧ kn 1 i ≤ 4 := fun i hi => by have := hrow0 i hi; omega
    have hc2 : cpS kn kt 0 2 = kn 0 2 := rfl
    have hhnd : 0 ≤ hnd kn ∧ hnd kn ≤ 300000 := ⟨hh0, hnd_le hk⟩
    refine j_iload_n C 2 dX4_digest_110 rfl rfl ?_
    refine j_aload_n C 0 dX4_digest_111 rfl rfl ?_
    refine j_get C ck4 0 0 (by decide) qw131 rfl rfl dX4_digest_112 ?_
    refine j_getN C ck2 4 0 (by decide) qn91 rfl rfl dX4_digest_115 ?_
    refine j_getN C ck1 5 1 (by decide) qn37 rfl rfl dX4_digest_118 ?_
    refine j_icmp_ge (tgt := 152) C (by omega) (by omega) dX4_digest_121 (by decide) (fun c121 => ?_) (fun c121 => absurd c121 (by omega))
    refine J.sub (L1 := [(0, .ref (r 0)), (1, .long (lI (dgD h0 kn i)))]) [0, 1] rfl ?_
    rw [show i = (kn 0 2).toNat by omega]
    exact kk
  | succ n ih =>
    intro i hi
    obtain ⟨⟨hk, hh0⟩, hkv, hsc, hns, htn, htx⟩ := id hT
    obtain ⟨hP, hE0, hF, hrow0, hwt, hht, hlen, hlat, hkept⟩ := id hk
    have hE : -10 ≤ kn 0 3 ∧ kn 0 3 ≤ 10 := by omega
    have hrow : ∀ i : Nat, (i : Int) < kn 0 2 → 0 ≤ kn 1 i ∧ kn 1 i ≤ 4 := fun i hi => by have := hrow0 i hi; omega
    have hc2 : cpS kn kt 0 2 = kn 0 2 := rfl
    have hhnd : 0 ≤ hnd kn ∧ hnd kn ≤ 300000 := ⟨hh0, hnd_le hk⟩
    have hr9 := hrow0 i (by omega)
    refine j_iload_n C 2 dX4_digest_110 rfl rfl ?_
    refine j_aload_n C 0 dX4_digest_111 rfl rfl ?_
    refine j_get C ck4 0 0 (by decide) qw131 rfl rfl dX4_digest_112 ?_
    refine j_getN C ck2 4 0 (by decide) qn91 rfl rfl dX4_digest_115 ?_
    refine j_getN C ck1 5 1 (by decide) qn37 rfl rfl dX4_digest_118 ?_
    refine j_icmp_ge (tgt := 152) C (by omega) (by omega) dX4_digest_121 (by decide) (fun c121 => absurd c121 (by omega)) (fun c121 => ?_)
    refine j_ldc2 (x := 31) C qw313 (by decide) dX4_digest_124 ?_
    refine j_lload_n C 1 dX4_digest_127 rfl rfl ?_
    refine j_lmul C dX4_digest_128 ?_
    refine j_aload_n C 0 dX4_digest_129 rfl rfl ?_
    refine j_get C ck4 0 0 (by decide) qw131 rfl rfl dX4_digest_130 ?_
    refine j_getN C ck2 4 0 (by decide) qn91 rfl rfl dX4_digest_133 ?_
    refine j_getN C ck1 5 0 (by decide) qn35 rfl rfl dX4_digest_136 ?_
    refine j_iload_n C 2 dX4_digest_139 rfl rfl ?_
    refine j_callS (As := [.ref (qn 2), .int (iI ((i : Int)))]) (rest := [.long (lI (31 * (dgD h0 kn i)))]) C ys_X4_at qw421 (c_X4_at l g (qn 2) 10 (kn 1) ((i : Int)) i (by omega) (by omega) (by decide)) (by decide) rfl dX4_digest_140 rfl (Nat.le_of_ble_eq_true rfl) (by decide) (pf1 [(r 0, .inr (4, [.ref (qn 0), .ref (qt 0), .ref (r 1), .int (iI sc), .int (iI ((ns : Int))), .ref (r 2)])), (r 1, aS g 4 (fun j => some (qv j 0))), (r 2, .inr (3, [.ref (r 3), .int (iI ((tn : Int))), .int (iI pl)])), (r 3, aI g 60 tx), (qn 0, .inr (2, [.ref (qn 1), .ref (qn 3), .ref (qn 5), .ref (qn 6), .ref (qn 7), .int (iI (kn 0 0))])), (qn 1, .inr (1, [.ref (qn 2), .int (iI (kn 0 2)), .int (iI (kn 0 3)), .int (iI (kn 0 1))]))] ([(qn 3, .inr (0, [.ref (qn 4), .int (iI (kn 0 9)), .int (iI (kn 0 6)), .int (iI (kn 0 4)), .int (iI (kn 0 5)), .long (lI (kn 0 7)), .long (lI (kn 0 8))])), (qn 4, aI g 48 (kn 2)), (qn 5, aI g 4 (kn 3)), (qn 6, aI g 4 (kn 4)), (qn 7, aI g 4 (kn 5))] ++ (wSt g qt kt ++ (wS4 g qv kv)))) rfl (fun r9 w9 hq9 => ?_)
    obtain ⟨rfl, rfl⟩ := hq9
    refine J.to (L1 := [(0, .ref (r 0)), (1, .long (lI (dgD h0 kn i))), (3, .int (iI ((i : Int))))]) (S1 := [.int (iI ((kn 1) i)), .long (lI (31 * (dgD h0 kn i)))]) (ws1 := ([(r 0, .inr (4, [.ref (qn 0), .ref (qt 0), .ref (r 1), .int (iI sc), .int (iI ((ns : Int))), .ref (r 2)])), (r 1, aS g 4 (fun j => some (qv j 0))), (r 2, .inr (3, [.ref (r 3), .int (iI ((tn : Int))), .int (iI pl)])), (r 3, aI g 60 tx)] ++ (wSt g qn kn ++ (wSt g qt kt ++ (wS4 g qv kv))))) rfl rfl rfl ?_
    refine j_i2l C (by omega) dX4_digest_143 ?_
    refine j_ladd C dX4_digest_144 ?_
    refine j_lstore_n (L1 := [(1, .long (lI ((31 * (dgD h0 kn i)) + ((kn 1) i)))), (0, .ref (r 0)), (3, .int (iI ((i : Int))))]) C dX4_digest_145 rfl (by decide) rfl ?_
    refine j_iinc (L1 := [(3, .int (iI (((i : Int)) + 1))), (1, .long (lI ((31 * (dgD h0 kn i)) + ((kn 1) i)))), (0, .ref (r 0))]) C 2 dX4_digest_146 rfl (by decide) rfl ?_
    refine j_goto (tgt := 110) C dX4_digest_149 (by decide) ?_
    refine J.sub (L1 := [(0, .ref (r 0)), (1, .long (lI ((31 * (dgD h0 kn i)) + ((kn 1) i)))), (3, .int (iI (((i : Int)) + 1)))]) [2, 1, 0] rfl ?_
    exact ih (i + 1) (by omega)

theorem lp_dg6 {p : Program} {l : Launch} {e : Env} {s : State} {m : MethodId} {args : Array Value} {below : List Frame} {meth : Method} {c : Code} {g : Gh} {A : Nat → Prop} {Q : State → Prop} (C : Cx p g s m args c cX4_digest 5 RX4 A) {r : Nat → Nat} {qn qt : Nat → Nat} {qv : Nat → Nat → Nat} {kn kt : Nat → Nat → Int} {kv : Nat → Nat → Nat → Int} {sc : Int} {ns : Nat} {tx : Nat → Int} {tn : Nat} {pl : Int} (hT : TOK kn kv sc ns tx tn) {x : Nat} {h0 : Int} (hpk : POK kn) (hx9 : (x : Int) < kn 0 6) (kk : J p l e ({ frames := 5, cells := 0, slots := 0, locals := 126 } : Room) s m args below meth c g A 5 204 [(0, .ref (r 0)), (1, .long (lI (dgE h0 kn (3 * x + 3)))), (3, .int (iI ((x : Int))))] [] ([(r 0, .inr (4, [.ref (qn 0), .ref (qt 0), .ref (r 1), .int (iI sc), .int (iI ((ns : Int))), .ref (r 2)])), (r 1, aS g 4 (fun j => some (qv j 0))), (r 2, .inr (3, [.ref (r 3), .int (iI ((tn : Int))), .int (iI pl)])), (r 3, aI g 60 tx)] ++ (wSt g qn kn ++ (wSt g qt kt ++ (wS4 g qv kv)))) 0 0 Q) : ∀ (n w : Nat), w + n = 3 → J p l e ({ frames := 5, cells := 0, slots := 0, locals := 126 } : Room) s m args below meth c g A 5 171 [(0, .ref (r 0)), (1, .long (lI (dgE h0 kn (3 * x + w)))), (3, .int (iI ((x : Int)))), (4, .int (iI ((w : Int))))] [] ([(r 0, .inr (4, [.ref (qn 0), .ref (qt 0), .ref (r 1), .int (iI sc), .int (iI ((ns : Int))), .ref (r 2)])), (r 1, aS g 4 (fun j => some (qv j 0))), (r 2, .inr (3, [.ref (r 3), .int (iI ((tn : Int))), .int (iI pl)])), (r 3, aI g 60 tx)] ++ (wSt g qn kn ++ (wSt g qt kt ++ (wS4 g qv kv)))) 0 0 Q := by
  intro n
  induction n with
  | zero =>
    intro w hi
    refine j_iload C 3 dX4_digest_171 rfl ?_
    refine j_iconst C dX4_digest_173 ?_
    refine j_icmp_ge (tgt := 204) C (by omega) (by decide) dX4_digest_174 (by decide) (fun c174 => ?_) (fun c174 => absurd c174 (by omega))
    refine J.sub (L1 := [(0, .ref (r 0)), (1, .long (lI (dgE h0 kn (3 * x + w)))), (3, .int (iI ((x : Int))))]) [0, 1, 2] rfl ?_
    rw [show w = 3 by omega]
    exact kk
  | succ n ih =>
    intro w hi
    obtain ⟨⟨hk, hh0⟩, hkv, hsc, hns, htn, htx⟩ := id hT
    obtain ⟨hP, hE0, hF, hrow0, hwt, hht, hlen, hlat, hkept⟩ := id hk
    have hE : -10 ≤ kn 0 3 ∧ kn 0 3 ≤ 10 := by omega
    have hrow : ∀ i : Nat, (i : Int) < kn 0 2 → 0 ≤ kn 1 i ∧ kn 1 i ≤ 4 := fun i hi => by have := hrow0 i hi; omega
    have hc2 : cpS kn kt 0 2 = kn 0 2 := rfl
    have hhnd : 0 ≤ hnd kn ∧ hnd kn ≤ 300000 := ⟨hh0, hnd_le hk⟩
    have hp9 := hpk ((kn 0 9 - (x : Int)) % 16 * 3 + (w : Int)).toNat (by omega)
    refine j_iload C 3 dX4_digest_171 rfl ?_
    refine j_iconst C dX4_digest_173 ?_
    refine j_icmp_ge (tgt := 204) C (by omega) (by decide) dX4_digest_174 (by decide) (fun c174 => absurd c174 (by omega)) (fun c174 => ?_)
    refine j_ldc2 (x := 31) C qw313 (by decide) dX4_digest_177 ?_
    refine j_lload_n C 1 dX4_digest_180 rfl rfl ?_
    refine j_lmul C dX4_digest_181 ?_
    refine j_aload_n C 0 dX4_digest_182 rfl rfl ?_
    refine j_get C ck4 0 0 (by decide) qw131 rfl rfl dX4_digest_183 ?_
    refine j_getN C ck2 4 1 (by decide) qn93 rfl rfl dX4_digest_186 ?_
    refine j_iload_n C 2 dX4_digest_189 rfl rfl ?_
    refine j_iload C 3 dX4_digest_190 rfl ?_
    refine j_callV (As := [.int (iI ((x : Int))), .int (iI ((w : Int)))]) (rest := [.long (lI (31 * (dgE h0 kn (3 * x + w))))]) C yv_X0_part qw422 (c_X0_part l g (qn 3) (qn 4) (kn 2) (kn 0 9) (kn 0 6) (kn 0 4) (kn 0 5) (kn 0 7) (kn 0 8) ((x : Int)) ((w : Int)) (by omega) (by omega) (by omega)) (by decide) 7 rfl rfl rfl dX4_digest_192 rfl (Nat.le_of_ble_eq_true rfl) (by decide) (pf1 [(r 0, .inr (4, [.ref (qn 0), .ref (qt 0), .ref (r 1), .int (iI sc), .int (iI ((ns : Int))), .ref (r 2)])), (r 1, aS g 4 (fun j => some (qv j 0))), (r 2, .inr (3, [.ref (r 3), .int (iI ((tn : Int))), .int (iI pl)])), (r 3, aI g 60 tx), (qn 0, .inr (2, [.ref (qn 1), .ref (qn 3), .ref (qn 5), .ref (qn 6), .ref (qn 7), .int (iI (kn 0 0))])), (qn 1, .inr (1, [.ref (qn 2), .int (iI (kn 0 2)), .int (iI (kn 0 3)), .int (iI (kn 0 1))])), (qn 2, aI g 10 (kn 1))] ([(qn 5, aI g 4 (kn 3)), (qn 6, aI g 4 (kn 4)), (qn 7, aI g 4 (kn 5))] ++ (wSt g qt kt ++ (wS4 g qv kv)))) rfl (fun r9 w9 hq9 => ?_)
    obtain ⟨rfl, rfl⟩ := hq9
    refine J.to (L1 := [(0, .ref (r 0)), (1, .long (lI (dgE h0 kn (3 * x + w)))), (3, .int (iI ((x : Int)))), (4, .int (iI ((w : Int))))]) (S1 := [.int (iI ((kn 2) ((kn 0 9 - (x : Int)) % 16 * 3 + (w : Int)).toNat)), .long (lI (31 * (dgE h0 kn (3 * x + w))))]) (ws1 := ([(r 0, .inr (4, [.ref (qn 0), .ref (qt 0), .ref (r 1), .int (iI sc), .int (iI ((ns : Int))), .ref (r 2)])), (r 1, aS g 4 (fun j => some (qv j 0))), (r 2, .inr (3, [.ref (r 3), .int (iI ((tn : Int))), .int (iI pl)])), (r 3, aI g 60 tx)] ++ (wSt g qn kn ++ (wSt g qt kt ++ (wS4 g qv kv))))) rfl rfl rfl ?_
    refine j_i2l C (by omega) dX4_digest_195 ?_
    refine j_ladd C dX4_digest_196 ?_
    refine j_lstore_n (L1 := [(1, .long (lI ((31 * (dgE h0 kn (3 * x + w))) + ((kn 2) ((kn 0 9 - (x : Int)) % 16 * 3 + (w : Int)).toNat)))), (0, .ref (r 0)), (3, .int (iI ((x : Int)))), (4, .int (iI ((w : Int))))]) C dX4_digest_197 rfl (by decide) rfl ?_
    refine j_iinc (L1 := [(4, .int (iI (((w : Int)) + 1))), (1, .long (lI ((31 * (dgE h0 kn (3 * x + w))) + ((kn 2) ((kn 0 9 - (x : Int)) % 16 * 3 + (w : Int)).toNat)))), (0, .ref (r 0)), (3, .int (iI ((x : Int))))]) C 3 dX4_digest_198 rfl (by decide) rfl ?_
    refine j_goto (tgt := 171) C dX4_digest_201 (by decide) ?_
    refine J.sub (L1 := [(0, .ref (r 0)), (1, .long (lI ((31 * (dgE h0 kn (3 * x + w))) + ((kn 2) ((kn 0 9 - (x : Int)) % 16 * 3 + (w : Int)).toNat)))), (3, .int (iI ((x : Int)))), (4, .int (iI (((w : Int)) + 1)))]) [2, 1, 3, 0] rfl ?_
    rw [← dgE_s (by omega)]
    exact ih (w + 1) (by omega)

theorem lp_dg5 {p : Program} {l : Launch} {e : Env} {s : State} {m : MethodId} {args : Array Value} {below : List Frame} {meth : Method} {c : Code} {g : Gh} {A : Nat → Prop} {Q : State → Prop} (C : Cx p g s m args c cX4_digest 5 RX4 A) {r : Nat → Nat} {qn qt : Nat → Nat} {qv : Nat → Nat → Nat} {kn kt : Nat → Nat → Int} {kv : Nat → Nat → Nat → Int} {sc : Int} {ns : Nat} {tx : Nat → Int} {tn : Nat} {pl : Int} (hT : TOK kn kv sc ns tx tn) {h0 : Int} (hpk : POK kn) (kk : J p l e ({ frames := 5, cells := 0, slots := 0, locals := 126 } : Room) s m args below meth c g A 5 210 [(0, .ref (r 0)), (1, .long (lI (dgE h0 kn (3 * (kn 0 6).toNat))))] [] ([(r 0, .inr (4, [.ref (qn 0), .ref (qt 0), .ref (r 1), .int (iI sc), .int (iI ((ns : Int))), .ref (r 2)])), (r 1, aS g 4 (fun j => some (qv j 0))), (r 2, .inr (3, [.ref (r 3), .int (iI ((tn : Int))), .int (iI pl)])), (r 3, aI g 60 tx)] ++ (wSt g qn kn ++ (wSt g qt kt ++ (wS4 g qv kv)))) 0 0 Q) : ∀ (n x : Nat), (x : Int) + n = kn 0 6 → J p l e ({ frames := 5, cells := 0, slots := 0, locals := 126 } : Room) s m args below meth c g A 5 154 [(0, .ref (r 0)), (1, .long (lI (dgE h0 kn (3 * x)))), (3, .int (iI ((x : Int))))] [] ([(r 0, .inr (4, [.ref (qn 0), .ref (qt 0), .ref (r 1), .int (iI sc), .int (iI ((ns : Int))), .ref (r 2)])), (r 1, aS g 4 (fun j => some (qv j 0))), (r 2, .inr (3, [.ref (r 3), .int (iI ((tn : Int))), .int (iI pl)])), (r 3, aI g 60 tx)] ++ (wSt g qn kn ++ (wSt g qt kt ++ (wS4 g qv kv)))) 0 0 Q := by
  intro n
  induction n with
  | zero =>
    intro x hi
    obtain ⟨⟨hk, hh0⟩, hkv, hsc, hns, htn, htx⟩ := id hT
    obtain ⟨hP, hE0, hF, hrow0, hwt, hht, hlen, hlat, hkept⟩ := id hk
    have hE : -10 ≤ kn 0 3 ∧ kn 0 3 ≤ 10 := by omega
    have hrow : ∀ i : Nat, (i : Int) < kn 0 2 → 0 ≤ kn 1 i ∧ kn 1 i ≤ 4 := fun i hi => by have := hrow0 i hi; omega
    have hc2 : cpS kn kt 0 2 = kn 0 2 := rfl
    have hhnd : 0 ≤ hnd kn ∧ hnd kn ≤ 300000 := ⟨hh0, hnd_le hk⟩
    refine j_iload_n C 2 dX4_digest_154 rfl rfl ?_
    refine j_aload_n C 0 dX4_digest_155 rfl rfl ?_
    refine j_get C ck4 0 0 (by decide) qw131 rfl rfl dX4_digest_156 ?_
    refine j_getN C ck2 4 1 (by decide) qn93 rfl rfl dX4_digest_159 ?_
    refine j_getN C ck0 7 2 (by decide) qn62 rfl rfl dX4_digest_162 ?_
    refine j_icmp_ge (tgt := 210) C (by omega) (by omega) dX4_digest_165 (by decide) (fun c165 => ?_) (fun c165 => absurd c165 (by omega))
    refine J.sub (L1 := [(0, .ref (r 0)), (1, .long (lI (dgE h0 kn (3 * x))))]) [0, 1] rfl ?_
    rw [show x = (kn 0 6).toNat by omega]
    exact kk
  | succ n ih =>
    intro x hi
    obtain ⟨⟨hk, hh0⟩, hkv, hsc, hns, htn, htx⟩ := id hT
    obtain ⟨hP, hE0, hF, hrow0, hwt, hht, hlen, hlat, hkept⟩ := id hk
    have hE : -10 ≤ kn 0 3 ∧ kn 0 3 ≤ 10 := by omega
    have hrow : ∀ i : Nat, (i : Int) < kn 0 2 → 0 ≤ kn 1 i ∧ kn 1 i ≤ 4 := fun i hi => by have := hrow0 i hi; omega
    have hc2 : cpS kn kt 0 2 = kn 0 2 := rfl
    have hhnd : 0 ≤ hnd kn ∧ hnd kn ≤ 300000 := ⟨hh0, hnd_le hk⟩
    refine j_iload_n C 2 dX4_digest_154 rfl rfl ?_
    refine j_aload_n C 0 dX4_digest_155 rfl rfl ?_
    refine j_get C ck4 0 0 (by decide) qw131 rfl rfl dX4_digest_156 ?_
    refine j_getN C ck2 4 1 (by decide) qn93 rfl rfl dX4_digest_159 ?_
    refine j_getN C ck0 7 2 (by decide) qn62 rfl rfl dX4_digest_162 ?_
    refine j_icmp_ge (tgt := 210) C (by omega) (by omega) dX4_digest_165 (by decide) (fun c165 => absurd c165 (by omega)) (fun c165 => ?_)
    refine j_iconst C dX4_digest_168 ?_
    refine j_istore (L1 := [(4, .int (iI 0)), (0, .ref (r 0)), (1, .long (lI (dgE h0 kn (3 * x)))), (3, .int (iI ((x : Int))))]) C dX4_digest_169 (by decide) rfl ?_
    refine J.sub (L1 := [(0, .ref (r 0)), (1, .long (lI (dgE h0 kn (3 * x)))), (3, .int (iI ((x : Int)))), (4, .int (iI 0))]) [1, 2, 3, 0] rfl ?_
    refine lp_dg6 C hT (x := x) (h0 := h0) hpk (by omega) ?_ 3 0 (by omega)
    refine j_iinc (L1 := [(3, .int (iI (((x : Int)) + 1))), (0, .ref (r 0)), (1, .long (lI (dgE h0 kn (3 * x + 3))))]) C 2 dX4_digest_204 rfl (by decide) rfl ?_
    refine j_goto (tgt := 154) C dX4_digest_207 (by decide) ?_
    refine J.sub (L1 := [(0, .ref (r 0)), (1, .long (lI (dgE h0 kn (3 * x + 3)))), (3, .int (iI (((x : Int)) + 1)))]) [1, 2, 0] rfl ?_
    exact ih (x + 1) (by omega)

theorem c_X4_digest (l : Launch) (g : Gh) (r : Nat → Nat) (qn qt : Nat → Nat) (qv : Nat → Nat → Nat) (kn kt : Nat → Nat → Int) (kv : Nat → Nat → Nat → Int) (sc : Int) (ns : Nat) (tx : Nat → Int) (tn : Nat) (pl : Int) (hT : TOK kn kv sc ns tx tn) (hpk : POK kn) : CT l g yX4_digest cX4_digest 5 (some FieldType.long) ({ frames := 5, cells := 0, slots := 0, locals := 126 }) [.ref (r 0)] ([(r 0, .inr (4, [.ref (qn 0), .ref (qt 0), .ref (r 1), .int (iI sc), .int (iI ((ns : Int))), .ref (r 2)])), (r 1, aS g 4 (fun j => some (qv j 0))), (r 2, .inr (3, [.ref (r 3), .int (iI ((tn : Int))), .int (iI pl)])), (r 3, aI g 60 tx)] ++ (wSt g qn kn ++ (wSt g qt kt ++ (wS4 g qv kv)))) (PE (some (.long (lI (dig kn (tn : Int) sc)))) (wTp g r qn qt qv kn kt kv sc ns tx tn pl)) := by
  refine CT.intro (L0 := [(0, .ref (r 0))]) (own := RX4) (by decide) rfl (Nat.le_of_ble_eq_true rfl) rfl ?_
  intro pX eX sX mX argsX belowX methX cX A C hr hlk
  obtain ⟨⟨hk, hh0⟩, hkv, hsc, hns, htn, htx⟩ := id hT
  obtain ⟨hP, hE0, hF, hrow0, hwt, hht, hlen, hlat, hkept⟩ := id hk
  have hE : -10 ≤ kn 0 3 ∧ kn 0 3 ≤ 10 := by omega
  have hrow : ∀ i : Nat, (i : Int) < kn 0 2 → 0 ≤ kn 1 i ∧ kn 1 i ≤ 4 := fun i hi => by have := hrow0 i hi; omega
  have hc2 : cpS kn kt 0 2 = kn 0 2 := rfl
  have hhnd : 0 ≤ hnd kn ∧ hnd kn ≤ 300000 := ⟨hh0, hnd_le hk⟩
  refine j_ldc2 (x := 112313) C qw312 (by decide) dX4_digest_0 ?_
  refine j_aload_n C 0 dX4_digest_3 rfl rfl ?_
  refine j_get C ck4 0 5 (by decide) qw136 rfl rfl dX4_digest_4 ?_
  refine j_getN C ck3 2 1 (by decide) qn122 rfl rfl dX4_digest_7 ?_
  refine j_i2l C (by omega) dX4_digest_10 ?_
  refine j_ladd C dX4_digest_11 ?_
  refine j_lstore_n (L1 := [(1, .long (lI (112313 + ((tn : Int))))), (0, .ref (r 0))]) C dX4_digest_12 rfl (by decide) rfl ?_
  refine j_iconst C dX4_digest_13 ?_
  refine j_istore_n (L1 := [(3, .int (iI 0)), (1, .long (lI (112313 + ((tn : Int))))), (0, .ref (r 0))]) C dX4_digest_14 rfl (by decide) rfl ?_
  refine J.sub (L1 := [(0, .ref (r 0)), (1, .long (lI (112313 + ((tn : Int))))), (3, .int (iI 0))]) [2, 1, 0] rfl ?_
  refine lp_dg1 C hT ?_ 10 0 (by omega)
  refine j_ldc2 (x := 31) C qw313 (by decide) dX4_digest_40 ?_
  refine j_lload_n C 1 dX4_digest_43 rfl rfl ?_
  refine j_lmul C dX4_digest_44 ?_
  refine j_aload_n C 0 dX4_digest_45 rfl rfl ?_
  refine j_iconst C dX4_digest_46 ?_
  refine j_callV (As := [.int (iI 0)]) (rest := [.long (lI (31 * (dgA kn (tn : Int) 10)))]) C yv_X4_work qw391 (c_X4_work l g r qn qt qv kn kt kv sc ns tx tn pl false hT) (by decide) 0 rfl rfl rfl dX4_digest_47 rfl (Nat.le_of_ble_eq_true rfl) (by decide) pf0 rfl (fun r9 w9 hq9 => ?_)
  obtain ⟨rfl, rfl⟩ := hq9
  refine J.to (L1 := [(0, .ref (r 0)), (1, .long (lI (dgA kn (tn : Int) 10)))]) (S1 := [.long (lI (kn 0 7)), .long (lI (31 * (dgA kn (tn : Int) 10)))]) (ws1 := ([(r 0, .inr (4, [.ref (qn 0), .ref (qt 0), .ref (r 1), .int (iI sc), .int (iI ((ns : Int))), .ref (r 2)])), (r 1, aS g 4 (fun j => some (qv j 0))), (r 2, .inr (3, [.ref (r 3), .int (iI ((tn : Int))), .int (iI pl)])), (r 3, aI g 60 tx)] ++ (wSt g qn kn ++ (wSt g qt kt ++ (wS4 g qv kv))))) rfl rfl rfl ?_
  refine j_ladd C dX4_digest_50 ?_
  refine j_lstore_n (L1 := [(1, .long (lI ((31 * (dgA kn (tn : Int) 10)) + (kn 0 7)))), (0, .ref (r 0))]) C dX4_digest_51 rfl (by decide) rfl ?_
  refine j_ldc2 (x := 31) C qw313 (by decide) dX4_digest_52 ?_
  refine j_lload_n C 0 dX4_digest_55 rfl rfl ?_
  refine j_lmul C dX4_digest_56 ?_
  refine j_aload_n C 1 dX4_digest_57 rfl rfl ?_
  refine j_iconst C dX4_digest_58 ?_
  refine j_callV (As := [.int (iI 1)]) (rest := [.long (lI (31 * ((31 * (dgA kn (tn : Int) 10)) + (kn 0 7))))]) C yv_X4_work qw391 (c_X4_work l g r qn qt qv kn kt kv sc ns tx tn pl true hT) (by decide) 0 rfl rfl rfl dX4_digest_59 rfl (Nat.le_of_ble_eq_true rfl) (by decide) pf0 rfl (fun r9 w9 hq9 => ?_)
  obtain ⟨rfl, rfl⟩ := hq9
  refine J.to (L1 := [(1, .long (lI ((31 * (dgA kn (tn : Int) 10)) + (kn 0 7)))), (0, .ref (r 0))]) (S1 := [.long (lI (kn 0 8)), .long (lI (31 * ((31 * (dgA kn (tn : Int) 10)) + (kn 0 7))))]) (ws1 := ([(r 0, .inr (4, [.ref (qn 0), .ref (qt 0), .ref (r 1), .int (iI sc), .int (iI ((ns : Int))), .ref (r 2)])), (r 1, aS g 4 (fun j => some (qv j 0))), (r 2, .inr (3, [.ref (r 3), .int (iI ((tn : Int))), .int (iI pl)])), (r 3, aI g 60 tx)] ++ (wSt g qn kn ++ (wSt g qt kt ++ (wS4 g qv kv))))) rfl rfl rfl ?_
  refine j_ladd C dX4_digest_62 ?_
  refine j_lstore_n (L1 := [(1, .long (lI ((31 * ((31 * (dgA kn (tn : Int) 10)) + (kn 0 7))) + (kn 0 8)))), (0, .ref (r 0))]) C dX4_digest_63 rfl (by decide) rfl ?_
  refine j_iconst C dX4_digest_64 ?_
  refine j_istore_n (L1 := [(3, .int (iI 0)), (1, .long (lI ((31 * ((31 * (dgA kn (tn : Int) 10)) + (kn 0 7))) + (kn 0 8)))), (0, .ref (r 0))]) C dX4_digest_65 rfl (by decide) rfl ?_
  refine J.sub (L1 := [(0, .ref (r 0)), (1, .long (lI ((31 * ((31 * (dgA kn (tn : Int) 10)) + (kn 0 7))) + (kn 0 8)))), (3, .int (iI 0))]) [2, 1, 0] rfl ?_
  refine J.to (L1 := [(0, .ref (r 0)), (1, .long (lI (dgC (dgB kn (tn : Int)) kn (7 * 0)))), (3, .int (iI (((0 : Nat) : Int))))]) (S1 := []) (ws1 := ([(r 0, .inr (4, [.ref (qn 0), .ref (qt 0), .ref (r 1), .int (iI sc), .int (iI ((ns : Int))), .ref (r 2)])), (r 1, aS g 4 (fun j => some (qv j 0))), (r 2, .inr (3, [.ref (r 3), .int (iI ((tn : Int))), .int (iI pl)])), (r 3, aI g 60 tx)] ++ (wSt g qn kn ++ (wSt g qt kt ++ (wS4 g qv kv))))) rfl rfl rfl ?_
  refine lp_dg2 C hT (h0 := dgB kn (tn : Int)) ?_ 4 0 (by omega)
  refine j_iconst C dX4_digest_108 ?_
  refine j_istore_n (L1 := [(3, .int (iI 0)), (0, .ref (r 0)), (1, .long (lI (dgC (dgB kn (tn : Int)) kn 28)))]) C dX4_digest_109 rfl (by decide) rfl ?_
  refine J.sub (L1 := [(0, .ref (r 0)), (1, .long (lI (dgC (dgB kn (tn : Int)) kn 28))), (3, .int (iI 0))]) [1, 2, 0] rfl ?_
  refine lp_dg4 C hT (h0 := dgC (dgB kn (tn : Int)) kn 28) ?_ (kn 0 2).toNat 0 (by omega)
  refine j_iconst C dX4_digest_152 ?_
  refine j_istore_n (L1 := [(3, .int (iI 0)), (0, .ref (r 0)), (1, .long (lI (dgD (dgC (dgB kn (tn : Int)) kn 28) kn (kn 0 2).toNat)))]) C dX4_digest_153 rfl (by decide) rfl ?_
  refine J.sub (L1 := [(0, .ref (r 0)), (1, .long (lI (dgD (dgC (dgB kn (tn : Int)) kn 28) kn (kn 0 2).toNat))), (3, .int (iI 0))]) [1, 2, 0] rfl ?_
  refine lp_dg5 C hT (h0 := dgD (dgC (dgB kn (tn : Int)) kn 28) kn (kn 0 2).toNat) hpk ?_ (kn 0 6).toNat 0 (by omega)
  refine j_ldc2 (x := 31) C qw313 (by decide) dX4_digest_210 ?_
  refine j_lload_n C 1 dX4_digest_213 rfl rfl ?_
  refine j_lmul C dX4_digest_214 ?_
  refine j_aload_n C 0 dX4_digest_215 rfl rfl ?_
  refine j_get C ck4 0 3 (by decide) qw134 rfl rfl dX4_digest_216 ?_
  refine j_i2l C (by omega) dX4_digest_219 ?_
  refine j_ladd C dX4_digest_220 ?_
  exact j_lret C hr hlk dX4_digest_221 ⟨rfl, rfl⟩ (by decide) (by decide)

