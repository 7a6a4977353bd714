/-! the reference: undo, digest -/
theorem lm_undo {p : Program} {l : Launch} {e : Env} {s : State} {m : MethodId} {args : Array Value} {below : List Frame} {meth : Method} {c : Code} {g : Gh} {A : Nat → Prop} {Q : State → Prop} (C : Cx p g s m args c cX5_undo 2 RX5 A) {u : Nat → Nat} {v pa : Nat → Int} {sv : Nat} {ln th ap rm rd nw hh : Int} (hsv : sv < 4) (kk : J p l e ({ frames := 1, cells := 0, slots := 0, locals := 21 } : Room) s m args below meth c g A 2 57 [(0, .ref (u 0))] [] [(u 0, .inr (5, [.ref (u 1), .ref (u 2), .ref (u 3), .int (iI ((sv : Int))), .ref (u 4), .int (iI ln), .int (iI th), .int (iI ap), .int (iI rm), .ref (u 5), .int (iI rd), .int (iI nw), .ref (u 6), .long (lI hh)])), (u 1, aL g 75 (cpy 75 (fun j => pa (75 * sv + j)) v)), (u 2, aL g 300 pa)] 0 0 Q) : ∀ (n i : Nat), i + n = 75 → J p l e ({ frames := 1, cells := 0, slots := 0, locals := 21 } : Room) s m args below meth c g A 2 25 [(0, .ref (u 0)), (1, .int (iI ((i : Int))))] [] [(u 0, .inr (5, [.ref (u 1), .ref (u 2), .ref (u 3), .int (iI ((sv : Int))), .ref (u 4), .int (iI ln), .int (iI th), .int (iI ap), .int (iI rm), .ref (u 5), .int (iI rd), .int (iI nw), .ref (u 6), .long (lI hh)])), (u 1, aL g 75 (cpy i (fun j => pa (75 * sv + j)) v)), (u 2, aL g 300 pa)] 0 0 Q := by
  intro n
  induction n with
  | zero =>
    intro i hi
    refine j_iload_n C 1 dX5_undo_25 rfl rfl ?_
    refine j_bipush C dX5_undo_26 (by decide) ?_
    refine j_icmp_ge (tgt := 57) C (by omega) (by decide) dX5_undo_28 (by decide) (fun c28 => ?_) (fun c28 => absurd c28 (by omega))
    refine J.sub (L1 := [(0, .ref (u 0))]) [0] rfl ?_
    rw [show i = 75 by omega]
    exact kk
  | succ n ih =>
    intro i hi
    refine j_iload_n C 1 dX5_undo_25 rfl rfl ?_
    refine j_bipush C dX5_undo_26 (by decide) ?_
    refine j_icmp_ge (tgt := 57) C (by omega) (by decide) dX5_undo_28 (by decide) (fun c28 => absurd c28 (by omega)) (fun c28 => ?_)
    refine j_aload_n C 0 dX5_undo_31 rfl rfl ?_
    refine j_get C ck5 0 0 (by decide) qw662 rfl rfl dX5_undo_32 ?_
    refine j_iload_n C 1 dX5_undo_35 rfl rfl ?_
    refine j_aload_n C 0 dX5_undo_36 rfl rfl ?_
    refine j_get C ck5 0 1 (by decide) qw663 rfl rfl dX5_undo_37 ?_
    refine j_bipush C dX5_undo_40 (by decide) ?_
    refine j_aload_n C 0 dX5_undo_42 rfl rfl ?_
    refine j_get C ck5 0 3 (by decide) qw665 rfl rfl dX5_undo_43 ?_
    refine j_imul C dX5_undo_46 ?_
    refine j_iload_n C 1 dX5_undo_47 rfl rfl ?_
    refine j_iadd C dX5_undo_48 ?_
    refine j_lald (n := 300) (f := pa) C 2 (75 * sv + i) rfl (by omega) (by omega) (by decide) dX5_undo_49 ?_
    refine J.to (L1 := [(0, .ref (u 0)), (1, .int (iI ((i : Int))))]) (S1 := [.long (lI ((fun j => pa (75 * sv + j)) i)), .int (iI ((i : Int))), .ref (u 1)]) (ws1 := [(u 0, .inr (5, [.ref (u 1), .ref (u 2), .ref (u 3), .int (iI ((sv : Int))), .ref (u 4), .int (iI ln), .int (iI th), .int (iI ap), .int (iI rm), .ref (u 5), .int (iI rd), .int (iI nw), .ref (u 6), .long (lI hh)])), (u 1, aL g 75 (cpy i (fun j => pa (75 * sv + j)) v)), (u 2, aL g 300 pa)]) rfl rfl (by rw [show ((pa (75 * sv + i) : Int)) = (fun j => pa (75 * sv + j)) i from rfl]) ?_
    refine j_last (n := 75) (f := cpy i (fun j => pa (75 * sv + j)) v) (ws1 := [(u 0, .inr (5, [.ref (u 1), .ref (u 2), .ref (u 3), .int (iI ((sv : Int))), .ref (u 4), .int (iI ln), .int (iI th), .int (iI ap), .int (iI rm), .ref (u 5), .int (iI rd), .int (iI nw), .ref (u 6), .long (lI hh)])), (u 1, aL g 75 (va_up (cpy i (fun j => pa (75 * sv + j)) v) i ((fun j => pa (75 * sv + j)) i))), (u 2, aL g 300 pa)]) C 1 i rfl rfl (by omega) (by decide) dX5_undo_50 rfl ?_
    refine j_iinc (L1 := [(1, .int (iI (((i : Int)) + 1))), (0, .ref (u 0))]) C 1 dX5_undo_51 rfl (by decide) rfl ?_
    refine j_goto (tgt := 25) C dX5_undo_54 (by decide) ?_
    refine J.sub (L1 := [(0, .ref (u 0)), (1, .int (iI (((i : Int)) + 1)))]) [1, 0] rfl ?_
    rw [cpy_succ]
    exact ih (i + 1) (by omega)

theorem c_X5_undo_ok (l : Launch) (g : Gh) (u : Nat → Nat) (v pa sd tx rr rq : Nat → Int) (sv : Nat) (ln th ap rm rd nw hh : Int) (hsv : sv < 4) : CT l g yX5_undo cX5_undo 2 (some FieldType.int) ({ frames := 1, cells := 0, slots := 0, locals := 21 }) [.ref (u 0)] [(u 0, .inr (5, [.ref (u 1), .ref (u 2), .ref (u 3), .int (iI (((sv + 1 : Nat) : Int))), .ref (u 4), .int (iI ln), .int (iI th), .int (iI ap), .int (iI rm), .ref (u 5), .int (iI rd), .int (iI nw), .ref (u 6), .long (lI hh)])), (u 1, aL g 75 v), (u 2, aL g 300 pa)] (PE (some (.int (iI ((sv : Int))))) [(u 0, .inr (5, [.ref (u 1), .ref (u 2), .ref (u 3), .int (iI ((sv : Int))), .ref (u 4), .int (iI ln), .int (iI 0), .int (iI ap), .int (iI rm), .ref (u 5), .int (iI rd), .int (iI nw), .ref (u 6), .long (lI hh)])), (u 1, aL g 75 (cpy 75 (fun j => pa (75 * sv + j)) v)), (u 2, aL g 300 pa)]) := by
  refine CT.intro (L0 := [(0, .ref (u 0))]) (own := RX5) (by decide) rfl (Nat.le_of_ble_eq_true rfl) rfl ?_
  intro pX eX sX mX argsX belowX methX cX A C hr hlk
  refine j_aload_n C 0 dX5_undo_0 rfl rfl ?_
  refine j_get C ck5 0 3 (by decide) qw665 rfl rfl dX5_undo_1 ?_
  refine j_if_ne (tgt := 13) C (by omega) dX5_undo_4 (by decide) (fun c4 => ?_) (fun c4 => absurd c4 (by omega))
  refine j_aload_n C 0 dX5_undo_13 rfl rfl ?_
  refine j_dup C dX5_undo_14 rfl ?_
  refine j_get C ck5 0 3 (by decide) qw665 rfl rfl dX5_undo_15 ?_
  refine j_iconst C dX5_undo_18 ?_
  refine j_isub C dX5_undo_19 ?_
  refine j_put (ws1 := [(u 0, .inr (5, [.ref (u 1), .ref (u 2), .ref (u 3), .int (iI ((((sv + 1 : Nat) : Int)) - 1)), .ref (u 4), .int (iI ln), .int (iI th), .int (iI ap), .int (iI rm), .ref (u 5), .int (iI rd), .int (iI nw), .ref (u 6), .long (lI hh)])), (u 1, aL g 75 v), (u 2, aL g 300 pa)]) C ck5 0 3 (by decide) qw665 rfl dX5_undo_20 rfl rfl rfl rfl (Nat.le_of_ble_eq_true rfl) ?_
  refine J.world (ws1 := [(u 0, .inr (5, [.ref (u 1), .ref (u 2), .ref (u 3), .int (iI ((sv : Int))), .ref (u 4), .int (iI ln), .int (iI th), .int (iI ap), .int (iI rm), .ref (u 5), .int (iI rd), .int (iI nw), .ref (u 6), .long (lI hh)])), (u 1, aL g 75 v), (u 2, aL g 300 pa)]) (by rw [show (((sv + 1 : Nat) : Int) - 1) = (sv : Int) by omega]) ?_
  refine j_iconst C dX5_undo_23 ?_
  refine j_istore_n (L1 := [(1, .int (iI 0)), (0, .ref (u 0))]) C dX5_undo_24 rfl (by decide) rfl ?_
  refine J.sub (L1 := [(0, .ref (u 0)), (1, .int (iI 0))]) [1, 0] rfl ?_
  refine J.world (ws1 := [(u 0, .inr (5, [.ref (u 1), .ref (u 2), .ref (u 3), .int (iI ((sv : Int))), .ref (u 4), .int (iI ln), .int (iI th), .int (iI ap), .int (iI rm), .ref (u 5), .int (iI rd), .int (iI nw), .ref (u 6), .long (lI hh)])), (u 1, aL g 75 (cpy 0 (fun j => pa (75 * sv + j)) v)), (u 2, aL g 300 pa)]) (by rw [cpy_0]) ?_
  refine lm_undo C hsv ?_ 75 0 (by omega)
  refine j_aload_n C 0 dX5_undo_57 rfl rfl ?_
  refine j_aload_n C 0 dX5_undo_58 rfl rfl ?_
  refine j_get C ck5 0 3 (by decide) qw665 rfl rfl dX5_undo_59 ?_
  refine j_callV (As := [.int (iI ((sv : Int)))]) (rest := []) C yv_X5_tells qw734 (c_X5_tells l g u (cpy 75 (fun j => pa (75 * sv + j)) v) ((sv : Int)) ln th ap rm rd nw hh ((sv : Int))) (by decide) 0 rfl rfl rfl dX5_undo_62 rfl (Nat.le_of_ble_eq_true rfl) (by decide) (pf1 [] [(u 1, aL g 75 (cpy 75 (fun j => pa (75 * sv + j)) v)), (u 2, aL g 300 pa)]) rfl (fun r9 w9 hq9 => ?_)
  obtain ⟨rfl, rfl⟩ := hq9
  refine J.to (L1 := [(0, .ref (u 0))]) (S1 := [.int (iI ((sv : Int)))]) (ws1 := [(u 0, .inr (5, [.ref (u 1), .ref (u 2), .ref (u 3), .int (iI ((sv : Int))), .ref (u 4), .int (iI ln), .int (iI 0), .int (iI ap), .int (iI rm), .ref (u 5), .int (iI rd), .int (iI nw), .ref (u 6), .long (lI hh)])), (u 1, aL g 75 (cpy 75 (fun j => pa (75 * sv + j)) v)), (u 2, aL g 300 pa)]) rfl rfl rfl ?_
  exact j_iret C hr hlk dX5_undo_65 ⟨rfl, rfl⟩ (by decide) (by decide)

theorem c_X5_undo_n1 (l : Launch) (g : Gh) (u : Nat → Nat) (v pa sd tx rr rq : Nat → Int) (ln th ap rm rd nw hh : Int)  : CT l g yX5_undo cX5_undo 2 (some FieldType.int) ({ frames := 1, cells := 0, slots := 0, locals := 21 }) [.ref (u 0)] [(u 0, .inr (5, [.ref (u 1), .ref (u 2), .ref (u 3), .int (iI (((0 : Nat) : Int))), .ref (u 4), .int (iI ln), .int (iI th), .int (iI ap), .int (iI rm), .ref (u 5), .int (iI rd), .int (iI nw), .ref (u 6), .long (lI hh)])), (u 1, aL g 75 v), (u 2, aL g 300 pa)] (PE (some (.int (iI 0))) [(u 0, .inr (5, [.ref (u 1), .ref (u 2), .ref (u 3), .int (iI (((0 : Nat) : Int))), .ref (u 4), .int (iI ln), .int (iI 1), .int (iI ap), .int (iI rm), .ref (u 5), .int (iI rd), .int (iI nw), .ref (u 6), .long (lI hh)])), (u 1, aL g 75 v), (u 2, aL g 300 pa)]) := by
  refine CT.intro (L0 := [(0, .ref (u 0))]) (own := RX5) (by decide) rfl (Nat.le_of_ble_eq_true rfl) rfl ?_
  intro pX eX sX mX argsX belowX methX cX A C hr hlk
  refine j_aload_n C 0 dX5_undo_0 rfl rfl ?_
  refine j_get C ck5 0 3 (by decide) qw665 rfl rfl dX5_undo_1 ?_
  refine j_if_ne (tgt := 13) C (by omega) dX5_undo_4 (by decide) (fun c4 => absurd c4 (by omega)) (fun c4 => ?_)
  refine j_aload_n C 0 dX5_undo_7 rfl rfl ?_
  refine j_iconst C dX5_undo_8 ?_
  refine j_callV (As := [.int (iI 1)]) (rest := []) C yv_X5_fails qw721 (c_X5_fails l g u v (((0 : Nat) : Int)) ln th ap rm rd nw hh 1) (by decide) 0 rfl rfl rfl dX5_undo_9 rfl (Nat.le_of_ble_eq_true rfl) (by decide) (pf1 [] [(u 1, aL g 75 v), (u 2, aL g 300 pa)]) rfl (fun r9 w9 hq9 => ?_)
  obtain ⟨rfl, rfl⟩ := hq9
  refine J.to (L1 := [(0, .ref (u 0))]) (S1 := [.int (iI 0)]) (ws1 := [(u 0, .inr (5, [.ref (u 1), .ref (u 2), .ref (u 3), .int (iI (((0 : Nat) : Int))), .ref (u 4), .int (iI ln), .int (iI 1), .int (iI ap), .int (iI rm), .ref (u 5), .int (iI rd), .int (iI nw), .ref (u 6), .long (lI hh)])), (u 1, aL g 75 v), (u 2, aL g 300 pa)]) rfl rfl rfl ?_
  exact j_iret C hr hlk dX5_undo_12 ⟨rfl, rfl⟩ (by decide) (by decide)

theorem c_X5_mix (l : Launch) (g : Gh) (u : Nat → Nat) (v : Nat → Int) (sv ln th ap rm rd nw hh : Int) (x : Int)  : CT l g yX5_mix cX5_mix 3 none ({ frames := 0, cells := 0, slots := 0, locals := 0 }) [.ref (u 0), .long (lI x)] [(u 0, .inr (5, [.ref (u 1), .ref (u 2), .ref (u 3), .int (iI sv), .ref (u 4), .int (iI ln), .int (iI th), .int (iI ap), .int (iI rm), .ref (u 5), .int (iI rd), .int (iI nw), .ref (u 6), .long (lI hh)]))] (PE none [(u 0, .inr (5, [.ref (u 1), .ref (u 2), .ref (u 3), .int (iI sv), .ref (u 4), .int (iI ln), .int (iI th), .int (iI ap), .int (iI rm), .ref (u 5), .int (iI rd), .int (iI nw), .ref (u 6), .long (lI (31 * hh + x))]))]) := by
  refine CT.intro (L0 := [(0, .ref (u 0)), (1, .long (lI x))]) (own := RX5) (by decide) rfl (Nat.le_of_ble_eq_true rfl) rfl ?_
  intro pX eX sX mX argsX belowX methX cX A C hr hlk
  refine j_aload_n C 0 dX5_mix_0 rfl rfl ?_
  refine j_ldc2 (x := 31) C qw956 (by decide) dX5_mix_1 ?_
  refine j_aload_n C 0 dX5_mix_4 rfl rfl ?_
  refine j_get C ck5 0 13 (by decide) qw675 rfl rfl dX5_mix_5 ?_
  refine j_lmul C dX5_mix_8 ?_
  refine j_lload_n C 1 dX5_mix_9 rfl rfl ?_
  refine j_ladd C dX5_mix_10 ?_
  refine j_put (ws1 := [(u 0, .inr (5, [.ref (u 1), .ref (u 2), .ref (u 3), .int (iI sv), .ref (u 4), .int (iI ln), .int (iI th), .int (iI ap), .int (iI rm), .ref (u 5), .int (iI rd), .int (iI nw), .ref (u 6), .long (lI ((31 * hh) + x))]))]) C ck5 0 13 (by decide) qw675 rfl dX5_mix_11 rfl rfl rfl rfl (Nat.le_of_ble_eq_true rfl) ?_
  exact j_vret C hr hlk dX5_mix_14 ⟨rfl, rfl⟩ (by decide) (by decide)

def dgEV (h0 : Int) (v : Nat → Int) : Nat → Int
  | 0 => h0
  | j + 1 => 31 * dgEV h0 v j + vL v j
noncomputable def digV (v : Nat → Int) (tn sv : Int) : Int := 31 * dgEV (dgD (dgC (dgB (kV v) tn) (kV v) 28) (kV v) (v 2).toNat) v (3 * (v 6).toNat) + sv
theorem lm_dg1 {p : Program} {l : Launch} {e : Env} {s : State} {m : MethodId} {args : Array Value} {below : List Frame} {meth : Method} {c : Code} {g : Gh} {A : Nat → Prop} {Q : State → Prop} (C : Cx p g s m args c cX5_digest 2 RX5 A) {u : Nat → Nat} {v : Nat → Int} {sv ln : Nat} {ap rm rd nw : Int} (hm : MOK v)  (kk : J p l e ({ frames := 5, cells := 0, slots := 0, locals := 107 } : Room) s m args below meth c g A 2 45 [(0, .ref (u 0))] [] [(u 0, .inr (5, [.ref (u 1), .ref (u 2), .ref (u 3), .int (iI ((sv : Int))), .ref (u 4), .int (iI ((ln : Int))), .int (iI 0), .int (iI ap), .int (iI rm), .ref (u 5), .int (iI rd), .int (iI nw), .ref (u 6), .long (lI (dgA (kV v) (ln : Int) 10))])), (u 1, aL g 75 v)] 0 0 Q) : ∀ (n i : Nat), i + n = 10 → J p l e ({ frames := 5, cells := 0, slots := 0, locals := 107 } : Room) s m args below meth c g A 2 23 [(0, .ref (u 0)), (1, .int (iI ((i : Int))))] [] [(u 0, .inr (5, [.ref (u 1), .ref (u 2), .ref (u 3), .int (iI ((sv : Int))), .ref (u 4), .int (iI ((ln : Int))), .int (iI 0), .int (iI ap), .int (iI rm), .ref (u 5), .int (iI rd), .int (iI nw), .ref (u 6), .long (lI (dgA (kV v) (ln : Int) i))])), (u 1, aL g 75 v)] 0 0 Q := by
  intro n
  induction n with
  | zero =>
    intro i hi
    obtain ⟨hP, hE0, hF, hrow0, hwt, hht, hlen, hent⟩ := id hm
    have hE : -10 ≤ v 3 ∧ v 3 ≤ 10 := by omega
    have hrow : ∀ i : Nat, (i : Int) < v 2 → 0 ≤ vR v i ∧ vR v i ≤ 4 := fun i hi => by have := hrow0 i hi; omega
    refine j_iload_n C 1 dX5_digest_23 rfl rfl ?_
    refine j_bipush C dX5_digest_24 (by decide) ?_
    refine j_icmp_ge (tgt := 45) C (by omega) (by decide) dX5_digest_26 (by decide) (fun c26 => ?_) (fun c26 => absurd c26 (by omega))
    refine J.sub (L1 := [(0, .ref (u 0))]) [0] rfl ?_
    rw [show i = 10 by omega]
    exact kk
  | succ n ih =>
    intro i hi
    obtain ⟨hP, hE0, hF, hrow0, hwt, hht, hlen, hent⟩ := id hm
    have hE : -10 ≤ v 3 ∧ v 3 ≤ 10 := by omega
    have hrow : ∀ i : Nat, (i : Int) < v 2 → 0 ≤ vR v i ∧ vR v i ≤ 4 := fun i hi => by have := hrow0 i hi; omega
    refine j_iload_n C 1 dX5_digest_23 rfl rfl ?_
    refine j_bipush C dX5_digest_24 (by decide) ?_
    refine j_icmp_ge (tgt := 45) C (by omega) (by decide) dX5_digest_26 (by decide) (fun c26 => absurd c26 (by omega)) (fun c26 => ?_)
    refine j_aload_n C 0 dX5_digest_29 rfl rfl ?_
    refine j_aload_n C 0 dX5_digest_30 rfl rfl ?_
    refine j_iload_n C 1 dX5_digest_31 rfl rfl ?_
    refine j_callV (As := [.int (iI ((i : Int)))]) (rest := [.ref (u 0)]) C yv_X5_valueTold qw865 (c_X5_valueTold l g u v ((sv : Int)) ((ln : Int)) 0 ap rm rd nw (dgA (kV v) (ln : Int) i) ((i : Int)) hm (by omega)) (by decide) 0 rfl rfl rfl dX5_digest_32 rfl (Nat.le_of_ble_eq_true rfl) (by decide) pf0 rfl (fun r9 w9 hq9 => ?_)
    obtain ⟨rfl, rfl⟩ := hq9
    refine J.to (L1 := [(0, .ref (u 0)), (1, .int (iI ((i : Int))))]) (S1 := [.int (iI (valF (kV v) ((i : Int)))), .ref (u 0)]) (ws1 := [(u 0, .inr (5, [.ref (u 1), .ref (u 2), .ref (u 3), .int (iI ((sv : Int))), .ref (u 4), .int (iI ((ln : Int))), .int (iI 0), .int (iI ap), .int (iI rm), .ref (u 5), .int (iI rd), .int (iI nw), .ref (u 6), .long (lI (dgA (kV v) (ln : Int) i))])), (u 1, aL g 75 v)]) rfl rfl rfl ?_
    refine j_i2lw C dX5_digest_35 ?_
    refine j_callV (As := [.long (lI (w32 (valF (kV v) ((i : Int)))))]) (rest := []) C yv_X5_mix qw952 (c_X5_mix l g u v ((sv : Int)) ((ln : Int)) 0 ap rm rd nw (dgA (kV v) (ln : Int) i) (w32 (valF (kV v) ((i : Int))))) (by decide) 0 rfl rfl rfl dX5_digest_36 rfl (Nat.le_of_ble_eq_true rfl) (by decide) (pf1 [] [(u 1, aL g 75 v)]) rfl (fun r9 w9 hq9 => ?_)
    obtain ⟨rfl, rfl⟩ := hq9
    refine J.to (L1 := [(0, .ref (u 0)), (1, .int (iI ((i : Int))))]) (S1 := []) (ws1 := [(u 0, .inr (5, [.ref (u 1), .ref (u 2), .ref (u 3), .int (iI ((sv : Int))), .ref (u 4), .int (iI ((ln : Int))), .int (iI 0), .int (iI ap), .int (iI rm), .ref (u 5), .int (iI rd), .int (iI nw), .ref (u 6), .long (lI (31 * (dgA (kV v) (ln : Int) i) + (w32 (valF (kV v) ((i : Int))))))])), (u 1, aL g 75 v)]) rfl rfl rfl ?_
    refine j_iinc (L1 := [(1, .int (iI (((i : Int)) + 1))), (0, .ref (u 0))]) C 1 dX5_digest_39 rfl (by decide) rfl ?_
    refine j_goto (tgt := 23) C dX5_digest_42 (by decide) ?_
    refine J.sub (L1 := [(0, .ref (u 0)), (1, .int (iI (((i : Int)) + 1)))]) [1, 0] rfl ?_
    exact ih (i + 1) (by omega)

theorem lm_dg2 {p : Program} {l : Launch} {e : Env} {s : State} {m : MethodId} {args : Array Value} {below : List Frame} {meth : Method} {c : Code} {g : Gh} {A : Nat → Prop} {Q : State → Prop} (C : Cx p g s m args c cX5_digest 2 RX5 A) {u : Nat → Nat} {v : Nat → Int} {sv ln : Nat} {ap rm rd nw : Int} (hm : MOK v) {h0 : Int} (kk : J p l e ({ frames := 5, cells := 0, slots := 0, locals := 107 } : Room) s m args below meth c g A 2 98 [(0, .ref (u 0))] [] [(u 0, .inr (5, [.ref (u 1), .ref (u 2), .ref (u 3), .int (iI ((sv : Int))), .ref (u 4), .int (iI ((ln : Int))), .int (iI 0), .int (iI ap), .int (iI rm), .ref (u 5), .int (iI rd), .int (iI nw), .ref (u 6), .long (lI (dgC h0 (kV v) 28))])), (u 1, aL g 75 v)] 0 0 Q) : ∀ (n i : Nat), i + n = 28 → J p l e ({ frames := 5, cells := 0, slots := 0, locals := 107 } : Room) s m args below meth c g A 2 69 [(0, .ref (u 0)), (1, .int (iI ((i : Int))))] [] [(u 0, .inr (5, [.ref (u 1), .ref (u 2), .ref (u 3), .int (iI ((sv : Int))), .ref (u 4), .int (iI ((ln : Int))), .int (iI 0), .int (iI ap), .int (iI rm), .ref (u 5), .int (iI rd), .int (iI nw), .ref (u 6), .long (lI (dgC h0 (kV v) i))])), (u 1, aL g 75 v)] 0 0 Q := by
  intro n
  induction n with
  | zero =>
    intro i hi
    obtain ⟨hP, hE0, hF, hrow0, hwt, hht, hlen, hent⟩ := id hm
    have hE : -10 ≤ v 3 ∧ v 3 ≤ 10 := by omega
    have hrow : ∀ i : Nat, (i : Int) < v 2 → 0 ≤ vR v i ∧ vR v i ≤ 4 := fun i hi => by have := hrow0 i hi; omega
    refine j_iload_n C 1 dX5_digest_69 rfl rfl ?_
    refine j_bipush C dX5_digest_70 (by decide) ?_
    refine j_icmp_ge (tgt := 98) C (by omega) (by decide) dX5_digest_72 (by decide) (fun c72 => ?_) (fun c72 => absurd c72 (by omega))
    refine J.sub (L1 := [(0, .ref (u 0))]) [0] rfl ?_
    rw [show i = 28 by omega]
    exact kk
  | succ n ih =>
    intro i hi
    obtain ⟨hP, hE0, hF, hrow0, hwt, hht, hlen, hent⟩ := id hm
    have hE : -10 ≤ v 3 ∧ v 3 ≤ 10 := by omega
    have hrow : ∀ i : Nat, (i : Int) < v 2 → 0 ≤ vR v i ∧ vR v i ≤ 4 := fun i hi => by have := hrow0 i hi; omega
    refine j_iload_n C 1 dX5_digest_69 rfl rfl ?_
    refine j_bipush C dX5_digest_70 (by decide) ?_
    refine j_icmp_ge (tgt := 98) C (by omega) (by decide) dX5_digest_72 (by decide) (fun c72 => absurd c72 (by omega)) (fun c72 => ?_)
    refine j_aload_n C 0 dX5_digest_75 rfl rfl ?_
    refine j_aload_n C 0 dX5_digest_76 rfl rfl ?_
    refine j_iload_n C 1 dX5_digest_77 rfl rfl ?_
    refine j_bipush C dX5_digest_78 (by decide) ?_
    refine j_idiv C (by omega) (by decide) dX5_digest_80 ?_
    refine J.to (L1 := [(0, .ref (u 0)), (1, .int (iI ((i : Int))))]) (S1 := [.int (iI (((i / 7 : Nat) : Int))), .ref (u 0), .ref (u 0)]) (ws1 := [(u 0, .inr (5, [.ref (u 1), .ref (u 2), .ref (u 3), .int (iI ((sv : Int))), .ref (u 4), .int (iI ((ln : Int))), .int (iI 0), .int (iI ap), .int (iI rm), .ref (u 5), .int (iI rd), .int (iI nw), .ref (u 6), .long (lI (dgC h0 (kV v) i))])), (u 1, aL g 75 v)]) rfl rfl (by rw [show ((((i : Int)) / 7 : Int)) = ((i / 7 : Nat) : Int) from (by omega)]) ?_
    refine j_iload_n C 1 dX5_digest_81 rfl rfl ?_
    refine j_bipush C dX5_digest_82 (by decide) ?_
    refine j_irem C (by omega) (by omega) dX5_digest_84 ?_
    refine J.to (L1 := [(0, .ref (u 0)), (1, .int (iI ((i : Int))))]) (S1 := [.int (iI (((i % 7 : Nat) : Int))), .int (iI (((i / 7 : Nat) : Int))), .ref (u 0), .ref (u 0)]) (ws1 := [(u 0, .inr (5, [.ref (u 1), .ref (u 2), .ref (u 3), .int (iI ((sv : Int))), .ref (u 4), .int (iI ((ln : Int))), .int (iI 0), .int (iI ap), .int (iI rm), .ref (u 5), .int (iI rd), .int (iI nw), .ref (u 6), .long (lI (dgC h0 (kV v) i))])), (u 1, aL g 75 v)]) rfl rfl (by rw [show ((((i : Int)).tmod 7 : Int)) = ((i % 7 : Nat) : Int) from (by rw [tmod_pos (by omega)]; omega)]) ?_
    refine j_callV (As := [.int (iI (((i / 7 : Nat) : Int))), .int (iI (((i % 7 : Nat) : Int)))]) (rest := [.ref (u 0)]) C yv_X5_blockTold qw836 (c_X5_blockTold l g u v ((sv : Int)) ((ln : Int)) 0 ap rm rd nw (dgC h0 (kV v) i) (((i / 7 : Nat) : Int)) (((i % 7 : Nat) : Int)) hm (by omega) (by omega)) (by decide) 0 rfl rfl rfl dX5_digest_85 rfl (Nat.le_of_ble_eq_true rfl) (by decide) pf0 rfl (fun r9 w9 hq9 => ?_)
    obtain ⟨rfl, rfl⟩ := hq9
    refine J.to (L1 := [(0, .ref (u 0)), (1, .int (iI ((i : Int))))]) (S1 := [.int (iI (blkF (kV v) (((i / 7 : Nat) : Int)) (((i % 7 : Nat) : Int)))), .ref (u 0)]) (ws1 := [(u 0, .inr (5, [.ref (u 1), .ref (u 2), .ref (u 3), .int (iI ((sv : Int))), .ref (u 4), .int (iI ((ln : Int))), .int (iI 0), .int (iI ap), .int (iI rm), .ref (u 5), .int (iI rd), .int (iI nw), .ref (u 6), .long (lI (dgC h0 (kV v) i))])), (u 1, aL g 75 v)]) rfl rfl rfl ?_
    refine j_i2lw C dX5_digest_88 ?_
    refine j_callV (As := [.long (lI (w32 (blkF (kV v) (((i / 7 : Nat) : Int)) (((i % 7 : Nat) : Int)))))]) (rest := []) C yv_X5_mix qw952 (c_X5_mix l g u v ((sv : Int)) ((ln : Int)) 0 ap rm rd nw (dgC h0 (kV v) i) (w32 (blkF (kV v) (((i / 7 : Nat) : Int)) (((i % 7 : Nat) : Int))))) (by decide) 0 rfl rfl rfl dX5_digest_89 rfl (Nat.le_of_ble_eq_true rfl) (by decide) (pf1 [] [(u 1, aL g 75 v)]) rfl (fun r9 w9 hq9 => ?_)
    obtain ⟨rfl, rfl⟩ := hq9
    refine J.to (L1 := [(0, .ref (u 0)), (1, .int (iI ((i : Int))))]) (S1 := []) (ws1 := [(u 0, .inr (5, [.ref (u 1), .ref (u 2), .ref (u 3), .int (iI ((sv : Int))), .ref (u 4), .int (iI ((ln : Int))), .int (iI 0), .int (iI ap), .int (iI rm), .ref (u 5), .int (iI rd), .int (iI nw), .ref (u 6), .long (lI (31 * (dgC h0 (kV v) i) + (w32 (blkF (kV v) (((i / 7 : Nat) : Int)) (((i % 7 : Nat) : Int))))))])), (u 1, aL g 75 v)]) rfl rfl rfl ?_
    refine j_iinc (L1 := [(1, .int (iI (((i : Int)) + 1))), (0, .ref (u 0))]) C 1 dX5_digest_92 rfl (by decide) rfl ?_
    refine j_goto (tgt := 69) C dX5_digest_95 (by decide) ?_
    refine J.sub (L1 := [(0, .ref (u 0)), (1, .int (iI (((i : Int)) + 1)))]) [1, 0] rfl ?_
    exact ih (i + 1) (by omega)

theorem lm_dg3 {p : Program} {l : Launch} {e : Env} {s : State} {m : MethodId} {args : Array Value} {below : List Frame} {meth : Method} {c : Code} {g : Gh} {A : Nat → Prop} {Q : State → Prop} (C : Cx p g s m args c cX5_digest 2 RX5 A) {u : Nat → Nat} {v : Nat → Int} {sv ln : Nat} {ap rm rd nw : Int} (hm : MOK v) {h0 : Int} (kk : J p l e ({ frames := 5, cells := 0, slots := 0, locals := 107 } : Room) s m args below meth c g A 2 131 [(0, .ref (u 0))] [] [(u 0, .inr (5, [.ref (u 1), .ref (u 2), .ref (u 3), .int (iI ((sv : Int))), .ref (u 4), .int (iI ((ln : Int))), .int (iI 0), .int (iI ap), .int (iI rm), .ref (u 5), .int (iI rd), .int (iI nw), .ref (u 6), .long (lI (dgD h0 (kV v) (v 2).toNat))])), (u 1, aL g 75 v)] 0 0 Q) : ∀ (n i : Nat), (i : Int) + n = v 2 → J p l e ({ frames := 5, cells := 0, slots := 0, locals := 107 } : Room) s m args below meth c g A 2 100 [(0, .ref (u 0)), (1, .int (iI ((i : Int))))] [] [(u 0, .inr (5, [.ref (u 1), .ref (u 2), .ref (u 3), .int (iI ((sv : Int))), .ref (u 4), .int (iI ((ln : Int))), .int (iI 0), .int (iI ap), .int (iI rm), .ref (u 5), .int (iI rd), .int (iI nw), .ref (u 6), .long (lI (dgD h0 (kV v) i))])), (u 1, aL g 75 v)] 0 0 Q := by
  intro n
  induction n with
  | zero =>
    intro i hi
    obtain ⟨hP, hE0, hF, hrow0, hwt, hht, hlen, hent⟩ := id hm
    have hE : -10 ≤ v 3 ∧ v 3 ≤ 10 := by omega
    have hrow : ∀ i : Nat, (i : Int) < v 2 → 0 ≤ vR v i ∧ vR v i ≤ 4 := fun i hi => by have := hrow0 i hi; omega
    refine j_iload_n C 1 dX5_digest_100 rfl rfl ?_
    refine j_i2l C (by omega) dX5_digest_101 ?_
    refine j_aload_n C 0 dX5_digest_102 rfl rfl ?_
    refine j_get C ck5 0 0 (by decide) qw662 rfl rfl dX5_digest_103 ?_
    refine j_iconst C dX5_digest_106 ?_
    refine j_lald (n := 75) (f := v) C 1 2 rfl rfl (by decide) (by decide) dX5_digest_107 ?_
    refine j_lif_ge (tgt := 131) C (by omega) (by omega) dX5_digest_108 dX5_digest_109 (by decide) (fun c108 => ?_) (fun c108 => absurd c108 (by omega))
    refine J.sub (L1 := [(0, .ref (u 0))]) [0] rfl ?_
    rw [show i = (v 2).toNat by omega]
    exact kk
  | succ n ih =>
    intro i hi
    obtain ⟨hP, hE0, hF, hrow0, hwt, hht, hlen, hent⟩ := id hm
    have hE : -10 ≤ v 3 ∧ v 3 ≤ 10 := by omega
    have hrow : ∀ i : Nat, (i : Int) < v 2 → 0 ≤ vR v i ∧ vR v i ≤ 4 := fun i hi => by have := hrow0 i hi; omega
    refine j_iload_n C 1 dX5_digest_100 rfl rfl ?_
    refine j_i2l C (by omega) dX5_digest_101 ?_
    refine j_aload_n C 0 dX5_digest_102 rfl rfl ?_
    refine j_get C ck5 0 0 (by decide) qw662 rfl rfl dX5_digest_103 ?_
    refine j_iconst C dX5_digest_106 ?_
    refine j_lald (n := 75) (f := v) C 1 2 rfl rfl (by decide) (by decide) dX5_digest_107 ?_
    refine j_lif_ge (tgt := 131) C (by omega) (by omega) dX5_digest_108 dX5_digest_109 (by decide) (fun c108 => absurd c108 (by omega)) (fun c108 => ?_)
    refine j_aload_n C 0 dX5_digest_112 rfl rfl ?_
    refine j_aload_n C 0 dX5_digest_113 rfl rfl ?_
    refine j_get C ck5 0 0 (by decide) qw662 rfl rfl dX5_digest_114 ?_
    refine j_bipush C dX5_digest_117 (by decide) ?_
    refine j_iload_n C 1 dX5_digest_119 rfl rfl ?_
    refine j_iadd C dX5_digest_120 ?_
    refine j_lald (n := 75) (f := v) C 1 (17 + i) rfl (by omega) (by omega) (by decide) dX5_digest_121 ?_
    refine j_callV (As := [.long (lI (v (17 + i)))]) (rest := []) C yv_X5_mix qw952 (c_X5_mix l g u v ((sv : Int)) ((ln : Int)) 0 ap rm rd nw (dgD h0 (kV v) i) (v (17 + i))) (by decide) 0 rfl rfl rfl dX5_digest_122 rfl (Nat.le_of_ble_eq_true rfl) (by decide) (pf1 [] [(u 1, aL g 75 v)]) rfl (fun r9 w9 hq9 => ?_)
    obtain ⟨rfl, rfl⟩ := hq9
    refine J.to (L1 := [(0, .ref (u 0)), (1, .int (iI ((i : Int))))]) (S1 := []) (ws1 := [(u 0, .inr (5, [.ref (u 1), .ref (u 2), .ref (u 3), .int (iI ((sv : Int))), .ref (u 4), .int (iI ((ln : Int))), .int (iI 0), .int (iI ap), .int (iI rm), .ref (u 5), .int (iI rd), .int (iI nw), .ref (u 6), .long (lI (31 * (dgD h0 (kV v) i) + (v (17 + i))))])), (u 1, aL g 75 v)]) rfl rfl rfl ?_
    refine j_iinc (L1 := [(1, .int (iI (((i : Int)) + 1))), (0, .ref (u 0))]) C 1 dX5_digest_125 rfl (by decide) rfl ?_
    refine j_goto (tgt := 100) C dX5_digest_128 (by decide) ?_
    refine J.sub (L1 := [(0, .ref (u 0)), (1, .int (iI (((i : Int)) + 1)))]) [1, 0] rfl ?_
    exact ih (i + 1) (by omega)

theorem lm_dg4 {p : Program} {l : Launch} {e : Env} {s : State} {m : MethodId} {args : Array Value} {below : List Frame} {meth : Method} {c : Code} {g : Gh} {A : Nat → Prop} {Q : State → Prop} (C : Cx p g s m args c cX5_digest 2 RX5 A) {u : Nat → Nat} {v : Nat → Int} {sv ln : Nat} {ap rm rd nw : Int} (hm : MOK v) {h0 : Int} (kk : J p l e ({ frames := 5, cells := 0, slots := 0, locals := 107 } : Room) s m args below meth c g A 2 169 [(0, .ref (u 0))] [] [(u 0, .inr (5, [.ref (u 1), .ref (u 2), .ref (u 3), .int (iI ((sv : Int))), .ref (u 4), .int (iI ((ln : Int))), .int (iI 0), .int (iI ap), .int (iI rm), .ref (u 5), .int (iI rd), .int (iI nw), .ref (u 6), .long (lI (dgEV h0 v (3 * (v 6).toNat)))])), (u 1, aL g 75 v)] 0 0 Q) : ∀ (n i : Nat), (i : Int) + n = 3 * v 6 → J p l e ({ frames := 5, cells := 0, slots := 0, locals := 107 } : Room) s m args below meth c g A 2 133 [(0, .ref (u 0)), (1, .int (iI ((i : Int))))] [] [(u 0, .inr (5, [.ref (u 1), .ref (u 2), .ref (u 3), .int (iI ((sv : Int))), .ref (u 4), .int (iI ((ln : Int))), .int (iI 0), .int (iI ap), .int (iI rm), .ref (u 5), .int (iI rd), .int (iI nw), .ref (u 6), .long (lI (dgEV h0 v i))])), (u 1, aL g 75 v)] 0 0 Q := by
  intro n
  induction n with
  | zero =>
    intro i hi
    obtain ⟨hP, hE0, hF, hrow0, hwt, hht, hlen, hent⟩ := id hm
    have hE : -10 ≤ v 3 ∧ v 3 ≤ 10 := by omega
    have hrow : ∀ i : Nat, (i : Int) < v 2 → 0 ≤ vR v i ∧ vR v i ≤ 4 := fun i hi => by have := hrow0 i hi; omega
    refine j_iload_n C 1 dX5_digest_133 rfl rfl ?_
    refine j_i2l C (by omega) dX5_digest_134 ?_
    refine j_ldc2 (x := 3) C qw717 (by decide) dX5_digest_135 ?_
    refine j_aload_n C 0 dX5_digest_138 rfl rfl ?_
    refine j_get C ck5 0 0 (by decide) qw662 rfl rfl dX5_digest_139 ?_
    refine j_bipush C dX5_digest_142 (by decide) ?_
    refine j_lald (n := 75) (f := v) C 1 6 rfl rfl (by decide) (by decide) dX5_digest_144 ?_
    refine j_lmul C dX5_digest_145 ?_
    refine j_lif_ge (tgt := 169) C (by omega) (by omega) dX5_digest_146 dX5_digest_147 (by decide) (fun c146 => ?_) (fun c146 => absurd c146 (by omega))
    refine J.sub (L1 := [(0, .ref (u 0))]) [0] rfl ?_
    rw [show i = 3 * (v 6).toNat by omega]
    exact kk
  | succ n ih =>
    intro i hi
    obtain ⟨hP, hE0, hF, hrow0, hwt, hht, hlen, hent⟩ := id hm
    have hE : -10 ≤ v 3 ∧ v 3 ≤ 10 := by omega
    have hrow : ∀ i : Nat, (i : Int) < v 2 → 0 ≤ vR v i ∧ vR v i ≤ 4 := fun i hi => by have := hrow0 i hi; omega
    refine j_iload_n C 1 dX5_digest_133 rfl rfl ?_
    refine j_i2l C (by omega) dX5_digest_134 ?_
    refine j_ldc2 (x := 3) C qw717 (by decide) dX5_digest_135 ?_
    refine j_aload_n C 0 dX5_digest_138 rfl rfl ?_
    refine j_get C ck5 0 0 (by decide) qw662 rfl rfl dX5_digest_139 ?_
    refine j_bipush C dX5_digest_142 (by decide) ?_
    refine j_lald (n := 75) (f := v) C 1 6 rfl rfl (by decide) (by decide) dX5_digest_144 ?_
    refine j_lmul C dX5_digest_145 ?_
    refine j_lif_ge (tgt := 169) C (by omega) (by omega) dX5_digest_146 dX5_digest_147 (by decide) (fun c146 => absurd c146 (by omega)) (fun c146 => ?_)
    refine j_aload_n C 0 dX5_digest_150 rfl rfl ?_
    refine j_aload_n C 0 dX5_digest_151 rfl rfl ?_
    refine j_get C ck5 0 0 (by decide) qw662 rfl rfl dX5_digest_152 ?_
    refine j_bipush C dX5_digest_155 (by decide) ?_
    refine j_iload_n C 1 dX5_digest_157 rfl rfl ?_
    refine j_iadd C dX5_digest_158 ?_
    refine j_lald (n := 75) (f := v) C 1 (27 + i) rfl (by omega) (by omega) (by decide) dX5_digest_159 ?_
    refine j_callV (As := [.long (lI (v (27 + i)))]) (rest := []) C yv_X5_mix qw952 (c_X5_mix l g u v ((sv : Int)) ((ln : Int)) 0 ap rm rd nw (dgEV h0 v i) (v (27 + i))) (by decide) 0 rfl rfl rfl dX5_digest_160 rfl (Nat.le_of_ble_eq_true rfl) (by decide) (pf1 [] [(u 1, aL g 75 v)]) rfl (fun r9 w9 hq9 => ?_)
    obtain ⟨rfl, rfl⟩ := hq9
    refine J.to (L1 := [(0, .ref (u 0)), (1, .int (iI ((i : Int))))]) (S1 := []) (ws1 := [(u 0, .inr (5, [.ref (u 1), .ref (u 2), .ref (u 3), .int (iI ((sv : Int))), .ref (u 4), .int (iI ((ln : Int))), .int (iI 0), .int (iI ap), .int (iI rm), .ref (u 5), .int (iI rd), .int (iI nw), .ref (u 6), .long (lI (31 * (dgEV h0 v i) + (v (27 + i))))])), (u 1, aL g 75 v)]) rfl rfl rfl ?_
    refine j_iinc (L1 := [(1, .int (iI (((i : Int)) + 1))), (0, .ref (u 0))]) C 1 dX5_digest_163 rfl (by decide) rfl ?_
    refine j_goto (tgt := 133) C dX5_digest_166 (by decide) ?_
    refine J.sub (L1 := [(0, .ref (u 0)), (1, .int (iI (((i : Int)) + 1)))]) [1, 0] rfl ?_
    exact ih (i + 1) (by omega)

theorem c_X5_digest (l : Launch) (g : Gh) (u : Nat → Nat) (v : Nat → Int) (sv ln : Nat) (th ap rm rd nw hh : Int) (hm : MOK v) (hsv : sv ≤ 4) (hln : ln ≤ 60) : CT l g yX5_digest cX5_digest 2 (some FieldType.long) ({ frames := 5, cells := 0, slots := 0, locals := 107 }) [.ref (u 0)] [(u 0, .inr (5, [.ref (u 1), .ref (u 2), .ref (u 3), .int (iI ((sv : Int))), .ref (u 4), .int (iI ((ln : Int))), .int (iI th), .int (iI ap), .int (iI rm), .ref (u 5), .int (iI rd), .int (iI nw), .ref (u 6), .long (lI hh)])), (u 1, aL g 75 v)] (PE (some (.long (lI (digV v (ln : Int) (sv : Int))))) [(u 0, .inr (5, [.ref (u 1), .ref (u 2), .ref (u 3), .int (iI ((sv : Int))), .ref (u 4), .int (iI ((ln : Int))), .int (iI 0), .int (iI ap), .int (iI rm), .ref (u 5), .int (iI rd), .int (iI nw), .ref (u 6), .long (lI (digV v (ln : Int) (sv : Int)))])), (u 1, aL g 75 v)]) := by
  refine CT.intro (L0 := [(0, .ref (u 0))]) (own := RX5) (by decide) rfl (Nat.le_of_ble_eq_true rfl) rfl ?_
  intro pX eX sX mX argsX belowX methX cX A C hr hlk
  obtain ⟨hP, hE0, hF, hrow0, hwt, hht, hlen, hent⟩ := id hm
  have hE : -10 ≤ v 3 ∧ v 3 ≤ 10 := by omega
  have hrow : ∀ i : Nat, (i : Int) < v 2 → 0 ≤ vR v i ∧ vR v i ≤ 4 := fun i hi => by have := hrow0 i hi; omega
  refine j_aload_n C 0 dX5_digest_0 rfl rfl ?_
  refine j_iconst C dX5_digest_1 ?_
  refine j_put (ws1 := [(u 0, .inr (5, [.ref (u 1), .ref (u 2), .ref (u 3), .int (iI ((sv : Int))), .ref (u 4), .int (iI ((ln : Int))), .int (iI 0), .int (iI ap), .int (iI rm), .ref (u 5), .int (iI rd), .int (iI nw), .ref (u 6), .long (lI hh)])), (u 1, aL g 75 v)]) C ck5 0 6 (by decide) qw668 rfl dX5_digest_2 rfl rfl rfl rfl (Nat.le_of_ble_eq_true rfl) ?_
  refine j_aload_n C 0 dX5_digest_5 rfl rfl ?_
  refine j_ldc2 (x := 3623) C qw951 (by decide) dX5_digest_6 ?_
  refine j_put (ws1 := [(u 0, .inr (5, [.ref (u 1), .ref (u 2), .ref (u 3), .int (iI ((sv : Int))), .ref (u 4), .int (iI ((ln : Int))), .int (iI 0), .int (iI ap), .int (iI rm), .ref (u 5), .int (iI rd), .int (iI nw), .ref (u 6), .long (lI 3623)])), (u 1, aL g 75 v)]) C ck5 0 13 (by decide) qw675 rfl dX5_digest_9 rfl rfl rfl rfl (Nat.le_of_ble_eq_true rfl) ?_
  refine j_aload_n C 0 dX5_digest_12 rfl rfl ?_
  refine j_aload_n C 0 dX5_digest_13 rfl rfl ?_
  refine j_get C ck5 0 5 (by decide) qw667 rfl rfl dX5_digest_14 ?_
  refine j_i2l C (by omega) dX5_digest_17 ?_
  refine j_callV (As := [.long (lI ((ln : Int)))]) (rest := []) C yv_X5_mix qw952 (c_X5_mix l g u v ((sv : Int)) ((ln : Int)) 0 ap rm rd nw 3623 ((ln : Int))) (by decide) 0 rfl rfl rfl dX5_digest_18 rfl (Nat.le_of_ble_eq_true rfl) (by decide) (pf1 [] [(u 1, aL g 75 v)]) rfl (fun r9 w9 hq9 => ?_)
  obtain ⟨rfl, rfl⟩ := hq9
  refine J.to (L1 := [(0, .ref (u 0))]) (S1 := []) (ws1 := [(u 0, .inr (5, [.ref (u 1), .ref (u 2), .ref (u 3), .int (iI ((sv : Int))), .ref (u 4), .int (iI ((ln : Int))), .int (iI 0), .int (iI ap), .int (iI rm), .ref (u 5), .int (iI rd), .int (iI nw), .ref (u 6), .long (lI (31 * 3623 + ((ln : Int))))])), (u 1, aL g 75 v)]) rfl rfl rfl ?_
  refine J.world (ws1 := [(u 0, .inr (5, [.ref (u 1), .ref (u 2), .ref (u 3), .int (iI ((sv : Int))), .ref (u 4), .int (iI ((ln : Int))), .int (iI 0), .int (iI ap), .int (iI rm), .ref (u 5), .int (iI rd), .int (iI nw), .ref (u 6), .long (lI (dgA (kV v) (ln : Int) 0))])), (u 1, aL g 75 v)]) (by rw [show dgA (kV v) (ln : Int) 0 = 31 * 3623 + (ln : Int) from rfl]) ?_
  refine j_iconst C dX5_digest_21 ?_
  refine j_istore_n (L1 := [(1, .int (iI 0)), (0, .ref (u 0))]) C dX5_digest_22 rfl (by decide) rfl ?_
  refine J.sub (L1 := [(0, .ref (u 0)), (1, .int (iI 0))]) [1, 0] rfl ?_
  refine lm_dg1 C hm ?_ 10 0 (by omega)
  refine j_aload_n C 0 dX5_digest_45 rfl rfl ?_
  refine j_aload_n C 0 dX5_digest_46 rfl rfl ?_
  refine j_get C ck5 0 0 (by decide) qw662 rfl rfl dX5_digest_47 ?_
  refine j_bipush C dX5_digest_50 (by decide) ?_
  refine j_lald (n := 75) (f := v) C 1 7 rfl rfl (by decide) (by decide) dX5_digest_52 ?_
  refine j_callV (As := [.long (lI (v 7))]) (rest := []) C yv_X5_mix qw952 (c_X5_mix l g u v ((sv : Int)) ((ln : Int)) 0 ap rm rd nw (dgA (kV v) (ln : Int) 10) (v 7)) (by decide) 0 rfl rfl rfl dX5_digest_53 rfl (Nat.le_of_ble_eq_true rfl) (by decide) (pf1 [] [(u 1, aL g 75 v)]) rfl (fun r9 w9 hq9 => ?_)
  obtain ⟨rfl, rfl⟩ := hq9
  refine J.to (L1 := [(0, .ref (u 0))]) (S1 := []) (ws1 := [(u 0, .inr (5, [.ref (u 1), .ref (u 2), .ref (u 3), .int (iI ((sv : Int))), .ref (u 4), .int (iI ((ln : Int))), .int (iI 0), .int (iI ap), .int (iI rm), .ref (u 5), .int (iI rd), .int (iI nw), .ref (u 6), .long (lI (31 * (dgA (kV v) (ln : Int) 10) + (v 7)))])), (u 1, aL g 75 v)]) rfl rfl rfl ?_
  refine j_aload_n C 0 dX5_digest_56 rfl rfl ?_
  refine j_aload_n C 0 dX5_digest_57 rfl rfl ?_
  refine j_get C ck5 0 0 (by decide) qw662 rfl rfl dX5_digest_58 ?_
  refine j_bipush C dX5_digest_61 (by decide) ?_
  refine j_lald (n := 75) (f := v) C 1 8 rfl rfl (by decide) (by decide) dX5_digest_63 ?_
  refine j_callV (As := [.long (lI (v 8))]) (rest := []) C yv_X5_mix qw952 (c_X5_mix l g u v ((sv : Int)) ((ln : Int)) 0 ap rm rd nw (31 * (dgA (kV v) (ln : Int) 10) + (v 7)) (v 8)) (by decide) 0 rfl rfl rfl dX5_digest_64 rfl (Nat.le_of_ble_eq_true rfl) (by decide) (pf1 [] [(u 1, aL g 75 v)]) rfl (fun r9 w9 hq9 => ?_)
  obtain ⟨rfl, rfl⟩ := hq9
  refine J.to (L1 := [(0, .ref (u 0))]) (S1 := []) (ws1 := [(u 0, .inr (5, [.ref (u 1), .ref (u 2), .ref (u 3), .int (iI ((sv : Int))), .ref (u 4), .int (iI ((ln : Int))), .int (iI 0), .int (iI ap), .int (iI rm), .ref (u 5), .int (iI rd), .int (iI nw), .ref (u 6), .long (lI (31 * (31 * (dgA (kV v) (ln : Int) 10) + (v 7)) + (v 8)))])), (u 1, aL g 75 v)]) rfl rfl rfl ?_
  refine J.world (ws1 := [(u 0, .inr (5, [.ref (u 1), .ref (u 2), .ref (u 3), .int (iI ((sv : Int))), .ref (u 4), .int (iI ((ln : Int))), .int (iI 0), .int (iI ap), .int (iI rm), .ref (u 5), .int (iI rd), .int (iI nw), .ref (u 6), .long (lI (dgC (dgB (kV v) (ln : Int)) (kV v) 0))])), (u 1, aL g 75 v)]) rfl ?_
  refine j_iconst C dX5_digest_67 ?_
  refine j_istore_n (L1 := [(1, .int (iI 0)), (0, .ref (u 0))]) C dX5_digest_68 rfl (by decide) rfl ?_
  refine J.sub (L1 := [(0, .ref (u 0)), (1, .int (iI 0))]) [1, 0] rfl ?_
  refine lm_dg2 C hm (h0 := dgB (kV v) (ln : Int)) ?_ 28 0 (by omega)
  refine J.world (ws1 := [(u 0, .inr (5, [.ref (u 1), .ref (u 2), .ref (u 3), .int (iI ((sv : Int))), .ref (u 4), .int (iI ((ln : Int))), .int (iI 0), .int (iI ap), .int (iI rm), .ref (u 5), .int (iI rd), .int (iI nw), .ref (u 6), .long (lI (dgD (dgC (dgB (kV v) (ln : Int)) (kV v) 28) (kV v) 0))])), (u 1, aL g 75 v)]) rfl ?_
  refine j_iconst C dX5_digest_98 ?_
  refine j_istore_n (L1 := [(1, .int (iI 0)), (0, .ref (u 0))]) C dX5_digest_99 rfl (by decide) rfl ?_
  refine J.sub (L1 := [(0, .ref (u 0)), (1, .int (iI 0))]) [1, 0] rfl ?_
  refine lm_dg3 C hm (h0 := dgC (dgB (kV v) (ln : Int)) (kV v) 28) ?_ (v 2).toNat 0 (by omega)
  refine J.world (ws1 := [(u 0, .inr (5, [.ref (u 1), .ref (u 2), .ref (u 3), .int (iI ((sv : Int))), .ref (u 4), .int (iI ((ln : Int))), .int (iI 0), .int (iI ap), .int (iI rm), .ref (u 5), .int (iI rd), .int (iI nw), .ref (u 6), .long (lI (dgEV (dgD (dgC (dgB (kV v) (ln : Int)) (kV v) 28) (kV v) (v 2).toNat) v 0))])), (u 1, aL g 75 v)]) rfl ?_
  refine j_iconst C dX5_digest_131 ?_
  refine j_istore_n (L1 := [(1, .int (iI 0)), (0, .ref (u 0))]) C dX5_digest_132 rfl (by decide) rfl ?_
  refine J.sub (L1 := [(0, .ref (u 0)), (1, .int (iI 0))]) [1, 0] rfl ?_
  refine lm_dg4 C hm (h0 := dgD (dgC (dgB (kV v) (ln : Int)) (kV v) 28) (kV v) (v 2).toNat) ?_ (3 * (v 6).toNat) 0 (by omega)
  refine j_aload_n C 0 dX5_digest_169 rfl rfl ?_
  refine j_aload_n C 0 dX5_digest_170 rfl rfl ?_
  refine j_get C ck5 0 3 (by decide) qw665 rfl rfl dX5_digest_171 ?_
  refine j_i2l C (by omega) dX5_digest_174 ?_
  refine j_callV (As := [.long (lI ((sv : Int)))]) (rest := []) C yv_X5_mix qw952 (c_X5_mix l g u v ((sv : Int)) ((ln : Int)) 0 ap rm rd nw (dgEV (dgD (dgC (dgB (kV v) (ln : Int)) (kV v) 28) (kV v) (v 2).toNat) v (3 * (v 6).toNat)) ((sv : Int))) (by decide) 0 rfl rfl rfl dX5_digest_175 rfl (Nat.le_of_ble_eq_true rfl) (by decide) (pf1 [] [(u 1, aL g 75 v)]) rfl (fun r9 w9 hq9 => ?_)
  obtain ⟨rfl, rfl⟩ := hq9
  refine J.to (L1 := [(0, .ref (u 0))]) (S1 := []) (ws1 := [(u 0, .inr (5, [.ref (u 1), .ref (u 2), .ref (u 3), .int (iI ((sv : Int))), .ref (u 4), .int (iI ((ln : Int))), .int (iI 0), .int (iI ap), .int (iI rm), .ref (u 5), .int (iI rd), .int (iI nw), .ref (u 6), .long (lI (31 * (dgEV (dgD (dgC (dgB (kV v) (ln : Int)) (kV v) 28) (kV v) (v 2).toNat) v (3 * (v 6).toNat)) + ((sv : Int))))])), (u 1, aL g 75 v)]) rfl rfl rfl ?_
  refine j_aload_n C 0 dX5_digest_178 rfl rfl ?_
  refine j_get C ck5 0 13 (by decide) qw675 rfl rfl dX5_digest_179 ?_
  exact j_lret C hr hlk dX5_digest_182 ⟨rfl, rfl⟩ (by decide) (by decide)

