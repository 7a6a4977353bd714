/-! the reference: saves, ledger, who moves next -/
def shf (i : Nat) (pa : Nat → Int) : Nat → Int := fun j => if j < i then pa (j + 75) else pa j
theorem shf_0 (pa : Nat → Int) : shf 0 pa = pa := by
  funext j
  simp [shf]
theorem shf_succ (i : Nat) (pa : Nat → Int) : va_up (shf i pa) i (pa (i + 75)) = shf (i + 1) pa := by
  funext j
  simp only [va_up, shf]
  by_cases h1 : j = i
  · subst h1; simp
  · rw [if_neg h1]
    by_cases h2 : j < i
    · rw [if_pos h2, if_pos (by omega)]
    · rw [if_neg h2, if_neg (by omega)]
def cpB (n base : Nat) (v pa : Nat → Int) : Nat → Int := fun j => if base ≤ j ∧ j < base + n then v (j - base) else pa j
theorem cpB_0 (base : Nat) (v pa : Nat → Int) : cpB 0 base v pa = pa := by
  funext j
  unfold cpB
  exact if_neg (by omega)
theorem cpB_succ (i base : Nat) (v pa : Nat → Int) : va_up (cpB i base v pa) (base + i) (v i) = cpB (i + 1) base v pa := by
  funext j
  simp only [va_up, cpB]
  by_cases h1 : j = base + i
  · subst h1; rw [if_pos rfl, if_pos ⟨by omega, by omega⟩, show base + i - base = i by omega]
  · rw [if_neg h1]
    by_cases h2 : base ≤ j ∧ j < base + i
    · rw [if_pos h2, if_pos ⟨h2.1, by omega⟩]
    · rw [if_neg h2, if_neg (by omega)]
/-- what saving makes of the past -/
def svP (v pa : Nat → Int) (sv : Nat) : Nat → Int := if sv = 4 then cpB 75 225 v (shf 225 pa) else cpB 75 (75 * sv) v pa
def svN (sv : Nat) : Nat := if sv = 4 then 4 else sv + 1
theorem lm_saves1 {p : Program} {l : Launch} {e : Env} {s : State} {m : MethodId} {args : Array Value} {below : List Frame} {meth : Method} {c : Code} {g : Gh} {A : Nat → Prop} {Q : State → Prop} (C : Cx p g s m args c cX5_saves 2 RX5 A) {u : Nat → Nat} {v pa : Nat → Int} {ln th ap rm rd nw hh : Int}  (kk : J p l e ({ frames := 0, cells := 0, slots := 0, locals := 0 } : Room) s m args below meth c g A 2 38 [(0, .ref (u 0))] [] [(u 0, .inr (5, [.ref (u 1), .ref (u 2), .ref (u 3), .int (iI (((4 : Nat) : Int))), .ref (u 4), .int (iI ln), .int (iI th), .int (iI ap), .int (iI rm), .ref (u 5), .int (iI rd), .int (iI nw), .ref (u 6), .long (lI hh)])), (u 1, aL g 75 v), (u 2, aL g 300 (shf 225 pa))] 0 0 Q) : ∀ (n i : Nat), i + n = 225 → J p l e ({ frames := 0, cells := 0, slots := 0, locals := 0 } : Room) s m args below meth c g A 2 10 [(0, .ref (u 0)), (1, .int (iI ((i : Int))))] [] [(u 0, .inr (5, [.ref (u 1), .ref (u 2), .ref (u 3), .int (iI (((4 : Nat) : Int))), .ref (u 4), .int (iI ln), .int (iI th), .int (iI ap), .int (iI rm), .ref (u 5), .int (iI rd), .int (iI nw), .ref (u 6), .long (lI hh)])), (u 1, aL g 75 v), (u 2, aL g 300 (shf i pa))] 0 0 Q := by
  intro n
  induction n with
  | zero =>
    intro i hi
    refine j_iload_n C 1 dX5_saves_10 rfl rfl ?_
    refine j_sipush C dX5_saves_11 (by decide) ?_
    refine j_icmp_ge (tgt := 38) C (by omega) (by decide) dX5_saves_14 (by decide) (fun c14 => ?_) (fun c14 => absurd c14 (by omega))
    refine J.sub (L1 := [(0, .ref (u 0))]) [0] rfl ?_
    rw [show i = 225 by omega]
    exact kk
  | succ n ih =>
    intro i hi
    refine j_iload_n C 1 dX5_saves_10 rfl rfl ?_
    refine j_sipush C dX5_saves_11 (by decide) ?_
    refine j_icmp_ge (tgt := 38) C (by omega) (by decide) dX5_saves_14 (by decide) (fun c14 => absurd c14 (by omega)) (fun c14 => ?_)
    refine j_aload_n C 0 dX5_saves_17 rfl rfl ?_
    refine j_get C ck5 0 1 (by decide) qw663 rfl rfl dX5_saves_18 ?_
    refine j_iload_n C 1 dX5_saves_21 rfl rfl ?_
    refine j_aload_n C 0 dX5_saves_22 rfl rfl ?_
    refine j_get C ck5 0 1 (by decide) qw663 rfl rfl dX5_saves_23 ?_
    refine j_iload_n C 1 dX5_saves_26 rfl rfl ?_
    refine j_bipush C dX5_saves_27 (by decide) ?_
    refine j_iadd C dX5_saves_29 ?_
    refine j_lald (n := 300) (f := shf i pa) C 2 (i + 75) rfl (by omega) (by omega) (by decide) dX5_saves_30 ?_
    refine J.to (L1 := [(0, .ref (u 0)), (1, .int (iI ((i : Int))))]) (S1 := [.long (lI (pa (i + 75))), .int (iI ((i : Int))), .ref (u 2)]) (ws1 := [(u 0, .inr (5, [.ref (u 1), .ref (u 2), .ref (u 3), .int (iI (((4 : Nat) : Int))), .ref (u 4), .int (iI ln), .int (iI th), .int (iI ap), .int (iI rm), .ref (u 5), .int (iI rd), .int (iI nw), .ref (u 6), .long (lI hh)])), (u 1, aL g 75 v), (u 2, aL g 300 (shf i pa))]) rfl rfl (by rw [show (((shf i pa) (i + 75) : Int)) = pa (i + 75) from (by unfold shf; exact if_neg (by omega))]) ?_
    refine j_last (n := 300) (f := shf i pa) (ws1 := [(u 0, .inr (5, [.ref (u 1), .ref (u 2), .ref (u 3), .int (iI (((4 : Nat) : Int))), .ref (u 4), .int (iI ln), .int (iI th), .int (iI ap), .int (iI rm), .ref (u 5), .int (iI rd), .int (iI nw), .ref (u 6), .long (lI hh)])), (u 1, aL g 75 v), (u 2, aL g 300 (va_up (shf i pa) i (pa (i + 75))))]) C 2 i rfl rfl (by omega) (by decide) dX5_saves_31 rfl ?_
    refine j_iinc (L1 := [(1, .int (iI (((i : Int)) + 1))), (0, .ref (u 0))]) C 1 dX5_saves_32 rfl (by decide) rfl ?_
    refine j_goto (tgt := 10) C dX5_saves_35 (by decide) ?_
    refine J.sub (L1 := [(0, .ref (u 0)), (1, .int (iI (((i : Int)) + 1)))]) [1, 0] rfl ?_
    rw [shf_succ]
    exact ih (i + 1) (by omega)

theorem lm_saves2 {p : Program} {l : Launch} {e : Env} {s : State} {m : MethodId} {args : Array Value} {below : List Frame} {meth : Method} {c : Code} {g : Gh} {A : Nat → Prop} {Q : State → Prop} (C : Cx p g s m args c cX5_saves 2 RX5 A) {u : Nat → Nat} {v pa : Nat → Int} {sv : Nat} {ln th ap rm rd nw hh : Int} (hsv : sv < 4) (kk : J p l e ({ frames := 0, cells := 0, slots := 0, locals := 0 } : Room) s m args below meth c g A 2 82 [(0, .ref (u 0))] [] [(u 0, .inr (5, [.ref (u 1), .ref (u 2), .ref (u 3), .int (iI ((sv : Int))), .ref (u 4), .int (iI ln), .int (iI th), .int (iI ap), .int (iI rm), .ref (u 5), .int (iI rd), .int (iI nw), .ref (u 6), .long (lI hh)])), (u 1, aL g 75 v), (u 2, aL g 300 (cpB 75 (75 * sv) v pa))] 0 0 Q) : ∀ (n i : Nat), i + n = 75 → J p l e ({ frames := 0, cells := 0, slots := 0, locals := 0 } : Room) s m args below meth c g A 2 50 [(0, .ref (u 0)), (1, .int (iI ((i : Int))))] [] [(u 0, .inr (5, [.ref (u 1), .ref (u 2), .ref (u 3), .int (iI ((sv : Int))), .ref (u 4), .int (iI ln), .int (iI th), .int (iI ap), .int (iI rm), .ref (u 5), .int (iI rd), .int (iI nw), .ref (u 6), .long (lI hh)])), (u 1, aL g 75 v), (u 2, aL g 300 (cpB i (75 * sv) v pa))] 0 0 Q := by
  intro n
  induction n with
  | zero =>
    intro i hi
    refine j_iload_n C 1 dX5_saves_50 rfl rfl ?_
    refine j_bipush C dX5_saves_51 (by decide) ?_
    refine j_icmp_ge (tgt := 82) C (by omega) (by decide) dX5_saves_53 (by decide) (fun c53 => ?_) (fun c53 => absurd c53 (by omega))
    refine J.sub (L1 := [(0, .ref (u 0))]) [0] rfl ?_
    rw [show i = 75 by omega]
    exact kk
  | succ n ih =>
    intro i hi
    refine j_iload_n C 1 dX5_saves_50 rfl rfl ?_
    refine j_bipush C dX5_saves_51 (by decide) ?_
    refine j_icmp_ge (tgt := 82) C (by omega) (by decide) dX5_saves_53 (by decide) (fun c53 => absurd c53 (by omega)) (fun c53 => ?_)
    refine j_aload_n C 0 dX5_saves_56 rfl rfl ?_
    refine j_get C ck5 0 1 (by decide) qw663 rfl rfl dX5_saves_57 ?_
    refine j_bipush C dX5_saves_60 (by decide) ?_
    refine j_aload_n C 0 dX5_saves_62 rfl rfl ?_
    refine j_get C ck5 0 3 (by decide) qw665 rfl rfl dX5_saves_63 ?_
    refine j_imul C dX5_saves_66 ?_
    refine j_iload_n C 1 dX5_saves_67 rfl rfl ?_
    refine j_iadd C dX5_saves_68 ?_
    refine j_aload_n C 0 dX5_saves_69 rfl rfl ?_
    refine j_get C ck5 0 0 (by decide) qw662 rfl rfl dX5_saves_70 ?_
    refine j_iload_n C 1 dX5_saves_73 rfl rfl ?_
    refine j_lald (n := 75) (f := v) C 1 i rfl rfl (by omega) (by decide) dX5_saves_74 ?_
    refine j_last (n := 300) (f := cpB i (75 * sv) v pa) (ws1 := [(u 0, .inr (5, [.ref (u 1), .ref (u 2), .ref (u 3), .int (iI ((sv : Int))), .ref (u 4), .int (iI ln), .int (iI th), .int (iI ap), .int (iI rm), .ref (u 5), .int (iI rd), .int (iI nw), .ref (u 6), .long (lI hh)])), (u 1, aL g 75 v), (u 2, aL g 300 (va_up (cpB i (75 * sv) v pa) (75 * sv + i) (v i)))]) C 2 (75 * sv + i) rfl (by omega) (by omega) (by decide) dX5_saves_75 rfl ?_
    refine j_iinc (L1 := [(1, .int (iI (((i : Int)) + 1))), (0, .ref (u 0))]) C 1 dX5_saves_76 rfl (by decide) rfl ?_
    refine j_goto (tgt := 50) C dX5_saves_79 (by decide) ?_
    refine J.sub (L1 := [(0, .ref (u 0)), (1, .int (iI (((i : Int)) + 1)))]) [1, 0] rfl ?_
    rw [cpB_succ]
    exact ih (i + 1) (by omega)

theorem c_X5_saves_f (l : Launch) (g : Gh) (u : Nat → Nat) (v pa sd tx rr rq : Nat → Int) (sv : Nat) (ln th ap rm rd nw hh : Int) (hsv : sv < 4) : CT l g yX5_saves cX5_saves 2 none ({ frames := 0, cells := 0, slots := 0, locals := 0 }) [.ref (u 0)] [(u 0, .inr (5, [.ref (u 1), .ref (u 2), .ref (u 3), .int (iI ((sv : Int))), .ref (u 4), .int (iI ln), .int (iI th), .int (iI ap), .int (iI rm), .ref (u 5), .int (iI rd), .int (iI nw), .ref (u 6), .long (lI hh)])), (u 1, aL g 75 v), (u 2, aL g 300 pa)] (PE none [(u 0, .inr (5, [.ref (u 1), .ref (u 2), .ref (u 3), .int (iI (((sv + 1 : Nat) : Int))), .ref (u 4), .int (iI ln), .int (iI th), .int (iI ap), .int (iI rm), .ref (u 5), .int (iI rd), .int (iI nw), .ref (u 6), .long (lI hh)])), (u 1, aL g 75 v), (u 2, aL g 300 (cpB 75 (75 * sv) v pa))]) := by
  refine CT.intro (L0 := [(0, .ref (u 0))]) (own := RX5) (by decide) rfl (Nat.le_of_ble_eq_true rfl) rfl ?_
  intro pX eX sX mX argsX belowX methX cX A C hr hlk
  refine j_aload_n C 0 dX5_saves_0 rfl rfl ?_
  refine j_get C ck5 0 3 (by decide) qw665 rfl rfl dX5_saves_1 ?_
  refine j_iconst C dX5_saves_4 ?_
  refine j_icmp_ne (tgt := 48) C (by omega) (by decide) dX5_saves_5 (by decide) (fun c5 => ?_) (fun c5 => absurd c5 (by omega))
  refine j_iconst C dX5_saves_48 ?_
  refine j_istore_n (L1 := [(1, .int (iI 0)), (0, .ref (u 0))]) C dX5_saves_49 rfl (by decide) rfl ?_
  refine J.sub (L1 := [(0, .ref (u 0)), (1, .int (iI 0))]) [1, 0] rfl ?_
  refine J.world (ws1 := [(u 0, .inr (5, [.ref (u 1), .ref (u 2), .ref (u 3), .int (iI ((sv : Int))), .ref (u 4), .int (iI ln), .int (iI th), .int (iI ap), .int (iI rm), .ref (u 5), .int (iI rd), .int (iI nw), .ref (u 6), .long (lI hh)])), (u 1, aL g 75 v), (u 2, aL g 300 pa)]) rfl ?_
  refine J.world (ws1 := [(u 0, .inr (5, [.ref (u 1), .ref (u 2), .ref (u 3), .int (iI ((sv : Int))), .ref (u 4), .int (iI ln), .int (iI th), .int (iI ap), .int (iI rm), .ref (u 5), .int (iI rd), .int (iI nw), .ref (u 6), .long (lI hh)])), (u 1, aL g 75 v), (u 2, aL g 300 (cpB 0 (75 * sv) v pa))]) (by rw [cpB_0]) ?_
  refine lm_saves2 (sv := sv) C (by omega) ?_ 75 0 (by omega)
  refine j_aload_n C 0 dX5_saves_82 rfl rfl ?_
  refine j_dup C dX5_saves_83 rfl ?_
  refine j_get C ck5 0 3 (by decide) qw665 rfl rfl dX5_saves_84 ?_
  refine j_iconst C dX5_saves_87 ?_
  refine j_iadd C dX5_saves_88 ?_
  refine j_put (ws1 := [(u 0, .inr (5, [.ref (u 1), .ref (u 2), .ref (u 3), .int (iI (((sv : Int)) + 1)), .ref (u 4), .int (iI ln), .int (iI th), .int (iI ap), .int (iI rm), .ref (u 5), .int (iI rd), .int (iI nw), .ref (u 6), .long (lI hh)])), (u 1, aL g 75 v), (u 2, aL g 300 (cpB 75 (75 * sv) v pa))]) C ck5 0 3 (by decide) qw665 rfl dX5_saves_89 rfl rfl rfl rfl (Nat.le_of_ble_eq_true rfl) ?_
  exact j_vret C hr hlk dX5_saves_92 ⟨rfl, rfl⟩ (by decide) (by decide)

theorem c_X5_saves_4 (l : Launch) (g : Gh) (u : Nat → Nat) (v pa sd tx rr rq : Nat → Int) (ln th ap rm rd nw hh : Int)  : CT l g yX5_saves cX5_saves 2 none ({ frames := 0, cells := 0, slots := 0, locals := 0 }) [.ref (u 0)] [(u 0, .inr (5, [.ref (u 1), .ref (u 2), .ref (u 3), .int (iI (((4 : Nat) : Int))), .ref (u 4), .int (iI ln), .int (iI th), .int (iI ap), .int (iI rm), .ref (u 5), .int (iI rd), .int (iI nw), .ref (u 6), .long (lI hh)])), (u 1, aL g 75 v), (u 2, aL g 300 pa)] (PE none [(u 0, .inr (5, [.ref (u 1), .ref (u 2), .ref (u 3), .int (iI (((4 : Nat) : Int))), .ref (u 4), .int (iI ln), .int (iI th), .int (iI ap), .int (iI rm), .ref (u 5), .int (iI rd), .int (iI nw), .ref (u 6), .long (lI hh)])), (u 1, aL g 75 v), (u 2, aL g 300 (cpB 75 225 v (shf 225 pa)))]) := by
  refine CT.intro (L0 := [(0, .ref (u 0))]) (own := RX5) (by decide) rfl (Nat.le_of_ble_eq_true rfl) rfl ?_
  intro pX eX sX mX argsX belowX methX cX A C hr hlk
  refine j_aload_n C 0 dX5_saves_0 rfl rfl ?_
  refine j_get C ck5 0 3 (by decide) qw665 rfl rfl dX5_saves_1 ?_
  refine j_iconst C dX5_saves_4 ?_
  refine j_icmp_ne (tgt := 48) C (by omega) (by decide) dX5_saves_5 (by decide) (fun c5 => absurd c5 (by omega)) (fun c5 => ?_)
  refine j_iconst C dX5_saves_8 ?_
  refine j_istore_n (L1 := [(1, .int (iI 0)), (0, .ref (u 0))]) C dX5_saves_9 rfl (by decide) rfl ?_
  refine J.sub (L1 := [(0, .ref (u 0)), (1, .int (iI 0))]) [1, 0] rfl ?_
  refine J.world (ws1 := [(u 0, .inr (5, [.ref (u 1), .ref (u 2), .ref (u 3), .int (iI (((4 : Nat) : Int))), .ref (u 4), .int (iI ln), .int (iI th), .int (iI ap), .int (iI rm), .ref (u 5), .int (iI rd), .int (iI nw), .ref (u 6), .long (lI hh)])), (u 1, aL g 75 v), (u 2, aL g 300 (shf 0 pa))]) (by rw [shf_0]) ?_
  refine lm_saves1 C ?_ 225 0 (by omega)
  refine j_aload_n C 0 dX5_saves_38 rfl rfl ?_
  refine j_dup C dX5_saves_39 rfl ?_
  refine j_get C ck5 0 3 (by decide) qw665 rfl rfl dX5_saves_40 ?_
  refine j_iconst C dX5_saves_43 ?_
  refine j_isub C dX5_saves_44 ?_
  refine j_put (ws1 := [(u 0, .inr (5, [.ref (u 1), .ref (u 2), .ref (u 3), .int (iI ((((4 : Nat) : Int)) - 1)), .ref (u 4), .int (iI ln), .int (iI th), .int (iI ap), .int (iI rm), .ref (u 5), .int (iI rd), .int (iI nw), .ref (u 6), .long (lI hh)])), (u 1, aL g 75 v), (u 2, aL g 300 (shf 225 pa))]) C ck5 0 3 (by decide) qw665 rfl dX5_saves_45 rfl rfl rfl rfl (Nat.le_of_ble_eq_true rfl) ?_
  refine j_iconst C dX5_saves_48 ?_
  refine j_istore_n (L1 := [(1, .int (iI 0)), (0, .ref (u 0))]) C dX5_saves_49 rfl (by decide) rfl ?_
  refine J.sub (L1 := [(0, .ref (u 0)), (1, .int (iI 0))]) [1, 0] rfl ?_
  refine J.world (ws1 := [(u 0, .inr (5, [.ref (u 1), .ref (u 2), .ref (u 3), .int (iI (((3 : Nat) : Int))), .ref (u 4), .int (iI ln), .int (iI th), .int (iI ap), .int (iI rm), .ref (u 5), .int (iI rd), .int (iI nw), .ref (u 6), .long (lI hh)])), (u 1, aL g 75 v), (u 2, aL g 300 (shf 225 pa))]) rfl ?_
  refine J.world (ws1 := [(u 0, .inr (5, [.ref (u 1), .ref (u 2), .ref (u 3), .int (iI (((3 : Nat) : Int))), .ref (u 4), .int (iI ln), .int (iI th), .int (iI ap), .int (iI rm), .ref (u 5), .int (iI rd), .int (iI nw), .ref (u 6), .long (lI hh)])), (u 1, aL g 75 v), (u 2, aL g 300 (cpB 0 (75 * 3) v (shf 225 pa)))]) (by rw [cpB_0]) ?_
  refine lm_saves2 (sv := 3) C (by omega) ?_ 75 0 (by omega)
  refine j_aload_n C 0 dX5_saves_82 rfl rfl ?_
  refine j_dup C dX5_saves_83 rfl ?_
  refine j_get C ck5 0 3 (by decide) qw665 rfl rfl dX5_saves_84 ?_
  refine j_iconst C dX5_saves_87 ?_
  refine j_iadd C dX5_saves_88 ?_
  refine j_put (ws1 := [(u 0, .inr (5, [.ref (u 1), .ref (u 2), .ref (u 3), .int (iI ((((3 : Nat) : Int)) + 1)), .ref (u 4), .int (iI ln), .int (iI th), .int (iI ap), .int (iI rm), .ref (u 5), .int (iI rd), .int (iI nw), .ref (u 6), .long (lI hh)])), (u 1, aL g 75 v), (u 2, aL g 300 (cpB 75 (75 * 3) v (shf 225 pa)))]) C ck5 0 3 (by decide) qw665 rfl dX5_saves_89 rfl rfl rfl rfl (Nat.le_of_ble_eq_true rfl) ?_
  exact j_vret C hr hlk dX5_saves_92 ⟨rfl, rfl⟩ (by decide) (by decide)

theorem c_X5_saves (l : Launch) (g : Gh) (u : Nat → Nat) (v pa sd tx rr rq : Nat → Int) (sv : Nat) (ln th ap rm rd nw hh : Int) (hsv : sv ≤ 4) : CT l g yX5_saves cX5_saves 2 none ({ frames := 0, cells := 0, slots := 0, locals := 0 }) [.ref (u 0)] [(u 0, .inr (5, [.ref (u 1), .ref (u 2), .ref (u 3), .int (iI ((sv : Int))), .ref (u 4), .int (iI ln), .int (iI th), .int (iI ap), .int (iI rm), .ref (u 5), .int (iI rd), .int (iI nw), .ref (u 6), .long (lI hh)])), (u 1, aL g 75 v), (u 2, aL g 300 pa)] (PE none [(u 0, .inr (5, [.ref (u 1), .ref (u 2), .ref (u 3), .int (iI (((svN sv : Nat) : Int))), .ref (u 4), .int (iI ln), .int (iI th), .int (iI ap), .int (iI rm), .ref (u 5), .int (iI rd), .int (iI nw), .ref (u 6), .long (lI hh)])), (u 1, aL g 75 v), (u 2, aL g 300 (svP v pa sv))]) := by
  by_cases h4 : sv = 4
  · subst h4
    exact c_X5_saves_4 l g u v pa sd tx rr rq ln th ap rm rd nw hh
  · rw [show svN sv = sv + 1 from if_neg h4, show svP v pa sv = cpB 75 (75 * sv) v pa from if_neg h4]
    exact c_X5_saves_f l g u v pa sd tx rr rq sv ln th ap rm rd nw hh (by omega)
theorem lm_laysAside {p : Program} {l : Launch} {e : Env} {s : State} {m : MethodId} {args : Array Value} {below : List Frame} {meth : Method} {c : Code} {g : Gh} {A : Nat → Prop} {Q : State → Prop} (C : Cx p g s m args c cX5_laysAside 2 RX5 A) {u : Nat → Nat} {v pa sd : Nat → Int} {sv ln th ap rm rd nw hh : Int}  (kk : J p l e ({ frames := 0, cells := 0, slots := 0, locals := 0 } : Room) s m args below meth c g A 2 26 [] [] [(u 0, .inr (5, [.ref (u 1), .ref (u 2), .ref (u 3), .int (iI sv), .ref (u 4), .int (iI ln), .int (iI th), .int (iI ap), .int (iI rm), .ref (u 5), .int (iI rd), .int (iI nw), .ref (u 6), .long (lI hh)])), (u 1, aL g 75 v), (u 2, aL g 300 pa), (u 3, aL g 75 (cpy 75 v sd))] 0 0 Q) : ∀ (n i : Nat), i + n = 75 → J p l e ({ frames := 0, cells := 0, slots := 0, locals := 0 } : Room) s m args below meth c g A 2 2 [(0, .ref (u 0)), (1, .int (iI ((i : Int))))] [] [(u 0, .inr (5, [.ref (u 1), .ref (u 2), .ref (u 3), .int (iI sv), .ref (u 4), .int (iI ln), .int (iI th), .int (iI ap), .int (iI rm), .ref (u 5), .int (iI rd), .int (iI nw), .ref (u 6), .long (lI hh)])), (u 1, aL g 75 v), (u 2, aL g 300 pa), (u 3, aL g 75 (cpy i v sd))] 0 0 Q := by
  intro n
  induction n with
  | zero =>
    intro i hi
    refine j_iload_n C 1 dX5_laysAside_2 rfl rfl ?_
    refine j_bipush C dX5_laysAside_3 (by decide) ?_
    refine j_icmp_ge (tgt := 26) C (by omega) (by decide) dX5_laysAside_5 (by decide) (fun c5 => ?_) (fun c5 => absurd c5 (by omega))
    refine J.sub (L1 := []) [] rfl ?_
    rw [show i = 75 by omega]
    exact kk
  | succ n ih =>
    intro i hi
    refine j_iload_n C 1 dX5_laysAside_2 rfl rfl ?_
    refine j_bipush C dX5_laysAside_3 (by decide) ?_
    refine j_icmp_ge (tgt := 26) C (by omega) (by decide) dX5_laysAside_5 (by decide) (fun c5 => absurd c5 (by omega)) (fun c5 => ?_)
    refine j_aload_n C 0 dX5_laysAside_8 rfl rfl ?_
    refine j_get C ck5 0 2 (by decide) qw664 rfl rfl dX5_laysAside_9 ?_
    refine j_iload_n C 1 dX5_laysAside_12 rfl rfl ?_
    refine j_aload_n C 0 dX5_laysAside_13 rfl rfl ?_
    refine j_get C ck5 0 0 (by decide) qw662 rfl rfl dX5_laysAside_14 ?_
    refine j_iload_n C 1 dX5_laysAside_17 rfl rfl ?_
    refine j_lald (n := 75) (f := v) C 1 i rfl rfl (by omega) (by decide) dX5_laysAside_18 ?_
    refine j_last (n := 75) (f := cpy i v sd) (ws1 := [(u 0, .inr (5, [.ref (u 1), .ref (u 2), .ref (u 3), .int (iI sv), .ref (u 4), .int (iI ln), .int (iI th), .int (iI ap), .int (iI rm), .ref (u 5), .int (iI rd), .int (iI nw), .ref (u 6), .long (lI hh)])), (u 1, aL g 75 v), (u 2, aL g 300 pa), (u 3, aL g 75 (va_up (cpy i v sd) i (v i)))]) C 3 i rfl rfl (by omega) (by decide) dX5_laysAside_19 rfl ?_
    refine j_iinc (L1 := [(1, .int (iI (((i : Int)) + 1))), (0, .ref (u 0))]) C 1 dX5_laysAside_20 rfl (by decide) rfl ?_
    refine j_goto (tgt := 2) C dX5_laysAside_23 (by decide) ?_
    refine J.sub (L1 := [(0, .ref (u 0)), (1, .int (iI (((i : Int)) + 1)))]) [1, 0] rfl ?_
    rw [cpy_succ]
    exact ih (i + 1) (by omega)

theorem c_X5_laysAside (l : Launch) (g : Gh) (u : Nat → Nat) (v pa sd tx rr rq : Nat → Int) (sv ln th ap rm rd nw hh : Int)  : CT l g yX5_laysAside cX5_laysAside 2 none ({ frames := 0, cells := 0, slots := 0, locals := 0 }) [.ref (u 0)] [(u 0, .inr (5, [.ref (u 1), .ref (u 2), .ref (u 3), .int (iI sv), .ref (u 4), .int (iI ln), .int (iI th), .int (iI ap), .int (iI rm), .ref (u 5), .int (iI rd), .int (iI nw), .ref (u 6), .long (lI hh)])), (u 1, aL g 75 v), (u 2, aL g 300 pa), (u 3, aL g 75 sd)] (PE none [(u 0, .inr (5, [.ref (u 1), .ref (u 2), .ref (u 3), .int (iI sv), .ref (u 4), .int (iI ln), .int (iI th), .int (iI ap), .int (iI rm), .ref (u 5), .int (iI rd), .int (iI nw), .ref (u 6), .long (lI hh)])), (u 1, aL g 75 v), (u 2, aL g 300 pa), (u 3, aL g 75 (cpy 75 v sd))]) := by
  refine CT.intro (L0 := [(0, .ref (u 0))]) (own := RX5) (by decide) rfl (Nat.le_of_ble_eq_true rfl) rfl ?_
  intro pX eX sX mX argsX belowX methX cX A C hr hlk
  refine j_iconst C dX5_laysAside_0 ?_
  refine j_istore_n (L1 := [(1, .int (iI 0)), (0, .ref (u 0))]) C dX5_laysAside_1 rfl (by decide) rfl ?_
  refine J.sub (L1 := [(0, .ref (u 0)), (1, .int (iI 0))]) [1, 0] rfl ?_
  refine J.world (ws1 := [(u 0, .inr (5, [.ref (u 1), .ref (u 2), .ref (u 3), .int (iI sv), .ref (u 4), .int (iI ln), .int (iI th), .int (iI ap), .int (iI rm), .ref (u 5), .int (iI rd), .int (iI nw), .ref (u 6), .long (lI hh)])), (u 1, aL g 75 v), (u 2, aL g 300 pa), (u 3, aL g 75 (cpy 0 v sd))]) (by rw [cpy_0]) ?_
  refine lm_laysAside C ?_ 75 0 (by omega)
  exact j_vret C hr hlk dX5_laysAside_26 ⟨rfl, rfl⟩ (by decide) (by decide)

theorem lm_bringsBack {p : Program} {l : Launch} {e : Env} {s : State} {m : MethodId} {args : Array Value} {below : List Frame} {meth : Method} {c : Code} {g : Gh} {A : Nat → Prop} {Q : State → Prop} (C : Cx p g s m args c cX5_bringsBack 2 RX5 A) {u : Nat → Nat} {v pa sd : Nat → Int} {sv ln th ap rm rd nw hh : Int}  (kk : J p l e ({ frames := 0, cells := 0, slots := 0, locals := 0 } : Room) s m args below meth c g A 2 26 [] [] [(u 0, .inr (5, [.ref (u 1), .ref (u 2), .ref (u 3), .int (iI sv), .ref (u 4), .int (iI ln), .int (iI th), .int (iI ap), .int (iI rm), .ref (u 5), .int (iI rd), .int (iI nw), .ref (u 6), .long (lI hh)])), (u 1, aL g 75 (cpy 75 sd v)), (u 2, aL g 300 pa), (u 3, aL g 75 sd)] 0 0 Q) : ∀ (n i : Nat), i + n = 75 → J p l e ({ frames := 0, cells := 0, slots := 0, locals := 0 } : Room) s m args below meth c g A 2 2 [(0, .ref (u 0)), (1, .int (iI ((i : Int))))] [] [(u 0, .inr (5, [.ref (u 1), .ref (u 2), .ref (u 3), .int (iI sv), .ref (u 4), .int (iI ln), .int (iI th), .int (iI ap), .int (iI rm), .ref (u 5), .int (iI rd), .int (iI nw), .ref (u 6), .long (lI hh)])), (u 1, aL g 75 (cpy i sd v)), (u 2, aL g 300 pa), (u 3, aL g 75 sd)] 0 0 Q := by
  intro n
  induction n with
  | zero =>
    intro i hi
    refine j_iload_n C 1 dX5_bringsBack_2 rfl rfl ?_
    refine j_bipush C dX5_bringsBack_3 (by decide) ?_
    refine j_icmp_ge (tgt := 26) C (by omega) (by decide) dX5_bringsBack_5 (by decide) (fun c5 => ?_) (fun c5 => absurd c5 (by omega))
    refine J.sub (L1 := []) [] rfl ?_
    rw [show i = 75 by omega]
    exact kk
  | succ n ih =>
    intro i hi
    refine j_iload_n C 1 dX5_bringsBack_2 rfl rfl ?_
    refine j_bipush C dX5_bringsBack_3 (by decide) ?_
    refine j_icmp_ge (tgt := 26) C (by omega) (by decide) dX5_bringsBack_5 (by decide) (fun c5 => absurd c5 (by omega)) (fun c5 => ?_)
    refine j_aload_n C 0 dX5_bringsBack_8 rfl rfl ?_
    refine j_get C ck5 0 0 (by decide) qw662 rfl rfl dX5_bringsBack_9 ?_
    refine j_iload_n C 1 dX5_bringsBack_12 rfl rfl ?_
    refine j_aload_n C 0 dX5_bringsBack_13 rfl rfl ?_
    refine j_get C ck5 0 2 (by decide) qw664 rfl rfl dX5_bringsBack_14 ?_
    refine j_iload_n C 1 dX5_bringsBack_17 rfl rfl ?_
    refine j_lald (n := 75) (f := sd) C 3 i rfl rfl (by omega) (by decide) dX5_bringsBack_18 ?_
    refine j_last (n := 75) (f := cpy i sd v) (ws1 := [(u 0, .inr (5, [.ref (u 1), .ref (u 2), .ref (u 3), .int (iI sv), .ref (u 4), .int (iI ln), .int (iI th), .int (iI ap), .int (iI rm), .ref (u 5), .int (iI rd), .int (iI nw), .ref (u 6), .long (lI hh)])), (u 1, aL g 75 (va_up (cpy i sd v) i (sd i))), (u 2, aL g 300 pa), (u 3, aL g 75 sd)]) C 1 i rfl rfl (by omega) (by decide) dX5_bringsBack_19 rfl ?_
    refine j_iinc (L1 := [(1, .int (iI (((i : Int)) + 1))), (0, .ref (u 0))]) C 1 dX5_bringsBack_20 rfl (by decide) rfl ?_
    refine j_goto (tgt := 2) C dX5_bringsBack_23 (by decide) ?_
    refine J.sub (L1 := [(0, .ref (u 0)), (1, .int (iI (((i : Int)) + 1)))]) [1, 0] rfl ?_
    rw [cpy_succ]
    exact ih (i + 1) (by omega)

theorem c_X5_bringsBack (l : Launch) (g : Gh) (u : Nat → Nat) (v pa sd tx rr rq : Nat → Int) (sv ln th ap rm rd nw hh : Int)  : CT l g yX5_bringsBack cX5_bringsBack 2 none ({ frames := 0, cells := 0, slots := 0, locals := 0 }) [.ref (u 0)] [(u 0, .inr (5, [.ref (u 1), .ref (u 2), .ref (u 3), .int (iI sv), .ref (u 4), .int (iI ln), .int (iI th), .int (iI ap), .int (iI rm), .ref (u 5), .int (iI rd), .int (iI nw), .ref (u 6), .long (lI hh)])), (u 1, aL g 75 v), (u 2, aL g 300 pa), (u 3, aL g 75 sd)] (PE none [(u 0, .inr (5, [.ref (u 1), .ref (u 2), .ref (u 3), .int (iI sv), .ref (u 4), .int (iI ln), .int (iI th), .int (iI ap), .int (iI rm), .ref (u 5), .int (iI rd), .int (iI nw), .ref (u 6), .long (lI hh)])), (u 1, aL g 75 (cpy 75 sd v)), (u 2, aL g 300 pa), (u 3, aL g 75 sd)]) := by
  refine CT.intro (L0 := [(0, .ref (u 0))]) (own := RX5) (by decide) rfl (Nat.le_of_ble_eq_true rfl) rfl ?_
  intro pX eX sX mX argsX belowX methX cX A C hr hlk
  refine j_iconst C dX5_bringsBack_0 ?_
  refine j_istore_n (L1 := [(1, .int (iI 0)), (0, .ref (u 0))]) C dX5_bringsBack_1 rfl (by decide) rfl ?_
  refine J.sub (L1 := [(0, .ref (u 0)), (1, .int (iI 0))]) [1, 0] rfl ?_
  refine J.world (ws1 := [(u 0, .inr (5, [.ref (u 1), .ref (u 2), .ref (u 3), .int (iI sv), .ref (u 4), .int (iI ln), .int (iI th), .int (iI ap), .int (iI rm), .ref (u 5), .int (iI rd), .int (iI nw), .ref (u 6), .long (lI hh)])), (u 1, aL g 75 (cpy 0 sd v)), (u 2, aL g 300 pa), (u 3, aL g 75 sd)]) (by rw [cpy_0]) ?_
  refine lm_bringsBack C ?_ 75 0 (by omega)
  exact j_vret C hr hlk dX5_bringsBack_26 ⟨rfl, rfl⟩ (by decide) (by decide)

theorem c_X5_puts (l : Launch) (g : Gh) (u : Nat → Nat) (v pa sd tx rr rq : Nat → Int) (sv : Nat) (ln th ap rm rd nw hh : Int) (a9 x : Int) (ka : Nat) (hsv : sv ≤ 4) (ha : a9 = ka) (hka : ka < 75) (hxr : -2147483648 ≤ x ∧ x < 2147483648) : CT l g yX5_puts cX5_puts 4 (some FieldType.int) ({ frames := 1, cells := 0, slots := 0, locals := 21 }) [.ref (u 0), .int (iI a9), .int (iI x)] [(u 0, .inr (5, [.ref (u 1), .ref (u 2), .ref (u 3), .int (iI ((sv : Int))), .ref (u 4), .int (iI ln), .int (iI th), .int (iI ap), .int (iI rm), .ref (u 5), .int (iI rd), .int (iI nw), .ref (u 6), .long (lI hh)])), (u 1, aL g 75 v), (u 2, aL g 300 pa)] (PE (some (.int (iI (v ka)))) [(u 0, .inr (5, [.ref (u 1), .ref (u 2), .ref (u 3), .int (iI (((svN sv : Nat) : Int))), .ref (u 4), .int (iI ln), .int (iI 0), .int (iI ap), .int (iI rm), .ref (u 5), .int (iI rd), .int (iI nw), .ref (u 6), .long (lI hh)])), (u 1, aL g 75 (va_up v ka x)), (u 2, aL g 300 (svP v pa sv))]) := by
  refine CT.intro (L0 := [(0, .ref (u 0)), (1, .int (iI a9)), (2, .int (iI x))]) (own := RX5) (by decide) rfl (Nat.le_of_ble_eq_true rfl) rfl ?_
  intro pX eX sX mX argsX belowX methX cX A C hr hlk
  refine j_aload_n C 0 dX5_puts_0 rfl rfl ?_
  refine j_callV (As := []) (rest := []) C yv_X5_saves qw730 (c_X5_saves l g u v pa sd tx rr rq sv ln th ap rm rd nw hh hsv) (by decide) 0 rfl rfl rfl dX5_puts_1 rfl (Nat.le_of_ble_eq_true rfl) (by decide) pf0 rfl (fun r9 w9 hq9 => ?_)
  obtain ⟨rfl, rfl⟩ := hq9
  refine J.to (L1 := [(0, .ref (u 0)), (1, .int (iI a9)), (2, .int (iI x))]) (S1 := []) (ws1 := [(u 0, .inr (5, [.ref (u 1), .ref (u 2), .ref (u 3), .int (iI (((svN sv : Nat) : Int))), .ref (u 4), .int (iI ln), .int (iI th), .int (iI ap), .int (iI rm), .ref (u 5), .int (iI rd), .int (iI nw), .ref (u 6), .long (lI hh)])), (u 1, aL g 75 v), (u 2, aL g 300 (svP v pa sv))]) rfl rfl rfl ?_
  refine j_aload_n C 0 dX5_puts_4 rfl rfl ?_
  refine j_get C ck5 0 0 (by decide) qw662 rfl rfl dX5_puts_5 ?_
  refine j_iload_n C 1 dX5_puts_8 rfl rfl ?_
  refine j_lald (n := 75) (f := v) C 1 ka rfl (by omega) (by omega) (by decide) dX5_puts_9 ?_
  refine j_l2i C dX5_puts_10 ?_
  refine j_istore_n (L1 := [(3, .int (iI (v ka))), (0, .ref (u 0)), (1, .int (iI a9)), (2, .int (iI x))]) C dX5_puts_11 rfl (by decide) rfl ?_
  refine j_aload_n C 1 dX5_puts_12 rfl rfl ?_
  refine j_get C ck5 0 0 (by decide) qw662 rfl rfl dX5_puts_13 ?_
  refine j_iload_n C 2 dX5_puts_16 rfl rfl ?_
  refine j_iload_n C 3 dX5_puts_17 rfl rfl ?_
  refine j_i2l C (by omega) dX5_puts_18 ?_
  refine j_last (n := 75) (f := v) (ws1 := [(u 0, .inr (5, [.ref (u 1), .ref (u 2), .ref (u 3), .int (iI (((svN sv : Nat) : Int))), .ref (u 4), .int (iI ln), .int (iI th), .int (iI ap), .int (iI rm), .ref (u 5), .int (iI rd), .int (iI nw), .ref (u 6), .long (lI hh)])), (u 1, aL g 75 (va_up v ka x)), (u 2, aL g 300 (svP v pa sv))]) C 1 ka rfl (by omega) (by omega) (by decide) dX5_puts_19 rfl ?_
  refine j_aload_n C 1 dX5_puts_20 rfl rfl ?_
  refine j_iload_n C 0 dX5_puts_21 rfl rfl ?_
  refine j_callV (As := [.int (iI (v ka))]) (rest := []) C yv_X5_tells qw734 (c_X5_tells l g u (va_up v ka x) (((svN sv : Nat) : Int)) ln th ap rm rd nw hh (v ka)) (by decide) 0 rfl rfl rfl dX5_puts_22 rfl (Nat.le_of_ble_eq_true rfl) (by decide) (pf1 [] [(u 1, aL g 75 (va_up v ka x)), (u 2, aL g 300 (svP v pa sv))]) rfl (fun r9 w9 hq9 => ?_)
  obtain ⟨rfl, rfl⟩ := hq9
  refine J.to (L1 := [(3, .int (iI (v ka))), (0, .ref (u 0)), (1, .int (iI a9)), (2, .int (iI x))]) (S1 := [.int (iI (v ka))]) (ws1 := [(u 0, .inr (5, [.ref (u 1), .ref (u 2), .ref (u 3), .int (iI (((svN sv : Nat) : Int))), .ref (u 4), .int (iI ln), .int (iI 0), .int (iI ap), .int (iI rm), .ref (u 5), .int (iI rd), .int (iI nw), .ref (u 6), .long (lI hh)])), (u 1, aL g 75 (va_up v ka x)), (u 2, aL g 300 (svP v pa sv))]) rfl rfl rfl ?_
  exact j_iret C hr hlk dX5_puts_25 ⟨rfl, rfl⟩ (by decide) (by decide)

def esV (v : Nat → Int) (e : Int) : Int := if e = 4 then 0 else 10000 - vH v e.toNat
theorem c_X5_endStrand (l : Launch) (g : Gh) (u : Nat → Nat) (v : Nat → Int) (sv ln th ap rm rd nw hh : Int) (b : Int) (hm : MOK v) (hb4 : 0 ≤ b ∧ b ≤ 4) : CT l g yX5_endStrand cX5_endStrand 2 (some FieldType.int) ({ frames := 0, cells := 0, slots := 0, locals := 0 }) [.ref (u 0), .int (iI b)] [(u 0, .inr (5, [.ref (u 1), .ref (u 2), .ref (u 3), .int (iI sv), .ref (u 4), .int (iI ln), .int (iI th), .int (iI ap), .int (iI rm), .ref (u 5), .int (iI rd), .int (iI nw), .ref (u 6), .long (lI hh)])), (u 1, aL g 75 v)] (PE (some (.int (iI (esV v b)))) [(u 0, .inr (5, [.ref (u 1), .ref (u 2), .ref (u 3), .int (iI sv), .ref (u 4), .int (iI ln), .int (iI th), .int (iI ap), .int (iI rm), .ref (u 5), .int (iI rd), .int (iI nw), .ref (u 6), .long (lI hh)])), (u 1, aL g 75 v)]) := by
  refine CT.intro (L0 := [(0, .ref (u 0)), (1, .int (iI b))]) (own := RX5) (by decide) rfl (Nat.le_of_ble_eq_true rfl) rfl ?_
  intro pX eX sX mX argsX belowX methX cX A C hr hlk
  obtain ⟨hP, hE0, hF, hrow0, hwt, hht, hlen, hent⟩ := id hm
  have hE : -10 ≤ v 3 ∧ v 3 ≤ 10 := by omega
  have hrow : ∀ i : Nat, (i : Int) < v 2 → 0 ≤ vR v i ∧ vR v i ≤ 4 := fun i hi => by have := hrow0 i hi; omega
  refine j_iload_n C 1 dX5_endStrand_0 rfl rfl ?_
  refine j_iconst C dX5_endStrand_1 ?_
  refine j_icmp_ne (tgt := 9) C (by omega) (by decide) dX5_endStrand_2 (by decide) (fun c2 => ?_) (fun c2 => ?_)
  · refine j_sipush C dX5_endStrand_9 (by decide) ?_
    refine j_aload_n C 0 dX5_endStrand_12 rfl rfl ?_
    refine j_get C ck5 0 0 (by decide) qw662 rfl rfl dX5_endStrand_13 ?_
    refine j_bipush C dX5_endStrand_16 (by decide) ?_
    refine j_iload_n C 1 dX5_endStrand_18 rfl rfl ?_
    refine j_iadd C dX5_endStrand_19 ?_
    refine j_lald (n := 75) (f := v) C 1 (13 + b.toNat) rfl (by omega) (by omega) (by decide) dX5_endStrand_20 ?_
    refine j_l2i C dX5_endStrand_21 ?_
    refine j_isub C dX5_endStrand_22 ?_
    exact j_iret C hr hlk dX5_endStrand_23 ⟨by rw [esV, if_neg c2], rfl⟩ (by decide) (by decide)
  · refine j_iconst C dX5_endStrand_5 ?_
    refine j_goto (tgt := 23) C dX5_endStrand_6 (by decide) ?_
    exact j_iret C hr hlk dX5_endStrand_23 ⟨by rw [esV, if_pos c2], rfl⟩ (by decide) (by decide)

theorem c_X5_lesser (l : Launch) (g : Gh) (x y : Int) (hx9 : -9223372036854775808 ≤ x ∧ x < 9223372036854775808) (hy9 : -9223372036854775808 ≤ y ∧ y < 9223372036854775808) : CT l g yX5_lesser cX5_lesser 4 (some FieldType.int) ({ frames := 0, cells := 0, slots := 0, locals := 0 }) [.long (lI x), .long (lI y)] [] (PE (some (.int (iI (if x < y then x else y)))) []) := by
  refine CT.intro (L0 := [(0, .long (lI x)), (2, .long (lI y))]) (own := RX5) (by decide) rfl (Nat.le_of_ble_eq_true rfl) rfl ?_
  intro pX eX sX mX argsX belowX methX cX A C hr hlk
  refine j_lload_n C 0 dX5_lesser_0 rfl rfl ?_
  refine j_lload_n C 1 dX5_lesser_1 rfl rfl ?_
  refine j_lif_ge (tgt := 10) C (by omega) (by omega) dX5_lesser_2 dX5_lesser_3 (by decide) (fun c2 => ?_) (fun c2 => ?_)
  · refine j_lload_n C 1 dX5_lesser_10 rfl rfl ?_
    refine j_l2i C dX5_lesser_11 ?_
    exact j_iret C hr hlk dX5_lesser_12 ⟨by rw [if_neg (by omega)], rfl⟩ (by decide) (by decide)
  · refine j_lload_n C 0 dX5_lesser_6 rfl rfl ?_
    refine j_goto (tgt := 11) C dX5_lesser_7 (by decide) ?_
    refine j_l2i C dX5_lesser_11 ?_
    exact j_iret C hr hlk dX5_lesser_12 ⟨by rw [if_pos c2], rfl⟩ (by decide) (by decide)

def shE (k : Nat) (v : Nat → Int) : Nat → Int := fun j => if 27 + k < j ∧ j < 75 then v (j - 3) else v j
theorem shE_47 (v : Nat → Int) : shE 47 v = v := by
  funext j
  unfold shE
  exact if_neg (by omega)
theorem shE_s (n : Nat) (v : Nat → Int) (hn : n + 3 ≤ 47) : va_up (shE (n + 3) v) (27 + (n + 3)) (v (27 + n)) = shE (n + 2) v := by
  funext j
  simp only [va_up, shE]
  by_cases h1 : j = 27 + (n + 3)
  · subst h1
    rw [if_pos rfl, if_pos ⟨by omega, by omega⟩, show 27 + (n + 3) - 3 = 27 + n by omega]
  · rw [if_neg h1]
    by_cases h2 : 27 + (n + 3) < j ∧ j < 75
    · rw [if_pos h2, if_pos ⟨by omega, h2.2⟩]
    · rw [if_neg h2, if_neg (by omega)]
def en1 (v : Nat → Int) (b way rope : Int) : Nat → Int := va_up (va_up (va_up (shE 2 v) 27 b) 28 way) 29 rope
def entV (up : Bool) (v : Nat → Int) (b way rope : Int) : Nat → Int := va_up (va_up (en1 v b way rope) 6 (v 6 + if v 6 < 16 then 1 else 0)) (if up then 4 else 5) ((if up then v 4 else v 5) + 1)
theorem lm_enters {p : Program} {l : Launch} {e : Env} {s : State} {m : MethodId} {args : Array Value} {below : List Frame} {meth : Method} {c : Code} {g : Gh} {A : Nat → Prop} {Q : State → Prop} (C : Cx p g s m args c cX5_enters 5 RX5 A) {u : Nat → Nat} {v : Nat → Int} {sv ln th ap rm rd nw hh : Int} {b way rope : Int} (kk : J p l e ({ frames := 0, cells := 0, slots := 0, locals := 0 } : Room) s m args below meth c g A 5 38 [(0, .ref (u 0)), (1, .int (iI b)), (2, .int (iI way)), (3, .int (iI rope))] [] [(u 0, .inr (5, [.ref (u 1), .ref (u 2), .ref (u 3), .int (iI sv), .ref (u 4), .int (iI ln), .int (iI th), .int (iI ap), .int (iI rm), .ref (u 5), .int (iI rd), .int (iI nw), .ref (u 6), .long (lI hh)])), (u 1, aL g 75 (shE 2 v))] 0 0 Q) : ∀ (n : Nat), n ≤ 45 → J p l e ({ frames := 0, cells := 0, slots := 0, locals := 0 } : Room) s m args below meth c g A 5 4 [(0, .ref (u 0)), (1, .int (iI b)), (2, .int (iI way)), (3, .int (iI rope)), (4, .int (iI (((n + 2 : Nat) : Int))))] [] [(u 0, .inr (5, [.ref (u 1), .ref (u 2), .ref (u 3), .int (iI sv), .ref (u 4), .int (iI ln), .int (iI th), .int (iI ap), .int (iI rm), .ref (u 5), .int (iI rd), .int (iI nw), .ref (u 6), .long (lI hh)])), (u 1, aL g 75 (shE (n + 2) v))] 0 0 Q := by
  intro n
  induction n with
  | zero =>
    intro hi
    refine j_iload C 4 dX5_enters_4 rfl ?_
    refine j_iconst C dX5_enters_6 ?_
    refine j_icmp_le (tgt := 38) C (by omega) (by decide) dX5_enters_7 (by decide) (fun c7 => ?_) (fun c7 => absurd c7 (by omega))
    refine J.sub (L1 := [(0, .ref (u 0)), (1, .int (iI b)), (2, .int (iI way)), (3, .int (iI rope))]) [0, 1, 2, 3] rfl ?_
    exact kk
  | succ n ih =>
    intro hi
    refine j_iload C 4 dX5_enters_4 rfl ?_
    refine j_iconst C dX5_enters_6 ?_
    refine j_icmp_le (tgt := 38) C (by omega) (by decide) dX5_enters_7 (by decide) (fun c7 => absurd c7 (by omega)) (fun c7 => ?_)
    refine j_aload_n C 0 dX5_enters_10 rfl rfl ?_
    refine j_get C ck5 0 0 (by decide) qw662 rfl rfl dX5_enters_11 ?_
    refine j_bipush C dX5_enters_14 (by decide) ?_
    refine j_iload C 4 dX5_enters_16 rfl ?_
    refine j_iadd C dX5_enters_18 ?_
    refine j_aload_n C 0 dX5_enters_19 rfl rfl ?_
    refine j_get C ck5 0 0 (by decide) qw662 rfl rfl dX5_enters_20 ?_
    refine j_bipush C dX5_enters_23 (by decide) ?_
    refine j_iload C 4 dX5_enters_25 rfl ?_
    refine j_iadd C dX5_enters_27 ?_
    refine j_iconst C dX5_enters_28 ?_
    refine j_isub C dX5_enters_29 ?_
    refine j_lald (n := 75) (f := shE (n + 3) v) C 1 (27 + n) rfl (by omega) (by omega) (by decide) dX5_enters_30 ?_
    refine J.to (L1 := [(0, .ref (u 0)), (1, .int (iI b)), (2, .int (iI way)), (3, .int (iI rope)), (4, .int (iI (((n + 3 : Nat) : Int))))]) (S1 := [.long (lI (v (27 + n))), .int (iI (27 + (((n + 3 : Nat) : Int)))), .ref (u 1)]) (ws1 := [(u 0, .inr (5, [.ref (u 1), .ref (u 2), .ref (u 3), .int (iI sv), .ref (u 4), .int (iI ln), .int (iI th), .int (iI ap), .int (iI rm), .ref (u 5), .int (iI rd), .int (iI nw), .ref (u 6), .long (lI hh)])), (u 1, aL g 75 (shE (n + 3) v))]) rfl rfl (by rw [show (((shE (n + 3) v) (27 + n) : Int)) = v (27 + n) from (by unfold shE; exact if_neg (by omega))]) ?_
    refine j_last (n := 75) (f := shE (n + 3) v) (ws1 := [(u 0, .inr (5, [.ref (u 1), .ref (u 2), .ref (u 3), .int (iI sv), .ref (u 4), .int (iI ln), .int (iI th), .int (iI ap), .int (iI rm), .ref (u 5), .int (iI rd), .int (iI nw), .ref (u 6), .long (lI hh)])), (u 1, aL g 75 (va_up (shE (n + 3) v) (27 + (n + 3)) (v (27 + n))))]) C 1 (27 + (n + 3)) rfl (by omega) (by omega) (by decide) dX5_enters_31 rfl ?_
    refine j_iinc (L1 := [(4, .int (iI ((((n + 3 : Nat) : Int)) + (-1)))), (0, .ref (u 0)), (1, .int (iI b)), (2, .int (iI way)), (3, .int (iI rope))]) C 4 dX5_enters_32 rfl (by decide) rfl ?_
    refine j_goto (tgt := 4) C dX5_enters_35 (by decide) ?_
    refine J.sub (L1 := [(0, .ref (u 0)), (1, .int (iI b)), (2, .int (iI way)), (3, .int (iI rope)), (4, .int (iI ((((n + 3 : Nat) : Int)) + (-1))))]) [1, 2, 3, 4, 0] rfl ?_
    rw [show (((n + 3 : Nat) : Int) + (-1)) = ((n + 2 : Nat) : Int) by omega, shE_s n v (by omega)]
    exact ih (by omega)

theorem c_X5_enters_up (l : Launch) (g : Gh) (u : Nat → Nat) (v : Nat → Int) (sv ln th ap rm rd nw hh : Int) (b way rope : Int) (hm : MOK v) (hb4 : 0 ≤ b ∧ b ≤ 3) (hway : 0 < way ∧ way ≤ 9000) (hrope : -1000000 ≤ rope ∧ rope ≤ 1000000) : CT l g yX5_enters cX5_enters 5 none ({ frames := 0, cells := 0, slots := 0, locals := 0 }) [.ref (u 0), .int (iI b), .int (iI way), .int (iI rope)] [(u 0, .inr (5, [.ref (u 1), .ref (u 2), .ref (u 3), .int (iI sv), .ref (u 4), .int (iI ln), .int (iI th), .int (iI ap), .int (iI rm), .ref (u 5), .int (iI rd), .int (iI nw), .ref (u 6), .long (lI hh)])), (u 1, aL g 75 v)] (PE none [(u 0, .inr (5, [.ref (u 1), .ref (u 2), .ref (u 3), .int (iI sv), .ref (u 4), .int (iI ln), .int (iI th), .int (iI ap), .int (iI rm), .ref (u 5), .int (iI rd), .int (iI nw), .ref (u 6), .long (lI hh)])), (u 1, aL g 75 (entV true v b way rope))]) := by
  refine CT.intro (L0 := [(0, .ref (u 0)), (1, .int (iI b)), (2, .int (iI way)), (3, .int (iI rope))]) (own := RX5) (by decide) rfl (Nat.le_of_ble_eq_true rfl) rfl ?_
  intro pX eX sX mX argsX belowX methX cX A C hr hlk
  obtain ⟨hP, hE0, hF, hrow0, hwt, hht, hlen, hent⟩ := id hm
  have hE : -10 ≤ v 3 ∧ v 3 ≤ 10 := by omega
  have hrow : ∀ i : Nat, (i : Int) < v 2 → 0 ≤ vR v i ∧ vR v i ≤ 4 := fun i hi => by have := hrow0 i hi; omega
  refine j_bipush C dX5_enters_0 (by decide) ?_
  refine j_istore (L1 := [(4, .int (iI 47)), (0, .ref (u 0)), (1, .int (iI b)), (2, .int (iI way)), (3, .int (iI rope))]) C dX5_enters_2 (by decide) rfl ?_
  refine J.sub (L1 := [(0, .ref (u 0)), (1, .int (iI b)), (2, .int (iI way)), (3, .int (iI rope)), (4, .int (iI 47))]) [1, 2, 3, 4, 0] rfl ?_
  refine J.to (L1 := [(0, .ref (u 0)), (1, .int (iI b)), (2, .int (iI way)), (3, .int (iI rope)), (4, .int (iI (((47 : Nat) : Int))))]) (S1 := []) (ws1 := [(u 0, .inr (5, [.ref (u 1), .ref (u 2), .ref (u 3), .int (iI sv), .ref (u 4), .int (iI ln), .int (iI th), .int (iI ap), .int (iI rm), .ref (u 5), .int (iI rd), .int (iI nw), .ref (u 6), .long (lI hh)])), (u 1, aL g 75 (shE 47 v))]) (by rw [shE_47]) rfl rfl ?_
  refine lm_enters C ?_ 45 (by omega)
  refine j_aload_n C 0 dX5_enters_38 rfl rfl ?_
  refine j_get C ck5 0 0 (by decide) qw662 rfl rfl dX5_enters_39 ?_
  refine j_bipush C dX5_enters_42 (by decide) ?_
  refine j_iload_n C 1 dX5_enters_44 rfl rfl ?_
  refine j_i2l C (by omega) dX5_enters_45 ?_
  refine j_last (n := 75) (f := shE 2 v) (ws1 := [(u 0, .inr (5, [.ref (u 1), .ref (u 2), .ref (u 3), .int (iI sv), .ref (u 4), .int (iI ln), .int (iI th), .int (iI ap), .int (iI rm), .ref (u 5), .int (iI rd), .int (iI nw), .ref (u 6), .long (lI hh)])), (u 1, aL g 75 (va_up (shE 2 v) 27 b))]) C 1 27 rfl rfl (by decide) (by decide) dX5_enters_46 rfl ?_
  refine j_aload_n C 0 dX5_enters_47 rfl rfl ?_
  refine j_get C ck5 0 0 (by decide) qw662 rfl rfl dX5_enters_48 ?_
  refine j_bipush C dX5_enters_51 (by decide) ?_
  refine j_iload_n C 2 dX5_enters_53 rfl rfl ?_
  refine j_i2l C (by omega) dX5_enters_54 ?_
  refine j_last (n := 75) (f := va_up (shE 2 v) 27 b) (ws1 := [(u 0, .inr (5, [.ref (u 1), .ref (u 2), .ref (u 3), .int (iI sv), .ref (u 4), .int (iI ln), .int (iI th), .int (iI ap), .int (iI rm), .ref (u 5), .int (iI rd), .int (iI nw), .ref (u 6), .long (lI hh)])), (u 1, aL g 75 (va_up (va_up (shE 2 v) 27 b) 28 way))]) C 1 28 rfl rfl (by decide) (by decide) dX5_enters_55 rfl ?_
  refine j_aload_n C 0 dX5_enters_56 rfl rfl ?_
  refine j_get C ck5 0 0 (by decide) qw662 rfl rfl dX5_enters_57 ?_
  refine j_bipush C dX5_enters_60 (by decide) ?_
  refine j_iload_n C 3 dX5_enters_62 rfl rfl ?_
  refine j_i2l C (by omega) dX5_enters_63 ?_
  refine j_last (n := 75) (f := va_up (va_up (shE 2 v) 27 b) 28 way) (ws1 := [(u 0, .inr (5, [.ref (u 1), .ref (u 2), .ref (u 3), .int (iI sv), .ref (u 4), .int (iI ln), .int (iI th), .int (iI ap), .int (iI rm), .ref (u 5), .int (iI rd), .int (iI nw), .ref (u 6), .long (lI hh)])), (u 1, aL g 75 (va_up (va_up (va_up (shE 2 v) 27 b) 28 way) 29 rope))]) C 1 29 rfl rfl (by decide) (by decide) dX5_enters_64 rfl ?_
  refine J.world (ws1 := [(u 0, .inr (5, [.ref (u 1), .ref (u 2), .ref (u 3), .int (iI sv), .ref (u 4), .int (iI ln), .int (iI th), .int (iI ap), .int (iI rm), .ref (u 5), .int (iI rd), .int (iI nw), .ref (u 6), .long (lI hh)])), (u 1, aL g 75 (en1 v b way rope))]) rfl ?_
  refine j_aload_n C 0 dX5_enters_65 rfl rfl ?_
  refine j_get C ck5 0 0 (by decide) qw662 rfl rfl dX5_enters_66 ?_
  refine j_bipush C dX5_enters_69 (by decide) ?_
  refine j_dup2 C dX5_enters_71 rfl rfl ?_
  refine j_lald (n := 75) (f := en1 v b way rope) C 1 6 rfl rfl (by decide) (by decide) dX5_enters_72 ?_
  refine J.to (L1 := [(0, .ref (u 0)), (1, .int (iI b)), (2, .int (iI way)), (3, .int (iI rope))]) (S1 := [.long (lI (v 6)), .int (iI 6), .ref (u 1)]) (ws1 := [(u 0, .inr (5, [.ref (u 1), .ref (u 2), .ref (u 3), .int (iI sv), .ref (u 4), .int (iI ln), .int (iI th), .int (iI ap), .int (iI rm), .ref (u 5), .int (iI rd), .int (iI nw), .ref (u 6), .long (lI hh)])), (u 1, aL g 75 (en1 v b way rope))]) rfl rfl (by rw [show (((en1 v b way rope) 6 : Int)) = v 6 from rfl]) ?_
  refine j_aload_n C 0 dX5_enters_73 rfl rfl ?_
  refine j_get C ck5 0 0 (by decide) qw662 rfl rfl dX5_enters_74 ?_
  refine j_bipush C dX5_enters_77 (by decide) ?_
  refine j_lald (n := 75) (f := en1 v b way rope) C 1 6 rfl rfl (by decide) (by decide) dX5_enters_79 ?_
  refine J.to (L1 := [(0, .ref (u 0)), (1, .int (iI b)), (2, .int (iI way)), (3, .int (iI rope))]) (S1 := [.long (lI (v 6)), .long (lI (v 6)), .int (iI 6), .ref (u 1)]) (ws1 := [(u 0, .inr (5, [.ref (u 1), .ref (u 2), .ref (u 3), .int (iI sv), .ref (u 4), .int (iI ln), .int (iI th), .int (iI ap), .int (iI rm), .ref (u 5), .int (iI rd), .int (iI nw), .ref (u 6), .long (lI hh)])), (u 1, aL g 75 (en1 v b way rope))]) rfl rfl (by rw [show (((en1 v b way rope) 6 : Int)) = v 6 from rfl]) ?_
  refine j_ldc2 (x := 16) C qw822 (by decide) dX5_enters_80 ?_
  refine j_lif_ge (tgt := 91) C (by omega) (by decide) dX5_enters_83 dX5_enters_84 (by decide) (fun c83 => ?_) (fun c83 => ?_)
  · refine j_lconst (v := 0) C dX5_enters_91 rfl ?_
    refine J.to (L1 := [(0, .ref (u 0)), (1, .int (iI b)), (2, .int (iI way)), (3, .int (iI rope))]) (S1 := [.long (lI (if v 6 < 16 then 1 else 0)), .long (lI (v 6)), .int (iI 6), .ref (u 1)]) (ws1 := [(u 0, .inr (5, [.ref (u 1), .ref (u 2), .ref (u 3), .int (iI sv), .ref (u 4), .int (iI ln), .int (iI th), .int (iI ap), .int (iI rm), .ref (u 5), .int (iI rd), .int (iI nw), .ref (u 6), .long (lI hh)])), (u 1, aL g 75 (en1 v b way rope))]) rfl rfl (by rw [if_neg (show ¬ v 6 < 16 by omega)]) ?_
    refine j_ladd C dX5_enters_92 ?_
    refine j_last (n := 75) (f := en1 v b way rope) (ws1 := [(u 0, .inr (5, [.ref (u 1), .ref (u 2), .ref (u 3), .int (iI sv), .ref (u 4), .int (iI ln), .int (iI th), .int (iI ap), .int (iI rm), .ref (u 5), .int (iI rd), .int (iI nw), .ref (u 6), .long (lI hh)])), (u 1, aL g 75 (va_up (en1 v b way rope) 6 ((v 6) + (if v 6 < 16 then 1 else 0))))]) C 1 6 rfl rfl (by decide) (by decide) dX5_enters_93 rfl ?_
    refine j_aload_n C 0 dX5_enters_94 rfl rfl ?_
    refine j_get C ck5 0 0 (by decide) qw662 rfl rfl dX5_enters_95 ?_
    refine j_iload_n C 2 dX5_enters_98 rfl rfl ?_
    refine j_if_le (tgt := 106) C (by omega) dX5_enters_99 (by decide) (fun c99 => absurd c99 (by omega)) (fun c99 => ?_)
    refine j_iconst C dX5_enters_102 ?_
    refine j_goto (tgt := 107) C dX5_enters_103 (by decide) ?_
    refine j_dup2 C dX5_enters_107 rfl rfl ?_
    refine j_lald (n := 75) (f := va_up (en1 v b way rope) 6 ((v 6) + (if v 6 < 16 then 1 else 0))) C 1 4 rfl rfl (by decide) (by decide) dX5_enters_108 ?_
    refine J.to (L1 := [(0, .ref (u 0)), (1, .int (iI b)), (2, .int (iI way)), (3, .int (iI rope))]) (S1 := [.long (lI (v 4)), .int (iI 4), .ref (u 1)]) (ws1 := [(u 0, .inr (5, [.ref (u 1), .ref (u 2), .ref (u 3), .int (iI sv), .ref (u 4), .int (iI ln), .int (iI th), .int (iI ap), .int (iI rm), .ref (u 5), .int (iI rd), .int (iI nw), .ref (u 6), .long (lI hh)])), (u 1, aL g 75 (va_up (en1 v b way rope) 6 ((v 6) + (if v 6 < 16 then 1 else 0))))]) rfl rfl (by rw [show (((va_up (en1 v b way rope) 6 ((v 6) + (if v 6 < 16 then 1 else 0))) 4 : Int)) = v 4 from rfl]) ?_
    refine j_lconst (v := 1) C dX5_enters_109 rfl ?_
    refine j_ladd C dX5_enters_110 ?_
    refine j_last (n := 75) (f := va_up (en1 v b way rope) 6 ((v 6) + (if v 6 < 16 then 1 else 0))) (ws1 := [(u 0, .inr (5, [.ref (u 1), .ref (u 2), .ref (u 3), .int (iI sv), .ref (u 4), .int (iI ln), .int (iI th), .int (iI ap), .int (iI rm), .ref (u 5), .int (iI rd), .int (iI nw), .ref (u 6), .long (lI hh)])), (u 1, aL g 75 (va_up (va_up (en1 v b way rope) 6 ((v 6) + (if v 6 < 16 then 1 else 0))) 4 ((v 4) + 1)))]) C 1 4 rfl rfl (by decide) (by decide) dX5_enters_111 rfl ?_
    exact j_vret C hr hlk dX5_enters_112 ⟨rfl, rfl⟩ (by decide) (by decide)
  · refine j_lconst (v := 1) C dX5_enters_87 rfl ?_
    refine j_goto (tgt := 92) C dX5_enters_88 (by decide) ?_
    refine J.to (L1 := [(0, .ref (u 0)), (1, .int (iI b)), (2, .int (iI way)), (3, .int (iI rope))]) (S1 := [.long (lI (if v 6 < 16 then 1 else 0)), .long (lI (v 6)), .int (iI 6), .ref (u 1)]) (ws1 := [(u 0, .inr (5, [.ref (u 1), .ref (u 2), .ref (u 3), .int (iI sv), .ref (u 4), .int (iI ln), .int (iI th), .int (iI ap), .int (iI rm), .ref (u 5), .int (iI rd), .int (iI nw), .ref (u 6), .long (lI hh)])), (u 1, aL g 75 (en1 v b way rope))]) rfl rfl (by rw [if_pos c83]) ?_
    refine j_ladd C dX5_enters_92 ?_
    refine j_last (n := 75) (f := en1 v b way rope) (ws1 := [(u 0, .inr (5, [.ref (u 1), .ref (u 2), .ref (u 3), .int (iI sv), .ref (u 4), .int (iI ln), .int (iI th), .int (iI ap), .int (iI rm), .ref (u 5), .int (iI rd), .int (iI nw), .ref (u 6), .long (lI hh)])), (u 1, aL g 75 (va_up (en1 v b way rope) 6 ((v 6) + (if v 6 < 16 then 1 else 0))))]) C 1 6 rfl rfl (by decide) (by decide) dX5_enters_93 rfl ?_
    refine j_aload_n C 0 dX5_enters_94 rfl rfl ?_
    refine j_get C ck5 0 0 (by decide) qw662 rfl rfl dX5_enters_95 ?_
    refine j_iload_n C 2 dX5_enters_98 rfl rfl ?_
    refine j_if_le (tgt := 106) C (by omega) dX5_enters_99 (by decide) (fun c99 => absurd c99 (by omega)) (fun c99 => ?_)
    refine j_iconst C dX5_enters_102 ?_
    refine j_goto (tgt := 107) C dX5_enters_103 (by decide) ?_
    refine j_dup2 C dX5_enters_107 rfl rfl ?_
    refine j_lald (n := 75) (f := va_up (en1 v b way rope) 6 ((v 6) + (if v 6 < 16 then 1 else 0))) C 1 4 rfl rfl (by decide) (by decide) dX5_enters_108 ?_
    refine J.to (L1 := [(0, .ref (u 0)), (1, .int (iI b)), (2, .int (iI way)), (3, .int (iI rope))]) (S1 := [.long (lI (v 4)), .int (iI 4), .ref (u 1)]) (ws1 := [(u 0, .inr (5, [.ref (u 1), .ref (u 2), .ref (u 3), .int (iI sv), .ref (u 4), .int (iI ln), .int (iI th), .int (iI ap), .int (iI rm), .ref (u 5), .int (iI rd), .int (iI nw), .ref (u 6), .long (lI hh)])), (u 1, aL g 75 (va_up (en1 v b way rope) 6 ((v 6) + (if v 6 < 16 then 1 else 0))))]) rfl rfl (by rw [show (((va_up (en1 v b way rope) 6 ((v 6) + (if v 6 < 16 then 1 else 0))) 4 : Int)) = v 4 from rfl]) ?_
    refine j_lconst (v := 1) C dX5_enters_109 rfl ?_
    refine j_ladd C dX5_enters_110 ?_
    refine j_last (n := 75) (f := va_up (en1 v b way rope) 6 ((v 6) + (if v 6 < 16 then 1 else 0))) (ws1 := [(u 0, .inr (5, [.ref (u 1), .ref (u 2), .ref (u 3), .int (iI sv), .ref (u 4), .int (iI ln), .int (iI th), .int (iI ap), .int (iI rm), .ref (u 5), .int (iI rd), .int (iI nw), .ref (u 6), .long (lI hh)])), (u 1, aL g 75 (va_up (va_up (en1 v b way rope) 6 ((v 6) + (if v 6 < 16 then 1 else 0))) 4 ((v 4) + 1)))]) C 1 4 rfl rfl (by decide) (by decide) dX5_enters_111 rfl ?_
    exact j_vret C hr hlk dX5_enters_112 ⟨rfl, rfl⟩ (by decide) (by decide)

theorem c_X5_enters_dn (l : Launch) (g : Gh) (u : Nat → Nat) (v : Nat → Int) (sv ln th ap rm rd nw hh : Int) (b way rope : Int) (hm : MOK v) (hb4 : 0 ≤ b ∧ b ≤ 3) (hway : -9000 ≤ way ∧ way ≤ 0) (hrope : -1000000 ≤ rope ∧ rope ≤ 1000000) : CT l g yX5_enters cX5_enters 5 none ({ frames := 0, cells := 0, slots := 0, locals := 0 }) [.ref (u 0), .int (iI b), .int (iI way), .int (iI rope)] [(u 0, .inr (5, [.ref (u 1), .ref (u 2), .ref (u 3), .int (iI sv), .ref (u 4), .int (iI ln), .int (iI th), .int (iI ap), .int (iI rm), .ref (u 5), .int (iI rd), .int (iI nw), .ref (u 6), .long (lI hh)])), (u 1, aL g 75 v)] (PE none [(u 0, .inr (5, [.ref (u 1), .ref (u 2), .ref (u 3), .int (iI sv), .ref (u 4), .int (iI ln), .int (iI th), .int (iI ap), .int (iI rm), .ref (u 5), .int (iI rd), .int (iI nw), .ref (u 6), .long (lI hh)])), (u 1, aL g 75 (entV false v b way rope))]) := by
  refine CT.intro (L0 := [(0, .ref (u 0)), (1, .int (iI b)), (2, .int (iI way)), (3, .int (iI rope))]) (own := RX5) (by decide) rfl (Nat.le_of_ble_eq_true rfl) rfl ?_
  intro pX eX sX mX argsX belowX methX cX A C hr hlk
  obtain ⟨hP, hE0, hF, hrow0, hwt, hht, hlen, hent⟩ := id hm
  have hE : -10 ≤ v 3 ∧ v 3 ≤ 10 := by omega
  have hrow : ∀ i : Nat, (i : Int) < v 2 → 0 ≤ vR v i ∧ vR v i ≤ 4 := fun i hi => by have := hrow0 i hi; omega
  refine j_bipush C dX5_enters_0 (by decide) ?_
  refine j_istore (L1 := [(4, .int (iI 47)), (0, .ref (u 0)), (1, .int (iI b)), (2, .int (iI way)), (3, .int (iI rope))]) C dX5_enters_2 (by decide) rfl ?_
  refine J.sub (L1 := [(0, .ref (u 0)), (1, .int (iI b)), (2, .int (iI way)), (3, .int (iI rope)), (4, .int (iI 47))]) [1, 2, 3, 4, 0] rfl ?_
  refine J.to (L1 := [(0, .ref (u 0)), (1, .int (iI b)), (2, .int (iI way)), (3, .int (iI rope)), (4, .int (iI (((47 : Nat) : Int))))]) (S1 := []) (ws1 := [(u 0, .inr (5, [.ref (u 1), .ref (u 2), .ref (u 3), .int (iI sv), .ref (u 4), .int (iI ln), .int (iI th), .int (iI ap), .int (iI rm), .ref (u 5), .int (iI rd), .int (iI nw), .ref (u 6), .long (lI hh)])), (u 1, aL g 75 (shE 47 v))]) (by rw [shE_47]) rfl rfl ?_
  refine lm_enters C ?_ 45 (by omega)
  refine j_aload_n C 0 dX5_enters_38 rfl rfl ?_
  refine j_get C ck5 0 0 (by decide) qw662 rfl rfl dX5_enters_39 ?_
  refine j_bipush C dX5_enters_42 (by decide) ?_
  refine j_iload_n C 1 dX5_enters_44 rfl rfl ?_
  refine j_i2l C (by omega) dX5_enters_45 ?_
  refine j_last (n := 75) (f := shE 2 v) (ws1 := [(u 0, .inr (5, [.ref (u 1), .ref (u 2), .ref (u 3), .int (iI sv), .ref (u 4), .int (iI ln), .int (iI th), .int (iI ap), .int (iI rm), .ref (u 5), .int (iI rd), .int (iI nw), .ref (u 6), .long (lI hh)])), (u 1, aL g 75 (va_up (shE 2 v) 27 b))]) C 1 27 rfl rfl (by decide) (by decide) dX5_enters_46 rfl ?_
  refine j_aload_n C 0 dX5_enters_47 rfl rfl ?_
  refine j_get C ck5 0 0 (by decide) qw662 rfl rfl dX5_enters_48 ?_
  refine j_bipush C dX5_enters_51 (by decide) ?_
  refine j_iload_n C 2 dX5_enters_53 rfl rfl ?_
  refine j_i2l C (by omega) dX5_enters_54 ?_
  refine j_last (n := 75) (f := va_up (shE 2 v) 27 b) (ws1 := [(u 0, .inr (5, [.ref (u 1), .ref (u 2), .ref (u 3), .int (iI sv), .ref (u 4), .int (iI ln), .int (iI th), .int (iI ap), .int (iI rm), .ref (u 5), .int (iI rd), .int (iI nw), .ref (u 6), .long (lI hh)])), (u 1, aL g 75 (va_up (va_up (shE 2 v) 27 b) 28 way))]) C 1 28 rfl rfl (by decide) (by decide) dX5_enters_55 rfl ?_
  refine j_aload_n C 0 dX5_enters_56 rfl rfl ?_
  refine j_get C ck5 0 0 (by decide) qw662 rfl rfl dX5_enters_57 ?_
  refine j_bipush C dX5_enters_60 (by decide) ?_
  refine j_iload_n C 3 dX5_enters_62 rfl rfl ?_
  refine j_i2l C (by omega) dX5_enters_63 ?_
  refine j_last (n := 75) (f := va_up (va_up (shE 2 v) 27 b) 28 way) (ws1 := [(u 0, .inr (5, [.ref (u 1), .ref (u 2), .ref (u 3), .int (iI sv), .ref (u 4), .int (iI ln), .int (iI th), .int (iI ap), .int (iI rm), .ref (u 5), .int (iI rd), .int (iI nw), .ref (u 6), .long (lI hh)])), (u 1, aL g 75 (va_up (va_up (va_up (shE 2 v) 27 b) 28 way) 29 rope))]) C 1 29 rfl rfl (by decide) (by decide) dX5_enters_64 rfl ?_
  refine J.world (ws1 := [(u 0, .inr (5, [.ref (u 1), .ref (u 2), .ref (u 3), .int (iI sv), .ref (u 4), .int (iI ln), .int (iI th), .int (iI ap), .int (iI rm), .ref (u 5), .int (iI rd), .int (iI nw), .ref (u 6), .long (lI hh)])), (u 1, aL g 75 (en1 v b way rope))]) rfl ?_
  refine j_aload_n C 0 dX5_enters_65 rfl rfl ?_
  refine j_get C ck5 0 0 (by decide) qw662 rfl rfl dX5_enters_66 ?_
  refine j_bipush C dX5_enters_69 (by decide) ?_
  refine j_dup2 C dX5_enters_71 rfl rfl ?_
  refine j_lald (n := 75) (f := en1 v b way rope) C 1 6 rfl rfl (by decide) (by decide) dX5_enters_72 ?_
  refine J.to (L1 := [(0, .ref (u 0)), (1, .int (iI b)), (2, .int (iI way)), (3, .int (iI rope))]) (S1 := [.long (lI (v 6)), .int (iI 6), .ref (u 1)]) (ws1 := [(u 0, .inr (5, [.ref (u 1), .ref (u 2), .ref (u 3), .int (iI sv), .ref (u 4), .int (iI ln), .int (iI th), .int (iI ap), .int (iI rm), .ref (u 5), .int (iI rd), .int (iI nw), .ref (u 6), .long (lI hh)])), (u 1, aL g 75 (en1 v b way rope))]) rfl rfl (by rw [show (((en1 v b way rope) 6 : Int)) = v 6 from rfl]) ?_
  refine j_aload_n C 0 dX5_enters_73 rfl rfl ?_
  refine j_get C ck5 0 0 (by decide) qw662 rfl rfl dX5_enters_74 ?_
  refine j_bipush C dX5_enters_77 (by decide) ?_
  refine j_lald (n := 75) (f := en1 v b way rope) C 1 6 rfl rfl (by decide) (by decide) dX5_enters_79 ?_
  refine J.to (L1 := [(0, .ref (u 0)), (1, .int (iI b)), (2, .int (iI way)), (3, .int (iI rope))]) (S1 := [.long (lI (v 6)), .long (lI (v 6)), .int (iI 6), .ref (u 1)]) (ws1 := [(u 0, .inr (5, [.ref (u 1), .ref (u 2), .ref (u 3), .int (iI sv), .ref (u 4), .int (iI ln), .int (iI th), .int (iI ap), .int (iI rm), .ref (u 5), .int (iI rd), .int (iI nw), .ref (u 6), .long (lI hh)])), (u 1, aL g 75 (en1 v b way rope))]) rfl rfl (by rw [show (((en1 v b way rope) 6 : Int)) = v 6 from rfl]) ?_
  refine j_ldc2 (x := 16) C qw822 (by decide) dX5_enters_80 ?_
  refine j_lif_ge (tgt := 91) C (by omega) (by decide) dX5_enters_83 dX5_enters_84 (by decide) (fun c83 => ?_) (fun c83 => ?_)
  · refine j_lconst (v := 0) C dX5_enters_91 rfl ?_
    refine J.to (L1 := [(0, .ref (u 0)), (1, .int (iI b)), (2, .int (iI way)), (3, .int (iI rope))]) (S1 := [.long (lI (if v 6 < 16 then 1 else 0)), .long (lI (v 6)), .int (iI 6), .ref (u 1)]) (ws1 := [(u 0, .inr (5, [.ref (u 1), .ref (u 2), .ref (u 3), .int (iI sv), .ref (u 4), .int (iI ln), .int (iI th), .int (iI ap), .int (iI rm), .ref (u 5), .int (iI rd), .int (iI nw), .ref (u 6), .long (lI hh)])), (u 1, aL g 75 (en1 v b way rope))]) rfl rfl (by rw [if_neg (show ¬ v 6 < 16 by omega)]) ?_
    refine j_ladd C dX5_enters_92 ?_
    refine j_last (n := 75) (f := en1 v b way rope) (ws1 := [(u 0, .inr (5, [.ref (u 1), .ref (u 2), .ref (u 3), .int (iI sv), .ref (u 4), .int (iI ln), .int (iI th), .int (iI ap), .int (iI rm), .ref (u 5), .int (iI rd), .int (iI nw), .ref (u 6), .long (lI hh)])), (u 1, aL g 75 (va_up (en1 v b way rope) 6 ((v 6) + (if v 6 < 16 then 1 else 0))))]) C 1 6 rfl rfl (by decide) (by decide) dX5_enters_93 rfl ?_
    refine j_aload_n C 0 dX5_enters_94 rfl rfl ?_
    refine j_get C ck5 0 0 (by decide) qw662 rfl rfl dX5_enters_95 ?_
    refine j_iload_n C 2 dX5_enters_98 rfl rfl ?_
    refine j_if_le (tgt := 106) C (by omega) dX5_enters_99 (by decide) (fun c99 => ?_) (fun c99 => absurd c99 (by omega))
    refine j_iconst C dX5_enters_106 ?_
    refine j_dup2 C dX5_enters_107 rfl rfl ?_
    refine j_lald (n := 75) (f := va_up (en1 v b way rope) 6 ((v 6) + (if v 6 < 16 then 1 else 0))) C 1 5 rfl rfl (by decide) (by decide) dX5_enters_108 ?_
    refine J.to (L1 := [(0, .ref (u 0)), (1, .int (iI b)), (2, .int (iI way)), (3, .int (iI rope))]) (S1 := [.long (lI (v 5)), .int (iI 5), .ref (u 1)]) (ws1 := [(u 0, .inr (5, [.ref (u 1), .ref (u 2), .ref (u 3), .int (iI sv), .ref (u 4), .int (iI ln), .int (iI th), .int (iI ap), .int (iI rm), .ref (u 5), .int (iI rd), .int (iI nw), .ref (u 6), .long (lI hh)])), (u 1, aL g 75 (va_up (en1 v b way rope) 6 ((v 6) + (if v 6 < 16 then 1 else 0))))]) rfl rfl (by rw [show (((va_up (en1 v b way rope) 6 ((v 6) + (if v 6 < 16 then 1 else 0))) 5 : Int)) = v 5 from rfl]) ?_
    refine j_lconst (v := 1) C dX5_enters_109 rfl ?_
    refine j_ladd C dX5_enters_110 ?_
    refine j_last (n := 75) (f := va_up (en1 v b way rope) 6 ((v 6) + (if v 6 < 16 then 1 else 0))) (ws1 := [(u 0, .inr (5, [.ref (u 1), .ref (u 2), .ref (u 3), .int (iI sv), .ref (u 4), .int (iI ln), .int (iI th), .int (iI ap), .int (iI rm), .ref (u 5), .int (iI rd), .int (iI nw), .ref (u 6), .long (lI hh)])), (u 1, aL g 75 (va_up (va_up (en1 v b way rope) 6 ((v 6) + (if v 6 < 16 then 1 else 0))) 5 ((v 5) + 1)))]) C 1 5 rfl rfl (by decide) (by decide) dX5_enters_111 rfl ?_
    exact j_vret C hr hlk dX5_enters_112 ⟨rfl, rfl⟩ (by decide) (by decide)
  · refine j_lconst (v := 1) C dX5_enters_87 rfl ?_
    refine j_goto (tgt := 92) C dX5_enters_88 (by decide) ?_
    refine J.to (L1 := [(0, .ref (u 0)), (1, .int (iI b)), (2, .int (iI way)), (3, .int (iI rope))]) (S1 := [.long (lI (if v 6 < 16 then 1 else 0)), .long (lI (v 6)), .int (iI 6), .ref (u 1)]) (ws1 := [(u 0, .inr (5, [.ref (u 1), .ref (u 2), .ref (u 3), .int (iI sv), .ref (u 4), .int (iI ln), .int (iI th), .int (iI ap), .int (iI rm), .ref (u 5), .int (iI rd), .int (iI nw), .ref (u 6), .long (lI hh)])), (u 1, aL g 75 (en1 v b way rope))]) rfl rfl (by rw [if_pos c83]) ?_
    refine j_ladd C dX5_enters_92 ?_
    refine j_last (n := 75) (f := en1 v b way rope) (ws1 := [(u 0, .inr (5, [.ref (u 1), .ref (u 2), .ref (u 3), .int (iI sv), .ref (u 4), .int (iI ln), .int (iI th), .int (iI ap), .int (iI rm), .ref (u 5), .int (iI rd), .int (iI nw), .ref (u 6), .long (lI hh)])), (u 1, aL g 75 (va_up (en1 v b way rope) 6 ((v 6) + (if v 6 < 16 then 1 else 0))))]) C 1 6 rfl rfl (by decide) (by decide) dX5_enters_93 rfl ?_
    refine j_aload_n C 0 dX5_enters_94 rfl rfl ?_
    refine j_get C ck5 0 0 (by decide) qw662 rfl rfl dX5_enters_95 ?_
    refine j_iload_n C 2 dX5_enters_98 rfl rfl ?_
    refine j_if_le (tgt := 106) C (by omega) dX5_enters_99 (by decide) (fun c99 => ?_) (fun c99 => absurd c99 (by omega))
    refine j_iconst C dX5_enters_106 ?_
    refine j_dup2 C dX5_enters_107 rfl rfl ?_
    refine j_lald (n := 75) (f := va_up (en1 v b way rope) 6 ((v 6) + (if v 6 < 16 then 1 else 0))) C 1 5 rfl rfl (by decide) (by decide) dX5_enters_108 ?_
    refine J.to (L1 := [(0, .ref (u 0)), (1, .int (iI b)), (2, .int (iI way)), (3, .int (iI rope))]) (S1 := [.long (lI (v 5)), .int (iI 5), .ref (u 1)]) (ws1 := [(u 0, .inr (5, [.ref (u 1), .ref (u 2), .ref (u 3), .int (iI sv), .ref (u 4), .int (iI ln), .int (iI th), .int (iI ap), .int (iI rm), .ref (u 5), .int (iI rd), .int (iI nw), .ref (u 6), .long (lI hh)])), (u 1, aL g 75 (va_up (en1 v b way rope) 6 ((v 6) + (if v 6 < 16 then 1 else 0))))]) rfl rfl (by rw [show (((va_up (en1 v b way rope) 6 ((v 6) + (if v 6 < 16 then 1 else 0))) 5 : Int)) = v 5 from rfl]) ?_
    refine j_lconst (v := 1) C dX5_enters_109 rfl ?_
    refine j_ladd C dX5_enters_110 ?_
    refine j_last (n := 75) (f := va_up (en1 v b way rope) 6 ((v 6) + (if v 6 < 16 then 1 else 0))) (ws1 := [(u 0, .inr (5, [.ref (u 1), .ref (u 2), .ref (u 3), .int (iI sv), .ref (u 4), .int (iI ln), .int (iI th), .int (iI ap), .int (iI rm), .ref (u 5), .int (iI rd), .int (iI nw), .ref (u 6), .long (lI hh)])), (u 1, aL g 75 (va_up (va_up (en1 v b way rope) 6 ((v 6) + (if v 6 < 16 then 1 else 0))) 5 ((v 5) + 1)))]) C 1 5 rfl rfl (by decide) (by decide) dX5_enters_111 rfl ?_
    exact j_vret C hr hlk dX5_enters_112 ⟨rfl, rfl⟩ (by decide) (by decide)

noncomputable def frcV (v : Nat → Int) (h : Bool) : Nat → Int := fun b => leaV v h (b : Int)
theorem frcV_rng (v : Nat → Int) (h : Bool) (b : Nat) : -1 ≤ frcV v h b ∧ frcV v h b ≤ 1000000 := lea_rng ..
theorem lm_riser {p : Program} {l : Launch} {e : Env} {s : State} {m : MethodId} {args : Array Value} {below : List Frame} {meth : Method} {c : Code} {g : Gh} {A : Nat → Prop} {Q : State → Prop} (C : Cx p g s m args c cX5_riser 7 RX5 A) {u : Nat → Nat} {v : Nat → Int} {sv ln th ap rm rd nw hh : Int} {hand : Int} (hm : MOK v) (hhand : 0 ≤ hand ∧ hand ≤ 1000000) (kk : J p l e ({ frames := 3, cells := 0, slots := 0, locals := 80 } : Room) s m args below meth c g A 7 103 [(2, .int (iI (nxr (frcV v true) (vH v) hand 4)))] [] [(u 0, .inr (5, [.ref (u 1), .ref (u 2), .ref (u 3), .int (iI sv), .ref (u 4), .int (iI ln), .int (iI th), .int (iI ap), .int (iI rm), .ref (u 5), .int (iI rd), .int (iI nw), .ref (u 6), .long (lI hh)])), (u 1, aL g 75 v)] 0 0 Q) : ∀ (n i : Nat) (le : Int), i + n = 4 → (-1 ≤ le ∧ le ≤ 1000000) → (nxr (frcV v true) (vH v) hand i ≠ -1 → le = frcV v true (nxr (frcV v true) (vH v) hand i).toNat) → J p l e ({ frames := 3, cells := 0, slots := 0, locals := 80 } : Room) s m args below meth c g A 7 7 [(0, .ref (u 0)), (1, .int (iI hand)), (2, .int (iI (nxr (frcV v true) (vH v) hand i))), (3, .int (iI le)), (4, .int (iI ((i : Int))))] [] [(u 0, .inr (5, [.ref (u 1), .ref (u 2), .ref (u 3), .int (iI sv), .ref (u 4), .int (iI ln), .int (iI th), .int (iI ap), .int (iI rm), .ref (u 5), .int (iI rd), .int (iI nw), .ref (u 6), .long (lI hh)])), (u 1, aL g 75 v)] 0 0 Q := by
  intro n
  induction n with
  | zero =>
    intro i le hi hle0 hle
    have hi9 : i = 4 := by omega
    refine j_iload C 4 dX5_riser_7 rfl ?_
    refine j_iconst C dX5_riser_9 ?_
    refine j_icmp_ge (tgt := 103) C (by omega) (by decide) dX5_riser_10 (by decide) (fun c10 => ?_) (fun c10 => absurd c10 (by omega))
    refine J.sub (L1 := [(2, .int (iI (nxr (frcV v true) (vH v) hand i)))]) [2] rfl ?_
    rw [hi9]
    exact kk
  | succ n ih =>
    intro i le hi hle0 hle
    obtain ⟨hP, hE0, hF, hrow0, hwt, hht, hlen, hent⟩ := id hm
    have hE : -10 ≤ v 3 ∧ v 3 ≤ 10 := by omega
    have hrow : ∀ i : Nat, (i : Int) < v 2 → 0 ≤ vR v i ∧ vR v i ≤ 4 := fun i hi => by have := hrow0 i hi; omega
    have hf9 := frcV_rng v true i
    have hh9 := hht i (by omega)
    have hh8 : v (13 + i) = vH v i := rfl
    have hn9 := nxr_rng (frcV v true) (vH v) hand i
    refine j_iload C 4 dX5_riser_7 rfl ?_
    refine j_iconst C dX5_riser_9 ?_
    refine j_icmp_ge (tgt := 103) C (by omega) (by decide) dX5_riser_10 (by decide) (fun c10 => absurd c10 (by omega)) (fun c10 => ?_)
    refine j_aload_n C 0 dX5_riser_13 rfl rfl ?_
    refine j_get C ck5 0 0 (by decide) qw662 rfl rfl dX5_riser_14 ?_
    refine j_bipush C dX5_riser_17 (by decide) ?_
    refine j_iload C 4 dX5_riser_19 rfl ?_
    refine j_iadd C dX5_riser_21 ?_
    refine j_lald (n := 75) (f := v) C 1 (13 + i) rfl (by omega) (by omega) (by decide) dX5_riser_22 ?_
    refine j_ldc2 (x := 9000) C qw799 (by decide) dX5_riser_23 ?_
    refine j_lif_ge (tgt := 40) C (by omega) (by decide) dX5_riser_26 dX5_riser_27 (by decide) (fun c26 => ?_) (fun c26 => ?_)
    · refine j_iconst C dX5_riser_40 ?_
      refine j_istore (L1 := [(5, .int (iI (-1))), (0, .ref (u 0)), (1, .int (iI hand)), (2, .int (iI (nxr (frcV v true) (vH v) hand i))), (3, .int (iI le)), (4, .int (iI ((i : Int))))]) C dX5_riser_41 (by decide) rfl ?_
      refine j_iload C 0 dX5_riser_43 rfl ?_
      refine j_iconst C dX5_riser_45 ?_
      refine j_icmp_eq (tgt := 70) C (by decide) (by decide) dX5_riser_46 (by decide) (fun c46 => ?_) (fun c46 => absurd c46 (by decide))
      refine j_iconst C dX5_riser_70 ?_
      refine j_istore (L1 := [(6, .int (iI 0)), (5, .int (iI (-1))), (0, .ref (u 0)), (1, .int (iI hand)), (2, .int (iI (nxr (frcV v true) (vH v) hand i))), (3, .int (iI le)), (4, .int (iI ((i : Int))))]) C dX5_riser_71 (by decide) rfl ?_
      refine j_iload C 0 dX5_riser_73 rfl ?_
      refine j_if_eq (tgt := 83) C (by decide) dX5_riser_75 (by decide) (fun c75 => ?_) (fun c75 => absurd c75 (by decide))
      refine j_iload_n C 5 dX5_riser_83 rfl rfl ?_
      refine j_istore_n (L1 := [(3, .int (iI le)), (6, .int (iI 0)), (5, .int (iI (-1))), (0, .ref (u 0)), (1, .int (iI hand)), (2, .int (iI (nxr (frcV v true) (vH v) hand i))), (4, .int (iI ((i : Int))))]) C dX5_riser_84 rfl (by decide) rfl ?_
      refine j_iload C 1 dX5_riser_85 rfl ?_
      refine j_if_eq (tgt := 95) C (by decide) dX5_riser_87 (by decide) (fun c87 => ?_) (fun c87 => absurd c87 (by decide))
      refine j_iload_n C 5 dX5_riser_95 rfl rfl ?_
      refine j_istore_n (L1 := [(2, .int (iI (nxr (frcV v true) (vH v) hand i))), (3, .int (iI le)), (6, .int (iI 0)), (5, .int (iI (-1))), (0, .ref (u 0)), (1, .int (iI hand)), (4, .int (iI ((i : Int))))]) C dX5_riser_96 rfl (by decide) rfl ?_
      refine j_iinc (L1 := [(4, .int (iI (((i : Int)) + 1))), (2, .int (iI (nxr (frcV v true) (vH v) hand i))), (3, .int (iI le)), (6, .int (iI 0)), (5, .int (iI (-1))), (0, .ref (u 0)), (1, .int (iI hand))]) C 6 dX5_riser_97 rfl (by decide) rfl ?_
      refine j_goto (tgt := 7) C dX5_riser_100 (by decide) ?_
      refine J.sub (L1 := [(0, .ref (u 0)), (1, .int (iI hand)), (2, .int (iI (nxr (frcV v true) (vH v) hand i))), (3, .int (iI le)), (4, .int (iI (((i : Int)) + 1)))]) [5, 6, 1, 2, 0] rfl ?_
      have e9 : nxr (frcV v true) (vH v) hand (i + 1) = nxr (frcV v true) (vH v) hand i := by rw [nxr]; exact if_neg (fun h9 => by have := h9.1.2.2; omega)
      have h9 := ih (i + 1) le (by omega) (by omega) (fun h9 => by rw [e9] at h9 ⊢; exact hle h9)
      rw [e9] at h9
      exact h9
    · refine j_aload_n C 0 dX5_riser_30 rfl rfl ?_
      refine j_iload C 4 dX5_riser_31 rfl ?_
      refine j_iconst C dX5_riser_33 ?_
      refine j_callV (As := [.int (iI ((i : Int))), .int (iI 1)]) (rest := []) C yv_X5_least qw800 (c_X5_least l g u v sv ln th ap rm rd nw hh ((i : Int)) true hm (by omega)) (by decide) 0 rfl rfl rfl dX5_riser_34 rfl (Nat.le_of_ble_eq_true rfl) (by decide) pf0 rfl (fun r9 w9 hq9 => ?_)
      obtain ⟨rfl, rfl⟩ := hq9
      refine J.to (L1 := [(0, .ref (u 0)), (1, .int (iI hand)), (2, .int (iI (nxr (frcV v true) (vH v) hand i))), (3, .int (iI le)), (4, .int (iI ((i : Int))))]) (S1 := [.int (iI (leaV v true ((i : Int))))]) (ws1 := [(u 0, .inr (5, [.ref (u 1), .ref (u 2), .ref (u 3), .int (iI sv), .ref (u 4), .int (iI ln), .int (iI th), .int (iI ap), .int (iI rm), .ref (u 5), .int (iI rd), .int (iI nw), .ref (u 6), .long (lI hh)])), (u 1, aL g 75 v)]) rfl rfl rfl ?_
      refine J.to (L1 := [(0, .ref (u 0)), (1, .int (iI hand)), (2, .int (iI (nxr (frcV v true) (vH v) hand i))), (3, .int (iI le)), (4, .int (iI ((i : Int))))]) (S1 := [.int (iI (frcV v true i))]) (ws1 := [(u 0, .inr (5, [.ref (u 1), .ref (u 2), .ref (u 3), .int (iI sv), .ref (u 4), .int (iI ln), .int (iI th), .int (iI ap), .int (iI rm), .ref (u 5), .int (iI rd), .int (iI nw), .ref (u 6), .long (lI hh)])), (u 1, aL g 75 v)]) rfl rfl (by rw [show ((leaV v true ((i : Int)) : Int)) = frcV v true i from rfl]) ?_
      refine j_goto (tgt := 41) C dX5_riser_37 (by decide) ?_
      refine j_istore (L1 := [(5, .int (iI (frcV v true i))), (0, .ref (u 0)), (1, .int (iI hand)), (2, .int (iI (nxr (frcV v true) (vH v) hand i))), (3, .int (iI le)), (4, .int (iI ((i : Int))))]) C dX5_riser_41 (by decide) rfl ?_
      refine j_iload C 0 dX5_riser_43 rfl ?_
      refine j_iconst C dX5_riser_45 ?_
      refine j_icmp_eq (tgt := 70) C (by omega) (by decide) dX5_riser_46 (by decide) (fun c46 => ?_) (fun c46 => ?_)
      · refine j_iconst C dX5_riser_70 ?_
        refine j_istore (L1 := [(6, .int (iI 0)), (5, .int (iI (frcV v true i))), (0, .ref (u 0)), (1, .int (iI hand)), (2, .int (iI (nxr (frcV v true) (vH v) hand i))), (3, .int (iI le)), (4, .int (iI ((i : Int))))]) C dX5_riser_71 (by decide) rfl ?_
        refine j_iload C 0 dX5_riser_73 rfl ?_
        refine j_if_eq (tgt := 83) C (by decide) dX5_riser_75 (by decide) (fun c75 => ?_) (fun c75 => absurd c75 (by decide))
        refine j_iload_n C 5 dX5_riser_83 rfl rfl ?_
        refine j_istore_n (L1 := [(3, .int (iI le)), (6, .int (iI 0)), (5, .int (iI (frcV v true i))), (0, .ref (u 0)), (1, .int (iI hand)), (2, .int (iI (nxr (frcV v true) (vH v) hand i))), (4, .int (iI ((i : Int))))]) C dX5_riser_84 rfl (by decide) rfl ?_
        refine j_iload C 1 dX5_riser_85 rfl ?_
        refine j_if_eq (tgt := 95) C (by decide) dX5_riser_87 (by decide) (fun c87 => ?_) (fun c87 => absurd c87 (by decide))
        refine j_iload_n C 5 dX5_riser_95 rfl rfl ?_
        refine j_istore_n (L1 := [(2, .int (iI (nxr (frcV v true) (vH v) hand i))), (3, .int (iI le)), (6, .int (iI 0)), (5, .int (iI (frcV v true i))), (0, .ref (u 0)), (1, .int (iI hand)), (4, .int (iI ((i : Int))))]) C dX5_riser_96 rfl (by decide) rfl ?_
        refine j_iinc (L1 := [(4, .int (iI (((i : Int)) + 1))), (2, .int (iI (nxr (frcV v true) (vH v) hand i))), (3, .int (iI le)), (6, .int (iI 0)), (5, .int (iI (frcV v true i))), (0, .ref (u 0)), (1, .int (iI hand))]) C 6 dX5_riser_97 rfl (by decide) rfl ?_
        refine j_goto (tgt := 7) C dX5_riser_100 (by decide) ?_
        refine J.sub (L1 := [(0, .ref (u 0)), (1, .int (iI hand)), (2, .int (iI (nxr (frcV v true) (vH v) hand i))), (3, .int (iI le)), (4, .int (iI (((i : Int)) + 1)))]) [5, 6, 1, 2, 0] rfl ?_
        have e9 : nxr (frcV v true) (vH v) hand (i + 1) = nxr (frcV v true) (vH v) hand i := by rw [nxr]; exact if_neg (fun h9 => h9.1.1 c46)
        have h9 := ih (i + 1) le (by omega) (by omega) (fun h9 => by rw [e9] at h9 ⊢; exact hle h9)
        rw [e9] at h9
        exact h9
      · refine j_iload C 0 dX5_riser_49 rfl ?_
        refine j_iload_n C 2 dX5_riser_51 rfl rfl ?_
        refine j_icmp_gt (tgt := 70) C (by omega) (by omega) dX5_riser_52 (by decide) (fun c52 => ?_) (fun c52 => ?_)
        · refine j_iconst C dX5_riser_70 ?_
          refine j_istore (L1 := [(6, .int (iI 0)), (5, .int (iI (frcV v true i))), (0, .ref (u 0)), (1, .int (iI hand)), (2, .int (iI (nxr (frcV v true) (vH v) hand i))), (3, .int (iI le)), (4, .int (iI ((i : Int))))]) C dX5_riser_71 (by decide) rfl ?_
          refine j_iload C 0 dX5_riser_73 rfl ?_
          refine j_if_eq (tgt := 83) C (by decide) dX5_riser_75 (by decide) (fun c75 => ?_) (fun c75 => absurd c75 (by decide))
          refine j_iload_n C 5 dX5_riser_83 rfl rfl ?_
          refine j_istore_n (L1 := [(3, .int (iI le)), (6, .int (iI 0)), (5, .int (iI (frcV v true i))), (0, .ref (u 0)), (1, .int (iI hand)), (2, .int (iI (nxr (frcV v true) (vH v) hand i))), (4, .int (iI ((i : Int))))]) C dX5_riser_84 rfl (by decide) rfl ?_
          refine j_iload C 1 dX5_riser_85 rfl ?_
          refine j_if_eq (tgt := 95) C (by decide) dX5_riser_87 (by decide) (fun c87 => ?_) (fun c87 => absurd c87 (by decide))
          refine j_iload_n C 5 dX5_riser_95 rfl rfl ?_
          refine j_istore_n (L1 := [(2, .int (iI (nxr (frcV v true) (vH v) hand i))), (3, .int (iI le)), (6, .int (iI 0)), (5, .int (iI (frcV v true i))), (0, .ref (u 0)), (1, .int (iI hand)), (4, .int (iI ((i : Int))))]) C dX5_riser_96 rfl (by decide) rfl ?_
          refine j_iinc (L1 := [(4, .int (iI (((i : Int)) + 1))), (2, .int (iI (nxr (frcV v true) (vH v) hand i))), (3, .int (iI le)), (6, .int (iI 0)), (5, .int (iI (frcV v true i))), (0, .ref (u 0)), (1, .int (iI hand))]) C 6 dX5_riser_97 rfl (by decide) rfl ?_
          refine j_goto (tgt := 7) C dX5_riser_100 (by decide) ?_
          refine J.sub (L1 := [(0, .ref (u 0)), (1, .int (iI hand)), (2, .int (iI (nxr (frcV v true) (vH v) hand i))), (3, .int (iI le)), (4, .int (iI (((i : Int)) + 1)))]) [5, 6, 1, 2, 0] rfl ?_
          have e9 : nxr (frcV v true) (vH v) hand (i + 1) = nxr (frcV v true) (vH v) hand i := by rw [nxr]; exact if_neg (fun h9 => by have := h9.1.2.1; omega)
          have h9 := ih (i + 1) le (by omega) (by omega) (fun h9 => by rw [e9] at h9 ⊢; exact hle h9)
          rw [e9] at h9
          exact h9
        · refine j_iload_n C 3 dX5_riser_55 rfl rfl ?_
          refine j_iconst C dX5_riser_56 ?_
          refine j_icmp_eq (tgt := 66) C (by omega) (by decide) dX5_riser_57 (by decide) (fun c57 => ?_) (fun c57 => ?_)
          · refine j_iconst C dX5_riser_66 ?_
            refine j_goto (tgt := 71) C dX5_riser_67 (by decide) ?_
            refine j_istore (L1 := [(6, .int (iI 1)), (5, .int (iI (frcV v true i))), (0, .ref (u 0)), (1, .int (iI hand)), (2, .int (iI (nxr (frcV v true) (vH v) hand i))), (3, .int (iI le)), (4, .int (iI ((i : Int))))]) C dX5_riser_71 (by decide) rfl ?_
            refine j_iload C 0 dX5_riser_73 rfl ?_
            refine j_if_eq (tgt := 83) C (by decide) dX5_riser_75 (by decide) (fun c75 => absurd c75 (by decide)) (fun c75 => ?_)
            refine j_iload C 1 dX5_riser_78 rfl ?_
            refine j_goto (tgt := 84) C dX5_riser_80 (by decide) ?_
            refine j_istore_n (L1 := [(3, .int (iI (frcV v true i))), (6, .int (iI 1)), (5, .int (iI (frcV v true i))), (0, .ref (u 0)), (1, .int (iI hand)), (2, .int (iI (nxr (frcV v true) (vH v) hand i))), (4, .int (iI ((i : Int))))]) C dX5_riser_84 rfl (by decide) rfl ?_
            refine j_iload C 1 dX5_riser_85 rfl ?_
            refine j_if_eq (tgt := 95) C (by decide) dX5_riser_87 (by decide) (fun c87 => absurd c87 (by decide)) (fun c87 => ?_)
            refine j_iload C 6 dX5_riser_90 rfl ?_
            refine j_goto (tgt := 96) C dX5_riser_92 (by decide) ?_
            refine j_istore_n (L1 := [(2, .int (iI ((i : Int)))), (3, .int (iI (frcV v true i))), (6, .int (iI 1)), (5, .int (iI (frcV v true i))), (0, .ref (u 0)), (1, .int (iI hand)), (4, .int (iI ((i : Int))))]) C dX5_riser_96 rfl (by decide) rfl ?_
            refine j_iinc (L1 := [(4, .int (iI (((i : Int)) + 1))), (2, .int (iI ((i : Int)))), (3, .int (iI (frcV v true i))), (6, .int (iI 1)), (5, .int (iI (frcV v true i))), (0, .ref (u 0)), (1, .int (iI hand))]) C 6 dX5_riser_97 rfl (by decide) rfl ?_
            refine j_goto (tgt := 7) C dX5_riser_100 (by decide) ?_
            refine J.sub (L1 := [(0, .ref (u 0)), (1, .int (iI hand)), (2, .int (iI ((i : Int)))), (3, .int (iI (frcV v true i))), (4, .int (iI (((i : Int)) + 1)))]) [5, 6, 1, 2, 0] rfl ?_
            have e9 : nxr (frcV v true) (vH v) hand (i + 1) = (i : Int) := by rw [nxr]; exact if_pos ⟨⟨c46, c52, c26⟩, Or.inl c57⟩
            have h9 := ih (i + 1) (frcV v true i) (by omega) (by omega) (fun _ => by rw [e9]; rfl)
            rw [e9] at h9
            exact h9
          · refine j_iload C 0 dX5_riser_60 rfl ?_
            refine j_iload_n C 4 dX5_riser_62 rfl rfl ?_
            refine j_icmp_ge (tgt := 70) C (by omega) (by omega) dX5_riser_63 (by decide) (fun c63 => ?_) (fun c63 => ?_)
            · refine j_iconst C dX5_riser_70 ?_
              refine j_istore (L1 := [(6, .int (iI 0)), (5, .int (iI (frcV v true i))), (0, .ref (u 0)), (1, .int (iI hand)), (2, .int (iI (nxr (frcV v true) (vH v) hand i))), (3, .int (iI le)), (4, .int (iI ((i : Int))))]) C dX5_riser_71 (by decide) rfl ?_
              refine j_iload C 0 dX5_riser_73 rfl ?_
              refine j_if_eq (tgt := 83) C (by decide) dX5_riser_75 (by decide) (fun c75 => ?_) (fun c75 => absurd c75 (by decide))
              refine j_iload_n C 5 dX5_riser_83 rfl rfl ?_
              refine j_istore_n (L1 := [(3, .int (iI le)), (6, .int (iI 0)), (5, .int (iI (frcV v true i))), (0, .ref (u 0)), (1, .int (iI hand)), (2, .int (iI (nxr (frcV v true) (vH v) hand i))), (4, .int (iI ((i : Int))))]) C dX5_riser_84 rfl (by decide) rfl ?_
              refine j_iload C 1 dX5_riser_85 rfl ?_
              refine j_if_eq (tgt := 95) C (by decide) dX5_riser_87 (by decide) (fun c87 => ?_) (fun c87 => absurd c87 (by decide))
              refine j_iload_n C 5 dX5_riser_95 rfl rfl ?_
              refine j_istore_n (L1 := [(2, .int (iI (nxr (frcV v true) (vH v) hand i))), (3, .int (iI le)), (6, .int (iI 0)), (5, .int (iI (frcV v true i))), (0, .ref (u 0)), (1, .int (iI hand)), (4, .int (iI ((i : Int))))]) C dX5_riser_96 rfl (by decide) rfl ?_
              refine j_iinc (L1 := [(4, .int (iI (((i : Int)) + 1))), (2, .int (iI (nxr (frcV v true) (vH v) hand i))), (3, .int (iI le)), (6, .int (iI 0)), (5, .int (iI (frcV v true i))), (0, .ref (u 0)), (1, .int (iI hand))]) C 6 dX5_riser_97 rfl (by decide) rfl ?_
              refine j_goto (tgt := 7) C dX5_riser_100 (by decide) ?_
              refine J.sub (L1 := [(0, .ref (u 0)), (1, .int (iI hand)), (2, .int (iI (nxr (frcV v true) (vH v) hand i))), (3, .int (iI le)), (4, .int (iI (((i : Int)) + 1)))]) [5, 6, 1, 2, 0] rfl ?_
              have e9 : nxr (frcV v true) (vH v) hand (i + 1) = nxr (frcV v true) (vH v) hand i := by rw [nxr]; exact if_neg (fun h9 => by rcases h9.2 with h8 | h8; exact c57 h8; rw [← hle c57] at h8; omega)
              have h9 := ih (i + 1) le (by omega) (by omega) (fun h9 => by rw [e9] at h9 ⊢; exact hle h9)
              rw [e9] at h9
              exact h9
            · refine j_iconst C dX5_riser_66 ?_
              refine j_goto (tgt := 71) C dX5_riser_67 (by decide) ?_
              refine j_istore (L1 := [(6, .int (iI 1)), (5, .int (iI (frcV v true i))), (0, .ref (u 0)), (1, .int (iI hand)), (2, .int (iI (nxr (frcV v true) (vH v) hand i))), (3, .int (iI le)), (4, .int (iI ((i : Int))))]) C dX5_riser_71 (by decide) rfl ?_
              refine j_iload C 0 dX5_riser_73 rfl ?_
              refine j_if_eq (tgt := 83) C (by decide) dX5_riser_75 (by decide) (fun c75 => absurd c75 (by decide)) (fun c75 => ?_)
              refine j_iload C 1 dX5_riser_78 rfl ?_
              refine j_goto (tgt := 84) C dX5_riser_80 (by decide) ?_
              refine j_istore_n (L1 := [(3, .int (iI (frcV v true i))), (6, .int (iI 1)), (5, .int (iI (frcV v true i))), (0, .ref (u 0)), (1, .int (iI hand)), (2, .int (iI (nxr (frcV v true) (vH v) hand i))), (4, .int (iI ((i : Int))))]) C dX5_riser_84 rfl (by decide) rfl ?_
              refine j_iload C 1 dX5_riser_85 rfl ?_
              refine j_if_eq (tgt := 95) C (by decide) dX5_riser_87 (by decide) (fun c87 => absurd c87 (by decide)) (fun c87 => ?_)
              refine j_iload C 6 dX5_riser_90 rfl ?_
              refine j_goto (tgt := 96) C dX5_riser_92 (by decide) ?_
              refine j_istore_n (L1 := [(2, .int (iI ((i : Int)))), (3, .int (iI (frcV v true i))), (6, .int (iI 1)), (5, .int (iI (frcV v true i))), (0, .ref (u 0)), (1, .int (iI hand)), (4, .int (iI ((i : Int))))]) C dX5_riser_96 rfl (by decide) rfl ?_
              refine j_iinc (L1 := [(4, .int (iI (((i : Int)) + 1))), (2, .int (iI ((i : Int)))), (3, .int (iI (frcV v true i))), (6, .int (iI 1)), (5, .int (iI (frcV v true i))), (0, .ref (u 0)), (1, .int (iI hand))]) C 6 dX5_riser_97 rfl (by decide) rfl ?_
              refine j_goto (tgt := 7) C dX5_riser_100 (by decide) ?_
              refine J.sub (L1 := [(0, .ref (u 0)), (1, .int (iI hand)), (2, .int (iI ((i : Int)))), (3, .int (iI (frcV v true i))), (4, .int (iI (((i : Int)) + 1)))]) [5, 6, 1, 2, 0] rfl ?_
              have e9 : nxr (frcV v true) (vH v) hand (i + 1) = (i : Int) := by rw [nxr]; exact if_pos ⟨⟨c46, c52, c26⟩, Or.inr (by rw [← hle c57]; exact c63)⟩
              have h9 := ih (i + 1) (frcV v true i) (by omega) (by omega) (fun _ => by rw [e9]; rfl)
              rw [e9] at h9
              exact h9

theorem c_X5_riser (l : Launch) (g : Gh) (u : Nat → Nat) (v : Nat → Int) (sv ln th ap rm rd nw hh : Int) (hand : Int) (hm : MOK v) (hhand : 0 ≤ hand ∧ hand ≤ 1000000) : CT l g yX5_riser cX5_riser 7 (some FieldType.int) ({ frames := 3, cells := 0, slots := 0, locals := 80 }) [.ref (u 0), .int (iI hand)] [(u 0, .inr (5, [.ref (u 1), .ref (u 2), .ref (u 3), .int (iI sv), .ref (u 4), .int (iI ln), .int (iI th), .int (iI ap), .int (iI rm), .ref (u 5), .int (iI rd), .int (iI nw), .ref (u 6), .long (lI hh)])), (u 1, aL g 75 v)] (PE (some (.int (iI (nxr (frcV v true) (vH v) hand 4)))) [(u 0, .inr (5, [.ref (u 1), .ref (u 2), .ref (u 3), .int (iI sv), .ref (u 4), .int (iI ln), .int (iI th), .int (iI ap), .int (iI rm), .ref (u 5), .int (iI rd), .int (iI nw), .ref (u 6), .long (lI hh)])), (u 1, aL g 75 v)]) := by
  refine CT.intro (L0 := [(0, .ref (u 0)), (1, .int (iI hand))]) (own := RX5) (by decide) rfl (Nat.le_of_ble_eq_true rfl) rfl ?_
  intro pX eX sX mX argsX belowX methX cX A C hr hlk
  obtain ⟨hP, hE0, hF, hrow0, hwt, hht, hlen, hent⟩ := id hm
  have hE : -10 ≤ v 3 ∧ v 3 ≤ 10 := by omega
  have hrow : ∀ i : Nat, (i : Int) < v 2 → 0 ≤ vR v i ∧ vR v i ≤ 4 := fun i hi => by have := hrow0 i hi; omega
  refine j_iconst C dX5_riser_0 ?_
  refine j_istore_n (L1 := [(2, .int (iI (-1))), (0, .ref (u 0)), (1, .int (iI hand))]) C dX5_riser_1 rfl (by decide) rfl ?_
  refine j_iconst C dX5_riser_2 ?_
  refine j_istore_n (L1 := [(3, .int (iI 0)), (2, .int (iI (-1))), (0, .ref (u 0)), (1, .int (iI hand))]) C dX5_riser_3 rfl (by decide) rfl ?_
  refine j_iconst C dX5_riser_4 ?_
  refine j_istore (L1 := [(4, .int (iI 0)), (3, .int (iI 0)), (2, .int (iI (-1))), (0, .ref (u 0)), (1, .int (iI hand))]) C dX5_riser_5 (by decide) rfl ?_
  refine J.sub (L1 := [(0, .ref (u 0)), (1, .int (iI hand)), (2, .int (iI (-1))), (3, .int (iI 0)), (4, .int (iI 0))]) [3, 4, 2, 1, 0] rfl ?_
  refine lm_riser C hm hhand ?_ 4 0 0 (by omega) (by decide) (fun h9 => absurd rfl h9)
  refine j_iload_n C 0 dX5_riser_103 rfl rfl ?_
  exact j_iret C hr hlk dX5_riser_104 ⟨rfl, rfl⟩ (by decide) (by decide)

theorem lm_sinker {p : Program} {l : Launch} {e : Env} {s : State} {m : MethodId} {args : Array Value} {below : List Frame} {meth : Method} {c : Code} {g : Gh} {A : Nat → Prop} {Q : State → Prop} (C : Cx p g s m args c cX5_sinker 6 RX5 A) {u : Nat → Nat} {v : Nat → Int} {sv ln th ap rm rd nw hh : Int} {hand : Int} (hm : MOK v) (hhand : 0 ≤ hand ∧ hand ≤ 1000000) (kk : J p l e ({ frames := 3, cells := 0, slots := 0, locals := 80 } : Room) s m args below meth c g A 6 73 [(2, .int (iI (nxs (frcV v false) (vH v) hand 4)))] [] [(u 0, .inr (5, [.ref (u 1), .ref (u 2), .ref (u 3), .int (iI sv), .ref (u 4), .int (iI ln), .int (iI th), .int (iI ap), .int (iI rm), .ref (u 5), .int (iI rd), .int (iI nw), .ref (u 6), .long (lI hh)])), (u 1, aL g 75 v)] 0 0 Q) : ∀ (n i : Nat) (le : Int), i + n = 4 → (-1 ≤ le ∧ le ≤ 1000000) → 0 ≤ le ∧ le = (if nxs (frcV v false) (vH v) hand i = -1 then hand else frcV v false (nxs (frcV v false) (vH v) hand i).toNat) → J p l e ({ frames := 3, cells := 0, slots := 0, locals := 80 } : Room) s m args below meth c g A 6 7 [(0, .ref (u 0)), (1, .int (iI hand)), (2, .int (iI (nxs (frcV v false) (vH v) hand i))), (3, .int (iI le)), (4, .int (iI ((i : Int))))] [] [(u 0, .inr (5, [.ref (u 1), .ref (u 2), .ref (u 3), .int (iI sv), .ref (u 4), .int (iI ln), .int (iI th), .int (iI ap), .int (iI rm), .ref (u 5), .int (iI rd), .int (iI nw), .ref (u 6), .long (lI hh)])), (u 1, aL g 75 v)] 0 0 Q := by
  intro n
  induction n with
  | zero =>
    intro i le hi hle0 hle9
    obtain ⟨hle1, hle⟩ := hle9
    have hi9 : i = 4 := by omega
    refine j_iload C 4 dX5_sinker_7 rfl ?_
    refine j_iconst C dX5_sinker_9 ?_
    refine j_icmp_ge (tgt := 73) C (by omega) (by decide) dX5_sinker_10 (by decide) (fun c10 => ?_) (fun c10 => absurd c10 (by omega))
    refine J.sub (L1 := [(2, .int (iI (nxs (frcV v false) (vH v) hand i)))]) [2] rfl ?_
    rw [hi9]
    exact kk
  | succ n ih =>
    intro i le hi hle0 hle9
    obtain ⟨hle1, hle⟩ := hle9
    obtain ⟨hP, hE0, hF, hrow0, hwt, hht, hlen, hent⟩ := id hm
    have hE : -10 ≤ v 3 ∧ v 3 ≤ 10 := by omega
    have hrow : ∀ i : Nat, (i : Int) < v 2 → 0 ≤ vR v i ∧ vR v i ≤ 4 := fun i hi => by have := hrow0 i hi; omega
    have hf9 := frcV_rng v false i
    have hh9 := hht i (by omega)
    have hh8 : v (13 + i) = vH v i := rfl
    have hn9 := nxs_rng (frcV v false) (vH v) hand i
    refine j_iload C 4 dX5_sinker_7 rfl ?_
    refine j_iconst C dX5_sinker_9 ?_
    refine j_icmp_ge (tgt := 73) C (by omega) (by decide) dX5_sinker_10 (by decide) (fun c10 => absurd c10 (by omega)) (fun c10 => ?_)
    refine j_aload_n C 0 dX5_sinker_13 rfl rfl ?_
    refine j_get C ck5 0 0 (by decide) qw662 rfl rfl dX5_sinker_14 ?_
    refine j_bipush C dX5_sinker_17 (by decide) ?_
    refine j_iload C 4 dX5_sinker_19 rfl ?_
    refine j_iadd C dX5_sinker_21 ?_
    refine j_lald (n := 75) (f := v) C 1 (13 + i) rfl (by omega) (by omega) (by decide) dX5_sinker_22 ?_
    refine j_lconst (v := 0) C dX5_sinker_23 rfl ?_
    refine j_lif_le (tgt := 38) C (by omega) (by decide) dX5_sinker_24 dX5_sinker_25 (by decide) (fun c24 => ?_) (fun c24 => ?_)
    · refine j_iconst C dX5_sinker_38 ?_
      refine j_istore (L1 := [(5, .int (iI (-1))), (0, .ref (u 0)), (1, .int (iI hand)), (2, .int (iI (nxs (frcV v false) (vH v) hand i))), (3, .int (iI le)), (4, .int (iI ((i : Int))))]) C dX5_sinker_39 (by decide) rfl ?_
      refine j_iload C 0 dX5_sinker_41 rfl ?_
      refine j_iload_n C 4 dX5_sinker_43 rfl rfl ?_
      refine j_icmp_le (tgt := 52) C (by decide) (by omega) dX5_sinker_44 (by decide) (fun c44 => ?_) (fun c44 => absurd c44 (by omega))
      refine j_iload_n C 3 dX5_sinker_52 rfl rfl ?_
      refine j_istore_n (L1 := [(2, .int (iI (nxs (frcV v false) (vH v) hand i))), (5, .int (iI (-1))), (0, .ref (u 0)), (1, .int (iI hand)), (3, .int (iI le)), (4, .int (iI ((i : Int))))]) C dX5_sinker_53 rfl (by decide) rfl ?_
      refine j_iload C 1 dX5_sinker_54 rfl ?_
      refine j_iload_n C 4 dX5_sinker_56 rfl rfl ?_
      refine j_icmp_le (tgt := 65) C (by decide) (by omega) dX5_sinker_57 (by decide) (fun c57 => ?_) (fun c57 => absurd c57 (by omega))
      refine j_iload_n C 4 dX5_sinker_65 rfl rfl ?_
      refine j_istore_n (L1 := [(3, .int (iI le)), (2, .int (iI (nxs (frcV v false) (vH v) hand i))), (5, .int (iI (-1))), (0, .ref (u 0)), (1, .int (iI hand)), (4, .int (iI ((i : Int))))]) C dX5_sinker_66 rfl (by decide) rfl ?_
      refine j_iinc (L1 := [(4, .int (iI (((i : Int)) + 1))), (3, .int (iI le)), (2, .int (iI (nxs (frcV v false) (vH v) hand i))), (5, .int (iI (-1))), (0, .ref (u 0)), (1, .int (iI hand))]) C 5 dX5_sinker_67 rfl (by decide) rfl ?_
      refine j_goto (tgt := 7) C dX5_sinker_70 (by decide) ?_
      refine J.sub (L1 := [(0, .ref (u 0)), (1, .int (iI hand)), (2, .int (iI (nxs (frcV v false) (vH v) hand i))), (3, .int (iI le)), (4, .int (iI (((i : Int)) + 1)))]) [4, 5, 2, 1, 0] rfl ?_
      have e9 : nxs (frcV v false) (vH v) hand (i + 1) = nxs (frcV v false) (vH v) hand i := by rw [nxs]; exact if_neg (fun h9 => by have := h9.2; omega)
      have h9 := ih (i + 1) le (by omega) (by omega) ⟨hle1, by rw [e9]; exact hle⟩
      rw [e9] at h9
      exact h9
    · refine j_aload_n C 0 dX5_sinker_28 rfl rfl ?_
      refine j_iload C 4 dX5_sinker_29 rfl ?_
      refine j_iconst C dX5_sinker_31 ?_
      refine j_callV (As := [.int (iI ((i : Int))), .int (iI 0)]) (rest := []) C yv_X5_least qw800 (c_X5_least l g u v sv ln th ap rm rd nw hh ((i : Int)) false hm (by omega)) (by decide) 0 rfl rfl rfl dX5_sinker_32 rfl (Nat.le_of_ble_eq_true rfl) (by decide) pf0 rfl (fun r9 w9 hq9 => ?_)
      obtain ⟨rfl, rfl⟩ := hq9
      refine J.to (L1 := [(0, .ref (u 0)), (1, .int (iI hand)), (2, .int (iI (nxs (frcV v false) (vH v) hand i))), (3, .int (iI le)), (4, .int (iI ((i : Int))))]) (S1 := [.int (iI (leaV v false ((i : Int))))]) (ws1 := [(u 0, .inr (5, [.ref (u 1), .ref (u 2), .ref (u 3), .int (iI sv), .ref (u 4), .int (iI ln), .int (iI th), .int (iI ap), .int (iI rm), .ref (u 5), .int (iI rd), .int (iI nw), .ref (u 6), .long (lI hh)])), (u 1, aL g 75 v)]) rfl rfl rfl ?_
      refine J.to (L1 := [(0, .ref (u 0)), (1, .int (iI hand)), (2, .int (iI (nxs (frcV v false) (vH v) hand i))), (3, .int (iI le)), (4, .int (iI ((i : Int))))]) (S1 := [.int (iI (frcV v false i))]) (ws1 := [(u 0, .inr (5, [.ref (u 1), .ref (u 2), .ref (u 3), .int (iI sv), .ref (u 4), .int (iI ln), .int (iI th), .int (iI ap), .int (iI rm), .ref (u 5), .int (iI rd), .int (iI nw), .ref (u 6), .long (lI hh)])), (u 1, aL g 75 v)]) rfl rfl (by rw [show ((leaV v false ((i : Int)) : Int)) = frcV v false i from rfl]) ?_
      refine j_goto (tgt := 39) C dX5_sinker_35 (by decide) ?_
      refine j_istore (L1 := [(5, .int (iI (frcV v false i))), (0, .ref (u 0)), (1, .int (iI hand)), (2, .int (iI (nxs (frcV v false) (vH v) hand i))), (3, .int (iI le)), (4, .int (iI ((i : Int))))]) C dX5_sinker_39 (by decide) rfl ?_
      refine j_iload C 0 dX5_sinker_41 rfl ?_
      refine j_iload_n C 4 dX5_sinker_43 rfl rfl ?_
      refine j_icmp_le (tgt := 52) C (by omega) (by omega) dX5_sinker_44 (by decide) (fun c44 => ?_) (fun c44 => ?_)
      · refine j_iload_n C 3 dX5_sinker_52 rfl rfl ?_
        refine j_istore_n (L1 := [(2, .int (iI (nxs (frcV v false) (vH v) hand i))), (5, .int (iI (frcV v false i))), (0, .ref (u 0)), (1, .int (iI hand)), (3, .int (iI le)), (4, .int (iI ((i : Int))))]) C dX5_sinker_53 rfl (by decide) rfl ?_
        refine j_iload C 1 dX5_sinker_54 rfl ?_
        refine j_iload_n C 4 dX5_sinker_56 rfl rfl ?_
        refine j_icmp_le (tgt := 65) C (by omega) (by omega) dX5_sinker_57 (by decide) (fun c57 => ?_) (fun c57 => absurd c57 (by omega))
        refine j_iload_n C 4 dX5_sinker_65 rfl rfl ?_
        refine j_istore_n (L1 := [(3, .int (iI le)), (2, .int (iI (nxs (frcV v false) (vH v) hand i))), (5, .int (iI (frcV v false i))), (0, .ref (u 0)), (1, .int (iI hand)), (4, .int (iI ((i : Int))))]) C dX5_sinker_66 rfl (by decide) rfl ?_
        refine j_iinc (L1 := [(4, .int (iI (((i : Int)) + 1))), (3, .int (iI le)), (2, .int (iI (nxs (frcV v false) (vH v) hand i))), (5, .int (iI (frcV v false i))), (0, .ref (u 0)), (1, .int (iI hand))]) C 5 dX5_sinker_67 rfl (by decide) rfl ?_
        refine j_goto (tgt := 7) C dX5_sinker_70 (by decide) ?_
        refine J.sub (L1 := [(0, .ref (u 0)), (1, .int (iI hand)), (2, .int (iI (nxs (frcV v false) (vH v) hand i))), (3, .int (iI le)), (4, .int (iI (((i : Int)) + 1)))]) [4, 5, 2, 1, 0] rfl ?_
        have e9 : nxs (frcV v false) (vH v) hand (i + 1) = nxs (frcV v false) (vH v) hand i := by rw [nxs]; exact if_neg (fun h9 => by have h8 := h9.1; rw [← hle] at h8; omega)
        have h9 := ih (i + 1) le (by omega) (by omega) ⟨hle1, by rw [e9]; exact hle⟩
        rw [e9] at h9
        exact h9
      · refine j_iload C 5 dX5_sinker_47 rfl ?_
        refine j_goto (tgt := 53) C dX5_sinker_49 (by decide) ?_
        refine j_istore_n (L1 := [(2, .int (iI ((i : Int)))), (5, .int (iI (frcV v false i))), (0, .ref (u 0)), (1, .int (iI hand)), (3, .int (iI le)), (4, .int (iI ((i : Int))))]) C dX5_sinker_53 rfl (by decide) rfl ?_
        refine j_iload C 1 dX5_sinker_54 rfl ?_
        refine j_iload_n C 4 dX5_sinker_56 rfl rfl ?_
        refine j_icmp_le (tgt := 65) C (by omega) (by omega) dX5_sinker_57 (by decide) (fun c57 => absurd c57 (by omega)) (fun c57 => ?_)
        refine j_iload C 1 dX5_sinker_60 rfl ?_
        refine j_goto (tgt := 66) C dX5_sinker_62 (by decide) ?_
        refine j_istore_n (L1 := [(3, .int (iI (frcV v false i))), (2, .int (iI ((i : Int)))), (5, .int (iI (frcV v false i))), (0, .ref (u 0)), (1, .int (iI hand)), (4, .int (iI ((i : Int))))]) C dX5_sinker_66 rfl (by decide) rfl ?_
        refine j_iinc (L1 := [(4, .int (iI (((i : Int)) + 1))), (3, .int (iI (frcV v false i))), (2, .int (iI ((i : Int)))), (5, .int (iI (frcV v false i))), (0, .ref (u 0)), (1, .int (iI hand))]) C 5 dX5_sinker_67 rfl (by decide) rfl ?_
        refine j_goto (tgt := 7) C dX5_sinker_70 (by decide) ?_
        refine J.sub (L1 := [(0, .ref (u 0)), (1, .int (iI hand)), (2, .int (iI ((i : Int)))), (3, .int (iI (frcV v false i))), (4, .int (iI (((i : Int)) + 1)))]) [4, 5, 2, 1, 0] rfl ?_
        have e9 : nxs (frcV v false) (vH v) hand (i + 1) = (i : Int) := by rw [nxs]; exact if_pos ⟨by rw [← hle]; exact c44, c24⟩
        have h9 := ih (i + 1) (frcV v false i) (by omega) (by omega) ⟨by omega, by rw [e9, if_neg (by omega)]; rfl⟩
        rw [e9] at h9
        exact h9

theorem c_X5_sinker (l : Launch) (g : Gh) (u : Nat → Nat) (v : Nat → Int) (sv ln th ap rm rd nw hh : Int) (hand : Int) (hm : MOK v) (hhand : 0 ≤ hand ∧ hand ≤ 1000000) : CT l g yX5_sinker cX5_sinker 6 (some FieldType.int) ({ frames := 3, cells := 0, slots := 0, locals := 80 }) [.ref (u 0), .int (iI hand)] [(u 0, .inr (5, [.ref (u 1), .ref (u 2), .ref (u 3), .int (iI sv), .ref (u 4), .int (iI ln), .int (iI th), .int (iI ap), .int (iI rm), .ref (u 5), .int (iI rd), .int (iI nw), .ref (u 6), .long (lI hh)])), (u 1, aL g 75 v)] (PE (some (.int (iI (nxs (frcV v false) (vH v) hand 4)))) [(u 0, .inr (5, [.ref (u 1), .ref (u 2), .ref (u 3), .int (iI sv), .ref (u 4), .int (iI ln), .int (iI th), .int (iI ap), .int (iI rm), .ref (u 5), .int (iI rd), .int (iI nw), .ref (u 6), .long (lI hh)])), (u 1, aL g 75 v)]) := by
  refine CT.intro (L0 := [(0, .ref (u 0)), (1, .int (iI hand))]) (own := RX5) (by decide) rfl (Nat.le_of_ble_eq_true rfl) rfl ?_
  intro pX eX sX mX argsX belowX methX cX A C hr hlk
  obtain ⟨hP, hE0, hF, hrow0, hwt, hht, hlen, hent⟩ := id hm
  have hE : -10 ≤ v 3 ∧ v 3 ≤ 10 := by omega
  have hrow : ∀ i : Nat, (i : Int) < v 2 → 0 ≤ vR v i ∧ vR v i ≤ 4 := fun i hi => by have := hrow0 i hi; omega
  refine j_iconst C dX5_sinker_0 ?_
  refine j_istore_n (L1 := [(2, .int (iI (-1))), (0, .ref (u 0)), (1, .int (iI hand))]) C dX5_sinker_1 rfl (by decide) rfl ?_
  refine j_iload_n C 2 dX5_sinker_2 rfl rfl ?_
  refine j_istore_n (L1 := [(3, .int (iI hand)), (2, .int (iI (-1))), (0, .ref (u 0)), (1, .int (iI hand))]) C dX5_sinker_3 rfl (by decide) rfl ?_
  refine j_iconst C dX5_sinker_4 ?_
  refine j_istore (L1 := [(4, .int (iI 0)), (3, .int (iI hand)), (2, .int (iI (-1))), (0, .ref (u 0)), (1, .int (iI hand))]) C dX5_sinker_5 (by decide) rfl ?_
  refine J.sub (L1 := [(0, .ref (u 0)), (1, .int (iI hand)), (2, .int (iI (-1))), (3, .int (iI hand)), (4, .int (iI 0))]) [3, 4, 2, 1, 0] rfl ?_
  refine lm_sinker C hm hhand ?_ 4 0 hand (by omega) (by omega) ⟨hhand.1, rfl⟩
  refine j_iload_n C 0 dX5_sinker_73 rfl rfl ?_
  exact j_iret C hr hlk dX5_sinker_74 ⟨rfl, rfl⟩ (by decide) (by decide)

noncomputable def mnV (up : Bool) (hand : Int) (v : Nat → Int) : Int := if up then nxr (frcV v true) (vH v) hand 4 else nxs (frcV v false) (vH v) hand 4
