/-! the reference: RopeTackleModel, its leaves -/
abbrev vR (v : Nat → Int) : Nat → Int := fun i => v (17 + i)
abbrev vW (v : Nat → Int) : Nat → Int := fun b => v (9 + b)
abbrev vH (v : Nat → Int) : Nat → Int := fun b => v (13 + b)
abbrev vL (v : Nat → Int) : Nat → Int := fun j => v (27 + j)
abbrev wMo (g : Gh) (u : Nat → Nat) (v : Nat → Int) (sv ln th ap rm rd nw hh : Int) : va_W := [(u 0, .inr (5, [.ref (u 1), .ref (u 2), .ref (u 3), .int (iI sv), .ref (u 4), .int (iI ln), .int (iI th), .int (iI ap), .int (iI rm), .ref (u 5), .int (iI rd), .int (iI nw), .ref (u 6), .long (lI hh)])), (u 1, aL g 75 v)]
abbrev wMd (g : Gh) (u : Nat → Nat) (v pa sd tx rr rq : Nat → Int) (sv ln th ap rm rd nw hh : Int) : va_W := [(u 0, .inr (5, [.ref (u 1), .ref (u 2), .ref (u 3), .int (iI sv), .ref (u 4), .int (iI ln), .int (iI th), .int (iI ap), .int (iI rm), .ref (u 5), .int (iI rd), .int (iI nw), .ref (u 6), .long (lI hh)])), (u 1, aL g 75 v), (u 2, aL g 300 pa), (u 3, aL g 75 sd), (u 4, aI g 60 tx), (u 5, aI g 10 rr), (u 6, aI g 4 rq)]
/-- the reference's numbers are in their ranges -/
def MOK (v : Nat → Int) : Prop := (0 ≤ v 2 ∧ v 2 ≤ 10) ∧ (0 ≤ v 3 ∧ v 3 ≤ 4) ∧ (0 ≤ v 1 ∧ v 1 ≤ 30) ∧ (∀ i : Nat, (i : Int) < v 2 → 0 ≤ vR v i ∧ vR v i ≤ 3) ∧ (∀ b : Nat, b < 4 → 0 ≤ vW v b ∧ vW v b ≤ 50000) ∧ (∀ b : Nat, b < 4 → 0 ≤ vH v b ∧ vH v b ≤ 9000) ∧ (1000 ≤ v 0 ∧ v 0 ≤ 300000) ∧ (0 ≤ v 6 ∧ v 6 ≤ 16)
abbrev hanV (v : Nat → Int) : Int := hng (vR v) (v 2).toNat (v 3) (vH v) 4
abbrev hndV (v : Nat → Int) : Int := v 0 - hanV v
abbrev strV (v : Nat → Int) (b : Int) : Int := strn (vR v) (v 2).toNat (v 3) b
abbrev pulV (v : Nat → Int) (h : Bool) (b t : Int) : Int := pul (vR v) (v 1) h (v 2).toNat (v 3) b t
noncomputable abbrev leaV (v : Nat → Int) (h : Bool) (b : Int) : Int := lea (vR v) (v 1) h (v 2).toNat (v 3) b (vW v b.toNat)
abbrev passV (v : Nat → Int) : Int := 2 * v 2 + if v 3 = 4 then 0 else 1
theorem hanV_rng {v : Nat → Int} (hm : MOK v) : 0 ≤ hanV v ∧ hanV v ≤ 840000 := by
  have h1 := hng_nn (f := vR v) (n := (v 2).toNat) (E := v 3) hm.2.2.2.2.2.1 4 (Nat.le_refl _)
  have h2 := hng_le (f := vR v) (n := (v 2).toNat) (E := v 3) (by have := hm.1; omega) hm.2.2.2.2.2.1 4 (Nat.le_refl _)
  exact ⟨h1, Int.le_trans h2 (by decide)⟩
theorem strV_rng {v : Nat → Int} (hm : MOK v) (b : Int) : 0 ≤ strV v b ∧ strV v b ≤ 21 := by
  have h1 := strn_rng (vR v) (v 2).toNat (v 3) b
  have h2 := hm.1
  exact ⟨h1.1, by show strn (vR v) (v 2).toNat (v 3) b ≤ 21; omega⟩
theorem c_X5_in_t (l : Launch) (g : Gh) (x lo hi : Int) (hx9 : -9223372036854775808 ≤ x ∧ x < 9223372036854775808) (hlo : -9223372036854775808 ≤ lo ∧ lo < 9223372036854775808) (hhi : -9223372036854775808 ≤ hi ∧ hi < 9223372036854775808) (hin9 : lo ≤ x ∧ x ≤ hi) : CT l g yX5_in cX5_in 6 (some FieldType.boolean) ({ frames := 0, cells := 0, slots := 0, locals := 0 }) [.long (lI x), .long (lI lo), .long (lI hi)] [] (PE (some (.int (iI 1))) []) := by
  refine CT.intro (L0 := [(0, .long (lI x)), (2, .long (lI lo)), (4, .long (lI hi))]) (own := RX5) (by decide) rfl (Nat.le_of_ble_eq_true rfl) rfl ?_
  intro pX eX sX mX argsX belowX methX cX A C hr hlk
  refine j_lload_n C 0 dX5_in_0 rfl rfl ?_
  refine j_lload_n C 1 dX5_in_1 rfl rfl ?_
  refine j_lif_lt (tgt := 17) C (by omega) (by omega) dX5_in_2 dX5_in_3 (by decide) (fun c2 => absurd c2 (by omega)) (fun c2 => ?_)
  refine j_lload_n C 0 dX5_in_6 rfl rfl ?_
  refine j_lload C 2 dX5_in_7 rfl ?_
  refine j_lif_gt (tgt := 17) C (by omega) (by omega) dX5_in_9 dX5_in_10 (by decide) (fun c9 => absurd c9 (by omega)) (fun c9 => ?_)
  refine j_iconst C dX5_in_13 ?_
  refine j_goto (tgt := 18) C dX5_in_14 (by decide) ?_
  exact j_zret C hr hlk rfl dX5_in_18 ⟨rfl, rfl⟩ (by decide) (by decide)

theorem c_X5_in_f (l : Launch) (g : Gh) (x lo hi : Int) (hx9 : -9223372036854775808 ≤ x ∧ x < 9223372036854775808) (hlo : -9223372036854775808 ≤ lo ∧ lo < 9223372036854775808) (hhi : -9223372036854775808 ≤ hi ∧ hi < 9223372036854775808) (hin9 : x < lo ∨ hi < x) : CT l g yX5_in cX5_in 6 (some FieldType.boolean) ({ frames := 0, cells := 0, slots := 0, locals := 0 }) [.long (lI x), .long (lI lo), .long (lI hi)] [] (PE (some (.int (iI 0))) []) := by
  refine CT.intro (L0 := [(0, .long (lI x)), (2, .long (lI lo)), (4, .long (lI hi))]) (own := RX5) (by decide) rfl (Nat.le_of_ble_eq_true rfl) rfl ?_
  intro pX eX sX mX argsX belowX methX cX A C hr hlk
  refine j_lload_n C 0 dX5_in_0 rfl rfl ?_
  refine j_lload_n C 1 dX5_in_1 rfl rfl ?_
  refine j_lif_lt (tgt := 17) C (by omega) (by omega) dX5_in_2 dX5_in_3 (by decide) (fun c2 => ?_) (fun c2 => ?_)
  · refine j_iconst C dX5_in_17 ?_
    exact j_zret C hr hlk rfl dX5_in_18 ⟨rfl, rfl⟩ (by decide) (by decide)
  · refine j_lload_n C 0 dX5_in_6 rfl rfl ?_
    refine j_lload C 2 dX5_in_7 rfl ?_
    refine j_lif_gt (tgt := 17) C (by omega) (by omega) dX5_in_9 dX5_in_10 (by decide) (fun c9 => ?_) (fun c9 => ?_)
    · refine j_iconst C dX5_in_17 ?_
      exact j_zret C hr hlk rfl dX5_in_18 ⟨rfl, rfl⟩ (by decide) (by decide)
    · exact absurd hin9 (by omega)

theorem c_X5_isBlock_t (l : Launch) (g : Gh) (b : Int) (hx : 0 ≤ b ∧ b ≤ 3) : CT l g yX5_isBlock cX5_isBlock 1 (some FieldType.boolean) ({ frames := 1, cells := 0, slots := 0, locals := 25 }) [.int (iI b)] [] (PE (some (.int (iI 1))) []) := by
  refine CT.intro (L0 := [(0, .int (iI b))]) (own := RX5) (by decide) rfl (Nat.le_of_ble_eq_true rfl) rfl ?_
  intro pX eX sX mX argsX belowX methX cX A C hr hlk
  refine j_iload_n C 0 dX5_isBlock_0 rfl rfl ?_
  refine j_i2l C (by omega) dX5_isBlock_1 ?_
  refine j_lconst (v := 0) C dX5_isBlock_2 rfl ?_
  refine j_ldc2 (x := 3) C qw717 (by decide) dX5_isBlock_3 ?_
  refine j_callS (As := [.long (lI b), .long (lI 0), .long (lI 3)]) (rest := []) C ys_X5_in qw718 (c_X5_in_t l g b 0 3 (by omega) (by omega) (by omega) (by omega)) (by decide) rfl dX5_isBlock_6 rfl (Nat.le_of_ble_eq_true rfl) (by decide) (pf1 [] []) rfl (fun r9 w9 hq9 => ?_)
  obtain ⟨rfl, rfl⟩ := hq9
  refine J.to (L1 := [(0, .int (iI b))]) (S1 := [.int (iI 1)]) (ws1 := []) rfl rfl rfl ?_
  exact j_zret C hr hlk rfl dX5_isBlock_9 ⟨rfl, rfl⟩ (by decide) (by decide)

theorem c_X5_isBlock_f (l : Launch) (g : Gh) (b : Int) (hr : -2147483648 ≤ b ∧ b < 2147483648) (hx : b < 0 ∨ 3 < b) : CT l g yX5_isBlock cX5_isBlock 1 (some FieldType.boolean) ({ frames := 1, cells := 0, slots := 0, locals := 25 }) [.int (iI b)] [] (PE (some (.int (iI 0))) []) := by
  refine CT.intro (L0 := [(0, .int (iI b))]) (own := RX5) (by decide) rfl (Nat.le_of_ble_eq_true rfl) rfl ?_
  intro pX eX sX mX argsX belowX methX cX A C hr hlk
  refine j_iload_n C 0 dX5_isBlock_0 rfl rfl ?_
  refine j_i2l C (by omega) dX5_isBlock_1 ?_
  refine j_lconst (v := 0) C dX5_isBlock_2 rfl ?_
  refine j_ldc2 (x := 3) C qw717 (by decide) dX5_isBlock_3 ?_
  refine j_callS (As := [.long (lI b), .long (lI 0), .long (lI 3)]) (rest := []) C ys_X5_in qw718 (c_X5_in_f l g b 0 3 (by omega) (by omega) (by omega) (by omega)) (by decide) rfl dX5_isBlock_6 rfl (Nat.le_of_ble_eq_true rfl) (by decide) (pf1 [] []) rfl (fun r9 w9 hq9 => ?_)
  obtain ⟨rfl, rfl⟩ := hq9
  refine J.to (L1 := [(0, .int (iI b))]) (S1 := [.int (iI 0)]) (ws1 := []) rfl rfl rfl ?_
  exact j_zret C hr hlk rfl dX5_isBlock_9 ⟨rfl, rfl⟩ (by decide) (by decide)

theorem c_X5_isForce_t (l : Launch) (g : Gh) (f : Int) (hx : 0 ≤ f ∧ f ≤ 1000000) : CT l g yX5_isForce cX5_isForce 1 (some FieldType.boolean) ({ frames := 1, cells := 0, slots := 0, locals := 25 }) [.int (iI f)] [] (PE (some (.int (iI 1))) []) := by
  refine CT.intro (L0 := [(0, .int (iI f))]) (own := RX5) (by decide) rfl (Nat.le_of_ble_eq_true rfl) rfl ?_
  intro pX eX sX mX argsX belowX methX cX A C hr hlk
  refine j_iload_n C 0 dX5_isForce_0 rfl rfl ?_
  refine j_i2l C (by omega) dX5_isForce_1 ?_
  refine j_lconst (v := 0) C dX5_isForce_2 rfl ?_
  refine j_ldc2 (x := 1000000) C qw789 (by decide) dX5_isForce_3 ?_
  refine j_callS (As := [.long (lI f), .long (lI 0), .long (lI 1000000)]) (rest := []) C ys_X5_in qw718 (c_X5_in_t l g f 0 1000000 (by omega) (by omega) (by omega) (by omega)) (by decide) rfl dX5_isForce_6 rfl (Nat.le_of_ble_eq_true rfl) (by decide) (pf1 [] []) rfl (fun r9 w9 hq9 => ?_)
  obtain ⟨rfl, rfl⟩ := hq9
  refine J.to (L1 := [(0, .int (iI f))]) (S1 := [.int (iI 1)]) (ws1 := []) rfl rfl rfl ?_
  exact j_zret C hr hlk rfl dX5_isForce_9 ⟨rfl, rfl⟩ (by decide) (by decide)

theorem c_X5_isForce_f (l : Launch) (g : Gh) (f : Int) (hr : -2147483648 ≤ f ∧ f < 2147483648) (hx : f < 0 ∨ 1000000 < f) : CT l g yX5_isForce cX5_isForce 1 (some FieldType.boolean) ({ frames := 1, cells := 0, slots := 0, locals := 25 }) [.int (iI f)] [] (PE (some (.int (iI 0))) []) := by
  refine CT.intro (L0 := [(0, .int (iI f))]) (own := RX5) (by decide) rfl (Nat.le_of_ble_eq_true rfl) rfl ?_
  intro pX eX sX mX argsX belowX methX cX A C hr hlk
  refine j_iload_n C 0 dX5_isForce_0 rfl rfl ?_
  refine j_i2l C (by omega) dX5_isForce_1 ?_
  refine j_lconst (v := 0) C dX5_isForce_2 rfl ?_
  refine j_ldc2 (x := 1000000) C qw789 (by decide) dX5_isForce_3 ?_
  refine j_callS (As := [.long (lI f), .long (lI 0), .long (lI 1000000)]) (rest := []) C ys_X5_in qw718 (c_X5_in_f l g f 0 1000000 (by omega) (by omega) (by omega) (by omega)) (by decide) rfl dX5_isForce_6 rfl (Nat.le_of_ble_eq_true rfl) (by decide) (pf1 [] []) rfl (fun r9 w9 hq9 => ?_)
  obtain ⟨rfl, rfl⟩ := hq9
  refine J.to (L1 := [(0, .int (iI f))]) (S1 := [.int (iI 0)]) (ws1 := []) rfl rfl rfl ?_
  exact j_zret C hr hlk rfl dX5_isForce_9 ⟨rfl, rfl⟩ (by decide) (by decide)

theorem c_X5_fails (l : Launch) (g : Gh) (u : Nat → Nat) (v : Nat → Int) (sv ln th ap rm rd nw hh : Int) (x : Int)  : CT l g yX5_fails cX5_fails 2 (some FieldType.int) ({ frames := 0, cells := 0, slots := 0, locals := 0 }) [.ref (u 0), .int (iI x)] [(u 0, .inr (5, [.ref (u 1), .ref (u 2), .ref (u 3), .int (iI sv), .ref (u 4), .int (iI ln), .int (iI th), .int (iI ap), .int (iI rm), .ref (u 5), .int (iI rd), .int (iI nw), .ref (u 6), .long (lI hh)]))] (PE (some (.int (iI 0))) [(u 0, .inr (5, [.ref (u 1), .ref (u 2), .ref (u 3), .int (iI sv), .ref (u 4), .int (iI ln), .int (iI x), .int (iI ap), .int (iI rm), .ref (u 5), .int (iI rd), .int (iI nw), .ref (u 6), .long (lI hh)]))]) := by
  refine CT.intro (L0 := [(0, .ref (u 0)), (1, .int (iI x))]) (own := RX5) (by decide) rfl (Nat.le_of_ble_eq_true rfl) rfl ?_
  intro pX eX sX mX argsX belowX methX cX A C hr hlk
  refine j_aload_n C 0 dX5_fails_0 rfl rfl ?_
  refine j_iload_n C 1 dX5_fails_1 rfl rfl ?_
  refine j_put (ws1 := [(u 0, .inr (5, [.ref (u 1), .ref (u 2), .ref (u 3), .int (iI sv), .ref (u 4), .int (iI ln), .int (iI x), .int (iI ap), .int (iI rm), .ref (u 5), .int (iI rd), .int (iI nw), .ref (u 6), .long (lI hh)]))]) C ck5 0 6 (by decide) qw668 rfl dX5_fails_2 rfl rfl rfl rfl (Nat.le_of_ble_eq_true rfl) ?_
  refine j_iconst C dX5_fails_5 ?_
  exact j_iret C hr hlk dX5_fails_6 ⟨rfl, rfl⟩ (by decide) (by decide)

theorem c_X5_tells (l : Launch) (g : Gh) (u : Nat → Nat) (v : Nat → Int) (sv ln th ap rm rd nw hh : Int) (x : Int)  : CT l g yX5_tells cX5_tells 2 (some FieldType.int) ({ frames := 0, cells := 0, slots := 0, locals := 0 }) [.ref (u 0), .int (iI x)] [(u 0, .inr (5, [.ref (u 1), .ref (u 2), .ref (u 3), .int (iI sv), .ref (u 4), .int (iI ln), .int (iI th), .int (iI ap), .int (iI rm), .ref (u 5), .int (iI rd), .int (iI nw), .ref (u 6), .long (lI hh)]))] (PE (some (.int (iI x))) [(u 0, .inr (5, [.ref (u 1), .ref (u 2), .ref (u 3), .int (iI sv), .ref (u 4), .int (iI ln), .int (iI 0), .int (iI ap), .int (iI rm), .ref (u 5), .int (iI rd), .int (iI nw), .ref (u 6), .long (lI hh)]))]) := by
  refine CT.intro (L0 := [(0, .ref (u 0)), (1, .int (iI x))]) (own := RX5) (by decide) rfl (Nat.le_of_ble_eq_true rfl) rfl ?_
  intro pX eX sX mX argsX belowX methX cX A C hr hlk
  refine j_aload_n C 0 dX5_tells_0 rfl rfl ?_
  refine j_iconst C dX5_tells_1 ?_
  refine j_put (ws1 := [(u 0, .inr (5, [.ref (u 1), .ref (u 2), .ref (u 3), .int (iI sv), .ref (u 4), .int (iI ln), .int (iI 0), .int (iI ap), .int (iI rm), .ref (u 5), .int (iI rd), .int (iI nw), .ref (u 6), .long (lI hh)]))]) C ck5 0 6 (by decide) qw668 rfl dX5_tells_2 rfl rfl rfl rfl (Nat.le_of_ble_eq_true rfl) ?_
  refine j_iload_n C 1 dX5_tells_5 rfl rfl ?_
  exact j_iret C hr hlk dX5_tells_6 ⟨rfl, rfl⟩ (by decide) (by decide)

theorem c_X5_thrown (l : Launch) (g : Gh) (u : Nat → Nat) (v : Nat → Int) (sv ln th ap rm rd nw hh : Int)  : CT l g yX5_thrown cX5_thrown 1 (some FieldType.int) ({ frames := 0, cells := 0, slots := 0, locals := 0 }) [.ref (u 0)] [(u 0, .inr (5, [.ref (u 1), .ref (u 2), .ref (u 3), .int (iI sv), .ref (u 4), .int (iI ln), .int (iI th), .int (iI ap), .int (iI rm), .ref (u 5), .int (iI rd), .int (iI nw), .ref (u 6), .long (lI hh)]))] (PE (some (.int (iI th))) [(u 0, .inr (5, [.ref (u 1), .ref (u 2), .ref (u 3), .int (iI sv), .ref (u 4), .int (iI ln), .int (iI th), .int (iI ap), .int (iI rm), .ref (u 5), .int (iI rd), .int (iI nw), .ref (u 6), .long (lI hh)]))]) := by
  refine CT.intro (L0 := [(0, .ref (u 0))]) (own := RX5) (by decide) rfl (Nat.le_of_ble_eq_true rfl) rfl ?_
  intro pX eX sX mX argsX belowX methX cX A C hr hlk
  refine j_aload_n C 0 dX5_thrown_0 rfl rfl ?_
  refine j_get C ck5 0 6 (by decide) qw668 rfl rfl dX5_thrown_1 ?_
  exact j_iret C hr hlk dX5_thrown_4 ⟨rfl, rfl⟩ (by decide) (by decide)

theorem lm_pulleysOn {p : Program} {l : Launch} {e : Env} {s : State} {m : MethodId} {args : Array Value} {below : List Frame} {meth : Method} {c : Code} {g : Gh} {A : Nat → Prop} {Q : State → Prop} (C : Cx p g s m args c cX5_pulleysOn 4 RX5 A) {u : Nat → Nat} {v : Nat → Int} {sv ln th ap rm rd nw hh : Int} {b : Int} (hm : MOK v) (hb : -10 ≤ b ∧ b ≤ 10) (kk : J p l e ({ frames := 0, cells := 0, slots := 0, locals := 0 } : Room) s m args below meth c g A 4 45 [(0, .ref (u 0)), (2, .int (iI (cnt (vR v) b (v 2).toNat)))] [] [(u 0, .inr (5, [.ref (u 1), .ref (u 2), .ref (u 3), .int (iI sv), .ref (u 4), .int (iI ln), .int (iI th), .int (iI ap), .int (iI rm), .ref (u 5), .int (iI rd), .int (iI nw), .ref (u 6), .long (lI hh)])), (u 1, aL g 75 v)] 0 0 Q) : ∀ (n i : Nat), (i : Int) + n = v 2 → J p l e ({ frames := 0, cells := 0, slots := 0, locals := 0 } : Room) s m args below meth c g A 4 4 [(0, .ref (u 0)), (1, .int (iI b)), (2, .int (iI (cnt (vR v) b i))), (3, .int (iI ((i : Int))))] [] [(u 0, .inr (5, [.ref (u 1), .ref (u 2), .ref (u 3), .int (iI sv), .ref (u 4), .int (iI ln), .int (iI th), .int (iI ap), .int (iI rm), .ref (u 5), .int (iI rd), .int (iI nw), .ref (u 6), .long (lI hh)])), (u 1, aL g 75 v)] 0 0 Q := by
  intro n
  induction n with
  | zero =>
    intro i hi
    obtain ⟨hP, hE0, hF, hrow0, hwt, hht, hlen, hent⟩ := id hm
    have hE : -10 ≤ v 3 ∧ v 3 ≤ 10 := by omega
    have hrow : ∀ i : Nat, (i : Int) < v 2 → 0 ≤ vR v i ∧ vR v i ≤ 4 := fun i hi => by have := hrow0 i hi; omega
    refine j_iload_n C 3 dX5_pulleysOn_4 rfl rfl ?_
    refine j_i2l C (by omega) dX5_pulleysOn_5 ?_
    refine j_aload_n C 0 dX5_pulleysOn_6 rfl rfl ?_
    refine j_get C ck5 0 0 (by decide) qw662 rfl rfl dX5_pulleysOn_7 ?_
    refine j_iconst C dX5_pulleysOn_10 ?_
    refine j_lald (n := 75) (f := v) C 1 2 rfl rfl (by decide) (by decide) dX5_pulleysOn_11 ?_
    refine j_lif_ge (tgt := 45) C (by omega) (by omega) dX5_pulleysOn_12 dX5_pulleysOn_13 (by decide) (fun c12 => ?_) (fun c12 => absurd c12 (by omega))
    refine J.sub (L1 := [(0, .ref (u 0)), (2, .int (iI (cnt (vR v) b i)))]) [0, 2] rfl ?_
    rw [show i = (v 2).toNat by omega]
    exact kk
  | succ n ih =>
    intro i hi
    obtain ⟨hP, hE0, hF, hrow0, hwt, hht, hlen, hent⟩ := id hm
    have hE : -10 ≤ v 3 ∧ v 3 ≤ 10 := by omega
    have hrow : ∀ i : Nat, (i : Int) < v 2 → 0 ≤ vR v i ∧ vR v i ≤ 4 := fun i hi => by have := hrow0 i hi; omega
    have hr9 := hrow i (by omega)
    have hr8 : v (17 + i) = vR v i := rfl
    refine j_iload_n C 3 dX5_pulleysOn_4 rfl rfl ?_
    refine j_i2l C (by omega) dX5_pulleysOn_5 ?_
    refine j_aload_n C 0 dX5_pulleysOn_6 rfl rfl ?_
    refine j_get C ck5 0 0 (by decide) qw662 rfl rfl dX5_pulleysOn_7 ?_
    refine j_iconst C dX5_pulleysOn_10 ?_
    refine j_lald (n := 75) (f := v) C 1 2 rfl rfl (by decide) (by decide) dX5_pulleysOn_11 ?_
    refine j_lif_ge (tgt := 45) C (by omega) (by omega) dX5_pulleysOn_12 dX5_pulleysOn_13 (by decide) (fun c12 => absurd c12 (by omega)) (fun c12 => ?_)
    refine j_iload_n C 2 dX5_pulleysOn_16 rfl rfl ?_
    refine j_aload_n C 0 dX5_pulleysOn_17 rfl rfl ?_
    refine j_get C ck5 0 0 (by decide) qw662 rfl rfl dX5_pulleysOn_18 ?_
    refine j_bipush C dX5_pulleysOn_21 (by decide) ?_
    refine j_iload_n C 3 dX5_pulleysOn_23 rfl rfl ?_
    refine j_iadd C dX5_pulleysOn_24 ?_
    refine j_lald (n := 75) (f := v) C 1 (17 + i) rfl (by omega) (by omega) (by decide) dX5_pulleysOn_25 ?_
    refine j_iload_n C 1 dX5_pulleysOn_26 rfl rfl ?_
    refine j_i2l C (by omega) dX5_pulleysOn_27 ?_
    refine j_lif_ne (tgt := 36) C (by omega) (by omega) dX5_pulleysOn_28 dX5_pulleysOn_29 (by decide) (fun c28 => ?_) (fun c28 => ?_)
    · refine j_iconst C dX5_pulleysOn_36 ?_
      refine j_iadd C dX5_pulleysOn_37 ?_
      refine j_istore_n (L1 := [(2, .int (iI ((cnt (vR v) b i) + 0))), (0, .ref (u 0)), (1, .int (iI b)), (3, .int (iI ((i : Int))))]) C dX5_pulleysOn_38 rfl (by decide) rfl ?_
      refine j_iinc (L1 := [(3, .int (iI (((i : Int)) + 1))), (2, .int (iI ((cnt (vR v) b i) + 0))), (0, .ref (u 0)), (1, .int (iI b))]) C 3 dX5_pulleysOn_39 rfl (by decide) rfl ?_
      refine j_goto (tgt := 4) C dX5_pulleysOn_42 (by decide) ?_
      refine J.sub (L1 := [(0, .ref (u 0)), (1, .int (iI b)), (2, .int (iI ((cnt (vR v) b i) + 0))), (3, .int (iI (((i : Int)) + 1)))]) [2, 3, 1, 0] rfl ?_
      have h9 := ih (i + 1) (by omega)
      rw [show cnt (vR v) b (i + 1) = cnt (vR v) b i + 0 by simp only [cnt]; rw [if_neg c28]] at h9
      exact h9
    · refine j_iconst C dX5_pulleysOn_32 ?_
      refine j_goto (tgt := 37) C dX5_pulleysOn_33 (by decide) ?_
      refine j_iadd C dX5_pulleysOn_37 ?_
      refine j_istore_n (L1 := [(2, .int (iI ((cnt (vR v) b i) + 1))), (0, .ref (u 0)), (1, .int (iI b)), (3, .int (iI ((i : Int))))]) C dX5_pulleysOn_38 rfl (by decide) rfl ?_
      refine j_iinc (L1 := [(3, .int (iI (((i : Int)) + 1))), (2, .int (iI ((cnt (vR v) b i) + 1))), (0, .ref (u 0)), (1, .int (iI b))]) C 3 dX5_pulleysOn_39 rfl (by decide) rfl ?_
      refine j_goto (tgt := 4) C dX5_pulleysOn_42 (by decide) ?_
      refine J.sub (L1 := [(0, .ref (u 0)), (1, .int (iI b)), (2, .int (iI ((cnt (vR v) b i) + 1))), (3, .int (iI (((i : Int)) + 1)))]) [2, 3, 1, 0] rfl ?_
      have h9 := ih (i + 1) (by omega)
      rw [show cnt (vR v) b (i + 1) = cnt (vR v) b i + 1 by simp only [cnt]; rw [if_pos c28]] at h9
      exact h9

theorem c_X5_pulleysOn (l : Launch) (g : Gh) (u : Nat → Nat) (v : Nat → Int) (sv ln th ap rm rd nw hh : Int) (b : Int) (hm : MOK v) (hb : -10 ≤ b ∧ b ≤ 10) : CT l g yX5_pulleysOn cX5_pulleysOn 4 (some FieldType.int) ({ frames := 0, cells := 0, slots := 0, locals := 0 }) [.ref (u 0), .int (iI b)] [(u 0, .inr (5, [.ref (u 1), .ref (u 2), .ref (u 3), .int (iI sv), .ref (u 4), .int (iI ln), .int (iI th), .int (iI ap), .int (iI rm), .ref (u 5), .int (iI rd), .int (iI nw), .ref (u 6), .long (lI hh)])), (u 1, aL g 75 v)] (PE (some (.int (iI (cnt (vR v) b (v 2).toNat)))) [(u 0, .inr (5, [.ref (u 1), .ref (u 2), .ref (u 3), .int (iI sv), .ref (u 4), .int (iI ln), .int (iI th), .int (iI ap), .int (iI rm), .ref (u 5), .int (iI rd), .int (iI nw), .ref (u 6), .long (lI hh)])), (u 1, aL g 75 v)]) := by
  refine CT.intro (L0 := [(0, .ref (u 0)), (1, .int (iI b))]) (own := RX5) (by decide) rfl (Nat.le_of_ble_eq_true rfl) rfl ?_
  intro pX eX sX mX argsX belowX methX cX A C hr hlk
  obtain ⟨hP, hE0, hF, hrow0, hwt, hht, hlen, hent⟩ := id hm
  have hE : -10 ≤ v 3 ∧ v 3 ≤ 10 := by omega
  have hrow : ∀ i : Nat, (i : Int) < v 2 → 0 ≤ vR v i ∧ vR v i ≤ 4 := fun i hi => by have := hrow0 i hi; omega
  refine j_iconst C dX5_pulleysOn_0 ?_
  refine j_istore_n (L1 := [(2, .int (iI 0)), (0, .ref (u 0)), (1, .int (iI b))]) C dX5_pulleysOn_1 rfl (by decide) rfl ?_
  refine j_iconst C dX5_pulleysOn_2 ?_
  refine j_istore_n (L1 := [(3, .int (iI 0)), (2, .int (iI 0)), (0, .ref (u 0)), (1, .int (iI b))]) C dX5_pulleysOn_3 rfl (by decide) rfl ?_
  refine J.sub (L1 := [(0, .ref (u 0)), (1, .int (iI b)), (2, .int (iI 0)), (3, .int (iI 0))]) [2, 3, 1, 0] rfl ?_
  refine lm_pulleysOn C hm hb ?_ (v 2).toNat 0 (by omega)
  refine j_iload_n C 1 dX5_pulleysOn_45 rfl rfl ?_
  exact j_iret C hr hlk dX5_pulleysOn_46 ⟨rfl, rfl⟩ (by decide) (by decide)

theorem c_X5_strands (l : Launch) (g : Gh) (u : Nat → Nat) (v : Nat → Int) (sv ln th ap rm rd nw hh : Int) (b : Int) (hm : MOK v) (hb : -10 ≤ b ∧ b ≤ 10) : CT l g yX5_strands cX5_strands 2 (some FieldType.int) ({ frames := 1, cells := 0, slots := 0, locals := 23 }) [.ref (u 0), .int (iI b)] [(u 0, .inr (5, [.ref (u 1), .ref (u 2), .ref (u 3), .int (iI sv), .ref (u 4), .int (iI ln), .int (iI th), .int (iI ap), .int (iI rm), .ref (u 5), .int (iI rd), .int (iI nw), .ref (u 6), .long (lI hh)])), (u 1, aL g 75 v)] (PE (some (.int (iI (strV v b)))) [(u 0, .inr (5, [.ref (u 1), .ref (u 2), .ref (u 3), .int (iI sv), .ref (u 4), .int (iI ln), .int (iI th), .int (iI ap), .int (iI rm), .ref (u 5), .int (iI rd), .int (iI nw), .ref (u 6), .long (lI hh)])), (u 1, aL g 75 v)]) := by
  refine CT.intro (L0 := [(0, .ref (u 0)), (1, .int (iI b))]) (own := RX5) (by decide) rfl (Nat.le_of_ble_eq_true rfl) rfl ?_
  intro pX eX sX mX argsX belowX methX cX A C hr hlk
  obtain ⟨hP, hE0, hF, hrow0, hwt, hht, hlen, hent⟩ := id hm
  have hE : -10 ≤ v 3 ∧ v 3 ≤ 10 := by omega
  have hrow : ∀ i : Nat, (i : Int) < v 2 → 0 ≤ vR v i ∧ vR v i ≤ 4 := fun i hi => by have := hrow0 i hi; omega
  refine j_iconst C dX5_strands_0 ?_
  refine j_aload_n C 0 dX5_strands_1 rfl rfl ?_
  refine j_iload_n C 1 dX5_strands_2 rfl rfl ?_
  refine j_callV (As := [.int (iI b)]) (rest := [.int (iI 2)]) C yv_X5_pulleysOn qw756 (c_X5_pulleysOn l g u v sv ln th ap rm rd nw hh b hm (by omega)) (by decide) 0 rfl rfl rfl dX5_strands_3 rfl (Nat.le_of_ble_eq_true rfl) (by decide) pf0 rfl (fun r9 w9 hq9 => ?_)
  obtain ⟨rfl, rfl⟩ := hq9
  refine J.to (L1 := [(0, .ref (u 0)), (1, .int (iI b))]) (S1 := [.int (iI (cnt (vR v) b (v 2).toNat)), .int (iI 2)]) (ws1 := [(u 0, .inr (5, [.ref (u 1), .ref (u 2), .ref (u 3), .int (iI sv), .ref (u 4), .int (iI ln), .int (iI th), .int (iI ap), .int (iI rm), .ref (u 5), .int (iI rd), .int (iI nw), .ref (u 6), .long (lI hh)])), (u 1, aL g 75 v)]) rfl rfl rfl ?_
  refine j_imul C dX5_strands_6 ?_
  refine j_aload_n C 0 dX5_strands_7 rfl rfl ?_
  refine j_get C ck5 0 0 (by decide) qw662 rfl rfl dX5_strands_8 ?_
  refine j_iconst C dX5_strands_11 ?_
  refine j_lald (n := 75) (f := v) C 1 3 rfl rfl (by decide) (by decide) dX5_strands_12 ?_
  refine j_iload_n C 1 dX5_strands_13 rfl rfl ?_
  refine j_i2l C (by omega) dX5_strands_14 ?_
  refine j_lif_ne (tgt := 23) C (by omega) (by omega) dX5_strands_15 dX5_strands_16 (by decide) (fun c15 => ?_) (fun c15 => ?_)
  · refine j_iconst C dX5_strands_23 ?_
    refine j_iadd C dX5_strands_24 ?_
    exact j_iret C hr hlk dX5_strands_25 ⟨by rw [strV, strn, if_neg c15], rfl⟩ (by decide) (by decide)
  · refine j_iconst C dX5_strands_19 ?_
    refine j_goto (tgt := 24) C dX5_strands_20 (by decide) ?_
    refine j_iadd C dX5_strands_24 ?_
    exact j_iret C hr hlk dX5_strands_25 ⟨by rw [strV, strn, if_pos c15], rfl⟩ (by decide) (by decide)

theorem lm_hanging {p : Program} {l : Launch} {e : Env} {s : State} {m : MethodId} {args : Array Value} {below : List Frame} {meth : Method} {c : Code} {g : Gh} {A : Nat → Prop} {Q : State → Prop} (C : Cx p g s m args c cX5_hanging 3 RX5 A) {u : Nat → Nat} {v : Nat → Int} {sv ln th ap rm rd nw hh : Int} (hm : MOK v) (kk : J p l e ({ frames := 2, cells := 0, slots := 0, locals := 44 } : Room) s m args below meth c g A 3 38 [(1, .int (iI (hng (vR v) (v 2).toNat (v 3) (vH v) 4)))] [] [(u 0, .inr (5, [.ref (u 1), .ref (u 2), .ref (u 3), .int (iI sv), .ref (u 4), .int (iI ln), .int (iI th), .int (iI ap), .int (iI rm), .ref (u 5), .int (iI rd), .int (iI nw), .ref (u 6), .long (lI hh)])), (u 1, aL g 75 v)] 0 0 Q) : ∀ (n i : Nat), i + n = 4 → J p l e ({ frames := 2, cells := 0, slots := 0, locals := 44 } : Room) s m args below meth c g A 3 4 [(0, .ref (u 0)), (1, .int (iI (hng (vR v) (v 2).toNat (v 3) (vH v) i))), (2, .int (iI ((i : Int))))] [] [(u 0, .inr (5, [.ref (u 1), .ref (u 2), .ref (u 3), .int (iI sv), .ref (u 4), .int (iI ln), .int (iI th), .int (iI ap), .int (iI rm), .ref (u 5), .int (iI rd), .int (iI nw), .ref (u 6), .long (lI hh)])), (u 1, aL g 75 v)] 0 0 Q := by
  intro n
  induction n with
  | zero =>
    intro i hi
    refine j_iload_n C 2 dX5_hanging_4 rfl rfl ?_
    refine j_iconst C dX5_hanging_5 ?_
    refine j_icmp_ge (tgt := 38) C (by omega) (by decide) dX5_hanging_6 (by decide) (fun c6 => ?_) (fun c6 => absurd c6 (by omega))
    refine J.sub (L1 := [(1, .int (iI (hng (vR v) (v 2).toNat (v 3) (vH v) i)))]) [1] rfl ?_
    rw [show i = 4 by omega]
    exact kk
  | succ n ih =>
    intro i hi
    obtain ⟨hP, hE0, hF, hrow0, hwt, hht, hlen, hent⟩ := id hm
    have hE : -10 ≤ v 3 ∧ v 3 ≤ 10 := by omega
    have hrow : ∀ i : Nat, (i : Int) < v 2 → 0 ≤ vR v i ∧ vR v i ≤ 4 := fun i hi => by have := hrow0 i hi; omega
    refine j_iload_n C 2 dX5_hanging_4 rfl rfl ?_
    refine j_iconst C dX5_hanging_5 ?_
    refine j_icmp_ge (tgt := 38) C (by omega) (by decide) dX5_hanging_6 (by decide) (fun c6 => absurd c6 (by omega)) (fun c6 => ?_)
    refine j_iload_n C 1 dX5_hanging_9 rfl rfl ?_
    refine j_aload_n C 0 dX5_hanging_10 rfl rfl ?_
    refine j_iload_n C 2 dX5_hanging_11 rfl rfl ?_
    refine j_callV (As := [.int (iI ((i : Int)))]) (rest := [.int (iI (hng (vR v) (v 2).toNat (v 3) (vH v) i))]) C yv_X5_strands qw752 (c_X5_strands l g u v sv ln th ap rm rd nw hh ((i : Int)) hm (by omega)) (by decide) 0 rfl rfl rfl dX5_hanging_12 rfl (Nat.le_of_ble_eq_true rfl) (by decide) pf0 rfl (fun r9 w9 hq9 => ?_)
    obtain ⟨rfl, rfl⟩ := hq9
    refine J.to (L1 := [(0, .ref (u 0)), (1, .int (iI (hng (vR v) (v 2).toNat (v 3) (vH v) i))), (2, .int (iI ((i : Int))))]) (S1 := [.int (iI (strV v ((i : Int)))), .int (iI (hng (vR v) (v 2).toNat (v 3) (vH v) i))]) (ws1 := [(u 0, .inr (5, [.ref (u 1), .ref (u 2), .ref (u 3), .int (iI sv), .ref (u 4), .int (iI ln), .int (iI th), .int (iI ap), .int (iI rm), .ref (u 5), .int (iI rd), .int (iI nw), .ref (u 6), .long (lI hh)])), (u 1, aL g 75 v)]) rfl rfl rfl ?_
    refine j_sipush C dX5_hanging_15 (by decide) ?_
    refine j_aload_n C 0 dX5_hanging_18 rfl rfl ?_
    refine j_get C ck5 0 0 (by decide) qw662 rfl rfl dX5_hanging_19 ?_
    refine j_bipush C dX5_hanging_22 (by decide) ?_
    refine j_iload_n C 2 dX5_hanging_24 rfl rfl ?_
    refine j_iadd C dX5_hanging_25 ?_
    refine j_lald (n := 75) (f := v) C 1 (13 + i) rfl (by omega) (by omega) (by decide) dX5_hanging_26 ?_
    refine j_l2i C dX5_hanging_27 ?_
    refine j_isub C dX5_hanging_28 ?_
    refine j_imul C dX5_hanging_29 ?_
    refine j_iadd C dX5_hanging_30 ?_
    refine j_istore_n (L1 := [(1, .int (iI ((hng (vR v) (v 2).toNat (v 3) (vH v) i) + ((strV v ((i : Int))) * (10000 - (v (13 + i))))))), (0, .ref (u 0)), (2, .int (iI ((i : Int))))]) C dX5_hanging_31 rfl (by decide) rfl ?_
    refine j_iinc (L1 := [(2, .int (iI (((i : Int)) + 1))), (1, .int (iI ((hng (vR v) (v 2).toNat (v 3) (vH v) i) + ((strV v ((i : Int))) * (10000 - (v (13 + i))))))), (0, .ref (u 0))]) C 2 dX5_hanging_32 rfl (by decide) rfl ?_
    refine j_goto (tgt := 4) C dX5_hanging_35 (by decide) ?_
    refine J.sub (L1 := [(0, .ref (u 0)), (1, .int (iI ((hng (vR v) (v 2).toNat (v 3) (vH v) i) + ((strV v ((i : Int))) * (10000 - (v (13 + i))))))), (2, .int (iI (((i : Int)) + 1)))]) [2, 1, 0] rfl ?_
    exact ih (i + 1) (by omega)

theorem c_X5_hanging (l : Launch) (g : Gh) (u : Nat → Nat) (v : Nat → Int) (sv ln th ap rm rd nw hh : Int) (hm : MOK v) : CT l g yX5_hanging cX5_hanging 3 (some FieldType.int) ({ frames := 2, cells := 0, slots := 0, locals := 44 }) [.ref (u 0)] [(u 0, .inr (5, [.ref (u 1), .ref (u 2), .ref (u 3), .int (iI sv), .ref (u 4), .int (iI ln), .int (iI th), .int (iI ap), .int (iI rm), .ref (u 5), .int (iI rd), .int (iI nw), .ref (u 6), .long (lI hh)])), (u 1, aL g 75 v)] (PE (some (.int (iI (hanV v)))) [(u 0, .inr (5, [.ref (u 1), .ref (u 2), .ref (u 3), .int (iI sv), .ref (u 4), .int (iI ln), .int (iI th), .int (iI ap), .int (iI rm), .ref (u 5), .int (iI rd), .int (iI nw), .ref (u 6), .long (lI hh)])), (u 1, aL g 75 v)]) := by
  refine CT.intro (L0 := [(0, .ref (u 0))]) (own := RX5) (by decide) rfl (Nat.le_of_ble_eq_true rfl) rfl ?_
  intro pX eX sX mX argsX belowX methX cX A C hr hlk
  obtain ⟨hP, hE0, hF, hrow0, hwt, hht, hlen, hent⟩ := id hm
  have hE : -10 ≤ v 3 ∧ v 3 ≤ 10 := by omega
  have hrow : ∀ i : Nat, (i : Int) < v 2 → 0 ≤ vR v i ∧ vR v i ≤ 4 := fun i hi => by have := hrow0 i hi; omega
  refine j_iconst C dX5_hanging_0 ?_
  refine j_istore_n (L1 := [(1, .int (iI 0)), (0, .ref (u 0))]) C dX5_hanging_1 rfl (by decide) rfl ?_
  refine j_iconst C dX5_hanging_2 ?_
  refine j_istore_n (L1 := [(2, .int (iI 0)), (1, .int (iI 0)), (0, .ref (u 0))]) C dX5_hanging_3 rfl (by decide) rfl ?_
  refine J.sub (L1 := [(0, .ref (u 0)), (1, .int (iI 0)), (2, .int (iI 0))]) [2, 1, 0] rfl ?_
  refine lm_hanging C hm ?_ 4 0 (by omega)
  refine j_iload_n C 0 dX5_hanging_38 rfl rfl ?_
  exact j_iret C hr hlk dX5_hanging_39 ⟨rfl, rfl⟩ (by decide) (by decide)

theorem c_X5_inHand (l : Launch) (g : Gh) (u : Nat → Nat) (v : Nat → Int) (sv ln th ap rm rd nw hh : Int) (hm : MOK v) : CT l g yX5_inHand cX5_inHand 1 (some FieldType.int) ({ frames := 3, cells := 0, slots := 0, locals := 66 }) [.ref (u 0)] [(u 0, .inr (5, [.ref (u 1), .ref (u 2), .ref (u 3), .int (iI sv), .ref (u 4), .int (iI ln), .int (iI th), .int (iI ap), .int (iI rm), .ref (u 5), .int (iI rd), .int (iI nw), .ref (u 6), .long (lI hh)])), (u 1, aL g 75 v)] (PE (some (.int (iI (hndV v)))) [(u 0, .inr (5, [.ref (u 1), .ref (u 2), .ref (u 3), .int (iI sv), .ref (u 4), .int (iI ln), .int (iI th), .int (iI ap), .int (iI rm), .ref (u 5), .int (iI rd), .int (iI nw), .ref (u 6), .long (lI hh)])), (u 1, aL g 75 v)]) := by
  refine CT.intro (L0 := [(0, .ref (u 0))]) (own := RX5) (by decide) rfl (Nat.le_of_ble_eq_true rfl) rfl ?_
  intro pX eX sX mX argsX belowX methX cX A C hr hlk
  obtain ⟨hP, hE0, hF, hrow0, hwt, hht, hlen, hent⟩ := id hm
  have hE : -10 ≤ v 3 ∧ v 3 ≤ 10 := by omega
  have hrow : ∀ i : Nat, (i : Int) < v 2 → 0 ≤ vR v i ∧ vR v i ≤ 4 := fun i hi => by have := hrow0 i hi; omega
  refine j_aload_n C 0 dX5_inHand_0 rfl rfl ?_
  refine j_get C ck5 0 0 (by decide) qw662 rfl rfl dX5_inHand_1 ?_
  refine j_iconst C dX5_inHand_4 ?_
  refine j_lald (n := 75) (f := v) C 1 0 rfl rfl (by decide) (by decide) dX5_inHand_5 ?_
  refine j_l2i C dX5_inHand_6 ?_
  refine j_aload_n C 0 dX5_inHand_7 rfl rfl ?_
  refine j_callV (As := []) (rest := [.int (iI (v 0))]) C yv_X5_hanging qw748 (c_X5_hanging l g u v sv ln th ap rm rd nw hh  hm) (by decide) 0 rfl rfl rfl dX5_inHand_8 rfl (Nat.le_of_ble_eq_true rfl) (by decide) pf0 rfl (fun r9 w9 hq9 => ?_)
  obtain ⟨rfl, rfl⟩ := hq9
  refine J.to (L1 := [(0, .ref (u 0))]) (S1 := [.int (iI (hanV v)), .int (iI (v 0))]) (ws1 := [(u 0, .inr (5, [.ref (u 1), .ref (u 2), .ref (u 3), .int (iI sv), .ref (u 4), .int (iI ln), .int (iI th), .int (iI ap), .int (iI rm), .ref (u 5), .int (iI rd), .int (iI nw), .ref (u 6), .long (lI hh)])), (u 1, aL g 75 v)]) rfl rfl rfl ?_
  refine j_isub C dX5_inHand_11 ?_
  exact j_iret C hr hlk dX5_inHand_12 ⟨rfl, rfl⟩ (by decide) (by decide)

theorem c_X5_passes (l : Launch) (g : Gh) (u : Nat → Nat) (v : Nat → Int) (sv ln th ap rm rd nw hh : Int) (hm : MOK v) : CT l g yX5_passes cX5_passes 1 (some FieldType.int) ({ frames := 0, cells := 0, slots := 0, locals := 0 }) [.ref (u 0)] [(u 0, .inr (5, [.ref (u 1), .ref (u 2), .ref (u 3), .int (iI sv), .ref (u 4), .int (iI ln), .int (iI th), .int (iI ap), .int (iI rm), .ref (u 5), .int (iI rd), .int (iI nw), .ref (u 6), .long (lI hh)])), (u 1, aL g 75 v)] (PE (some (.int (iI (passV v)))) [(u 0, .inr (5, [.ref (u 1), .ref (u 2), .ref (u 3), .int (iI sv), .ref (u 4), .int (iI ln), .int (iI th), .int (iI ap), .int (iI rm), .ref (u 5), .int (iI rd), .int (iI nw), .ref (u 6), .long (lI hh)])), (u 1, aL g 75 v)]) := by
  refine CT.intro (L0 := [(0, .ref (u 0))]) (own := RX5) (by decide) rfl (Nat.le_of_ble_eq_true rfl) rfl ?_
  intro pX eX sX mX argsX belowX methX cX A C hr hlk
  obtain ⟨hP, hE0, hF, hrow0, hwt, hht, hlen, hent⟩ := id hm
  have hE : -10 ≤ v 3 ∧ v 3 ≤ 10 := by omega
  have hrow : ∀ i : Nat, (i : Int) < v 2 → 0 ≤ vR v i ∧ vR v i ≤ 4 := fun i hi => by have := hrow0 i hi; omega
  refine j_iconst C dX5_passes_0 ?_
  refine j_aload_n C 0 dX5_passes_1 rfl rfl ?_
  refine j_get C ck5 0 0 (by decide) qw662 rfl rfl dX5_passes_2 ?_
  refine j_iconst C dX5_passes_5 ?_
  refine j_lald (n := 75) (f := v) C 1 2 rfl rfl (by decide) (by decide) dX5_passes_6 ?_
  refine j_l2i C dX5_passes_7 ?_
  refine j_imul C dX5_passes_8 ?_
  refine j_aload_n C 0 dX5_passes_9 rfl rfl ?_
  refine j_get C ck5 0 0 (by decide) qw662 rfl rfl dX5_passes_10 ?_
  refine j_iconst C dX5_passes_13 ?_
  refine j_lald (n := 75) (f := v) C 1 3 rfl rfl (by decide) (by decide) dX5_passes_14 ?_
  refine j_ldc2 (x := 4) C qw660 (by decide) dX5_passes_15 ?_
  refine j_lif_ne (tgt := 26) C (by omega) (by decide) dX5_passes_18 dX5_passes_19 (by decide) (fun c18 => ?_) (fun c18 => ?_)
  · refine j_iconst C dX5_passes_26 ?_
    refine j_iadd C dX5_passes_27 ?_
    exact j_iret C hr hlk dX5_passes_28 ⟨by rw [passV, if_neg c18], rfl⟩ (by decide) (by decide)
  · refine j_iconst C dX5_passes_22 ?_
    refine j_goto (tgt := 27) C dX5_passes_23 (by decide) ?_
    refine j_iadd C dX5_passes_27 ?_
    exact j_iret C hr hlk dX5_passes_28 ⟨by rw [passV, if_pos c18], rfl⟩ (by decide) (by decide)

theorem c_X5_behind (l : Launch) (g : Gh) (u : Nat → Nat) (v : Nat → Int) (sv ln th ap rm rd nw hh : Int) (t : Int) (h : Bool) (hm : MOK v) (ht : 0 ≤ t ∧ t ≤ 4194304000000) : CT l g yX5_behind cX5_behind 6 (some FieldType.long) ({ frames := 0, cells := 0, slots := 0, locals := 0 }) [.ref (u 0), .long (lI t), .int (iI (b2i h))] [(u 0, .inr (5, [.ref (u 1), .ref (u 2), .ref (u 3), .int (iI sv), .ref (u 4), .int (iI ln), .int (iI th), .int (iI ap), .int (iI rm), .ref (u 5), .int (iI rd), .int (iI nw), .ref (u 6), .long (lI hh)])), (u 1, aL g 75 v)] (PE (some (.long (lI (beh (v 1) h t)))) [(u 0, .inr (5, [.ref (u 1), .ref (u 2), .ref (u 3), .int (iI sv), .ref (u 4), .int (iI ln), .int (iI th), .int (iI ap), .int (iI rm), .ref (u 5), .int (iI rd), .int (iI nw), .ref (u 6), .long (lI hh)])), (u 1, aL g 75 v)]) := by
  refine CT.intro (L0 := [(0, .ref (u 0)), (1, .long (lI t)), (3, .int (iI (b2i h)))]) (own := RX5) (by decide) rfl (Nat.le_of_ble_eq_true rfl) rfl ?_
  intro pX eX sX mX argsX belowX methX cX A C hr hlk
  obtain ⟨hP, hE0, hF, hrow0, hwt, hht, hlen, hent⟩ := id hm
  have hE : -10 ≤ v 3 ∧ v 3 ≤ 10 := by omega
  have hrow : ∀ i : Nat, (i : Int) < v 2 → 0 ≤ vR v i ∧ vR v i ≤ 4 := fun i hi => by have := hrow0 i hi; omega
  have hm9 := mulF ht.1 hF
  have hh9 := b2i_rng h
  refine j_lload_n C 1 dX5_behind_0 rfl rfl ?_
  refine j_aload_n C 0 dX5_behind_1 rfl rfl ?_
  refine j_get C ck5 0 0 (by decide) qw662 rfl rfl dX5_behind_2 ?_
  refine j_iconst C dX5_behind_5 ?_
  refine j_lald (n := 75) (f := v) C 1 1 rfl rfl (by decide) (by decide) dX5_behind_6 ?_
  refine j_lmul C dX5_behind_7 ?_
  refine j_ldc2 (x := 100) C qw813 (by decide) dX5_behind_8 ?_
  refine j_ldiv C (by omega) (by decide) dX5_behind_11 ?_
  refine j_lstore (L1 := [(4, .long (lI ((t * (v 1)) / 100))), (0, .ref (u 0)), (1, .long (lI t)), (3, .int (iI (b2i h)))]) C dX5_behind_12 (by decide) rfl ?_
  refine j_iload_n C 3 dX5_behind_14 rfl rfl ?_
  refine j_if_eq (tgt := 25) C (by omega) dX5_behind_15 (by decide) (fun c15 => ?_) (fun c15 => ?_)
  · refine j_lload_n C 2 dX5_behind_25 rfl rfl ?_
    refine j_lload C 0 dX5_behind_26 rfl ?_
    refine j_ladd C dX5_behind_28 ?_
    exact j_lret C hr hlk dX5_behind_29 ⟨by rw [b2i_0 c15, beh_f], rfl⟩ (by decide) (by decide)
  · refine j_lload_n C 2 dX5_behind_18 rfl rfl ?_
    refine j_lload C 0 dX5_behind_19 rfl ?_
    refine j_lsub C dX5_behind_21 ?_
    refine j_goto (tgt := 29) C dX5_behind_22 (by decide) ?_
    exact j_lret C hr hlk dX5_behind_29 ⟨by rw [b2i_1 c15, beh_t], rfl⟩ (by decide) (by decide)

theorem lm_forceAt {p : Program} {l : Launch} {e : Env} {s : State} {m : MethodId} {args : Array Value} {below : List Frame} {meth : Method} {c : Code} {g : Gh} {A : Nat → Prop} {Q : State → Prop} (C : Cx p g s m args c cX5_forceAt 7 RX5 A) {u : Nat → Nat} {v : Nat → Int} {sv ln th ap rm rd nw hh : Int} {q t : Int} {h : Bool} (hm : MOK v) (ht : 0 ≤ t ∧ t ≤ 1000000) (hq : 0 ≤ q ∧ q ≤ 22) (kk : J p l e ({ frames := 1, cells := 0, slots := 0, locals := 25 } : Room) s m args below meth c g A 7 28 [(4, .long (lI (fbn (v 1) h t q.toNat)))] [] [(u 0, .inr (5, [.ref (u 1), .ref (u 2), .ref (u 3), .int (iI sv), .ref (u 4), .int (iI ln), .int (iI th), .int (iI ap), .int (iI rm), .ref (u 5), .int (iI rd), .int (iI nw), .ref (u 6), .long (lI hh)])), (u 1, aL g 75 v)] 0 0 Q) : ∀ (n i : Nat), (i : Int) + n = q → J p l e ({ frames := 1, cells := 0, slots := 0, locals := 25 } : Room) s m args below meth c g A 7 7 [(0, .ref (u 0)), (2, .int (iI q)), (3, .int (iI (b2i h))), (4, .long (lI (fbn (v 1) h t i))), (6, .int (iI ((i : Int))))] [] [(u 0, .inr (5, [.ref (u 1), .ref (u 2), .ref (u 3), .int (iI sv), .ref (u 4), .int (iI ln), .int (iI th), .int (iI ap), .int (iI rm), .ref (u 5), .int (iI rd), .int (iI nw), .ref (u 6), .long (lI hh)])), (u 1, aL g 75 v)] 0 0 Q := by
  intro n
  induction n with
  | zero =>
    intro i hi
    refine j_iload C 4 dX5_forceAt_7 rfl ?_
    refine j_iload_n C 1 dX5_forceAt_9 rfl rfl ?_
    refine j_icmp_ge (tgt := 28) C (by omega) (by omega) dX5_forceAt_10 (by decide) (fun c10 => ?_) (fun c10 => absurd c10 (by omega))
    refine J.sub (L1 := [(4, .long (lI (fbn (v 1) h t i)))]) [3] rfl ?_
    rw [show i = q.toNat by omega]
    exact kk
  | succ n ih =>
    intro i hi
    obtain ⟨hP, hE0, hF, hrow0, hwt, hht, hlen, hent⟩ := id hm
    have hE : -10 ≤ v 3 ∧ v 3 ≤ 10 := by omega
    have hrow : ∀ i : Nat, (i : Int) < v 2 → 0 ≤ vR v i ∧ vR v i ≤ 4 := fun i hi => by have := hrow0 i hi; omega
    have hb9 := fbn_le (h := h) (n := i) hF ht (by omega)
    refine j_iload C 4 dX5_forceAt_7 rfl ?_
    refine j_iload_n C 1 dX5_forceAt_9 rfl rfl ?_
    refine j_icmp_ge (tgt := 28) C (by omega) (by omega) dX5_forceAt_10 (by decide) (fun c10 => absurd c10 (by omega)) (fun c10 => ?_)
    refine j_aload_n C 0 dX5_forceAt_13 rfl rfl ?_
    refine j_lload C 3 dX5_forceAt_14 rfl ?_
    refine j_iload_n C 2 dX5_forceAt_16 rfl rfl ?_
    refine j_callV (As := [.long (lI (fbn (v 1) h t i)), .int (iI (b2i h))]) (rest := []) C yv_X5_behind qw809 (c_X5_behind l g u v sv ln th ap rm rd nw hh (fbn (v 1) h t i) h hm (by omega)) (by decide) 0 rfl rfl rfl dX5_forceAt_17 rfl (Nat.le_of_ble_eq_true rfl) (by decide) pf0 rfl (fun r9 w9 hq9 => ?_)
    obtain ⟨rfl, rfl⟩ := hq9
    refine J.to (L1 := [(0, .ref (u 0)), (2, .int (iI q)), (3, .int (iI (b2i h))), (4, .long (lI (fbn (v 1) h t i))), (6, .int (iI ((i : Int))))]) (S1 := [.long (lI (fbn (v 1) h t (i + 1)))]) (ws1 := [(u 0, .inr (5, [.ref (u 1), .ref (u 2), .ref (u 3), .int (iI sv), .ref (u 4), .int (iI ln), .int (iI th), .int (iI ap), .int (iI rm), .ref (u 5), .int (iI rd), .int (iI nw), .ref (u 6), .long (lI hh)])), (u 1, aL g 75 v)]) rfl rfl rfl ?_
    refine j_lstore (L1 := [(4, .long (lI (fbn (v 1) h t (i + 1)))), (0, .ref (u 0)), (2, .int (iI q)), (3, .int (iI (b2i h))), (6, .int (iI ((i : Int))))]) C dX5_forceAt_20 (by decide) rfl ?_
    refine j_iinc (L1 := [(6, .int (iI (((i : Int)) + 1))), (4, .long (lI (fbn (v 1) h t (i + 1)))), (0, .ref (u 0)), (2, .int (iI q)), (3, .int (iI (b2i h)))]) C 4 dX5_forceAt_22 rfl (by decide) rfl ?_
    refine j_goto (tgt := 7) C dX5_forceAt_25 (by decide) ?_
    refine J.sub (L1 := [(0, .ref (u 0)), (2, .int (iI q)), (3, .int (iI (b2i h))), (4, .long (lI (fbn (v 1) h t (i + 1)))), (6, .int (iI (((i : Int)) + 1)))]) [2, 3, 4, 1, 0] rfl ?_
    exact ih (i + 1) (by omega)

theorem c_X5_forceAt (l : Launch) (g : Gh) (u : Nat → Nat) (v : Nat → Int) (sv ln th ap rm rd nw hh : Int) (t q : Int) (h : Bool) (hm : MOK v) (ht : 0 ≤ t ∧ t ≤ 1000000) (hq : 0 ≤ q ∧ q ≤ 22) : CT l g yX5_forceAt cX5_forceAt 7 (some FieldType.long) ({ frames := 1, cells := 0, slots := 0, locals := 25 }) [.ref (u 0), .int (iI t), .int (iI q), .int (iI (b2i h))] [(u 0, .inr (5, [.ref (u 1), .ref (u 2), .ref (u 3), .int (iI sv), .ref (u 4), .int (iI ln), .int (iI th), .int (iI ap), .int (iI rm), .ref (u 5), .int (iI rd), .int (iI nw), .ref (u 6), .long (lI hh)])), (u 1, aL g 75 v)] (PE (some (.long (lI (fbn (v 1) h t q.toNat)))) [(u 0, .inr (5, [.ref (u 1), .ref (u 2), .ref (u 3), .int (iI sv), .ref (u 4), .int (iI ln), .int (iI th), .int (iI ap), .int (iI rm), .ref (u 5), .int (iI rd), .int (iI nw), .ref (u 6), .long (lI hh)])), (u 1, aL g 75 v)]) := by
  refine CT.intro (L0 := [(0, .ref (u 0)), (1, .int (iI t)), (2, .int (iI q)), (3, .int (iI (b2i h)))]) (own := RX5) (by decide) rfl (Nat.le_of_ble_eq_true rfl) rfl ?_
  intro pX eX sX mX argsX belowX methX cX A C hr hlk
  obtain ⟨hP, hE0, hF, hrow0, hwt, hht, hlen, hent⟩ := id hm
  have hE : -10 ≤ v 3 ∧ v 3 ≤ 10 := by omega
  have hrow : ∀ i : Nat, (i : Int) < v 2 → 0 ≤ vR v i ∧ vR v i ≤ 4 := fun i hi => by have := hrow0 i hi; omega
  refine j_iload_n C 1 dX5_forceAt_0 rfl rfl ?_
  refine j_i2l C (by omega) dX5_forceAt_1 ?_
  refine j_lstore (L1 := [(4, .long (lI t)), (0, .ref (u 0)), (1, .int (iI t)), (2, .int (iI q)), (3, .int (iI (b2i h)))]) C dX5_forceAt_2 (by decide) rfl ?_
  refine j_iconst C dX5_forceAt_4 ?_
  refine j_istore (L1 := [(6, .int (iI 0)), (4, .long (lI t)), (0, .ref (u 0)), (1, .int (iI t)), (2, .int (iI q)), (3, .int (iI (b2i h)))]) C dX5_forceAt_5 (by decide) rfl ?_
  refine J.sub (L1 := [(0, .ref (u 0)), (2, .int (iI q)), (3, .int (iI (b2i h))), (4, .long (lI t)), (6, .int (iI 0))]) [2, 4, 5, 1, 0] rfl ?_
  refine lm_forceAt C hm ht hq ?_ q.toNat 0 (by omega)
  refine j_lload C 0 dX5_forceAt_28 rfl ?_
  exact j_lret C hr hlk dX5_forceAt_30 ⟨rfl, rfl⟩ (by decide) (by decide)

theorem lm_pullOn {p : Program} {l : Launch} {e : Env} {s : State} {m : MethodId} {args : Array Value} {below : List Frame} {meth : Method} {c : Code} {g : Gh} {A : Nat → Prop} {Q : State → Prop} (C : Cx p g s m args c cX5_pullOn 11 RX5 A) {u : Nat → Nat} {v : Nat → Int} {sv ln th ap rm rd nw hh : Int} {b t : Int} {h : Bool} (hm : MOK v) (hb : -10 ≤ b ∧ b ≤ 10) (ht : 0 ≤ t ∧ t ≤ 1000000) (kk : J p l e ({ frames := 1, cells := 0, slots := 0, locals := 25 } : Room) s m args below meth c g A 11 77 [(0, .ref (u 0)), (1, .int (iI b)), (3, .int (iI (b2i h))), (4, .long (lI (fbn (v 1) h t (2 * (v 2).toNat)))), (6, .long (lI (psum (vR v) (v 1) h b t (v 2).toNat)))] [] [(u 0, .inr (5, [.ref (u 1), .ref (u 2), .ref (u 3), .int (iI sv), .ref (u 4), .int (iI ln), .int (iI th), .int (iI ap), .int (iI rm), .ref (u 5), .int (iI rd), .int (iI nw), .ref (u 6), .long (lI hh)])), (u 1, aL g 75 v)] 0 0 Q) : ∀ (n i : Nat), (i : Int) + n = v 2 → J p l e ({ frames := 1, cells := 0, slots := 0, locals := 25 } : Room) s m args below meth c g A 11 10 [(0, .ref (u 0)), (1, .int (iI b)), (3, .int (iI (b2i h))), (4, .long (lI (fbn (v 1) h t (2 * i)))), (6, .long (lI (psum (vR v) (v 1) h b t i))), (8, .int (iI ((i : Int))))] [] [(u 0, .inr (5, [.ref (u 1), .ref (u 2), .ref (u 3), .int (iI sv), .ref (u 4), .int (iI ln), .int (iI th), .int (iI ap), .int (iI rm), .ref (u 5), .int (iI rd), .int (iI nw), .ref (u 6), .long (lI hh)])), (u 1, aL g 75 v)] 0 0 Q := by
  intro n
  induction n with
  | zero =>
    intro i hi
    obtain ⟨hP, hE0, hF, hrow0, hwt, hht, hlen, hent⟩ := id hm
    have hE : -10 ≤ v 3 ∧ v 3 ≤ 10 := by omega
    have hrow : ∀ i : Nat, (i : Int) < v 2 → 0 ≤ vR v i ∧ vR v i ≤ 4 := fun i hi => by have := hrow0 i hi; omega
    refine j_iload C 5 dX5_pullOn_10 rfl ?_
    refine j_i2l C (by omega) dX5_pullOn_12 ?_
    refine j_aload_n C 0 dX5_pullOn_13 rfl rfl ?_
    refine j_get C ck5 0 0 (by decide) qw662 rfl rfl dX5_pullOn_14 ?_
    refine j_iconst C dX5_pullOn_17 ?_
    refine j_lald (n := 75) (f := v) C 1 2 rfl rfl (by decide) (by decide) dX5_pullOn_18 ?_
    refine j_lif_ge (tgt := 77) C (by omega) (by omega) dX5_pullOn_19 dX5_pullOn_20 (by decide) (fun c19 => ?_) (fun c19 => absurd c19 (by omega))
    refine J.sub (L1 := [(0, .ref (u 0)), (1, .int (iI b)), (3, .int (iI (b2i h))), (4, .long (lI (fbn (v 1) h t (2 * i)))), (6, .long (lI (psum (vR v) (v 1) h b t i)))]) [0, 1, 2, 3, 4] rfl ?_
    rw [show i = (v 2).toNat by omega]
    exact kk
  | succ n ih =>
    intro i hi
    obtain ⟨hP, hE0, hF, hrow0, hwt, hht, hlen, hent⟩ := id hm
    have hE : -10 ≤ v 3 ∧ v 3 ≤ 10 := by omega
    have hrow : ∀ i : Nat, (i : Int) < v 2 → 0 ≤ vR v i ∧ vR v i ≤ 4 := fun i hi => by have := hrow0 i hi; omega
    have hr9 := hrow i (by omega)
    have hr8 : v (17 + i) = vR v i := rfl
    have hb9 := fbn_le (h := h) (n := 2 * i) hF ht (by omega)
    have hb8 := fbn_le (h := h) (n := 2 * i + 1) hF ht (by omega)
    refine j_iload C 5 dX5_pullOn_10 rfl ?_
    refine j_i2l C (by omega) dX5_pullOn_12 ?_
    refine j_aload_n C 0 dX5_pullOn_13 rfl rfl ?_
    refine j_get C ck5 0 0 (by decide) qw662 rfl rfl dX5_pullOn_14 ?_
    refine j_iconst C dX5_pullOn_17 ?_
    refine j_lald (n := 75) (f := v) C 1 2 rfl rfl (by decide) (by decide) dX5_pullOn_18 ?_
    refine j_lif_ge (tgt := 77) C (by omega) (by omega) dX5_pullOn_19 dX5_pullOn_20 (by decide) (fun c19 => absurd c19 (by omega)) (fun c19 => ?_)
    refine j_aload_n C 0 dX5_pullOn_23 rfl rfl ?_
    refine j_lload C 3 dX5_pullOn_24 rfl ?_
    refine j_iload_n C 2 dX5_pullOn_26 rfl rfl ?_
    refine j_callV (As := [.long (lI (fbn (v 1) h t (2 * i))), .int (iI (b2i h))]) (rest := []) C yv_X5_behind qw809 (c_X5_behind l g u v sv ln th ap rm rd nw hh (fbn (v 1) h t (2 * i)) h hm (by omega)) (by decide) 0 rfl rfl rfl dX5_pullOn_27 rfl (Nat.le_of_ble_eq_true rfl) (by decide) pf0 rfl (fun r9 w9 hq9 => ?_)
    obtain ⟨rfl, rfl⟩ := hq9
    refine J.to (L1 := [(0, .ref (u 0)), (1, .int (iI b)), (3, .int (iI (b2i h))), (4, .long (lI (fbn (v 1) h t (2 * i)))), (6, .long (lI (psum (vR v) (v 1) h b t i))), (8, .int (iI ((i : Int))))]) (S1 := [.long (lI (fbn (v 1) h t (2 * i + 1)))]) (ws1 := [(u 0, .inr (5, [.ref (u 1), .ref (u 2), .ref (u 3), .int (iI sv), .ref (u 4), .int (iI ln), .int (iI th), .int (iI ap), .int (iI rm), .ref (u 5), .int (iI rd), .int (iI nw), .ref (u 6), .long (lI hh)])), (u 1, aL g 75 v)]) rfl rfl rfl ?_
    refine j_lstore (L1 := [(9, .long (lI (fbn (v 1) h t (2 * i + 1)))), (0, .ref (u 0)), (1, .int (iI b)), (3, .int (iI (b2i h))), (4, .long (lI (fbn (v 1) h t (2 * i)))), (6, .long (lI (psum (vR v) (v 1) h b t i))), (8, .int (iI ((i : Int))))]) C dX5_pullOn_30 (by decide) rfl ?_
    refine j_aload_n C 1 dX5_pullOn_32 rfl rfl ?_
    refine j_lload C 0 dX5_pullOn_33 rfl ?_
    refine j_iload_n C 3 dX5_pullOn_35 rfl rfl ?_
    refine j_callV (As := [.long (lI (fbn (v 1) h t (2 * i + 1))), .int (iI (b2i h))]) (rest := []) C yv_X5_behind qw809 (c_X5_behind l g u v sv ln th ap rm rd nw hh (fbn (v 1) h t (2 * i + 1)) h hm (by omega)) (by decide) 0 rfl rfl rfl dX5_pullOn_36 rfl (Nat.le_of_ble_eq_true rfl) (by decide) pf0 rfl (fun r9 w9 hq9 => ?_)
    obtain ⟨rfl, rfl⟩ := hq9
    refine J.to (L1 := [(9, .long (lI (fbn (v 1) h t (2 * i + 1)))), (0, .ref (u 0)), (1, .int (iI b)), (3, .int (iI (b2i h))), (4, .long (lI (fbn (v 1) h t (2 * i)))), (6, .long (lI (psum (vR v) (v 1) h b t i))), (8, .int (iI ((i : Int))))]) (S1 := [.long (lI (fbn (v 1) h t (2 * i + 2)))]) (ws1 := [(u 0, .inr (5, [.ref (u 1), .ref (u 2), .ref (u 3), .int (iI sv), .ref (u 4), .int (iI ln), .int (iI th), .int (iI ap), .int (iI rm), .ref (u 5), .int (iI rd), .int (iI nw), .ref (u 6), .long (lI hh)])), (u 1, aL g 75 v)]) rfl rfl rfl ?_
    refine j_lstore (L1 := [(4, .long (lI (fbn (v 1) h t (2 * i + 2)))), (9, .long (lI (fbn (v 1) h t (2 * i + 1)))), (0, .ref (u 0)), (1, .int (iI b)), (3, .int (iI (b2i h))), (6, .long (lI (psum (vR v) (v 1) h b t i))), (8, .int (iI ((i : Int))))]) C dX5_pullOn_39 (by decide) rfl ?_
    refine j_lload C 5 dX5_pullOn_41 rfl ?_
    refine j_aload_n C 2 dX5_pullOn_43 rfl rfl ?_
    refine j_get C ck5 0 0 (by decide) qw662 rfl rfl dX5_pullOn_44 ?_
    refine j_bipush C dX5_pullOn_47 (by decide) ?_
    refine j_iload C 6 dX5_pullOn_49 rfl ?_
    refine j_iadd C dX5_pullOn_51 ?_
    refine j_lald (n := 75) (f := v) C 1 (17 + i) rfl (by omega) (by omega) (by decide) dX5_pullOn_52 ?_
    refine j_iload_n C 3 dX5_pullOn_53 rfl rfl ?_
    refine j_i2l C (by omega) dX5_pullOn_54 ?_
    refine j_lif_ne (tgt := 67) C (by omega) (by omega) dX5_pullOn_55 dX5_pullOn_56 (by decide) (fun c55 => ?_) (fun c55 => ?_)
    · refine j_lconst (v := 0) C dX5_pullOn_67 rfl ?_
      refine j_ladd C dX5_pullOn_68 ?_
      refine j_lstore (L1 := [(6, .long (lI ((psum (vR v) (v 1) h b t i) + 0))), (4, .long (lI (fbn (v 1) h t (2 * i + 2)))), (9, .long (lI (fbn (v 1) h t (2 * i + 1)))), (0, .ref (u 0)), (1, .int (iI b)), (3, .int (iI (b2i h))), (8, .int (iI ((i : Int))))]) C dX5_pullOn_69 (by decide) rfl ?_
      refine j_iinc (L1 := [(8, .int (iI (((i : Int)) + 1))), (6, .long (lI ((psum (vR v) (v 1) h b t i) + 0))), (4, .long (lI (fbn (v 1) h t (2 * i + 2)))), (9, .long (lI (fbn (v 1) h t (2 * i + 1)))), (0, .ref (u 0)), (1, .int (iI b)), (3, .int (iI (b2i h)))]) C 6 dX5_pullOn_71 rfl (by decide) rfl ?_
      refine j_goto (tgt := 10) C dX5_pullOn_74 (by decide) ?_
      refine J.sub (L1 := [(0, .ref (u 0)), (1, .int (iI b)), (3, .int (iI (b2i h))), (4, .long (lI (fbn (v 1) h t (2 * i + 2)))), (6, .long (lI ((psum (vR v) (v 1) h b t i) + 0))), (8, .int (iI (((i : Int)) + 1)))]) [4, 5, 6, 2, 1, 0] rfl ?_
      have h9 := ih (i + 1) (by omega)
      rw [show psum (vR v) (v 1) h b t (i + 1) = psum (vR v) (v 1) h b t i + 0 by simp only [psum]; rw [if_neg c55]] at h9
      exact h9
    · refine j_lload C 1 dX5_pullOn_59 rfl ?_
      refine j_lload C 0 dX5_pullOn_61 rfl ?_
      refine j_ladd C dX5_pullOn_63 ?_
      refine j_goto (tgt := 68) C dX5_pullOn_64 (by decide) ?_
      refine j_ladd C dX5_pullOn_68 ?_
      refine j_lstore (L1 := [(6, .long (lI ((psum (vR v) (v 1) h b t i) + ((fbn (v 1) h t (2 * i + 1)) + (fbn (v 1) h t (2 * i + 2)))))), (4, .long (lI (fbn (v 1) h t (2 * i + 2)))), (9, .long (lI (fbn (v 1) h t (2 * i + 1)))), (0, .ref (u 0)), (1, .int (iI b)), (3, .int (iI (b2i h))), (8, .int (iI ((i : Int))))]) C dX5_pullOn_69 (by decide) rfl ?_
      refine j_iinc (L1 := [(8, .int (iI (((i : Int)) + 1))), (6, .long (lI ((psum (vR v) (v 1) h b t i) + ((fbn (v 1) h t (2 * i + 1)) + (fbn (v 1) h t (2 * i + 2)))))), (4, .long (lI (fbn (v 1) h t (2 * i + 2)))), (9, .long (lI (fbn (v 1) h t (2 * i + 1)))), (0, .ref (u 0)), (1, .int (iI b)), (3, .int (iI (b2i h)))]) C 6 dX5_pullOn_71 rfl (by decide) rfl ?_
      refine j_goto (tgt := 10) C dX5_pullOn_74 (by decide) ?_
      refine J.sub (L1 := [(0, .ref (u 0)), (1, .int (iI b)), (3, .int (iI (b2i h))), (4, .long (lI (fbn (v 1) h t (2 * i + 2)))), (6, .long (lI ((psum (vR v) (v 1) h b t i) + ((fbn (v 1) h t (2 * i + 1)) + (fbn (v 1) h t (2 * i + 2)))))), (8, .int (iI (((i : Int)) + 1)))]) [4, 5, 6, 2, 1, 0] rfl ?_
      have h9 := ih (i + 1) (by omega)
      rw [show psum (vR v) (v 1) h b t (i + 1) = psum (vR v) (v 1) h b t i + (fbn (v 1) h t (2 * i + 1) + fbn (v 1) h t (2 * i + 2)) by simp only [psum]; rw [if_pos c55]] at h9
      exact h9

theorem c_X5_pullOn (l : Launch) (g : Gh) (u : Nat → Nat) (v : Nat → Int) (sv ln th ap rm rd nw hh : Int) (b t : Int) (h : Bool) (hm : MOK v) (hb : -10 ≤ b ∧ b ≤ 10) (ht : 0 ≤ t ∧ t ≤ 1000000) : CT l g yX5_pullOn cX5_pullOn 11 (some FieldType.long) ({ frames := 1, cells := 0, slots := 0, locals := 25 }) [.ref (u 0), .int (iI b), .int (iI t), .int (iI (b2i h))] [(u 0, .inr (5, [.ref (u 1), .ref (u 2), .ref (u 3), .int (iI sv), .ref (u 4), .int (iI ln), .int (iI th), .int (iI ap), .int (iI rm), .ref (u 5), .int (iI rd), .int (iI nw), .ref (u 6), .long (lI hh)])), (u 1, aL g 75 v)] (PE (some (.long (lI (pulV v h b t)))) [(u 0, .inr (5, [.ref (u 1), .ref (u 2), .ref (u 3), .int (iI sv), .ref (u 4), .int (iI ln), .int (iI th), .int (iI ap), .int (iI rm), .ref (u 5), .int (iI rd), .int (iI nw), .ref (u 6), .long (lI hh)])), (u 1, aL g 75 v)]) := by
  refine CT.intro (L0 := [(0, .ref (u 0)), (1, .int (iI b)), (2, .int (iI t)), (3, .int (iI (b2i h)))]) (own := RX5) (by decide) rfl (Nat.le_of_ble_eq_true rfl) rfl ?_
  intro pX eX sX mX argsX belowX methX cX A C hr hlk
  obtain ⟨hP, hE0, hF, hrow0, hwt, hht, hlen, hent⟩ := id hm
  have hE : -10 ≤ v 3 ∧ v 3 ≤ 10 := by omega
  have hrow : ∀ i : Nat, (i : Int) < v 2 → 0 ≤ vR v i ∧ vR v i ≤ 4 := fun i hi => by have := hrow0 i hi; omega
  have hb9 := fbn_le (h := h) (n := 2 * (v 2).toNat) hF ht (by omega)
  refine j_iload_n C 2 dX5_pullOn_0 rfl rfl ?_
  refine j_i2l C (by omega) dX5_pullOn_1 ?_
  refine j_lstore (L1 := [(4, .long (lI t)), (0, .ref (u 0)), (1, .int (iI b)), (2, .int (iI t)), (3, .int (iI (b2i h)))]) C dX5_pullOn_2 (by decide) rfl ?_
  refine j_lconst (v := 0) C dX5_pullOn_4 rfl ?_
  refine j_lstore (L1 := [(6, .long (lI 0)), (4, .long (lI t)), (0, .ref (u 0)), (1, .int (iI b)), (2, .int (iI t)), (3, .int (iI (b2i h)))]) C dX5_pullOn_5 (by decide) rfl ?_
  refine j_iconst C dX5_pullOn_7 ?_
  refine j_istore (L1 := [(8, .int (iI 0)), (6, .long (lI 0)), (4, .long (lI t)), (0, .ref (u 0)), (1, .int (iI b)), (2, .int (iI t)), (3, .int (iI (b2i h)))]) C dX5_pullOn_8 (by decide) rfl ?_
  refine J.sub (L1 := [(0, .ref (u 0)), (1, .int (iI b)), (3, .int (iI (b2i h))), (4, .long (lI t)), (6, .long (lI 0)), (8, .int (iI 0))]) [3, 4, 6, 2, 1, 0] rfl ?_
  refine lm_pullOn C hm hb ht ?_ (v 2).toNat 0 (by omega)
  refine j_aload_n C 0 dX5_pullOn_77 rfl rfl ?_
  refine j_get C ck5 0 0 (by decide) qw662 rfl rfl dX5_pullOn_78 ?_
  refine j_iconst C dX5_pullOn_81 ?_
  refine j_lald (n := 75) (f := v) C 1 3 rfl rfl (by decide) (by decide) dX5_pullOn_82 ?_
  refine j_iload_n C 1 dX5_pullOn_83 rfl rfl ?_
  refine j_i2l C (by omega) dX5_pullOn_84 ?_
  refine j_lif_ne (tgt := 102) C (by omega) (by omega) dX5_pullOn_85 dX5_pullOn_86 (by decide) (fun c85 => ?_) (fun c85 => ?_)
  · refine j_lload C 4 dX5_pullOn_102 rfl ?_
    exact j_lret C hr hlk dX5_pullOn_104 ⟨by rw [pulV, pul, if_neg c85, Int.add_zero], rfl⟩ (by decide) (by decide)
  · refine j_lload C 4 dX5_pullOn_89 rfl ?_
    refine j_aload_n C 0 dX5_pullOn_91 rfl rfl ?_
    refine j_lload C 3 dX5_pullOn_92 rfl ?_
    refine j_iload_n C 2 dX5_pullOn_94 rfl rfl ?_
    refine j_callV (As := [.long (lI (fbn (v 1) h t (2 * (v 2).toNat))), .int (iI (b2i h))]) (rest := [.long (lI (psum (vR v) (v 1) h b t (v 2).toNat))]) C yv_X5_behind qw809 (c_X5_behind l g u v sv ln th ap rm rd nw hh (fbn (v 1) h t (2 * (v 2).toNat)) h hm (by omega)) (by decide) 0 rfl rfl rfl dX5_pullOn_95 rfl (Nat.le_of_ble_eq_true rfl) (by decide) pf0 rfl (fun r9 w9 hq9 => ?_)
    obtain ⟨rfl, rfl⟩ := hq9
    refine J.to (L1 := [(0, .ref (u 0)), (1, .int (iI b)), (3, .int (iI (b2i h))), (4, .long (lI (fbn (v 1) h t (2 * (v 2).toNat)))), (6, .long (lI (psum (vR v) (v 1) h b t (v 2).toNat)))]) (S1 := [.long (lI (fbn (v 1) h t (2 * (v 2).toNat + 1))), .long (lI (psum (vR v) (v 1) h b t (v 2).toNat))]) (ws1 := [(u 0, .inr (5, [.ref (u 1), .ref (u 2), .ref (u 3), .int (iI sv), .ref (u 4), .int (iI ln), .int (iI th), .int (iI ap), .int (iI rm), .ref (u 5), .int (iI rd), .int (iI nw), .ref (u 6), .long (lI hh)])), (u 1, aL g 75 v)]) rfl rfl rfl ?_
    refine j_ladd C dX5_pullOn_98 ?_
    refine j_goto (tgt := 104) C dX5_pullOn_99 (by decide) ?_
    exact j_lret C hr hlk dX5_pullOn_104 ⟨by rw [pulV, pul, if_pos c85], rfl⟩ (by decide) (by decide)

theorem pulV_rng {v : Nat → Int} (hm : MOK v) {h : Bool} {b t : Int} (ht : 0 ≤ t ∧ t ≤ 1000000) : 0 ≤ pulV v h b t ∧ pulV v h b t ≤ 90000000000000 := pul_le hm.2.2.1 ht (by have := hm.1; omega)
theorem pulV_mono {v : Nat → Int} (hm : MOK v) {h : Bool} {b : Int} : ∀ a t, 0 ≤ a → a ≤ t → pulV v h b a ≤ pulV v h b t := fun _ _ h1 h2 => pul_mono hm.2.2.1 h1 h2
def btn : Nat → Int
  | 0 => 0
  | n + 1 => 2 ^ n
theorem btn_half : ∀ n, btn (n + 1) / 2 = btn n
  | 0 => rfl
  | n + 1 => by
    show (2 : Int) ^ (n + 1) / 2 = 2 ^ n
    rw [Int.pow_succ]
    omega
theorem btn_rng {n : Nat} (hn : n ≤ 20) : 0 ≤ btn n ∧ btn n ≤ 524288 := by
  match n, hn with
  | 0, _ => exact ⟨Int.le_refl _, by decide⟩
  | n + 1, hn =>
    have h1 : (0 : Int) < 2 ^ n := Int.pow_pos (by decide)
    have h2 : (2 : Int) ^ n ≤ 2 ^ 19 := by
      rcases Nat.eq_or_lt_of_le (show n ≤ 19 by omega) with rfl | h
      · exact Int.le_refl _
      · exact Int.le_of_lt (Int.pow_lt_pow_of_lt (by decide) h)
    have h3 : (2 : Int) ^ 19 = 524288 := by decide
    show 0 ≤ (2 : Int) ^ n ∧ (2 : Int) ^ n ≤ 524288
    omega
theorem btn_2 {n : Nat} : btn (n + 1) ≤ 2 * btn n ∨ n = 0 := by
  match n with
  | 0 => exact Or.inr rfl
  | n + 1 =>
    refine Or.inl ?_
    show (2 : Int) ^ (n + 1) ≤ 2 * 2 ^ n
    rw [Int.pow_succ]
    omega
theorem lm_least {p : Program} {l : Launch} {e : Env} {s : State} {m : MethodId} {args : Array Value} {below : List Frame} {meth : Method} {c : Code} {g : Gh} {A : Nat → Prop} {Q : State → Prop} (C : Cx p g s m args c cX5_least 6 RX5 A) {u : Nat → Nat} {v : Nat → Int} {sv ln th ap rm rd nw hh : Int} {b r0 : Int} {h : Bool} (hm : MOK v) (hb4 : 0 ≤ b ∧ b ≤ 3) (hL : IsL (pulV v h b) (vW v b.toNat) r0) (kk : J p l e ({ frames := 2, cells := 0, slots := 0, locals := 55 } : Room) s m args below meth c g A 6 92 [(3, .int (iI (r0 - 1)))] [] [(u 0, .inr (5, [.ref (u 1), .ref (u 2), .ref (u 3), .int (iI sv), .ref (u 4), .int (iI ln), .int (iI th), .int (iI ap), .int (iI rm), .ref (u 5), .int (iI rd), .int (iI nw), .ref (u 6), .long (lI hh)])), (u 1, aL g 75 v)] 0 0 Q) : ∀ (n : Nat) (mo : Int), n ≤ 20 → (-1 ≤ mo ∧ mo < r0) → r0 ≤ mo + 2 * btn n + (if n = 0 then 1 else 0) → J p l e ({ frames := 2, cells := 0, slots := 0, locals := 55 } : Room) s m args below meth c g A 6 37 [(0, .ref (u 0)), (1, .int (iI b)), (2, .int (iI (b2i h))), (3, .int (iI mo)), (4, .int (iI (btn n)))] [] [(u 0, .inr (5, [.ref (u 1), .ref (u 2), .ref (u 3), .int (iI sv), .ref (u 4), .int (iI ln), .int (iI th), .int (iI ap), .int (iI rm), .ref (u 5), .int (iI rd), .int (iI nw), .ref (u 6), .long (lI hh)])), (u 1, aL g 75 v)] 0 0 Q := by
  intro n
  induction n with
  | zero =>
    intro mo hn h1 h2
    have e9 : mo = r0 - 1 := by rw [if_pos rfl] at h2; have : btn 0 = 0 := rfl; omega
    have hb0 : btn 0 = 0 := rfl
    refine j_iload C 4 dX5_least_37 rfl ?_
    refine j_if_le (tgt := 92) C (by omega) dX5_least_39 (by decide) (fun c39 => ?_) (fun c39 => absurd c39 (by omega))
    refine J.sub (L1 := [(3, .int (iI mo))]) [3] rfl ?_
    rw [e9]
    exact kk
  | succ n ih =>
    intro mo hn h1 h2
    obtain ⟨hP, hE0, hF, hrow0, hwt, hht, hlen, hent⟩ := id hm
    have hE : -10 ≤ v 3 ∧ v 3 ≤ 10 := by omega
    have hrow : ∀ i : Nat, (i : Int) < v 2 → 0 ≤ vR v i ∧ vR v i ≤ 4 := fun i hi => by have := hrow0 i hi; omega
    rw [if_neg (by omega)] at h2
    have hbn := btn_rng (n := n + 1) hn
    have hb0 : 0 < btn (n + 1) := by show (0 : Int) < 2 ^ n; exact Int.pow_pos (by decide)
    have hb2 := btn_half n
    have hb1 := btn_2 (n := n)
    have hbz : n = 0 → btn (n + 1) = 1 := fun h0 => by rw [h0]; rfl
    have hw9 := hwt b.toNat (by omega)
    have hr0 := hL.1
    have hw8 : v (9 + b.toNat) = vW v b.toNat := rfl
    refine j_iload C 4 dX5_least_37 rfl ?_
    refine j_if_le (tgt := 92) C (by omega) dX5_least_39 (by decide) (fun c39 => absurd c39 (by omega)) (fun c39 => ?_)
    refine j_iload_n C 3 dX5_least_42 rfl rfl ?_
    refine j_iload C 4 dX5_least_43 rfl ?_
    refine j_iadd C dX5_least_45 ?_
    refine j_istore (L1 := [(5, .int (iI (mo + (btn (n + 1))))), (0, .ref (u 0)), (1, .int (iI b)), (2, .int (iI (b2i h))), (3, .int (iI mo)), (4, .int (iI (btn (n + 1))))]) C dX5_least_46 (by decide) rfl ?_
    refine j_iload C 0 dX5_least_48 rfl ?_
    refine j_ldc (x := 1000000) C qw804 (by decide) dX5_least_50 ?_
    refine j_icmp_gt (tgt := 81) C (by omega) (by decide) dX5_least_52 (by decide) (fun c52 => ?_) (fun c52 => ?_)
    · refine j_iload_n C 4 dX5_least_81 rfl rfl ?_
      refine j_istore_n (L1 := [(3, .int (iI mo)), (5, .int (iI (mo + (btn (n + 1))))), (0, .ref (u 0)), (1, .int (iI b)), (2, .int (iI (b2i h))), (4, .int (iI (btn (n + 1))))]) C dX5_least_82 rfl (by decide) rfl ?_
      refine j_iload C 5 dX5_least_83 rfl ?_
      refine j_iconst C dX5_least_85 ?_
      refine j_idiv C (by omega) (by decide) dX5_least_86 ?_
      refine j_istore (L1 := [(4, .int (iI ((btn (n + 1)) / 2))), (3, .int (iI mo)), (5, .int (iI (mo + (btn (n + 1))))), (0, .ref (u 0)), (1, .int (iI b)), (2, .int (iI (b2i h)))]) C dX5_least_87 (by decide) rfl ?_
      refine j_goto (tgt := 37) C dX5_least_89 (by decide) ?_
      refine J.sub (L1 := [(0, .ref (u 0)), (1, .int (iI b)), (2, .int (iI (b2i h))), (3, .int (iI mo)), (4, .int (iI ((btn (n + 1)) / 2)))]) [3, 4, 5, 1, 0] rfl ?_
      have hq9 : r0 ≤ mo + btn (n + 1) := (by omega)
      rw [hb2]
      exact ih mo (by omega) ⟨by omega, by omega⟩ (by split <;> omega)
    · refine j_aload_n C 1 dX5_least_55 rfl rfl ?_
      refine j_iload_n C 2 dX5_least_56 rfl rfl ?_
      refine j_iload C 0 dX5_least_57 rfl ?_
      refine j_iload_n C 3 dX5_least_59 rfl rfl ?_
      refine j_callV (As := [.int (iI b), .int (iI (mo + (btn (n + 1)))), .int (iI (b2i h))]) (rest := []) C yv_X5_pullOn qw805 (c_X5_pullOn l g u v sv ln th ap rm rd nw hh b (mo + (btn (n + 1))) h hm (by omega) (by omega)) (by decide) 0 rfl rfl rfl dX5_least_60 rfl (Nat.le_of_ble_eq_true rfl) (by decide) pf0 rfl (fun r9 w9 hq9 => ?_)
      obtain ⟨rfl, rfl⟩ := hq9
      refine J.to (L1 := [(5, .int (iI (mo + (btn (n + 1))))), (0, .ref (u 0)), (1, .int (iI b)), (2, .int (iI (b2i h))), (3, .int (iI mo)), (4, .int (iI (btn (n + 1))))]) (S1 := [.long (lI (pulV v h b (mo + (btn (n + 1)))))]) (ws1 := [(u 0, .inr (5, [.ref (u 1), .ref (u 2), .ref (u 3), .int (iI sv), .ref (u 4), .int (iI ln), .int (iI th), .int (iI ap), .int (iI rm), .ref (u 5), .int (iI rd), .int (iI nw), .ref (u 6), .long (lI hh)])), (u 1, aL g 75 v)]) rfl rfl rfl ?_
      have hp60 := pulV_rng hm (h := h) (b := b) (t := mo + (btn (n + 1))) (by omega)
      refine j_aload_n C 1 dX5_least_63 rfl rfl ?_
      refine j_get C ck5 0 0 (by decide) qw662 rfl rfl dX5_least_64 ?_
      refine j_bipush C dX5_least_67 (by decide) ?_
      refine j_iload_n C 2 dX5_least_69 rfl rfl ?_
      refine j_iadd C dX5_least_70 ?_
      refine j_lald (n := 75) (f := v) C 1 (9 + b.toNat) rfl (by omega) (by omega) (by decide) dX5_least_71 ?_
      refine j_lif_ge (tgt := 81) C (by omega) (by omega) dX5_least_72 dX5_least_73 (by decide) (fun c72 => ?_) (fun c72 => ?_)
      · refine j_iload_n C 4 dX5_least_81 rfl rfl ?_
        refine j_istore_n (L1 := [(3, .int (iI mo)), (5, .int (iI (mo + (btn (n + 1))))), (0, .ref (u 0)), (1, .int (iI b)), (2, .int (iI (b2i h))), (4, .int (iI (btn (n + 1))))]) C dX5_least_82 rfl (by decide) rfl ?_
        refine j_iload C 5 dX5_least_83 rfl ?_
        refine j_iconst C dX5_least_85 ?_
        refine j_idiv C (by omega) (by decide) dX5_least_86 ?_
        refine j_istore (L1 := [(4, .int (iI ((btn (n + 1)) / 2))), (3, .int (iI mo)), (5, .int (iI (mo + (btn (n + 1))))), (0, .ref (u 0)), (1, .int (iI b)), (2, .int (iI (b2i h)))]) C dX5_least_87 (by decide) rfl ?_
        refine j_goto (tgt := 37) C dX5_least_89 (by decide) ?_
        refine J.sub (L1 := [(0, .ref (u 0)), (1, .int (iI b)), (2, .int (iI (b2i h))), (3, .int (iI mo)), (4, .int (iI ((btn (n + 1)) / 2)))]) [3, 4, 5, 1, 0] rfl ?_
        have hq9 : r0 ≤ mo + btn (n + 1) := (by by_cases h9 : r0 ≤ mo + btn (n + 1); exact h9; exact absurd (hL.2.2 (mo + btn (n + 1)) (by omega) (by omega)) (by omega))
        rw [hb2]
        exact ih mo (by omega) ⟨by omega, by omega⟩ (by split <;> omega)
      · refine j_iload C 0 dX5_least_76 rfl ?_
        refine j_goto (tgt := 82) C dX5_least_78 (by decide) ?_
        refine j_istore_n (L1 := [(3, .int (iI (mo + (btn (n + 1))))), (5, .int (iI (mo + (btn (n + 1))))), (0, .ref (u 0)), (1, .int (iI b)), (2, .int (iI (b2i h))), (4, .int (iI (btn (n + 1))))]) C dX5_least_82 rfl (by decide) rfl ?_
        refine j_iload C 5 dX5_least_83 rfl ?_
        refine j_iconst C dX5_least_85 ?_
        refine j_idiv C (by omega) (by decide) dX5_least_86 ?_
        refine j_istore (L1 := [(4, .int (iI ((btn (n + 1)) / 2))), (3, .int (iI (mo + (btn (n + 1))))), (5, .int (iI (mo + (btn (n + 1))))), (0, .ref (u 0)), (1, .int (iI b)), (2, .int (iI (b2i h)))]) C dX5_least_87 (by decide) rfl ?_
        refine j_goto (tgt := 37) C dX5_least_89 (by decide) ?_
        refine J.sub (L1 := [(0, .ref (u 0)), (1, .int (iI b)), (2, .int (iI (b2i h))), (3, .int (iI (mo + (btn (n + 1))))), (4, .int (iI ((btn (n + 1)) / 2)))]) [3, 4, 5, 1, 0] rfl ?_
        have hq9 : mo + btn (n + 1) < r0 := (by by_cases h9 : mo + btn (n + 1) < r0; exact h9; exact absurd (Int.le_trans hL.2.1 (pulV_mono hm _ _ hr0.1 (Int.not_lt.mp h9))) (by omega))
        rw [hb2]
        exact ih (mo + btn (n + 1)) (by omega) ⟨by omega, by omega⟩ (by split <;> omega)

theorem c_X5_least (l : Launch) (g : Gh) (u : Nat → Nat) (v : Nat → Int) (sv ln th ap rm rd nw hh : Int) (b : Int) (h : Bool) (hm : MOK v) (hb4 : 0 ≤ b ∧ b ≤ 3) : CT l g yX5_least cX5_least 6 (some FieldType.int) ({ frames := 2, cells := 0, slots := 0, locals := 55 }) [.ref (u 0), .int (iI b), .int (iI (b2i h))] [(u 0, .inr (5, [.ref (u 1), .ref (u 2), .ref (u 3), .int (iI sv), .ref (u 4), .int (iI ln), .int (iI th), .int (iI ap), .int (iI rm), .ref (u 5), .int (iI rd), .int (iI nw), .ref (u 6), .long (lI hh)])), (u 1, aL g 75 v)] (PE (some (.int (iI (leaV v h b)))) [(u 0, .inr (5, [.ref (u 1), .ref (u 2), .ref (u 3), .int (iI sv), .ref (u 4), .int (iI ln), .int (iI th), .int (iI ap), .int (iI rm), .ref (u 5), .int (iI rd), .int (iI nw), .ref (u 6), .long (lI hh)])), (u 1, aL g 75 v)]) := by
  refine CT.intro (L0 := [(0, .ref (u 0)), (1, .int (iI b)), (2, .int (iI (b2i h)))]) (own := RX5) (by decide) rfl (Nat.le_of_ble_eq_true rfl) rfl ?_
  intro pX eX sX mX argsX belowX methX cX A C hr hlk
  obtain ⟨hP, hE0, hF, hrow0, hwt, hht, hlen, hent⟩ := id hm
  have hE : -10 ≤ v 3 ∧ v 3 ≤ 10 := by omega
  have hrow : ∀ i : Nat, (i : Int) < v 2 → 0 ≤ vR v i ∧ vR v i ≤ 4 := fun i hi => by have := hrow0 i hi; omega
  have hs9 := strV_rng hm b
  have hw9 := hwt b.toNat (by omega)
  have hw8 : v (9 + b.toNat) = vW v b.toNat := rfl
  refine j_aload_n C 0 dX5_least_0 rfl rfl ?_
  refine j_iload_n C 1 dX5_least_1 rfl rfl ?_
  refine j_callV (As := [.int (iI b)]) (rest := []) C yv_X5_strands qw752 (c_X5_strands l g u v sv ln th ap rm rd nw hh b hm (by omega)) (by decide) 0 rfl rfl rfl dX5_least_2 rfl (Nat.le_of_ble_eq_true rfl) (by decide) pf0 rfl (fun r9 w9 hq9 => ?_)
  obtain ⟨rfl, rfl⟩ := hq9
  refine J.to (L1 := [(0, .ref (u 0)), (1, .int (iI b)), (2, .int (iI (b2i h)))]) (S1 := [.int (iI (strV v b))]) (ws1 := [(u 0, .inr (5, [.ref (u 1), .ref (u 2), .ref (u 3), .int (iI sv), .ref (u 4), .int (iI ln), .int (iI th), .int (iI ap), .int (iI rm), .ref (u 5), .int (iI rd), .int (iI nw), .ref (u 6), .long (lI hh)])), (u 1, aL g 75 v)]) rfl rfl rfl ?_
  refine j_if_eq (tgt := 29) C (by omega) dX5_least_5 (by decide) (fun c5 => ?_) (fun c5 => ?_)
  · refine j_iconst C dX5_least_29 ?_
    exact j_iret C hr hlk dX5_least_30 ⟨by rw [leaV, lea, if_pos c5], rfl⟩ (by decide) (by decide)
  · refine j_aload_n C 0 dX5_least_8 rfl rfl ?_
    refine j_iload_n C 1 dX5_least_9 rfl rfl ?_
    refine j_ldc (x := 1000000) C qw804 (by decide) dX5_least_10 ?_
    refine j_iload_n C 2 dX5_least_12 rfl rfl ?_
    refine j_callV (As := [.int (iI b), .int (iI 1000000), .int (iI (b2i h))]) (rest := []) C yv_X5_pullOn qw805 (c_X5_pullOn l g u v sv ln th ap rm rd nw hh b 1000000 h hm (by omega) (by omega)) (by decide) 0 rfl rfl rfl dX5_least_13 rfl (Nat.le_of_ble_eq_true rfl) (by decide) pf0 rfl (fun r9 w9 hq9 => ?_)
    obtain ⟨rfl, rfl⟩ := hq9
    refine J.to (L1 := [(0, .ref (u 0)), (1, .int (iI b)), (2, .int (iI (b2i h)))]) (S1 := [.long (lI (pulV v h b 1000000))]) (ws1 := [(u 0, .inr (5, [.ref (u 1), .ref (u 2), .ref (u 3), .int (iI sv), .ref (u 4), .int (iI ln), .int (iI th), .int (iI ap), .int (iI rm), .ref (u 5), .int (iI rd), .int (iI nw), .ref (u 6), .long (lI hh)])), (u 1, aL g 75 v)]) rfl rfl rfl ?_
    have hp13 := pulV_rng hm (h := h) (b := b) (t := 1000000) (by omega)
    refine j_aload_n C 0 dX5_least_16 rfl rfl ?_
    refine j_get C ck5 0 0 (by decide) qw662 rfl rfl dX5_least_17 ?_
    refine j_bipush C dX5_least_20 (by decide) ?_
    refine j_iload_n C 1 dX5_least_22 rfl rfl ?_
    refine j_iadd C dX5_least_23 ?_
    refine j_lald (n := 75) (f := v) C 1 (9 + b.toNat) rfl (by omega) (by omega) (by decide) dX5_least_24 ?_
    refine j_lif_ge (tgt := 31) C (by omega) (by omega) dX5_least_25 dX5_least_26 (by decide) (fun c25 => ?_) (fun c25 => ?_)
    · refine j_iconst C dX5_least_31 ?_
      refine j_istore_n (L1 := [(3, .int (iI (-1))), (0, .ref (u 0)), (1, .int (iI b)), (2, .int (iI (b2i h)))]) C dX5_least_32 rfl (by decide) rfl ?_
      refine j_ldc (x := 524288) C qw814 (by decide) dX5_least_33 ?_
      refine j_istore (L1 := [(4, .int (iI 524288)), (3, .int (iI (-1))), (0, .ref (u 0)), (1, .int (iI b)), (2, .int (iI (b2i h)))]) C dX5_least_35 (by decide) rfl ?_
      obtain ⟨r0, hr0⟩ := IsL.ex (p := pulV v h b) (w := vW v b.toNat) c25
      have hr9 := hr0.1
      refine J.sub (L1 := [(0, .ref (u 0)), (1, .int (iI b)), (2, .int (iI (b2i h))), (3, .int (iI (-1))), (4, .int (iI 524288))]) [2, 3, 4, 1, 0] rfl ?_
      refine J.to (L1 := [(0, .ref (u 0)), (1, .int (iI b)), (2, .int (iI (b2i h))), (3, .int (iI (-1))), (4, .int (iI (btn 20)))]) (S1 := []) (ws1 := [(u 0, .inr (5, [.ref (u 1), .ref (u 2), .ref (u 3), .int (iI sv), .ref (u 4), .int (iI ln), .int (iI th), .int (iI ap), .int (iI rm), .ref (u 5), .int (iI rd), .int (iI nw), .ref (u 6), .long (lI hh)])), (u 1, aL g 75 v)]) rfl rfl rfl ?_
      refine lm_least C hm hb4 hr0 ?_ 20 (-1) (Nat.le_refl _) ⟨by decide, by omega⟩ (by have : btn 20 = 524288 := (by decide); rw [if_neg (show ¬ (20 = 0) by decide)]; omega)
      refine j_iload_n C 0 dX5_least_92 rfl rfl ?_
      refine j_iconst C dX5_least_93 ?_
      refine j_iadd C dX5_least_94 ?_
      exact j_iret C hr hlk dX5_least_95 ⟨by rw [leaV, lea, if_neg c5, lst_eq hr0, show r0 - 1 + 1 = r0 by omega], rfl⟩ (by decide) (by decide)
    · refine j_iconst C dX5_least_29 ?_
      exact j_iret C hr hlk dX5_least_30 ⟨by rw [leaV, lea, if_neg c5, lst_none (pulV_mono hm) c25], rfl⟩ (by decide) (by decide)

