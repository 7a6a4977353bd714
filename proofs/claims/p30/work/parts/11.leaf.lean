/-! the leaves: at, put, copyRow, isBlock, floorMod, and the rope s way -/
theorem c_X4_at (l : Launch) (g : Gh) (a n : Nat) (f : Nat → Int) (i : Int) (k : Nat) (hk : i = k) (hkn : k < n) (hn : n ≤ 1000) : CT l g yX4_at cX4_at 2 (some FieldType.int) ({ frames := 0, cells := 0, slots := 0, locals := 0 }) [.ref a, .int (iI i)] [(a, aI g n f)] (PE (some (.int (iI (f k)))) [(a, aI g n f)]) := by
  refine CT.intro (L0 := [(0, .ref a), (1, .int (iI i))]) (own := RX4) (by decide) rfl (Nat.le_of_ble_eq_true rfl) rfl ?_
  intro pX eX sX mX argsX belowX methX cX A C hr hlk
  refine j_iload_n C 1 dX4_at_0 rfl rfl ?_
  refine j_if_lt (tgt := 16) C (by omega) dX4_at_1 (by decide) (fun c1 => absurd c1 (by omega)) (fun c1 => ?_)
  refine j_iload_n C 1 dX4_at_4 rfl rfl ?_
  refine j_aload_n C 0 dX4_at_5 rfl rfl ?_
  refine j_ilen (n := n) (f := f) (v := n) C 0 rfl rfl dX4_at_6 ?_
  refine j_icmp_ge (tgt := 16) C (by omega) (by omega) dX4_at_7 (by decide) (fun c7 => absurd c7 (by omega)) (fun c7 => ?_)
  refine j_aload_n C 0 dX4_at_10 rfl rfl ?_
  refine j_iload_n C 1 dX4_at_11 rfl rfl ?_
  refine j_iald (n := n) (f := f) C 0 k rfl (by omega) (by omega) (by omega) dX4_at_12 ?_
  refine j_goto (tgt := 17) C dX4_at_13 (by decide) ?_
  exact j_iret C hr hlk dX4_at_17 ⟨rfl, rfl⟩ (by decide) (by decide)

theorem c_X4_put (l : Launch) (g : Gh) (a n : Nat) (f : Nat → Int) (i : Int) (k : Nat) (v : Int) (hk : i = k) (hkn : k < n) (hn : n ≤ 1000) : CT l g yX4_put cX4_put 3 none ({ frames := 0, cells := 0, slots := 0, locals := 0 }) [.ref a, .int (iI i), .int (iI v)] [(a, aI g n f)] (PE none [(a, aI g n (va_up f k v))]) := by
  refine CT.intro (L0 := [(0, .ref a), (1, .int (iI i)), (2, .int (iI v))]) (own := RX4) (by decide) rfl (Nat.le_of_ble_eq_true rfl) rfl ?_
  intro pX eX sX mX argsX belowX methX cX A C hr hlk
  refine j_iload_n C 1 dX4_put_0 rfl rfl ?_
  refine j_if_lt (tgt := 14) C (by omega) dX4_put_1 (by decide) (fun c1 => absurd c1 (by omega)) (fun c1 => ?_)
  refine j_iload_n C 1 dX4_put_4 rfl rfl ?_
  refine j_aload_n C 0 dX4_put_5 rfl rfl ?_
  refine j_ilen (n := n) (f := f) (v := n) C 0 rfl rfl dX4_put_6 ?_
  refine j_icmp_ge (tgt := 14) C (by omega) (by omega) dX4_put_7 (by decide) (fun c7 => absurd c7 (by omega)) (fun c7 => ?_)
  refine j_aload_n C 0 dX4_put_10 rfl rfl ?_
  refine j_iload_n C 1 dX4_put_11 rfl rfl ?_
  refine j_iload_n C 2 dX4_put_12 rfl rfl ?_
  refine j_iast (n := n) (f := f) (ws1 := [(a, aI g n (va_up f k v))]) C 0 k rfl (by omega) (by omega) (by omega) dX4_put_13 rfl ?_
  exact j_vret C hr hlk dX4_put_14 ⟨rfl, rfl⟩ (by decide) (by decide)

theorem cpy_0 (f h : Nat → Int) : cpy 0 f h = h := by
  funext j
  simp [cpy]
theorem cpy_succ (i : Nat) (f h : Nat → Int) : va_up (cpy i f h) i (f i) = cpy (i + 1) f h := by
  funext j
  simp only [va_up, cpy]
  by_cases h1 : j = i
  · subst h1; simp
  · rw [if_neg h1]
    by_cases h2 : j < i
    · rw [if_pos h2, if_pos (by omega)]
    · rw [if_neg h2, if_neg (by omega)]
theorem lp_copyRow {p : Program} {l : Launch} {e : Env} {s : State} {m : MethodId} {args : Array Value} {below : List Frame} {meth : Method} {c : Code} {g : Gh} {A : Nat → Prop} {Q : State → Prop} (C : Cx p g s m args c cX4_copyRow 3 RX4 A) {a b n0 : Nat} {f h : Nat → Int} (hn0 : n0 ≤ 1000) (kk : J p l e ({ frames := 0, cells := 0, slots := 0, locals := 0 } : Room) s m args below meth c g A 3 26 [(0, .ref a), (1, .ref b), (2, .int (iI ((n0 : Int))))] [] [(a, aI g n0 f), (b, aI g n0 (cpy n0 f h))] 0 0 Q) : ∀ (n i : Nat), i + n = n0 → J p l e ({ frames := 0, cells := 0, slots := 0, locals := 0 } : Room) s m args below meth c g A 3 2 [(0, .ref a), (1, .ref b), (2, .int (iI ((i : Int))))] [] [(a, aI g n0 f), (b, aI g n0 (cpy i f h))] 0 0 Q := by
  intro n
  induction n with
  | zero =>
    intro i hi
    have hi9 : i = n0 := by omega
    refine j_iload_n C 2 dX4_copyRow_2 rfl rfl ?_
    refine j_aload_n C 1 dX4_copyRow_3 rfl rfl ?_
    refine j_ilen (n := n0) (f := cpy i f h) (v := n0) C 1 rfl rfl dX4_copyRow_4 ?_
    refine j_icmp_ge (tgt := 26) C (by omega) (by omega) dX4_copyRow_5 (by decide) (fun c5 => ?_) (fun c5 => absurd c5 (by omega))
    refine J.sub (L1 := [(0, .ref a), (1, .ref b), (2, .int (iI ((i : Int))))]) [0, 1, 2] rfl ?_
    rw [hi9]
    exact kk
  | succ n ih =>
    intro i hi
    refine j_iload_n C 2 dX4_copyRow_2 rfl rfl ?_
    refine j_aload_n C 1 dX4_copyRow_3 rfl rfl ?_
    refine j_ilen (n := n0) (f := cpy i f h) (v := n0) C 1 rfl rfl dX4_copyRow_4 ?_
    refine j_icmp_ge (tgt := 26) C (by omega) (by omega) dX4_copyRow_5 (by decide) (fun c5 => absurd c5 (by omega)) (fun c5 => ?_)
    refine j_iload_n C 2 dX4_copyRow_8 rfl rfl ?_
    refine j_aload_n C 0 dX4_copyRow_9 rfl rfl ?_
    refine j_ilen (n := n0) (f := f) (v := n0) C 0 rfl rfl dX4_copyRow_10 ?_
    refine j_icmp_ge (tgt := 26) C (by omega) (by omega) dX4_copyRow_11 (by decide) (fun c11 => absurd c11 (by omega)) (fun c11 => ?_)
    refine j_aload_n C 1 dX4_copyRow_14 rfl rfl ?_
    refine j_iload_n C 2 dX4_copyRow_15 rfl rfl ?_
    refine j_aload_n C 0 dX4_copyRow_16 rfl rfl ?_
    refine j_iload_n C 2 dX4_copyRow_17 rfl rfl ?_
    refine j_iald (n := n0) (f := f) C 0 i rfl (by omega) (by omega) (by omega) dX4_copyRow_18 ?_
    refine j_iast (n := n0) (f := cpy i f h) (ws1 := [(a, aI g n0 f), (b, aI g n0 (va_up (cpy i f h) i (f i)))]) C 1 i rfl (by omega) (by omega) (by omega) dX4_copyRow_19 rfl ?_
    refine j_iinc (L1 := [(2, .int (iI (((i : Int)) + 1))), (0, .ref a), (1, .ref b)]) C 2 dX4_copyRow_20 rfl (by decide) rfl ?_
    refine j_goto (tgt := 2) C dX4_copyRow_23 (by decide) ?_
    refine J.sub (L1 := [(0, .ref a), (1, .ref b), (2, .int (iI (((i : Int)) + 1)))]) [1, 2, 0] rfl ?_
    rw [cpy_succ]
    exact ih (i + 1) (by omega)

theorem c_X4_copyRow (l : Launch) (g : Gh) (a b n0 : Nat) (f h : Nat → Int) (hn0 : n0 ≤ 1000) : CT l g yX4_copyRow cX4_copyRow 3 none ({ frames := 0, cells := 0, slots := 0, locals := 0 }) [.ref a, .ref b] [(a, aI g n0 f), (b, aI g n0 h)] (PE none [(a, aI g n0 f), (b, aI g n0 (cpy n0 f h))]) := by
  refine CT.intro (L0 := [(0, .ref a), (1, .ref b)]) (own := RX4) (by decide) rfl (Nat.le_of_ble_eq_true rfl) rfl ?_
  intro pX eX sX mX argsX belowX methX cX A C hr hlk
  refine j_iconst C dX4_copyRow_0 ?_
  refine j_istore_n (L1 := [(2, .int (iI 0)), (0, .ref a), (1, .ref b)]) C dX4_copyRow_1 rfl (by decide) rfl ?_
  refine J.sub (L1 := [(0, .ref a), (1, .ref b), (2, .int (iI 0))]) [1, 2, 0] rfl ?_
  rw [← cpy_0 f h]
  refine lp_copyRow C hn0 ?_ n0 0 (by omega)
  exact j_vret C hr hlk dX4_copyRow_26 ⟨rfl, rfl⟩ (by decide) (by decide)

theorem pf2r (pre : va_W) (n : Nat) (mid post : va_W) : ∀ w : va_W, (pre ++ (w.drop n ++ (mid ++ (w.take n ++ post)))).Perm (w ++ (pre ++ (mid ++ post))) := fun w => by
  have h1 : (pre ++ (w.drop n ++ (mid ++ (w.take n ++ post)))).Perm (w.take n ++ (pre ++ (w.drop n ++ (mid ++ post)))) := by
    have h := pf1 (pre ++ (w.drop n ++ mid)) post (w.take n)
    simp only [List.append_assoc] at h
    exact h
  have h2 := List.Perm.append_left (w.take n) (pf1 pre (mid ++ post) (w.drop n))
  have h3 := h1.trans h2
  rw [show w.take n ++ (w.drop n ++ (pre ++ (mid ++ post))) = w ++ (pre ++ (mid ++ post)) by rw [← List.append_assoc, List.take_append_drop]] at h3
  exact h3
theorem c_X4_isBlock (l : Launch) (g : Gh) (b : Int) (hb : -2147483648 ≤ b ∧ b < 2147483648) : CT l g yX4_isBlock cX4_isBlock 1 (some FieldType.boolean) ({ frames := 0, cells := 0, slots := 0, locals := 0 }) [.int (iI b)] [] (PE (some (.int (iI (if 0 ≤ b ∧ b < 4 then 1 else 0)))) []) := by
  refine CT.intro (L0 := [(0, .int (iI b))]) (own := RX4) (by decide) rfl (Nat.le_of_ble_eq_true rfl) rfl ?_
  intro pX eX sX mX argsX belowX methX cX A C hr hlk
  refine j_iload_n C 0 dX4_isBlock_0 rfl rfl ?_
  refine j_if_lt (tgt := 13) C (by omega) dX4_isBlock_1 (by decide) (fun c1 => ?_) (fun c1 => ?_)
  · refine j_iconst C dX4_isBlock_13 ?_
    exact j_zret C hr hlk rfl dX4_isBlock_14 ⟨by rw [if_neg (by omega)], rfl⟩ (by decide) (by decide)
  · refine j_iload_n C 0 dX4_isBlock_4 rfl rfl ?_
    refine j_iconst C dX4_isBlock_5 ?_
    refine j_icmp_ge (tgt := 13) C (by omega) (by decide) dX4_isBlock_6 (by decide) (fun c6 => ?_) (fun c6 => ?_)
    · refine j_iconst C dX4_isBlock_13 ?_
      exact j_zret C hr hlk rfl dX4_isBlock_14 ⟨by rw [if_neg (by omega)], rfl⟩ (by decide) (by decide)
    · refine j_iconst C dX4_isBlock_9 ?_
      refine j_goto (tgt := 14) C dX4_isBlock_10 (by decide) ?_
      exact j_zret C hr hlk rfl dX4_isBlock_14 ⟨by rw [if_pos (by omega)], rfl⟩ (by decide) (by decide)

theorem lp_pulleysOn {p : Program} {l : Launch} {e : Env} {s : State} {m : MethodId} {args : Array Value} {below : List Frame} {meth : Method} {c : Code} {g : Gh} {A : Nat → Prop} {Q : State → Prop} (C : Cx p g s m args c cX1_pulleysOn 4 RX1 A) {a b : Nat} {row : Nat → Int} {P E F : Int} {bl : Int} (hP : 0 ≤ P ∧ P ≤ 10) (hb : -10 ≤ bl ∧ bl ≤ 10) (hrow : ∀ i : Nat, (i : Int) < P → 0 ≤ row i ∧ row i ≤ 4) (kk : J p l e ({ frames := 0, cells := 0, slots := 0, locals := 0 } : Room) s m args below meth c g A 4 40 [(0, .ref a), (1, .int (iI bl)), (2, .int (iI (cnt row bl P.toNat))), (3, .int (iI ((P.toNat : Int))))] [] [(a, .inr (1, [.ref b, .int (iI P), .int (iI E), .int (iI F)])), (b, aI g 10 row)] 0 0 Q) : ∀ (n i : Nat), (i : Int) + n = P → J p l e ({ frames := 0, cells := 0, slots := 0, locals := 0 } : Room) s m args below meth c g A 4 4 [(0, .ref a), (1, .int (iI bl)), (2, .int (iI (cnt row bl i))), (3, .int (iI ((i : Int))))] [] [(a, .inr (1, [.ref b, .int (iI P), .int (iI E), .int (iI F)])), (b, aI g 10 row)] 0 0 Q := by
  intro n
  induction n with
  | zero =>
    intro i hi
    have hi9 : i = P.toNat := by omega
    refine j_iload_n C 3 dX1_pulleysOn_4 rfl rfl ?_
    refine j_aload_n C 0 dX1_pulleysOn_5 rfl rfl ?_
    refine j_get C ck1 0 1 (by decide) qw35 rfl rfl dX1_pulleysOn_6 ?_
    refine j_icmp_ge (tgt := 40) C (by omega) (by omega) dX1_pulleysOn_9 (by decide) (fun c9 => ?_) (fun c9 => absurd c9 (by omega))
    refine J.sub (L1 := [(0, .ref a), (1, .int (iI bl)), (2, .int (iI (cnt row bl i))), (3, .int (iI ((i : Int))))]) [0, 1, 2, 3] rfl ?_
    rw [hi9]
    exact kk
  | succ n ih =>
    intro i hi
    have hr9 := hrow i (by omega)
    have hc9 := cnt_rng row bl i
    refine j_iload_n C 3 dX1_pulleysOn_4 rfl rfl ?_
    refine j_aload_n C 0 dX1_pulleysOn_5 rfl rfl ?_
    refine j_get C ck1 0 1 (by decide) qw35 rfl rfl dX1_pulleysOn_6 ?_
    refine j_icmp_ge (tgt := 40) C (by omega) (by omega) dX1_pulleysOn_9 (by decide) (fun c9 => absurd c9 (by omega)) (fun c9 => ?_)
    refine j_iload_n C 3 dX1_pulleysOn_12 rfl rfl ?_
    refine j_aload_n C 0 dX1_pulleysOn_13 rfl rfl ?_
    refine j_get C ck1 0 0 (by decide) qw33 rfl rfl dX1_pulleysOn_14 ?_
    refine j_ilen (n := 10) (f := row) (v := 10) C 1 rfl rfl dX1_pulleysOn_17 ?_
    refine j_icmp_ge (tgt := 40) C (by omega) (by decide) dX1_pulleysOn_18 (by decide) (fun c18 => absurd c18 (by omega)) (fun c18 => ?_)
    refine j_aload_n C 0 dX1_pulleysOn_21 rfl rfl ?_
    refine j_get C ck1 0 0 (by decide) qw33 rfl rfl dX1_pulleysOn_22 ?_
    refine j_iload_n C 3 dX1_pulleysOn_25 rfl rfl ?_
    refine j_iald (n := 10) (f := row) C 1 i rfl rfl (by omega) (by decide) dX1_pulleysOn_26 ?_
    refine j_iload_n C 1 dX1_pulleysOn_27 rfl rfl ?_
    refine j_icmp_ne (tgt := 34) C (by omega) (by omega) dX1_pulleysOn_28 (by decide) (fun c28 => ?_) (fun c28 => ?_)
    · refine j_iinc (L1 := [(3, .int (iI (((i : Int)) + 1))), (0, .ref a), (1, .int (iI bl)), (2, .int (iI (cnt row bl i)))]) C 3 dX1_pulleysOn_34 rfl (by decide) rfl ?_
      refine j_goto (tgt := 4) C dX1_pulleysOn_37 (by decide) ?_
      refine J.sub (L1 := [(0, .ref a), (1, .int (iI bl)), (2, .int (iI (cnt row bl i))), (3, .int (iI (((i : Int)) + 1)))]) [1, 2, 3, 0] rfl ?_
      have h9 := ih (i + 1) (by omega)
      rw [show cnt row bl (i + 1) = cnt row bl i by simp only [cnt]; rw [if_neg c28]; omega] at h9
      exact h9
    · refine j_iinc (L1 := [(2, .int (iI ((cnt row bl i) + 1))), (0, .ref a), (1, .int (iI bl)), (3, .int (iI ((i : Int))))]) C 2 dX1_pulleysOn_31 rfl (by decide) rfl ?_
      refine j_iinc (L1 := [(3, .int (iI (((i : Int)) + 1))), (2, .int (iI ((cnt row bl i) + 1))), (0, .ref a), (1, .int (iI bl))]) C 3 dX1_pulleysOn_34 rfl (by decide) rfl ?_
      refine j_goto (tgt := 4) C dX1_pulleysOn_37 (by decide) ?_
      refine J.sub (L1 := [(0, .ref a), (1, .int (iI bl)), (2, .int (iI ((cnt row bl i) + 1))), (3, .int (iI (((i : Int)) + 1)))]) [2, 3, 1, 0] rfl ?_
      have h9 := ih (i + 1) (by omega)
      rw [show cnt row bl (i + 1) = cnt row bl i + 1 by simp only [cnt]; rw [if_pos c28]] at h9
      exact h9

theorem c_X1_pulleysOn (l : Launch) (g : Gh) (a b : Nat) (row : Nat → Int) (P E F : Int) (bl : Int) (hP : 0 ≤ P ∧ P ≤ 10) (hb : -10 ≤ bl ∧ bl ≤ 10) (hrow : ∀ i : Nat, (i : Int) < P → 0 ≤ row i ∧ row i ≤ 4) : CT l g yX1_pulleysOn cX1_pulleysOn 4 (some FieldType.int) ({ frames := 0, cells := 0, slots := 0, locals := 0 }) [.ref a, .int (iI bl)] [(a, .inr (1, [.ref b, .int (iI P), .int (iI E), .int (iI F)])), (b, aI g 10 row)] (PE (some (.int (iI (cnt row bl P.toNat)))) [(a, .inr (1, [.ref b, .int (iI P), .int (iI E), .int (iI F)])), (b, aI g 10 row)]) := by
  refine CT.intro (L0 := [(0, .ref a), (1, .int (iI bl))]) (own := RX1) (by decide) rfl (Nat.le_of_ble_eq_true rfl) rfl ?_
  intro pX eX sX mX argsX belowX methX cX A C hr hlk
  refine j_iconst C dX1_pulleysOn_0 ?_
  refine j_istore_n (L1 := [(2, .int (iI 0)), (0, .ref a), (1, .int (iI bl))]) C dX1_pulleysOn_1 rfl (by decide) rfl ?_
  refine j_iconst C dX1_pulleysOn_2 ?_
  refine j_istore_n (L1 := [(3, .int (iI 0)), (2, .int (iI 0)), (0, .ref a), (1, .int (iI bl))]) C dX1_pulleysOn_3 rfl (by decide) rfl ?_
  refine J.sub (L1 := [(0, .ref a), (1, .int (iI bl)), (2, .int (iI 0)), (3, .int (iI 0))]) [2, 3, 1, 0] rfl ?_
  refine lp_pulleysOn C hP hb hrow ?_ P.toNat 0 (by omega)
  refine j_iload_n C 2 dX1_pulleysOn_40 rfl rfl ?_
  exact j_iret C hr hlk dX1_pulleysOn_41 ⟨rfl, rfl⟩ (by decide) (by decide)

