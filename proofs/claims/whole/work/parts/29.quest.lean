/-! the reference: its questions -/
theorem lm_forceForAll {p : Program} {l : Launch} {e : Env} {s : State} {m : MethodId} {args : Array Value} {below : List Frame} {meth : Method} {c : Code} {g : Gh} {A : Nat → Prop} (C : Cx p g s m args c cX5_forceForAll 4 RX5 A) (hr : meth.sig.returnType = some .int) (hlk : meth.locks = false) {u : Nat → Nat} {v : Nat → Int} {sv ln th ap rm rd nw hh : Int} (hm : MOK v) : ∀ (n i : Nat), i + n = 4 → (0 ≤ ffa (kV v) i ∧ ffa (kV v) i ≤ 1000000) → J p l e ({ frames := 3, cells := 0, slots := 0, locals := 80 } : Room) s m args below meth c g A 4 4 [(0, .ref (u 0)), (1, .int (iI (ffa (kV v) i))), (2, .int (iI ((i : Int))))] [] [(u 0, .inr (5, [.ref (u 1), .ref (u 2), .ref (u 3), .int (iI sv), .ref (u 4), .int (iI ln), .int (iI th), .int (iI ap), .int (iI rm), .ref (u 5), .int (iI rd), .int (iI nw), .ref (u 6), .long (lI hh)])), (u 1, aL g 75 v)] 0 0 (MQ below (QE g A (PE (some (.int (iI (ffa (kV v) 4)))) [(u 0, .inr (5, [.ref (u 1), .ref (u 2), .ref (u 3), .int (iI sv), .ref (u 4), .int (iI ln), .int (iI 0), .int (iI ap), .int (iI rm), .ref (u 5), .int (iI rd), .int (iI nw), .ref (u 6), .long (lI hh)])), (u 1, aL g 75 v)])) args s 0 0 A) := by
  intro n
  induction n with
  | zero =>
    intro i hi hf
    have hi9 : i = 4 := by omega
    subst hi9
    refine j_iload_n C 2 dX5_forceForAll_4 rfl rfl ?_
    refine j_iconst C dX5_forceForAll_5 ?_
    refine j_icmp_ge (tgt := 68) C (by omega) (by decide) dX5_forceForAll_6 (by decide) (fun c6 => ?_) (fun c6 => absurd c6 (by omega))
    refine j_aload_n C 0 dX5_forceForAll_68 rfl rfl ?_
    refine j_iload_n C 1 dX5_forceForAll_69 rfl rfl ?_
    refine j_callV (As := [.int (iI (ffa (kV v) 4))]) (rest := []) C yv_X5_tells qw734 (c_X5_tells l g u v sv ln th ap rm rd nw hh (ffa (kV v) 4)) (by decide) 0 rfl rfl rfl dX5_forceForAll_70 rfl (Nat.le_of_ble_eq_true rfl) (by decide) (pf1 [] [(u 1, aL g 75 v)]) rfl (fun r9 w9 hq9 => ?_)
    obtain ⟨rfl, rfl⟩ := hq9
    refine J.to (L1 := [(0, .ref (u 0)), (1, .int (iI (ffa (kV v) 4))), (2, .int (iI (((4 : Nat) : Int))))]) (S1 := [.int (iI (ffa (kV v) 4))]) (ws1 := [(u 0, .inr (5, [.ref (u 1), .ref (u 2), .ref (u 3), .int (iI sv), .ref (u 4), .int (iI ln), .int (iI 0), .int (iI ap), .int (iI rm), .ref (u 5), .int (iI rd), .int (iI nw), .ref (u 6), .long (lI hh)])), (u 1, aL g 75 v)]) rfl rfl rfl ?_
    exact j_iret C hr hlk dX5_forceForAll_73 ⟨rfl, rfl⟩ (by decide) (by decide)
  | succ n ih =>
    intro i hi hf
    obtain ⟨hP, hE0, hF, hrow0, hwt, hht, hlen, hent⟩ := id hm
    have hE : -10 ≤ v 3 ∧ v 3 ≤ 10 := by omega
    have hrow : ∀ i : Nat, (i : Int) < v 2 → 0 ≤ vR v i ∧ vR v i ≤ 4 := fun i hi => by have := hrow0 i hi; omega
    have hs9 := strV_rng hm (i : Int)
    have hh9 := hht i (by omega)
    have hh8 : v (13 + i) = vH v i := rfl
    have hl9 : -1 ≤ leaV v true (i : Int) ∧ leaV v true (i : Int) ≤ 1000000 := lea_rng ..
    have hfs : ffa (kV v) (i + 1) = if ffa (kV v) i = -1 then -1 else if 0 < strV v (i : Int) ∧ vH v i < 9000 then (if leaV v true (i : Int) = -1 then -1 else if ffa (kV v) i < leaV v true (i : Int) then leaV v true (i : Int) else ffa (kV v) i) else ffa (kV v) i := rfl
    refine j_iload_n C 2 dX5_forceForAll_4 rfl rfl ?_
    refine j_iconst C dX5_forceForAll_5 ?_
    refine j_icmp_ge (tgt := 68) C (by omega) (by decide) dX5_forceForAll_6 (by decide) (fun c6 => absurd c6 (by omega)) (fun c6 => ?_)
    refine j_aload_n C 0 dX5_forceForAll_9 rfl rfl ?_
    refine j_iload_n C 2 dX5_forceForAll_10 rfl rfl ?_
    refine j_callV (As := [.int (iI ((i : Int)))]) (rest := []) C yv_X5_strands qw752 (c_X5_strands l g u v sv ln th ap rm rd nw hh ((i : Int)) hm (by omega)) (by decide) 0 rfl rfl rfl dX5_forceForAll_11 rfl (Nat.le_of_ble_eq_true rfl) (by decide) pf0 rfl (fun r9 w9 hq9 => ?_)
    obtain ⟨rfl, rfl⟩ := hq9
    refine J.to (L1 := [(0, .ref (u 0)), (1, .int (iI (ffa (kV v) i))), (2, .int (iI ((i : Int))))]) (S1 := [.int (iI (strV v ((i : Int))))]) (ws1 := [(u 0, .inr (5, [.ref (u 1), .ref (u 2), .ref (u 3), .int (iI sv), .ref (u 4), .int (iI ln), .int (iI th), .int (iI ap), .int (iI rm), .ref (u 5), .int (iI rd), .int (iI nw), .ref (u 6), .long (lI hh)])), (u 1, aL g 75 v)]) rfl rfl rfl ?_
    refine j_if_le (tgt := 62) C (by omega) dX5_forceForAll_14 (by decide) (fun c14 => ?_) (fun c14 => ?_)
    · refine j_iinc (L1 := [(2, .int (iI (((i : Int)) + 1))), (0, .ref (u 0)), (1, .int (iI (ffa (kV v) i)))]) C 2 dX5_forceForAll_62 rfl (by decide) rfl ?_
      refine j_goto (tgt := 4) C dX5_forceForAll_65 (by decide) ?_
      refine J.sub (L1 := [(0, .ref (u 0)), (1, .int (iI (ffa (kV v) i))), (2, .int (iI (((i : Int)) + 1)))]) [1, 2, 0] rfl ?_
      have e9 : ffa (kV v) (i + 1) = ffa (kV v) i := by rw [hfs, if_neg (by omega), if_neg (fun h9 => by omega)]
      have h9 := ih (i + 1) (by omega) (by rw [e9]; omega)
      rw [e9] at h9
      exact h9
    · refine j_aload_n C 0 dX5_forceForAll_17 rfl rfl ?_
      refine j_get C ck5 0 0 (by decide) qw662 rfl rfl dX5_forceForAll_18 ?_
      refine j_bipush C dX5_forceForAll_21 (by decide) ?_
      refine j_iload_n C 2 dX5_forceForAll_23 rfl rfl ?_
      refine j_iadd C dX5_forceForAll_24 ?_
      refine j_lald (n := 75) (f := v) C 1 (13 + i) rfl (by omega) (by omega) (by decide) dX5_forceForAll_25 ?_
      refine j_ldc2 (x := 9000) C qw799 (by decide) dX5_forceForAll_26 ?_
      refine j_lif_ge (tgt := 62) C (by omega) (by decide) dX5_forceForAll_29 dX5_forceForAll_30 (by decide) (fun c29 => ?_) (fun c29 => ?_)
      · refine j_iinc (L1 := [(2, .int (iI (((i : Int)) + 1))), (0, .ref (u 0)), (1, .int (iI (ffa (kV v) i)))]) C 2 dX5_forceForAll_62 rfl (by decide) rfl ?_
        refine j_goto (tgt := 4) C dX5_forceForAll_65 (by decide) ?_
        refine J.sub (L1 := [(0, .ref (u 0)), (1, .int (iI (ffa (kV v) i))), (2, .int (iI (((i : Int)) + 1)))]) [1, 2, 0] rfl ?_
        have e9 : ffa (kV v) (i + 1) = ffa (kV v) i := by rw [hfs, if_neg (by omega), if_neg (fun h9 => by omega)]
        have h9 := ih (i + 1) (by omega) (by rw [e9]; omega)
        rw [e9] at h9
        exact h9
      · refine j_aload_n C 0 dX5_forceForAll_33 rfl rfl ?_
        refine j_iload_n C 2 dX5_forceForAll_34 rfl rfl ?_
        refine j_iconst C dX5_forceForAll_35 ?_
        refine j_callV (As := [.int (iI ((i : Int))), .int (iI 1)]) (rest := []) C yv_X5_least qw800 (c_X5_least l g u v sv ln th ap rm rd nw hh ((i : Int)) true hm (by omega)) (by decide) 0 rfl rfl rfl dX5_forceForAll_36 rfl (Nat.le_of_ble_eq_true rfl) (by decide) pf0 rfl (fun r9 w9 hq9 => ?_)
        obtain ⟨rfl, rfl⟩ := hq9
        refine J.to (L1 := [(0, .ref (u 0)), (1, .int (iI (ffa (kV v) i))), (2, .int (iI ((i : Int))))]) (S1 := [.int (iI (leaV v true ((i : Int))))]) (ws1 := [(u 0, .inr (5, [.ref (u 1), .ref (u 2), .ref (u 3), .int (iI sv), .ref (u 4), .int (iI ln), .int (iI th), .int (iI ap), .int (iI rm), .ref (u 5), .int (iI rd), .int (iI nw), .ref (u 6), .long (lI hh)])), (u 1, aL g 75 v)]) rfl rfl rfl ?_
        refine j_istore_n (L1 := [(3, .int (iI (leaV v true ((i : Int))))), (0, .ref (u 0)), (1, .int (iI (ffa (kV v) i))), (2, .int (iI ((i : Int))))]) C dX5_forceForAll_39 rfl (by decide) rfl ?_
        refine j_iload_n C 0 dX5_forceForAll_40 rfl rfl ?_
        refine j_iconst C dX5_forceForAll_41 ?_
        refine j_icmp_ne (tgt := 51) C (by omega) (by decide) dX5_forceForAll_42 (by decide) (fun c42 => ?_) (fun c42 => ?_)
        · refine j_iload_n C 0 dX5_forceForAll_51 rfl rfl ?_
          refine j_iload_n C 2 dX5_forceForAll_52 rfl rfl ?_
          refine j_icmp_le (tgt := 60) C (by omega) (by omega) dX5_forceForAll_53 (by decide) (fun c53 => ?_) (fun c53 => ?_)
          · refine j_iload_n C 2 dX5_forceForAll_60 rfl rfl ?_
            refine j_istore_n (L1 := [(1, .int (iI (ffa (kV v) i))), (3, .int (iI (leaV v true ((i : Int))))), (0, .ref (u 0)), (2, .int (iI ((i : Int))))]) C dX5_forceForAll_61 rfl (by decide) rfl ?_
            refine j_iinc (L1 := [(2, .int (iI (((i : Int)) + 1))), (1, .int (iI (ffa (kV v) i))), (3, .int (iI (leaV v true ((i : Int))))), (0, .ref (u 0))]) C 3 dX5_forceForAll_62 rfl (by decide) rfl ?_
            refine j_goto (tgt := 4) C dX5_forceForAll_65 (by decide) ?_
            refine J.sub (L1 := [(0, .ref (u 0)), (1, .int (iI (ffa (kV v) i))), (2, .int (iI (((i : Int)) + 1)))]) [3, 1, 0] rfl ?_
            have e9 : ffa (kV v) (i + 1) = ffa (kV v) i := by rw [hfs, if_neg (by omega), if_pos ⟨c14, c29⟩, if_neg c42]; exact if_neg (by omega)
            have h9 := ih (i + 1) (by omega) (by rw [e9]; omega)
            rw [e9] at h9
            exact h9
          · refine j_iload_n C 0 dX5_forceForAll_56 rfl rfl ?_
            refine j_goto (tgt := 61) C dX5_forceForAll_57 (by decide) ?_
            refine j_istore_n (L1 := [(1, .int (iI (leaV v true ((i : Int))))), (3, .int (iI (leaV v true ((i : Int))))), (0, .ref (u 0)), (2, .int (iI ((i : Int))))]) C dX5_forceForAll_61 rfl (by decide) rfl ?_
            refine j_iinc (L1 := [(2, .int (iI (((i : Int)) + 1))), (1, .int (iI (leaV v true ((i : Int))))), (3, .int (iI (leaV v true ((i : Int))))), (0, .ref (u 0))]) C 3 dX5_forceForAll_62 rfl (by decide) rfl ?_
            refine j_goto (tgt := 4) C dX5_forceForAll_65 (by decide) ?_
            refine J.sub (L1 := [(0, .ref (u 0)), (1, .int (iI (leaV v true ((i : Int))))), (2, .int (iI (((i : Int)) + 1)))]) [3, 1, 0] rfl ?_
            have e9 : ffa (kV v) (i + 1) = leaV v true ((i : Int)) := by rw [hfs, if_neg (by omega), if_pos ⟨c14, c29⟩, if_neg c42]; exact if_pos c53
            have h9 := ih (i + 1) (by omega) (by rw [e9]; omega)
            rw [e9] at h9
            exact h9
        · refine j_aload_n C 1 dX5_forceForAll_45 rfl rfl ?_
          refine j_iconst C dX5_forceForAll_46 ?_
          refine j_callV (As := [.int (iI (-1))]) (rest := []) C yv_X5_tells qw734 (c_X5_tells l g u v sv ln th ap rm rd nw hh (-1)) (by decide) 0 rfl rfl rfl dX5_forceForAll_47 rfl (Nat.le_of_ble_eq_true rfl) (by decide) (pf1 [] [(u 1, aL g 75 v)]) rfl (fun r9 w9 hq9 => ?_)
          obtain ⟨rfl, rfl⟩ := hq9
          refine J.to (L1 := [(3, .int (iI (leaV v true ((i : Int))))), (0, .ref (u 0)), (1, .int (iI (ffa (kV v) i))), (2, .int (iI ((i : Int))))]) (S1 := [.int (iI (-1))]) (ws1 := [(u 0, .inr (5, [.ref (u 1), .ref (u 2), .ref (u 3), .int (iI sv), .ref (u 4), .int (iI ln), .int (iI 0), .int (iI ap), .int (iI rm), .ref (u 5), .int (iI rd), .int (iI nw), .ref (u 6), .long (lI hh)])), (u 1, aL g 75 v)]) rfl rfl rfl ?_
          exact j_iret C hr hlk dX5_forceForAll_50 ⟨by rw [show ffa (kV v) 4 = -1 by rw [show 4 = i + 1 + n by omega]; exact ffa_stay (by rw [hfs, if_neg (by omega), if_pos ⟨c14, c29⟩, if_pos c42]) n], rfl⟩ (by decide) (by decide)

theorem c_X5_forceForAll (l : Launch) (g : Gh) (u : Nat → Nat) (v : Nat → Int) (sv ln th ap rm rd nw hh : Int) (hm : MOK v)  : CT l g yX5_forceForAll cX5_forceForAll 4 (some FieldType.int) ({ frames := 3, cells := 0, slots := 0, locals := 80 }) [.ref (u 0)] [(u 0, .inr (5, [.ref (u 1), .ref (u 2), .ref (u 3), .int (iI sv), .ref (u 4), .int (iI ln), .int (iI th), .int (iI ap), .int (iI rm), .ref (u 5), .int (iI rd), .int (iI nw), .ref (u 6), .long (lI hh)])), (u 1, aL g 75 v)] (PE (some (.int (iI (ffa (kV v) 4)))) [(u 0, .inr (5, [.ref (u 1), .ref (u 2), .ref (u 3), .int (iI sv), .ref (u 4), .int (iI ln), .int (iI 0), .int (iI ap), .int (iI rm), .ref (u 5), .int (iI rd), .int (iI nw), .ref (u 6), .long (lI hh)])), (u 1, aL g 75 v)]) := by
  refine CT.intro (L0 := [(0, .ref (u 0))]) (own := RX5) (by decide) rfl (Nat.le_of_ble_eq_true rfl) rfl ?_
  intro pX eX sX mX argsX belowX methX cX A C hr hlk
  obtain ⟨hP, hE0, hF, hrow0, hwt, hht, hlen, hent⟩ := id hm
  have hE : -10 ≤ v 3 ∧ v 3 ≤ 10 := by omega
  have hrow : ∀ i : Nat, (i : Int) < v 2 → 0 ≤ vR v i ∧ vR v i ≤ 4 := fun i hi => by have := hrow0 i hi; omega
  refine j_iconst C dX5_forceForAll_0 ?_
  refine j_istore_n (L1 := [(1, .int (iI 0)), (0, .ref (u 0))]) C dX5_forceForAll_1 rfl (by decide) rfl ?_
  refine j_iconst C dX5_forceForAll_2 ?_
  refine j_istore_n (L1 := [(2, .int (iI 0)), (1, .int (iI 0)), (0, .ref (u 0))]) C dX5_forceForAll_3 rfl (by decide) rfl ?_
  refine J.sub (L1 := [(0, .ref (u 0)), (1, .int (iI 0)), (2, .int (iI 0))]) [2, 1, 0] rfl ?_
  exact lm_forceForAll C hr hlk hm 4 0 rfl (show (0 : Int) ≤ 0 ∧ (0 : Int) ≤ 1000000 by decide)

theorem sf_rng {F f : Int} (hF : 0 ≤ F ∧ F ≤ 30) (hf : 0 ≤ f ∧ f ≤ 1000000) : ∀ {n : Nat}, n ≤ 10 → 0 ≤ sf F f n ∧ sf F f n ≤ n * 8388608000000
  | 0, _ => ⟨Int.le_refl _, Int.le_refl _⟩
  | n + 1, hn => by
    have ih := sf_rng hF hf (n := n) (by omega)
    have h1 := fbn_le (h := true) (n := 2 * n + 1) hF hf (by omega)
    have h2 := fbn_le (h := true) (n := 2 * n + 2) hF hf (by omega)
    simp only [sf]
    omega
theorem lm_pulleysFor {p : Program} {l : Launch} {e : Env} {s : State} {m : MethodId} {args : Array Value} {below : List Frame} {meth : Method} {c : Code} {g : Gh} {A : Nat → Prop} (C : Cx p g s m args c cX5_pulleysFor 10 RX5 A) (hr : meth.sig.returnType = some .int) (hlk : meth.locks = false) {u : Nat → Nat} {v : Nat → Int} {sv ln th ap rm rd nw hh : Int} {b f Fin : Int} (hm : MOK v) (hb4 : 0 ≤ b ∧ b ≤ 3) (hf : 0 ≤ f ∧ f ≤ 1000000) : ∀ (m9 n : Nat), n + m9 = 10 → pfs (v 1) f (vW v b.toNat) m9 n = Fin → J p l e ({ frames := 2, cells := 0, slots := 0, locals := 45 } : Room) s m args below meth c g A 10 35 [(0, .ref (u 0)), (1, .int (iI b)), (3, .long (lI (fbn (v 1) true f (2 * n)))), (5, .long (lI (sf (v 1) f n))), (7, .int (iI ((n : Int) + 1)))] [] [(u 0, .inr (5, [.ref (u 1), .ref (u 2), .ref (u 3), .int (iI sv), .ref (u 4), .int (iI ln), .int (iI th), .int (iI ap), .int (iI rm), .ref (u 5), .int (iI rd), .int (iI nw), .ref (u 6), .long (lI hh)])), (u 1, aL g 75 v)] 0 0 (MQ below (QE g A (PE (some (.int (iI (Fin)))) [(u 0, .inr (5, [.ref (u 1), .ref (u 2), .ref (u 3), .int (iI sv), .ref (u 4), .int (iI ln), .int (iI 0), .int (iI ap), .int (iI rm), .ref (u 5), .int (iI rd), .int (iI nw), .ref (u 6), .long (lI hh)])), (u 1, aL g 75 v)])) args s 0 0 A) := by
  intro m9
  induction m9 with
  | zero =>
    intro n hi hfin
    refine j_iload C 4 dX5_pulleysFor_35 rfl ?_
    refine j_bipush C dX5_pulleysFor_37 (by decide) ?_
    refine j_icmp_gt (tgt := 95) C (by omega) (by decide) dX5_pulleysFor_39 (by decide) (fun c39 => ?_) (fun c39 => absurd c39 (by omega))
    refine j_aload_n C 0 dX5_pulleysFor_95 rfl rfl ?_
    refine j_iconst C dX5_pulleysFor_96 ?_
    refine j_callV (As := [.int (iI (-1))]) (rest := []) C yv_X5_tells qw734 (c_X5_tells l g u v sv ln th ap rm rd nw hh (-1)) (by decide) 0 rfl rfl rfl dX5_pulleysFor_97 rfl (Nat.le_of_ble_eq_true rfl) (by decide) (pf1 [] [(u 1, aL g 75 v)]) rfl (fun r9 w9 hq9 => ?_)
    obtain ⟨rfl, rfl⟩ := hq9
    refine J.to (L1 := [(0, .ref (u 0)), (1, .int (iI b)), (3, .long (lI (fbn (v 1) true f (2 * n)))), (5, .long (lI (sf (v 1) f n))), (7, .int (iI ((n : Int) + 1)))]) (S1 := [.int (iI (-1))]) (ws1 := [(u 0, .inr (5, [.ref (u 1), .ref (u 2), .ref (u 3), .int (iI sv), .ref (u 4), .int (iI ln), .int (iI 0), .int (iI ap), .int (iI rm), .ref (u 5), .int (iI rd), .int (iI nw), .ref (u 6), .long (lI hh)])), (u 1, aL g 75 v)]) rfl rfl rfl ?_
    exact j_iret C hr hlk dX5_pulleysFor_100 ⟨by rw [← hfin]; rfl, rfl⟩ (by decide) (by decide)
  | succ m9 ih =>
    intro n hi hfin
    obtain ⟨hP, hE0, hF, hrow0, hwt, hht, hlen, hent⟩ := id hm
    have hE : -10 ≤ v 3 ∧ v 3 ≤ 10 := by omega
    have hrow : ∀ i : Nat, (i : Int) < v 2 → 0 ≤ vR v i ∧ vR v i ≤ 4 := fun i hi => by have := hrow0 i hi; omega
    have hb9 := fbn_le (h := true) (n := 2 * n) hF hf (by omega)
    have hb8 := fbn_le (h := true) (n := 2 * n + 1) hF hf (by omega)
    have hs9 := sf_rng hF hf (n := n + 1) (by omega)
    have hw9 := hwt b.toNat (by omega)
    have hw8 : v (9 + b.toNat) = vW v b.toNat := rfl
    refine j_iload C 4 dX5_pulleysFor_35 rfl ?_
    refine j_bipush C dX5_pulleysFor_37 (by decide) ?_
    refine j_icmp_gt (tgt := 95) C (by omega) (by decide) dX5_pulleysFor_39 (by decide) (fun c39 => absurd c39 (by omega)) (fun c39 => ?_)
    refine j_aload_n C 0 dX5_pulleysFor_42 rfl rfl ?_
    refine j_lload_n C 2 dX5_pulleysFor_43 rfl rfl ?_
    refine j_iconst C dX5_pulleysFor_44 ?_
    refine j_callV (As := [.long (lI (fbn (v 1) true f (2 * n))), .int (iI 1)]) (rest := []) C yv_X5_behind qw809 (c_X5_behind l g u v sv ln th ap rm rd nw hh (fbn (v 1) true f (2 * n)) true hm (by omega)) (by decide) 0 rfl rfl rfl dX5_pulleysFor_45 rfl (Nat.le_of_ble_eq_true rfl) (by decide) pf0 rfl (fun r9 w9 hq9 => ?_)
    obtain ⟨rfl, rfl⟩ := hq9
    refine J.to (L1 := [(0, .ref (u 0)), (1, .int (iI b)), (3, .long (lI (fbn (v 1) true f (2 * n)))), (5, .long (lI (sf (v 1) f n))), (7, .int (iI ((n : Int) + 1)))]) (S1 := [.long (lI (fbn (v 1) true f (2 * n + 1)))]) (ws1 := [(u 0, .inr (5, [.ref (u 1), .ref (u 2), .ref (u 3), .int (iI sv), .ref (u 4), .int (iI ln), .int (iI th), .int (iI ap), .int (iI rm), .ref (u 5), .int (iI rd), .int (iI nw), .ref (u 6), .long (lI hh)])), (u 1, aL g 75 v)]) rfl rfl rfl ?_
    refine j_lstore (L1 := [(8, .long (lI (fbn (v 1) true f (2 * n + 1)))), (0, .ref (u 0)), (1, .int (iI b)), (3, .long (lI (fbn (v 1) true f (2 * n)))), (5, .long (lI (sf (v 1) f n))), (7, .int (iI ((n : Int) + 1)))]) C dX5_pulleysFor_48 (by decide) rfl ?_
    refine j_aload_n C 1 dX5_pulleysFor_50 rfl rfl ?_
    refine j_lload C 0 dX5_pulleysFor_51 rfl ?_
    refine j_iconst C dX5_pulleysFor_53 ?_
    refine j_callV (As := [.long (lI (fbn (v 1) true f (2 * n + 1))), .int (iI 1)]) (rest := []) C yv_X5_behind qw809 (c_X5_behind l g u v sv ln th ap rm rd nw hh (fbn (v 1) true f (2 * n + 1)) true hm (by omega)) (by decide) 0 rfl rfl rfl dX5_pulleysFor_54 rfl (Nat.le_of_ble_eq_true rfl) (by decide) pf0 rfl (fun r9 w9 hq9 => ?_)
    obtain ⟨rfl, rfl⟩ := hq9
    refine J.to (L1 := [(8, .long (lI (fbn (v 1) true f (2 * n + 1)))), (0, .ref (u 0)), (1, .int (iI b)), (3, .long (lI (fbn (v 1) true f (2 * n)))), (5, .long (lI (sf (v 1) f n))), (7, .int (iI ((n : Int) + 1)))]) (S1 := [.long (lI (fbn (v 1) true f (2 * n + 2)))]) (ws1 := [(u 0, .inr (5, [.ref (u 1), .ref (u 2), .ref (u 3), .int (iI sv), .ref (u 4), .int (iI ln), .int (iI th), .int (iI ap), .int (iI rm), .ref (u 5), .int (iI rd), .int (iI nw), .ref (u 6), .long (lI hh)])), (u 1, aL g 75 v)]) rfl rfl rfl ?_
    refine j_lstore_n (L1 := [(3, .long (lI (fbn (v 1) true f (2 * n + 2)))), (8, .long (lI (fbn (v 1) true f (2 * n + 1)))), (0, .ref (u 0)), (1, .int (iI b)), (5, .long (lI (sf (v 1) f n))), (7, .int (iI ((n : Int) + 1)))]) C dX5_pulleysFor_57 rfl (by decide) rfl ?_
    refine j_lload C 4 dX5_pulleysFor_58 rfl ?_
    refine j_lload C 1 dX5_pulleysFor_60 rfl ?_
    refine j_lload_n C 0 dX5_pulleysFor_62 rfl rfl ?_
    refine j_ladd C dX5_pulleysFor_63 ?_
    refine j_ladd C dX5_pulleysFor_64 ?_
    refine j_lstore (L1 := [(5, .long (lI ((sf (v 1) f n) + ((fbn (v 1) true f (2 * n + 1)) + (fbn (v 1) true f (2 * n + 2)))))), (3, .long (lI (fbn (v 1) true f (2 * n + 2)))), (8, .long (lI (fbn (v 1) true f (2 * n + 1)))), (0, .ref (u 0)), (1, .int (iI b)), (7, .int (iI ((n : Int) + 1)))]) C dX5_pulleysFor_65 (by decide) rfl ?_
    refine J.to (L1 := [(5, .long (lI (sf (v 1) f (n + 1)))), (3, .long (lI (fbn (v 1) true f (2 * n + 2)))), (8, .long (lI (fbn (v 1) true f (2 * n + 1)))), (0, .ref (u 0)), (1, .int (iI b)), (7, .int (iI ((n : Int) + 1)))]) (S1 := []) (ws1 := [(u 0, .inr (5, [.ref (u 1), .ref (u 2), .ref (u 3), .int (iI sv), .ref (u 4), .int (iI ln), .int (iI th), .int (iI ap), .int (iI rm), .ref (u 5), .int (iI rd), .int (iI nw), .ref (u 6), .long (lI hh)])), (u 1, aL g 75 v)]) rfl rfl rfl ?_
    refine j_lload C 0 dX5_pulleysFor_67 rfl ?_
    refine j_aload_n C 3 dX5_pulleysFor_69 rfl rfl ?_
    refine j_get C ck5 0 0 (by decide) qw662 rfl rfl dX5_pulleysFor_70 ?_
    refine j_bipush C dX5_pulleysFor_73 (by decide) ?_
    refine j_iload_n C 4 dX5_pulleysFor_75 rfl rfl ?_
    refine j_iadd C dX5_pulleysFor_76 ?_
    refine j_lald (n := 75) (f := v) C 1 (9 + b.toNat) rfl (by omega) (by omega) (by decide) dX5_pulleysFor_77 ?_
    refine j_lif_lt (tgt := 89) C (by omega) (by omega) dX5_pulleysFor_78 dX5_pulleysFor_79 (by decide) (fun c78 => ?_) (fun c78 => ?_)
    · refine j_iinc (L1 := [(7, .int (iI (((n : Int) + 1) + 1))), (5, .long (lI (sf (v 1) f (n + 1)))), (3, .long (lI (fbn (v 1) true f (2 * n + 2)))), (8, .long (lI (fbn (v 1) true f (2 * n + 1)))), (0, .ref (u 0)), (1, .int (iI b))]) C 5 dX5_pulleysFor_89 rfl (by decide) rfl ?_
      refine j_goto (tgt := 35) C dX5_pulleysFor_92 (by decide) ?_
      refine J.sub (L1 := [(0, .ref (u 0)), (1, .int (iI b)), (3, .long (lI (fbn (v 1) true f (2 * n + 2)))), (5, .long (lI (sf (v 1) f (n + 1)))), (7, .int (iI (((n : Int) + 1) + 1)))]) [4, 5, 2, 1, 0] rfl ?_
      exact ih (n + 1) (by omega) (by rw [pfs, if_neg (by omega)] at hfin; exact hfin)
    · refine j_aload_n C 3 dX5_pulleysFor_82 rfl rfl ?_
      refine j_iload C 5 dX5_pulleysFor_83 rfl ?_
      refine j_callV (As := [.int (iI ((n : Int) + 1))]) (rest := []) C yv_X5_tells qw734 (c_X5_tells l g u v sv ln th ap rm rd nw hh ((n : Int) + 1)) (by decide) 0 rfl rfl rfl dX5_pulleysFor_85 rfl (Nat.le_of_ble_eq_true rfl) (by decide) (pf1 [] [(u 1, aL g 75 v)]) rfl (fun r9 w9 hq9 => ?_)
      obtain ⟨rfl, rfl⟩ := hq9
      refine J.to (L1 := [(5, .long (lI (sf (v 1) f (n + 1)))), (3, .long (lI (fbn (v 1) true f (2 * n + 2)))), (8, .long (lI (fbn (v 1) true f (2 * n + 1)))), (0, .ref (u 0)), (1, .int (iI b)), (7, .int (iI ((n : Int) + 1)))]) (S1 := [.int (iI ((n : Int) + 1))]) (ws1 := [(u 0, .inr (5, [.ref (u 1), .ref (u 2), .ref (u 3), .int (iI sv), .ref (u 4), .int (iI ln), .int (iI 0), .int (iI ap), .int (iI rm), .ref (u 5), .int (iI rd), .int (iI nw), .ref (u 6), .long (lI hh)])), (u 1, aL g 75 v)]) rfl rfl rfl ?_
      exact j_iret C hr hlk dX5_pulleysFor_88 ⟨by rw [← hfin, pfs, if_pos (by omega)]; rfl, rfl⟩ (by decide) (by decide)

theorem c_X5_pulleysFor_ok (l : Launch) (g : Gh) (u : Nat → Nat) (v : Nat → Int) (sv ln th ap rm rd nw hh : Int) (b f : Int) (hm : MOK v) (hb4 : 0 ≤ b ∧ b ≤ 3) (hf : 0 ≤ f ∧ f ≤ 1000000) : CT l g yX5_pulleysFor cX5_pulleysFor 10 (some FieldType.int) ({ frames := 2, cells := 0, slots := 0, locals := 45 }) [.ref (u 0), .int (iI b), .int (iI f)] [(u 0, .inr (5, [.ref (u 1), .ref (u 2), .ref (u 3), .int (iI sv), .ref (u 4), .int (iI ln), .int (iI th), .int (iI ap), .int (iI rm), .ref (u 5), .int (iI rd), .int (iI nw), .ref (u 6), .long (lI hh)])), (u 1, aL g 75 v)] (PE (some (.int (iI (pfs (v 1) f (vW v b.toNat) 10 0)))) [(u 0, .inr (5, [.ref (u 1), .ref (u 2), .ref (u 3), .int (iI sv), .ref (u 4), .int (iI ln), .int (iI 0), .int (iI ap), .int (iI rm), .ref (u 5), .int (iI rd), .int (iI nw), .ref (u 6), .long (lI hh)])), (u 1, aL g 75 v)]) := by
  refine CT.intro (L0 := [(0, .ref (u 0)), (1, .int (iI b)), (2, .int (iI f))]) (own := RX5) (by decide) rfl (Nat.le_of_ble_eq_true rfl) rfl ?_
  intro pX eX sX mX argsX belowX methX cX A C hr hlk
  obtain ⟨hP, hE0, hF, hrow0, hwt, hht, hlen, hent⟩ := id hm
  have hE : -10 ≤ v 3 ∧ v 3 ≤ 10 := by omega
  have hrow : ∀ i : Nat, (i : Int) < v 2 → 0 ≤ vR v i ∧ vR v i ≤ 4 := fun i hi => by have := hrow0 i hi; omega
  refine j_iload_n C 1 dX5_pulleysFor_0 rfl rfl ?_
  refine j_callS (As := [.int (iI b)]) (rest := []) C ys_X5_isBlock qw714 (c_X5_isBlock_t l g b (by omega)) (by decide) rfl dX5_pulleysFor_1 rfl (Nat.le_of_ble_eq_true rfl) (by decide) (pf1 [] [(u 0, .inr (5, [.ref (u 1), .ref (u 2), .ref (u 3), .int (iI sv), .ref (u 4), .int (iI ln), .int (iI th), .int (iI ap), .int (iI rm), .ref (u 5), .int (iI rd), .int (iI nw), .ref (u 6), .long (lI hh)])), (u 1, aL g 75 v)]) rfl (fun r9 w9 hq9 => ?_)
  obtain ⟨rfl, rfl⟩ := hq9
  refine J.to (L1 := [(0, .ref (u 0)), (1, .int (iI b)), (2, .int (iI f))]) (S1 := [.int (iI 1)]) (ws1 := [(u 0, .inr (5, [.ref (u 1), .ref (u 2), .ref (u 3), .int (iI sv), .ref (u 4), .int (iI ln), .int (iI th), .int (iI ap), .int (iI rm), .ref (u 5), .int (iI rd), .int (iI nw), .ref (u 6), .long (lI hh)])), (u 1, aL g 75 v)]) rfl rfl rfl ?_
  refine j_if_ne (tgt := 13) C (by decide) dX5_pulleysFor_4 (by decide) (fun c4 => ?_) (fun c4 => absurd c4 (by decide))
  refine j_iload_n C 2 dX5_pulleysFor_13 rfl rfl ?_
  refine j_callS (As := [.int (iI f)]) (rest := []) C ys_X5_isForce qw786 (c_X5_isForce_t l g f (by omega)) (by decide) rfl dX5_pulleysFor_14 rfl (Nat.le_of_ble_eq_true rfl) (by decide) (pf1 [] [(u 0, .inr (5, [.ref (u 1), .ref (u 2), .ref (u 3), .int (iI sv), .ref (u 4), .int (iI ln), .int (iI th), .int (iI ap), .int (iI rm), .ref (u 5), .int (iI rd), .int (iI nw), .ref (u 6), .long (lI hh)])), (u 1, aL g 75 v)]) rfl (fun r9 w9 hq9 => ?_)
  obtain ⟨rfl, rfl⟩ := hq9
  refine J.to (L1 := [(0, .ref (u 0)), (1, .int (iI b)), (2, .int (iI f))]) (S1 := [.int (iI 1)]) (ws1 := [(u 0, .inr (5, [.ref (u 1), .ref (u 2), .ref (u 3), .int (iI sv), .ref (u 4), .int (iI ln), .int (iI th), .int (iI ap), .int (iI rm), .ref (u 5), .int (iI rd), .int (iI nw), .ref (u 6), .long (lI hh)])), (u 1, aL g 75 v)]) rfl rfl rfl ?_
  refine j_if_ne (tgt := 26) C (by decide) dX5_pulleysFor_17 (by decide) (fun c17 => ?_) (fun c17 => absurd c17 (by decide))
  refine j_iload_n C 2 dX5_pulleysFor_26 rfl rfl ?_
  refine j_i2l C (by omega) dX5_pulleysFor_27 ?_
  refine j_lstore_n (L1 := [(3, .long (lI f)), (0, .ref (u 0)), (1, .int (iI b)), (2, .int (iI f))]) C dX5_pulleysFor_28 rfl (by decide) rfl ?_
  refine j_lconst (v := 0) C dX5_pulleysFor_29 rfl ?_
  refine j_lstore (L1 := [(5, .long (lI 0)), (3, .long (lI f)), (0, .ref (u 0)), (1, .int (iI b)), (2, .int (iI f))]) C dX5_pulleysFor_30 (by decide) rfl ?_
  refine j_iconst C dX5_pulleysFor_32 ?_
  refine j_istore (L1 := [(7, .int (iI 1)), (5, .long (lI 0)), (3, .long (lI f)), (0, .ref (u 0)), (1, .int (iI b)), (2, .int (iI f))]) C dX5_pulleysFor_33 (by decide) rfl ?_
  refine J.sub (L1 := [(0, .ref (u 0)), (1, .int (iI b)), (3, .long (lI f)), (5, .long (lI 0)), (7, .int (iI 1))]) [3, 4, 2, 1, 0] rfl ?_
  refine J.to (L1 := [(0, .ref (u 0)), (1, .int (iI b)), (3, .long (lI (fbn (v 1) true f (2 * (0 : Nat))))), (5, .long (lI (sf (v 1) f (0 : Nat)))), (7, .int (iI (((0 : Nat) : Int) + 1)))]) (S1 := []) (ws1 := [(u 0, .inr (5, [.ref (u 1), .ref (u 2), .ref (u 3), .int (iI sv), .ref (u 4), .int (iI ln), .int (iI th), .int (iI ap), .int (iI rm), .ref (u 5), .int (iI rd), .int (iI nw), .ref (u 6), .long (lI hh)])), (u 1, aL g 75 v)]) rfl rfl rfl ?_
  exact lm_pulleysFor C hr hlk hm hb4 hf 10 0 rfl rfl

theorem c_X5_pulleysFor_n1 (l : Launch) (g : Gh) (u : Nat → Nat) (v : Nat → Int) (sv ln th ap rm rd nw hh : Int) (b f : Int) (hm : MOK v) (hrb : -2147483648 ≤ b ∧ b < 2147483648) (hrf : -2147483648 ≤ f ∧ f < 2147483648) (hb4 : b < 0 ∨ 3 < b) : CT l g yX5_pulleysFor cX5_pulleysFor 10 (some FieldType.int) ({ frames := 2, cells := 0, slots := 0, locals := 45 }) [.ref (u 0), .int (iI b), .int (iI f)] [(u 0, .inr (5, [.ref (u 1), .ref (u 2), .ref (u 3), .int (iI sv), .ref (u 4), .int (iI ln), .int (iI th), .int (iI ap), .int (iI rm), .ref (u 5), .int (iI rd), .int (iI nw), .ref (u 6), .long (lI hh)])), (u 1, aL g 75 v)] (PE (some (.int (iI 0))) [(u 0, .inr (5, [.ref (u 1), .ref (u 2), .ref (u 3), .int (iI sv), .ref (u 4), .int (iI ln), .int (iI 1), .int (iI ap), .int (iI rm), .ref (u 5), .int (iI rd), .int (iI nw), .ref (u 6), .long (lI hh)])), (u 1, aL g 75 v)]) := by
  refine CT.intro (L0 := [(0, .ref (u 0)), (1, .int (iI b)), (2, .int (iI f))]) (own := RX5) (by decide) rfl (Nat.le_of_ble_eq_true rfl) rfl ?_
  intro pX eX sX mX argsX belowX methX cX A C hr hlk
  obtain ⟨hP, hE0, hF, hrow0, hwt, hht, hlen, hent⟩ := id hm
  have hE : -10 ≤ v 3 ∧ v 3 ≤ 10 := by omega
  have hrow : ∀ i : Nat, (i : Int) < v 2 → 0 ≤ vR v i ∧ vR v i ≤ 4 := fun i hi => by have := hrow0 i hi; omega
  refine j_iload_n C 1 dX5_pulleysFor_0 rfl rfl ?_
  refine j_callS (As := [.int (iI b)]) (rest := []) C ys_X5_isBlock qw714 (c_X5_isBlock_f l g b (by omega) (by omega)) (by decide) rfl dX5_pulleysFor_1 rfl (Nat.le_of_ble_eq_true rfl) (by decide) (pf1 [] [(u 0, .inr (5, [.ref (u 1), .ref (u 2), .ref (u 3), .int (iI sv), .ref (u 4), .int (iI ln), .int (iI th), .int (iI ap), .int (iI rm), .ref (u 5), .int (iI rd), .int (iI nw), .ref (u 6), .long (lI hh)])), (u 1, aL g 75 v)]) rfl (fun r9 w9 hq9 => ?_)
  obtain ⟨rfl, rfl⟩ := hq9
  refine J.to (L1 := [(0, .ref (u 0)), (1, .int (iI b)), (2, .int (iI f))]) (S1 := [.int (iI 0)]) (ws1 := [(u 0, .inr (5, [.ref (u 1), .ref (u 2), .ref (u 3), .int (iI sv), .ref (u 4), .int (iI ln), .int (iI th), .int (iI ap), .int (iI rm), .ref (u 5), .int (iI rd), .int (iI nw), .ref (u 6), .long (lI hh)])), (u 1, aL g 75 v)]) rfl rfl rfl ?_
  refine j_if_ne (tgt := 13) C (by decide) dX5_pulleysFor_4 (by decide) (fun c4 => absurd c4 (by decide)) (fun c4 => ?_)
  refine j_aload_n C 0 dX5_pulleysFor_7 rfl rfl ?_
  refine j_iconst C dX5_pulleysFor_8 ?_
  refine j_callV (As := [.int (iI 1)]) (rest := []) C yv_X5_fails qw721 (c_X5_fails l g u v sv ln th ap rm rd nw hh 1) (by decide) 0 rfl rfl rfl dX5_pulleysFor_9 rfl (Nat.le_of_ble_eq_true rfl) (by decide) (pf1 [] [(u 1, aL g 75 v)]) rfl (fun r9 w9 hq9 => ?_)
  obtain ⟨rfl, rfl⟩ := hq9
  refine J.to (L1 := [(0, .ref (u 0)), (1, .int (iI b)), (2, .int (iI f))]) (S1 := [.int (iI 0)]) (ws1 := [(u 0, .inr (5, [.ref (u 1), .ref (u 2), .ref (u 3), .int (iI sv), .ref (u 4), .int (iI ln), .int (iI 1), .int (iI ap), .int (iI rm), .ref (u 5), .int (iI rd), .int (iI nw), .ref (u 6), .long (lI hh)])), (u 1, aL g 75 v)]) rfl rfl rfl ?_
  exact j_iret C hr hlk dX5_pulleysFor_12 ⟨rfl, rfl⟩ (by decide) (by decide)

theorem c_X5_pulleysFor_n2 (l : Launch) (g : Gh) (u : Nat → Nat) (v : Nat → Int) (sv ln th ap rm rd nw hh : Int) (b f : Int) (hm : MOK v) (hrb : -2147483648 ≤ b ∧ b < 2147483648) (hrf : -2147483648 ≤ f ∧ f < 2147483648) (hb4 : 0 ≤ b ∧ b ≤ 3) (hf : f < 0 ∨ 1000000 < f) : CT l g yX5_pulleysFor cX5_pulleysFor 10 (some FieldType.int) ({ frames := 2, cells := 0, slots := 0, locals := 45 }) [.ref (u 0), .int (iI b), .int (iI f)] [(u 0, .inr (5, [.ref (u 1), .ref (u 2), .ref (u 3), .int (iI sv), .ref (u 4), .int (iI ln), .int (iI th), .int (iI ap), .int (iI rm), .ref (u 5), .int (iI rd), .int (iI nw), .ref (u 6), .long (lI hh)])), (u 1, aL g 75 v)] (PE (some (.int (iI 0))) [(u 0, .inr (5, [.ref (u 1), .ref (u 2), .ref (u 3), .int (iI sv), .ref (u 4), .int (iI ln), .int (iI 2), .int (iI ap), .int (iI rm), .ref (u 5), .int (iI rd), .int (iI nw), .ref (u 6), .long (lI hh)])), (u 1, aL g 75 v)]) := by
  refine CT.intro (L0 := [(0, .ref (u 0)), (1, .int (iI b)), (2, .int (iI f))]) (own := RX5) (by decide) rfl (Nat.le_of_ble_eq_true rfl) rfl ?_
  intro pX eX sX mX argsX belowX methX cX A C hr hlk
  obtain ⟨hP, hE0, hF, hrow0, hwt, hht, hlen, hent⟩ := id hm
  have hE : -10 ≤ v 3 ∧ v 3 ≤ 10 := by omega
  have hrow : ∀ i : Nat, (i : Int) < v 2 → 0 ≤ vR v i ∧ vR v i ≤ 4 := fun i hi => by have := hrow0 i hi; omega
  refine j_iload_n C 1 dX5_pulleysFor_0 rfl rfl ?_
  refine j_callS (As := [.int (iI b)]) (rest := []) C ys_X5_isBlock qw714 (c_X5_isBlock_t l g b (by omega)) (by decide) rfl dX5_pulleysFor_1 rfl (Nat.le_of_ble_eq_true rfl) (by decide) (pf1 [] [(u 0, .inr (5, [.ref (u 1), .ref (u 2), .ref (u 3), .int (iI sv), .ref (u 4), .int (iI ln), .int (iI th), .int (iI ap), .int (iI rm), .ref (u 5), .int (iI rd), .int (iI nw), .ref (u 6), .long (lI hh)])), (u 1, aL g 75 v)]) rfl (fun r9 w9 hq9 => ?_)
  obtain ⟨rfl, rfl⟩ := hq9
  refine J.to (L1 := [(0, .ref (u 0)), (1, .int (iI b)), (2, .int (iI f))]) (S1 := [.int (iI 1)]) (ws1 := [(u 0, .inr (5, [.ref (u 1), .ref (u 2), .ref (u 3), .int (iI sv), .ref (u 4), .int (iI ln), .int (iI th), .int (iI ap), .int (iI rm), .ref (u 5), .int (iI rd), .int (iI nw), .ref (u 6), .long (lI hh)])), (u 1, aL g 75 v)]) rfl rfl rfl ?_
  refine j_if_ne (tgt := 13) C (by decide) dX5_pulleysFor_4 (by decide) (fun c4 => ?_) (fun c4 => absurd c4 (by decide))
  refine j_iload_n C 2 dX5_pulleysFor_13 rfl rfl ?_
  refine j_callS (As := [.int (iI f)]) (rest := []) C ys_X5_isForce qw786 (c_X5_isForce_f l g f (by omega) (by omega)) (by decide) rfl dX5_pulleysFor_14 rfl (Nat.le_of_ble_eq_true rfl) (by decide) (pf1 [] [(u 0, .inr (5, [.ref (u 1), .ref (u 2), .ref (u 3), .int (iI sv), .ref (u 4), .int (iI ln), .int (iI th), .int (iI ap), .int (iI rm), .ref (u 5), .int (iI rd), .int (iI nw), .ref (u 6), .long (lI hh)])), (u 1, aL g 75 v)]) rfl (fun r9 w9 hq9 => ?_)
  obtain ⟨rfl, rfl⟩ := hq9
  refine J.to (L1 := [(0, .ref (u 0)), (1, .int (iI b)), (2, .int (iI f))]) (S1 := [.int (iI 0)]) (ws1 := [(u 0, .inr (5, [.ref (u 1), .ref (u 2), .ref (u 3), .int (iI sv), .ref (u 4), .int (iI ln), .int (iI th), .int (iI ap), .int (iI rm), .ref (u 5), .int (iI rd), .int (iI nw), .ref (u 6), .long (lI hh)])), (u 1, aL g 75 v)]) rfl rfl rfl ?_
  refine j_if_ne (tgt := 26) C (by decide) dX5_pulleysFor_17 (by decide) (fun c17 => absurd c17 (by decide)) (fun c17 => ?_)
  refine j_aload_n C 0 dX5_pulleysFor_20 rfl rfl ?_
  refine j_iconst C dX5_pulleysFor_21 ?_
  refine j_callV (As := [.int (iI 2)]) (rest := []) C yv_X5_fails qw721 (c_X5_fails l g u v sv ln th ap rm rd nw hh 2) (by decide) 0 rfl rfl rfl dX5_pulleysFor_22 rfl (Nat.le_of_ble_eq_true rfl) (by decide) (pf1 [] [(u 1, aL g 75 v)]) rfl (fun r9 w9 hq9 => ?_)
  obtain ⟨rfl, rfl⟩ := hq9
  refine J.to (L1 := [(0, .ref (u 0)), (1, .int (iI b)), (2, .int (iI f))]) (S1 := [.int (iI 0)]) (ws1 := [(u 0, .inr (5, [.ref (u 1), .ref (u 2), .ref (u 3), .int (iI sv), .ref (u 4), .int (iI ln), .int (iI 2), .int (iI ap), .int (iI rm), .ref (u 5), .int (iI rd), .int (iI nw), .ref (u 6), .long (lI hh)])), (u 1, aL g 75 v)]) rfl rfl rfl ?_
  exact j_iret C hr hlk dX5_pulleysFor_25 ⟨rfl, rfl⟩ (by decide) (by decide)

theorem va_same {v : Nat → Int} {k : Nat} {x : Int} : va_up (va_up v k x) k (v k) = v := by
  funext j
  unfold va_up
  split
  · next h => rw [h]
  · rfl
theorem va_self {v : Nat → Int} {k : Nat} : va_up v k (v k) = v := by
  funext j
  unfold va_up
  split
  · next h => rw [h]
  · rfl
theorem va_two {v : Nat → Int} {k : Nat} {x y : Int} : va_up (va_up v k x) k y = va_up v k y := by
  funext j
  unfold va_up
  split <;> rfl
theorem MOK_end {v : Nat → Int} (hm : MOK v) {x : Int} (hx : 0 ≤ x ∧ x ≤ 4) : MOK (va_up v 3 x) := by
  obtain ⟨h1, h2, h3, h4, h5, h7, h8, h9⟩ := hm
  refine ⟨h1, hx, h3, fun i hi => ?_, fun b hb => ?_, fun b hb => ?_, h8, h9⟩
  · show 0 ≤ va_up v 3 x (17 + i) ∧ va_up v 3 x (17 + i) ≤ 3
    rw [va_ne (by omega)]
    exact h4 i hi
  · show 0 ≤ va_up v 3 x (9 + b) ∧ va_up v 3 x (9 + b) ≤ 50000
    rw [va_ne (by omega)]
    exact h5 b hb
  · show 0 ≤ va_up v 3 x (13 + b) ∧ va_up v 3 x (13 + b) ≤ 9000
    rw [va_ne (by omega)]
    exact h7 b hb
theorem fcE_eqV {v : Nat → Int} {b : Int} (e : Nat) : leaV (va_up v 3 (e : Int)) true b = fcE (kV v) b e := by
  show lea (vR (va_up v 3 (e : Int))) (v 1) true (v 2).toNat (e : Int) b (va_up v 3 (e : Int) (9 + b.toNat)) = lea (vR v) (v 1) true (v 2).toNat (e : Int) b (v (9 + b.toNat))
  rw [va_ne (by omega)]
  exact lea_congr fun i hi => va_ne (by omega)
theorem lm_bestEnd {p : Program} {l : Launch} {e : Env} {s : State} {m : MethodId} {args : Array Value} {below : List Frame} {meth : Method} {c : Code} {g : Gh} {A : Nat → Prop} (C : Cx p g s m args c cX5_bestEnd 9 RX5 A) (hr : meth.sig.returnType = some .int) (hlk : meth.locks = false) {u : Nat → Nat} {v : Nat → Int} {sv ln th ap rm rd nw hh : Int} {b : Int} (hm : MOK v) (hb4 : 0 ≤ b ∧ b ≤ 3) : ∀ (n i : Nat) (le E9 : Int), i + n = 5 → (-1 ≤ le ∧ le ≤ 1000000) → (nxr (fcE (kV v) b) (fun _ => 0) 1000000 i ≠ -1 → le = fcE (kV v) b (nxr (fcE (kV v) b) (fun _ => 0) 1000000 i).toNat) → J p l e ({ frames := 3, cells := 0, slots := 0, locals := 80 } : Room) s m args below meth c g A 9 29 [(0, .ref (u 0)), (1, .int (iI b)), (2, .long (lI (v 3))), (4, .int (iI (nxr (fcE (kV v) b) (fun _ => 0) 1000000 i))), (5, .int (iI le)), (6, .int (iI ((i : Int))))] [] [(u 0, .inr (5, [.ref (u 1), .ref (u 2), .ref (u 3), .int (iI sv), .ref (u 4), .int (iI ln), .int (iI th), .int (iI ap), .int (iI rm), .ref (u 5), .int (iI rd), .int (iI nw), .ref (u 6), .long (lI hh)])), (u 1, aL g 75 (va_up v 3 E9))] 0 0 (MQ below (QE g A (PE (some (.int (iI (nxr (fcE (kV v) b) (fun _ => 0) 1000000 5)))) [(u 0, .inr (5, [.ref (u 1), .ref (u 2), .ref (u 3), .int (iI sv), .ref (u 4), .int (iI ln), .int (iI 0), .int (iI ap), .int (iI rm), .ref (u 5), .int (iI rd), .int (iI nw), .ref (u 6), .long (lI hh)])), (u 1, aL g 75 v)])) args s 0 0 A) := by
  intro n
  induction n with
  | zero =>
    intro i le E9 hi hle0 hle
    have hi9 : i = 5 := by omega
    subst hi9
    refine j_iload C 5 dX5_bestEnd_29 rfl ?_
    refine j_iconst C dX5_bestEnd_31 ?_
    refine j_icmp_gt (tgt := 112) C (by omega) (by decide) dX5_bestEnd_32 (by decide) (fun c32 => ?_) (fun c32 => absurd c32 (by omega))
    refine j_aload_n C 0 dX5_bestEnd_112 rfl rfl ?_
    refine j_get C ck5 0 0 (by decide) qw662 rfl rfl dX5_bestEnd_113 ?_
    refine j_iconst C dX5_bestEnd_116 ?_
    refine j_lload_n C 2 dX5_bestEnd_117 rfl rfl ?_
    refine j_last (n := 75) (f := va_up v 3 E9) (ws1 := [(u 0, .inr (5, [.ref (u 1), .ref (u 2), .ref (u 3), .int (iI sv), .ref (u 4), .int (iI ln), .int (iI th), .int (iI ap), .int (iI rm), .ref (u 5), .int (iI rd), .int (iI nw), .ref (u 6), .long (lI hh)])), (u 1, aL g 75 (va_up (va_up v 3 E9) 3 (v 3)))]) C 1 3 rfl rfl (by decide) (by decide) dX5_bestEnd_118 rfl ?_
    refine J.world (ws1 := [(u 0, .inr (5, [.ref (u 1), .ref (u 2), .ref (u 3), .int (iI sv), .ref (u 4), .int (iI ln), .int (iI th), .int (iI ap), .int (iI rm), .ref (u 5), .int (iI rd), .int (iI nw), .ref (u 6), .long (lI hh)])), (u 1, aL g 75 v)]) (by rw [va_same]) ?_
    refine j_aload_n C 0 dX5_bestEnd_119 rfl rfl ?_
    refine j_iload C 3 dX5_bestEnd_120 rfl ?_
    refine j_callV (As := [.int (iI (nxr (fcE (kV v) b) (fun _ => 0) 1000000 5))]) (rest := []) C yv_X5_tells qw734 (c_X5_tells l g u v sv ln th ap rm rd nw hh (nxr (fcE (kV v) b) (fun _ => 0) 1000000 5)) (by decide) 0 rfl rfl rfl dX5_bestEnd_122 rfl (Nat.le_of_ble_eq_true rfl) (by decide) (pf1 [] [(u 1, aL g 75 v)]) rfl (fun r9 w9 hq9 => ?_)
    obtain ⟨rfl, rfl⟩ := hq9
    refine J.to (L1 := [(0, .ref (u 0)), (1, .int (iI b)), (2, .long (lI (v 3))), (4, .int (iI (nxr (fcE (kV v) b) (fun _ => 0) 1000000 5))), (5, .int (iI le)), (6, .int (iI (((5 : Nat) : Int))))]) (S1 := [.int (iI (nxr (fcE (kV v) b) (fun _ => 0) 1000000 5))]) (ws1 := [(u 0, .inr (5, [.ref (u 1), .ref (u 2), .ref (u 3), .int (iI sv), .ref (u 4), .int (iI ln), .int (iI 0), .int (iI ap), .int (iI rm), .ref (u 5), .int (iI rd), .int (iI nw), .ref (u 6), .long (lI hh)])), (u 1, aL g 75 v)]) rfl rfl rfl ?_
    exact j_iret C hr hlk dX5_bestEnd_125 ⟨rfl, rfl⟩ (by decide) (by decide)
  | succ n ih =>
    intro i le E9 hi hle0 hle
    obtain ⟨hP, hE0, hF, hrow0, hwt, hht, hlen, hent⟩ := id hm
    have hE : -10 ≤ v 3 ∧ v 3 ≤ 10 := by omega
    have hrow : ∀ i : Nat, (i : Int) < v 2 → 0 ≤ vR v i ∧ vR v i ≤ 4 := fun i hi => by have := hrow0 i hi; omega
    have hf9 : -1 ≤ fcE (kV v) b i ∧ fcE (kV v) b i ≤ 1000000 := lea_rng ..
    have hn9 := nxr_rng (fcE (kV v) b) (fun _ => 0) 1000000 i
    refine j_iload C 5 dX5_bestEnd_29 rfl ?_
    refine j_iconst C dX5_bestEnd_31 ?_
    refine j_icmp_gt (tgt := 112) C (by omega) (by decide) dX5_bestEnd_32 (by decide) (fun c32 => absurd c32 (by omega)) (fun c32 => ?_)
    refine j_aload_n C 0 dX5_bestEnd_35 rfl rfl ?_
    refine j_get C ck5 0 0 (by decide) qw662 rfl rfl dX5_bestEnd_36 ?_
    refine j_iconst C dX5_bestEnd_39 ?_
    refine j_iload C 5 dX5_bestEnd_40 rfl ?_
    refine j_i2l C (by omega) dX5_bestEnd_42 ?_
    refine j_last (n := 75) (f := va_up v 3 E9) (ws1 := [(u 0, .inr (5, [.ref (u 1), .ref (u 2), .ref (u 3), .int (iI sv), .ref (u 4), .int (iI ln), .int (iI th), .int (iI ap), .int (iI rm), .ref (u 5), .int (iI rd), .int (iI nw), .ref (u 6), .long (lI hh)])), (u 1, aL g 75 (va_up (va_up v 3 E9) 3 ((i : Int))))]) C 1 3 rfl rfl (by decide) (by decide) dX5_bestEnd_43 rfl ?_
    refine J.world (ws1 := [(u 0, .inr (5, [.ref (u 1), .ref (u 2), .ref (u 3), .int (iI sv), .ref (u 4), .int (iI ln), .int (iI th), .int (iI ap), .int (iI rm), .ref (u 5), .int (iI rd), .int (iI nw), .ref (u 6), .long (lI hh)])), (u 1, aL g 75 (va_up v 3 (i : Int)))]) (by rw [va_two]) ?_
    refine j_aload_n C 0 dX5_bestEnd_44 rfl rfl ?_
    refine j_iload_n C 1 dX5_bestEnd_45 rfl rfl ?_
    refine j_iconst C dX5_bestEnd_46 ?_
    refine j_callV (As := [.int (iI b), .int (iI 1)]) (rest := []) C yv_X5_least qw800 (c_X5_least l g u (va_up v 3 (i : Int)) sv ln th ap rm rd nw hh b true (MOK_end hm (by omega)) (by omega)) (by decide) 0 rfl rfl rfl dX5_bestEnd_47 rfl (Nat.le_of_ble_eq_true rfl) (by decide) pf0 rfl (fun r9 w9 hq9 => ?_)
    obtain ⟨rfl, rfl⟩ := hq9
    refine J.to (L1 := [(0, .ref (u 0)), (1, .int (iI b)), (2, .long (lI (v 3))), (4, .int (iI (nxr (fcE (kV v) b) (fun _ => 0) 1000000 i))), (5, .int (iI le)), (6, .int (iI ((i : Int))))]) (S1 := [.int (iI (leaV (va_up v 3 (i : Int)) true b))]) (ws1 := [(u 0, .inr (5, [.ref (u 1), .ref (u 2), .ref (u 3), .int (iI sv), .ref (u 4), .int (iI ln), .int (iI th), .int (iI ap), .int (iI rm), .ref (u 5), .int (iI rd), .int (iI nw), .ref (u 6), .long (lI hh)])), (u 1, aL g 75 (va_up v 3 (i : Int)))]) rfl rfl rfl ?_
    refine J.to (L1 := [(0, .ref (u 0)), (1, .int (iI b)), (2, .long (lI (v 3))), (4, .int (iI (nxr (fcE (kV v) b) (fun _ => 0) 1000000 i))), (5, .int (iI le)), (6, .int (iI ((i : Int))))]) (S1 := [.int (iI (fcE (kV v) b i))]) (ws1 := [(u 0, .inr (5, [.ref (u 1), .ref (u 2), .ref (u 3), .int (iI sv), .ref (u 4), .int (iI ln), .int (iI th), .int (iI ap), .int (iI rm), .ref (u 5), .int (iI rd), .int (iI nw), .ref (u 6), .long (lI hh)])), (u 1, aL g 75 (va_up v 3 (i : Int)))]) rfl rfl (by rw [show ((leaV (va_up v 3 (i : Int)) true b : Int)) = fcE (kV v) b i from (fcE_eqV i)]) ?_
    refine j_istore (L1 := [(7, .int (iI (fcE (kV v) b i))), (0, .ref (u 0)), (1, .int (iI b)), (2, .long (lI (v 3))), (4, .int (iI (nxr (fcE (kV v) b) (fun _ => 0) 1000000 i))), (5, .int (iI le)), (6, .int (iI ((i : Int))))]) C dX5_bestEnd_50 (by decide) rfl ?_
    refine j_iload C 0 dX5_bestEnd_52 rfl ?_
    refine j_iconst C dX5_bestEnd_54 ?_
    refine j_icmp_eq (tgt := 75) C (by omega) (by decide) dX5_bestEnd_55 (by decide) (fun c55 => ?_) (fun c55 => ?_)
    · refine j_iconst C dX5_bestEnd_75 ?_
      refine j_istore (L1 := [(8, .int (iI 0)), (7, .int (iI (fcE (kV v) b i))), (0, .ref (u 0)), (1, .int (iI b)), (2, .long (lI (v 3))), (4, .int (iI (nxr (fcE (kV v) b) (fun _ => 0) 1000000 i))), (5, .int (iI le)), (6, .int (iI ((i : Int))))]) C dX5_bestEnd_76 (by decide) rfl ?_
      refine j_iload C 0 dX5_bestEnd_78 rfl ?_
      refine j_if_eq (tgt := 88) C (by decide) dX5_bestEnd_80 (by decide) (fun c80 => ?_) (fun c80 => absurd c80 (by decide))
      refine j_iload C 5 dX5_bestEnd_88 rfl ?_
      refine j_istore (L1 := [(4, .int (iI (nxr (fcE (kV v) b) (fun _ => 0) 1000000 i))), (8, .int (iI 0)), (7, .int (iI (fcE (kV v) b i))), (0, .ref (u 0)), (1, .int (iI b)), (2, .long (lI (v 3))), (5, .int (iI le)), (6, .int (iI ((i : Int))))]) C dX5_bestEnd_90 (by decide) rfl ?_
      refine j_iload C 1 dX5_bestEnd_92 rfl ?_
      refine j_if_eq (tgt := 102) C (by decide) dX5_bestEnd_94 (by decide) (fun c94 => ?_) (fun c94 => absurd c94 (by decide))
      refine j_iload C 6 dX5_bestEnd_102 rfl ?_
      refine j_istore (L1 := [(5, .int (iI le)), (4, .int (iI (nxr (fcE (kV v) b) (fun _ => 0) 1000000 i))), (8, .int (iI 0)), (7, .int (iI (fcE (kV v) b i))), (0, .ref (u 0)), (1, .int (iI b)), (2, .long (lI (v 3))), (6, .int (iI ((i : Int))))]) C dX5_bestEnd_104 (by decide) rfl ?_
      refine j_iinc (L1 := [(6, .int (iI (((i : Int)) + 1))), (5, .int (iI le)), (4, .int (iI (nxr (fcE (kV v) b) (fun _ => 0) 1000000 i))), (8, .int (iI 0)), (7, .int (iI (fcE (kV v) b i))), (0, .ref (u 0)), (1, .int (iI b)), (2, .long (lI (v 3)))]) C 7 dX5_bestEnd_106 rfl (by decide) rfl ?_
      refine j_goto (tgt := 29) C dX5_bestEnd_109 (by decide) ?_
      refine J.sub (L1 := [(0, .ref (u 0)), (1, .int (iI b)), (2, .long (lI (v 3))), (4, .int (iI (nxr (fcE (kV v) b) (fun _ => 0) 1000000 i))), (5, .int (iI le)), (6, .int (iI (((i : Int)) + 1)))]) [5, 6, 7, 2, 1, 0] rfl ?_
      have e9 : nxr (fcE (kV v) b) (fun _ => 0) 1000000 (i + 1) = nxr (fcE (kV v) b) (fun _ => 0) 1000000 i := by rw [nxr]; exact if_neg (fun h9 => h9.1.1 c55)
      have h9 := ih (i + 1) le (i : Int) (by omega) (by omega) (fun h9 => by rw [e9] at h9 ⊢; exact hle h9)
      rw [e9] at h9
      exact h9
    · refine j_iload C 4 dX5_bestEnd_58 rfl ?_
      refine j_iconst C dX5_bestEnd_60 ?_
      refine j_icmp_eq (tgt := 71) C (by omega) (by decide) dX5_bestEnd_61 (by decide) (fun c61 => ?_) (fun c61 => ?_)
      · refine j_iconst C dX5_bestEnd_71 ?_
        refine j_goto (tgt := 76) C dX5_bestEnd_72 (by decide) ?_
        refine j_istore (L1 := [(8, .int (iI 1)), (7, .int (iI (fcE (kV v) b i))), (0, .ref (u 0)), (1, .int (iI b)), (2, .long (lI (v 3))), (4, .int (iI (nxr (fcE (kV v) b) (fun _ => 0) 1000000 i))), (5, .int (iI le)), (6, .int (iI ((i : Int))))]) C dX5_bestEnd_76 (by decide) rfl ?_
        refine j_iload C 0 dX5_bestEnd_78 rfl ?_
        refine j_if_eq (tgt := 88) C (by decide) dX5_bestEnd_80 (by decide) (fun c80 => absurd c80 (by decide)) (fun c80 => ?_)
        refine j_iload C 7 dX5_bestEnd_83 rfl ?_
        refine j_goto (tgt := 90) C dX5_bestEnd_85 (by decide) ?_
        refine j_istore (L1 := [(4, .int (iI ((i : Int)))), (8, .int (iI 1)), (7, .int (iI (fcE (kV v) b i))), (0, .ref (u 0)), (1, .int (iI b)), (2, .long (lI (v 3))), (5, .int (iI le)), (6, .int (iI ((i : Int))))]) C dX5_bestEnd_90 (by decide) rfl ?_
        refine j_iload C 1 dX5_bestEnd_92 rfl ?_
        refine j_if_eq (tgt := 102) C (by decide) dX5_bestEnd_94 (by decide) (fun c94 => absurd c94 (by decide)) (fun c94 => ?_)
        refine j_iload C 2 dX5_bestEnd_97 rfl ?_
        refine j_goto (tgt := 104) C dX5_bestEnd_99 (by decide) ?_
        refine j_istore (L1 := [(5, .int (iI (fcE (kV v) b i))), (4, .int (iI ((i : Int)))), (8, .int (iI 1)), (7, .int (iI (fcE (kV v) b i))), (0, .ref (u 0)), (1, .int (iI b)), (2, .long (lI (v 3))), (6, .int (iI ((i : Int))))]) C dX5_bestEnd_104 (by decide) rfl ?_
        refine j_iinc (L1 := [(6, .int (iI (((i : Int)) + 1))), (5, .int (iI (fcE (kV v) b i))), (4, .int (iI ((i : Int)))), (8, .int (iI 1)), (7, .int (iI (fcE (kV v) b i))), (0, .ref (u 0)), (1, .int (iI b)), (2, .long (lI (v 3)))]) C 7 dX5_bestEnd_106 rfl (by decide) rfl ?_
        refine j_goto (tgt := 29) C dX5_bestEnd_109 (by decide) ?_
        refine J.sub (L1 := [(0, .ref (u 0)), (1, .int (iI b)), (2, .long (lI (v 3))), (4, .int (iI ((i : Int)))), (5, .int (iI (fcE (kV v) b i))), (6, .int (iI (((i : Int)) + 1)))]) [5, 6, 7, 2, 1, 0] rfl ?_
        have e9 : nxr (fcE (kV v) b) (fun _ => 0) 1000000 (i + 1) = (i : Int) := by rw [nxr]; exact if_pos ⟨⟨c55, hf9.2, by decide⟩, Or.inl c61⟩
        have h9 := ih (i + 1) (fcE (kV v) b i) (i : Int) (by omega) (by omega) (fun _ => by rw [e9]; rfl)
        rw [e9] at h9
        exact h9
      · refine j_iload C 0 dX5_bestEnd_64 rfl ?_
        refine j_iload C 5 dX5_bestEnd_66 rfl ?_
        refine j_icmp_ge (tgt := 75) C (by omega) (by omega) dX5_bestEnd_68 (by decide) (fun c68 => ?_) (fun c68 => ?_)
        · refine j_iconst C dX5_bestEnd_75 ?_
          refine j_istore (L1 := [(8, .int (iI 0)), (7, .int (iI (fcE (kV v) b i))), (0, .ref (u 0)), (1, .int (iI b)), (2, .long (lI (v 3))), (4, .int (iI (nxr (fcE (kV v) b) (fun _ => 0) 1000000 i))), (5, .int (iI le)), (6, .int (iI ((i : Int))))]) C dX5_bestEnd_76 (by decide) rfl ?_
          refine j_iload C 0 dX5_bestEnd_78 rfl ?_
          refine j_if_eq (tgt := 88) C (by decide) dX5_bestEnd_80 (by decide) (fun c80 => ?_) (fun c80 => absurd c80 (by decide))
          refine j_iload C 5 dX5_bestEnd_88 rfl ?_
          refine j_istore (L1 := [(4, .int (iI (nxr (fcE (kV v) b) (fun _ => 0) 1000000 i))), (8, .int (iI 0)), (7, .int (iI (fcE (kV v) b i))), (0, .ref (u 0)), (1, .int (iI b)), (2, .long (lI (v 3))), (5, .int (iI le)), (6, .int (iI ((i : Int))))]) C dX5_bestEnd_90 (by decide) rfl ?_
          refine j_iload C 1 dX5_bestEnd_92 rfl ?_
          refine j_if_eq (tgt := 102) C (by decide) dX5_bestEnd_94 (by decide) (fun c94 => ?_) (fun c94 => absurd c94 (by decide))
          refine j_iload C 6 dX5_bestEnd_102 rfl ?_
          refine j_istore (L1 := [(5, .int (iI le)), (4, .int (iI (nxr (fcE (kV v) b) (fun _ => 0) 1000000 i))), (8, .int (iI 0)), (7, .int (iI (fcE (kV v) b i))), (0, .ref (u 0)), (1, .int (iI b)), (2, .long (lI (v 3))), (6, .int (iI ((i : Int))))]) C dX5_bestEnd_104 (by decide) rfl ?_
          refine j_iinc (L1 := [(6, .int (iI (((i : Int)) + 1))), (5, .int (iI le)), (4, .int (iI (nxr (fcE (kV v) b) (fun _ => 0) 1000000 i))), (8, .int (iI 0)), (7, .int (iI (fcE (kV v) b i))), (0, .ref (u 0)), (1, .int (iI b)), (2, .long (lI (v 3)))]) C 7 dX5_bestEnd_106 rfl (by decide) rfl ?_
          refine j_goto (tgt := 29) C dX5_bestEnd_109 (by decide) ?_
          refine J.sub (L1 := [(0, .ref (u 0)), (1, .int (iI b)), (2, .long (lI (v 3))), (4, .int (iI (nxr (fcE (kV v) b) (fun _ => 0) 1000000 i))), (5, .int (iI le)), (6, .int (iI (((i : Int)) + 1)))]) [5, 6, 7, 2, 1, 0] rfl ?_
          have e9 : nxr (fcE (kV v) b) (fun _ => 0) 1000000 (i + 1) = nxr (fcE (kV v) b) (fun _ => 0) 1000000 i := by rw [nxr]; exact if_neg (fun h9 => by rcases h9.2 with h8 | h8; exact c61 h8; rw [← hle c61] at h8; omega)
          have h9 := ih (i + 1) le (i : Int) (by omega) (by omega) (fun h9 => by rw [e9] at h9 ⊢; exact hle h9)
          rw [e9] at h9
          exact h9
        · refine j_iconst C dX5_bestEnd_71 ?_
          refine j_goto (tgt := 76) C dX5_bestEnd_72 (by decide) ?_
          refine j_istore (L1 := [(8, .int (iI 1)), (7, .int (iI (fcE (kV v) b i))), (0, .ref (u 0)), (1, .int (iI b)), (2, .long (lI (v 3))), (4, .int (iI (nxr (fcE (kV v) b) (fun _ => 0) 1000000 i))), (5, .int (iI le)), (6, .int (iI ((i : Int))))]) C dX5_bestEnd_76 (by decide) rfl ?_
          refine j_iload C 0 dX5_bestEnd_78 rfl ?_
          refine j_if_eq (tgt := 88) C (by decide) dX5_bestEnd_80 (by decide) (fun c80 => absurd c80 (by decide)) (fun c80 => ?_)
          refine j_iload C 7 dX5_bestEnd_83 rfl ?_
          refine j_goto (tgt := 90) C dX5_bestEnd_85 (by decide) ?_
          refine j_istore (L1 := [(4, .int (iI ((i : Int)))), (8, .int (iI 1)), (7, .int (iI (fcE (kV v) b i))), (0, .ref (u 0)), (1, .int (iI b)), (2, .long (lI (v 3))), (5, .int (iI le)), (6, .int (iI ((i : Int))))]) C dX5_bestEnd_90 (by decide) rfl ?_
          refine j_iload C 1 dX5_bestEnd_92 rfl ?_
          refine j_if_eq (tgt := 102) C (by decide) dX5_bestEnd_94 (by decide) (fun c94 => absurd c94 (by decide)) (fun c94 => ?_)
          refine j_iload C 2 dX5_bestEnd_97 rfl ?_
          refine j_goto (tgt := 104) C dX5_bestEnd_99 (by decide) ?_
          refine j_istore (L1 := [(5, .int (iI (fcE (kV v) b i))), (4, .int (iI ((i : Int)))), (8, .int (iI 1)), (7, .int (iI (fcE (kV v) b i))), (0, .ref (u 0)), (1, .int (iI b)), (2, .long (lI (v 3))), (6, .int (iI ((i : Int))))]) C dX5_bestEnd_104 (by decide) rfl ?_
          refine j_iinc (L1 := [(6, .int (iI (((i : Int)) + 1))), (5, .int (iI (fcE (kV v) b i))), (4, .int (iI ((i : Int)))), (8, .int (iI 1)), (7, .int (iI (fcE (kV v) b i))), (0, .ref (u 0)), (1, .int (iI b)), (2, .long (lI (v 3)))]) C 7 dX5_bestEnd_106 rfl (by decide) rfl ?_
          refine j_goto (tgt := 29) C dX5_bestEnd_109 (by decide) ?_
          refine J.sub (L1 := [(0, .ref (u 0)), (1, .int (iI b)), (2, .long (lI (v 3))), (4, .int (iI ((i : Int)))), (5, .int (iI (fcE (kV v) b i))), (6, .int (iI (((i : Int)) + 1)))]) [5, 6, 7, 2, 1, 0] rfl ?_
          have e9 : nxr (fcE (kV v) b) (fun _ => 0) 1000000 (i + 1) = (i : Int) := by rw [nxr]; exact if_pos ⟨⟨c55, hf9.2, by decide⟩, Or.inr (by rw [← hle c61]; omega)⟩
          have h9 := ih (i + 1) (fcE (kV v) b i) (i : Int) (by omega) (by omega) (fun _ => by rw [e9]; rfl)
          rw [e9] at h9
          exact h9

theorem c_X5_bestEnd_ok (l : Launch) (g : Gh) (u : Nat → Nat) (v : Nat → Int) (sv ln th ap rm rd nw hh : Int) (b : Int) (hm : MOK v) (hb4 : 0 ≤ b ∧ b ≤ 3) : CT l g yX5_bestEnd cX5_bestEnd 9 (some FieldType.int) ({ frames := 3, cells := 0, slots := 0, locals := 80 }) [.ref (u 0), .int (iI b)] [(u 0, .inr (5, [.ref (u 1), .ref (u 2), .ref (u 3), .int (iI sv), .ref (u 4), .int (iI ln), .int (iI th), .int (iI ap), .int (iI rm), .ref (u 5), .int (iI rd), .int (iI nw), .ref (u 6), .long (lI hh)])), (u 1, aL g 75 v)] (PE (some (.int (iI (nxr (fcE (kV v) b) (fun _ => 0) 1000000 5)))) [(u 0, .inr (5, [.ref (u 1), .ref (u 2), .ref (u 3), .int (iI sv), .ref (u 4), .int (iI ln), .int (iI 0), .int (iI ap), .int (iI rm), .ref (u 5), .int (iI rd), .int (iI nw), .ref (u 6), .long (lI hh)])), (u 1, aL g 75 v)]) := by
  refine CT.intro (L0 := [(0, .ref (u 0)), (1, .int (iI b))]) (own := RX5) (by decide) rfl (Nat.le_of_ble_eq_true rfl) rfl ?_
  intro pX eX sX mX argsX belowX methX cX A C hr hlk
  obtain ⟨hP, hE0, hF, hrow0, hwt, hht, hlen, hent⟩ := id hm
  have hE : -10 ≤ v 3 ∧ v 3 ≤ 10 := by omega
  have hrow : ∀ i : Nat, (i : Int) < v 2 → 0 ≤ vR v i ∧ vR v i ≤ 4 := fun i hi => by have := hrow0 i hi; omega
  refine j_iload_n C 1 dX5_bestEnd_0 rfl rfl ?_
  refine j_callS (As := [.int (iI b)]) (rest := []) C ys_X5_isBlock qw714 (c_X5_isBlock_t l g b (by omega)) (by decide) rfl dX5_bestEnd_1 rfl (Nat.le_of_ble_eq_true rfl) (by decide) (pf1 [] [(u 0, .inr (5, [.ref (u 1), .ref (u 2), .ref (u 3), .int (iI sv), .ref (u 4), .int (iI ln), .int (iI th), .int (iI ap), .int (iI rm), .ref (u 5), .int (iI rd), .int (iI nw), .ref (u 6), .long (lI hh)])), (u 1, aL g 75 v)]) rfl (fun r9 w9 hq9 => ?_)
  obtain ⟨rfl, rfl⟩ := hq9
  refine J.to (L1 := [(0, .ref (u 0)), (1, .int (iI b))]) (S1 := [.int (iI 1)]) (ws1 := [(u 0, .inr (5, [.ref (u 1), .ref (u 2), .ref (u 3), .int (iI sv), .ref (u 4), .int (iI ln), .int (iI th), .int (iI ap), .int (iI rm), .ref (u 5), .int (iI rd), .int (iI nw), .ref (u 6), .long (lI hh)])), (u 1, aL g 75 v)]) rfl rfl rfl ?_
  refine j_if_ne (tgt := 13) C (by decide) dX5_bestEnd_4 (by decide) (fun c4 => ?_) (fun c4 => absurd c4 (by decide))
  refine j_aload_n C 0 dX5_bestEnd_13 rfl rfl ?_
  refine j_get C ck5 0 0 (by decide) qw662 rfl rfl dX5_bestEnd_14 ?_
  refine j_iconst C dX5_bestEnd_17 ?_
  refine j_lald (n := 75) (f := v) C 1 3 rfl rfl (by decide) (by decide) dX5_bestEnd_18 ?_
  refine j_lstore_n (L1 := [(2, .long (lI (v 3))), (0, .ref (u 0)), (1, .int (iI b))]) C dX5_bestEnd_19 rfl (by decide) rfl ?_
  refine j_iconst C dX5_bestEnd_20 ?_
  refine j_istore (L1 := [(4, .int (iI (-1))), (2, .long (lI (v 3))), (0, .ref (u 0)), (1, .int (iI b))]) C dX5_bestEnd_21 (by decide) rfl ?_
  refine j_iconst C dX5_bestEnd_23 ?_
  refine j_istore (L1 := [(5, .int (iI 0)), (4, .int (iI (-1))), (2, .long (lI (v 3))), (0, .ref (u 0)), (1, .int (iI b))]) C dX5_bestEnd_24 (by decide) rfl ?_
  refine j_iconst C dX5_bestEnd_26 ?_
  refine j_istore (L1 := [(6, .int (iI 0)), (5, .int (iI 0)), (4, .int (iI (-1))), (2, .long (lI (v 3))), (0, .ref (u 0)), (1, .int (iI b))]) C dX5_bestEnd_27 (by decide) rfl ?_
  refine J.sub (L1 := [(0, .ref (u 0)), (1, .int (iI b)), (2, .long (lI (v 3))), (4, .int (iI (-1))), (5, .int (iI 0)), (6, .int (iI 0))]) [4, 5, 3, 2, 1, 0] rfl ?_
  refine J.to (L1 := [(0, .ref (u 0)), (1, .int (iI b)), (2, .long (lI (v 3))), (4, .int (iI (nxr (fcE (kV v) b) (fun _ => 0) 1000000 0))), (5, .int (iI 0)), (6, .int (iI (((0 : Nat) : Int))))]) (S1 := []) (ws1 := [(u 0, .inr (5, [.ref (u 1), .ref (u 2), .ref (u 3), .int (iI sv), .ref (u 4), .int (iI ln), .int (iI th), .int (iI ap), .int (iI rm), .ref (u 5), .int (iI rd), .int (iI nw), .ref (u 6), .long (lI hh)])), (u 1, aL g 75 (va_up v 3 (v 3)))]) (by rw [va_self]) rfl rfl ?_
  exact lm_bestEnd C hr hlk hm hb4 5 0 0 (v 3) rfl (by decide) (fun h9 => absurd rfl h9)

theorem c_X5_bestEnd_n1 (l : Launch) (g : Gh) (u : Nat → Nat) (v : Nat → Int) (sv ln th ap rm rd nw hh : Int) (b : Int) (hm : MOK v) (hrb : -2147483648 ≤ b ∧ b < 2147483648) (hb4 : b < 0 ∨ 3 < b) : CT l g yX5_bestEnd cX5_bestEnd 9 (some FieldType.int) ({ frames := 3, cells := 0, slots := 0, locals := 80 }) [.ref (u 0), .int (iI b)] [(u 0, .inr (5, [.ref (u 1), .ref (u 2), .ref (u 3), .int (iI sv), .ref (u 4), .int (iI ln), .int (iI th), .int (iI ap), .int (iI rm), .ref (u 5), .int (iI rd), .int (iI nw), .ref (u 6), .long (lI hh)])), (u 1, aL g 75 v)] (PE (some (.int (iI 0))) [(u 0, .inr (5, [.ref (u 1), .ref (u 2), .ref (u 3), .int (iI sv), .ref (u 4), .int (iI ln), .int (iI 1), .int (iI ap), .int (iI rm), .ref (u 5), .int (iI rd), .int (iI nw), .ref (u 6), .long (lI hh)])), (u 1, aL g 75 v)]) := by
  refine CT.intro (L0 := [(0, .ref (u 0)), (1, .int (iI b))]) (own := RX5) (by decide) rfl (Nat.le_of_ble_eq_true rfl) rfl ?_
  intro pX eX sX mX argsX belowX methX cX A C hr hlk
  obtain ⟨hP, hE0, hF, hrow0, hwt, hht, hlen, hent⟩ := id hm
  have hE : -10 ≤ v 3 ∧ v 3 ≤ 10 := by omega
  have hrow : ∀ i : Nat, (i : Int) < v 2 → 0 ≤ vR v i ∧ vR v i ≤ 4 := fun i hi => by have := hrow0 i hi; omega
  refine j_iload_n C 1 dX5_bestEnd_0 rfl rfl ?_
  refine j_callS (As := [.int (iI b)]) (rest := []) C ys_X5_isBlock qw714 (c_X5_isBlock_f l g b (by omega) (by omega)) (by decide) rfl dX5_bestEnd_1 rfl (Nat.le_of_ble_eq_true rfl) (by decide) (pf1 [] [(u 0, .inr (5, [.ref (u 1), .ref (u 2), .ref (u 3), .int (iI sv), .ref (u 4), .int (iI ln), .int (iI th), .int (iI ap), .int (iI rm), .ref (u 5), .int (iI rd), .int (iI nw), .ref (u 6), .long (lI hh)])), (u 1, aL g 75 v)]) rfl (fun r9 w9 hq9 => ?_)
  obtain ⟨rfl, rfl⟩ := hq9
  refine J.to (L1 := [(0, .ref (u 0)), (1, .int (iI b))]) (S1 := [.int (iI 0)]) (ws1 := [(u 0, .inr (5, [.ref (u 1), .ref (u 2), .ref (u 3), .int (iI sv), .ref (u 4), .int (iI ln), .int (iI th), .int (iI ap), .int (iI rm), .ref (u 5), .int (iI rd), .int (iI nw), .ref (u 6), .long (lI hh)])), (u 1, aL g 75 v)]) rfl rfl rfl ?_
  refine j_if_ne (tgt := 13) C (by decide) dX5_bestEnd_4 (by decide) (fun c4 => absurd c4 (by decide)) (fun c4 => ?_)
  refine j_aload_n C 0 dX5_bestEnd_7 rfl rfl ?_
  refine j_iconst C dX5_bestEnd_8 ?_
  refine j_callV (As := [.int (iI 1)]) (rest := []) C yv_X5_fails qw721 (c_X5_fails l g u v sv ln th ap rm rd nw hh 1) (by decide) 0 rfl rfl rfl dX5_bestEnd_9 rfl (Nat.le_of_ble_eq_true rfl) (by decide) (pf1 [] [(u 1, aL g 75 v)]) rfl (fun r9 w9 hq9 => ?_)
  obtain ⟨rfl, rfl⟩ := hq9
  refine J.to (L1 := [(0, .ref (u 0)), (1, .int (iI b))]) (S1 := [.int (iI 0)]) (ws1 := [(u 0, .inr (5, [.ref (u 1), .ref (u 2), .ref (u 3), .int (iI sv), .ref (u 4), .int (iI ln), .int (iI 1), .int (iI ap), .int (iI rm), .ref (u 5), .int (iI rd), .int (iI nw), .ref (u 6), .long (lI hh)])), (u 1, aL g 75 v)]) rfl rfl rfl ?_
  exact j_iret C hr hlk dX5_bestEnd_12 ⟨rfl, rfl⟩ (by decide) (by decide)

def swV (v : Nat → Int) (x y : Int) : Nat → Int := va_up (va_up v (17 + x.toNat) (v (17 + y.toNat))) (17 + y.toNat) (v (17 + x.toNat))
theorem swV_r {v : Nat → Int} {x y : Int} (i : Nat) : swV v x y (17 + i) = swp (vR v) x.toNat y.toNat i := by
  unfold swV swp va_up
  by_cases h1 : i = y.toNat
  · rw [if_pos (by omega), if_pos h1]
  · rw [if_neg (by omega), if_neg h1]
    by_cases h2 : i = x.toNat
    · rw [if_pos (by omega), if_pos h2]
    · rw [if_neg (by omega), if_neg h2]
theorem swV_o {v : Nat → Int} {x y : Int} {j : Nat} (hj : j < 17) : swV v x y j = v j := by
  unfold swV
  rw [va_ne (by omega), va_ne (by omega)]
theorem swV_2 {v : Nat → Int} {x y : Int} : swV (swV v x y) x y = v := by
  funext j
  have ex : swV v x y (17 + x.toNat) = v (17 + y.toNat) := by
    rw [swV_r]; unfold swp va_up
    by_cases h : x.toNat = y.toNat
    · rw [if_pos h, h]
    · rw [if_neg h, if_pos rfl]
  have ey : swV v x y (17 + y.toNat) = v (17 + x.toNat) := by
    rw [swV_r]; unfold swp va_up
    rw [if_pos rfl]
  show va_up (va_up (swV v x y) (17 + x.toNat) (swV v x y (17 + y.toNat))) (17 + y.toNat) (swV v x y (17 + x.toNat)) j = v j
  rw [ex, ey]
  unfold va_up
  by_cases h1 : j = 17 + y.toNat
  · rw [if_pos h1, h1]
  · rw [if_neg h1]
    by_cases h2 : j = 17 + x.toNat
    · rw [if_pos h2, h2]
    · rw [if_neg h2]
      unfold swV
      rw [va_ne h1, va_ne h2]
theorem MOK_sw {v : Nat → Int} (hm : MOK v) {x y : Int} (hx : 0 ≤ x ∧ x < v 2) (hy : 0 ≤ y ∧ y < v 2) : MOK (swV v x y) := by
  obtain ⟨h1, h2, h3, h4, h5, h7, h8, h9⟩ := hm
  have e : ∀ j, j < 17 → swV v x y j = v j := fun j hj => swV_o hj
  refine ⟨by rw [e 2 (by decide)]; exact h1, by rw [e 3 (by decide)]; exact h2, by rw [e 1 (by decide)]; exact h3, fun i hi => ?_, fun b hb => ?_, fun b hb => ?_, by rw [e 0 (by decide)]; exact h8, by rw [e 6 (by decide)]; exact h9⟩
  · rw [e 2 (by decide)] at hi
    show 0 ≤ swV v x y (17 + i) ∧ swV v x y (17 + i) ≤ 3
    rw [swV_r]
    exact swp_rng (n := (v 2).toNat) (by omega) (by omega) (fun j hj => h4 j (by omega)) i (by omega)
  · show 0 ≤ swV v x y (9 + b) ∧ swV v x y (9 + b) ≤ 50000
    rw [e _ (by omega)]
    exact h5 b hb
  · show 0 ≤ swV v x y (13 + b) ∧ swV v x y (13 + b) ≤ 9000
    rw [e _ (by omega)]
    exact h7 b hb
theorem sw_eqV {v : Nat → Int} {b x y : Int} (hb : 0 ≤ b ∧ b ≤ 3) : leaV (swV v x y) true b = lea (swp (vR v) x.toNat y.toNat) (v 1) true (v 2).toNat (v 3) b (vW v b.toNat) := by
  show lea (vR (swV v x y)) (swV v x y 1) true (swV v x y 2).toNat (swV v x y 3) b (swV v x y (9 + b.toNat)) = _
  rw [swV_o (by decide), swV_o (by decide), swV_o (by decide), swV_o (by omega)]
  exact lea_congr fun i hi => swV_r i
theorem c_X5_changes (l : Launch) (g : Gh) (u : Nat → Nat) (v : Nat → Int) (sv ln th ap rm rd nw hh : Int) (x y : Int) (hx : 0 ≤ x ∧ x < 10) (hy : 0 ≤ y ∧ y < 10) : CT l g yX5_changes cX5_changes 5 none ({ frames := 0, cells := 0, slots := 0, locals := 0 }) [.ref (u 0), .int (iI x), .int (iI y)] [(u 0, .inr (5, [.ref (u 1), .ref (u 2), .ref (u 3), .int (iI sv), .ref (u 4), .int (iI ln), .int (iI th), .int (iI ap), .int (iI rm), .ref (u 5), .int (iI rd), .int (iI nw), .ref (u 6), .long (lI hh)])), (u 1, aL g 75 v)] (PE none [(u 0, .inr (5, [.ref (u 1), .ref (u 2), .ref (u 3), .int (iI sv), .ref (u 4), .int (iI ln), .int (iI th), .int (iI ap), .int (iI rm), .ref (u 5), .int (iI rd), .int (iI nw), .ref (u 6), .long (lI hh)])), (u 1, aL g 75 (swV v x y))]) := by
  refine CT.intro (L0 := [(0, .ref (u 0)), (1, .int (iI x)), (2, .int (iI y))]) (own := RX5) (by decide) rfl (Nat.le_of_ble_eq_true rfl) rfl ?_
  intro pX eX sX mX argsX belowX methX cX A C hr hlk
  refine j_aload_n C 0 dX5_changes_0 rfl rfl ?_
  refine j_get C ck5 0 0 (by decide) qw662 rfl rfl dX5_changes_1 ?_
  refine j_bipush C dX5_changes_4 (by decide) ?_
  refine j_iload_n C 1 dX5_changes_6 rfl rfl ?_
  refine j_iadd C dX5_changes_7 ?_
  refine j_lald (n := 75) (f := v) C 1 (17 + x.toNat) rfl (by omega) (by omega) (by decide) dX5_changes_8 ?_
  refine j_lstore_n (L1 := [(3, .long (lI (v (17 + x.toNat)))), (0, .ref (u 0)), (1, .int (iI x)), (2, .int (iI y))]) C dX5_changes_9 rfl (by decide) rfl ?_
  refine j_aload_n C 1 dX5_changes_10 rfl rfl ?_
  refine j_get C ck5 0 0 (by decide) qw662 rfl rfl dX5_changes_11 ?_
  refine j_bipush C dX5_changes_14 (by decide) ?_
  refine j_iload_n C 2 dX5_changes_16 rfl rfl ?_
  refine j_iadd C dX5_changes_17 ?_
  refine j_aload_n C 1 dX5_changes_18 rfl rfl ?_
  refine j_get C ck5 0 0 (by decide) qw662 rfl rfl dX5_changes_19 ?_
  refine j_bipush C dX5_changes_22 (by decide) ?_
  refine j_iload_n C 3 dX5_changes_24 rfl rfl ?_
  refine j_iadd C dX5_changes_25 ?_
  refine j_lald (n := 75) (f := v) C 1 (17 + y.toNat) rfl (by omega) (by omega) (by decide) dX5_changes_26 ?_
  refine j_last (n := 75) (f := v) (ws1 := [(u 0, .inr (5, [.ref (u 1), .ref (u 2), .ref (u 3), .int (iI sv), .ref (u 4), .int (iI ln), .int (iI th), .int (iI ap), .int (iI rm), .ref (u 5), .int (iI rd), .int (iI nw), .ref (u 6), .long (lI hh)])), (u 1, aL g 75 (va_up v (17 + x.toNat) (v (17 + y.toNat))))]) C 1 (17 + x.toNat) rfl (by omega) (by omega) (by decide) dX5_changes_27 rfl ?_
  refine j_aload_n C 1 dX5_changes_28 rfl rfl ?_
  refine j_get C ck5 0 0 (by decide) qw662 rfl rfl dX5_changes_29 ?_
  refine j_bipush C dX5_changes_32 (by decide) ?_
  refine j_iload_n C 3 dX5_changes_34 rfl rfl ?_
  refine j_iadd C dX5_changes_35 ?_
  refine j_lload_n C 0 dX5_changes_36 rfl rfl ?_
  refine j_last (n := 75) (f := va_up v (17 + x.toNat) (v (17 + y.toNat))) (ws1 := [(u 0, .inr (5, [.ref (u 1), .ref (u 2), .ref (u 3), .int (iI sv), .ref (u 4), .int (iI ln), .int (iI th), .int (iI ap), .int (iI rm), .ref (u 5), .int (iI rd), .int (iI nw), .ref (u 6), .long (lI hh)])), (u 1, aL g 75 (va_up (va_up v (17 + x.toNat) (v (17 + y.toNat))) (17 + y.toNat) (v (17 + x.toNat))))]) C 1 (17 + y.toNat) rfl (by omega) (by omega) (by decide) dX5_changes_37 rfl ?_
  exact j_vret C hr hlk dX5_changes_38 ⟨rfl, rfl⟩ (by decide) (by decide)

theorem c_X5_swapped_ok (l : Launch) (g : Gh) (u : Nat → Nat) (v : Nat → Int) (sv ln th ap rm rd nw hh : Int) (b x y : Int) (hm : MOK v) (hb4 : 0 ≤ b ∧ b ≤ 3) (hi : 0 ≤ x ∧ x < v 2) (hj : 0 ≤ y ∧ y < v 2) : CT l g yX5_swapped cX5_swapped 5 (some FieldType.int) ({ frames := 3, cells := 0, slots := 0, locals := 80 }) [.ref (u 0), .int (iI b), .int (iI x), .int (iI y)] [(u 0, .inr (5, [.ref (u 1), .ref (u 2), .ref (u 3), .int (iI sv), .ref (u 4), .int (iI ln), .int (iI th), .int (iI ap), .int (iI rm), .ref (u 5), .int (iI rd), .int (iI nw), .ref (u 6), .long (lI hh)])), (u 1, aL g 75 v)] (PE (some (.int (iI (lea (swp (vR v) x.toNat y.toNat) (v 1) true (v 2).toNat (v 3) b (vW v b.toNat))))) [(u 0, .inr (5, [.ref (u 1), .ref (u 2), .ref (u 3), .int (iI sv), .ref (u 4), .int (iI ln), .int (iI 0), .int (iI ap), .int (iI rm), .ref (u 5), .int (iI rd), .int (iI nw), .ref (u 6), .long (lI hh)])), (u 1, aL g 75 v)]) := by
  refine CT.intro (L0 := [(0, .ref (u 0)), (1, .int (iI b)), (2, .int (iI x)), (3, .int (iI y))]) (own := RX5) (by decide) rfl (Nat.le_of_ble_eq_true rfl) rfl ?_
  intro pX eX sX mX argsX belowX methX cX A C hr hlk
  obtain ⟨hP, hE0, hF, hrow0, hwt, hht, hlen, hent⟩ := id hm
  have hE : -10 ≤ v 3 ∧ v 3 ≤ 10 := by omega
  have hrow : ∀ i : Nat, (i : Int) < v 2 → 0 ≤ vR v i ∧ vR v i ≤ 4 := fun i hi => by have := hrow0 i hi; omega
  refine j_iload_n C 1 dX5_swapped_0 rfl rfl ?_
  refine j_callS (As := [.int (iI b)]) (rest := []) C ys_X5_isBlock qw714 (c_X5_isBlock_t l g b (by omega)) (by decide) rfl dX5_swapped_1 rfl (Nat.le_of_ble_eq_true rfl) (by decide) (pf1 [] [(u 0, .inr (5, [.ref (u 1), .ref (u 2), .ref (u 3), .int (iI sv), .ref (u 4), .int (iI ln), .int (iI th), .int (iI ap), .int (iI rm), .ref (u 5), .int (iI rd), .int (iI nw), .ref (u 6), .long (lI hh)])), (u 1, aL g 75 v)]) rfl (fun r9 w9 hq9 => ?_)
  obtain ⟨rfl, rfl⟩ := hq9
  refine J.to (L1 := [(0, .ref (u 0)), (1, .int (iI b)), (2, .int (iI x)), (3, .int (iI y))]) (S1 := [.int (iI 1)]) (ws1 := [(u 0, .inr (5, [.ref (u 1), .ref (u 2), .ref (u 3), .int (iI sv), .ref (u 4), .int (iI ln), .int (iI th), .int (iI ap), .int (iI rm), .ref (u 5), .int (iI rd), .int (iI nw), .ref (u 6), .long (lI hh)])), (u 1, aL g 75 v)]) rfl rfl rfl ?_
  refine j_if_eq (tgt := 41) C (by decide) dX5_swapped_4 (by decide) (fun c4 => absurd c4 (by decide)) (fun c4 => ?_)
  refine j_iload_n C 2 dX5_swapped_7 rfl rfl ?_
  refine j_i2l C (by omega) dX5_swapped_8 ?_
  refine j_lconst (v := 0) C dX5_swapped_9 rfl ?_
  refine j_aload_n C 0 dX5_swapped_10 rfl rfl ?_
  refine j_get C ck5 0 0 (by decide) qw662 rfl rfl dX5_swapped_11 ?_
  refine j_iconst C dX5_swapped_14 ?_
  refine j_lald (n := 75) (f := v) C 1 2 rfl rfl (by decide) (by decide) dX5_swapped_15 ?_
  refine j_lconst (v := 1) C dX5_swapped_16 rfl ?_
  refine j_lsub C dX5_swapped_17 ?_
  refine j_callS (As := [.long (lI x), .long (lI 0), .long (lI ((v 2) - 1))]) (rest := []) C ys_X5_in qw718 (c_X5_in_t l g x 0 ((v 2) - 1) (by omega) (by omega) (by omega) (by omega)) (by decide) rfl dX5_swapped_18 rfl (Nat.le_of_ble_eq_true rfl) (by decide) (pf1 [] [(u 0, .inr (5, [.ref (u 1), .ref (u 2), .ref (u 3), .int (iI sv), .ref (u 4), .int (iI ln), .int (iI th), .int (iI ap), .int (iI rm), .ref (u 5), .int (iI rd), .int (iI nw), .ref (u 6), .long (lI hh)])), (u 1, aL g 75 v)]) rfl (fun r9 w9 hq9 => ?_)
  obtain ⟨rfl, rfl⟩ := hq9
  refine J.to (L1 := [(0, .ref (u 0)), (1, .int (iI b)), (2, .int (iI x)), (3, .int (iI y))]) (S1 := [.int (iI 1)]) (ws1 := [(u 0, .inr (5, [.ref (u 1), .ref (u 2), .ref (u 3), .int (iI sv), .ref (u 4), .int (iI ln), .int (iI th), .int (iI ap), .int (iI rm), .ref (u 5), .int (iI rd), .int (iI nw), .ref (u 6), .long (lI hh)])), (u 1, aL g 75 v)]) rfl rfl rfl ?_
  refine j_if_eq (tgt := 41) C (by decide) dX5_swapped_21 (by decide) (fun c21 => absurd c21 (by decide)) (fun c21 => ?_)
  refine j_iload_n C 3 dX5_swapped_24 rfl rfl ?_
  refine j_i2l C (by omega) dX5_swapped_25 ?_
  refine j_lconst (v := 0) C dX5_swapped_26 rfl ?_
  refine j_aload_n C 0 dX5_swapped_27 rfl rfl ?_
  refine j_get C ck5 0 0 (by decide) qw662 rfl rfl dX5_swapped_28 ?_
  refine j_iconst C dX5_swapped_31 ?_
  refine j_lald (n := 75) (f := v) C 1 2 rfl rfl (by decide) (by decide) dX5_swapped_32 ?_
  refine j_lconst (v := 1) C dX5_swapped_33 rfl ?_
  refine j_lsub C dX5_swapped_34 ?_
  refine j_callS (As := [.long (lI y), .long (lI 0), .long (lI ((v 2) - 1))]) (rest := []) C ys_X5_in qw718 (c_X5_in_t l g y 0 ((v 2) - 1) (by omega) (by omega) (by omega) (by omega)) (by decide) rfl dX5_swapped_35 rfl (Nat.le_of_ble_eq_true rfl) (by decide) (pf1 [] [(u 0, .inr (5, [.ref (u 1), .ref (u 2), .ref (u 3), .int (iI sv), .ref (u 4), .int (iI ln), .int (iI th), .int (iI ap), .int (iI rm), .ref (u 5), .int (iI rd), .int (iI nw), .ref (u 6), .long (lI hh)])), (u 1, aL g 75 v)]) rfl (fun r9 w9 hq9 => ?_)
  obtain ⟨rfl, rfl⟩ := hq9
  refine J.to (L1 := [(0, .ref (u 0)), (1, .int (iI b)), (2, .int (iI x)), (3, .int (iI y))]) (S1 := [.int (iI 1)]) (ws1 := [(u 0, .inr (5, [.ref (u 1), .ref (u 2), .ref (u 3), .int (iI sv), .ref (u 4), .int (iI ln), .int (iI th), .int (iI ap), .int (iI rm), .ref (u 5), .int (iI rd), .int (iI nw), .ref (u 6), .long (lI hh)])), (u 1, aL g 75 v)]) rfl rfl rfl ?_
  refine j_if_ne (tgt := 47) C (by decide) dX5_swapped_38 (by decide) (fun c38 => ?_) (fun c38 => absurd c38 (by decide))
  refine j_aload_n C 0 dX5_swapped_47 rfl rfl ?_
  refine j_iload_n C 2 dX5_swapped_48 rfl rfl ?_
  refine j_iload_n C 3 dX5_swapped_49 rfl rfl ?_
  refine j_callV (As := [.int (iI x), .int (iI y)]) (rest := []) C yv_X5_changes qw897 (c_X5_changes l g u v sv ln th ap rm rd nw hh x y (by omega) (by omega)) (by decide) 0 rfl rfl rfl dX5_swapped_50 rfl (Nat.le_of_ble_eq_true rfl) (by decide) pf0 rfl (fun r9 w9 hq9 => ?_)
  obtain ⟨rfl, rfl⟩ := hq9
  refine J.to (L1 := [(0, .ref (u 0)), (1, .int (iI b)), (2, .int (iI x)), (3, .int (iI y))]) (S1 := []) (ws1 := [(u 0, .inr (5, [.ref (u 1), .ref (u 2), .ref (u 3), .int (iI sv), .ref (u 4), .int (iI ln), .int (iI th), .int (iI ap), .int (iI rm), .ref (u 5), .int (iI rd), .int (iI nw), .ref (u 6), .long (lI hh)])), (u 1, aL g 75 (swV v x y))]) rfl rfl rfl ?_
  refine j_aload_n C 0 dX5_swapped_53 rfl rfl ?_
  refine j_iload_n C 1 dX5_swapped_54 rfl rfl ?_
  refine j_iconst C dX5_swapped_55 ?_
  refine j_callV (As := [.int (iI b), .int (iI 1)]) (rest := []) C yv_X5_least qw800 (c_X5_least l g u (swV v x y) sv ln th ap rm rd nw hh b true (MOK_sw hm hi hj) (by omega)) (by decide) 0 rfl rfl rfl dX5_swapped_56 rfl (Nat.le_of_ble_eq_true rfl) (by decide) pf0 rfl (fun r9 w9 hq9 => ?_)
  obtain ⟨rfl, rfl⟩ := hq9
  refine J.to (L1 := [(0, .ref (u 0)), (1, .int (iI b)), (2, .int (iI x)), (3, .int (iI y))]) (S1 := [.int (iI (leaV (swV v x y) true b))]) (ws1 := [(u 0, .inr (5, [.ref (u 1), .ref (u 2), .ref (u 3), .int (iI sv), .ref (u 4), .int (iI ln), .int (iI th), .int (iI ap), .int (iI rm), .ref (u 5), .int (iI rd), .int (iI nw), .ref (u 6), .long (lI hh)])), (u 1, aL g 75 (swV v x y))]) rfl rfl rfl ?_
  refine J.to (L1 := [(0, .ref (u 0)), (1, .int (iI b)), (2, .int (iI x)), (3, .int (iI y))]) (S1 := [.int (iI (lea (swp (vR v) x.toNat y.toNat) (v 1) true (v 2).toNat (v 3) b (vW v b.toNat)))]) (ws1 := [(u 0, .inr (5, [.ref (u 1), .ref (u 2), .ref (u 3), .int (iI sv), .ref (u 4), .int (iI ln), .int (iI th), .int (iI ap), .int (iI rm), .ref (u 5), .int (iI rd), .int (iI nw), .ref (u 6), .long (lI hh)])), (u 1, aL g 75 (swV v x y))]) rfl rfl (by rw [show ((leaV (swV v x y) true b : Int)) = lea (swp (vR v) x.toNat y.toNat) (v 1) true (v 2).toNat (v 3) b (vW v b.toNat) from (sw_eqV hb4)]) ?_
  refine j_istore (L1 := [(4, .int (iI (lea (swp (vR v) x.toNat y.toNat) (v 1) true (v 2).toNat (v 3) b (vW v b.toNat)))), (0, .ref (u 0)), (1, .int (iI b)), (2, .int (iI x)), (3, .int (iI y))]) C dX5_swapped_59 (by decide) rfl ?_
  refine j_aload_n C 1 dX5_swapped_61 rfl rfl ?_
  refine j_iload_n C 3 dX5_swapped_62 rfl rfl ?_
  refine j_iload_n C 4 dX5_swapped_63 rfl rfl ?_
  refine j_callV (As := [.int (iI x), .int (iI y)]) (rest := []) C yv_X5_changes qw897 (c_X5_changes l g u (swV v x y) sv ln th ap rm rd nw hh x y (by omega) (by omega)) (by decide) 0 rfl rfl rfl dX5_swapped_64 rfl (Nat.le_of_ble_eq_true rfl) (by decide) pf0 rfl (fun r9 w9 hq9 => ?_)
  obtain ⟨rfl, rfl⟩ := hq9
  refine J.to (L1 := [(4, .int (iI (lea (swp (vR v) x.toNat y.toNat) (v 1) true (v 2).toNat (v 3) b (vW v b.toNat)))), (0, .ref (u 0)), (1, .int (iI b)), (2, .int (iI x)), (3, .int (iI y))]) (S1 := []) (ws1 := [(u 0, .inr (5, [.ref (u 1), .ref (u 2), .ref (u 3), .int (iI sv), .ref (u 4), .int (iI ln), .int (iI th), .int (iI ap), .int (iI rm), .ref (u 5), .int (iI rd), .int (iI nw), .ref (u 6), .long (lI hh)])), (u 1, aL g 75 (swV (swV v x y) x y))]) rfl rfl rfl ?_
  refine J.world (ws1 := [(u 0, .inr (5, [.ref (u 1), .ref (u 2), .ref (u 3), .int (iI sv), .ref (u 4), .int (iI ln), .int (iI th), .int (iI ap), .int (iI rm), .ref (u 5), .int (iI rd), .int (iI nw), .ref (u 6), .long (lI hh)])), (u 1, aL g 75 v)]) (by rw [swV_2]) ?_
  refine j_aload_n C 1 dX5_swapped_67 rfl rfl ?_
  refine j_iload C 0 dX5_swapped_68 rfl ?_
  refine j_callV (As := [.int (iI (lea (swp (vR v) x.toNat y.toNat) (v 1) true (v 2).toNat (v 3) b (vW v b.toNat)))]) (rest := []) C yv_X5_tells qw734 (c_X5_tells l g u v sv ln th ap rm rd nw hh (lea (swp (vR v) x.toNat y.toNat) (v 1) true (v 2).toNat (v 3) b (vW v b.toNat))) (by decide) 0 rfl rfl rfl dX5_swapped_70 rfl (Nat.le_of_ble_eq_true rfl) (by decide) (pf1 [] [(u 1, aL g 75 v)]) rfl (fun r9 w9 hq9 => ?_)
  obtain ⟨rfl, rfl⟩ := hq9
  refine J.to (L1 := [(4, .int (iI (lea (swp (vR v) x.toNat y.toNat) (v 1) true (v 2).toNat (v 3) b (vW v b.toNat)))), (0, .ref (u 0)), (1, .int (iI b)), (2, .int (iI x)), (3, .int (iI y))]) (S1 := [.int (iI (lea (swp (vR v) x.toNat y.toNat) (v 1) true (v 2).toNat (v 3) b (vW v b.toNat)))]) (ws1 := [(u 0, .inr (5, [.ref (u 1), .ref (u 2), .ref (u 3), .int (iI sv), .ref (u 4), .int (iI ln), .int (iI 0), .int (iI ap), .int (iI rm), .ref (u 5), .int (iI rd), .int (iI nw), .ref (u 6), .long (lI hh)])), (u 1, aL g 75 v)]) rfl rfl rfl ?_
  exact j_iret C hr hlk dX5_swapped_73 ⟨rfl, rfl⟩ (by decide) (by decide)

theorem c_X5_swapped_n1 (l : Launch) (g : Gh) (u : Nat → Nat) (v : Nat → Int) (sv ln th ap rm rd nw hh : Int) (b x y : Int) (hm : MOK v) (hrb : -2147483648 ≤ b ∧ b < 2147483648) (hrx : -2147483648 ≤ x ∧ x < 2147483648) (hry : -2147483648 ≤ y ∧ y < 2147483648) (hb4 : b < 0 ∨ 3 < b) : CT l g yX5_swapped cX5_swapped 5 (some FieldType.int) ({ frames := 3, cells := 0, slots := 0, locals := 80 }) [.ref (u 0), .int (iI b), .int (iI x), .int (iI y)] [(u 0, .inr (5, [.ref (u 1), .ref (u 2), .ref (u 3), .int (iI sv), .ref (u 4), .int (iI ln), .int (iI th), .int (iI ap), .int (iI rm), .ref (u 5), .int (iI rd), .int (iI nw), .ref (u 6), .long (lI hh)])), (u 1, aL g 75 v)] (PE (some (.int (iI 0))) [(u 0, .inr (5, [.ref (u 1), .ref (u 2), .ref (u 3), .int (iI sv), .ref (u 4), .int (iI ln), .int (iI 1), .int (iI ap), .int (iI rm), .ref (u 5), .int (iI rd), .int (iI nw), .ref (u 6), .long (lI hh)])), (u 1, aL g 75 v)]) := by
  refine CT.intro (L0 := [(0, .ref (u 0)), (1, .int (iI b)), (2, .int (iI x)), (3, .int (iI y))]) (own := RX5) (by decide) rfl (Nat.le_of_ble_eq_true rfl) rfl ?_
  intro pX eX sX mX argsX belowX methX cX A C hr hlk
  obtain ⟨hP, hE0, hF, hrow0, hwt, hht, hlen, hent⟩ := id hm
  have hE : -10 ≤ v 3 ∧ v 3 ≤ 10 := by omega
  have hrow : ∀ i : Nat, (i : Int) < v 2 → 0 ≤ vR v i ∧ vR v i ≤ 4 := fun i hi => by have := hrow0 i hi; omega
  refine j_iload_n C 1 dX5_swapped_0 rfl rfl ?_
  refine j_callS (As := [.int (iI b)]) (rest := []) C ys_X5_isBlock qw714 (c_X5_isBlock_f l g b (by omega) (by omega)) (by decide) rfl dX5_swapped_1 rfl (Nat.le_of_ble_eq_true rfl) (by decide) (pf1 [] [(u 0, .inr (5, [.ref (u 1), .ref (u 2), .ref (u 3), .int (iI sv), .ref (u 4), .int (iI ln), .int (iI th), .int (iI ap), .int (iI rm), .ref (u 5), .int (iI rd), .int (iI nw), .ref (u 6), .long (lI hh)])), (u 1, aL g 75 v)]) rfl (fun r9 w9 hq9 => ?_)
  obtain ⟨rfl, rfl⟩ := hq9
  refine J.to (L1 := [(0, .ref (u 0)), (1, .int (iI b)), (2, .int (iI x)), (3, .int (iI y))]) (S1 := [.int (iI 0)]) (ws1 := [(u 0, .inr (5, [.ref (u 1), .ref (u 2), .ref (u 3), .int (iI sv), .ref (u 4), .int (iI ln), .int (iI th), .int (iI ap), .int (iI rm), .ref (u 5), .int (iI rd), .int (iI nw), .ref (u 6), .long (lI hh)])), (u 1, aL g 75 v)]) rfl rfl rfl ?_
  refine j_if_eq (tgt := 41) C (by decide) dX5_swapped_4 (by decide) (fun c4 => ?_) (fun c4 => absurd c4 (by decide))
  refine j_aload_n C 0 dX5_swapped_41 rfl rfl ?_
  refine j_iconst C dX5_swapped_42 ?_
  refine j_callV (As := [.int (iI 1)]) (rest := []) C yv_X5_fails qw721 (c_X5_fails l g u v sv ln th ap rm rd nw hh 1) (by decide) 0 rfl rfl rfl dX5_swapped_43 rfl (Nat.le_of_ble_eq_true rfl) (by decide) (pf1 [] [(u 1, aL g 75 v)]) rfl (fun r9 w9 hq9 => ?_)
  obtain ⟨rfl, rfl⟩ := hq9
  refine J.to (L1 := [(0, .ref (u 0)), (1, .int (iI b)), (2, .int (iI x)), (3, .int (iI y))]) (S1 := [.int (iI 0)]) (ws1 := [(u 0, .inr (5, [.ref (u 1), .ref (u 2), .ref (u 3), .int (iI sv), .ref (u 4), .int (iI ln), .int (iI 1), .int (iI ap), .int (iI rm), .ref (u 5), .int (iI rd), .int (iI nw), .ref (u 6), .long (lI hh)])), (u 1, aL g 75 v)]) rfl rfl rfl ?_
  exact j_iret C hr hlk dX5_swapped_46 ⟨rfl, rfl⟩ (by decide) (by decide)

theorem c_X5_swapped_n2 (l : Launch) (g : Gh) (u : Nat → Nat) (v : Nat → Int) (sv ln th ap rm rd nw hh : Int) (b x y : Int) (hm : MOK v) (hrb : -2147483648 ≤ b ∧ b < 2147483648) (hrx : -2147483648 ≤ x ∧ x < 2147483648) (hry : -2147483648 ≤ y ∧ y < 2147483648) (hb4 : 0 ≤ b ∧ b ≤ 3) (hi : x < 0 ∨ v 2 ≤ x) : CT l g yX5_swapped cX5_swapped 5 (some FieldType.int) ({ frames := 3, cells := 0, slots := 0, locals := 80 }) [.ref (u 0), .int (iI b), .int (iI x), .int (iI y)] [(u 0, .inr (5, [.ref (u 1), .ref (u 2), .ref (u 3), .int (iI sv), .ref (u 4), .int (iI ln), .int (iI th), .int (iI ap), .int (iI rm), .ref (u 5), .int (iI rd), .int (iI nw), .ref (u 6), .long (lI hh)])), (u 1, aL g 75 v)] (PE (some (.int (iI 0))) [(u 0, .inr (5, [.ref (u 1), .ref (u 2), .ref (u 3), .int (iI sv), .ref (u 4), .int (iI ln), .int (iI 1), .int (iI ap), .int (iI rm), .ref (u 5), .int (iI rd), .int (iI nw), .ref (u 6), .long (lI hh)])), (u 1, aL g 75 v)]) := by
  refine CT.intro (L0 := [(0, .ref (u 0)), (1, .int (iI b)), (2, .int (iI x)), (3, .int (iI y))]) (own := RX5) (by decide) rfl (Nat.le_of_ble_eq_true rfl) rfl ?_
  intro pX eX sX mX argsX belowX methX cX A C hr hlk
  obtain ⟨hP, hE0, hF, hrow0, hwt, hht, hlen, hent⟩ := id hm
  have hE : -10 ≤ v 3 ∧ v 3 ≤ 10 := by omega
  have hrow : ∀ i : Nat, (i : Int) < v 2 → 0 ≤ vR v i ∧ vR v i ≤ 4 := fun i hi => by have := hrow0 i hi; omega
  refine j_iload_n C 1 dX5_swapped_0 rfl rfl ?_
  refine j_callS (As := [.int (iI b)]) (rest := []) C ys_X5_isBlock qw714 (c_X5_isBlock_t l g b (by omega)) (by decide) rfl dX5_swapped_1 rfl (Nat.le_of_ble_eq_true rfl) (by decide) (pf1 [] [(u 0, .inr (5, [.ref (u 1), .ref (u 2), .ref (u 3), .int (iI sv), .ref (u 4), .int (iI ln), .int (iI th), .int (iI ap), .int (iI rm), .ref (u 5), .int (iI rd), .int (iI nw), .ref (u 6), .long (lI hh)])), (u 1, aL g 75 v)]) rfl (fun r9 w9 hq9 => ?_)
  obtain ⟨rfl, rfl⟩ := hq9
  refine J.to (L1 := [(0, .ref (u 0)), (1, .int (iI b)), (2, .int (iI x)), (3, .int (iI y))]) (S1 := [.int (iI 1)]) (ws1 := [(u 0, .inr (5, [.ref (u 1), .ref (u 2), .ref (u 3), .int (iI sv), .ref (u 4), .int (iI ln), .int (iI th), .int (iI ap), .int (iI rm), .ref (u 5), .int (iI rd), .int (iI nw), .ref (u 6), .long (lI hh)])), (u 1, aL g 75 v)]) rfl rfl rfl ?_
  refine j_if_eq (tgt := 41) C (by decide) dX5_swapped_4 (by decide) (fun c4 => absurd c4 (by decide)) (fun c4 => ?_)
  refine j_iload_n C 2 dX5_swapped_7 rfl rfl ?_
  refine j_i2l C (by omega) dX5_swapped_8 ?_
  refine j_lconst (v := 0) C dX5_swapped_9 rfl ?_
  refine j_aload_n C 0 dX5_swapped_10 rfl rfl ?_
  refine j_get C ck5 0 0 (by decide) qw662 rfl rfl dX5_swapped_11 ?_
  refine j_iconst C dX5_swapped_14 ?_
  refine j_lald (n := 75) (f := v) C 1 2 rfl rfl (by decide) (by decide) dX5_swapped_15 ?_
  refine j_lconst (v := 1) C dX5_swapped_16 rfl ?_
  refine j_lsub C dX5_swapped_17 ?_
  refine j_callS (As := [.long (lI x), .long (lI 0), .long (lI ((v 2) - 1))]) (rest := []) C ys_X5_in qw718 (c_X5_in_f l g x 0 ((v 2) - 1) (by omega) (by omega) (by omega) (by omega)) (by decide) rfl dX5_swapped_18 rfl (Nat.le_of_ble_eq_true rfl) (by decide) (pf1 [] [(u 0, .inr (5, [.ref (u 1), .ref (u 2), .ref (u 3), .int (iI sv), .ref (u 4), .int (iI ln), .int (iI th), .int (iI ap), .int (iI rm), .ref (u 5), .int (iI rd), .int (iI nw), .ref (u 6), .long (lI hh)])), (u 1, aL g 75 v)]) rfl (fun r9 w9 hq9 => ?_)
  obtain ⟨rfl, rfl⟩ := hq9
  refine J.to (L1 := [(0, .ref (u 0)), (1, .int (iI b)), (2, .int (iI x)), (3, .int (iI y))]) (S1 := [.int (iI 0)]) (ws1 := [(u 0, .inr (5, [.ref (u 1), .ref (u 2), .ref (u 3), .int (iI sv), .ref (u 4), .int (iI ln), .int (iI th), .int (iI ap), .int (iI rm), .ref (u 5), .int (iI rd), .int (iI nw), .ref (u 6), .long (lI hh)])), (u 1, aL g 75 v)]) rfl rfl rfl ?_
  refine j_if_eq (tgt := 41) C (by decide) dX5_swapped_21 (by decide) (fun c21 => ?_) (fun c21 => absurd c21 (by decide))
  refine j_aload_n C 0 dX5_swapped_41 rfl rfl ?_
  refine j_iconst C dX5_swapped_42 ?_
  refine j_callV (As := [.int (iI 1)]) (rest := []) C yv_X5_fails qw721 (c_X5_fails l g u v sv ln th ap rm rd nw hh 1) (by decide) 0 rfl rfl rfl dX5_swapped_43 rfl (Nat.le_of_ble_eq_true rfl) (by decide) (pf1 [] [(u 1, aL g 75 v)]) rfl (fun r9 w9 hq9 => ?_)
  obtain ⟨rfl, rfl⟩ := hq9
  refine J.to (L1 := [(0, .ref (u 0)), (1, .int (iI b)), (2, .int (iI x)), (3, .int (iI y))]) (S1 := [.int (iI 0)]) (ws1 := [(u 0, .inr (5, [.ref (u 1), .ref (u 2), .ref (u 3), .int (iI sv), .ref (u 4), .int (iI ln), .int (iI 1), .int (iI ap), .int (iI rm), .ref (u 5), .int (iI rd), .int (iI nw), .ref (u 6), .long (lI hh)])), (u 1, aL g 75 v)]) rfl rfl rfl ?_
  exact j_iret C hr hlk dX5_swapped_46 ⟨rfl, rfl⟩ (by decide) (by decide)

theorem c_X5_swapped_n3 (l : Launch) (g : Gh) (u : Nat → Nat) (v : Nat → Int) (sv ln th ap rm rd nw hh : Int) (b x y : Int) (hm : MOK v) (hrb : -2147483648 ≤ b ∧ b < 2147483648) (hrx : -2147483648 ≤ x ∧ x < 2147483648) (hry : -2147483648 ≤ y ∧ y < 2147483648) (hb4 : 0 ≤ b ∧ b ≤ 3) (hi : 0 ≤ x ∧ x < v 2) (hj : y < 0 ∨ v 2 ≤ y) : CT l g yX5_swapped cX5_swapped 5 (some FieldType.int) ({ frames := 3, cells := 0, slots := 0, locals := 80 }) [.ref (u 0), .int (iI b), .int (iI x), .int (iI y)] [(u 0, .inr (5, [.ref (u 1), .ref (u 2), .ref (u 3), .int (iI sv), .ref (u 4), .int (iI ln), .int (iI th), .int (iI ap), .int (iI rm), .ref (u 5), .int (iI rd), .int (iI nw), .ref (u 6), .long (lI hh)])), (u 1, aL g 75 v)] (PE (some (.int (iI 0))) [(u 0, .inr (5, [.ref (u 1), .ref (u 2), .ref (u 3), .int (iI sv), .ref (u 4), .int (iI ln), .int (iI 1), .int (iI ap), .int (iI rm), .ref (u 5), .int (iI rd), .int (iI nw), .ref (u 6), .long (lI hh)])), (u 1, aL g 75 v)]) := by
  refine CT.intro (L0 := [(0, .ref (u 0)), (1, .int (iI b)), (2, .int (iI x)), (3, .int (iI y))]) (own := RX5) (by decide) rfl (Nat.le_of_ble_eq_true rfl) rfl ?_
  intro pX eX sX mX argsX belowX methX cX A C hr hlk
  obtain ⟨hP, hE0, hF, hrow0, hwt, hht, hlen, hent⟩ := id hm
  have hE : -10 ≤ v 3 ∧ v 3 ≤ 10 := by omega
  have hrow : ∀ i : Nat, (i : Int) < v 2 → 0 ≤ vR v i ∧ vR v i ≤ 4 := fun i hi => by have := hrow0 i hi; omega
  refine j_iload_n C 1 dX5_swapped_0 rfl rfl ?_
  refine j_callS (As := [.int (iI b)]) (rest := []) C ys_X5_isBlock qw714 (c_X5_isBlock_t l g b (by omega)) (by decide) rfl dX5_swapped_1 rfl (Nat.le_of_ble_eq_true rfl) (by decide) (pf1 [] [(u 0, .inr (5, [.ref (u 1), .ref (u 2), .ref (u 3), .int (iI sv), .ref (u 4), .int (iI ln), .int (iI th), .int (iI ap), .int (iI rm), .ref (u 5), .int (iI rd), .int (iI nw), .ref (u 6), .long (lI hh)])), (u 1, aL g 75 v)]) rfl (fun r9 w9 hq9 => ?_)
  obtain ⟨rfl, rfl⟩ := hq9
  refine J.to (L1 := [(0, .ref (u 0)), (1, .int (iI b)), (2, .int (iI x)), (3, .int (iI y))]) (S1 := [.int (iI 1)]) (ws1 := [(u 0, .inr (5, [.ref (u 1), .ref (u 2), .ref (u 3), .int (iI sv), .ref (u 4), .int (iI ln), .int (iI th), .int (iI ap), .int (iI rm), .ref (u 5), .int (iI rd), .int (iI nw), .ref (u 6), .long (lI hh)])), (u 1, aL g 75 v)]) rfl rfl rfl ?_
  refine j_if_eq (tgt := 41) C (by decide) dX5_swapped_4 (by decide) (fun c4 => absurd c4 (by decide)) (fun c4 => ?_)
  refine j_iload_n C 2 dX5_swapped_7 rfl rfl ?_
  refine j_i2l C (by omega) dX5_swapped_8 ?_
  refine j_lconst (v := 0) C dX5_swapped_9 rfl ?_
  refine j_aload_n C 0 dX5_swapped_10 rfl rfl ?_
  refine j_get C ck5 0 0 (by decide) qw662 rfl rfl dX5_swapped_11 ?_
  refine j_iconst C dX5_swapped_14 ?_
  refine j_lald (n := 75) (f := v) C 1 2 rfl rfl (by decide) (by decide) dX5_swapped_15 ?_
  refine j_lconst (v := 1) C dX5_swapped_16 rfl ?_
  refine j_lsub C dX5_swapped_17 ?_
  refine j_callS (As := [.long (lI x), .long (lI 0), .long (lI ((v 2) - 1))]) (rest := []) C ys_X5_in qw718 (c_X5_in_t l g x 0 ((v 2) - 1) (by omega) (by omega) (by omega) (by omega)) (by decide) rfl dX5_swapped_18 rfl (Nat.le_of_ble_eq_true rfl) (by decide) (pf1 [] [(u 0, .inr (5, [.ref (u 1), .ref (u 2), .ref (u 3), .int (iI sv), .ref (u 4), .int (iI ln), .int (iI th), .int (iI ap), .int (iI rm), .ref (u 5), .int (iI rd), .int (iI nw), .ref (u 6), .long (lI hh)])), (u 1, aL g 75 v)]) rfl (fun r9 w9 hq9 => ?_)
  obtain ⟨rfl, rfl⟩ := hq9
  refine J.to (L1 := [(0, .ref (u 0)), (1, .int (iI b)), (2, .int (iI x)), (3, .int (iI y))]) (S1 := [.int (iI 1)]) (ws1 := [(u 0, .inr (5, [.ref (u 1), .ref (u 2), .ref (u 3), .int (iI sv), .ref (u 4), .int (iI ln), .int (iI th), .int (iI ap), .int (iI rm), .ref (u 5), .int (iI rd), .int (iI nw), .ref (u 6), .long (lI hh)])), (u 1, aL g 75 v)]) rfl rfl rfl ?_
  refine j_if_eq (tgt := 41) C (by decide) dX5_swapped_21 (by decide) (fun c21 => absurd c21 (by decide)) (fun c21 => ?_)
  refine j_iload_n C 3 dX5_swapped_24 rfl rfl ?_
  refine j_i2l C (by omega) dX5_swapped_25 ?_
  refine j_lconst (v := 0) C dX5_swapped_26 rfl ?_
  refine j_aload_n C 0 dX5_swapped_27 rfl rfl ?_
  refine j_get C ck5 0 0 (by decide) qw662 rfl rfl dX5_swapped_28 ?_
  refine j_iconst C dX5_swapped_31 ?_
  refine j_lald (n := 75) (f := v) C 1 2 rfl rfl (by decide) (by decide) dX5_swapped_32 ?_
  refine j_lconst (v := 1) C dX5_swapped_33 rfl ?_
  refine j_lsub C dX5_swapped_34 ?_
  refine j_callS (As := [.long (lI y), .long (lI 0), .long (lI ((v 2) - 1))]) (rest := []) C ys_X5_in qw718 (c_X5_in_f l g y 0 ((v 2) - 1) (by omega) (by omega) (by omega) (by omega)) (by decide) rfl dX5_swapped_35 rfl (Nat.le_of_ble_eq_true rfl) (by decide) (pf1 [] [(u 0, .inr (5, [.ref (u 1), .ref (u 2), .ref (u 3), .int (iI sv), .ref (u 4), .int (iI ln), .int (iI th), .int (iI ap), .int (iI rm), .ref (u 5), .int (iI rd), .int (iI nw), .ref (u 6), .long (lI hh)])), (u 1, aL g 75 v)]) rfl (fun r9 w9 hq9 => ?_)
  obtain ⟨rfl, rfl⟩ := hq9
  refine J.to (L1 := [(0, .ref (u 0)), (1, .int (iI b)), (2, .int (iI x)), (3, .int (iI y))]) (S1 := [.int (iI 0)]) (ws1 := [(u 0, .inr (5, [.ref (u 1), .ref (u 2), .ref (u 3), .int (iI sv), .ref (u 4), .int (iI ln), .int (iI th), .int (iI ap), .int (iI rm), .ref (u 5), .int (iI rd), .int (iI nw), .ref (u 6), .long (lI hh)])), (u 1, aL g 75 v)]) rfl rfl rfl ?_
  refine j_if_ne (tgt := 47) C (by decide) dX5_swapped_38 (by decide) (fun c38 => absurd c38 (by decide)) (fun c38 => ?_)
  refine j_aload_n C 0 dX5_swapped_41 rfl rfl ?_
  refine j_iconst C dX5_swapped_42 ?_
  refine j_callV (As := [.int (iI 1)]) (rest := []) C yv_X5_fails qw721 (c_X5_fails l g u v sv ln th ap rm rd nw hh 1) (by decide) 0 rfl rfl rfl dX5_swapped_43 rfl (Nat.le_of_ble_eq_true rfl) (by decide) (pf1 [] [(u 1, aL g 75 v)]) rfl (fun r9 w9 hq9 => ?_)
  obtain ⟨rfl, rfl⟩ := hq9
  refine J.to (L1 := [(0, .ref (u 0)), (1, .int (iI b)), (2, .int (iI x)), (3, .int (iI y))]) (S1 := [.int (iI 0)]) (ws1 := [(u 0, .inr (5, [.ref (u 1), .ref (u 2), .ref (u 3), .int (iI sv), .ref (u 4), .int (iI ln), .int (iI 1), .int (iI ap), .int (iI rm), .ref (u 5), .int (iI rd), .int (iI nw), .ref (u 6), .long (lI hh)])), (u 1, aL g 75 v)]) rfl rfl rfl ?_
  exact j_iret C hr hlk dX5_swapped_46 ⟨rfl, rfl⟩ (by decide) (by decide)

theorem c_X5_riseBy_ok (l : Launch) (g : Gh) (u : Nat → Nat) (v pa sd tx rr rq : Nat → Int) (sv : Nat) (ln th ap rm rd nw hh : Int) (b f n : Int) (hm : MOK v) (hsv : sv ≤ 4) (hb4 : 0 ≤ b ∧ b ≤ 3) (hf : 0 ≤ f ∧ f ≤ 1000000) (hn : 0 ≤ n ∧ n ≤ 100000) : CT l g yX5_riseBy cX5_riseBy 6 (some FieldType.int) ({ frames := 5, cells := 0, slots := 0, locals := 131 }) [.ref (u 0), .int (iI b), .int (iI f), .int (iI n)] [(u 0, .inr (5, [.ref (u 1), .ref (u 2), .ref (u 3), .int (iI ((sv : Int))), .ref (u 4), .int (iI ln), .int (iI th), .int (iI ap), .int (iI rm), .ref (u 5), .int (iI rd), .int (iI nw), .ref (u 6), .long (lI hh)])), (u 1, aL g 75 v), (u 2, aL g 300 pa), (u 3, aL g 75 sd)] (PE (some (.int (iI (if (hauV f n v).2 = 0 then 0 else (hauV f n v).1 (13 + b.toNat) - cpy 75 v sd (13 + b.toNat))))) [(u 0, .inr (5, [.ref (u 1), .ref (u 2), .ref (u 3), .int (iI ((sv : Int))), .ref (u 4), .int (iI ln), .int (iI 0), .int (iI ap), .int (iI rm), .ref (u 5), .int (iI rd), .int (iI nw), .ref (u 6), .long (lI hh)])), (u 1, aL g 75 (cpy 75 (cpy 75 v sd) (hauV f n v).1)), (u 2, aL g 300 pa), (u 3, aL g 75 (cpy 75 v sd))]) := by
  refine CT.intro (L0 := [(0, .ref (u 0)), (1, .int (iI b)), (2, .int (iI f)), (3, .int (iI n))]) (own := RX5) (by decide) rfl (Nat.le_of_ble_eq_true rfl) rfl ?_
  intro pX eX sX mX argsX belowX methX cX A C hr hlk
  obtain ⟨hP, hE0, hF, hrow0, hwt, hht, hlen, hent⟩ := id hm
  have hE : -10 ≤ v 3 ∧ v 3 ≤ 10 := by omega
  have hrow : ∀ i : Nat, (i : Int) < v 2 → 0 ≤ vR v i ∧ vR v i ≤ 4 := fun i hi => by have := hrow0 i hi; omega
  have hv9 := mvV_rng (up := true) (hand := f) 4 hm hn.1
  have hv8 : (hauV f n v).2 = n - (mvV true f 4 v n).2 := rfl
  refine j_iload_n C 1 dX5_riseBy_0 rfl rfl ?_
  refine j_callS (As := [.int (iI b)]) (rest := []) C ys_X5_isBlock qw714 (c_X5_isBlock_t l g b (by omega)) (by decide) rfl dX5_riseBy_1 rfl (Nat.le_of_ble_eq_true rfl) (by decide) (pf1 [] [(u 0, .inr (5, [.ref (u 1), .ref (u 2), .ref (u 3), .int (iI ((sv : Int))), .ref (u 4), .int (iI ln), .int (iI th), .int (iI ap), .int (iI rm), .ref (u 5), .int (iI rd), .int (iI nw), .ref (u 6), .long (lI hh)])), (u 1, aL g 75 v), (u 2, aL g 300 pa), (u 3, aL g 75 sd)]) rfl (fun r9 w9 hq9 => ?_)
  obtain ⟨rfl, rfl⟩ := hq9
  refine J.to (L1 := [(0, .ref (u 0)), (1, .int (iI b)), (2, .int (iI f)), (3, .int (iI n))]) (S1 := [.int (iI 1)]) (ws1 := [(u 0, .inr (5, [.ref (u 1), .ref (u 2), .ref (u 3), .int (iI ((sv : Int))), .ref (u 4), .int (iI ln), .int (iI th), .int (iI ap), .int (iI rm), .ref (u 5), .int (iI rd), .int (iI nw), .ref (u 6), .long (lI hh)])), (u 1, aL g 75 v), (u 2, aL g 300 pa), (u 3, aL g 75 sd)]) rfl rfl rfl ?_
  refine j_if_ne (tgt := 13) C (by decide) dX5_riseBy_4 (by decide) (fun c4 => ?_) (fun c4 => absurd c4 (by decide))
  refine j_iload_n C 2 dX5_riseBy_13 rfl rfl ?_
  refine j_callS (As := [.int (iI f)]) (rest := []) C ys_X5_isForce qw786 (c_X5_isForce_t l g f (by omega)) (by decide) rfl dX5_riseBy_14 rfl (Nat.le_of_ble_eq_true rfl) (by decide) (pf1 [] [(u 0, .inr (5, [.ref (u 1), .ref (u 2), .ref (u 3), .int (iI ((sv : Int))), .ref (u 4), .int (iI ln), .int (iI th), .int (iI ap), .int (iI rm), .ref (u 5), .int (iI rd), .int (iI nw), .ref (u 6), .long (lI hh)])), (u 1, aL g 75 v), (u 2, aL g 300 pa), (u 3, aL g 75 sd)]) rfl (fun r9 w9 hq9 => ?_)
  obtain ⟨rfl, rfl⟩ := hq9
  refine J.to (L1 := [(0, .ref (u 0)), (1, .int (iI b)), (2, .int (iI f)), (3, .int (iI n))]) (S1 := [.int (iI 1)]) (ws1 := [(u 0, .inr (5, [.ref (u 1), .ref (u 2), .ref (u 3), .int (iI ((sv : Int))), .ref (u 4), .int (iI ln), .int (iI th), .int (iI ap), .int (iI rm), .ref (u 5), .int (iI rd), .int (iI nw), .ref (u 6), .long (lI hh)])), (u 1, aL g 75 v), (u 2, aL g 300 pa), (u 3, aL g 75 sd)]) rfl rfl rfl ?_
  refine j_if_eq (tgt := 32) C (by decide) dX5_riseBy_17 (by decide) (fun c17 => absurd c17 (by decide)) (fun c17 => ?_)
  refine j_iload_n C 3 dX5_riseBy_20 rfl rfl ?_
  refine j_i2l C (by omega) dX5_riseBy_21 ?_
  refine j_lconst (v := 0) C dX5_riseBy_22 rfl ?_
  refine j_ldc2 (x := 100000) C qw790 (by decide) dX5_riseBy_23 ?_
  refine j_callS (As := [.long (lI n), .long (lI 0), .long (lI 100000)]) (rest := []) C ys_X5_in qw718 (c_X5_in_t l g n 0 100000 (by omega) (by omega) (by omega) (by omega)) (by decide) rfl dX5_riseBy_26 rfl (Nat.le_of_ble_eq_true rfl) (by decide) (pf1 [] [(u 0, .inr (5, [.ref (u 1), .ref (u 2), .ref (u 3), .int (iI ((sv : Int))), .ref (u 4), .int (iI ln), .int (iI th), .int (iI ap), .int (iI rm), .ref (u 5), .int (iI rd), .int (iI nw), .ref (u 6), .long (lI hh)])), (u 1, aL g 75 v), (u 2, aL g 300 pa), (u 3, aL g 75 sd)]) rfl (fun r9 w9 hq9 => ?_)
  obtain ⟨rfl, rfl⟩ := hq9
  refine J.to (L1 := [(0, .ref (u 0)), (1, .int (iI b)), (2, .int (iI f)), (3, .int (iI n))]) (S1 := [.int (iI 1)]) (ws1 := [(u 0, .inr (5, [.ref (u 1), .ref (u 2), .ref (u 3), .int (iI ((sv : Int))), .ref (u 4), .int (iI ln), .int (iI th), .int (iI ap), .int (iI rm), .ref (u 5), .int (iI rd), .int (iI nw), .ref (u 6), .long (lI hh)])), (u 1, aL g 75 v), (u 2, aL g 300 pa), (u 3, aL g 75 sd)]) rfl rfl rfl ?_
  refine j_if_ne (tgt := 38) C (by decide) dX5_riseBy_29 (by decide) (fun c29 => ?_) (fun c29 => absurd c29 (by decide))
  refine j_aload_n C 0 dX5_riseBy_38 rfl rfl ?_
  refine j_callV (As := []) (rest := []) C yv_X5_laysAside qw905 (c_X5_laysAside l g u v pa sd tx rr rq ((sv : Int)) ln th ap rm rd nw hh) (by decide) 0 rfl rfl rfl dX5_riseBy_39 rfl (Nat.le_of_ble_eq_true rfl) (by decide) pf0 rfl (fun r9 w9 hq9 => ?_)
  obtain ⟨rfl, rfl⟩ := hq9
  refine J.to (L1 := [(0, .ref (u 0)), (1, .int (iI b)), (2, .int (iI f)), (3, .int (iI n))]) (S1 := []) (ws1 := [(u 0, .inr (5, [.ref (u 1), .ref (u 2), .ref (u 3), .int (iI ((sv : Int))), .ref (u 4), .int (iI ln), .int (iI th), .int (iI ap), .int (iI rm), .ref (u 5), .int (iI rd), .int (iI nw), .ref (u 6), .long (lI hh)])), (u 1, aL g 75 v), (u 2, aL g 300 pa), (u 3, aL g 75 (cpy 75 v sd))]) rfl rfl rfl ?_
  refine j_aload_n C 0 dX5_riseBy_42 rfl rfl ?_
  refine j_iload_n C 2 dX5_riseBy_43 rfl rfl ?_
  refine j_iload_n C 3 dX5_riseBy_44 rfl rfl ?_
  refine j_callV (As := [.int (iI f), .int (iI n)]) (rest := []) C yv_X5_hauls qw791 (c_X5_hauls l g u v ((sv : Int)) ln th ap rm rd nw hh f n hm (by omega) (by omega)) (by decide) 0 rfl rfl rfl dX5_riseBy_45 rfl (Nat.le_of_ble_eq_true rfl) (by decide) (pf1 [] [(u 2, aL g 300 pa), (u 3, aL g 75 (cpy 75 v sd))]) rfl (fun r9 w9 hq9 => ?_)
  obtain ⟨rfl, rfl⟩ := hq9
  refine J.to (L1 := [(0, .ref (u 0)), (1, .int (iI b)), (2, .int (iI f)), (3, .int (iI n))]) (S1 := [.int (iI ((hauV f n v).2))]) (ws1 := [(u 0, .inr (5, [.ref (u 1), .ref (u 2), .ref (u 3), .int (iI ((sv : Int))), .ref (u 4), .int (iI ln), .int (iI th), .int (iI ap), .int (iI rm), .ref (u 5), .int (iI rd), .int (iI nw), .ref (u 6), .long (lI hh)])), (u 1, aL g 75 ((hauV f n v).1)), (u 2, aL g 300 pa), (u 3, aL g 75 (cpy 75 v sd))]) rfl rfl rfl ?_
  refine j_istore (L1 := [(4, .int (iI ((hauV f n v).2))), (0, .ref (u 0)), (1, .int (iI b)), (2, .int (iI f)), (3, .int (iI n))]) C dX5_riseBy_48 (by decide) rfl ?_
  refine j_iload C 0 dX5_riseBy_50 rfl ?_
  refine j_if_ne (tgt := 59) C (by omega) dX5_riseBy_52 (by decide) (fun c52 => ?_) (fun c52 => ?_)
  · refine j_aload_n C 1 dX5_riseBy_59 rfl rfl ?_
    refine j_get C ck5 0 0 (by decide) qw662 rfl rfl dX5_riseBy_60 ?_
    refine j_bipush C dX5_riseBy_63 (by decide) ?_
    refine j_iload_n C 2 dX5_riseBy_65 rfl rfl ?_
    refine j_iadd C dX5_riseBy_66 ?_
    refine j_lald (n := 75) (f := (hauV f n v).1) C 1 (13 + b.toNat) rfl (by omega) (by omega) (by decide) dX5_riseBy_67 ?_
    refine j_aload_n C 1 dX5_riseBy_68 rfl rfl ?_
    refine j_get C ck5 0 2 (by decide) qw664 rfl rfl dX5_riseBy_69 ?_
    refine j_bipush C dX5_riseBy_72 (by decide) ?_
    refine j_iload_n C 2 dX5_riseBy_74 rfl rfl ?_
    refine j_iadd C dX5_riseBy_75 ?_
    refine j_lald (n := 75) (f := cpy 75 v sd) C 3 (13 + b.toNat) rfl (by omega) (by omega) (by decide) dX5_riseBy_76 ?_
    refine j_lsub C dX5_riseBy_77 ?_
    refine j_l2i C dX5_riseBy_78 ?_
    refine j_istore (L1 := [(5, .int (iI ((((hauV f n v).1) (13 + b.toNat)) - ((cpy 75 v sd) (13 + b.toNat))))), (4, .int (iI ((hauV f n v).2))), (0, .ref (u 0)), (1, .int (iI b)), (2, .int (iI f)), (3, .int (iI n))]) C dX5_riseBy_79 (by decide) rfl ?_
    refine j_aload_n C 2 dX5_riseBy_81 rfl rfl ?_
    refine j_callV (As := []) (rest := []) C yv_X5_bringsBack qw909 (c_X5_bringsBack l g u ((hauV f n v).1) pa (cpy 75 v sd) tx rr rq ((sv : Int)) ln th ap rm rd nw hh) (by decide) 0 rfl rfl rfl dX5_riseBy_82 rfl (Nat.le_of_ble_eq_true rfl) (by decide) pf0 rfl (fun r9 w9 hq9 => ?_)
    obtain ⟨rfl, rfl⟩ := hq9
    refine J.to (L1 := [(5, .int (iI ((((hauV f n v).1) (13 + b.toNat)) - ((cpy 75 v sd) (13 + b.toNat))))), (4, .int (iI ((hauV f n v).2))), (0, .ref (u 0)), (1, .int (iI b)), (2, .int (iI f)), (3, .int (iI n))]) (S1 := []) (ws1 := [(u 0, .inr (5, [.ref (u 1), .ref (u 2), .ref (u 3), .int (iI ((sv : Int))), .ref (u 4), .int (iI ln), .int (iI th), .int (iI ap), .int (iI rm), .ref (u 5), .int (iI rd), .int (iI nw), .ref (u 6), .long (lI hh)])), (u 1, aL g 75 (cpy 75 (cpy 75 v sd) ((hauV f n v).1))), (u 2, aL g 300 pa), (u 3, aL g 75 (cpy 75 v sd))]) rfl rfl rfl ?_
    refine j_aload_n C 2 dX5_riseBy_85 rfl rfl ?_
    refine j_iload C 0 dX5_riseBy_86 rfl ?_
    refine j_callV (As := [.int (iI ((((hauV f n v).1) (13 + b.toNat)) - ((cpy 75 v sd) (13 + b.toNat))))]) (rest := []) C yv_X5_tells qw734 (c_X5_tells l g u (cpy 75 (cpy 75 v sd) ((hauV f n v).1)) ((sv : Int)) ln th ap rm rd nw hh ((((hauV f n v).1) (13 + b.toNat)) - ((cpy 75 v sd) (13 + b.toNat)))) (by decide) 0 rfl rfl rfl dX5_riseBy_88 rfl (Nat.le_of_ble_eq_true rfl) (by decide) (pf1 [] [(u 1, aL g 75 (cpy 75 (cpy 75 v sd) ((hauV f n v).1))), (u 2, aL g 300 pa), (u 3, aL g 75 (cpy 75 v sd))]) rfl (fun r9 w9 hq9 => ?_)
    obtain ⟨rfl, rfl⟩ := hq9
    refine J.to (L1 := [(5, .int (iI ((((hauV f n v).1) (13 + b.toNat)) - ((cpy 75 v sd) (13 + b.toNat))))), (4, .int (iI ((hauV f n v).2))), (0, .ref (u 0)), (1, .int (iI b)), (2, .int (iI f)), (3, .int (iI n))]) (S1 := [.int (iI ((((hauV f n v).1) (13 + b.toNat)) - ((cpy 75 v sd) (13 + b.toNat))))]) (ws1 := [(u 0, .inr (5, [.ref (u 1), .ref (u 2), .ref (u 3), .int (iI ((sv : Int))), .ref (u 4), .int (iI ln), .int (iI 0), .int (iI ap), .int (iI rm), .ref (u 5), .int (iI rd), .int (iI nw), .ref (u 6), .long (lI hh)])), (u 1, aL g 75 (cpy 75 (cpy 75 v sd) ((hauV f n v).1))), (u 2, aL g 300 pa), (u 3, aL g 75 (cpy 75 v sd))]) rfl rfl rfl ?_
    exact j_iret C hr hlk dX5_riseBy_91 ⟨by rw [if_neg (by omega)], rfl⟩ (by decide) (by decide)
  · refine j_iconst C dX5_riseBy_55 ?_
    refine j_goto (tgt := 79) C dX5_riseBy_56 (by decide) ?_
    refine j_istore (L1 := [(5, .int (iI 0)), (4, .int (iI ((hauV f n v).2))), (0, .ref (u 0)), (1, .int (iI b)), (2, .int (iI f)), (3, .int (iI n))]) C dX5_riseBy_79 (by decide) rfl ?_
    refine j_aload_n C 2 dX5_riseBy_81 rfl rfl ?_
    refine j_callV (As := []) (rest := []) C yv_X5_bringsBack qw909 (c_X5_bringsBack l g u ((hauV f n v).1) pa (cpy 75 v sd) tx rr rq ((sv : Int)) ln th ap rm rd nw hh) (by decide) 0 rfl rfl rfl dX5_riseBy_82 rfl (Nat.le_of_ble_eq_true rfl) (by decide) pf0 rfl (fun r9 w9 hq9 => ?_)
    obtain ⟨rfl, rfl⟩ := hq9
    refine J.to (L1 := [(5, .int (iI 0)), (4, .int (iI ((hauV f n v).2))), (0, .ref (u 0)), (1, .int (iI b)), (2, .int (iI f)), (3, .int (iI n))]) (S1 := []) (ws1 := [(u 0, .inr (5, [.ref (u 1), .ref (u 2), .ref (u 3), .int (iI ((sv : Int))), .ref (u 4), .int (iI ln), .int (iI th), .int (iI ap), .int (iI rm), .ref (u 5), .int (iI rd), .int (iI nw), .ref (u 6), .long (lI hh)])), (u 1, aL g 75 (cpy 75 (cpy 75 v sd) ((hauV f n v).1))), (u 2, aL g 300 pa), (u 3, aL g 75 (cpy 75 v sd))]) rfl rfl rfl ?_
    refine j_aload_n C 2 dX5_riseBy_85 rfl rfl ?_
    refine j_iload C 0 dX5_riseBy_86 rfl ?_
    refine j_callV (As := [.int (iI 0)]) (rest := []) C yv_X5_tells qw734 (c_X5_tells l g u (cpy 75 (cpy 75 v sd) ((hauV f n v).1)) ((sv : Int)) ln th ap rm rd nw hh 0) (by decide) 0 rfl rfl rfl dX5_riseBy_88 rfl (Nat.le_of_ble_eq_true rfl) (by decide) (pf1 [] [(u 1, aL g 75 (cpy 75 (cpy 75 v sd) ((hauV f n v).1))), (u 2, aL g 300 pa), (u 3, aL g 75 (cpy 75 v sd))]) rfl (fun r9 w9 hq9 => ?_)
    obtain ⟨rfl, rfl⟩ := hq9
    refine J.to (L1 := [(5, .int (iI 0)), (4, .int (iI ((hauV f n v).2))), (0, .ref (u 0)), (1, .int (iI b)), (2, .int (iI f)), (3, .int (iI n))]) (S1 := [.int (iI 0)]) (ws1 := [(u 0, .inr (5, [.ref (u 1), .ref (u 2), .ref (u 3), .int (iI ((sv : Int))), .ref (u 4), .int (iI ln), .int (iI 0), .int (iI ap), .int (iI rm), .ref (u 5), .int (iI rd), .int (iI nw), .ref (u 6), .long (lI hh)])), (u 1, aL g 75 (cpy 75 (cpy 75 v sd) ((hauV f n v).1))), (u 2, aL g 300 pa), (u 3, aL g 75 (cpy 75 v sd))]) rfl rfl rfl ?_
    exact j_iret C hr hlk dX5_riseBy_91 ⟨by rw [if_pos (by omega)], rfl⟩ (by decide) (by decide)

theorem c_X5_riseBy_n1 (l : Launch) (g : Gh) (u : Nat → Nat) (v pa sd tx rr rq : Nat → Int) (sv : Nat) (ln th ap rm rd nw hh : Int) (b f n : Int) (hm : MOK v) (hsv : sv ≤ 4) (hrb : -2147483648 ≤ b ∧ b < 2147483648) (hrf : -2147483648 ≤ f ∧ f < 2147483648) (hrn : -2147483648 ≤ n ∧ n < 2147483648) (hb4 : b < 0 ∨ 3 < b) : CT l g yX5_riseBy cX5_riseBy 6 (some FieldType.int) ({ frames := 5, cells := 0, slots := 0, locals := 131 }) [.ref (u 0), .int (iI b), .int (iI f), .int (iI n)] [(u 0, .inr (5, [.ref (u 1), .ref (u 2), .ref (u 3), .int (iI ((sv : Int))), .ref (u 4), .int (iI ln), .int (iI th), .int (iI ap), .int (iI rm), .ref (u 5), .int (iI rd), .int (iI nw), .ref (u 6), .long (lI hh)])), (u 1, aL g 75 v), (u 2, aL g 300 pa), (u 3, aL g 75 sd)] (PE (some (.int (iI 0))) [(u 0, .inr (5, [.ref (u 1), .ref (u 2), .ref (u 3), .int (iI ((sv : Int))), .ref (u 4), .int (iI ln), .int (iI 1), .int (iI ap), .int (iI rm), .ref (u 5), .int (iI rd), .int (iI nw), .ref (u 6), .long (lI hh)])), (u 1, aL g 75 v), (u 2, aL g 300 pa), (u 3, aL g 75 sd)]) := by
  refine CT.intro (L0 := [(0, .ref (u 0)), (1, .int (iI b)), (2, .int (iI f)), (3, .int (iI n))]) (own := RX5) (by decide) rfl (Nat.le_of_ble_eq_true rfl) rfl ?_
  intro pX eX sX mX argsX belowX methX cX A C hr hlk
  obtain ⟨hP, hE0, hF, hrow0, hwt, hht, hlen, hent⟩ := id hm
  have hE : -10 ≤ v 3 ∧ v 3 ≤ 10 := by omega
  have hrow : ∀ i : Nat, (i : Int) < v 2 → 0 ≤ vR v i ∧ vR v i ≤ 4 := fun i hi => by have := hrow0 i hi; omega
  refine j_iload_n C 1 dX5_riseBy_0 rfl rfl ?_
  refine j_callS (As := [.int (iI b)]) (rest := []) C ys_X5_isBlock qw714 (c_X5_isBlock_f l g b (by omega) (by omega)) (by decide) rfl dX5_riseBy_1 rfl (Nat.le_of_ble_eq_true rfl) (by decide) (pf1 [] [(u 0, .inr (5, [.ref (u 1), .ref (u 2), .ref (u 3), .int (iI ((sv : Int))), .ref (u 4), .int (iI ln), .int (iI th), .int (iI ap), .int (iI rm), .ref (u 5), .int (iI rd), .int (iI nw), .ref (u 6), .long (lI hh)])), (u 1, aL g 75 v), (u 2, aL g 300 pa), (u 3, aL g 75 sd)]) rfl (fun r9 w9 hq9 => ?_)
  obtain ⟨rfl, rfl⟩ := hq9
  refine J.to (L1 := [(0, .ref (u 0)), (1, .int (iI b)), (2, .int (iI f)), (3, .int (iI n))]) (S1 := [.int (iI 0)]) (ws1 := [(u 0, .inr (5, [.ref (u 1), .ref (u 2), .ref (u 3), .int (iI ((sv : Int))), .ref (u 4), .int (iI ln), .int (iI th), .int (iI ap), .int (iI rm), .ref (u 5), .int (iI rd), .int (iI nw), .ref (u 6), .long (lI hh)])), (u 1, aL g 75 v), (u 2, aL g 300 pa), (u 3, aL g 75 sd)]) rfl rfl rfl ?_
  refine j_if_ne (tgt := 13) C (by decide) dX5_riseBy_4 (by decide) (fun c4 => absurd c4 (by decide)) (fun c4 => ?_)
  refine j_aload_n C 0 dX5_riseBy_7 rfl rfl ?_
  refine j_iconst C dX5_riseBy_8 ?_
  refine j_callV (As := [.int (iI 1)]) (rest := []) C yv_X5_fails qw721 (c_X5_fails l g u v ((sv : Int)) ln th ap rm rd nw hh 1) (by decide) 0 rfl rfl rfl dX5_riseBy_9 rfl (Nat.le_of_ble_eq_true rfl) (by decide) (pf1 [] [(u 1, aL g 75 v), (u 2, aL g 300 pa), (u 3, aL g 75 sd)]) rfl (fun r9 w9 hq9 => ?_)
  obtain ⟨rfl, rfl⟩ := hq9
  refine J.to (L1 := [(0, .ref (u 0)), (1, .int (iI b)), (2, .int (iI f)), (3, .int (iI n))]) (S1 := [.int (iI 0)]) (ws1 := [(u 0, .inr (5, [.ref (u 1), .ref (u 2), .ref (u 3), .int (iI ((sv : Int))), .ref (u 4), .int (iI ln), .int (iI 1), .int (iI ap), .int (iI rm), .ref (u 5), .int (iI rd), .int (iI nw), .ref (u 6), .long (lI hh)])), (u 1, aL g 75 v), (u 2, aL g 300 pa), (u 3, aL g 75 sd)]) rfl rfl rfl ?_
  exact j_iret C hr hlk dX5_riseBy_12 ⟨rfl, rfl⟩ (by decide) (by decide)

theorem c_X5_riseBy_n2 (l : Launch) (g : Gh) (u : Nat → Nat) (v pa sd tx rr rq : Nat → Int) (sv : Nat) (ln th ap rm rd nw hh : Int) (b f n : Int) (hm : MOK v) (hsv : sv ≤ 4) (hrb : -2147483648 ≤ b ∧ b < 2147483648) (hrf : -2147483648 ≤ f ∧ f < 2147483648) (hrn : -2147483648 ≤ n ∧ n < 2147483648) (hb4 : 0 ≤ b ∧ b ≤ 3) (hf : f < 0 ∨ 1000000 < f) : CT l g yX5_riseBy cX5_riseBy 6 (some FieldType.int) ({ frames := 5, cells := 0, slots := 0, locals := 131 }) [.ref (u 0), .int (iI b), .int (iI f), .int (iI n)] [(u 0, .inr (5, [.ref (u 1), .ref (u 2), .ref (u 3), .int (iI ((sv : Int))), .ref (u 4), .int (iI ln), .int (iI th), .int (iI ap), .int (iI rm), .ref (u 5), .int (iI rd), .int (iI nw), .ref (u 6), .long (lI hh)])), (u 1, aL g 75 v), (u 2, aL g 300 pa), (u 3, aL g 75 sd)] (PE (some (.int (iI 0))) [(u 0, .inr (5, [.ref (u 1), .ref (u 2), .ref (u 3), .int (iI ((sv : Int))), .ref (u 4), .int (iI ln), .int (iI 2), .int (iI ap), .int (iI rm), .ref (u 5), .int (iI rd), .int (iI nw), .ref (u 6), .long (lI hh)])), (u 1, aL g 75 v), (u 2, aL g 300 pa), (u 3, aL g 75 sd)]) := by
  refine CT.intro (L0 := [(0, .ref (u 0)), (1, .int (iI b)), (2, .int (iI f)), (3, .int (iI n))]) (own := RX5) (by decide) rfl (Nat.le_of_ble_eq_true rfl) rfl ?_
  intro pX eX sX mX argsX belowX methX cX A C hr hlk
  obtain ⟨hP, hE0, hF, hrow0, hwt, hht, hlen, hent⟩ := id hm
  have hE : -10 ≤ v 3 ∧ v 3 ≤ 10 := by omega
  have hrow : ∀ i : Nat, (i : Int) < v 2 → 0 ≤ vR v i ∧ vR v i ≤ 4 := fun i hi => by have := hrow0 i hi; omega
  refine j_iload_n C 1 dX5_riseBy_0 rfl rfl ?_
  refine j_callS (As := [.int (iI b)]) (rest := []) C ys_X5_isBlock qw714 (c_X5_isBlock_t l g b (by omega)) (by decide) rfl dX5_riseBy_1 rfl (Nat.le_of_ble_eq_true rfl) (by decide) (pf1 [] [(u 0, .inr (5, [.ref (u 1), .ref (u 2), .ref (u 3), .int (iI ((sv : Int))), .ref (u 4), .int (iI ln), .int (iI th), .int (iI ap), .int (iI rm), .ref (u 5), .int (iI rd), .int (iI nw), .ref (u 6), .long (lI hh)])), (u 1, aL g 75 v), (u 2, aL g 300 pa), (u 3, aL g 75 sd)]) rfl (fun r9 w9 hq9 => ?_)
  obtain ⟨rfl, rfl⟩ := hq9
  refine J.to (L1 := [(0, .ref (u 0)), (1, .int (iI b)), (2, .int (iI f)), (3, .int (iI n))]) (S1 := [.int (iI 1)]) (ws1 := [(u 0, .inr (5, [.ref (u 1), .ref (u 2), .ref (u 3), .int (iI ((sv : Int))), .ref (u 4), .int (iI ln), .int (iI th), .int (iI ap), .int (iI rm), .ref (u 5), .int (iI rd), .int (iI nw), .ref (u 6), .long (lI hh)])), (u 1, aL g 75 v), (u 2, aL g 300 pa), (u 3, aL g 75 sd)]) rfl rfl rfl ?_
  refine j_if_ne (tgt := 13) C (by decide) dX5_riseBy_4 (by decide) (fun c4 => ?_) (fun c4 => absurd c4 (by decide))
  refine j_iload_n C 2 dX5_riseBy_13 rfl rfl ?_
  refine j_callS (As := [.int (iI f)]) (rest := []) C ys_X5_isForce qw786 (c_X5_isForce_f l g f (by omega) (by omega)) (by decide) rfl dX5_riseBy_14 rfl (Nat.le_of_ble_eq_true rfl) (by decide) (pf1 [] [(u 0, .inr (5, [.ref (u 1), .ref (u 2), .ref (u 3), .int (iI ((sv : Int))), .ref (u 4), .int (iI ln), .int (iI th), .int (iI ap), .int (iI rm), .ref (u 5), .int (iI rd), .int (iI nw), .ref (u 6), .long (lI hh)])), (u 1, aL g 75 v), (u 2, aL g 300 pa), (u 3, aL g 75 sd)]) rfl (fun r9 w9 hq9 => ?_)
  obtain ⟨rfl, rfl⟩ := hq9
  refine J.to (L1 := [(0, .ref (u 0)), (1, .int (iI b)), (2, .int (iI f)), (3, .int (iI n))]) (S1 := [.int (iI 0)]) (ws1 := [(u 0, .inr (5, [.ref (u 1), .ref (u 2), .ref (u 3), .int (iI ((sv : Int))), .ref (u 4), .int (iI ln), .int (iI th), .int (iI ap), .int (iI rm), .ref (u 5), .int (iI rd), .int (iI nw), .ref (u 6), .long (lI hh)])), (u 1, aL g 75 v), (u 2, aL g 300 pa), (u 3, aL g 75 sd)]) rfl rfl rfl ?_
  refine j_if_eq (tgt := 32) C (by decide) dX5_riseBy_17 (by decide) (fun c17 => ?_) (fun c17 => absurd c17 (by decide))
  refine j_aload_n C 0 dX5_riseBy_32 rfl rfl ?_
  refine j_iconst C dX5_riseBy_33 ?_
  refine j_callV (As := [.int (iI 2)]) (rest := []) C yv_X5_fails qw721 (c_X5_fails l g u v ((sv : Int)) ln th ap rm rd nw hh 2) (by decide) 0 rfl rfl rfl dX5_riseBy_34 rfl (Nat.le_of_ble_eq_true rfl) (by decide) (pf1 [] [(u 1, aL g 75 v), (u 2, aL g 300 pa), (u 3, aL g 75 sd)]) rfl (fun r9 w9 hq9 => ?_)
  obtain ⟨rfl, rfl⟩ := hq9
  refine J.to (L1 := [(0, .ref (u 0)), (1, .int (iI b)), (2, .int (iI f)), (3, .int (iI n))]) (S1 := [.int (iI 0)]) (ws1 := [(u 0, .inr (5, [.ref (u 1), .ref (u 2), .ref (u 3), .int (iI ((sv : Int))), .ref (u 4), .int (iI ln), .int (iI 2), .int (iI ap), .int (iI rm), .ref (u 5), .int (iI rd), .int (iI nw), .ref (u 6), .long (lI hh)])), (u 1, aL g 75 v), (u 2, aL g 300 pa), (u 3, aL g 75 sd)]) rfl rfl rfl ?_
  exact j_iret C hr hlk dX5_riseBy_37 ⟨rfl, rfl⟩ (by decide) (by decide)

theorem c_X5_riseBy_n3 (l : Launch) (g : Gh) (u : Nat → Nat) (v pa sd tx rr rq : Nat → Int) (sv : Nat) (ln th ap rm rd nw hh : Int) (b f n : Int) (hm : MOK v) (hsv : sv ≤ 4) (hrb : -2147483648 ≤ b ∧ b < 2147483648) (hrf : -2147483648 ≤ f ∧ f < 2147483648) (hrn : -2147483648 ≤ n ∧ n < 2147483648) (hb4 : 0 ≤ b ∧ b ≤ 3) (hf : 0 ≤ f ∧ f ≤ 1000000) (hn : n < 0 ∨ 100000 < n) : CT l g yX5_riseBy cX5_riseBy 6 (some FieldType.int) ({ frames := 5, cells := 0, slots := 0, locals := 131 }) [.ref (u 0), .int (iI b), .int (iI f), .int (iI n)] [(u 0, .inr (5, [.ref (u 1), .ref (u 2), .ref (u 3), .int (iI ((sv : Int))), .ref (u 4), .int (iI ln), .int (iI th), .int (iI ap), .int (iI rm), .ref (u 5), .int (iI rd), .int (iI nw), .ref (u 6), .long (lI hh)])), (u 1, aL g 75 v), (u 2, aL g 300 pa), (u 3, aL g 75 sd)] (PE (some (.int (iI 0))) [(u 0, .inr (5, [.ref (u 1), .ref (u 2), .ref (u 3), .int (iI ((sv : Int))), .ref (u 4), .int (iI ln), .int (iI 2), .int (iI ap), .int (iI rm), .ref (u 5), .int (iI rd), .int (iI nw), .ref (u 6), .long (lI hh)])), (u 1, aL g 75 v), (u 2, aL g 300 pa), (u 3, aL g 75 sd)]) := by
  refine CT.intro (L0 := [(0, .ref (u 0)), (1, .int (iI b)), (2, .int (iI f)), (3, .int (iI n))]) (own := RX5) (by decide) rfl (Nat.le_of_ble_eq_true rfl) rfl ?_
  intro pX eX sX mX argsX belowX methX cX A C hr hlk
  obtain ⟨hP, hE0, hF, hrow0, hwt, hht, hlen, hent⟩ := id hm
  have hE : -10 ≤ v 3 ∧ v 3 ≤ 10 := by omega
  have hrow : ∀ i : Nat, (i : Int) < v 2 → 0 ≤ vR v i ∧ vR v i ≤ 4 := fun i hi => by have := hrow0 i hi; omega
  refine j_iload_n C 1 dX5_riseBy_0 rfl rfl ?_
  refine j_callS (As := [.int (iI b)]) (rest := []) C ys_X5_isBlock qw714 (c_X5_isBlock_t l g b (by omega)) (by decide) rfl dX5_riseBy_1 rfl (Nat.le_of_ble_eq_true rfl) (by decide) (pf1 [] [(u 0, .inr (5, [.ref (u 1), .ref (u 2), .ref (u 3), .int (iI ((sv : Int))), .ref (u 4), .int (iI ln), .int (iI th), .int (iI ap), .int (iI rm), .ref (u 5), .int (iI rd), .int (iI nw), .ref (u 6), .long (lI hh)])), (u 1, aL g 75 v), (u 2, aL g 300 pa), (u 3, aL g 75 sd)]) rfl (fun r9 w9 hq9 => ?_)
  obtain ⟨rfl, rfl⟩ := hq9
  refine J.to (L1 := [(0, .ref (u 0)), (1, .int (iI b)), (2, .int (iI f)), (3, .int (iI n))]) (S1 := [.int (iI 1)]) (ws1 := [(u 0, .inr (5, [.ref (u 1), .ref (u 2), .ref (u 3), .int (iI ((sv : Int))), .ref (u 4), .int (iI ln), .int (iI th), .int (iI ap), .int (iI rm), .ref (u 5), .int (iI rd), .int (iI nw), .ref (u 6), .long (lI hh)])), (u 1, aL g 75 v), (u 2, aL g 300 pa), (u 3, aL g 75 sd)]) rfl rfl rfl ?_
  refine j_if_ne (tgt := 13) C (by decide) dX5_riseBy_4 (by decide) (fun c4 => ?_) (fun c4 => absurd c4 (by decide))
  refine j_iload_n C 2 dX5_riseBy_13 rfl rfl ?_
  refine j_callS (As := [.int (iI f)]) (rest := []) C ys_X5_isForce qw786 (c_X5_isForce_t l g f (by omega)) (by decide) rfl dX5_riseBy_14 rfl (Nat.le_of_ble_eq_true rfl) (by decide) (pf1 [] [(u 0, .inr (5, [.ref (u 1), .ref (u 2), .ref (u 3), .int (iI ((sv : Int))), .ref (u 4), .int (iI ln), .int (iI th), .int (iI ap), .int (iI rm), .ref (u 5), .int (iI rd), .int (iI nw), .ref (u 6), .long (lI hh)])), (u 1, aL g 75 v), (u 2, aL g 300 pa), (u 3, aL g 75 sd)]) rfl (fun r9 w9 hq9 => ?_)
  obtain ⟨rfl, rfl⟩ := hq9
  refine J.to (L1 := [(0, .ref (u 0)), (1, .int (iI b)), (2, .int (iI f)), (3, .int (iI n))]) (S1 := [.int (iI 1)]) (ws1 := [(u 0, .inr (5, [.ref (u 1), .ref (u 2), .ref (u 3), .int (iI ((sv : Int))), .ref (u 4), .int (iI ln), .int (iI th), .int (iI ap), .int (iI rm), .ref (u 5), .int (iI rd), .int (iI nw), .ref (u 6), .long (lI hh)])), (u 1, aL g 75 v), (u 2, aL g 300 pa), (u 3, aL g 75 sd)]) rfl rfl rfl ?_
  refine j_if_eq (tgt := 32) C (by decide) dX5_riseBy_17 (by decide) (fun c17 => absurd c17 (by decide)) (fun c17 => ?_)
  refine j_iload_n C 3 dX5_riseBy_20 rfl rfl ?_
  refine j_i2l C (by omega) dX5_riseBy_21 ?_
  refine j_lconst (v := 0) C dX5_riseBy_22 rfl ?_
  refine j_ldc2 (x := 100000) C qw790 (by decide) dX5_riseBy_23 ?_
  refine j_callS (As := [.long (lI n), .long (lI 0), .long (lI 100000)]) (rest := []) C ys_X5_in qw718 (c_X5_in_f l g n 0 100000 (by omega) (by omega) (by omega) (by omega)) (by decide) rfl dX5_riseBy_26 rfl (Nat.le_of_ble_eq_true rfl) (by decide) (pf1 [] [(u 0, .inr (5, [.ref (u 1), .ref (u 2), .ref (u 3), .int (iI ((sv : Int))), .ref (u 4), .int (iI ln), .int (iI th), .int (iI ap), .int (iI rm), .ref (u 5), .int (iI rd), .int (iI nw), .ref (u 6), .long (lI hh)])), (u 1, aL g 75 v), (u 2, aL g 300 pa), (u 3, aL g 75 sd)]) rfl (fun r9 w9 hq9 => ?_)
  obtain ⟨rfl, rfl⟩ := hq9
  refine J.to (L1 := [(0, .ref (u 0)), (1, .int (iI b)), (2, .int (iI f)), (3, .int (iI n))]) (S1 := [.int (iI 0)]) (ws1 := [(u 0, .inr (5, [.ref (u 1), .ref (u 2), .ref (u 3), .int (iI ((sv : Int))), .ref (u 4), .int (iI ln), .int (iI th), .int (iI ap), .int (iI rm), .ref (u 5), .int (iI rd), .int (iI nw), .ref (u 6), .long (lI hh)])), (u 1, aL g 75 v), (u 2, aL g 300 pa), (u 3, aL g 75 sd)]) rfl rfl rfl ?_
  refine j_if_ne (tgt := 38) C (by decide) dX5_riseBy_29 (by decide) (fun c29 => absurd c29 (by decide)) (fun c29 => ?_)
  refine j_aload_n C 0 dX5_riseBy_32 rfl rfl ?_
  refine j_iconst C dX5_riseBy_33 ?_
  refine j_callV (As := [.int (iI 2)]) (rest := []) C yv_X5_fails qw721 (c_X5_fails l g u v ((sv : Int)) ln th ap rm rd nw hh 2) (by decide) 0 rfl rfl rfl dX5_riseBy_34 rfl (Nat.le_of_ble_eq_true rfl) (by decide) (pf1 [] [(u 1, aL g 75 v), (u 2, aL g 300 pa), (u 3, aL g 75 sd)]) rfl (fun r9 w9 hq9 => ?_)
  obtain ⟨rfl, rfl⟩ := hq9
  refine J.to (L1 := [(0, .ref (u 0)), (1, .int (iI b)), (2, .int (iI f)), (3, .int (iI n))]) (S1 := [.int (iI 0)]) (ws1 := [(u 0, .inr (5, [.ref (u 1), .ref (u 2), .ref (u 3), .int (iI ((sv : Int))), .ref (u 4), .int (iI ln), .int (iI 2), .int (iI ap), .int (iI rm), .ref (u 5), .int (iI rd), .int (iI nw), .ref (u 6), .long (lI hh)])), (u 1, aL g 75 v), (u 2, aL g 300 pa), (u 3, aL g 75 sd)]) rfl rfl rfl ?_
  exact j_iret C hr hlk dX5_riseBy_37 ⟨rfl, rfl⟩ (by decide) (by decide)

