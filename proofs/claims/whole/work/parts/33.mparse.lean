/-! the reference: parse -/
def hanP (tx : Nat → Int) (n : Nat) (v : Nat → Int) : Int := v 0 - 10000 * (2 * (pP tx n : Int) + if tx (pP tx n + 1) - 48 = 4 then 0 else 1)
theorem pF_dg {tx : Nat → Int} {n : Nat} (hF : pFlt tx n = -1) : dg tx n 48 52 (pP tx n + 1) := by
  rw [pFlt] at hF
  split at hF
  · omega
  · split at hF
    · omega
    · next h => exact Decidable.not_not.mp h
theorem rdW_rng {tx : Nat → Int} {n : Nat} : ∀ (f p j : Nat) {w : Nat → Int} {nw : Nat} {rq : Nat → Int}, (nw, rq) = rdW tx n f p j w → j ≤ nw ∧ nw ≤ j + f ∧ (∀ b, b < j → rq b = w b) ∧ ∀ b, j ≤ b → b < nw → 0 ≤ rq b ∧ rq b ≤ 50000
  | 0, p, j, w, nw, rq, h => by
    obtain ⟨rfl, rfl⟩ := Prod.mk.inj h
    exact ⟨Nat.le_refl _, Nat.le_refl _, fun _ _ => rfl, fun b h1 h2 => absurd h2 (by omega)⟩
  | f + 1, p, j, w, nw, rq, h => by
    rw [rdW] at h
    by_cases hc : p < n ∧ wOK tx n p
    · rw [if_pos hc] at h
      obtain ⟨h1, h2, h3, h4⟩ := rdW_rng f _ _ h
      refine ⟨by omega, by omega, fun b hb => ?_, fun b hb1 hb2 => ?_⟩
      · rw [h3 b (by omega)]; unfold va_up; exact if_neg (by omega)
      · by_cases he : b = j
        · rw [he, h3 j (by omega)]
          unfold va_up
          rw [if_pos rfl]
          exact ⟨dv_wm.1, hc.2.2.2.2⟩
        · exact h4 b (by omega) hb2
    · rw [if_neg hc] at h
      obtain ⟨rfl, rfl⟩ := Prod.mk.inj h
      exact ⟨Nat.le_refl _, by omega, fun _ _ => rfl, fun b h1 h2 => absurd h2 (by omega)⟩
def pv1 (v : Nat → Int) (P E : Int) : Nat → Int := va_up (va_up v 2 P) 3 E
def pvW (v : Nat → Int) (nw : Nat) (rq : Nat → Int) : Nat → Int := fun b => if b < nw then rq b else v (9 + b)
def pvH (i : Nat) (v : Nat → Int) (nw : Nat) (rq : Nat → Int) : Nat → Int := cpB i 13 (fun _ => 0) (cpB i 9 (pvW v nw rq) v)
theorem pvH_0 (v : Nat → Int) (nw : Nat) (rq : Nat → Int) : pvH 0 v nw rq = v := by unfold pvH; rw [cpB_0, cpB_0]
theorem pvH_s (i : Nat) (hi : i < 4) (v : Nat → Int) (nw : Nat) (rq : Nat → Int) : va_up (va_up (pvH i v nw rq) (13 + i) 0) (9 + i) (pvW v nw rq i) = pvH (i + 1) v nw rq := by
  funext j
  simp only [va_up, pvH, cpB]
  by_cases h1 : j = 9 + i
  · subst h1
    rw [if_pos rfl, if_neg (by omega), if_pos ⟨by omega, by omega⟩, show 9 + i - 9 = i by omega]
  · rw [if_neg h1]
    by_cases h2 : j = 13 + i
    · rw [if_pos h2, if_pos ⟨by omega, by omega⟩]
    · rw [if_neg h2]
      by_cases h3 : 13 ≤ j ∧ j < 13 + i
      · rw [if_pos h3, if_pos ⟨h3.1, by omega⟩]
      · have h5 : ¬ (13 ≤ j ∧ j < 13 + (i + 1)) := by omega
        rw [if_neg h3, if_neg h5]
        by_cases h4 : 9 ≤ j ∧ j < 9 + i
        · rw [if_pos h4, if_pos ⟨h4.1, by omega⟩]
        · have h6 : ¬ (9 ≤ j ∧ j < 9 + (i + 1)) := by omega
          rw [if_neg h4, if_neg h6]
theorem pvH_9 {i : Nat} (hi : i < 4) {v : Nat → Int} {nw : Nat} {rq : Nat → Int} : va_up (pvH i v nw rq) (13 + i) 0 (9 + i) = v (9 + i) := by
  rw [va_ne (by omega)]
  unfold pvH cpB
  rw [if_neg (by omega), if_neg (by omega)]
/-- the reference's numbers behind a read text -/
def prV (v tx : Nat → Int) (P : Nat) (E : Int) (nw : Nat) (rq : Nat → Int) : Nat → Int := pvH 4 (cpB P 17 (fun j => tx j - 48) (pv1 v (P : Int) E)) nw rq
theorem lm_parse1 {p : Program} {l : Launch} {e : Env} {s : State} {m : MethodId} {args : Array Value} {below : List Frame} {meth : Method} {c : Code} {g : Gh} {A : Nat → Prop} {Q : State → Prop} (C : Cx p g s m args c cX5_parse 3 RX5 A) {u : Nat → Nat} {v pa sd tx rr rq : Nat → Int} {sv ln ap nw P : Nat} {th rd hh hand : Int} (hP : P ≤ 10) (hr9 : ∀ i, i < P → 48 ≤ tx i ∧ tx i ≤ 51) (kk : J p l e ({ frames := 4, cells := 0, slots := 0, locals := 90 } : Room) s m args below meth c g A 3 120 [(0, .ref (u 0)), (1, .int (iI hand))] [] [(u 0, .inr (5, [.ref (u 1), .ref (u 2), .ref (u 3), .int (iI ((sv : Int))), .ref (u 4), .int (iI ((ln : Int))), .int (iI th), .int (iI ((ap : Int))), .int (iI ((P : Int))), .ref (u 5), .int (iI rd), .int (iI ((nw : Int))), .ref (u 6), .long (lI hh)])), (u 1, aL g 75 (cpB P 17 (fun j => tx j - 48) v)), (u 2, aL g 300 pa), (u 3, aL g 75 sd), (u 4, aI g 60 tx), (u 5, aI g 10 (cpy P (fun j => tx j - 48) rr)), (u 6, aI g 4 rq)] 0 0 Q) : ∀ (n i : Nat), i + n = P → J p l e ({ frames := 4, cells := 0, slots := 0, locals := 90 } : Room) s m args below meth c g A 3 90 [(0, .ref (u 0)), (1, .int (iI hand)), (2, .int (iI ((i : Int))))] [] [(u 0, .inr (5, [.ref (u 1), .ref (u 2), .ref (u 3), .int (iI ((sv : Int))), .ref (u 4), .int (iI ((ln : Int))), .int (iI th), .int (iI ((ap : Int))), .int (iI ((P : Int))), .ref (u 5), .int (iI rd), .int (iI ((nw : Int))), .ref (u 6), .long (lI hh)])), (u 1, aL g 75 (cpB i 17 (fun j => tx j - 48) v)), (u 2, aL g 300 pa), (u 3, aL g 75 sd), (u 4, aI g 60 tx), (u 5, aI g 10 (cpy P (fun j => tx j - 48) rr)), (u 6, aI g 4 rq)] 0 0 Q := by
  intro n
  induction n with
  | zero =>
    intro i hi
    refine j_iload_n C 2 dX5_parse_90 rfl rfl ?_
    refine j_aload_n C 0 dX5_parse_91 rfl rfl ?_
    refine j_get C ck5 0 8 (by decide) qw670 rfl rfl dX5_parse_92 ?_
    refine j_icmp_ge (tgt := 120) C (by omega) (by omega) dX5_parse_95 (by decide) (fun c95 => ?_) (fun c95 => absurd c95 (by omega))
    refine J.sub (L1 := [(0, .ref (u 0)), (1, .int (iI hand))]) [0, 1] rfl ?_
    rw [show i = P by omega]
    exact kk
  | succ n ih =>
    intro i hi
    have hx9 := hr9 i (by omega)
    refine j_iload_n C 2 dX5_parse_90 rfl rfl ?_
    refine j_aload_n C 0 dX5_parse_91 rfl rfl ?_
    refine j_get C ck5 0 8 (by decide) qw670 rfl rfl dX5_parse_92 ?_
    refine j_icmp_ge (tgt := 120) C (by omega) (by omega) dX5_parse_95 (by decide) (fun c95 => absurd c95 (by omega)) (fun c95 => ?_)
    refine j_aload_n C 0 dX5_parse_98 rfl rfl ?_
    refine j_get C ck5 0 0 (by decide) qw662 rfl rfl dX5_parse_99 ?_
    refine j_bipush C dX5_parse_102 (by decide) ?_
    refine j_iload_n C 2 dX5_parse_104 rfl rfl ?_
    refine j_iadd C dX5_parse_105 ?_
    refine j_aload_n C 0 dX5_parse_106 rfl rfl ?_
    refine j_get C ck5 0 9 (by decide) qw671 rfl rfl dX5_parse_107 ?_
    refine j_iload_n C 2 dX5_parse_110 rfl rfl ?_
    refine j_iald (n := 10) (f := cpy P (fun j => tx j - 48) rr) C 5 i rfl rfl (by omega) (by decide) dX5_parse_111 ?_
    refine J.to (L1 := [(0, .ref (u 0)), (1, .int (iI hand)), (2, .int (iI ((i : Int))))]) (S1 := [.int (iI (tx i - 48)), .int (iI (17 + ((i : Int)))), .ref (u 1)]) (ws1 := [(u 0, .inr (5, [.ref (u 1), .ref (u 2), .ref (u 3), .int (iI ((sv : Int))), .ref (u 4), .int (iI ((ln : Int))), .int (iI th), .int (iI ((ap : Int))), .int (iI ((P : Int))), .ref (u 5), .int (iI rd), .int (iI ((nw : Int))), .ref (u 6), .long (lI hh)])), (u 1, aL g 75 (cpB i 17 (fun j => tx j - 48) v)), (u 2, aL g 300 pa), (u 3, aL g 75 sd), (u 4, aI g 60 tx), (u 5, aI g 10 (cpy P (fun j => tx j - 48) rr)), (u 6, aI g 4 rq)]) rfl rfl (by rw [show (((cpy P (fun j => tx j - 48) rr) i : Int)) = tx i - 48 from (by unfold cpy; exact if_pos (by omega))]) ?_
    refine j_i2l C (by omega) dX5_parse_112 ?_
    refine j_last (n := 75) (f := cpB i 17 (fun j => tx j - 48) v) (ws1 := [(u 0, .inr (5, [.ref (u 1), .ref (u 2), .ref (u 3), .int (iI ((sv : Int))), .ref (u 4), .int (iI ((ln : Int))), .int (iI th), .int (iI ((ap : Int))), .int (iI ((P : Int))), .ref (u 5), .int (iI rd), .int (iI ((nw : Int))), .ref (u 6), .long (lI hh)])), (u 1, aL g 75 (va_up (cpB i 17 (fun j => tx j - 48) v) (17 + i) (tx i - 48))), (u 2, aL g 300 pa), (u 3, aL g 75 sd), (u 4, aI g 60 tx), (u 5, aI g 10 (cpy P (fun j => tx j - 48) rr)), (u 6, aI g 4 rq)]) C 1 (17 + i) rfl (by omega) (by omega) (by decide) dX5_parse_113 rfl ?_
    refine j_iinc (L1 := [(2, .int (iI (((i : Int)) + 1))), (0, .ref (u 0)), (1, .int (iI hand))]) C 2 dX5_parse_114 rfl (by decide) rfl ?_
    refine j_goto (tgt := 90) C dX5_parse_117 (by decide) ?_
    refine J.sub (L1 := [(0, .ref (u 0)), (1, .int (iI hand)), (2, .int (iI (((i : Int)) + 1)))]) [1, 2, 0] rfl ?_
    rw [cpB_succ i 17 (fun j => tx j - 48) v]
    exact ih (i + 1) (by omega)

theorem lm_parse2 {p : Program} {l : Launch} {e : Env} {s : State} {m : MethodId} {args : Array Value} {below : List Frame} {meth : Method} {c : Code} {g : Gh} {A : Nat → Prop} {Q : State → Prop} (C : Cx p g s m args c cX5_parse 3 RX5 A) {u : Nat → Nat} {v pa sd tx rr rq : Nat → Int} {sv ln ap nw P : Nat} {th rd hh hand : Int} (hq9 : ∀ b, b < nw → 0 ≤ rq b ∧ rq b ≤ 50000) (hn4 : nw ≤ 4) (kk : J p l e ({ frames := 4, cells := 0, slots := 0, locals := 90 } : Room) s m args below meth c g A 3 179 [(0, .ref (u 0)), (1, .int (iI hand))] [] [(u 0, .inr (5, [.ref (u 1), .ref (u 2), .ref (u 3), .int (iI ((sv : Int))), .ref (u 4), .int (iI ((ln : Int))), .int (iI th), .int (iI ((ap : Int))), .int (iI ((P : Int))), .ref (u 5), .int (iI rd), .int (iI ((nw : Int))), .ref (u 6), .long (lI hh)])), (u 1, aL g 75 (pvH 4 v nw rq)), (u 2, aL g 300 pa), (u 3, aL g 75 sd), (u 4, aI g 60 tx), (u 5, aI g 10 rr), (u 6, aI g 4 rq)] 0 0 Q) : ∀ (n i : Nat), i + n = 4 → J p l e ({ frames := 4, cells := 0, slots := 0, locals := 90 } : Room) s m args below meth c g A 3 122 [(0, .ref (u 0)), (1, .int (iI hand)), (2, .int (iI ((i : Int))))] [] [(u 0, .inr (5, [.ref (u 1), .ref (u 2), .ref (u 3), .int (iI ((sv : Int))), .ref (u 4), .int (iI ((ln : Int))), .int (iI th), .int (iI ((ap : Int))), .int (iI ((P : Int))), .ref (u 5), .int (iI rd), .int (iI ((nw : Int))), .ref (u 6), .long (lI hh)])), (u 1, aL g 75 (pvH i v nw rq)), (u 2, aL g 300 pa), (u 3, aL g 75 sd), (u 4, aI g 60 tx), (u 5, aI g 10 rr), (u 6, aI g 4 rq)] 0 0 Q := by
  intro n
  induction n with
  | zero =>
    intro i hi
    refine j_iload_n C 2 dX5_parse_122 rfl rfl ?_
    refine j_iconst C dX5_parse_123 ?_
    refine j_icmp_ge (tgt := 179) C (by omega) (by decide) dX5_parse_124 (by decide) (fun c124 => ?_) (fun c124 => absurd c124 (by omega))
    refine J.sub (L1 := [(0, .ref (u 0)), (1, .int (iI hand))]) [0, 1] rfl ?_
    rw [show i = 4 by omega]
    exact kk
  | succ n ih =>
    intro i hi
    refine j_iload_n C 2 dX5_parse_122 rfl rfl ?_
    refine j_iconst C dX5_parse_123 ?_
    refine j_icmp_ge (tgt := 179) C (by omega) (by decide) dX5_parse_124 (by decide) (fun c124 => absurd c124 (by omega)) (fun c124 => ?_)
    refine j_aload_n C 0 dX5_parse_127 rfl rfl ?_
    refine j_get C ck5 0 0 (by decide) qw662 rfl rfl dX5_parse_128 ?_
    refine j_bipush C dX5_parse_131 (by decide) ?_
    refine j_iload_n C 2 dX5_parse_133 rfl rfl ?_
    refine j_iadd C dX5_parse_134 ?_
    refine j_lconst (v := 0) C dX5_parse_135 rfl ?_
    refine j_last (n := 75) (f := pvH i v nw rq) (ws1 := [(u 0, .inr (5, [.ref (u 1), .ref (u 2), .ref (u 3), .int (iI ((sv : Int))), .ref (u 4), .int (iI ((ln : Int))), .int (iI th), .int (iI ((ap : Int))), .int (iI ((P : Int))), .ref (u 5), .int (iI rd), .int (iI ((nw : Int))), .ref (u 6), .long (lI hh)])), (u 1, aL g 75 (va_up (pvH i v nw rq) (13 + i) 0)), (u 2, aL g 300 pa), (u 3, aL g 75 sd), (u 4, aI g 60 tx), (u 5, aI g 10 rr), (u 6, aI g 4 rq)]) C 1 (13 + i) rfl (by omega) (by omega) (by decide) dX5_parse_136 rfl ?_
    refine j_aload_n C 0 dX5_parse_137 rfl rfl ?_
    refine j_get C ck5 0 0 (by decide) qw662 rfl rfl dX5_parse_138 ?_
    refine j_bipush C dX5_parse_141 (by decide) ?_
    refine j_iload_n C 2 dX5_parse_143 rfl rfl ?_
    refine j_iadd C dX5_parse_144 ?_
    refine j_iload_n C 2 dX5_parse_145 rfl rfl ?_
    refine j_aload_n C 0 dX5_parse_146 rfl rfl ?_
    refine j_get C ck5 0 11 (by decide) qw673 rfl rfl dX5_parse_147 ?_
    refine j_icmp_ge (tgt := 163) C (by omega) (by omega) dX5_parse_150 (by decide) (fun c150 => ?_) (fun c150 => ?_)
    · refine j_aload_n C 0 dX5_parse_163 rfl rfl ?_
      refine j_get C ck5 0 0 (by decide) qw662 rfl rfl dX5_parse_164 ?_
      refine j_bipush C dX5_parse_167 (by decide) ?_
      refine j_iload_n C 2 dX5_parse_169 rfl rfl ?_
      refine j_iadd C dX5_parse_170 ?_
      refine j_lald (n := 75) (f := va_up (pvH i v nw rq) (13 + i) 0) C 1 (9 + i) rfl (by omega) (by omega) (by decide) dX5_parse_171 ?_
      refine J.to (L1 := [(0, .ref (u 0)), (1, .int (iI hand)), (2, .int (iI ((i : Int))))]) (S1 := [.long (lI (v (9 + i))), .int (iI (9 + ((i : Int)))), .ref (u 1)]) (ws1 := [(u 0, .inr (5, [.ref (u 1), .ref (u 2), .ref (u 3), .int (iI ((sv : Int))), .ref (u 4), .int (iI ((ln : Int))), .int (iI th), .int (iI ((ap : Int))), .int (iI ((P : Int))), .ref (u 5), .int (iI rd), .int (iI ((nw : Int))), .ref (u 6), .long (lI hh)])), (u 1, aL g 75 (va_up (pvH i v nw rq) (13 + i) 0)), (u 2, aL g 300 pa), (u 3, aL g 75 sd), (u 4, aI g 60 tx), (u 5, aI g 10 rr), (u 6, aI g 4 rq)]) rfl rfl (by rw [show (((va_up (pvH i v nw rq) (13 + i) 0) (9 + i) : Int)) = v (9 + i) from (pvH_9 (by omega))]) ?_
      refine J.to (L1 := [(0, .ref (u 0)), (1, .int (iI hand)), (2, .int (iI ((i : Int))))]) (S1 := [.long (lI (pvW v nw rq i)), .int (iI (9 + ((i : Int)))), .ref (u 1)]) (ws1 := [(u 0, .inr (5, [.ref (u 1), .ref (u 2), .ref (u 3), .int (iI ((sv : Int))), .ref (u 4), .int (iI ((ln : Int))), .int (iI th), .int (iI ((ap : Int))), .int (iI ((P : Int))), .ref (u 5), .int (iI rd), .int (iI ((nw : Int))), .ref (u 6), .long (lI hh)])), (u 1, aL g 75 (va_up (pvH i v nw rq) (13 + i) 0)), (u 2, aL g 300 pa), (u 3, aL g 75 sd), (u 4, aI g 60 tx), (u 5, aI g 10 rr), (u 6, aI g 4 rq)]) rfl rfl (by rw [show ((v (9 + i) : Int)) = pvW v nw rq i from (by unfold pvW; exact (if_neg (by omega)).symm)]) ?_
      refine j_last (n := 75) (f := va_up (pvH i v nw rq) (13 + i) 0) (ws1 := [(u 0, .inr (5, [.ref (u 1), .ref (u 2), .ref (u 3), .int (iI ((sv : Int))), .ref (u 4), .int (iI ((ln : Int))), .int (iI th), .int (iI ((ap : Int))), .int (iI ((P : Int))), .ref (u 5), .int (iI rd), .int (iI ((nw : Int))), .ref (u 6), .long (lI hh)])), (u 1, aL g 75 (va_up (va_up (pvH i v nw rq) (13 + i) 0) (9 + i) (pvW v nw rq i))), (u 2, aL g 300 pa), (u 3, aL g 75 sd), (u 4, aI g 60 tx), (u 5, aI g 10 rr), (u 6, aI g 4 rq)]) C 1 (9 + i) rfl (by omega) (by omega) (by decide) dX5_parse_172 rfl ?_
      refine j_iinc (L1 := [(2, .int (iI (((i : Int)) + 1))), (0, .ref (u 0)), (1, .int (iI hand))]) C 2 dX5_parse_173 rfl (by decide) rfl ?_
      refine j_goto (tgt := 122) C dX5_parse_176 (by decide) ?_
      refine J.sub (L1 := [(0, .ref (u 0)), (1, .int (iI hand)), (2, .int (iI (((i : Int)) + 1)))]) [1, 2, 0] rfl ?_
      rw [pvH_s i (by omega)]
      exact ih (i + 1) (by omega)
    · refine j_aload_n C 0 dX5_parse_153 rfl rfl ?_
      refine j_get C ck5 0 12 (by decide) qw674 rfl rfl dX5_parse_154 ?_
      refine j_iload_n C 2 dX5_parse_157 rfl rfl ?_
      refine j_iald (n := 4) (f := rq) C 6 i rfl rfl (by omega) (by decide) dX5_parse_158 ?_
      have hx9 := hq9 i (by omega)
      refine j_i2l C (by omega) dX5_parse_159 ?_
      refine j_goto (tgt := 172) C dX5_parse_160 (by decide) ?_
      refine J.to (L1 := [(0, .ref (u 0)), (1, .int (iI hand)), (2, .int (iI ((i : Int))))]) (S1 := [.long (lI (pvW v nw rq i)), .int (iI (9 + ((i : Int)))), .ref (u 1)]) (ws1 := [(u 0, .inr (5, [.ref (u 1), .ref (u 2), .ref (u 3), .int (iI ((sv : Int))), .ref (u 4), .int (iI ((ln : Int))), .int (iI th), .int (iI ((ap : Int))), .int (iI ((P : Int))), .ref (u 5), .int (iI rd), .int (iI ((nw : Int))), .ref (u 6), .long (lI hh)])), (u 1, aL g 75 (va_up (pvH i v nw rq) (13 + i) 0)), (u 2, aL g 300 pa), (u 3, aL g 75 sd), (u 4, aI g 60 tx), (u 5, aI g 10 rr), (u 6, aI g 4 rq)]) rfl rfl (by rw [show ((rq i : Int)) = pvW v nw rq i from (by unfold pvW; exact (if_pos (by omega)).symm)]) ?_
      refine j_last (n := 75) (f := va_up (pvH i v nw rq) (13 + i) 0) (ws1 := [(u 0, .inr (5, [.ref (u 1), .ref (u 2), .ref (u 3), .int (iI ((sv : Int))), .ref (u 4), .int (iI ((ln : Int))), .int (iI th), .int (iI ((ap : Int))), .int (iI ((P : Int))), .ref (u 5), .int (iI rd), .int (iI ((nw : Int))), .ref (u 6), .long (lI hh)])), (u 1, aL g 75 (va_up (va_up (pvH i v nw rq) (13 + i) 0) (9 + i) (pvW v nw rq i))), (u 2, aL g 300 pa), (u 3, aL g 75 sd), (u 4, aI g 60 tx), (u 5, aI g 10 rr), (u 6, aI g 4 rq)]) C 1 (9 + i) rfl (by omega) (by omega) (by decide) dX5_parse_172 rfl ?_
      refine j_iinc (L1 := [(2, .int (iI (((i : Int)) + 1))), (0, .ref (u 0)), (1, .int (iI hand))]) C 2 dX5_parse_173 rfl (by decide) rfl ?_
      refine j_goto (tgt := 122) C dX5_parse_176 (by decide) ?_
      refine J.sub (L1 := [(0, .ref (u 0)), (1, .int (iI hand)), (2, .int (iI (((i : Int)) + 1)))]) [1, 2, 0] rfl ?_
      rw [pvH_s i (by omega)]
      exact ih (i + 1) (by omega)

theorem c_X5_parse_1 (l : Launch) (g : Gh) (u : Nat → Nat) (v pa sd tx rr rq : Nat → Int) (sv ln ap nw : Nat) (th rm rd hh : Int) (hm : MOK v) (hsv : sv ≤ 4) (hn : ln ≤ 60) (htx : ∀ i, i < ln → 0 ≤ tx i ∧ tx i ≤ 127) (hF9 : pFlt tx ln ≠ -1) : CT l g yX5_parse cX5_parse 3 (some FieldType.int) ({ frames := 4, cells := 0, slots := 0, locals := 90 }) [.ref (u 0)] [(u 0, .inr (5, [.ref (u 1), .ref (u 2), .ref (u 3), .int (iI ((sv : Int))), .ref (u 4), .int (iI ((ln : Int))), .int (iI th), .int (iI ((ap : Int))), .int (iI rm), .ref (u 5), .int (iI rd), .int (iI ((nw : Int))), .ref (u 6), .long (lI hh)])), (u 1, aL g 75 v), (u 2, aL g 300 pa), (u 3, aL g 75 sd), (u 4, aI g 60 tx), (u 5, aI g 10 rr), (u 6, aI g 4 rq)] (fun r9 w9 => r9 = (some (.int (iI (-10 - pFlt tx ln)))) ∧ ∃ (ap9 nw9 : Nat) (rm9 rd9 : Int) (rr9 rq9 : Nat → Int), w9 = [(u 0, .inr (5, [.ref (u 1), .ref (u 2), .ref (u 3), .int (iI ((sv : Int))), .ref (u 4), .int (iI ((ln : Int))), .int (iI 0), .int (iI ((ap9 : Int))), .int (iI rm9), .ref (u 5), .int (iI rd9), .int (iI ((nw9 : Int))), .ref (u 6), .long (lI hh)])), (u 1, aL g 75 v), (u 2, aL g 300 pa), (u 3, aL g 75 sd), (u 4, aI g 60 tx), (u 5, aI g 10 rr9), (u 6, aI g 4 rq9)]) := by
  refine CT.intro (L0 := [(0, .ref (u 0))]) (own := RX5) (by decide) rfl (Nat.le_of_ble_eq_true rfl) rfl ?_
  intro pX eX sX mX argsX belowX methX cX A C hr hlk
  obtain ⟨hP, hE0, hF, hrow0, hwt, hht, hlen, hent⟩ := id hm
  have hE : -10 ≤ v 3 ∧ v 3 ≤ 10 := by omega
  have hrow : ∀ i : Nat, (i : Int) < v 2 → 0 ≤ vR v i ∧ vR v i ≤ 4 := fun i hi => by have := hrow0 i hi; omega
  have hPl := pP_le tx ln
  refine j_aload_n C 0 dX5_parse_0 rfl rfl ?_
  refine j_callV (As := []) (rest := []) C yv_X5_reads qw930 (c_X5_reads l g u v pa sd tx rr rq ln ap nw ((sv : Int)) th rm rd hh hn htx) (by decide) 0 rfl rfl rfl dX5_parse_1 rfl (Nat.le_of_ble_eq_true rfl) (by decide) pf0 rfl (fun r9 w9 hq9 => ?_)
  obtain ⟨rfl, ap9, nw9, rm9, rd9, rr9, rq9, rfl, hf1, hf2⟩ := hq9
  refine J.to (L1 := [(0, .ref (u 0))]) (S1 := [.int (iI (if pFlt tx ln = -1 then 1 else 0))]) (ws1 := [(u 0, .inr (5, [.ref (u 1), .ref (u 2), .ref (u 3), .int (iI ((sv : Int))), .ref (u 4), .int (iI ((ln : Int))), .int (iI th), .int (iI ((ap9 : Int))), .int (iI rm9), .ref (u 5), .int (iI rd9), .int (iI ((nw9 : Int))), .ref (u 6), .long (lI hh)])), (u 1, aL g 75 v), (u 2, aL g 300 pa), (u 3, aL g 75 sd), (u 4, aI g 60 tx), (u 5, aI g 10 rr9), (u 6, aI g 4 rq9)]) rfl rfl rfl ?_
  refine J.to (L1 := [(0, .ref (u 0))]) (S1 := [.int (iI 0)]) (ws1 := [(u 0, .inr (5, [.ref (u 1), .ref (u 2), .ref (u 3), .int (iI ((sv : Int))), .ref (u 4), .int (iI ((ln : Int))), .int (iI th), .int (iI ((ap9 : Int))), .int (iI rm9), .ref (u 5), .int (iI rd9), .int (iI ((nw9 : Int))), .ref (u 6), .long (lI hh)])), (u 1, aL g 75 v), (u 2, aL g 300 pa), (u 3, aL g 75 sd), (u 4, aI g 60 tx), (u 5, aI g 10 rr9), (u 6, aI g 4 rq9)]) rfl rfl (by rw [show ((if pFlt tx ln = -1 then 1 else 0 : Int)) = 0 from (if_neg hF9)]) ?_
  refine j_if_ne (tgt := 19) C (by decide) dX5_parse_4 (by decide) (fun c4 => absurd c4 (by decide)) (fun c4 => ?_)
  refine j_aload_n C 0 dX5_parse_7 rfl rfl ?_
  refine j_bipush C dX5_parse_8 (by decide) ?_
  refine j_aload_n C 0 dX5_parse_10 rfl rfl ?_
  refine j_get C ck5 0 7 (by decide) qw669 rfl rfl dX5_parse_11 ?_
  refine j_isub C dX5_parse_14 ?_
  refine j_callV (As := [.int (iI ((-10) - ((ap9 : Int))))]) (rest := []) C yv_X5_tells qw734 (c_X5_tells l g u v ((sv : Int)) ((ln : Int)) th ((ap9 : Int)) rm9 rd9 ((nw9 : Int)) hh ((-10) - ((ap9 : Int)))) (by decide) 0 rfl rfl rfl dX5_parse_15 rfl (Nat.le_of_ble_eq_true rfl) (by decide) (pf1 [] [(u 1, aL g 75 v), (u 2, aL g 300 pa), (u 3, aL g 75 sd), (u 4, aI g 60 tx), (u 5, aI g 10 rr9), (u 6, aI g 4 rq9)]) rfl (fun r9 w9 hq9 => ?_)
  obtain ⟨rfl, rfl⟩ := hq9
  refine J.to (L1 := [(0, .ref (u 0))]) (S1 := [.int (iI ((-10) - ((ap9 : Int))))]) (ws1 := [(u 0, .inr (5, [.ref (u 1), .ref (u 2), .ref (u 3), .int (iI ((sv : Int))), .ref (u 4), .int (iI ((ln : Int))), .int (iI 0), .int (iI ((ap9 : Int))), .int (iI rm9), .ref (u 5), .int (iI rd9), .int (iI ((nw9 : Int))), .ref (u 6), .long (lI hh)])), (u 1, aL g 75 v), (u 2, aL g 300 pa), (u 3, aL g 75 sd), (u 4, aI g 60 tx), (u 5, aI g 10 rr9), (u 6, aI g 4 rq9)]) rfl rfl rfl ?_
  exact j_iret C hr hlk dX5_parse_18 ⟨by rw [← hf1 hF9], ap9, nw9, rm9, rd9, rr9, rq9, rfl⟩ (by decide) (by decide)

theorem c_X5_parse_2 (l : Launch) (g : Gh) (u : Nat → Nat) (v pa sd tx rr rq : Nat → Int) (sv ln ap nw : Nat) (th rm rd hh : Int) (hm : MOK v) (hsv : sv ≤ 4) (hn : ln ≤ 60) (htx : ∀ i, i < ln → 0 ≤ tx i ∧ tx i ≤ 127) (hF9 : pFlt tx ln = -1) (hcn : hanP tx ln v < 0) : CT l g yX5_parse cX5_parse 3 (some FieldType.int) ({ frames := 4, cells := 0, slots := 0, locals := 90 }) [.ref (u 0)] [(u 0, .inr (5, [.ref (u 1), .ref (u 2), .ref (u 3), .int (iI ((sv : Int))), .ref (u 4), .int (iI ((ln : Int))), .int (iI th), .int (iI ((ap : Int))), .int (iI rm), .ref (u 5), .int (iI rd), .int (iI ((nw : Int))), .ref (u 6), .long (lI hh)])), (u 1, aL g 75 v), (u 2, aL g 300 pa), (u 3, aL g 75 sd), (u 4, aI g 60 tx), (u 5, aI g 10 rr), (u 6, aI g 4 rq)] (fun r9 w9 => r9 = (some (.int (iI (-1)))) ∧ ∃ (ap9 nw9 : Nat) (rm9 rd9 : Int) (rr9 rq9 : Nat → Int), w9 = [(u 0, .inr (5, [.ref (u 1), .ref (u 2), .ref (u 3), .int (iI ((sv : Int))), .ref (u 4), .int (iI ((ln : Int))), .int (iI 0), .int (iI ((ap9 : Int))), .int (iI rm9), .ref (u 5), .int (iI rd9), .int (iI ((nw9 : Int))), .ref (u 6), .long (lI hh)])), (u 1, aL g 75 v), (u 2, aL g 300 pa), (u 3, aL g 75 sd), (u 4, aI g 60 tx), (u 5, aI g 10 rr9), (u 6, aI g 4 rq9)]) := by
  refine CT.intro (L0 := [(0, .ref (u 0))]) (own := RX5) (by decide) rfl (Nat.le_of_ble_eq_true rfl) rfl ?_
  intro pX eX sX mX argsX belowX methX cX A C hr hlk
  obtain ⟨hP, hE0, hF, hrow0, hwt, hht, hlen, hent⟩ := id hm
  have hE : -10 ≤ v 3 ∧ v 3 ≤ 10 := by omega
  have hrow : ∀ i : Nat, (i : Int) < v 2 → 0 ≤ vR v i ∧ vR v i ≤ 4 := fun i hi => by have := hrow0 i hi; omega
  have hPl := pP_le tx ln
  have hd9 := pF_dg hF9
  have hh9 : -2000000 ≤ hanP tx ln v ∧ hanP tx ln v ≤ 300000 := by unfold hanP; split <;> omega
  refine j_aload_n C 0 dX5_parse_0 rfl rfl ?_
  refine j_callV (As := []) (rest := []) C yv_X5_reads qw930 (c_X5_reads l g u v pa sd tx rr rq ln ap nw ((sv : Int)) th rm rd hh hn htx) (by decide) 0 rfl rfl rfl dX5_parse_1 rfl (Nat.le_of_ble_eq_true rfl) (by decide) pf0 rfl (fun r9 w9 hq9 => ?_)
  obtain ⟨rfl, ap9, nw9, rm9, rd9, rr9, rq9, rfl, hf1, hf2⟩ := hq9
  obtain ⟨rfl, rfl, rfl, hnw⟩ := hf2 hF9
  refine J.to (L1 := [(0, .ref (u 0))]) (S1 := [.int (iI (if pFlt tx ln = -1 then 1 else 0))]) (ws1 := [(u 0, .inr (5, [.ref (u 1), .ref (u 2), .ref (u 3), .int (iI ((sv : Int))), .ref (u 4), .int (iI ((ln : Int))), .int (iI th), .int (iI ((ap9 : Int))), .int (iI ((pP tx ln : Int))), .ref (u 5), .int (iI (tx (pP tx ln + 1) - 48)), .int (iI ((nw9 : Int))), .ref (u 6), .long (lI hh)])), (u 1, aL g 75 v), (u 2, aL g 300 pa), (u 3, aL g 75 sd), (u 4, aI g 60 tx), (u 5, aI g 10 (cpy (pP tx ln) (fun j => tx j - 48) rr)), (u 6, aI g 4 rq9)]) rfl rfl rfl ?_
  refine J.to (L1 := [(0, .ref (u 0))]) (S1 := [.int (iI 1)]) (ws1 := [(u 0, .inr (5, [.ref (u 1), .ref (u 2), .ref (u 3), .int (iI ((sv : Int))), .ref (u 4), .int (iI ((ln : Int))), .int (iI th), .int (iI ((ap9 : Int))), .int (iI ((pP tx ln : Int))), .ref (u 5), .int (iI (tx (pP tx ln + 1) - 48)), .int (iI ((nw9 : Int))), .ref (u 6), .long (lI hh)])), (u 1, aL g 75 v), (u 2, aL g 300 pa), (u 3, aL g 75 sd), (u 4, aI g 60 tx), (u 5, aI g 10 (cpy (pP tx ln) (fun j => tx j - 48) rr)), (u 6, aI g 4 rq9)]) rfl rfl (by rw [show ((if pFlt tx ln = -1 then 1 else 0 : Int)) = 1 from (if_pos hF9)]) ?_
  refine j_if_ne (tgt := 19) C (by decide) dX5_parse_4 (by decide) (fun c4 => ?_) (fun c4 => absurd c4 (by decide))
  refine j_aload_n C 0 dX5_parse_19 rfl rfl ?_
  refine j_get C ck5 0 0 (by decide) qw662 rfl rfl dX5_parse_20 ?_
  refine j_iconst C dX5_parse_23 ?_
  refine j_lald (n := 75) (f := v) C 1 0 rfl rfl (by decide) (by decide) dX5_parse_24 ?_
  refine j_l2i C dX5_parse_25 ?_
  refine j_sipush C dX5_parse_26 (by decide) ?_
  refine j_iconst C dX5_parse_29 ?_
  refine j_aload_n C 0 dX5_parse_30 rfl rfl ?_
  refine j_get C ck5 0 8 (by decide) qw670 rfl rfl dX5_parse_31 ?_
  refine j_imul C dX5_parse_34 ?_
  refine j_aload_n C 0 dX5_parse_35 rfl rfl ?_
  refine j_get C ck5 0 10 (by decide) qw672 rfl rfl dX5_parse_36 ?_
  refine j_iconst C dX5_parse_39 ?_
  refine j_icmp_ne (tgt := 47) C (by omega) (by decide) dX5_parse_40 (by decide) (fun c40 => ?_) (fun c40 => ?_)
  · refine j_iconst C dX5_parse_47 ?_
    refine j_iadd C dX5_parse_48 ?_
    refine j_imul C dX5_parse_49 ?_
    refine j_isub C dX5_parse_50 ?_
    refine J.to (L1 := [(0, .ref (u 0))]) (S1 := [.int (iI (hanP tx ln v))]) (ws1 := [(u 0, .inr (5, [.ref (u 1), .ref (u 2), .ref (u 3), .int (iI ((sv : Int))), .ref (u 4), .int (iI ((ln : Int))), .int (iI th), .int (iI ((ap9 : Int))), .int (iI ((pP tx ln : Int))), .ref (u 5), .int (iI (tx (pP tx ln + 1) - 48)), .int (iI ((nw9 : Int))), .ref (u 6), .long (lI hh)])), (u 1, aL g 75 v), (u 2, aL g 300 pa), (u 3, aL g 75 sd), (u 4, aI g 60 tx), (u 5, aI g 10 (cpy (pP tx ln) (fun j => tx j - 48) rr)), (u 6, aI g 4 rq9)]) rfl rfl (by rw [show (((v 0) - (10000 * ((2 * ((pP tx ln : Int))) + 1)) : Int)) = hanP tx ln v from (by rw [hanP, if_neg c40])]) ?_
    refine j_istore_n (L1 := [(1, .int (iI (hanP tx ln v))), (0, .ref (u 0))]) C dX5_parse_51 rfl (by decide) rfl ?_
    refine j_iload_n C 0 dX5_parse_52 rfl rfl ?_
    refine j_if_ge (tgt := 62) C (by omega) dX5_parse_53 (by decide) (fun c53 => absurd c53 (by omega)) (fun c53 => ?_)
    refine j_aload_n C 1 dX5_parse_56 rfl rfl ?_
    refine j_iconst C dX5_parse_57 ?_
    refine j_callV (As := [.int (iI (-1))]) (rest := []) C yv_X5_tells qw734 (c_X5_tells l g u v ((sv : Int)) ((ln : Int)) th ((ap9 : Int)) ((pP tx ln : Int)) (tx (pP tx ln + 1) - 48) ((nw9 : Int)) hh (-1)) (by decide) 0 rfl rfl rfl dX5_parse_58 rfl (Nat.le_of_ble_eq_true rfl) (by decide) (pf1 [] [(u 1, aL g 75 v), (u 2, aL g 300 pa), (u 3, aL g 75 sd), (u 4, aI g 60 tx), (u 5, aI g 10 (cpy (pP tx ln) (fun j => tx j - 48) rr)), (u 6, aI g 4 rq9)]) rfl (fun r9 w9 hq9 => ?_)
    obtain ⟨rfl, rfl⟩ := hq9
    refine J.to (L1 := [(1, .int (iI (hanP tx ln v))), (0, .ref (u 0))]) (S1 := [.int (iI (-1))]) (ws1 := [(u 0, .inr (5, [.ref (u 1), .ref (u 2), .ref (u 3), .int (iI ((sv : Int))), .ref (u 4), .int (iI ((ln : Int))), .int (iI 0), .int (iI ((ap9 : Int))), .int (iI ((pP tx ln : Int))), .ref (u 5), .int (iI (tx (pP tx ln + 1) - 48)), .int (iI ((nw9 : Int))), .ref (u 6), .long (lI hh)])), (u 1, aL g 75 v), (u 2, aL g 300 pa), (u 3, aL g 75 sd), (u 4, aI g 60 tx), (u 5, aI g 10 (cpy (pP tx ln) (fun j => tx j - 48) rr)), (u 6, aI g 4 rq9)]) rfl rfl rfl ?_
    exact j_iret C hr hlk dX5_parse_61 ⟨rfl, ap9, nw9, _, _, _, rq9, rfl⟩ (by decide) (by decide)
  · refine j_iconst C dX5_parse_43 ?_
    refine j_goto (tgt := 48) C dX5_parse_44 (by decide) ?_
    refine j_iadd C dX5_parse_48 ?_
    refine j_imul C dX5_parse_49 ?_
    refine j_isub C dX5_parse_50 ?_
    refine J.to (L1 := [(0, .ref (u 0))]) (S1 := [.int (iI (hanP tx ln v))]) (ws1 := [(u 0, .inr (5, [.ref (u 1), .ref (u 2), .ref (u 3), .int (iI ((sv : Int))), .ref (u 4), .int (iI ((ln : Int))), .int (iI th), .int (iI ((ap9 : Int))), .int (iI ((pP tx ln : Int))), .ref (u 5), .int (iI (tx (pP tx ln + 1) - 48)), .int (iI ((nw9 : Int))), .ref (u 6), .long (lI hh)])), (u 1, aL g 75 v), (u 2, aL g 300 pa), (u 3, aL g 75 sd), (u 4, aI g 60 tx), (u 5, aI g 10 (cpy (pP tx ln) (fun j => tx j - 48) rr)), (u 6, aI g 4 rq9)]) rfl rfl (by rw [show (((v 0) - (10000 * ((2 * ((pP tx ln : Int))) + 0)) : Int)) = hanP tx ln v from (by rw [hanP, if_pos c40])]) ?_
    refine j_istore_n (L1 := [(1, .int (iI (hanP tx ln v))), (0, .ref (u 0))]) C dX5_parse_51 rfl (by decide) rfl ?_
    refine j_iload_n C 0 dX5_parse_52 rfl rfl ?_
    refine j_if_ge (tgt := 62) C (by omega) dX5_parse_53 (by decide) (fun c53 => absurd c53 (by omega)) (fun c53 => ?_)
    refine j_aload_n C 1 dX5_parse_56 rfl rfl ?_
    refine j_iconst C dX5_parse_57 ?_
    refine j_callV (As := [.int (iI (-1))]) (rest := []) C yv_X5_tells qw734 (c_X5_tells l g u v ((sv : Int)) ((ln : Int)) th ((ap9 : Int)) ((pP tx ln : Int)) (tx (pP tx ln + 1) - 48) ((nw9 : Int)) hh (-1)) (by decide) 0 rfl rfl rfl dX5_parse_58 rfl (Nat.le_of_ble_eq_true rfl) (by decide) (pf1 [] [(u 1, aL g 75 v), (u 2, aL g 300 pa), (u 3, aL g 75 sd), (u 4, aI g 60 tx), (u 5, aI g 10 (cpy (pP tx ln) (fun j => tx j - 48) rr)), (u 6, aI g 4 rq9)]) rfl (fun r9 w9 hq9 => ?_)
    obtain ⟨rfl, rfl⟩ := hq9
    refine J.to (L1 := [(1, .int (iI (hanP tx ln v))), (0, .ref (u 0))]) (S1 := [.int (iI (-1))]) (ws1 := [(u 0, .inr (5, [.ref (u 1), .ref (u 2), .ref (u 3), .int (iI ((sv : Int))), .ref (u 4), .int (iI ((ln : Int))), .int (iI 0), .int (iI ((ap9 : Int))), .int (iI ((pP tx ln : Int))), .ref (u 5), .int (iI (tx (pP tx ln + 1) - 48)), .int (iI ((nw9 : Int))), .ref (u 6), .long (lI hh)])), (u 1, aL g 75 v), (u 2, aL g 300 pa), (u 3, aL g 75 sd), (u 4, aI g 60 tx), (u 5, aI g 10 (cpy (pP tx ln) (fun j => tx j - 48) rr)), (u 6, aI g 4 rq9)]) rfl rfl rfl ?_
    exact j_iret C hr hlk dX5_parse_61 ⟨rfl, ap9, nw9, _, _, _, rq9, rfl⟩ (by decide) (by decide)

theorem c_X5_parse_3 (l : Launch) (g : Gh) (u : Nat → Nat) (v pa sd tx rr rq : Nat → Int) (sv ln ap nw : Nat) (th rm rd hh : Int) (hm : MOK v) (hsv : sv ≤ 4) (hn : ln ≤ 60) (htx : ∀ i, i < ln → 0 ≤ tx i ∧ tx i ≤ 127) (hF9 : pFlt tx ln = -1) (hcn : 0 ≤ hanP tx ln v) : CT l g yX5_parse cX5_parse 3 (some FieldType.int) ({ frames := 4, cells := 0, slots := 0, locals := 90 }) [.ref (u 0)] [(u 0, .inr (5, [.ref (u 1), .ref (u 2), .ref (u 3), .int (iI ((sv : Int))), .ref (u 4), .int (iI ((ln : Int))), .int (iI th), .int (iI ((ap : Int))), .int (iI rm), .ref (u 5), .int (iI rd), .int (iI ((nw : Int))), .ref (u 6), .long (lI hh)])), (u 1, aL g 75 v), (u 2, aL g 300 pa), (u 3, aL g 75 sd), (u 4, aI g 60 tx), (u 5, aI g 10 rr), (u 6, aI g 4 rq)] (fun r9 w9 => r9 = (some (.int (iI (hanP tx ln v)))) ∧ ∃ (ap9 nw9 : Nat) (rq9 : Nat → Int), (nw9, rq9) = rdW tx ln 4 (pP tx ln + 2) 0 rq ∧ w9 = [(u 0, .inr (5, [.ref (u 1), .ref (u 2), .ref (u 3), .int (iI (((svN sv : Nat) : Int))), .ref (u 4), .int (iI ((ln : Int))), .int (iI 0), .int (iI ((ap9 : Int))), .int (iI ((pP tx ln : Int))), .ref (u 5), .int (iI (tx (pP tx ln + 1) - 48)), .int (iI ((nw9 : Int))), .ref (u 6), .long (lI hh)])), (u 1, aL g 75 (prV v tx (pP tx ln) (tx (pP tx ln + 1) - 48) nw9 rq9)), (u 2, aL g 300 (svP v pa sv)), (u 3, aL g 75 sd), (u 4, aI g 60 tx), (u 5, aI g 10 (cpy (pP tx ln) (fun j => tx j - 48) rr)), (u 6, aI g 4 rq9)]) := by
  refine CT.intro (L0 := [(0, .ref (u 0))]) (own := RX5) (by decide) rfl (Nat.le_of_ble_eq_true rfl) rfl ?_
  intro pX eX sX mX argsX belowX methX cX A C hr hlk
  obtain ⟨hP, hE0, hF, hrow0, hwt, hht, hlen, hent⟩ := id hm
  have hE : -10 ≤ v 3 ∧ v 3 ≤ 10 := by omega
  have hrow : ∀ i : Nat, (i : Int) < v 2 → 0 ≤ vR v i ∧ vR v i ≤ 4 := fun i hi => by have := hrow0 i hi; omega
  have hPl := pP_le tx ln
  have hd9 := pF_dg hF9
  have hh9 : -2000000 ≤ hanP tx ln v ∧ hanP tx ln v ≤ 300000 := by unfold hanP; split <;> omega
  refine j_aload_n C 0 dX5_parse_0 rfl rfl ?_
  refine j_callV (As := []) (rest := []) C yv_X5_reads qw930 (c_X5_reads l g u v pa sd tx rr rq ln ap nw ((sv : Int)) th rm rd hh hn htx) (by decide) 0 rfl rfl rfl dX5_parse_1 rfl (Nat.le_of_ble_eq_true rfl) (by decide) pf0 rfl (fun r9 w9 hq9 => ?_)
  obtain ⟨rfl, ap9, nw9, rm9, rd9, rr9, rq9, rfl, hf1, hf2⟩ := hq9
  obtain ⟨rfl, rfl, rfl, hnw⟩ := hf2 hF9
  refine J.to (L1 := [(0, .ref (u 0))]) (S1 := [.int (iI (if pFlt tx ln = -1 then 1 else 0))]) (ws1 := [(u 0, .inr (5, [.ref (u 1), .ref (u 2), .ref (u 3), .int (iI ((sv : Int))), .ref (u 4), .int (iI ((ln : Int))), .int (iI th), .int (iI ((ap9 : Int))), .int (iI ((pP tx ln : Int))), .ref (u 5), .int (iI (tx (pP tx ln + 1) - 48)), .int (iI ((nw9 : Int))), .ref (u 6), .long (lI hh)])), (u 1, aL g 75 v), (u 2, aL g 300 pa), (u 3, aL g 75 sd), (u 4, aI g 60 tx), (u 5, aI g 10 (cpy (pP tx ln) (fun j => tx j - 48) rr)), (u 6, aI g 4 rq9)]) rfl rfl rfl ?_
  refine J.to (L1 := [(0, .ref (u 0))]) (S1 := [.int (iI 1)]) (ws1 := [(u 0, .inr (5, [.ref (u 1), .ref (u 2), .ref (u 3), .int (iI ((sv : Int))), .ref (u 4), .int (iI ((ln : Int))), .int (iI th), .int (iI ((ap9 : Int))), .int (iI ((pP tx ln : Int))), .ref (u 5), .int (iI (tx (pP tx ln + 1) - 48)), .int (iI ((nw9 : Int))), .ref (u 6), .long (lI hh)])), (u 1, aL g 75 v), (u 2, aL g 300 pa), (u 3, aL g 75 sd), (u 4, aI g 60 tx), (u 5, aI g 10 (cpy (pP tx ln) (fun j => tx j - 48) rr)), (u 6, aI g 4 rq9)]) rfl rfl (by rw [show ((if pFlt tx ln = -1 then 1 else 0 : Int)) = 1 from (if_pos hF9)]) ?_
  refine j_if_ne (tgt := 19) C (by decide) dX5_parse_4 (by decide) (fun c4 => ?_) (fun c4 => absurd c4 (by decide))
  refine j_aload_n C 0 dX5_parse_19 rfl rfl ?_
  refine j_get C ck5 0 0 (by decide) qw662 rfl rfl dX5_parse_20 ?_
  refine j_iconst C dX5_parse_23 ?_
  refine j_lald (n := 75) (f := v) C 1 0 rfl rfl (by decide) (by decide) dX5_parse_24 ?_
  refine j_l2i C dX5_parse_25 ?_
  refine j_sipush C dX5_parse_26 (by decide) ?_
  refine j_iconst C dX5_parse_29 ?_
  refine j_aload_n C 0 dX5_parse_30 rfl rfl ?_
  refine j_get C ck5 0 8 (by decide) qw670 rfl rfl dX5_parse_31 ?_
  refine j_imul C dX5_parse_34 ?_
  refine j_aload_n C 0 dX5_parse_35 rfl rfl ?_
  refine j_get C ck5 0 10 (by decide) qw672 rfl rfl dX5_parse_36 ?_
  refine j_iconst C dX5_parse_39 ?_
  refine j_icmp_ne (tgt := 47) C (by omega) (by decide) dX5_parse_40 (by decide) (fun c40 => ?_) (fun c40 => ?_)
  · refine j_iconst C dX5_parse_47 ?_
    refine j_iadd C dX5_parse_48 ?_
    refine j_imul C dX5_parse_49 ?_
    refine j_isub C dX5_parse_50 ?_
    refine J.to (L1 := [(0, .ref (u 0))]) (S1 := [.int (iI (hanP tx ln v))]) (ws1 := [(u 0, .inr (5, [.ref (u 1), .ref (u 2), .ref (u 3), .int (iI ((sv : Int))), .ref (u 4), .int (iI ((ln : Int))), .int (iI th), .int (iI ((ap9 : Int))), .int (iI ((pP tx ln : Int))), .ref (u 5), .int (iI (tx (pP tx ln + 1) - 48)), .int (iI ((nw9 : Int))), .ref (u 6), .long (lI hh)])), (u 1, aL g 75 v), (u 2, aL g 300 pa), (u 3, aL g 75 sd), (u 4, aI g 60 tx), (u 5, aI g 10 (cpy (pP tx ln) (fun j => tx j - 48) rr)), (u 6, aI g 4 rq9)]) rfl rfl (by rw [show (((v 0) - (10000 * ((2 * ((pP tx ln : Int))) + 1)) : Int)) = hanP tx ln v from (by rw [hanP, if_neg c40])]) ?_
    refine j_istore_n (L1 := [(1, .int (iI (hanP tx ln v))), (0, .ref (u 0))]) C dX5_parse_51 rfl (by decide) rfl ?_
    refine j_iload_n C 0 dX5_parse_52 rfl rfl ?_
    refine j_if_ge (tgt := 62) C (by omega) dX5_parse_53 (by decide) (fun c53 => ?_) (fun c53 => absurd c53 (by omega))
    refine j_aload_n C 1 dX5_parse_62 rfl rfl ?_
    refine j_callV (As := []) (rest := []) C yv_X5_saves qw730 (c_X5_saves l g u v pa sd tx (cpy (pP tx ln) (fun j => tx j - 48) rr) rq9 sv ((ln : Int)) th ((ap9 : Int)) ((pP tx ln : Int)) (tx (pP tx ln + 1) - 48) ((nw9 : Int)) hh hsv) (by decide) 0 rfl rfl rfl dX5_parse_63 rfl (Nat.le_of_ble_eq_true rfl) (by decide) (pf1 [] [(u 3, aL g 75 sd), (u 4, aI g 60 tx), (u 5, aI g 10 (cpy (pP tx ln) (fun j => tx j - 48) rr)), (u 6, aI g 4 rq9)]) rfl (fun r9 w9 hq9 => ?_)
    obtain ⟨rfl, rfl⟩ := hq9
    refine J.to (L1 := [(1, .int (iI (hanP tx ln v))), (0, .ref (u 0))]) (S1 := []) (ws1 := [(u 0, .inr (5, [.ref (u 1), .ref (u 2), .ref (u 3), .int (iI (((svN sv : Nat) : Int))), .ref (u 4), .int (iI ((ln : Int))), .int (iI th), .int (iI ((ap9 : Int))), .int (iI ((pP tx ln : Int))), .ref (u 5), .int (iI (tx (pP tx ln + 1) - 48)), .int (iI ((nw9 : Int))), .ref (u 6), .long (lI hh)])), (u 1, aL g 75 v), (u 2, aL g 300 (svP v pa sv)), (u 3, aL g 75 sd), (u 4, aI g 60 tx), (u 5, aI g 10 (cpy (pP tx ln) (fun j => tx j - 48) rr)), (u 6, aI g 4 rq9)]) rfl rfl rfl ?_
    refine j_aload_n C 1 dX5_parse_66 rfl rfl ?_
    refine j_get C ck5 0 0 (by decide) qw662 rfl rfl dX5_parse_67 ?_
    refine j_iconst C dX5_parse_70 ?_
    refine j_aload_n C 1 dX5_parse_71 rfl rfl ?_
    refine j_get C ck5 0 8 (by decide) qw670 rfl rfl dX5_parse_72 ?_
    refine j_i2l C (by omega) dX5_parse_75 ?_
    refine j_last (n := 75) (f := v) (ws1 := [(u 0, .inr (5, [.ref (u 1), .ref (u 2), .ref (u 3), .int (iI (((svN sv : Nat) : Int))), .ref (u 4), .int (iI ((ln : Int))), .int (iI th), .int (iI ((ap9 : Int))), .int (iI ((pP tx ln : Int))), .ref (u 5), .int (iI (tx (pP tx ln + 1) - 48)), .int (iI ((nw9 : Int))), .ref (u 6), .long (lI hh)])), (u 1, aL g 75 (va_up v 2 ((pP tx ln : Int)))), (u 2, aL g 300 (svP v pa sv)), (u 3, aL g 75 sd), (u 4, aI g 60 tx), (u 5, aI g 10 (cpy (pP tx ln) (fun j => tx j - 48) rr)), (u 6, aI g 4 rq9)]) C 1 2 rfl rfl (by decide) (by decide) dX5_parse_76 rfl ?_
    refine j_aload_n C 1 dX5_parse_77 rfl rfl ?_
    refine j_get C ck5 0 0 (by decide) qw662 rfl rfl dX5_parse_78 ?_
    refine j_iconst C dX5_parse_81 ?_
    refine j_aload_n C 1 dX5_parse_82 rfl rfl ?_
    refine j_get C ck5 0 10 (by decide) qw672 rfl rfl dX5_parse_83 ?_
    refine j_i2l C (by omega) dX5_parse_86 ?_
    refine j_last (n := 75) (f := va_up v 2 ((pP tx ln : Int))) (ws1 := [(u 0, .inr (5, [.ref (u 1), .ref (u 2), .ref (u 3), .int (iI (((svN sv : Nat) : Int))), .ref (u 4), .int (iI ((ln : Int))), .int (iI th), .int (iI ((ap9 : Int))), .int (iI ((pP tx ln : Int))), .ref (u 5), .int (iI (tx (pP tx ln + 1) - 48)), .int (iI ((nw9 : Int))), .ref (u 6), .long (lI hh)])), (u 1, aL g 75 (va_up (va_up v 2 ((pP tx ln : Int))) 3 (tx (pP tx ln + 1) - 48))), (u 2, aL g 300 (svP v pa sv)), (u 3, aL g 75 sd), (u 4, aI g 60 tx), (u 5, aI g 10 (cpy (pP tx ln) (fun j => tx j - 48) rr)), (u 6, aI g 4 rq9)]) C 1 3 rfl rfl (by decide) (by decide) dX5_parse_87 rfl ?_
    refine j_iconst C dX5_parse_88 ?_
    refine j_istore_n (L1 := [(2, .int (iI 0)), (1, .int (iI (hanP tx ln v))), (0, .ref (u 0))]) C dX5_parse_89 rfl (by decide) rfl ?_
    refine J.sub (L1 := [(0, .ref (u 0)), (1, .int (iI (hanP tx ln v))), (2, .int (iI 0))]) [2, 1, 0] rfl ?_
    refine J.world (ws1 := [(u 0, .inr (5, [.ref (u 1), .ref (u 2), .ref (u 3), .int (iI (((svN sv : Nat) : Int))), .ref (u 4), .int (iI ((ln : Int))), .int (iI th), .int (iI ((ap9 : Int))), .int (iI ((pP tx ln : Int))), .ref (u 5), .int (iI (tx (pP tx ln + 1) - 48)), .int (iI ((nw9 : Int))), .ref (u 6), .long (lI hh)])), (u 1, aL g 75 (cpB 0 17 (fun j => tx j - 48) (pv1 v (pP tx ln : Int) (tx (pP tx ln + 1) - 48)))), (u 2, aL g 300 (svP v pa sv)), (u 3, aL g 75 sd), (u 4, aI g 60 tx), (u 5, aI g 10 (cpy (pP tx ln) (fun j => tx j - 48) rr)), (u 6, aI g 4 rq9)]) (by rw [cpB_0]; rfl) ?_
    refine lm_parse1 (P := pP tx ln) C hPl.1 (fun i hi => by have := rn_dg (tx := tx) (n := ln) (lo := 48) (hi := 51) (f := 10) (p := 0) (i := i) hi; rw [Nat.zero_add] at this; exact this.2) ?_ (pP tx ln) 0 (by omega)
    refine j_iconst C dX5_parse_120 ?_
    refine j_istore_n (L1 := [(2, .int (iI 0)), (0, .ref (u 0)), (1, .int (iI (hanP tx ln v)))]) C dX5_parse_121 rfl (by decide) rfl ?_
    refine J.sub (L1 := [(0, .ref (u 0)), (1, .int (iI (hanP tx ln v))), (2, .int (iI 0))]) [1, 2, 0] rfl ?_
    refine J.world (ws1 := [(u 0, .inr (5, [.ref (u 1), .ref (u 2), .ref (u 3), .int (iI (((svN sv : Nat) : Int))), .ref (u 4), .int (iI ((ln : Int))), .int (iI th), .int (iI ((ap9 : Int))), .int (iI ((pP tx ln : Int))), .ref (u 5), .int (iI (tx (pP tx ln + 1) - 48)), .int (iI ((nw9 : Int))), .ref (u 6), .long (lI hh)])), (u 1, aL g 75 (pvH 0 (cpB (pP tx ln) 17 (fun j => tx j - 48) (pv1 v (pP tx ln : Int) (tx (pP tx ln + 1) - 48))) nw9 rq9)), (u 2, aL g 300 (svP v pa sv)), (u 3, aL g 75 sd), (u 4, aI g 60 tx), (u 5, aI g 10 (cpy (pP tx ln) (fun j => tx j - 48) rr)), (u 6, aI g 4 rq9)]) (by rw [pvH_0]) ?_
    refine lm_parse2 C (fun b hb => (rdW_rng 4 _ _ hnw).2.2.2 b (Nat.zero_le _) hb) (by have := (rdW_rng 4 _ _ hnw).2.1; omega) ?_ 4 0 (by omega)
    refine j_aload_n C 0 dX5_parse_179 rfl rfl ?_
    refine j_iload_n C 1 dX5_parse_180 rfl rfl ?_
    refine j_callV (As := [.int (iI (hanP tx ln v))]) (rest := []) C yv_X5_tells qw734 (c_X5_tells l g u (prV v tx (pP tx ln) (tx (pP tx ln + 1) - 48) nw9 rq9) (((svN sv : Nat) : Int)) ((ln : Int)) th ((ap9 : Int)) ((pP tx ln : Int)) (tx (pP tx ln + 1) - 48) ((nw9 : Int)) hh (hanP tx ln v)) (by decide) 0 rfl rfl rfl dX5_parse_181 rfl (Nat.le_of_ble_eq_true rfl) (by decide) (pf1 [] [(u 1, aL g 75 (prV v tx (pP tx ln) (tx (pP tx ln + 1) - 48) nw9 rq9)), (u 2, aL g 300 (svP v pa sv)), (u 3, aL g 75 sd), (u 4, aI g 60 tx), (u 5, aI g 10 (cpy (pP tx ln) (fun j => tx j - 48) rr)), (u 6, aI g 4 rq9)]) rfl (fun r9 w9 hq9 => ?_)
    obtain ⟨rfl, rfl⟩ := hq9
    refine J.to (L1 := [(0, .ref (u 0)), (1, .int (iI (hanP tx ln v)))]) (S1 := [.int (iI (hanP tx ln v))]) (ws1 := [(u 0, .inr (5, [.ref (u 1), .ref (u 2), .ref (u 3), .int (iI (((svN sv : Nat) : Int))), .ref (u 4), .int (iI ((ln : Int))), .int (iI 0), .int (iI ((ap9 : Int))), .int (iI ((pP tx ln : Int))), .ref (u 5), .int (iI (tx (pP tx ln + 1) - 48)), .int (iI ((nw9 : Int))), .ref (u 6), .long (lI hh)])), (u 1, aL g 75 (prV v tx (pP tx ln) (tx (pP tx ln + 1) - 48) nw9 rq9)), (u 2, aL g 300 (svP v pa sv)), (u 3, aL g 75 sd), (u 4, aI g 60 tx), (u 5, aI g 10 (cpy (pP tx ln) (fun j => tx j - 48) rr)), (u 6, aI g 4 rq9)]) rfl rfl rfl ?_
    exact j_iret C hr hlk dX5_parse_184 ⟨rfl, ap9, nw9, rq9, hnw, rfl⟩ (by decide) (by decide)
  · refine j_iconst C dX5_parse_43 ?_
    refine j_goto (tgt := 48) C dX5_parse_44 (by decide) ?_
    refine j_iadd C dX5_parse_48 ?_
    refine j_imul C dX5_parse_49 ?_
    refine j_isub C dX5_parse_50 ?_
    refine J.to (L1 := [(0, .ref (u 0))]) (S1 := [.int (iI (hanP tx ln v))]) (ws1 := [(u 0, .inr (5, [.ref (u 1), .ref (u 2), .ref (u 3), .int (iI ((sv : Int))), .ref (u 4), .int (iI ((ln : Int))), .int (iI th), .int (iI ((ap9 : Int))), .int (iI ((pP tx ln : Int))), .ref (u 5), .int (iI (tx (pP tx ln + 1) - 48)), .int (iI ((nw9 : Int))), .ref (u 6), .long (lI hh)])), (u 1, aL g 75 v), (u 2, aL g 300 pa), (u 3, aL g 75 sd), (u 4, aI g 60 tx), (u 5, aI g 10 (cpy (pP tx ln) (fun j => tx j - 48) rr)), (u 6, aI g 4 rq9)]) rfl rfl (by rw [show (((v 0) - (10000 * ((2 * ((pP tx ln : Int))) + 0)) : Int)) = hanP tx ln v from (by rw [hanP, if_pos c40])]) ?_
    refine j_istore_n (L1 := [(1, .int (iI (hanP tx ln v))), (0, .ref (u 0))]) C dX5_parse_51 rfl (by decide) rfl ?_
    refine j_iload_n C 0 dX5_parse_52 rfl rfl ?_
    refine j_if_ge (tgt := 62) C (by omega) dX5_parse_53 (by decide) (fun c53 => ?_) (fun c53 => absurd c53 (by omega))
    refine j_aload_n C 1 dX5_parse_62 rfl rfl ?_
    refine j_callV (As := []) (rest := []) C yv_X5_saves qw730 (c_X5_saves l g u v pa sd tx (cpy (pP tx ln) (fun j => tx j - 48) rr) rq9 sv ((ln : Int)) th ((ap9 : Int)) ((pP tx ln : Int)) (tx (pP tx ln + 1) - 48) ((nw9 : Int)) hh hsv) (by decide) 0 rfl rfl rfl dX5_parse_63 rfl (Nat.le_of_ble_eq_true rfl) (by decide) (pf1 [] [(u 3, aL g 75 sd), (u 4, aI g 60 tx), (u 5, aI g 10 (cpy (pP tx ln) (fun j => tx j - 48) rr)), (u 6, aI g 4 rq9)]) rfl (fun r9 w9 hq9 => ?_)
    obtain ⟨rfl, rfl⟩ := hq9
    refine J.to (L1 := [(1, .int (iI (hanP tx ln v))), (0, .ref (u 0))]) (S1 := []) (ws1 := [(u 0, .inr (5, [.ref (u 1), .ref (u 2), .ref (u 3), .int (iI (((svN sv : Nat) : Int))), .ref (u 4), .int (iI ((ln : Int))), .int (iI th), .int (iI ((ap9 : Int))), .int (iI ((pP tx ln : Int))), .ref (u 5), .int (iI (tx (pP tx ln + 1) - 48)), .int (iI ((nw9 : Int))), .ref (u 6), .long (lI hh)])), (u 1, aL g 75 v), (u 2, aL g 300 (svP v pa sv)), (u 3, aL g 75 sd), (u 4, aI g 60 tx), (u 5, aI g 10 (cpy (pP tx ln) (fun j => tx j - 48) rr)), (u 6, aI g 4 rq9)]) rfl rfl rfl ?_
    refine j_aload_n C 1 dX5_parse_66 rfl rfl ?_
    refine j_get C ck5 0 0 (by decide) qw662 rfl rfl dX5_parse_67 ?_
    refine j_iconst C dX5_parse_70 ?_
    refine j_aload_n C 1 dX5_parse_71 rfl rfl ?_
    refine j_get C ck5 0 8 (by decide) qw670 rfl rfl dX5_parse_72 ?_
    refine j_i2l C (by omega) dX5_parse_75 ?_
    refine j_last (n := 75) (f := v) (ws1 := [(u 0, .inr (5, [.ref (u 1), .ref (u 2), .ref (u 3), .int (iI (((svN sv : Nat) : Int))), .ref (u 4), .int (iI ((ln : Int))), .int (iI th), .int (iI ((ap9 : Int))), .int (iI ((pP tx ln : Int))), .ref (u 5), .int (iI (tx (pP tx ln + 1) - 48)), .int (iI ((nw9 : Int))), .ref (u 6), .long (lI hh)])), (u 1, aL g 75 (va_up v 2 ((pP tx ln : Int)))), (u 2, aL g 300 (svP v pa sv)), (u 3, aL g 75 sd), (u 4, aI g 60 tx), (u 5, aI g 10 (cpy (pP tx ln) (fun j => tx j - 48) rr)), (u 6, aI g 4 rq9)]) C 1 2 rfl rfl (by decide) (by decide) dX5_parse_76 rfl ?_
    refine j_aload_n C 1 dX5_parse_77 rfl rfl ?_
    refine j_get C ck5 0 0 (by decide) qw662 rfl rfl dX5_parse_78 ?_
    refine j_iconst C dX5_parse_81 ?_
    refine j_aload_n C 1 dX5_parse_82 rfl rfl ?_
    refine j_get C ck5 0 10 (by decide) qw672 rfl rfl dX5_parse_83 ?_
    refine j_i2l C (by omega) dX5_parse_86 ?_
    refine j_last (n := 75) (f := va_up v 2 ((pP tx ln : Int))) (ws1 := [(u 0, .inr (5, [.ref (u 1), .ref (u 2), .ref (u 3), .int (iI (((svN sv : Nat) : Int))), .ref (u 4), .int (iI ((ln : Int))), .int (iI th), .int (iI ((ap9 : Int))), .int (iI ((pP tx ln : Int))), .ref (u 5), .int (iI (tx (pP tx ln + 1) - 48)), .int (iI ((nw9 : Int))), .ref (u 6), .long (lI hh)])), (u 1, aL g 75 (va_up (va_up v 2 ((pP tx ln : Int))) 3 (tx (pP tx ln + 1) - 48))), (u 2, aL g 300 (svP v pa sv)), (u 3, aL g 75 sd), (u 4, aI g 60 tx), (u 5, aI g 10 (cpy (pP tx ln) (fun j => tx j - 48) rr)), (u 6, aI g 4 rq9)]) C 1 3 rfl rfl (by decide) (by decide) dX5_parse_87 rfl ?_
    refine j_iconst C dX5_parse_88 ?_
    refine j_istore_n (L1 := [(2, .int (iI 0)), (1, .int (iI (hanP tx ln v))), (0, .ref (u 0))]) C dX5_parse_89 rfl (by decide) rfl ?_
    refine J.sub (L1 := [(0, .ref (u 0)), (1, .int (iI (hanP tx ln v))), (2, .int (iI 0))]) [2, 1, 0] rfl ?_
    refine J.world (ws1 := [(u 0, .inr (5, [.ref (u 1), .ref (u 2), .ref (u 3), .int (iI (((svN sv : Nat) : Int))), .ref (u 4), .int (iI ((ln : Int))), .int (iI th), .int (iI ((ap9 : Int))), .int (iI ((pP tx ln : Int))), .ref (u 5), .int (iI (tx (pP tx ln + 1) - 48)), .int (iI ((nw9 : Int))), .ref (u 6), .long (lI hh)])), (u 1, aL g 75 (cpB 0 17 (fun j => tx j - 48) (pv1 v (pP tx ln : Int) (tx (pP tx ln + 1) - 48)))), (u 2, aL g 300 (svP v pa sv)), (u 3, aL g 75 sd), (u 4, aI g 60 tx), (u 5, aI g 10 (cpy (pP tx ln) (fun j => tx j - 48) rr)), (u 6, aI g 4 rq9)]) (by rw [cpB_0]; rfl) ?_
    refine lm_parse1 (P := pP tx ln) C hPl.1 (fun i hi => by have := rn_dg (tx := tx) (n := ln) (lo := 48) (hi := 51) (f := 10) (p := 0) (i := i) hi; rw [Nat.zero_add] at this; exact this.2) ?_ (pP tx ln) 0 (by omega)
    refine j_iconst C dX5_parse_120 ?_
    refine j_istore_n (L1 := [(2, .int (iI 0)), (0, .ref (u 0)), (1, .int (iI (hanP tx ln v)))]) C dX5_parse_121 rfl (by decide) rfl ?_
    refine J.sub (L1 := [(0, .ref (u 0)), (1, .int (iI (hanP tx ln v))), (2, .int (iI 0))]) [1, 2, 0] rfl ?_
    refine J.world (ws1 := [(u 0, .inr (5, [.ref (u 1), .ref (u 2), .ref (u 3), .int (iI (((svN sv : Nat) : Int))), .ref (u 4), .int (iI ((ln : Int))), .int (iI th), .int (iI ((ap9 : Int))), .int (iI ((pP tx ln : Int))), .ref (u 5), .int (iI (tx (pP tx ln + 1) - 48)), .int (iI ((nw9 : Int))), .ref (u 6), .long (lI hh)])), (u 1, aL g 75 (pvH 0 (cpB (pP tx ln) 17 (fun j => tx j - 48) (pv1 v (pP tx ln : Int) (tx (pP tx ln + 1) - 48))) nw9 rq9)), (u 2, aL g 300 (svP v pa sv)), (u 3, aL g 75 sd), (u 4, aI g 60 tx), (u 5, aI g 10 (cpy (pP tx ln) (fun j => tx j - 48) rr)), (u 6, aI g 4 rq9)]) (by rw [pvH_0]) ?_
    refine lm_parse2 C (fun b hb => (rdW_rng 4 _ _ hnw).2.2.2 b (Nat.zero_le _) hb) (by have := (rdW_rng 4 _ _ hnw).2.1; omega) ?_ 4 0 (by omega)
    refine j_aload_n C 0 dX5_parse_179 rfl rfl ?_
    refine j_iload_n C 1 dX5_parse_180 rfl rfl ?_
    refine j_callV (As := [.int (iI (hanP tx ln v))]) (rest := []) C yv_X5_tells qw734 (c_X5_tells l g u (prV v tx (pP tx ln) (tx (pP tx ln + 1) - 48) nw9 rq9) (((svN sv : Nat) : Int)) ((ln : Int)) th ((ap9 : Int)) ((pP tx ln : Int)) (tx (pP tx ln + 1) - 48) ((nw9 : Int)) hh (hanP tx ln v)) (by decide) 0 rfl rfl rfl dX5_parse_181 rfl (Nat.le_of_ble_eq_true rfl) (by decide) (pf1 [] [(u 1, aL g 75 (prV v tx (pP tx ln) (tx (pP tx ln + 1) - 48) nw9 rq9)), (u 2, aL g 300 (svP v pa sv)), (u 3, aL g 75 sd), (u 4, aI g 60 tx), (u 5, aI g 10 (cpy (pP tx ln) (fun j => tx j - 48) rr)), (u 6, aI g 4 rq9)]) rfl (fun r9 w9 hq9 => ?_)
    obtain ⟨rfl, rfl⟩ := hq9
    refine J.to (L1 := [(0, .ref (u 0)), (1, .int (iI (hanP tx ln v)))]) (S1 := [.int (iI (hanP tx ln v))]) (ws1 := [(u 0, .inr (5, [.ref (u 1), .ref (u 2), .ref (u 3), .int (iI (((svN sv : Nat) : Int))), .ref (u 4), .int (iI ((ln : Int))), .int (iI 0), .int (iI ((ap9 : Int))), .int (iI ((pP tx ln : Int))), .ref (u 5), .int (iI (tx (pP tx ln + 1) - 48)), .int (iI ((nw9 : Int))), .ref (u 6), .long (lI hh)])), (u 1, aL g 75 (prV v tx (pP tx ln) (tx (pP tx ln + 1) - 48) nw9 rq9)), (u 2, aL g 300 (svP v pa sv)), (u 3, aL g 75 sd), (u 4, aI g 60 tx), (u 5, aI g 10 (cpy (pP tx ln) (fun j => tx j - 48) rr)), (u 6, aI g 4 rq9)]) rfl rfl rfl ?_
    exact j_iret C hr hlk dX5_parse_184 ⟨rfl, ap9, nw9, rq9, hnw, rfl⟩ (by decide) (by decide)

