/-! the reference: reads, parse -/
def rdW (tx : Nat → Int) (n : Nat) : Nat → Nat → Nat → (Nat → Int) → Nat × (Nat → Int)
  | 0, _, j, w => (j, w)
  | f + 1, p, j, w => if p < n ∧ wOK tx n p then rdW tx n f (p + 1 + wm tx n p) (j + 1) (va_up w j (dv tx (p + 1) (wm tx n p))) else (j, w)
theorem lm_reads1 {p : Program} {l : Launch} {e : Env} {s : State} {m : MethodId} {args : Array Value} {below : List Frame} {meth : Method} {c : Code} {g : Gh} {A : Nat → Prop} {Q : State → Prop} (C : Cx p g s m args c cX5_reads 2 RX5 A) {u : Nat → Nat} {v pa sd tx rr rq : Nat → Int} {ln : Nat} {sv th rd hh : Int} (hn : ln ≤ 60) (htx : ∀ i, i < ln → 0 ≤ tx i ∧ tx i ≤ 127) (kk : J p l e ({ frames := 3, cells := 0, slots := 0, locals := 69 } : Room) s m args below meth c g A 2 79 [(0, .ref (u 0))] [] [(u 0, .inr (5, [.ref (u 1), .ref (u 2), .ref (u 3), .int (iI sv), .ref (u 4), .int (iI ((ln : Int))), .int (iI th), .int (iI (((pP tx ln) : Int))), .int (iI (((pP tx ln) : Int))), .ref (u 5), .int (iI rd), .int (iI (((0 : Nat) : Int))), .ref (u 6), .long (lI hh)])), (u 1, aL g 75 v), (u 2, aL g 300 pa), (u 3, aL g 75 sd), (u 4, aI g 60 tx), (u 5, aI g 10 (cpy ((pP tx ln)) (fun j => tx j - 48) rr)), (u 6, aI g 4 rq)] 0 0 Q) : ∀ (f i : Nat), i + f = 10 → i ≤ ln → pP tx ln = i + rn tx ln 48 51 f i → J p l e ({ frames := 3, cells := 0, slots := 0, locals := 69 } : Room) s m args below meth c g A 2 15 [(0, .ref (u 0))] [] [(u 0, .inr (5, [.ref (u 1), .ref (u 2), .ref (u 3), .int (iI sv), .ref (u 4), .int (iI ((ln : Int))), .int (iI th), .int (iI ((i : Int))), .int (iI ((i : Int))), .ref (u 5), .int (iI rd), .int (iI (((0 : Nat) : Int))), .ref (u 6), .long (lI hh)])), (u 1, aL g 75 v), (u 2, aL g 300 pa), (u 3, aL g 75 sd), (u 4, aI g 60 tx), (u 5, aI g 10 (cpy i (fun j => tx j - 48) rr)), (u 6, aI g 4 rq)] 0 0 Q := by
  intro f
  induction f with
  | zero =>
    intro i hi hsi hm9
    refine j_aload_n C 0 dX5_reads_15 rfl rfl ?_
    refine j_get C ck5 0 8 (by decide) qw670 rfl rfl dX5_reads_16 ?_
    refine j_bipush C dX5_reads_19 (by decide) ?_
    refine j_icmp_ge (tgt := 79) C (by omega) (by decide) dX5_reads_21 (by decide) (fun c21 => ?_) (fun c21 => absurd c21 (by omega))
    refine J.sub (L1 := [(0, .ref (u 0))]) [0] rfl ?_
    have e9 : pP tx ln = i := by rw [hm9]; rfl
    rw [e9] at kk
    exact kk
  | succ f ih =>
    intro i hi hsi hm9
    refine j_aload_n C 0 dX5_reads_15 rfl rfl ?_
    refine j_get C ck5 0 8 (by decide) qw670 rfl rfl dX5_reads_16 ?_
    refine j_bipush C dX5_reads_19 (by decide) ?_
    refine j_icmp_ge (tgt := 79) C (by omega) (by decide) dX5_reads_21 (by decide) (fun c21 => absurd c21 (by omega)) (fun c21 => ?_)
    refine j_aload_n C 0 dX5_reads_24 rfl rfl ?_
    refine j_bipush C dX5_reads_25 (by decide) ?_
    refine j_bipush C dX5_reads_27 (by decide) ?_
    by_cases hd : dg tx ln 48 51 i
    · refine j_callV (As := [.int (iI 48), .int (iI 51)]) (rest := []) C yv_X5_isAt qw934 (c_X5_isAt_t l g u v pa sd tx (cpy i (fun j => tx j - 48) rr) rq ln i 0 sv th ((i : Int)) rd hh 48 51 hn htx (by decide) (by decide) hd) (by decide) 0 rfl rfl rfl dX5_reads_29 rfl (Nat.le_of_ble_eq_true rfl) (by decide) pf0 rfl (fun r9 w9 hq9 => ?_)
      obtain ⟨rfl, rfl⟩ := hq9
      refine J.to (L1 := [(0, .ref (u 0))]) (S1 := [.int (iI 1)]) (ws1 := [(u 0, .inr (5, [.ref (u 1), .ref (u 2), .ref (u 3), .int (iI sv), .ref (u 4), .int (iI ((ln : Int))), .int (iI th), .int (iI ((i : Int))), .int (iI ((i : Int))), .ref (u 5), .int (iI rd), .int (iI (((0 : Nat) : Int))), .ref (u 6), .long (lI hh)])), (u 1, aL g 75 v), (u 2, aL g 300 pa), (u 3, aL g 75 sd), (u 4, aI g 60 tx), (u 5, aI g 10 (cpy i (fun j => tx j - 48) rr)), (u 6, aI g 4 rq)]) rfl rfl rfl ?_
      refine j_if_eq (tgt := 79) C (by decide) dX5_reads_32 (by decide) (fun c32 => absurd c32 (by decide)) (fun c32 => ?_)
      have hd1 := hd.1
      refine j_aload_n C 0 dX5_reads_35 rfl rfl ?_
      refine j_get C ck5 0 9 (by decide) qw671 rfl rfl dX5_reads_36 ?_
      refine j_aload_n C 0 dX5_reads_39 rfl rfl ?_
      refine j_get C ck5 0 8 (by decide) qw670 rfl rfl dX5_reads_40 ?_
      refine j_aload_n C 0 dX5_reads_43 rfl rfl ?_
      refine j_get C ck5 0 4 (by decide) qw666 rfl rfl dX5_reads_44 ?_
      refine j_aload_n C 0 dX5_reads_47 rfl rfl ?_
      refine j_get C ck5 0 7 (by decide) qw669 rfl rfl dX5_reads_48 ?_
      refine j_iald (n := 60) (f := tx) C 4 i rfl rfl (by omega) (by decide) dX5_reads_51 ?_
      refine j_bipush C dX5_reads_52 (by decide) ?_
      refine j_isub C dX5_reads_54 ?_
      refine j_iast (n := 10) (f := cpy i (fun j => tx j - 48) rr) (ws1 := [(u 0, .inr (5, [.ref (u 1), .ref (u 2), .ref (u 3), .int (iI sv), .ref (u 4), .int (iI ((ln : Int))), .int (iI th), .int (iI ((i : Int))), .int (iI ((i : Int))), .ref (u 5), .int (iI rd), .int (iI (((0 : Nat) : Int))), .ref (u 6), .long (lI hh)])), (u 1, aL g 75 v), (u 2, aL g 300 pa), (u 3, aL g 75 sd), (u 4, aI g 60 tx), (u 5, aI g 10 (va_up (cpy i (fun j => tx j - 48) rr) i ((tx i) - 48))), (u 6, aI g 4 rq)]) C 5 i rfl rfl (by omega) (by decide) dX5_reads_55 rfl ?_
      refine j_aload_n C 0 dX5_reads_56 rfl rfl ?_
      refine j_dup C dX5_reads_57 rfl ?_
      refine j_get C ck5 0 8 (by decide) qw670 rfl rfl dX5_reads_58 ?_
      refine j_iconst C dX5_reads_61 ?_
      refine j_iadd C dX5_reads_62 ?_
      refine j_put (ws1 := [(u 0, .inr (5, [.ref (u 1), .ref (u 2), .ref (u 3), .int (iI sv), .ref (u 4), .int (iI ((ln : Int))), .int (iI th), .int (iI ((i : Int))), .int (iI (((i : Int)) + 1)), .ref (u 5), .int (iI rd), .int (iI (((0 : Nat) : Int))), .ref (u 6), .long (lI hh)])), (u 1, aL g 75 v), (u 2, aL g 300 pa), (u 3, aL g 75 sd), (u 4, aI g 60 tx), (u 5, aI g 10 (va_up (cpy i (fun j => tx j - 48) rr) i ((tx i) - 48))), (u 6, aI g 4 rq)]) C ck5 0 8 (by decide) qw670 rfl dX5_reads_63 rfl rfl rfl rfl (Nat.le_of_ble_eq_true rfl) ?_
      refine j_aload_n C 0 dX5_reads_66 rfl rfl ?_
      refine j_dup C dX5_reads_67 rfl ?_
      refine j_get C ck5 0 7 (by decide) qw669 rfl rfl dX5_reads_68 ?_
      refine j_iconst C dX5_reads_71 ?_
      refine j_iadd C dX5_reads_72 ?_
      refine j_put (ws1 := [(u 0, .inr (5, [.ref (u 1), .ref (u 2), .ref (u 3), .int (iI sv), .ref (u 4), .int (iI ((ln : Int))), .int (iI th), .int (iI (((i : Int)) + 1)), .int (iI (((i : Int)) + 1)), .ref (u 5), .int (iI rd), .int (iI (((0 : Nat) : Int))), .ref (u 6), .long (lI hh)])), (u 1, aL g 75 v), (u 2, aL g 300 pa), (u 3, aL g 75 sd), (u 4, aI g 60 tx), (u 5, aI g 10 (va_up (cpy i (fun j => tx j - 48) rr) i ((tx i) - 48))), (u 6, aI g 4 rq)]) C ck5 0 7 (by decide) qw669 rfl dX5_reads_73 rfl rfl rfl rfl (Nat.le_of_ble_eq_true rfl) ?_
      refine j_goto (tgt := 15) C dX5_reads_76 (by decide) ?_
      refine J.sub (L1 := [(0, .ref (u 0))]) [0] rfl ?_
      rw [cpy_succ i (fun j => tx j - 48) rr]
      exact ih (i + 1) (by omega) (by have := hd.1; omega) (by rw [rn_t hd] at hm9; rw [hm9]; omega)
    · refine j_callV (As := [.int (iI 48), .int (iI 51)]) (rest := []) C yv_X5_isAt qw934 (c_X5_isAt_f l g u v pa sd tx (cpy i (fun j => tx j - 48) rr) rq ln i 0 sv th ((i : Int)) rd hh 48 51 hn htx (by decide) (by decide) (by omega) hd) (by decide) 0 rfl rfl rfl dX5_reads_29 rfl (Nat.le_of_ble_eq_true rfl) (by decide) pf0 rfl (fun r9 w9 hq9 => ?_)
      obtain ⟨rfl, rfl⟩ := hq9
      refine J.to (L1 := [(0, .ref (u 0))]) (S1 := [.int (iI 0)]) (ws1 := [(u 0, .inr (5, [.ref (u 1), .ref (u 2), .ref (u 3), .int (iI sv), .ref (u 4), .int (iI ((ln : Int))), .int (iI th), .int (iI ((i : Int))), .int (iI ((i : Int))), .ref (u 5), .int (iI rd), .int (iI (((0 : Nat) : Int))), .ref (u 6), .long (lI hh)])), (u 1, aL g 75 v), (u 2, aL g 300 pa), (u 3, aL g 75 sd), (u 4, aI g 60 tx), (u 5, aI g 10 (cpy i (fun j => tx j - 48) rr)), (u 6, aI g 4 rq)]) rfl rfl rfl ?_
      refine j_if_eq (tgt := 79) C (by decide) dX5_reads_32 (by decide) (fun c32 => ?_) (fun c32 => absurd c32 (by decide))
      refine J.sub (L1 := [(0, .ref (u 0))]) [0] rfl ?_
      have e9 : pP tx ln = i := by rw [hm9]; rw [rn_f hd]; rfl
      rw [e9] at kk
      exact kk

theorem lm_reads2 {p : Program} {l : Launch} {e : Env} {s : State} {m : MethodId} {args : Array Value} {below : List Frame} {meth : Method} {c : Code} {g : Gh} {A : Nat → Prop} (C : Cx p g s m args c cX5_reads 2 RX5 A) (hr : meth.sig.returnType = some .boolean) (hlk : meth.locks = false) {u : Nat → Nat} {v pa sd tx rr : Nat → Int} {ln : Nat} {sv th rm rd hh : Int} {F9 : Int} {J9 : Nat × (Nat → Int)} {Post : Option Value → va_W → Prop} (hn : ln ≤ 60) (htx : ∀ i, i < ln → 0 ≤ tx i ∧ tx i ≤ 127) (hpost : ∀ (r9 : Option Value) (w9 : va_W), (r9 = some (.int (iI (if F9 = -1 then 1 else 0))) ∧ ∃ (ap9 nw9 : Nat) (rq9 : Nat → Int), w9 = [(u 0, .inr (5, [.ref (u 1), .ref (u 2), .ref (u 3), .int (iI sv), .ref (u 4), .int (iI ((ln : Int))), .int (iI th), .int (iI ((ap9 : Int))), .int (iI rm), .ref (u 5), .int (iI rd), .int (iI ((nw9 : Int))), .ref (u 6), .long (lI hh)])), (u 1, aL g 75 v), (u 2, aL g 300 pa), (u 3, aL g 75 sd), (u 4, aI g 60 tx), (u 5, aI g 10 rr), (u 6, aI g 4 rq9)] ∧ (F9 ≠ -1 → (ap9 : Int) = F9) ∧ (F9 = -1 → (nw9, rq9) = J9)) → Post r9 w9) : ∀ (f j pl : Nat) (w : Nat → Int), j + f = 4 → pl ≤ ln → pfin tx ln f pl = F9 → rdW tx ln f pl j w = J9 → J p l e ({ frames := 3, cells := 0, slots := 0, locals := 69 } : Room) s m args below meth c g A 2 143 [(0, .ref (u 0)), (1, .int (iI 1))] [] [(u 0, .inr (5, [.ref (u 1), .ref (u 2), .ref (u 3), .int (iI sv), .ref (u 4), .int (iI ((ln : Int))), .int (iI th), .int (iI ((pl : Int))), .int (iI rm), .ref (u 5), .int (iI rd), .int (iI ((j : Int))), .ref (u 6), .long (lI hh)])), (u 1, aL g 75 v), (u 2, aL g 300 pa), (u 3, aL g 75 sd), (u 4, aI g 60 tx), (u 5, aI g 10 rr), (u 6, aI g 4 w)] 0 0 (MQ below (QE g A (Post)) args s 0 0 A) := by
  intro f
  induction f with
  | zero =>
    intro j pl w hi hpl hF hJ
    refine j_iload_n C 1 dX5_reads_143 rfl rfl ?_
    refine j_if_eq (tgt := 184) C (by decide) dX5_reads_144 (by decide) (fun c144 => absurd c144 (by decide)) (fun c144 => ?_)
    refine j_aload_n C 0 dX5_reads_147 rfl rfl ?_
    refine j_get C ck5 0 11 (by decide) qw673 rfl rfl dX5_reads_148 ?_
    refine j_iconst C dX5_reads_151 ?_
    refine j_icmp_ge (tgt := 184) C (by omega) (by decide) dX5_reads_152 (by decide) (fun c152 => ?_) (fun c152 => absurd c152 (by omega))
    refine j_iload_n C 1 dX5_reads_184 rfl rfl ?_
    refine j_if_eq (tgt := 203) C (by decide) dX5_reads_185 (by decide) (fun c185 => absurd c185 (by decide)) (fun c185 => ?_)
    refine j_aload_n C 0 dX5_reads_188 rfl rfl ?_
    refine j_get C ck5 0 7 (by decide) qw669 rfl rfl dX5_reads_189 ?_
    refine j_aload_n C 0 dX5_reads_192 rfl rfl ?_
    refine j_get C ck5 0 5 (by decide) qw667 rfl rfl dX5_reads_193 ?_
    refine j_icmp_ne (tgt := 203) C (by omega) (by omega) dX5_reads_196 (by decide) (fun c196 => ?_) (fun c196 => ?_)
    · refine j_iconst C dX5_reads_203 ?_
      have hF9 : F9 = ((pl : Nat) : Int) := by rw [← hF, pfin, if_pos (by omega)]
      exact j_zret C hr hlk rfl dX5_reads_204 (hpost _ _ ⟨by rw [if_neg (by omega)], pl, j, w, rfl, fun _ => hF9.symm, fun h9 => absurd h9 (by omega)⟩) (by decide) (by decide)
    · refine j_iconst C dX5_reads_199 ?_
      refine j_goto (tgt := 204) C dX5_reads_200 (by decide) ?_
      have hF9 : F9 = -1 := by rw [← hF, pfin, if_neg (by omega)]
      have hJ9 : (j, w) = J9 := by rw [← hJ, rdW]
      exact j_zret C hr hlk rfl dX5_reads_204 (hpost _ _ ⟨by rw [if_pos hF9], pl, j, w, rfl, fun h9 => absurd hF9 h9, fun _ => hJ9⟩) (by decide) (by decide)
  | succ f ih =>
    intro j pl w hi hpl hF hJ
    refine j_iload_n C 1 dX5_reads_143 rfl rfl ?_
    refine j_if_eq (tgt := 184) C (by decide) dX5_reads_144 (by decide) (fun c144 => absurd c144 (by decide)) (fun c144 => ?_)
    refine j_aload_n C 0 dX5_reads_147 rfl rfl ?_
    refine j_get C ck5 0 11 (by decide) qw673 rfl rfl dX5_reads_148 ?_
    refine j_iconst C dX5_reads_151 ?_
    refine j_icmp_ge (tgt := 184) C (by omega) (by decide) dX5_reads_152 (by decide) (fun c152 => absurd c152 (by omega)) (fun c152 => ?_)
    refine j_aload_n C 0 dX5_reads_155 rfl rfl ?_
    refine j_bipush C dX5_reads_156 (by decide) ?_
    refine j_bipush C dX5_reads_158 (by decide) ?_
    by_cases hd : dg tx ln 44 44 pl
    · refine j_callV (As := [.int (iI 44), .int (iI 44)]) (rest := []) C yv_X5_isAt qw934 (c_X5_isAt_t l g u v pa sd tx rr w ln pl j sv th rm rd hh 44 44 hn htx (by decide) (by decide) hd) (by decide) 0 rfl rfl rfl dX5_reads_160 rfl (Nat.le_of_ble_eq_true rfl) (by decide) pf0 rfl (fun r9 w9 hq9 => ?_)
      obtain ⟨rfl, rfl⟩ := hq9
      refine J.to (L1 := [(0, .ref (u 0)), (1, .int (iI 1))]) (S1 := [.int (iI 1)]) (ws1 := [(u 0, .inr (5, [.ref (u 1), .ref (u 2), .ref (u 3), .int (iI sv), .ref (u 4), .int (iI ((ln : Int))), .int (iI th), .int (iI ((pl : Int))), .int (iI rm), .ref (u 5), .int (iI rd), .int (iI ((j : Int))), .ref (u 6), .long (lI hh)])), (u 1, aL g 75 v), (u 2, aL g 300 pa), (u 3, aL g 75 sd), (u 4, aI g 60 tx), (u 5, aI g 10 rr), (u 6, aI g 4 w)]) rfl rfl rfl ?_
      refine j_if_eq (tgt := 184) C (by decide) dX5_reads_163 (by decide) (fun c163 => absurd c163 (by decide)) (fun c163 => ?_)
      refine j_aload_n C 0 dX5_reads_166 rfl rfl ?_
      refine j_dup C dX5_reads_167 rfl ?_
      refine j_get C ck5 0 7 (by decide) qw669 rfl rfl dX5_reads_168 ?_
      refine j_iconst C dX5_reads_171 ?_
      refine j_iadd C dX5_reads_172 ?_
      refine j_put (ws1 := [(u 0, .inr (5, [.ref (u 1), .ref (u 2), .ref (u 3), .int (iI sv), .ref (u 4), .int (iI ((ln : Int))), .int (iI th), .int (iI (((pl : Int)) + 1)), .int (iI rm), .ref (u 5), .int (iI rd), .int (iI ((j : Int))), .ref (u 6), .long (lI hh)])), (u 1, aL g 75 v), (u 2, aL g 300 pa), (u 3, aL g 75 sd), (u 4, aI g 60 tx), (u 5, aI g 10 rr), (u 6, aI g 4 w)]) C ck5 0 7 (by decide) qw669 rfl dX5_reads_173 rfl rfl rfl rfl (Nat.le_of_ble_eq_true rfl) ?_
      refine J.world (ws1 := [(u 0, .inr (5, [.ref (u 1), .ref (u 2), .ref (u 3), .int (iI sv), .ref (u 4), .int (iI ((ln : Int))), .int (iI th), .int (iI (((pl + 1 : Nat) : Int))), .int (iI rm), .ref (u 5), .int (iI rd), .int (iI ((j : Int))), .ref (u 6), .long (lI hh)])), (u 1, aL g 75 v), (u 2, aL g 300 pa), (u 3, aL g 75 sd), (u 4, aI g 60 tx), (u 5, aI g 10 rr), (u 6, aI g 4 w)]) rfl ?_
      refine j_aload_n C 0 dX5_reads_176 rfl rfl ?_
      have hd1 := hd.1
      have hrn := rna (tx := tx) (n := ln) (p := pl + 1) (by omega)
      by_cases hok : wOK tx ln pl
      · have hm9 := hok.2.1
        refine j_callV (As := []) (rest := []) C yv_X5_readsWeight qw938 (c_X5_readsWeight_ok l g u v pa sd tx rr w ln (pl + 1) j sv th rm rd hh hn htx (by omega) (by omega) hok.2.1 hok.2.2.1 hok.2.2.2) (by decide) 0 rfl rfl rfl dX5_reads_177 rfl (Nat.le_of_ble_eq_true rfl) (by decide) pf0 rfl (fun r9 w9 hq9 => ?_)
        obtain ⟨rfl, rfl⟩ := hq9
        refine J.to (L1 := [(0, .ref (u 0)), (1, .int (iI 1))]) (S1 := [.int (iI 1)]) (ws1 := [(u 0, .inr (5, [.ref (u 1), .ref (u 2), .ref (u 3), .int (iI sv), .ref (u 4), .int (iI ((ln : Int))), .int (iI th), .int (iI (((pl + 1 + rn tx ln 48 57 5 (pl + 1) : Nat) : Int))), .int (iI rm), .ref (u 5), .int (iI rd), .int (iI (((j + 1 : Nat) : Int))), .ref (u 6), .long (lI hh)])), (u 1, aL g 75 v), (u 2, aL g 300 pa), (u 3, aL g 75 sd), (u 4, aI g 60 tx), (u 5, aI g 10 rr), (u 6, aI g 4 (va_up w j (dv tx (pl + 1) (rn tx ln 48 57 5 (pl + 1)))))]) rfl rfl rfl ?_
        refine j_istore_n (L1 := [(1, .int (iI 1)), (0, .ref (u 0))]) C dX5_reads_180 rfl (by decide) rfl ?_
        refine j_goto (tgt := 143) C dX5_reads_181 (by decide) ?_
        refine J.sub (L1 := [(0, .ref (u 0)), (1, .int (iI 1))]) [1, 0] rfl ?_
        exact ih (j + 1) (pl + 1 + rn tx ln 48 57 5 (pl + 1)) _ (by omega) (by omega) (by rw [pfin, if_pos (by omega), if_pos hok] at hF; exact hF) (by rw [rdW, if_pos ⟨by omega, hok⟩] at hJ; exact hJ)
      · have hbad := hok
        by_cases hm0 : rn tx ln 48 57 5 (pl + 1) = 0
        · have hm8 := hm0
          refine j_callV (As := []) (rest := []) C yv_X5_readsWeight qw938 (c_X5_readsWeight_m0 l g u v pa sd tx rr w ln (pl + 1) j sv th rm rd hh hn htx (by omega) (by omega) hm0) (by decide) 0 rfl rfl rfl dX5_reads_177 rfl (Nat.le_of_ble_eq_true rfl) (by decide) pf0 rfl (fun r9 w9 hq9 => ?_)
          obtain ⟨rfl, rfl⟩ := hq9
          refine J.to (L1 := [(0, .ref (u 0)), (1, .int (iI 1))]) (S1 := [.int (iI 0)]) (ws1 := [(u 0, .inr (5, [.ref (u 1), .ref (u 2), .ref (u 3), .int (iI sv), .ref (u 4), .int (iI ((ln : Int))), .int (iI th), .int (iI (((pl + 1 + rn tx ln 48 57 5 (pl + 1) : Nat) : Int))), .int (iI rm), .ref (u 5), .int (iI rd), .int (iI ((j : Int))), .ref (u 6), .long (lI hh)])), (u 1, aL g 75 v), (u 2, aL g 300 pa), (u 3, aL g 75 sd), (u 4, aI g 60 tx), (u 5, aI g 10 rr), (u 6, aI g 4 w)]) rfl rfl rfl ?_
          refine j_istore_n (L1 := [(1, .int (iI 0)), (0, .ref (u 0))]) C dX5_reads_180 rfl (by decide) rfl ?_
          refine j_goto (tgt := 143) C dX5_reads_181 (by decide) ?_
          refine j_iload_n C 0 dX5_reads_143 rfl rfl ?_
          refine j_if_eq (tgt := 184) C (by decide) dX5_reads_144 (by decide) (fun c144 => ?_) (fun c144 => absurd c144 (by decide))
          refine j_iload_n C 0 dX5_reads_184 rfl rfl ?_
          refine j_if_eq (tgt := 203) C (by decide) dX5_reads_185 (by decide) (fun c185 => ?_) (fun c185 => absurd c185 (by decide))
          refine j_iconst C dX5_reads_203 ?_
          have hF9 : F9 = ((pl + 1 + rn tx ln 48 57 5 (pl + 1) : Nat) : Int) := by rw [← hF, pfin, if_pos (by omega), if_neg hbad, wFl, if_neg (Decidable.not_not.mpr hd), if_pos (Or.inl hm0)]
          exact j_zret C hr hlk rfl dX5_reads_204 (hpost _ _ ⟨by rw [if_neg (by omega)], (pl + 1 + rn tx ln 48 57 5 (pl + 1)), j, w, rfl, fun _ => hF9.symm, fun h9 => absurd h9 (by omega)⟩) (by decide) (by decide)
        · by_cases hd2 : dg tx ln 48 57 (pl + 1 + rn tx ln 48 57 5 (pl + 1))
          · have hm8 := hm0
            refine j_callV (As := []) (rest := []) C yv_X5_readsWeight qw938 (c_X5_readsWeight_dg l g u v pa sd tx rr w ln (pl + 1) j sv th rm rd hh hn htx (by omega) (by omega) hm0 hd2) (by decide) 0 rfl rfl rfl dX5_reads_177 rfl (Nat.le_of_ble_eq_true rfl) (by decide) pf0 rfl (fun r9 w9 hq9 => ?_)
            obtain ⟨rfl, rfl⟩ := hq9
            refine J.to (L1 := [(0, .ref (u 0)), (1, .int (iI 1))]) (S1 := [.int (iI 0)]) (ws1 := [(u 0, .inr (5, [.ref (u 1), .ref (u 2), .ref (u 3), .int (iI sv), .ref (u 4), .int (iI ((ln : Int))), .int (iI th), .int (iI (((pl + 1 + rn tx ln 48 57 5 (pl + 1) : Nat) : Int))), .int (iI rm), .ref (u 5), .int (iI rd), .int (iI ((j : Int))), .ref (u 6), .long (lI hh)])), (u 1, aL g 75 v), (u 2, aL g 300 pa), (u 3, aL g 75 sd), (u 4, aI g 60 tx), (u 5, aI g 10 rr), (u 6, aI g 4 w)]) rfl rfl rfl ?_
            refine j_istore_n (L1 := [(1, .int (iI 0)), (0, .ref (u 0))]) C dX5_reads_180 rfl (by decide) rfl ?_
            refine j_goto (tgt := 143) C dX5_reads_181 (by decide) ?_
            refine j_iload_n C 0 dX5_reads_143 rfl rfl ?_
            refine j_if_eq (tgt := 184) C (by decide) dX5_reads_144 (by decide) (fun c144 => ?_) (fun c144 => absurd c144 (by decide))
            refine j_iload_n C 0 dX5_reads_184 rfl rfl ?_
            refine j_if_eq (tgt := 203) C (by decide) dX5_reads_185 (by decide) (fun c185 => ?_) (fun c185 => absurd c185 (by decide))
            refine j_iconst C dX5_reads_203 ?_
            have hF9 : F9 = ((pl + 1 + rn tx ln 48 57 5 (pl + 1) : Nat) : Int) := by rw [← hF, pfin, if_pos (by omega), if_neg hbad, wFl, if_neg (Decidable.not_not.mpr hd), if_pos (Or.inr hd2)]
            exact j_zret C hr hlk rfl dX5_reads_204 (hpost _ _ ⟨by rw [if_neg (by omega)], (pl + 1 + rn tx ln 48 57 5 (pl + 1)), j, w, rfl, fun _ => hF9.symm, fun h9 => absurd h9 (by omega)⟩) (by decide) (by decide)
          · have hm8 := hm0
            refine j_callV (As := []) (rest := []) C yv_X5_readsWeight qw938 (c_X5_readsWeight_big l g u v pa sd tx rr w ln (pl + 1) j sv th rm rd hh hn htx (by omega) (by omega) hm0 hd2 (Int.not_le.mp (fun h9 => hbad ⟨hd, hm0, hd2, h9⟩))) (by decide) 0 rfl rfl rfl dX5_reads_177 rfl (Nat.le_of_ble_eq_true rfl) (by decide) pf0 rfl (fun r9 w9 hq9 => ?_)
            obtain ⟨rfl, rfl⟩ := hq9
            refine J.to (L1 := [(0, .ref (u 0)), (1, .int (iI 1))]) (S1 := [.int (iI 0)]) (ws1 := [(u 0, .inr (5, [.ref (u 1), .ref (u 2), .ref (u 3), .int (iI sv), .ref (u 4), .int (iI ((ln : Int))), .int (iI th), .int (iI (((pl + 1 : Nat) : Int))), .int (iI rm), .ref (u 5), .int (iI rd), .int (iI (((j + 1 : Nat) : Int))), .ref (u 6), .long (lI hh)])), (u 1, aL g 75 v), (u 2, aL g 300 pa), (u 3, aL g 75 sd), (u 4, aI g 60 tx), (u 5, aI g 10 rr), (u 6, aI g 4 (va_up w j (dv tx (pl + 1) (rn tx ln 48 57 5 (pl + 1)))))]) rfl rfl rfl ?_
            refine j_istore_n (L1 := [(1, .int (iI 0)), (0, .ref (u 0))]) C dX5_reads_180 rfl (by decide) rfl ?_
            refine j_goto (tgt := 143) C dX5_reads_181 (by decide) ?_
            refine j_iload_n C 0 dX5_reads_143 rfl rfl ?_
            refine j_if_eq (tgt := 184) C (by decide) dX5_reads_144 (by decide) (fun c144 => ?_) (fun c144 => absurd c144 (by decide))
            refine j_iload_n C 0 dX5_reads_184 rfl rfl ?_
            refine j_if_eq (tgt := 203) C (by decide) dX5_reads_185 (by decide) (fun c185 => ?_) (fun c185 => absurd c185 (by decide))
            refine j_iconst C dX5_reads_203 ?_
            have hF9 : F9 = ((pl + 1 : Nat) : Int) := by rw [← hF, pfin, if_pos (by omega), if_neg hbad, wFl, if_neg (Decidable.not_not.mpr hd), if_neg (fun h9 => h9.elim hm0 hd2)]
            exact j_zret C hr hlk rfl dX5_reads_204 (hpost _ _ ⟨by rw [if_neg (by omega)], (pl + 1), (j + 1), (va_up w j (dv tx (pl + 1) (rn tx ln 48 57 5 (pl + 1)))), rfl, fun _ => hF9.symm, fun h9 => absurd h9 (by omega)⟩) (by decide) (by decide)
    · refine j_callV (As := [.int (iI 44), .int (iI 44)]) (rest := []) C yv_X5_isAt qw934 (c_X5_isAt_f l g u v pa sd tx rr w ln pl j sv th rm rd hh 44 44 hn htx (by decide) (by decide) (by omega) hd) (by decide) 0 rfl rfl rfl dX5_reads_160 rfl (Nat.le_of_ble_eq_true rfl) (by decide) pf0 rfl (fun r9 w9 hq9 => ?_)
      obtain ⟨rfl, rfl⟩ := hq9
      refine J.to (L1 := [(0, .ref (u 0)), (1, .int (iI 1))]) (S1 := [.int (iI 0)]) (ws1 := [(u 0, .inr (5, [.ref (u 1), .ref (u 2), .ref (u 3), .int (iI sv), .ref (u 4), .int (iI ((ln : Int))), .int (iI th), .int (iI ((pl : Int))), .int (iI rm), .ref (u 5), .int (iI rd), .int (iI ((j : Int))), .ref (u 6), .long (lI hh)])), (u 1, aL g 75 v), (u 2, aL g 300 pa), (u 3, aL g 75 sd), (u 4, aI g 60 tx), (u 5, aI g 10 rr), (u 6, aI g 4 w)]) rfl rfl rfl ?_
      refine j_if_eq (tgt := 184) C (by decide) dX5_reads_163 (by decide) (fun c163 => ?_) (fun c163 => absurd c163 (by decide))
      refine j_iload_n C 1 dX5_reads_184 rfl rfl ?_
      refine j_if_eq (tgt := 203) C (by decide) dX5_reads_185 (by decide) (fun c185 => absurd c185 (by decide)) (fun c185 => ?_)
      refine j_aload_n C 0 dX5_reads_188 rfl rfl ?_
      refine j_get C ck5 0 7 (by decide) qw669 rfl rfl dX5_reads_189 ?_
      refine j_aload_n C 0 dX5_reads_192 rfl rfl ?_
      refine j_get C ck5 0 5 (by decide) qw667 rfl rfl dX5_reads_193 ?_
      refine j_icmp_ne (tgt := 203) C (by omega) (by omega) dX5_reads_196 (by decide) (fun c196 => ?_) (fun c196 => ?_)
      · refine j_iconst C dX5_reads_203 ?_
        have hF9 : F9 = ((pl : Nat) : Int) := by rw [← hF, pfin, if_pos (by omega), if_neg (fun h9 => hd h9.1), wFl, if_pos hd]
        exact j_zret C hr hlk rfl dX5_reads_204 (hpost _ _ ⟨by rw [if_neg (by omega)], pl, j, w, rfl, fun _ => hF9.symm, fun h9 => absurd h9 (by omega)⟩) (by decide) (by decide)
      · refine j_iconst C dX5_reads_199 ?_
        refine j_goto (tgt := 204) C dX5_reads_200 (by decide) ?_
        have hF9 : F9 = -1 := by rw [← hF, pfin, if_neg (by omega)]
        have hJ9 : (j, w) = J9 := by rw [← hJ, rdW, if_neg (fun h9 => absurd h9.1 (by omega))]
        exact j_zret C hr hlk rfl dX5_reads_204 (hpost _ _ ⟨by rw [if_pos hF9], pl, j, w, rfl, fun h9 => absurd hF9 h9, fun _ => hJ9⟩) (by decide) (by decide)

theorem c_X5_reads (l : Launch) (g : Gh) (u : Nat → Nat) (v pa sd tx rr rq : Nat → Int) (ln ap nw : Nat) (sv th rm rd hh : Int) (hn : ln ≤ 60) (htx : ∀ i, i < ln → 0 ≤ tx i ∧ tx i ≤ 127) : CT l g yX5_reads cX5_reads 2 (some FieldType.boolean) ({ frames := 3, cells := 0, slots := 0, locals := 69 }) [.ref (u 0)] [(u 0, .inr (5, [.ref (u 1), .ref (u 2), .ref (u 3), .int (iI sv), .ref (u 4), .int (iI ((ln : Int))), .int (iI th), .int (iI ((ap : Int))), .int (iI rm), .ref (u 5), .int (iI rd), .int (iI ((nw : Int))), .ref (u 6), .long (lI hh)])), (u 1, aL g 75 v), (u 2, aL g 300 pa), (u 3, aL g 75 sd), (u 4, aI g 60 tx), (u 5, aI g 10 rr), (u 6, aI g 4 rq)] (fun r9 w9 => r9 = some (.int (iI (if pFlt tx ln = -1 then 1 else 0))) ∧ ∃ (ap9 nw9 : Nat) (rm9 rd9 : Int) (rr9 rq9 : Nat → Int), w9 = [(u 0, .inr (5, [.ref (u 1), .ref (u 2), .ref (u 3), .int (iI sv), .ref (u 4), .int (iI ((ln : Int))), .int (iI th), .int (iI ((ap9 : Int))), .int (iI rm9), .ref (u 5), .int (iI rd9), .int (iI ((nw9 : Int))), .ref (u 6), .long (lI hh)])), (u 1, aL g 75 v), (u 2, aL g 300 pa), (u 3, aL g 75 sd), (u 4, aI g 60 tx), (u 5, aI g 10 rr9), (u 6, aI g 4 rq9)] ∧ (pFlt tx ln ≠ -1 → (ap9 : Int) = pFlt tx ln) ∧ (pFlt tx ln = -1 → rm9 = (pP tx ln : Int) ∧ rd9 = tx (pP tx ln + 1) - 48 ∧ rr9 = cpy (pP tx ln) (fun j => tx j - 48) rr ∧ (nw9, rq9) = rdW tx ln 4 (pP tx ln + 2) 0 rq)) := by
  refine CT.intro (L0 := [(0, .ref (u 0))]) (own := RX5) (by decide) rfl (Nat.le_of_ble_eq_true rfl) rfl ?_
  intro pX eX sX mX argsX belowX methX cX A C hr hlk
  have hPl := pP_le tx ln
  refine j_aload_n C 0 dX5_reads_0 rfl rfl ?_
  refine j_iconst C dX5_reads_1 ?_
  refine j_put (ws1 := [(u 0, .inr (5, [.ref (u 1), .ref (u 2), .ref (u 3), .int (iI sv), .ref (u 4), .int (iI ((ln : Int))), .int (iI th), .int (iI 0), .int (iI rm), .ref (u 5), .int (iI rd), .int (iI ((nw : Int))), .ref (u 6), .long (lI hh)])), (u 1, aL g 75 v), (u 2, aL g 300 pa), (u 3, aL g 75 sd), (u 4, aI g 60 tx), (u 5, aI g 10 rr), (u 6, aI g 4 rq)]) C ck5 0 7 (by decide) qw669 rfl dX5_reads_2 rfl rfl rfl rfl (Nat.le_of_ble_eq_true rfl) ?_
  refine j_aload_n C 0 dX5_reads_5 rfl rfl ?_
  refine j_iconst C dX5_reads_6 ?_
  refine j_put (ws1 := [(u 0, .inr (5, [.ref (u 1), .ref (u 2), .ref (u 3), .int (iI sv), .ref (u 4), .int (iI ((ln : Int))), .int (iI th), .int (iI 0), .int (iI 0), .ref (u 5), .int (iI rd), .int (iI ((nw : Int))), .ref (u 6), .long (lI hh)])), (u 1, aL g 75 v), (u 2, aL g 300 pa), (u 3, aL g 75 sd), (u 4, aI g 60 tx), (u 5, aI g 10 rr), (u 6, aI g 4 rq)]) C ck5 0 8 (by decide) qw670 rfl dX5_reads_7 rfl rfl rfl rfl (Nat.le_of_ble_eq_true rfl) ?_
  refine j_aload_n C 0 dX5_reads_10 rfl rfl ?_
  refine j_iconst C dX5_reads_11 ?_
  refine j_put (ws1 := [(u 0, .inr (5, [.ref (u 1), .ref (u 2), .ref (u 3), .int (iI sv), .ref (u 4), .int (iI ((ln : Int))), .int (iI th), .int (iI 0), .int (iI 0), .ref (u 5), .int (iI rd), .int (iI 0), .ref (u 6), .long (lI hh)])), (u 1, aL g 75 v), (u 2, aL g 300 pa), (u 3, aL g 75 sd), (u 4, aI g 60 tx), (u 5, aI g 10 rr), (u 6, aI g 4 rq)]) C ck5 0 11 (by decide) qw673 rfl dX5_reads_12 rfl rfl rfl rfl (Nat.le_of_ble_eq_true rfl) ?_
  refine J.sub (L1 := [(0, .ref (u 0))]) [0] rfl ?_
  refine J.world (ws1 := [(u 0, .inr (5, [.ref (u 1), .ref (u 2), .ref (u 3), .int (iI sv), .ref (u 4), .int (iI ((ln : Int))), .int (iI th), .int (iI ((((0 : Nat)) : Int))), .int (iI ((((0 : Nat)) : Int))), .ref (u 5), .int (iI rd), .int (iI (((0 : Nat) : Int))), .ref (u 6), .long (lI hh)])), (u 1, aL g 75 v), (u 2, aL g 300 pa), (u 3, aL g 75 sd), (u 4, aI g 60 tx), (u 5, aI g 10 (cpy (((0 : Nat))) (fun j => tx j - 48) rr)), (u 6, aI g 4 rq)]) (by rw [cpy_0]; rfl) ?_
  refine lm_reads1 C hn htx ?_ 10 0 (by omega) (by omega) (by rw [Nat.zero_add])
  refine j_aload_n C 0 dX5_reads_79 rfl rfl ?_
  refine j_bipush C dX5_reads_80 (by decide) ?_
  refine j_bipush C dX5_reads_82 (by decide) ?_
  by_cases hd : dg tx ln 46 46 (pP tx ln)
  · refine j_callV (As := [.int (iI 46), .int (iI 46)]) (rest := []) C yv_X5_isAt qw934 (c_X5_isAt_t l g u v pa sd tx (cpy ((pP tx ln)) (fun j => tx j - 48) rr) rq ln ((pP tx ln)) 0 sv th (((pP tx ln) : Int)) rd hh 46 46 hn htx (by decide) (by decide) hd) (by decide) 0 rfl rfl rfl dX5_reads_84 rfl (Nat.le_of_ble_eq_true rfl) (by decide) pf0 rfl (fun r9 w9 hq9 => ?_)
    obtain ⟨rfl, rfl⟩ := hq9
    refine J.to (L1 := [(0, .ref (u 0))]) (S1 := [.int (iI 1)]) (ws1 := [(u 0, .inr (5, [.ref (u 1), .ref (u 2), .ref (u 3), .int (iI sv), .ref (u 4), .int (iI ((ln : Int))), .int (iI th), .int (iI (((pP tx ln) : Int))), .int (iI (((pP tx ln) : Int))), .ref (u 5), .int (iI rd), .int (iI (((0 : Nat) : Int))), .ref (u 6), .long (lI hh)])), (u 1, aL g 75 v), (u 2, aL g 300 pa), (u 3, aL g 75 sd), (u 4, aI g 60 tx), (u 5, aI g 10 (cpy ((pP tx ln)) (fun j => tx j - 48) rr)), (u 6, aI g 4 rq)]) rfl rfl rfl ?_
    refine j_if_ne (tgt := 92) C (by decide) dX5_reads_87 (by decide) (fun c87 => ?_) (fun c87 => absurd c87 (by decide))
    have hd1 := hd.1
    refine j_aload_n C 0 dX5_reads_92 rfl rfl ?_
    refine j_dup C dX5_reads_93 rfl ?_
    refine j_get C ck5 0 7 (by decide) qw669 rfl rfl dX5_reads_94 ?_
    refine j_iconst C dX5_reads_97 ?_
    refine j_iadd C dX5_reads_98 ?_
    refine j_put (ws1 := [(u 0, .inr (5, [.ref (u 1), .ref (u 2), .ref (u 3), .int (iI sv), .ref (u 4), .int (iI ((ln : Int))), .int (iI th), .int (iI ((((pP tx ln) : Int)) + 1)), .int (iI (((pP tx ln) : Int))), .ref (u 5), .int (iI rd), .int (iI (((0 : Nat) : Int))), .ref (u 6), .long (lI hh)])), (u 1, aL g 75 v), (u 2, aL g 300 pa), (u 3, aL g 75 sd), (u 4, aI g 60 tx), (u 5, aI g 10 (cpy ((pP tx ln)) (fun j => tx j - 48) rr)), (u 6, aI g 4 rq)]) C ck5 0 7 (by decide) qw669 rfl dX5_reads_99 rfl rfl rfl rfl (Nat.le_of_ble_eq_true rfl) ?_
    refine J.world (ws1 := [(u 0, .inr (5, [.ref (u 1), .ref (u 2), .ref (u 3), .int (iI sv), .ref (u 4), .int (iI ((ln : Int))), .int (iI th), .int (iI (((pP tx ln + 1 : Nat) : Int))), .int (iI (((pP tx ln) : Int))), .ref (u 5), .int (iI rd), .int (iI (((0 : Nat) : Int))), .ref (u 6), .long (lI hh)])), (u 1, aL g 75 v), (u 2, aL g 300 pa), (u 3, aL g 75 sd), (u 4, aI g 60 tx), (u 5, aI g 10 (cpy ((pP tx ln)) (fun j => tx j - 48) rr)), (u 6, aI g 4 rq)]) rfl ?_
    refine j_aload_n C 0 dX5_reads_102 rfl rfl ?_
    refine j_bipush C dX5_reads_103 (by decide) ?_
    refine j_bipush C dX5_reads_105 (by decide) ?_
    by_cases hd2 : dg tx ln 48 52 (pP tx ln + 1)
    · refine j_callV (As := [.int (iI 48), .int (iI 52)]) (rest := []) C yv_X5_isAt qw934 (c_X5_isAt_t l g u v pa sd tx (cpy ((pP tx ln)) (fun j => tx j - 48) rr) rq ln (pP tx ln + 1) 0 sv th (((pP tx ln) : Int)) rd hh 48 52 hn htx (by decide) (by decide) hd2) (by decide) 0 rfl rfl rfl dX5_reads_107 rfl (Nat.le_of_ble_eq_true rfl) (by decide) pf0 rfl (fun r9 w9 hq9 => ?_)
      obtain ⟨rfl, rfl⟩ := hq9
      refine J.to (L1 := [(0, .ref (u 0))]) (S1 := [.int (iI 1)]) (ws1 := [(u 0, .inr (5, [.ref (u 1), .ref (u 2), .ref (u 3), .int (iI sv), .ref (u 4), .int (iI ((ln : Int))), .int (iI th), .int (iI (((pP tx ln + 1 : Nat) : Int))), .int (iI (((pP tx ln) : Int))), .ref (u 5), .int (iI rd), .int (iI (((0 : Nat) : Int))), .ref (u 6), .long (lI hh)])), (u 1, aL g 75 v), (u 2, aL g 300 pa), (u 3, aL g 75 sd), (u 4, aI g 60 tx), (u 5, aI g 10 (cpy ((pP tx ln)) (fun j => tx j - 48) rr)), (u 6, aI g 4 rq)]) rfl rfl rfl ?_
      refine j_if_ne (tgt := 115) C (by decide) dX5_reads_110 (by decide) (fun c110 => ?_) (fun c110 => absurd c110 (by decide))
      have hd3 := hd2.1
      refine j_aload_n C 0 dX5_reads_115 rfl rfl ?_
      refine j_aload_n C 0 dX5_reads_116 rfl rfl ?_
      refine j_get C ck5 0 4 (by decide) qw666 rfl rfl dX5_reads_117 ?_
      refine j_aload_n C 0 dX5_reads_120 rfl rfl ?_
      refine j_get C ck5 0 7 (by decide) qw669 rfl rfl dX5_reads_121 ?_
      refine j_iald (n := 60) (f := tx) C 4 (pP tx ln + 1) rfl (by omega) (by omega) (by decide) dX5_reads_124 ?_
      refine j_bipush C dX5_reads_125 (by decide) ?_
      refine j_isub C dX5_reads_127 ?_
      refine j_put (ws1 := [(u 0, .inr (5, [.ref (u 1), .ref (u 2), .ref (u 3), .int (iI sv), .ref (u 4), .int (iI ((ln : Int))), .int (iI th), .int (iI (((pP tx ln + 1 : Nat) : Int))), .int (iI (((pP tx ln) : Int))), .ref (u 5), .int (iI ((tx (pP tx ln + 1)) - 48)), .int (iI (((0 : Nat) : Int))), .ref (u 6), .long (lI hh)])), (u 1, aL g 75 v), (u 2, aL g 300 pa), (u 3, aL g 75 sd), (u 4, aI g 60 tx), (u 5, aI g 10 (cpy ((pP tx ln)) (fun j => tx j - 48) rr)), (u 6, aI g 4 rq)]) C ck5 0 10 (by decide) qw672 rfl dX5_reads_128 rfl rfl rfl rfl (Nat.le_of_ble_eq_true rfl) ?_
      refine j_aload_n C 0 dX5_reads_131 rfl rfl ?_
      refine j_dup C dX5_reads_132 rfl ?_
      refine j_get C ck5 0 7 (by decide) qw669 rfl rfl dX5_reads_133 ?_
      refine j_iconst C dX5_reads_136 ?_
      refine j_iadd C dX5_reads_137 ?_
      refine j_put (ws1 := [(u 0, .inr (5, [.ref (u 1), .ref (u 2), .ref (u 3), .int (iI sv), .ref (u 4), .int (iI ((ln : Int))), .int (iI th), .int (iI ((((pP tx ln + 1 : Nat) : Int)) + 1)), .int (iI (((pP tx ln) : Int))), .ref (u 5), .int (iI ((tx (pP tx ln + 1)) - 48)), .int (iI (((0 : Nat) : Int))), .ref (u 6), .long (lI hh)])), (u 1, aL g 75 v), (u 2, aL g 300 pa), (u 3, aL g 75 sd), (u 4, aI g 60 tx), (u 5, aI g 10 (cpy ((pP tx ln)) (fun j => tx j - 48) rr)), (u 6, aI g 4 rq)]) C ck5 0 7 (by decide) qw669 rfl dX5_reads_138 rfl rfl rfl rfl (Nat.le_of_ble_eq_true rfl) ?_
      refine j_iconst C dX5_reads_141 ?_
      refine j_istore_n (L1 := [(1, .int (iI 1)), (0, .ref (u 0))]) C dX5_reads_142 rfl (by decide) rfl ?_
      refine J.sub (L1 := [(0, .ref (u 0)), (1, .int (iI 1))]) [1, 0] rfl ?_
      have hF : pFlt tx ln = pfin tx ln 4 (pP tx ln + 2) := by rw [pFlt, if_neg (Decidable.not_not.mpr hd), if_neg (Decidable.not_not.mpr hd2)]
      exact lm_reads2 C hr hlk (rm := (pP tx ln : Int)) (rd := tx (pP tx ln + 1) - 48) (F9 := pFlt tx ln) (J9 := rdW tx ln 4 (pP tx ln + 2) 0 rq) hn htx (fun r9 w9 h9 => by obtain ⟨h1, ap9, nw9, rq9, h2, h3, h4⟩ := h9; exact ⟨h1, ap9, nw9, _, _, _, rq9, h2, h3, fun h5 => ⟨rfl, rfl, rfl, h4 h5⟩⟩) 4 0 (pP tx ln + 2) rq rfl (by omega) hF.symm rfl
    · refine j_callV (As := [.int (iI 48), .int (iI 52)]) (rest := []) C yv_X5_isAt qw934 (c_X5_isAt_f l g u v pa sd tx (cpy ((pP tx ln)) (fun j => tx j - 48) rr) rq ln (pP tx ln + 1) 0 sv th (((pP tx ln) : Int)) rd hh 48 52 hn htx (by decide) (by decide) (by omega) hd2) (by decide) 0 rfl rfl rfl dX5_reads_107 rfl (Nat.le_of_ble_eq_true rfl) (by decide) pf0 rfl (fun r9 w9 hq9 => ?_)
      obtain ⟨rfl, rfl⟩ := hq9
      refine J.to (L1 := [(0, .ref (u 0))]) (S1 := [.int (iI 0)]) (ws1 := [(u 0, .inr (5, [.ref (u 1), .ref (u 2), .ref (u 3), .int (iI sv), .ref (u 4), .int (iI ((ln : Int))), .int (iI th), .int (iI (((pP tx ln + 1 : Nat) : Int))), .int (iI (((pP tx ln) : Int))), .ref (u 5), .int (iI rd), .int (iI (((0 : Nat) : Int))), .ref (u 6), .long (lI hh)])), (u 1, aL g 75 v), (u 2, aL g 300 pa), (u 3, aL g 75 sd), (u 4, aI g 60 tx), (u 5, aI g 10 (cpy ((pP tx ln)) (fun j => tx j - 48) rr)), (u 6, aI g 4 rq)]) rfl rfl rfl ?_
      refine j_if_ne (tgt := 115) C (by decide) dX5_reads_110 (by decide) (fun c110 => absurd c110 (by decide)) (fun c110 => ?_)
      refine j_iconst C dX5_reads_113 ?_
      have hF : pFlt tx ln = ((pP tx ln + 1 : Nat) : Int) := by rw [pFlt, if_neg (Decidable.not_not.mpr hd), if_pos hd2]
      exact j_zret C hr hlk rfl dX5_reads_114 ⟨by rw [if_neg (by omega)], (pP tx ln + 1), 0, _, _, _, _, rfl, fun _ => hF.symm, fun h9 => absurd h9 (by omega)⟩ (by decide) (by decide)
  · refine j_callV (As := [.int (iI 46), .int (iI 46)]) (rest := []) C yv_X5_isAt qw934 (c_X5_isAt_f l g u v pa sd tx (cpy ((pP tx ln)) (fun j => tx j - 48) rr) rq ln ((pP tx ln)) 0 sv th (((pP tx ln) : Int)) rd hh 46 46 hn htx (by decide) (by decide) (by omega) hd) (by decide) 0 rfl rfl rfl dX5_reads_84 rfl (Nat.le_of_ble_eq_true rfl) (by decide) pf0 rfl (fun r9 w9 hq9 => ?_)
    obtain ⟨rfl, rfl⟩ := hq9
    refine J.to (L1 := [(0, .ref (u 0))]) (S1 := [.int (iI 0)]) (ws1 := [(u 0, .inr (5, [.ref (u 1), .ref (u 2), .ref (u 3), .int (iI sv), .ref (u 4), .int (iI ((ln : Int))), .int (iI th), .int (iI (((pP tx ln) : Int))), .int (iI (((pP tx ln) : Int))), .ref (u 5), .int (iI rd), .int (iI (((0 : Nat) : Int))), .ref (u 6), .long (lI hh)])), (u 1, aL g 75 v), (u 2, aL g 300 pa), (u 3, aL g 75 sd), (u 4, aI g 60 tx), (u 5, aI g 10 (cpy ((pP tx ln)) (fun j => tx j - 48) rr)), (u 6, aI g 4 rq)]) rfl rfl rfl ?_
    refine j_if_ne (tgt := 92) C (by decide) dX5_reads_87 (by decide) (fun c87 => absurd c87 (by decide)) (fun c87 => ?_)
    refine j_iconst C dX5_reads_90 ?_
    have hF : pFlt tx ln = (pP tx ln : Int) := by rw [pFlt, if_pos hd]
    exact j_zret C hr hlk rfl dX5_reads_91 ⟨by rw [if_neg (by omega)], ((pP tx ln)), 0, _, _, _, _, rfl, fun _ => hF.symm, fun h9 => absurd h9 (by omega)⟩ (by decide) (by decide)

