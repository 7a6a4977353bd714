/-! RopeTackle.Text: the reader -/
/-- the byte at p is there, and from lo to hi -/
abbrev dg (tx : Nat → Int) (n : Nat) (lo hi : Int) (p : Nat) : Prop := p < n ∧ lo ≤ tx p ∧ tx p ≤ hi
/-- how many such bytes stand from p on, at most so many -/
def rn (tx : Nat → Int) (n : Nat) (lo hi : Int) : Nat → Nat → Nat
  | 0, _ => 0
  | f + 1, p => if dg tx n lo hi p then rn tx n lo hi f (p + 1) + 1 else 0
theorem rn_le (tx : Nat → Int) (n : Nat) (lo hi : Int) : ∀ f p, rn tx n lo hi f p ≤ f
  | 0, _ => Nat.le_refl _
  | f + 1, p => by
    have := rn_le tx n lo hi f (p + 1)
    simp only [rn]
    split <;> omega
theorem rn_dg {tx : Nat → Int} {n : Nat} {lo hi : Int} : ∀ {f p i : Nat}, i < rn tx n lo hi f p → dg tx n lo hi (p + i)
  | 0, _, _, h => absurd h (Nat.not_lt_zero _)
  | f + 1, p, i, h => by
    simp only [rn] at h
    split at h
    · next hd =>
      cases i with
      | zero => exact hd
      | succ i =>
        have := rn_dg (tx := tx) (n := n) (lo := lo) (hi := hi) (f := f) (p := p + 1) (i := i) (by omega)
        rw [show p + (i + 1) = p + 1 + i by omega]
        exact this
    · exact absurd h (Nat.not_lt_zero _)
theorem rn_t {tx : Nat → Int} {n : Nat} {lo hi : Int} {f p : Nat} (h : dg tx n lo hi p) : rn tx n lo hi (f + 1) p = rn tx n lo hi f (p + 1) + 1 := by rw [rn, if_pos h]
theorem rn_f {tx : Nat → Int} {n : Nat} {lo hi : Int} {f p : Nat} (h : ¬ dg tx n lo hi p) : rn tx n lo hi f p = 0 := by
  cases f with
  | zero => rfl
  | succ f => rw [rn, if_neg h]
/-- the number that m digits from p on tell -/
def dv (tx : Nat → Int) (p : Nat) : Nat → Int
  | 0 => 0
  | m + 1 => 10 * dv tx p m + (tx (p + m) - 48)
theorem dv_rng {tx : Nat → Int} {n p : Nat} : ∀ {m : Nat}, (∀ i, i < m → dg tx n 48 57 (p + i)) → 0 ≤ dv tx p m ∧ dv tx p m < (10 : Int) ^ m
  | 0, _ => ⟨Int.le_refl _, by show (0 : Int) < 1; decide⟩
  | m + 1, h => by
    have h1 := dv_rng (m := m) (fun i hi => h i (by omega))
    have h2 := h m (by omega)
    rw [dv, Int.pow_succ]
    omega
abbrev wm (tx : Nat → Int) (n p : Nat) : Nat := rn tx n 48 57 5 (p + 1)
theorem wm_le {tx : Nat → Int} {n p : Nat} (h : p + 1 ≤ n) : wm tx n p ≤ 5 ∧ p + 1 + wm tx n p ≤ n := by
  have h1 := rn_le tx n 48 57 5 (p + 1)
  refine ⟨h1, ?_⟩
  rcases Nat.eq_zero_or_pos (rn tx n 48 57 5 (p + 1)) with h0 | h0
  · show p + 1 + rn tx n 48 57 5 (p + 1) ≤ n
    omega
  · have h2 := (rn_dg (tx := tx) (n := n) (lo := 48) (hi := 57) (f := 5) (p := p + 1) (i := rn tx n 48 57 5 (p + 1) - 1) (by omega)).1
    show p + 1 + rn tx n 48 57 5 (p + 1) ≤ n
    omega
/-- a comma and a weight stand at p -/
abbrev wOK (tx : Nat → Int) (n p : Nat) : Prop := dg tx n 44 44 p ∧ wm tx n p ≠ 0 ∧ ¬ dg tx n 48 57 (p + 1 + wm tx n p) ∧ dv tx (p + 1) (wm tx n p) ≤ 50000
/-- else: where it is wrong -/
def wFl (tx : Nat → Int) (n p : Nat) : Nat := if ¬ dg tx n 44 44 p then p else if wm tx n p = 0 ∨ dg tx n 48 57 (p + 1 + wm tx n p) then p + 1 + wm tx n p else p + 1
theorem dv_wm {tx : Nat → Int} {n p : Nat} : 0 ≤ dv tx (p + 1) (wm tx n p) ∧ dv tx (p + 1) (wm tx n p) < 100000 := by
  have h1 := dv_rng (tx := tx) (n := n) (p := p + 1) (m := wm tx n p) (fun i hi => rn_dg hi)
  have h2 := rn_le tx n 48 57 5 (p + 1)
  have h3 : (10 : Int) ^ wm tx n p ≤ 10 ^ 5 := by
    rcases Nat.eq_or_lt_of_le h2 with h | h
    · rw [show wm tx n p = 5 from h]; exact Int.le_refl _
    · exact Int.le_of_lt (Int.pow_lt_pow_of_lt (by decide) h)
  have h4 : (10 : Int) ^ 5 = 100000 := by decide
  omega
/-- the weights from p on, at most so many: the fault's place, -1 if there is none; what is read -/
def pfin (tx : Nat → Int) (n : Nat) : Nat → Nat → Int
  | 0, p => if p < n then (p : Int) else -1
  | f + 1, p => if p < n then (if wOK tx n p then pfin tx n f (p + 1 + wm tx n p) else (wFl tx n p : Int)) else -1
def wtf (tx : Nat → Int) (n : Nat) : Nat → Nat → Nat → (Nat → Int) → (Nat → Int)
  | 0, _, _, w => w
  | f + 1, p, b, w => if p < n ∧ wOK tx n p then wtf tx n f (p + 1 + wm tx n p) (b + 1) (va_up w b (dv tx (p + 1) (wm tx n p))) else w
abbrev pP (tx : Nat → Int) (n : Nat) : Nat := rn tx n 48 51 10 0
/-- the whole text: the fault's place, -1 if there is none -/
def pFlt (tx : Nat → Int) (n : Nat) : Int := if ¬ dg tx n 46 46 (pP tx n) then (pP tx n : Int) else if ¬ dg tx n 48 52 (pP tx n + 1) then ((pP tx n + 1 : Nat) : Int) else pfin tx n 4 (pP tx n + 2)
/-- a state as a text tells it -/
def prS (tx : Nat → Int) (P E : Int) (Pn : Nat) (w : Nat → Int) (k : Nat → Nat → Int) : Nat → Nat → Int := fun c => if c = 0 then va_up (va_up (k 0) 2 P) 3 E else if c = 1 then cpy Pn (fun j => tx j - 48) (k 1) else if c = 3 then w else if c = 4 then lay0 4 (k 4) else k c
def prs (tx : Nat → Int) (n : Nat) (k : Nat → Nat → Int) : Nat → Nat → Int := prS tx (pP tx n : Int) (tx (pP tx n + 1) - 48) (pP tx n) (wtf tx n 4 (pP tx n + 2) 0 (k 3)) k
theorem SOK_prS {tx : Nat → Int} {P E : Int} {Pn : Nat} {w : Nat → Int} {k : Nat → Nat → Int} (hk : SOK k) (hP : 0 ≤ P ∧ P ≤ 10) (hPn : P = Pn) (hr : ∀ i, i < Pn → 48 ≤ tx i ∧ tx i ≤ 51) (hE : 0 ≤ E ∧ E ≤ 4) (hw : ∀ b, b < 4 → 0 ≤ w b ∧ w b ≤ 50000) : SOK (prS tx P E Pn w k) := by
  obtain ⟨h1, h2, h3, h4, h5, h6, h7, h8, h9⟩ := hk
  refine ⟨hP, hE, h3, fun i hi => ?_, hw, fun b hb => ?_, h7, h8, h9⟩
  · have hi2 : i < Pn := by
      have : (i : Int) < P := hi
      omega
    show 0 ≤ cpy Pn (fun j => tx j - 48) (k 1) i ∧ cpy Pn (fun j => tx j - 48) (k 1) i ≤ 3
    unfold cpy
    rw [if_pos hi2]
    have := hr i hi2
    show 0 ≤ tx i - 48 ∧ tx i - 48 ≤ 3
    omega
  · show 0 ≤ lay0 4 (k 4) b ∧ lay0 4 (k 4) b ≤ 9000
    unfold lay0
    rw [if_pos hb]
    decide
theorem c_X3_nextIsFrom_t (l : Launch) (g : Gh) (t u : Nat) (tx : Nat → Int) (n p : Nat) (lo hi : Int) (hn : n ≤ 60) (htx : ∀ i, i < n → 0 ≤ tx i ∧ tx i ≤ 127) (hlo : -1000 ≤ lo ∧ lo ≤ 1000) (hhi : -1000 ≤ hi ∧ hi ≤ 1000) (hd : dg tx n lo hi p) : CT l g yX3_nextIsFrom cX3_nextIsFrom 4 (some FieldType.boolean) ({ frames := 1, cells := 0, slots := 0, locals := 21 }) [.ref t, .int (iI lo), .int (iI hi)] [(t, .inr (3, [.ref u, .int (iI ((n : Int))), .int (iI ((p : Int)))])), (u, aI g 60 tx)] (PE (some (.int (iI 1))) [(t, .inr (3, [.ref u, .int (iI ((n : Int))), .int (iI ((p : Int)))])), (u, aI g 60 tx)]) := by
  refine CT.intro (L0 := [(0, .ref t), (1, .int (iI lo)), (2, .int (iI hi))]) (own := RX3) (by decide) rfl (Nat.le_of_ble_eq_true rfl) rfl ?_
  intro pX eX sX mX argsX belowX methX cX A C hr hlk
  have hx9 := htx p hd.1
  have hd1 := hd.1
  refine j_aload_n C 0 dX3_nextIsFrom_0 rfl rfl ?_
  refine j_get C ck3 0 2 (by decide) qw122 rfl rfl dX3_nextIsFrom_1 ?_
  refine j_aload_n C 0 dX3_nextIsFrom_4 rfl rfl ?_
  refine j_get C ck3 0 1 (by decide) qw120 rfl rfl dX3_nextIsFrom_5 ?_
  refine j_icmp_lt (tgt := 13) C (by omega) (by omega) dX3_nextIsFrom_8 (by decide) (fun c8 => ?_) (fun c8 => absurd c8 (by omega))
  refine j_aload_n C 0 dX3_nextIsFrom_13 rfl rfl ?_
  refine j_get C ck3 0 0 (by decide) qw118 rfl rfl dX3_nextIsFrom_14 ?_
  refine j_aload_n C 0 dX3_nextIsFrom_17 rfl rfl ?_
  refine j_get C ck3 0 2 (by decide) qw122 rfl rfl dX3_nextIsFrom_18 ?_
  refine j_callSN (As := [.ref u, .int (iI ((p : Int)))]) (rest := []) C ys_X4_at qn668 (c_X4_at l g u 60 tx ((p : Int)) p (by omega) (by omega) (by decide)) (by decide) rfl dX3_nextIsFrom_21 rfl (Nat.le_of_ble_eq_true rfl) (by decide) (pf1 [(t, .inr (3, [.ref u, .int (iI ((n : Int))), .int (iI ((p : Int)))]))] []) rfl (fun r9 w9 hq9 => ?_)
  obtain ⟨rfl, rfl⟩ := hq9
  refine J.to (L1 := [(0, .ref t), (1, .int (iI lo)), (2, .int (iI hi))]) (S1 := [.int (iI (tx p))]) (ws1 := [(t, .inr (3, [.ref u, .int (iI ((n : Int))), .int (iI ((p : Int)))])), (u, aI g 60 tx)]) rfl rfl rfl ?_
  refine j_istore_n (L1 := [(3, .int (iI (tx p))), (0, .ref t), (1, .int (iI lo)), (2, .int (iI hi))]) C dX3_nextIsFrom_24 rfl (by decide) rfl ?_
  refine j_iload_n C 0 dX3_nextIsFrom_25 rfl rfl ?_
  refine j_iload_n C 2 dX3_nextIsFrom_26 rfl rfl ?_
  refine j_icmp_lt (tgt := 39) C (by omega) (by omega) dX3_nextIsFrom_27 (by decide) (fun c27 => absurd c27 (by omega)) (fun c27 => ?_)
  refine j_iload_n C 0 dX3_nextIsFrom_30 rfl rfl ?_
  refine j_iload_n C 3 dX3_nextIsFrom_31 rfl rfl ?_
  refine j_icmp_gt (tgt := 39) C (by omega) (by omega) dX3_nextIsFrom_32 (by decide) (fun c32 => absurd c32 (by omega)) (fun c32 => ?_)
  refine j_iconst C dX3_nextIsFrom_35 ?_
  refine j_goto (tgt := 40) C dX3_nextIsFrom_36 (by decide) ?_
  exact j_zret C hr hlk rfl dX3_nextIsFrom_40 ⟨rfl, rfl⟩ (by decide) (by decide)

theorem c_X3_nextIsFrom_f (l : Launch) (g : Gh) (t u : Nat) (tx : Nat → Int) (n p : Nat) (lo hi : Int) (hn : n ≤ 60) (htx : ∀ i, i < n → 0 ≤ tx i ∧ tx i ≤ 127) (hlo : -1000 ≤ lo ∧ lo ≤ 1000) (hhi : -1000 ≤ hi ∧ hi ≤ 1000) (hp : p ≤ n) (hd : ¬ dg tx n lo hi p) : CT l g yX3_nextIsFrom cX3_nextIsFrom 4 (some FieldType.boolean) ({ frames := 1, cells := 0, slots := 0, locals := 21 }) [.ref t, .int (iI lo), .int (iI hi)] [(t, .inr (3, [.ref u, .int (iI ((n : Int))), .int (iI ((p : Int)))])), (u, aI g 60 tx)] (PE (some (.int (iI 0))) [(t, .inr (3, [.ref u, .int (iI ((n : Int))), .int (iI ((p : Int)))])), (u, aI g 60 tx)]) := by
  refine CT.intro (L0 := [(0, .ref t), (1, .int (iI lo)), (2, .int (iI hi))]) (own := RX3) (by decide) rfl (Nat.le_of_ble_eq_true rfl) rfl ?_
  intro pX eX sX mX argsX belowX methX cX A C hr hlk
  refine j_aload_n C 0 dX3_nextIsFrom_0 rfl rfl ?_
  refine j_get C ck3 0 2 (by decide) qw122 rfl rfl dX3_nextIsFrom_1 ?_
  refine j_aload_n C 0 dX3_nextIsFrom_4 rfl rfl ?_
  refine j_get C ck3 0 1 (by decide) qw120 rfl rfl dX3_nextIsFrom_5 ?_
  refine j_icmp_lt (tgt := 13) C (by omega) (by omega) dX3_nextIsFrom_8 (by decide) (fun c8 => ?_) (fun c8 => ?_)
  · refine j_aload_n C 0 dX3_nextIsFrom_13 rfl rfl ?_
    refine j_get C ck3 0 0 (by decide) qw118 rfl rfl dX3_nextIsFrom_14 ?_
    refine j_aload_n C 0 dX3_nextIsFrom_17 rfl rfl ?_
    refine j_get C ck3 0 2 (by decide) qw122 rfl rfl dX3_nextIsFrom_18 ?_
    have hx9 := htx p (by omega)
    refine j_callSN (As := [.ref u, .int (iI ((p : Int)))]) (rest := []) C ys_X4_at qn668 (c_X4_at l g u 60 tx ((p : Int)) p (by omega) (by omega) (by decide)) (by decide) rfl dX3_nextIsFrom_21 rfl (Nat.le_of_ble_eq_true rfl) (by decide) (pf1 [(t, .inr (3, [.ref u, .int (iI ((n : Int))), .int (iI ((p : Int)))]))] []) rfl (fun r9 w9 hq9 => ?_)
    obtain ⟨rfl, rfl⟩ := hq9
    refine J.to (L1 := [(0, .ref t), (1, .int (iI lo)), (2, .int (iI hi))]) (S1 := [.int (iI (tx p))]) (ws1 := [(t, .inr (3, [.ref u, .int (iI ((n : Int))), .int (iI ((p : Int)))])), (u, aI g 60 tx)]) rfl rfl rfl ?_
    refine j_istore_n (L1 := [(3, .int (iI (tx p))), (0, .ref t), (1, .int (iI lo)), (2, .int (iI hi))]) C dX3_nextIsFrom_24 rfl (by decide) rfl ?_
    refine j_iload_n C 0 dX3_nextIsFrom_25 rfl rfl ?_
    refine j_iload_n C 2 dX3_nextIsFrom_26 rfl rfl ?_
    refine j_icmp_lt (tgt := 39) C (by omega) (by omega) dX3_nextIsFrom_27 (by decide) (fun c27 => ?_) (fun c27 => ?_)
    · refine j_iconst C dX3_nextIsFrom_39 ?_
      exact j_zret C hr hlk rfl dX3_nextIsFrom_40 ⟨rfl, rfl⟩ (by decide) (by decide)
    · refine j_iload_n C 0 dX3_nextIsFrom_30 rfl rfl ?_
      refine j_iload_n C 3 dX3_nextIsFrom_31 rfl rfl ?_
      refine j_icmp_gt (tgt := 39) C (by omega) (by omega) dX3_nextIsFrom_32 (by decide) (fun c32 => ?_) (fun c32 => ?_)
      · refine j_iconst C dX3_nextIsFrom_39 ?_
        exact j_zret C hr hlk rfl dX3_nextIsFrom_40 ⟨rfl, rfl⟩ (by decide) (by decide)
      · exact absurd ⟨by omega, by omega, by omega⟩ hd
  · refine j_iconst C dX3_nextIsFrom_11 ?_
    exact j_zret C hr hlk rfl dX3_nextIsFrom_12 ⟨rfl, rfl⟩ (by decide) (by decide)

theorem c_X3_takeDigit (l : Launch) (g : Gh) (t u : Nat) (tx : Nat → Int) (n p : Nat) (hn : n ≤ 60) (htx : ∀ i, i < n → 0 ≤ tx i ∧ tx i ≤ 127) (hd1 : p < n) : CT l g yX3_takeDigit cX3_takeDigit 2 (some FieldType.int) ({ frames := 1, cells := 0, slots := 0, locals := 21 }) [.ref t] [(t, .inr (3, [.ref u, .int (iI ((n : Int))), .int (iI ((p : Int)))])), (u, aI g 60 tx)] (PE (some (.int (iI (tx p - 48)))) [(t, .inr (3, [.ref u, .int (iI ((n : Int))), .int (iI ((p : Int) + 1))])), (u, aI g 60 tx)]) := by
  refine CT.intro (L0 := [(0, .ref t)]) (own := RX3) (by decide) rfl (Nat.le_of_ble_eq_true rfl) rfl ?_
  intro pX eX sX mX argsX belowX methX cX A C hr hlk
  refine j_aload_n C 0 dX3_takeDigit_0 rfl rfl ?_
  refine j_get C ck3 0 0 (by decide) qw118 rfl rfl dX3_takeDigit_1 ?_
  refine j_aload_n C 0 dX3_takeDigit_4 rfl rfl ?_
  refine j_get C ck3 0 2 (by decide) qw122 rfl rfl dX3_takeDigit_5 ?_
  refine j_callSN (As := [.ref u, .int (iI ((p : Int)))]) (rest := []) C ys_X4_at qn668 (c_X4_at l g u 60 tx ((p : Int)) p (by omega) (by omega) (by decide)) (by decide) rfl dX3_takeDigit_8 rfl (Nat.le_of_ble_eq_true rfl) (by decide) (pf1 [(t, .inr (3, [.ref u, .int (iI ((n : Int))), .int (iI ((p : Int)))]))] []) rfl (fun r9 w9 hq9 => ?_)
  obtain ⟨rfl, rfl⟩ := hq9
  refine J.to (L1 := [(0, .ref t)]) (S1 := [.int (iI (tx p))]) (ws1 := [(t, .inr (3, [.ref u, .int (iI ((n : Int))), .int (iI ((p : Int)))])), (u, aI g 60 tx)]) rfl rfl rfl ?_
  refine j_bipush C dX3_takeDigit_11 (by decide) ?_
  refine j_isub C dX3_takeDigit_13 ?_
  refine j_istore_n (L1 := [(1, .int (iI ((tx p) - 48))), (0, .ref t)]) C dX3_takeDigit_14 rfl (by decide) rfl ?_
  refine j_aload_n C 1 dX3_takeDigit_15 rfl rfl ?_
  refine j_dup C dX3_takeDigit_16 rfl ?_
  refine j_get C ck3 0 2 (by decide) qw122 rfl rfl dX3_takeDigit_17 ?_
  refine j_iconst C dX3_takeDigit_20 ?_
  refine j_iadd C dX3_takeDigit_21 ?_
  refine j_put (ws1 := [(t, .inr (3, [.ref u, .int (iI ((n : Int))), .int (iI (((p : Int)) + 1))])), (u, aI g 60 tx)]) C ck3 0 2 (by decide) qw122 rfl dX3_takeDigit_22 rfl rfl rfl rfl (Nat.le_of_ble_eq_true rfl) ?_
  refine j_iload_n C 0 dX3_takeDigit_25 rfl rfl ?_
  exact j_iret C hr hlk dX3_takeDigit_26 ⟨rfl, rfl⟩ (by decide) (by decide)

theorem lp_readWeight {p0 : Program} {l : Launch} {e : Env} {s : State} {m : MethodId} {args : Array Value} {below : List Frame} {meth : Method} {c : Code} {g : Gh} {A : Nat → Prop} {Q : State → Prop} (C : Cx p0 g s m args c cX3_readWeight 6 RX3 A) {t u : Nat} {tx : Nat → Int} {n s0 : Nat} {q : Nat → Nat} {k : Nat → Nat → Int} {b : Int} (hn : n ≤ 60) (htx : ∀ i, i < n → 0 ≤ tx i ∧ tx i ≤ 127) (hs0 : s0 ≤ n) (kk : J p0 l e ({ frames := 2, cells := 0, slots := 0, locals := 44 } : Room) s m args below meth c g A 6 72 [(0, .ref t), (1, .ref (q 0)), (2, .int (iI b)), (3, .int (iI ((s0 : Int)))), (4, .int (iI (dv tx s0 (rn tx n 48 57 5 s0))))] [] [(t, .inr (3, [.ref u, .int (iI ((n : Int))), .int (iI (((s0 + rn tx n 48 57 5 s0 : Nat) : Int)))])), (u, aI g 60 tx), (q 0, .inr (2, [.ref (q 1), .ref (q 3), .ref (q 5), .ref (q 6), .ref (q 7), .int (iI (k 0 0))])), (q 1, .inr (1, [.ref (q 2), .int (iI (k 0 2)), .int (iI (k 0 3)), .int (iI (k 0 1))])), (q 2, aI g 10 (k 1)), (q 3, .inr (0, [.ref (q 4), .int (iI (k 0 9)), .int (iI (k 0 6)), .int (iI (k 0 4)), .int (iI (k 0 5)), .long (lI (k 0 7)), .long (lI (k 0 8))])), (q 4, aI g 48 (k 2)), (q 5, aI g 4 (k 3)), (q 6, aI g 4 (k 4)), (q 7, aI g 4 (k 5))] 0 0 Q) : ∀ (f i : Nat), i + f = 5 → s0 + i ≤ n → rn tx n 48 57 5 s0 = i + rn tx n 48 57 f (s0 + i) → J p0 l e ({ frames := 2, cells := 0, slots := 0, locals := 44 } : Room) s m args below meth c g A 6 37 [(0, .ref t), (1, .ref (q 0)), (2, .int (iI b)), (3, .int (iI ((s0 : Int)))), (4, .int (iI (dv tx s0 i))), (5, .int (iI ((i : Int))))] [] [(t, .inr (3, [.ref u, .int (iI ((n : Int))), .int (iI (((s0 + i : Nat) : Int)))])), (u, aI g 60 tx), (q 0, .inr (2, [.ref (q 1), .ref (q 3), .ref (q 5), .ref (q 6), .ref (q 7), .int (iI (k 0 0))])), (q 1, .inr (1, [.ref (q 2), .int (iI (k 0 2)), .int (iI (k 0 3)), .int (iI (k 0 1))])), (q 2, aI g 10 (k 1)), (q 3, .inr (0, [.ref (q 4), .int (iI (k 0 9)), .int (iI (k 0 6)), .int (iI (k 0 4)), .int (iI (k 0 5)), .long (lI (k 0 7)), .long (lI (k 0 8))])), (q 4, aI g 48 (k 2)), (q 5, aI g 4 (k 3)), (q 6, aI g 4 (k 4)), (q 7, aI g 4 (k 5))] 0 0 Q := by
  intro f
  induction f with
  | zero =>
    intro i hi hsi hm
    have hi9 : i = 5 := by omega
    refine j_iload C 5 dX3_readWeight_37 rfl ?_
    refine j_iconst C dX3_readWeight_39 ?_
    refine j_icmp_ge (tgt := 72) C (by omega) (by decide) dX3_readWeight_40 (by decide) (fun c40 => ?_) (fun c40 => absurd c40 (by omega))
    refine J.sub (L1 := [(0, .ref t), (1, .ref (q 0)), (2, .int (iI b)), (3, .int (iI ((s0 : Int)))), (4, .int (iI (dv tx s0 i)))]) [0, 1, 2, 3, 4] rfl ?_
    rw [show i = rn tx n 48 57 5 s0 by rw [hm]; rfl]
    exact kk
  | succ f ih =>
    intro i hi hsi hm
    refine j_iload C 5 dX3_readWeight_37 rfl ?_
    refine j_iconst C dX3_readWeight_39 ?_
    refine j_icmp_ge (tgt := 72) C (by omega) (by decide) dX3_readWeight_40 (by decide) (fun c40 => absurd c40 (by omega)) (fun c40 => ?_)
    refine j_aload_n C 0 dX3_readWeight_43 rfl rfl ?_
    refine j_bipush C dX3_readWeight_44 (by decide) ?_
    refine j_bipush C dX3_readWeight_46 (by decide) ?_
    by_cases hd : dg tx n 48 57 (s0 + i)
    · refine j_callV (As := [.int (iI 48), .int (iI 57)]) (rest := []) C yv_X3_nextIsFrom qw664 (c_X3_nextIsFrom_t l g t u tx n (s0 + i) 48 57 hn htx (by decide) (by decide) hd) (by decide) 0 rfl rfl rfl dX3_readWeight_48 rfl (Nat.le_of_ble_eq_true rfl) (by decide) (pf1 [] [(q 0, .inr (2, [.ref (q 1), .ref (q 3), .ref (q 5), .ref (q 6), .ref (q 7), .int (iI (k 0 0))])), (q 1, .inr (1, [.ref (q 2), .int (iI (k 0 2)), .int (iI (k 0 3)), .int (iI (k 0 1))])), (q 2, aI g 10 (k 1)), (q 3, .inr (0, [.ref (q 4), .int (iI (k 0 9)), .int (iI (k 0 6)), .int (iI (k 0 4)), .int (iI (k 0 5)), .long (lI (k 0 7)), .long (lI (k 0 8))])), (q 4, aI g 48 (k 2)), (q 5, aI g 4 (k 3)), (q 6, aI g 4 (k 4)), (q 7, aI g 4 (k 5))]) rfl (fun r9 w9 hq9 => ?_)
      obtain ⟨rfl, rfl⟩ := hq9
      refine J.to (L1 := [(0, .ref t), (1, .ref (q 0)), (2, .int (iI b)), (3, .int (iI ((s0 : Int)))), (4, .int (iI (dv tx s0 i))), (5, .int (iI ((i : Int))))]) (S1 := [.int (iI 1)]) (ws1 := [(t, .inr (3, [.ref u, .int (iI ((n : Int))), .int (iI (((s0 + i : Nat) : Int)))])), (u, aI g 60 tx), (q 0, .inr (2, [.ref (q 1), .ref (q 3), .ref (q 5), .ref (q 6), .ref (q 7), .int (iI (k 0 0))])), (q 1, .inr (1, [.ref (q 2), .int (iI (k 0 2)), .int (iI (k 0 3)), .int (iI (k 0 1))])), (q 2, aI g 10 (k 1)), (q 3, .inr (0, [.ref (q 4), .int (iI (k 0 9)), .int (iI (k 0 6)), .int (iI (k 0 4)), .int (iI (k 0 5)), .long (lI (k 0 7)), .long (lI (k 0 8))])), (q 4, aI g 48 (k 2)), (q 5, aI g 4 (k 3)), (q 6, aI g 4 (k 4)), (q 7, aI g 4 (k 5))]) rfl rfl rfl ?_
      refine j_if_eq (tgt := 72) C (by decide) dX3_readWeight_51 (by decide) (fun c51 => absurd c51 (by decide)) (fun c51 => ?_)
      refine j_bipush C dX3_readWeight_54 (by decide) ?_
      refine j_iload C 4 dX3_readWeight_56 rfl ?_
      refine j_imul C dX3_readWeight_58 ?_
      refine j_aload_n C 0 dX3_readWeight_59 rfl rfl ?_
      have hd1 := hd.1
      refine j_callV (As := []) (rest := [.int (iI (10 * (dv tx s0 i)))]) C yv_X3_takeDigit qw669 (c_X3_takeDigit l g t u tx n ((s0 + i : Nat)) hn htx (by omega)) (by decide) 0 rfl rfl rfl dX3_readWeight_60 rfl (Nat.le_of_ble_eq_true rfl) (by decide) (pf1 [] [(q 0, .inr (2, [.ref (q 1), .ref (q 3), .ref (q 5), .ref (q 6), .ref (q 7), .int (iI (k 0 0))])), (q 1, .inr (1, [.ref (q 2), .int (iI (k 0 2)), .int (iI (k 0 3)), .int (iI (k 0 1))])), (q 2, aI g 10 (k 1)), (q 3, .inr (0, [.ref (q 4), .int (iI (k 0 9)), .int (iI (k 0 6)), .int (iI (k 0 4)), .int (iI (k 0 5)), .long (lI (k 0 7)), .long (lI (k 0 8))])), (q 4, aI g 48 (k 2)), (q 5, aI g 4 (k 3)), (q 6, aI g 4 (k 4)), (q 7, aI g 4 (k 5))]) rfl (fun r9 w9 hq9 => ?_)
      obtain ⟨rfl, rfl⟩ := hq9
      refine J.to (L1 := [(0, .ref t), (1, .ref (q 0)), (2, .int (iI b)), (3, .int (iI ((s0 : Int)))), (4, .int (iI (dv tx s0 i))), (5, .int (iI ((i : Int))))]) (S1 := [.int (iI (tx ((s0 + i : Nat)) - 48)), .int (iI (10 * (dv tx s0 i)))]) (ws1 := [(t, .inr (3, [.ref u, .int (iI ((n : Int))), .int (iI (((((s0 + i : Nat)) + 1 : Nat) : Int)))])), (u, aI g 60 tx), (q 0, .inr (2, [.ref (q 1), .ref (q 3), .ref (q 5), .ref (q 6), .ref (q 7), .int (iI (k 0 0))])), (q 1, .inr (1, [.ref (q 2), .int (iI (k 0 2)), .int (iI (k 0 3)), .int (iI (k 0 1))])), (q 2, aI g 10 (k 1)), (q 3, .inr (0, [.ref (q 4), .int (iI (k 0 9)), .int (iI (k 0 6)), .int (iI (k 0 4)), .int (iI (k 0 5)), .long (lI (k 0 7)), .long (lI (k 0 8))])), (q 4, aI g 48 (k 2)), (q 5, aI g 4 (k 3)), (q 6, aI g 4 (k 4)), (q 7, aI g 4 (k 5))]) rfl rfl rfl ?_
      refine j_iadd C dX3_readWeight_63 ?_
      refine j_istore (L1 := [(4, .int (iI ((10 * (dv tx s0 i)) + (tx ((s0 + i : Nat)) - 48)))), (0, .ref t), (1, .ref (q 0)), (2, .int (iI b)), (3, .int (iI ((s0 : Int)))), (5, .int (iI ((i : Int))))]) C dX3_readWeight_64 (by decide) rfl ?_
      refine j_iinc (L1 := [(5, .int (iI (((i : Int)) + 1))), (4, .int (iI ((10 * (dv tx s0 i)) + (tx ((s0 + i : Nat)) - 48)))), (0, .ref t), (1, .ref (q 0)), (2, .int (iI b)), (3, .int (iI ((s0 : Int))))]) C 5 dX3_readWeight_66 rfl (by decide) rfl ?_
      refine j_goto (tgt := 37) C dX3_readWeight_69 (by decide) ?_
      refine J.sub (L1 := [(0, .ref t), (1, .ref (q 0)), (2, .int (iI b)), (3, .int (iI ((s0 : Int)))), (4, .int (iI ((10 * (dv tx s0 i)) + (tx ((s0 + i : Nat)) - 48)))), (5, .int (iI (((i : Int)) + 1)))]) [2, 3, 4, 5, 1, 0] rfl ?_
      exact ih (i + 1) (by omega) (by have := hd.1; omega) (by rw [rn_t hd] at hm; rw [hm, show s0 + (i + 1) = s0 + i + 1 by omega]; omega)
    · refine j_callV (As := [.int (iI 48), .int (iI 57)]) (rest := []) C yv_X3_nextIsFrom qw664 (c_X3_nextIsFrom_f l g t u tx n (s0 + i) 48 57 hn htx (by decide) (by decide) (by omega) hd) (by decide) 0 rfl rfl rfl dX3_readWeight_48 rfl (Nat.le_of_ble_eq_true rfl) (by decide) (pf1 [] [(q 0, .inr (2, [.ref (q 1), .ref (q 3), .ref (q 5), .ref (q 6), .ref (q 7), .int (iI (k 0 0))])), (q 1, .inr (1, [.ref (q 2), .int (iI (k 0 2)), .int (iI (k 0 3)), .int (iI (k 0 1))])), (q 2, aI g 10 (k 1)), (q 3, .inr (0, [.ref (q 4), .int (iI (k 0 9)), .int (iI (k 0 6)), .int (iI (k 0 4)), .int (iI (k 0 5)), .long (lI (k 0 7)), .long (lI (k 0 8))])), (q 4, aI g 48 (k 2)), (q 5, aI g 4 (k 3)), (q 6, aI g 4 (k 4)), (q 7, aI g 4 (k 5))]) rfl (fun r9 w9 hq9 => ?_)
      obtain ⟨rfl, rfl⟩ := hq9
      refine J.to (L1 := [(0, .ref t), (1, .ref (q 0)), (2, .int (iI b)), (3, .int (iI ((s0 : Int)))), (4, .int (iI (dv tx s0 i))), (5, .int (iI ((i : Int))))]) (S1 := [.int (iI 0)]) (ws1 := [(t, .inr (3, [.ref u, .int (iI ((n : Int))), .int (iI (((s0 + i : Nat) : Int)))])), (u, aI g 60 tx), (q 0, .inr (2, [.ref (q 1), .ref (q 3), .ref (q 5), .ref (q 6), .ref (q 7), .int (iI (k 0 0))])), (q 1, .inr (1, [.ref (q 2), .int (iI (k 0 2)), .int (iI (k 0 3)), .int (iI (k 0 1))])), (q 2, aI g 10 (k 1)), (q 3, .inr (0, [.ref (q 4), .int (iI (k 0 9)), .int (iI (k 0 6)), .int (iI (k 0 4)), .int (iI (k 0 5)), .long (lI (k 0 7)), .long (lI (k 0 8))])), (q 4, aI g 48 (k 2)), (q 5, aI g 4 (k 3)), (q 6, aI g 4 (k 4)), (q 7, aI g 4 (k 5))]) rfl rfl rfl ?_
      refine j_if_eq (tgt := 72) C (by decide) dX3_readWeight_51 (by decide) (fun c51 => ?_) (fun c51 => absurd c51 (by decide))
      refine J.sub (L1 := [(0, .ref t), (1, .ref (q 0)), (2, .int (iI b)), (3, .int (iI ((s0 : Int)))), (4, .int (iI (dv tx s0 i)))]) [0, 1, 2, 3, 4] rfl ?_
      rw [show i = rn tx n 48 57 5 s0 by rw [hm]; rw [rn_f hd]; rfl]
      exact kk

theorem c_X3_readWeight_ok (l : Launch) (g : Gh) (t u : Nat) (tx : Nat → Int) (n p : Nat) (q : Nat → Nat) (k : Nat → Nat → Int) (b : Int) (hn : n ≤ 60) (htx : ∀ i, i < n → 0 ≤ tx i ∧ tx i ≤ 127) (hp : p ≤ n) (hk : SOK k) (hb3 : 0 ≤ b ∧ b ≤ 3) (hok : wOK tx n p) : CT l g yX3_readWeight cX3_readWeight 6 (some FieldType.int) ({ frames := 2, cells := 0, slots := 0, locals := 44 }) [.ref t, .ref (q 0), .int (iI b)] [(t, .inr (3, [.ref u, .int (iI ((n : Int))), .int (iI ((p : Int)))])), (u, aI g 60 tx), (q 0, .inr (2, [.ref (q 1), .ref (q 3), .ref (q 5), .ref (q 6), .ref (q 7), .int (iI (k 0 0))])), (q 1, .inr (1, [.ref (q 2), .int (iI (k 0 2)), .int (iI (k 0 3)), .int (iI (k 0 1))])), (q 2, aI g 10 (k 1)), (q 3, .inr (0, [.ref (q 4), .int (iI (k 0 9)), .int (iI (k 0 6)), .int (iI (k 0 4)), .int (iI (k 0 5)), .long (lI (k 0 7)), .long (lI (k 0 8))])), (q 4, aI g 48 (k 2)), (q 5, aI g 4 (k 3)), (q 6, aI g 4 (k 4)), (q 7, aI g 4 (k 5))] (PE (some (.int (iI (-1)))) [(t, .inr (3, [.ref u, .int (iI ((n : Int))), .int (iI (((p + 1 + wm tx n p : Nat) : Int)))])), (u, aI g 60 tx), (q 0, .inr (2, [.ref (q 1), .ref (q 3), .ref (q 5), .ref (q 6), .ref (q 7), .int (iI ((va_up k 3 (va_up (k 3) b.toNat (dv tx (p + 1) (wm tx n p)))) 0 0))])), (q 1, .inr (1, [.ref (q 2), .int (iI ((va_up k 3 (va_up (k 3) b.toNat (dv tx (p + 1) (wm tx n p)))) 0 2)), .int (iI ((va_up k 3 (va_up (k 3) b.toNat (dv tx (p + 1) (wm tx n p)))) 0 3)), .int (iI ((va_up k 3 (va_up (k 3) b.toNat (dv tx (p + 1) (wm tx n p)))) 0 1))])), (q 2, aI g 10 ((va_up k 3 (va_up (k 3) b.toNat (dv tx (p + 1) (wm tx n p)))) 1)), (q 3, .inr (0, [.ref (q 4), .int (iI ((va_up k 3 (va_up (k 3) b.toNat (dv tx (p + 1) (wm tx n p)))) 0 9)), .int (iI ((va_up k 3 (va_up (k 3) b.toNat (dv tx (p + 1) (wm tx n p)))) 0 6)), .int (iI ((va_up k 3 (va_up (k 3) b.toNat (dv tx (p + 1) (wm tx n p)))) 0 4)), .int (iI ((va_up k 3 (va_up (k 3) b.toNat (dv tx (p + 1) (wm tx n p)))) 0 5)), .long (lI ((va_up k 3 (va_up (k 3) b.toNat (dv tx (p + 1) (wm tx n p)))) 0 7)), .long (lI ((va_up k 3 (va_up (k 3) b.toNat (dv tx (p + 1) (wm tx n p)))) 0 8))])), (q 4, aI g 48 ((va_up k 3 (va_up (k 3) b.toNat (dv tx (p + 1) (wm tx n p)))) 2)), (q 5, aI g 4 ((va_up k 3 (va_up (k 3) b.toNat (dv tx (p + 1) (wm tx n p)))) 3)), (q 6, aI g 4 ((va_up k 3 (va_up (k 3) b.toNat (dv tx (p + 1) (wm tx n p)))) 4)), (q 7, aI g 4 ((va_up k 3 (va_up (k 3) b.toNat (dv tx (p + 1) (wm tx n p)))) 5))]) := by
  refine CT.intro (L0 := [(0, .ref t), (1, .ref (q 0)), (2, .int (iI b))]) (own := RX3) (by decide) rfl (Nat.le_of_ble_eq_true rfl) rfl ?_
  intro pX eX sX mX argsX belowX methX cX A C hr hlk
  obtain ⟨hd, hm0, hd2, hv⟩ := hok
  have hd1 := hd.1
  refine j_aload_n C 0 dX3_readWeight_0 rfl rfl ?_
  refine j_bipush C dX3_readWeight_1 (by decide) ?_
  refine j_bipush C dX3_readWeight_3 (by decide) ?_
  refine j_callV (As := [.int (iI 44), .int (iI 44)]) (rest := []) C yv_X3_nextIsFrom qw664 (c_X3_nextIsFrom_t l g t u tx n p 44 44 hn htx (by decide) (by decide) hd) (by decide) 0 rfl rfl rfl dX3_readWeight_5 rfl (Nat.le_of_ble_eq_true rfl) (by decide) (pf1 [] [(q 0, .inr (2, [.ref (q 1), .ref (q 3), .ref (q 5), .ref (q 6), .ref (q 7), .int (iI (k 0 0))])), (q 1, .inr (1, [.ref (q 2), .int (iI (k 0 2)), .int (iI (k 0 3)), .int (iI (k 0 1))])), (q 2, aI g 10 (k 1)), (q 3, .inr (0, [.ref (q 4), .int (iI (k 0 9)), .int (iI (k 0 6)), .int (iI (k 0 4)), .int (iI (k 0 5)), .long (lI (k 0 7)), .long (lI (k 0 8))])), (q 4, aI g 48 (k 2)), (q 5, aI g 4 (k 3)), (q 6, aI g 4 (k 4)), (q 7, aI g 4 (k 5))]) rfl (fun r9 w9 hq9 => ?_)
  obtain ⟨rfl, rfl⟩ := hq9
  refine J.to (L1 := [(0, .ref t), (1, .ref (q 0)), (2, .int (iI b))]) (S1 := [.int (iI 1)]) (ws1 := [(t, .inr (3, [.ref u, .int (iI ((n : Int))), .int (iI ((p : Int)))])), (u, aI g 60 tx), (q 0, .inr (2, [.ref (q 1), .ref (q 3), .ref (q 5), .ref (q 6), .ref (q 7), .int (iI (k 0 0))])), (q 1, .inr (1, [.ref (q 2), .int (iI (k 0 2)), .int (iI (k 0 3)), .int (iI (k 0 1))])), (q 2, aI g 10 (k 1)), (q 3, .inr (0, [.ref (q 4), .int (iI (k 0 9)), .int (iI (k 0 6)), .int (iI (k 0 4)), .int (iI (k 0 5)), .long (lI (k 0 7)), .long (lI (k 0 8))])), (q 4, aI g 48 (k 2)), (q 5, aI g 4 (k 3)), (q 6, aI g 4 (k 4)), (q 7, aI g 4 (k 5))]) rfl rfl rfl ?_
  refine j_if_ne (tgt := 16) C (by decide) dX3_readWeight_8 (by decide) (fun c8 => ?_) (fun c8 => absurd c8 (by decide))
  refine j_aload_n C 0 dX3_readWeight_16 rfl rfl ?_
  refine j_dup C dX3_readWeight_17 rfl ?_
  refine j_get C ck3 0 2 (by decide) qw122 rfl rfl dX3_readWeight_18 ?_
  refine j_iconst C dX3_readWeight_21 ?_
  refine j_iadd C dX3_readWeight_22 ?_
  refine j_put (ws1 := [(t, .inr (3, [.ref u, .int (iI ((n : Int))), .int (iI (((p : Int)) + 1))])), (u, aI g 60 tx), (q 0, .inr (2, [.ref (q 1), .ref (q 3), .ref (q 5), .ref (q 6), .ref (q 7), .int (iI (k 0 0))])), (q 1, .inr (1, [.ref (q 2), .int (iI (k 0 2)), .int (iI (k 0 3)), .int (iI (k 0 1))])), (q 2, aI g 10 (k 1)), (q 3, .inr (0, [.ref (q 4), .int (iI (k 0 9)), .int (iI (k 0 6)), .int (iI (k 0 4)), .int (iI (k 0 5)), .long (lI (k 0 7)), .long (lI (k 0 8))])), (q 4, aI g 48 (k 2)), (q 5, aI g 4 (k 3)), (q 6, aI g 4 (k 4)), (q 7, aI g 4 (k 5))]) C ck3 0 2 (by decide) qw122 rfl dX3_readWeight_23 rfl rfl rfl rfl (Nat.le_of_ble_eq_true rfl) ?_
  refine J.world (ws1 := [(t, .inr (3, [.ref u, .int (iI ((n : Int))), .int (iI (((p + 1 : Nat) : Int)))])), (u, aI g 60 tx), (q 0, .inr (2, [.ref (q 1), .ref (q 3), .ref (q 5), .ref (q 6), .ref (q 7), .int (iI (k 0 0))])), (q 1, .inr (1, [.ref (q 2), .int (iI (k 0 2)), .int (iI (k 0 3)), .int (iI (k 0 1))])), (q 2, aI g 10 (k 1)), (q 3, .inr (0, [.ref (q 4), .int (iI (k 0 9)), .int (iI (k 0 6)), .int (iI (k 0 4)), .int (iI (k 0 5)), .long (lI (k 0 7)), .long (lI (k 0 8))])), (q 4, aI g 48 (k 2)), (q 5, aI g 4 (k 3)), (q 6, aI g 4 (k 4)), (q 7, aI g 4 (k 5))]) rfl ?_
  refine j_aload_n C 0 dX3_readWeight_26 rfl rfl ?_
  refine j_get C ck3 0 2 (by decide) qw122 rfl rfl dX3_readWeight_27 ?_
  refine j_istore_n (L1 := [(3, .int (iI (((p + 1 : Nat) : Int)))), (0, .ref t), (1, .ref (q 0)), (2, .int (iI b))]) C dX3_readWeight_30 rfl (by decide) rfl ?_
  refine j_iconst C dX3_readWeight_31 ?_
  refine j_istore (L1 := [(4, .int (iI 0)), (3, .int (iI (((p + 1 : Nat) : Int)))), (0, .ref t), (1, .ref (q 0)), (2, .int (iI b))]) C dX3_readWeight_32 (by decide) rfl ?_
  refine j_iconst C dX3_readWeight_34 ?_
  refine j_istore (L1 := [(5, .int (iI 0)), (4, .int (iI 0)), (3, .int (iI (((p + 1 : Nat) : Int)))), (0, .ref t), (1, .ref (q 0)), (2, .int (iI b))]) C dX3_readWeight_35 (by decide) rfl ?_
  refine J.sub (L1 := [(0, .ref t), (1, .ref (q 0)), (2, .int (iI b)), (3, .int (iI (((p + 1 : Nat) : Int)))), (4, .int (iI 0)), (5, .int (iI 0))]) [3, 4, 5, 2, 1, 0] rfl ?_
  refine lp_readWeight (s0 := p + 1) C hn htx (by omega) ?_ 5 0 (by omega) (by omega) (by rw [Nat.zero_add])
  have hv9 := dv_wm (tx := tx) (n := n) (p := p)
  have hm8 := wm_le (tx := tx) (n := n) (p := p) (by omega)
  refine J.to (L1 := [(0, .ref t), (1, .ref (q 0)), (2, .int (iI b)), (3, .int (iI (((p + 1 : Nat) : Int)))), (4, .int (iI (dv tx (p + 1) (wm tx n p))))]) (S1 := []) (ws1 := [(t, .inr (3, [.ref u, .int (iI ((n : Int))), .int (iI (((p + 1 + wm tx n p : Nat) : Int)))])), (u, aI g 60 tx), (q 0, .inr (2, [.ref (q 1), .ref (q 3), .ref (q 5), .ref (q 6), .ref (q 7), .int (iI (k 0 0))])), (q 1, .inr (1, [.ref (q 2), .int (iI (k 0 2)), .int (iI (k 0 3)), .int (iI (k 0 1))])), (q 2, aI g 10 (k 1)), (q 3, .inr (0, [.ref (q 4), .int (iI (k 0 9)), .int (iI (k 0 6)), .int (iI (k 0 4)), .int (iI (k 0 5)), .long (lI (k 0 7)), .long (lI (k 0 8))])), (q 4, aI g 48 (k 2)), (q 5, aI g 4 (k 3)), (q 6, aI g 4 (k 4)), (q 7, aI g 4 (k 5))]) rfl rfl rfl ?_
  refine j_aload_n C 0 dX3_readWeight_72 rfl rfl ?_
  refine j_get C ck3 0 2 (by decide) qw122 rfl rfl dX3_readWeight_73 ?_
  refine j_iload_n C 3 dX3_readWeight_76 rfl rfl ?_
  refine j_icmp_eq (tgt := 91) C (by omega) (by omega) dX3_readWeight_77 (by decide) (fun c77 => absurd c77 (by omega)) (fun c77 => ?_)
  refine j_aload_n C 0 dX3_readWeight_80 rfl rfl ?_
  refine j_bipush C dX3_readWeight_81 (by decide) ?_
  refine j_bipush C dX3_readWeight_83 (by decide) ?_
  refine j_callV (As := [.int (iI 48), .int (iI 57)]) (rest := []) C yv_X3_nextIsFrom qw664 (c_X3_nextIsFrom_f l g t u tx n (p + 1 + wm tx n p) 48 57 hn htx (by decide) (by decide) (by omega) hd2) (by decide) 0 rfl rfl rfl dX3_readWeight_85 rfl (Nat.le_of_ble_eq_true rfl) (by decide) (pf1 [] [(q 0, .inr (2, [.ref (q 1), .ref (q 3), .ref (q 5), .ref (q 6), .ref (q 7), .int (iI (k 0 0))])), (q 1, .inr (1, [.ref (q 2), .int (iI (k 0 2)), .int (iI (k 0 3)), .int (iI (k 0 1))])), (q 2, aI g 10 (k 1)), (q 3, .inr (0, [.ref (q 4), .int (iI (k 0 9)), .int (iI (k 0 6)), .int (iI (k 0 4)), .int (iI (k 0 5)), .long (lI (k 0 7)), .long (lI (k 0 8))])), (q 4, aI g 48 (k 2)), (q 5, aI g 4 (k 3)), (q 6, aI g 4 (k 4)), (q 7, aI g 4 (k 5))]) rfl (fun r9 w9 hq9 => ?_)
  obtain ⟨rfl, rfl⟩ := hq9
  refine J.to (L1 := [(0, .ref t), (1, .ref (q 0)), (2, .int (iI b)), (3, .int (iI (((p + 1 : Nat) : Int)))), (4, .int (iI (dv tx (p + 1) (wm tx n p))))]) (S1 := [.int (iI 0)]) (ws1 := [(t, .inr (3, [.ref u, .int (iI ((n : Int))), .int (iI (((p + 1 + wm tx n p : Nat) : Int)))])), (u, aI g 60 tx), (q 0, .inr (2, [.ref (q 1), .ref (q 3), .ref (q 5), .ref (q 6), .ref (q 7), .int (iI (k 0 0))])), (q 1, .inr (1, [.ref (q 2), .int (iI (k 0 2)), .int (iI (k 0 3)), .int (iI (k 0 1))])), (q 2, aI g 10 (k 1)), (q 3, .inr (0, [.ref (q 4), .int (iI (k 0 9)), .int (iI (k 0 6)), .int (iI (k 0 4)), .int (iI (k 0 5)), .long (lI (k 0 7)), .long (lI (k 0 8))])), (q 4, aI g 48 (k 2)), (q 5, aI g 4 (k 3)), (q 6, aI g 4 (k 4)), (q 7, aI g 4 (k 5))]) rfl rfl rfl ?_
  refine j_if_eq (tgt := 96) C (by decide) dX3_readWeight_88 (by decide) (fun c88 => ?_) (fun c88 => absurd c88 (by decide))
  refine j_iload C 4 dX3_readWeight_96 rfl ?_
  refine j_ldc (x := 50000) C qw678 (by decide) dX3_readWeight_98 ?_
  refine j_icmp_le (tgt := 105) C (by omega) (by decide) dX3_readWeight_100 (by decide) (fun c100 => ?_) (fun c100 => absurd c100 (by omega))
  refine j_aload_n C 1 dX3_readWeight_105 rfl rfl ?_
  refine j_iload_n C 2 dX3_readWeight_106 rfl rfl ?_
  refine j_iload C 4 dX3_readWeight_107 rfl ?_
  refine j_callV (As := [.int (iI b), .int (iI (dv tx (p + 1) (wm tx n p)))]) (rest := []) C yv_X2_giveWeight qw679 (c_X2_giveWeight l g q k b (dv tx (p + 1) (wm tx n p)) hk (by omega)) (by decide) 2 rfl rfl rfl dX3_readWeight_109 rfl (Nat.le_of_ble_eq_true rfl) (by decide) (pf1 [(t, .inr (3, [.ref u, .int (iI ((n : Int))), .int (iI (((p + 1 + wm tx n p : Nat) : Int)))])), (u, aI g 60 tx)] []) rfl (fun r9 w9 hq9 => ?_)
  obtain ⟨rfl, rfl⟩ := hq9
  refine J.to (L1 := [(0, .ref t), (1, .ref (q 0)), (2, .int (iI b)), (3, .int (iI (((p + 1 : Nat) : Int)))), (4, .int (iI (dv tx (p + 1) (wm tx n p))))]) (S1 := []) (ws1 := [(t, .inr (3, [.ref u, .int (iI ((n : Int))), .int (iI (((p + 1 + wm tx n p : Nat) : Int)))])), (u, aI g 60 tx), (q 0, .inr (2, [.ref (q 1), .ref (q 3), .ref (q 5), .ref (q 6), .ref (q 7), .int (iI ((va_up k 3 (va_up (k 3) b.toNat (dv tx (p + 1) (wm tx n p)))) 0 0))])), (q 1, .inr (1, [.ref (q 2), .int (iI ((va_up k 3 (va_up (k 3) b.toNat (dv tx (p + 1) (wm tx n p)))) 0 2)), .int (iI ((va_up k 3 (va_up (k 3) b.toNat (dv tx (p + 1) (wm tx n p)))) 0 3)), .int (iI ((va_up k 3 (va_up (k 3) b.toNat (dv tx (p + 1) (wm tx n p)))) 0 1))])), (q 2, aI g 10 ((va_up k 3 (va_up (k 3) b.toNat (dv tx (p + 1) (wm tx n p)))) 1)), (q 3, .inr (0, [.ref (q 4), .int (iI ((va_up k 3 (va_up (k 3) b.toNat (dv tx (p + 1) (wm tx n p)))) 0 9)), .int (iI ((va_up k 3 (va_up (k 3) b.toNat (dv tx (p + 1) (wm tx n p)))) 0 6)), .int (iI ((va_up k 3 (va_up (k 3) b.toNat (dv tx (p + 1) (wm tx n p)))) 0 4)), .int (iI ((va_up k 3 (va_up (k 3) b.toNat (dv tx (p + 1) (wm tx n p)))) 0 5)), .long (lI ((va_up k 3 (va_up (k 3) b.toNat (dv tx (p + 1) (wm tx n p)))) 0 7)), .long (lI ((va_up k 3 (va_up (k 3) b.toNat (dv tx (p + 1) (wm tx n p)))) 0 8))])), (q 4, aI g 48 ((va_up k 3 (va_up (k 3) b.toNat (dv tx (p + 1) (wm tx n p)))) 2)), (q 5, aI g 4 ((va_up k 3 (va_up (k 3) b.toNat (dv tx (p + 1) (wm tx n p)))) 3)), (q 6, aI g 4 ((va_up k 3 (va_up (k 3) b.toNat (dv tx (p + 1) (wm tx n p)))) 4)), (q 7, aI g 4 ((va_up k 3 (va_up (k 3) b.toNat (dv tx (p + 1) (wm tx n p)))) 5))]) rfl rfl rfl ?_
  refine j_iconst C dX3_readWeight_112 ?_
  exact j_iret C hr hlk dX3_readWeight_113 ⟨rfl, rfl⟩ (by decide) (by decide)

theorem c_X3_readWeight_bad (l : Launch) (g : Gh) (t u : Nat) (tx : Nat → Int) (n p : Nat) (q : Nat → Nat) (k : Nat → Nat → Int) (b : Int) (hn : n ≤ 60) (htx : ∀ i, i < n → 0 ≤ tx i ∧ tx i ≤ 127) (hp : p ≤ n) (hk : SOK k) (hb3 : 0 ≤ b ∧ b ≤ 3) (hbad : ¬ wOK tx n p) : CT l g yX3_readWeight cX3_readWeight 6 (some FieldType.int) ({ frames := 2, cells := 0, slots := 0, locals := 44 }) [.ref t, .ref (q 0), .int (iI b)] [(t, .inr (3, [.ref u, .int (iI ((n : Int))), .int (iI ((p : Int)))])), (u, aI g 60 tx), (q 0, .inr (2, [.ref (q 1), .ref (q 3), .ref (q 5), .ref (q 6), .ref (q 7), .int (iI (k 0 0))])), (q 1, .inr (1, [.ref (q 2), .int (iI (k 0 2)), .int (iI (k 0 3)), .int (iI (k 0 1))])), (q 2, aI g 10 (k 1)), (q 3, .inr (0, [.ref (q 4), .int (iI (k 0 9)), .int (iI (k 0 6)), .int (iI (k 0 4)), .int (iI (k 0 5)), .long (lI (k 0 7)), .long (lI (k 0 8))])), (q 4, aI g 48 (k 2)), (q 5, aI g 4 (k 3)), (q 6, aI g 4 (k 4)), (q 7, aI g 4 (k 5))] (fun r w' => r = some (.int (iI (wFl tx n p : Int))) ∧ ∃ p' : Nat, p' ≤ n ∧ w' = [(t, .inr (3, [.ref u, .int (iI ((n : Int))), .int (iI (((p' : Nat) : Int)))])), (u, aI g 60 tx), (q 0, .inr (2, [.ref (q 1), .ref (q 3), .ref (q 5), .ref (q 6), .ref (q 7), .int (iI (k 0 0))])), (q 1, .inr (1, [.ref (q 2), .int (iI (k 0 2)), .int (iI (k 0 3)), .int (iI (k 0 1))])), (q 2, aI g 10 (k 1)), (q 3, .inr (0, [.ref (q 4), .int (iI (k 0 9)), .int (iI (k 0 6)), .int (iI (k 0 4)), .int (iI (k 0 5)), .long (lI (k 0 7)), .long (lI (k 0 8))])), (q 4, aI g 48 (k 2)), (q 5, aI g 4 (k 3)), (q 6, aI g 4 (k 4)), (q 7, aI g 4 (k 5))]) := by
  refine CT.intro (L0 := [(0, .ref t), (1, .ref (q 0)), (2, .int (iI b))]) (own := RX3) (by decide) rfl (Nat.le_of_ble_eq_true rfl) rfl ?_
  intro pX eX sX mX argsX belowX methX cX A C hr hlk
  refine j_aload_n C 0 dX3_readWeight_0 rfl rfl ?_
  refine j_bipush C dX3_readWeight_1 (by decide) ?_
  refine j_bipush C dX3_readWeight_3 (by decide) ?_
  by_cases hd : dg tx n 44 44 p
  · refine j_callV (As := [.int (iI 44), .int (iI 44)]) (rest := []) C yv_X3_nextIsFrom qw664 (c_X3_nextIsFrom_t l g t u tx n p 44 44 hn htx (by decide) (by decide) hd) (by decide) 0 rfl rfl rfl dX3_readWeight_5 rfl (Nat.le_of_ble_eq_true rfl) (by decide) (pf1 [] [(q 0, .inr (2, [.ref (q 1), .ref (q 3), .ref (q 5), .ref (q 6), .ref (q 7), .int (iI (k 0 0))])), (q 1, .inr (1, [.ref (q 2), .int (iI (k 0 2)), .int (iI (k 0 3)), .int (iI (k 0 1))])), (q 2, aI g 10 (k 1)), (q 3, .inr (0, [.ref (q 4), .int (iI (k 0 9)), .int (iI (k 0 6)), .int (iI (k 0 4)), .int (iI (k 0 5)), .long (lI (k 0 7)), .long (lI (k 0 8))])), (q 4, aI g 48 (k 2)), (q 5, aI g 4 (k 3)), (q 6, aI g 4 (k 4)), (q 7, aI g 4 (k 5))]) rfl (fun r9 w9 hq9 => ?_)
    obtain ⟨rfl, rfl⟩ := hq9
    refine J.to (L1 := [(0, .ref t), (1, .ref (q 0)), (2, .int (iI b))]) (S1 := [.int (iI 1)]) (ws1 := [(t, .inr (3, [.ref u, .int (iI ((n : Int))), .int (iI ((p : Int)))])), (u, aI g 60 tx), (q 0, .inr (2, [.ref (q 1), .ref (q 3), .ref (q 5), .ref (q 6), .ref (q 7), .int (iI (k 0 0))])), (q 1, .inr (1, [.ref (q 2), .int (iI (k 0 2)), .int (iI (k 0 3)), .int (iI (k 0 1))])), (q 2, aI g 10 (k 1)), (q 3, .inr (0, [.ref (q 4), .int (iI (k 0 9)), .int (iI (k 0 6)), .int (iI (k 0 4)), .int (iI (k 0 5)), .long (lI (k 0 7)), .long (lI (k 0 8))])), (q 4, aI g 48 (k 2)), (q 5, aI g 4 (k 3)), (q 6, aI g 4 (k 4)), (q 7, aI g 4 (k 5))]) rfl rfl rfl ?_
    refine j_if_ne (tgt := 16) C (by decide) dX3_readWeight_8 (by decide) (fun c8 => ?_) (fun c8 => absurd c8 (by decide))
    have hd1 := hd.1
    refine j_aload_n C 0 dX3_readWeight_16 rfl rfl ?_
    refine j_dup C dX3_readWeight_17 rfl ?_
    refine j_get C ck3 0 2 (by decide) qw122 rfl rfl dX3_readWeight_18 ?_
    refine j_iconst C dX3_readWeight_21 ?_
    refine j_iadd C dX3_readWeight_22 ?_
    refine j_put (ws1 := [(t, .inr (3, [.ref u, .int (iI ((n : Int))), .int (iI (((p : Int)) + 1))])), (u, aI g 60 tx), (q 0, .inr (2, [.ref (q 1), .ref (q 3), .ref (q 5), .ref (q 6), .ref (q 7), .int (iI (k 0 0))])), (q 1, .inr (1, [.ref (q 2), .int (iI (k 0 2)), .int (iI (k 0 3)), .int (iI (k 0 1))])), (q 2, aI g 10 (k 1)), (q 3, .inr (0, [.ref (q 4), .int (iI (k 0 9)), .int (iI (k 0 6)), .int (iI (k 0 4)), .int (iI (k 0 5)), .long (lI (k 0 7)), .long (lI (k 0 8))])), (q 4, aI g 48 (k 2)), (q 5, aI g 4 (k 3)), (q 6, aI g 4 (k 4)), (q 7, aI g 4 (k 5))]) C ck3 0 2 (by decide) qw122 rfl dX3_readWeight_23 rfl rfl rfl rfl (Nat.le_of_ble_eq_true rfl) ?_
    refine J.world (ws1 := [(t, .inr (3, [.ref u, .int (iI ((n : Int))), .int (iI (((p + 1 : Nat) : Int)))])), (u, aI g 60 tx), (q 0, .inr (2, [.ref (q 1), .ref (q 3), .ref (q 5), .ref (q 6), .ref (q 7), .int (iI (k 0 0))])), (q 1, .inr (1, [.ref (q 2), .int (iI (k 0 2)), .int (iI (k 0 3)), .int (iI (k 0 1))])), (q 2, aI g 10 (k 1)), (q 3, .inr (0, [.ref (q 4), .int (iI (k 0 9)), .int (iI (k 0 6)), .int (iI (k 0 4)), .int (iI (k 0 5)), .long (lI (k 0 7)), .long (lI (k 0 8))])), (q 4, aI g 48 (k 2)), (q 5, aI g 4 (k 3)), (q 6, aI g 4 (k 4)), (q 7, aI g 4 (k 5))]) rfl ?_
    refine j_aload_n C 0 dX3_readWeight_26 rfl rfl ?_
    refine j_get C ck3 0 2 (by decide) qw122 rfl rfl dX3_readWeight_27 ?_
    refine j_istore_n (L1 := [(3, .int (iI (((p + 1 : Nat) : Int)))), (0, .ref t), (1, .ref (q 0)), (2, .int (iI b))]) C dX3_readWeight_30 rfl (by decide) rfl ?_
    refine j_iconst C dX3_readWeight_31 ?_
    refine j_istore (L1 := [(4, .int (iI 0)), (3, .int (iI (((p + 1 : Nat) : Int)))), (0, .ref t), (1, .ref (q 0)), (2, .int (iI b))]) C dX3_readWeight_32 (by decide) rfl ?_
    refine j_iconst C dX3_readWeight_34 ?_
    refine j_istore (L1 := [(5, .int (iI 0)), (4, .int (iI 0)), (3, .int (iI (((p + 1 : Nat) : Int)))), (0, .ref t), (1, .ref (q 0)), (2, .int (iI b))]) C dX3_readWeight_35 (by decide) rfl ?_
    refine J.sub (L1 := [(0, .ref t), (1, .ref (q 0)), (2, .int (iI b)), (3, .int (iI (((p + 1 : Nat) : Int)))), (4, .int (iI 0)), (5, .int (iI 0))]) [3, 4, 5, 2, 1, 0] rfl ?_
    refine lp_readWeight (s0 := p + 1) C hn htx (by omega) ?_ 5 0 (by omega) (by omega) (by rw [Nat.zero_add])
    have hv9 := dv_wm (tx := tx) (n := n) (p := p)
    have hm8 := wm_le (tx := tx) (n := n) (p := p) (by omega)
    refine J.to (L1 := [(0, .ref t), (1, .ref (q 0)), (2, .int (iI b)), (3, .int (iI (((p + 1 : Nat) : Int)))), (4, .int (iI (dv tx (p + 1) (wm tx n p))))]) (S1 := []) (ws1 := [(t, .inr (3, [.ref u, .int (iI ((n : Int))), .int (iI (((p + 1 + wm tx n p : Nat) : Int)))])), (u, aI g 60 tx), (q 0, .inr (2, [.ref (q 1), .ref (q 3), .ref (q 5), .ref (q 6), .ref (q 7), .int (iI (k 0 0))])), (q 1, .inr (1, [.ref (q 2), .int (iI (k 0 2)), .int (iI (k 0 3)), .int (iI (k 0 1))])), (q 2, aI g 10 (k 1)), (q 3, .inr (0, [.ref (q 4), .int (iI (k 0 9)), .int (iI (k 0 6)), .int (iI (k 0 4)), .int (iI (k 0 5)), .long (lI (k 0 7)), .long (lI (k 0 8))])), (q 4, aI g 48 (k 2)), (q 5, aI g 4 (k 3)), (q 6, aI g 4 (k 4)), (q 7, aI g 4 (k 5))]) rfl rfl rfl ?_
    refine j_aload_n C 0 dX3_readWeight_72 rfl rfl ?_
    refine j_get C ck3 0 2 (by decide) qw122 rfl rfl dX3_readWeight_73 ?_
    refine j_iload_n C 3 dX3_readWeight_76 rfl rfl ?_
    refine j_icmp_eq (tgt := 91) C (by omega) (by omega) dX3_readWeight_77 (by decide) (fun c77 => ?_) (fun c77 => ?_)
    · refine j_aload_n C 0 dX3_readWeight_91 rfl rfl ?_
      refine j_get C ck3 0 2 (by decide) qw122 rfl rfl dX3_readWeight_92 ?_
      exact j_iret C hr hlk dX3_readWeight_95 ⟨by rw [wFl, if_neg (Decidable.not_not.mpr hd), if_pos (Or.inl (by omega))], _, by omega, rfl⟩ (by decide) (by decide)
    · refine j_aload_n C 0 dX3_readWeight_80 rfl rfl ?_
      refine j_bipush C dX3_readWeight_81 (by decide) ?_
      refine j_bipush C dX3_readWeight_83 (by decide) ?_
      by_cases hd2 : dg tx n 48 57 (p + 1 + wm tx n p)
      · refine j_callV (As := [.int (iI 48), .int (iI 57)]) (rest := []) C yv_X3_nextIsFrom qw664 (c_X3_nextIsFrom_t l g t u tx n (p + 1 + wm tx n p) 48 57 hn htx (by decide) (by decide) hd2) (by decide) 0 rfl rfl rfl dX3_readWeight_85 rfl (Nat.le_of_ble_eq_true rfl) (by decide) (pf1 [] [(q 0, .inr (2, [.ref (q 1), .ref (q 3), .ref (q 5), .ref (q 6), .ref (q 7), .int (iI (k 0 0))])), (q 1, .inr (1, [.ref (q 2), .int (iI (k 0 2)), .int (iI (k 0 3)), .int (iI (k 0 1))])), (q 2, aI g 10 (k 1)), (q 3, .inr (0, [.ref (q 4), .int (iI (k 0 9)), .int (iI (k 0 6)), .int (iI (k 0 4)), .int (iI (k 0 5)), .long (lI (k 0 7)), .long (lI (k 0 8))])), (q 4, aI g 48 (k 2)), (q 5, aI g 4 (k 3)), (q 6, aI g 4 (k 4)), (q 7, aI g 4 (k 5))]) rfl (fun r9 w9 hq9 => ?_)
        obtain ⟨rfl, rfl⟩ := hq9
        refine J.to (L1 := [(0, .ref t), (1, .ref (q 0)), (2, .int (iI b)), (3, .int (iI (((p + 1 : Nat) : Int)))), (4, .int (iI (dv tx (p + 1) (wm tx n p))))]) (S1 := [.int (iI 1)]) (ws1 := [(t, .inr (3, [.ref u, .int (iI ((n : Int))), .int (iI (((p + 1 + wm tx n p : Nat) : Int)))])), (u, aI g 60 tx), (q 0, .inr (2, [.ref (q 1), .ref (q 3), .ref (q 5), .ref (q 6), .ref (q 7), .int (iI (k 0 0))])), (q 1, .inr (1, [.ref (q 2), .int (iI (k 0 2)), .int (iI (k 0 3)), .int (iI (k 0 1))])), (q 2, aI g 10 (k 1)), (q 3, .inr (0, [.ref (q 4), .int (iI (k 0 9)), .int (iI (k 0 6)), .int (iI (k 0 4)), .int (iI (k 0 5)), .long (lI (k 0 7)), .long (lI (k 0 8))])), (q 4, aI g 48 (k 2)), (q 5, aI g 4 (k 3)), (q 6, aI g 4 (k 4)), (q 7, aI g 4 (k 5))]) rfl rfl rfl ?_
        refine j_if_eq (tgt := 96) C (by decide) dX3_readWeight_88 (by decide) (fun c88 => absurd c88 (by decide)) (fun c88 => ?_)
        refine j_aload_n C 0 dX3_readWeight_91 rfl rfl ?_
        refine j_get C ck3 0 2 (by decide) qw122 rfl rfl dX3_readWeight_92 ?_
        exact j_iret C hr hlk dX3_readWeight_95 ⟨by rw [wFl, if_neg (Decidable.not_not.mpr hd), if_pos (Or.inr hd2)], _, by omega, rfl⟩ (by decide) (by decide)
      · refine j_callV (As := [.int (iI 48), .int (iI 57)]) (rest := []) C yv_X3_nextIsFrom qw664 (c_X3_nextIsFrom_f l g t u tx n (p + 1 + wm tx n p) 48 57 hn htx (by decide) (by decide) (by omega) hd2) (by decide) 0 rfl rfl rfl dX3_readWeight_85 rfl (Nat.le_of_ble_eq_true rfl) (by decide) (pf1 [] [(q 0, .inr (2, [.ref (q 1), .ref (q 3), .ref (q 5), .ref (q 6), .ref (q 7), .int (iI (k 0 0))])), (q 1, .inr (1, [.ref (q 2), .int (iI (k 0 2)), .int (iI (k 0 3)), .int (iI (k 0 1))])), (q 2, aI g 10 (k 1)), (q 3, .inr (0, [.ref (q 4), .int (iI (k 0 9)), .int (iI (k 0 6)), .int (iI (k 0 4)), .int (iI (k 0 5)), .long (lI (k 0 7)), .long (lI (k 0 8))])), (q 4, aI g 48 (k 2)), (q 5, aI g 4 (k 3)), (q 6, aI g 4 (k 4)), (q 7, aI g 4 (k 5))]) rfl (fun r9 w9 hq9 => ?_)
        obtain ⟨rfl, rfl⟩ := hq9
        refine J.to (L1 := [(0, .ref t), (1, .ref (q 0)), (2, .int (iI b)), (3, .int (iI (((p + 1 : Nat) : Int)))), (4, .int (iI (dv tx (p + 1) (wm tx n p))))]) (S1 := [.int (iI 0)]) (ws1 := [(t, .inr (3, [.ref u, .int (iI ((n : Int))), .int (iI (((p + 1 + wm tx n p : Nat) : Int)))])), (u, aI g 60 tx), (q 0, .inr (2, [.ref (q 1), .ref (q 3), .ref (q 5), .ref (q 6), .ref (q 7), .int (iI (k 0 0))])), (q 1, .inr (1, [.ref (q 2), .int (iI (k 0 2)), .int (iI (k 0 3)), .int (iI (k 0 1))])), (q 2, aI g 10 (k 1)), (q 3, .inr (0, [.ref (q 4), .int (iI (k 0 9)), .int (iI (k 0 6)), .int (iI (k 0 4)), .int (iI (k 0 5)), .long (lI (k 0 7)), .long (lI (k 0 8))])), (q 4, aI g 48 (k 2)), (q 5, aI g 4 (k 3)), (q 6, aI g 4 (k 4)), (q 7, aI g 4 (k 5))]) rfl rfl rfl ?_
        refine j_if_eq (tgt := 96) C (by decide) dX3_readWeight_88 (by decide) (fun c88 => ?_) (fun c88 => absurd c88 (by decide))
        refine j_iload C 4 dX3_readWeight_96 rfl ?_
        refine j_ldc (x := 50000) C qw678 (by decide) dX3_readWeight_98 ?_
        refine j_icmp_le (tgt := 105) C (by omega) (by decide) dX3_readWeight_100 (by decide) (fun c100 => ?_) (fun c100 => ?_)
        · exact absurd ⟨hd, by omega, hd2, by omega⟩ hbad
        · refine j_iload_n C 3 dX3_readWeight_103 rfl rfl ?_
          exact j_iret C hr hlk dX3_readWeight_104 ⟨by rw [wFl, if_neg (Decidable.not_not.mpr hd), if_neg (fun h9 => h9.elim (fun h8 => absurd h8 (by omega)) hd2)], _, by omega, rfl⟩ (by decide) (by decide)
  · refine j_callV (As := [.int (iI 44), .int (iI 44)]) (rest := []) C yv_X3_nextIsFrom qw664 (c_X3_nextIsFrom_f l g t u tx n p 44 44 hn htx (by decide) (by decide) (by omega) hd) (by decide) 0 rfl rfl rfl dX3_readWeight_5 rfl (Nat.le_of_ble_eq_true rfl) (by decide) (pf1 [] [(q 0, .inr (2, [.ref (q 1), .ref (q 3), .ref (q 5), .ref (q 6), .ref (q 7), .int (iI (k 0 0))])), (q 1, .inr (1, [.ref (q 2), .int (iI (k 0 2)), .int (iI (k 0 3)), .int (iI (k 0 1))])), (q 2, aI g 10 (k 1)), (q 3, .inr (0, [.ref (q 4), .int (iI (k 0 9)), .int (iI (k 0 6)), .int (iI (k 0 4)), .int (iI (k 0 5)), .long (lI (k 0 7)), .long (lI (k 0 8))])), (q 4, aI g 48 (k 2)), (q 5, aI g 4 (k 3)), (q 6, aI g 4 (k 4)), (q 7, aI g 4 (k 5))]) rfl (fun r9 w9 hq9 => ?_)
    obtain ⟨rfl, rfl⟩ := hq9
    refine J.to (L1 := [(0, .ref t), (1, .ref (q 0)), (2, .int (iI b))]) (S1 := [.int (iI 0)]) (ws1 := [(t, .inr (3, [.ref u, .int (iI ((n : Int))), .int (iI ((p : Int)))])), (u, aI g 60 tx), (q 0, .inr (2, [.ref (q 1), .ref (q 3), .ref (q 5), .ref (q 6), .ref (q 7), .int (iI (k 0 0))])), (q 1, .inr (1, [.ref (q 2), .int (iI (k 0 2)), .int (iI (k 0 3)), .int (iI (k 0 1))])), (q 2, aI g 10 (k 1)), (q 3, .inr (0, [.ref (q 4), .int (iI (k 0 9)), .int (iI (k 0 6)), .int (iI (k 0 4)), .int (iI (k 0 5)), .long (lI (k 0 7)), .long (lI (k 0 8))])), (q 4, aI g 48 (k 2)), (q 5, aI g 4 (k 3)), (q 6, aI g 4 (k 4)), (q 7, aI g 4 (k 5))]) rfl rfl rfl ?_
    refine j_if_ne (tgt := 16) C (by decide) dX3_readWeight_8 (by decide) (fun c8 => absurd c8 (by decide)) (fun c8 => ?_)
    refine j_aload_n C 0 dX3_readWeight_11 rfl rfl ?_
    refine j_get C ck3 0 2 (by decide) qw122 rfl rfl dX3_readWeight_12 ?_
    exact j_iret C hr hlk dX3_readWeight_15 ⟨by rw [wFl, if_pos hd], _, hp, rfl⟩ (by decide) (by decide)

