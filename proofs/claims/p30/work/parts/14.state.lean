/-! RopeTackle.State -/
abbrev wSt (g : Gh) (q : Nat → Nat) (k : Nat → Nat → Int) : va_W := [(q 0, .inr (2, [.ref (q 1), .ref (q 3), .ref (q 5), .ref (q 6), .ref (q 7), .int (iI (k 0 0))])), (q 1, .inr (1, [.ref (q 2), .int (iI (k 0 2)), .int (iI (k 0 3)), .int (iI (k 0 1))])), (q 2, aI g 10 (k 1)), (q 3, .inr (0, [.ref (q 4), .int (iI (k 0 9)), .int (iI (k 0 6)), .int (iI (k 0 4)), .int (iI (k 0 5)), .long (lI (k 0 7)), .long (lI (k 0 8))])), (q 4, aI g 48 (k 2)), (q 5, aI g 4 (k 3)), (q 6, aI g 4 (k 4)), (q 7, aI g 4 (k 5))]
/-- a state's numbers are in their ranges -/
def SOK (k : Nat → Nat → Int) : Prop := (0 ≤ k 0 2 ∧ k 0 2 ≤ 10) ∧ (0 ≤ k 0 3 ∧ k 0 3 ≤ 4) ∧ (0 ≤ k 0 1 ∧ k 0 1 ≤ 30) ∧ (∀ i : Nat, (i : Int) < k 0 2 → 0 ≤ k 1 i ∧ k 1 i ≤ 3) ∧ (∀ b : Nat, b < 4 → 0 ≤ k 3 b ∧ k 3 b ≤ 50000) ∧ (∀ b : Nat, b < 4 → 0 ≤ k 4 b ∧ k 4 b ≤ 9000) ∧ (1000 ≤ k 0 0 ∧ k 0 0 ≤ 300000) ∧ (0 ≤ k 0 9 ∧ k 0 9 ≤ 15) ∧ (0 ≤ k 0 6 ∧ k 0 6 ≤ 16)
/-- copying a state -/
def cpS (k2 k : Nat → Nat → Int) : Nat → Nat → Int := fun i => if i = 0 then k2 0 else if i = 1 then cpy 10 (k2 1) (k 1) else if i = 2 then cpy 48 (k2 2) (k 2) else if i = 3 then cpy 4 (k2 3) (k 3) else if i = 4 then cpy 4 (k2 4) (k 4) else k i
/-- the rope in the strands of the first blocks -/
def hng (f : Nat → Int) (n : Nat) (E : Int) (ht : Nat → Int) : Nat → Int
  | 0 => 0
  | b + 1 => hng f n E ht b + strn f n E (b : Int) * (10000 - ht b)
/-- what the hand has -/
def hnd (k : Nat → Nat → Int) : Int := k 0 0 - hng (k 1) (k 0 2).toNat (k 0 3) (k 4) 4
/-- the least forces -/
noncomputable def frc (k : Nat → Nat → Int) (h : Bool) : Nat → Int := fun b => lea (k 1) (k 0 1) h (k 0 2).toNat (k 0 3) (b : Int) (k 3 b)
/-- who rises, who sinks next, of the first blocks -/
def nxr (fc ht : Nat → Int) (hand : Int) : Nat → Int
  | 0 => -1
  | b + 1 => if (fc b ≠ -1 ∧ fc b ≤ hand ∧ ht b < 9000) ∧ (nxr fc ht hand b = -1 ∨ fc b < fc (nxr fc ht hand b).toNat) then (b : Int) else nxr fc ht hand b
def nxs (fc ht : Nat → Int) (hand : Int) : Nat → Int
  | 0 => -1
  | b + 1 => if (if nxs fc ht hand b = -1 then hand else fc (nxs fc ht hand b).toNat) < fc b ∧ 0 < ht b then (b : Int) else nxs fc ht hand b
theorem nxr_rng (fc ht : Nat → Int) (hand : Int) (n : Nat) : -1 ≤ nxr fc ht hand n ∧ nxr fc ht hand n < n := by
  induction n with
  | zero => exact ⟨Int.le_refl _, by show (-1 : Int) < 0; decide⟩
  | succ n ih =>
    simp only [nxr]
    split <;> omega
theorem nxs_rng (fc ht : Nat → Int) (hand : Int) (n : Nat) : -1 ≤ nxs fc ht hand n ∧ nxs fc ht hand n < n := by
  induction n with
  | zero => exact ⟨Int.le_refl _, by show (-1 : Int) < 0; decide⟩
  | succ n ih =>
    simp only [nxs]
    split <;> omega
def mst (k : Nat → Nat → Int) (b : Int) : Int := strn (k 1) (k 0 2).toNat (k 0 3) b
/-- how far a block goes with so much rope -/
def mwy (k : Nat → Nat → Int) (b left : Int) (up : Bool) : Int := if (0 ≤ b ∧ b < 4) ∧ 0 < mst k b then (if (if up then 9000 - k 4 b.toNat else k 4 b.toNat) < left / mst k b then (if up then 9000 - k 4 b.toNat else k 4 b.toNat) else left / mst k b) else 0
/-- a state behind one move -/
def mvk (up : Bool) (k : Nat → Nat → Int) (b way : Int) : Nat → Nat → Int :=
  va_up (va_up (va_up k 4 (va_up (k 4) b.toNat (k 4 b.toNat + (if up then way else -way)))) 2 (va_up (va_up (va_up (k 2) ((k 0 9 + 1) % 16 * 3).toNat b) ((k 0 9 + 1) % 16 * 3 + 1).toNat (if up then way else -way)) ((k 0 9 + 1) % 16 * 3 + 2).toNat ((if up then way else -way) * mst k b))) 0
    (fun j => if j = 9 then (k 0 9 + 1) % 16 else if j = 6 then (if 16 < k 0 6 + 1 then 16 else k 0 6 + 1) else if j = 4 then (if up then k 0 4 + 1 else k 0 4) else if j = 5 then (if up then k 0 5 else k 0 5 + 1) else if j = 8 then (if up then k 0 8 + k 3 b.toNat * way else k 0 8) else k 0 j)
def mnx (up : Bool) (hand : Int) (k : Nat → Nat → Int) : Int := if up then nxr (k 5) (k 4) hand 4 else nxs (k 5) (k 4) hand 4
/-- at most n moves -/
def mvs (up : Bool) (hand : Int) : Nat → (Nat → Nat → Int) → Int → (Nat → Nat → Int) × Int
  | 0, k, left => (k, left)
  | n + 1, k, left => if mwy k (mnx up hand k) left up ≤ 0 then (k, left) else mvs up hand n (mvk up k (mnx up hand k) (mwy k (mnx up hand k) left up)) (left - mwy k (mnx up hand k) left up * mst k (mnx up hand k))
theorem c_X2_weightOf (l : Launch) (g : Gh) (q : Nat → Nat) (k : Nat → Nat → Int) (b : Int) (hk : SOK k) (hb3 : 0 ≤ b ∧ b ≤ 3) : CT l g yX2_weightOf cX2_weightOf 2 (some FieldType.int) ({ frames := 1, cells := 0, slots := 0, locals := 21 }) [.ref (q 0), .int (iI b)] [(q 0, .inr (2, [.ref (q 1), .ref (q 3), .ref (q 5), .ref (q 6), .ref (q 7), .int (iI (k 0 0))])), (q 1, .inr (1, [.ref (q 2), .int (iI (k 0 2)), .int (iI (k 0 3)), .int (iI (k 0 1))])), (q 2, aI g 10 (k 1)), (q 3, .inr (0, [.ref (q 4), .int (iI (k 0 9)), .int (iI (k 0 6)), .int (iI (k 0 4)), .int (iI (k 0 5)), .long (lI (k 0 7)), .long (lI (k 0 8))])), (q 4, aI g 48 (k 2)), (q 5, aI g 4 (k 3)), (q 6, aI g 4 (k 4)), (q 7, aI g 4 (k 5))] (PE (some (.int (iI (k 3 b.toNat)))) (wSt g q k)) := by
  refine CT.intro (L0 := [(0, .ref (q 0)), (1, .int (iI b))]) (own := RX2) (by decide) rfl (Nat.le_of_ble_eq_true rfl) rfl ?_
  intro pX eX sX mX argsX belowX methX cX A C hr hlk
  obtain ⟨hP, hE0, hF, hrow0, hwt, hht, hlen, hlat, hkept⟩ := id hk
  have hE : -10 ≤ k 0 3 ∧ k 0 3 ≤ 10 := by omega
  have hrow : ∀ i : Nat, (i : Int) < k 0 2 → 0 ≤ k 1 i ∧ k 1 i ≤ 4 := fun i hi => by have := hrow0 i hi; omega
  refine j_aload_n C 0 dX2_weightOf_0 rfl rfl ?_
  refine j_get C ck2 0 2 (by decide) qw93 rfl rfl dX2_weightOf_1 ?_
  refine j_iload_n C 1 dX2_weightOf_4 rfl rfl ?_
  refine j_callSN (As := [.ref (q 5), .int (iI b)]) (rest := []) C ys_X4_at qn295 (c_X4_at l g (q 5) 4 (k 3) b b.toNat (by omega) (by omega) (by decide)) (by decide) rfl dX2_weightOf_5 rfl (Nat.le_of_ble_eq_true rfl) (by decide) (pf1 [(q 0, .inr (2, [.ref (q 1), .ref (q 3), .ref (q 5), .ref (q 6), .ref (q 7), .int (iI (k 0 0))])), (q 1, .inr (1, [.ref (q 2), .int (iI (k 0 2)), .int (iI (k 0 3)), .int (iI (k 0 1))])), (q 2, aI g 10 (k 1)), (q 3, .inr (0, [.ref (q 4), .int (iI (k 0 9)), .int (iI (k 0 6)), .int (iI (k 0 4)), .int (iI (k 0 5)), .long (lI (k 0 7)), .long (lI (k 0 8))])), (q 4, aI g 48 (k 2))] [(q 6, aI g 4 (k 4)), (q 7, aI g 4 (k 5))]) rfl (fun r9 w9 hq9 => ?_)
  obtain ⟨rfl, rfl⟩ := hq9
  refine J.to (L1 := [(0, .ref (q 0)), (1, .int (iI b))]) (S1 := [.int (iI ((k 3) b.toNat))]) (ws1 := [(q 0, .inr (2, [.ref (q 1), .ref (q 3), .ref (q 5), .ref (q 6), .ref (q 7), .int (iI (k 0 0))])), (q 1, .inr (1, [.ref (q 2), .int (iI (k 0 2)), .int (iI (k 0 3)), .int (iI (k 0 1))])), (q 2, aI g 10 (k 1)), (q 3, .inr (0, [.ref (q 4), .int (iI (k 0 9)), .int (iI (k 0 6)), .int (iI (k 0 4)), .int (iI (k 0 5)), .long (lI (k 0 7)), .long (lI (k 0 8))])), (q 4, aI g 48 (k 2)), (q 5, aI g 4 (k 3)), (q 6, aI g 4 (k 4)), (q 7, aI g 4 (k 5))]) rfl rfl rfl ?_
  exact j_iret C hr hlk dX2_weightOf_8 ⟨rfl, rfl⟩ (by decide) (by decide)

theorem c_X2_heightOf (l : Launch) (g : Gh) (q : Nat → Nat) (k : Nat → Nat → Int) (b : Int) (hk : SOK k) (hb3 : 0 ≤ b ∧ b ≤ 3) : CT l g yX2_heightOf cX2_heightOf 2 (some FieldType.int) ({ frames := 1, cells := 0, slots := 0, locals := 21 }) [.ref (q 0), .int (iI b)] [(q 0, .inr (2, [.ref (q 1), .ref (q 3), .ref (q 5), .ref (q 6), .ref (q 7), .int (iI (k 0 0))])), (q 1, .inr (1, [.ref (q 2), .int (iI (k 0 2)), .int (iI (k 0 3)), .int (iI (k 0 1))])), (q 2, aI g 10 (k 1)), (q 3, .inr (0, [.ref (q 4), .int (iI (k 0 9)), .int (iI (k 0 6)), .int (iI (k 0 4)), .int (iI (k 0 5)), .long (lI (k 0 7)), .long (lI (k 0 8))])), (q 4, aI g 48 (k 2)), (q 5, aI g 4 (k 3)), (q 6, aI g 4 (k 4)), (q 7, aI g 4 (k 5))] (PE (some (.int (iI (k 4 b.toNat)))) (wSt g q k)) := by
  refine CT.intro (L0 := [(0, .ref (q 0)), (1, .int (iI b))]) (own := RX2) (by decide) rfl (Nat.le_of_ble_eq_true rfl) rfl ?_
  intro pX eX sX mX argsX belowX methX cX A C hr hlk
  obtain ⟨hP, hE0, hF, hrow0, hwt, hht, hlen, hlat, hkept⟩ := id hk
  have hE : -10 ≤ k 0 3 ∧ k 0 3 ≤ 10 := by omega
  have hrow : ∀ i : Nat, (i : Int) < k 0 2 → 0 ≤ k 1 i ∧ k 1 i ≤ 4 := fun i hi => by have := hrow0 i hi; omega
  refine j_aload_n C 0 dX2_heightOf_0 rfl rfl ?_
  refine j_get C ck2 0 3 (by decide) qw94 rfl rfl dX2_heightOf_1 ?_
  refine j_iload_n C 1 dX2_heightOf_4 rfl rfl ?_
  refine j_callSN (As := [.ref (q 6), .int (iI b)]) (rest := []) C ys_X4_at qn295 (c_X4_at l g (q 6) 4 (k 4) b b.toNat (by omega) (by omega) (by decide)) (by decide) rfl dX2_heightOf_5 rfl (Nat.le_of_ble_eq_true rfl) (by decide) (pf1 [(q 0, .inr (2, [.ref (q 1), .ref (q 3), .ref (q 5), .ref (q 6), .ref (q 7), .int (iI (k 0 0))])), (q 1, .inr (1, [.ref (q 2), .int (iI (k 0 2)), .int (iI (k 0 3)), .int (iI (k 0 1))])), (q 2, aI g 10 (k 1)), (q 3, .inr (0, [.ref (q 4), .int (iI (k 0 9)), .int (iI (k 0 6)), .int (iI (k 0 4)), .int (iI (k 0 5)), .long (lI (k 0 7)), .long (lI (k 0 8))])), (q 4, aI g 48 (k 2)), (q 5, aI g 4 (k 3))] [(q 7, aI g 4 (k 5))]) rfl (fun r9 w9 hq9 => ?_)
  obtain ⟨rfl, rfl⟩ := hq9
  refine J.to (L1 := [(0, .ref (q 0)), (1, .int (iI b))]) (S1 := [.int (iI ((k 4) b.toNat))]) (ws1 := [(q 0, .inr (2, [.ref (q 1), .ref (q 3), .ref (q 5), .ref (q 6), .ref (q 7), .int (iI (k 0 0))])), (q 1, .inr (1, [.ref (q 2), .int (iI (k 0 2)), .int (iI (k 0 3)), .int (iI (k 0 1))])), (q 2, aI g 10 (k 1)), (q 3, .inr (0, [.ref (q 4), .int (iI (k 0 9)), .int (iI (k 0 6)), .int (iI (k 0 4)), .int (iI (k 0 5)), .long (lI (k 0 7)), .long (lI (k 0 8))])), (q 4, aI g 48 (k 2)), (q 5, aI g 4 (k 3)), (q 6, aI g 4 (k 4)), (q 7, aI g 4 (k 5))]) rfl rfl rfl ?_
  exact j_iret C hr hlk dX2_heightOf_8 ⟨rfl, rfl⟩ (by decide) (by decide)

theorem c_X2_giveWeight (l : Launch) (g : Gh) (q : Nat → Nat) (k : Nat → Nat → Int) (b w : Int) (hk : SOK k) (hb3 : 0 ≤ b ∧ b ≤ 3) : CT l g yX2_giveWeight cX2_giveWeight 3 none ({ frames := 1, cells := 0, slots := 0, locals := 22 }) [.ref (q 0), .int (iI b), .int (iI w)] [(q 0, .inr (2, [.ref (q 1), .ref (q 3), .ref (q 5), .ref (q 6), .ref (q 7), .int (iI (k 0 0))])), (q 1, .inr (1, [.ref (q 2), .int (iI (k 0 2)), .int (iI (k 0 3)), .int (iI (k 0 1))])), (q 2, aI g 10 (k 1)), (q 3, .inr (0, [.ref (q 4), .int (iI (k 0 9)), .int (iI (k 0 6)), .int (iI (k 0 4)), .int (iI (k 0 5)), .long (lI (k 0 7)), .long (lI (k 0 8))])), (q 4, aI g 48 (k 2)), (q 5, aI g 4 (k 3)), (q 6, aI g 4 (k 4)), (q 7, aI g 4 (k 5))] (PE none (wSt g q (va_up k 3 (va_up (k 3) b.toNat w)))) := by
  refine CT.intro (L0 := [(0, .ref (q 0)), (1, .int (iI b)), (2, .int (iI w))]) (own := RX2) (by decide) rfl (Nat.le_of_ble_eq_true rfl) rfl ?_
  intro pX eX sX mX argsX belowX methX cX A C hr hlk
  obtain ⟨hP, hE0, hF, hrow0, hwt, hht, hlen, hlat, hkept⟩ := id hk
  have hE : -10 ≤ k 0 3 ∧ k 0 3 ≤ 10 := by omega
  have hrow : ∀ i : Nat, (i : Int) < k 0 2 → 0 ≤ k 1 i ∧ k 1 i ≤ 4 := fun i hi => by have := hrow0 i hi; omega
  refine j_aload_n C 0 dX2_giveWeight_0 rfl rfl ?_
  refine j_get C ck2 0 2 (by decide) qw93 rfl rfl dX2_giveWeight_1 ?_
  refine j_iload_n C 1 dX2_giveWeight_4 rfl rfl ?_
  refine j_iload_n C 2 dX2_giveWeight_5 rfl rfl ?_
  refine j_callSN (As := [.ref (q 5), .int (iI b), .int (iI w)]) (rest := []) C ys_X4_put qn302 (c_X4_put l g (q 5) 4 (k 3) b b.toNat w (by omega) (by omega) (by decide)) (by decide) rfl dX2_giveWeight_6 rfl (Nat.le_of_ble_eq_true rfl) (by decide) (pf1 [(q 0, .inr (2, [.ref (q 1), .ref (q 3), .ref (q 5), .ref (q 6), .ref (q 7), .int (iI (k 0 0))])), (q 1, .inr (1, [.ref (q 2), .int (iI (k 0 2)), .int (iI (k 0 3)), .int (iI (k 0 1))])), (q 2, aI g 10 (k 1)), (q 3, .inr (0, [.ref (q 4), .int (iI (k 0 9)), .int (iI (k 0 6)), .int (iI (k 0 4)), .int (iI (k 0 5)), .long (lI (k 0 7)), .long (lI (k 0 8))])), (q 4, aI g 48 (k 2))] [(q 6, aI g 4 (k 4)), (q 7, aI g 4 (k 5))]) rfl (fun r9 w9 hq9 => ?_)
  obtain ⟨rfl, rfl⟩ := hq9
  refine J.to (L1 := [(0, .ref (q 0)), (1, .int (iI b)), (2, .int (iI w))]) (S1 := []) (ws1 := [(q 0, .inr (2, [.ref (q 1), .ref (q 3), .ref (q 5), .ref (q 6), .ref (q 7), .int (iI (k 0 0))])), (q 1, .inr (1, [.ref (q 2), .int (iI (k 0 2)), .int (iI (k 0 3)), .int (iI (k 0 1))])), (q 2, aI g 10 (k 1)), (q 3, .inr (0, [.ref (q 4), .int (iI (k 0 9)), .int (iI (k 0 6)), .int (iI (k 0 4)), .int (iI (k 0 5)), .long (lI (k 0 7)), .long (lI (k 0 8))])), (q 4, aI g 48 (k 2)), (q 5, aI g 4 (va_up (k 3) b.toNat w)), (q 6, aI g 4 (k 4)), (q 7, aI g 4 (k 5))]) rfl rfl rfl ?_
  exact j_vret C hr hlk dX2_giveWeight_9 ⟨rfl, rfl⟩ (by decide) (by decide)

def lay0 (i : Nat) (f : Nat → Int) : Nat → Int := fun j => if j < i then 0 else f j
theorem lay0_0 (f : Nat → Int) : lay0 0 f = f := by
  funext j
  simp [lay0]
theorem lay0_succ (i : Nat) (f : Nat → Int) : va_up (lay0 i f) i 0 = lay0 (i + 1) f := by
  funext j
  simp only [va_up, lay0]
  by_cases h1 : j = i
  · subst h1; simp
  · rw [if_neg h1]
    by_cases h2 : j < i
    · rw [if_pos h2, if_pos (by omega)]
    · rw [if_neg h2, if_neg (by omega)]
theorem lp_layAllDown {p : Program} {l : Launch} {e : Env} {s : State} {m : MethodId} {args : Array Value} {below : List Frame} {meth : Method} {c : Code} {g : Gh} {A : Nat → Prop} {Q : State → Prop} (C : Cx p g s m args c cX2_layAllDown 2 RX2 A) {q : Nat → Nat} {k : Nat → Nat → Int}  (kk : J p l e ({ frames := 0, cells := 0, slots := 0, locals := 0 } : Room) s m args below meth c g A 2 24 [(0, .ref (q 0)), (1, .int (iI 4))] [] [(q 0, .inr (2, [.ref (q 1), .ref (q 3), .ref (q 5), .ref (q 6), .ref (q 7), .int (iI (k 0 0))])), (q 1, .inr (1, [.ref (q 2), .int (iI (k 0 2)), .int (iI (k 0 3)), .int (iI (k 0 1))])), (q 2, aI g 10 (k 1)), (q 3, .inr (0, [.ref (q 4), .int (iI (k 0 9)), .int (iI (k 0 6)), .int (iI (k 0 4)), .int (iI (k 0 5)), .long (lI (k 0 7)), .long (lI (k 0 8))])), (q 4, aI g 48 (k 2)), (q 5, aI g 4 (k 3)), (q 6, aI g 4 (lay0 4 (k 4))), (q 7, aI g 4 (k 5))] 0 0 Q) : ∀ (n i : Nat), i + n = 4 → J p l e ({ frames := 0, cells := 0, slots := 0, locals := 0 } : Room) s m args below meth c g A 2 2 [(0, .ref (q 0)), (1, .int (iI ((i : Int))))] [] [(q 0, .inr (2, [.ref (q 1), .ref (q 3), .ref (q 5), .ref (q 6), .ref (q 7), .int (iI (k 0 0))])), (q 1, .inr (1, [.ref (q 2), .int (iI (k 0 2)), .int (iI (k 0 3)), .int (iI (k 0 1))])), (q 2, aI g 10 (k 1)), (q 3, .inr (0, [.ref (q 4), .int (iI (k 0 9)), .int (iI (k 0 6)), .int (iI (k 0 4)), .int (iI (k 0 5)), .long (lI (k 0 7)), .long (lI (k 0 8))])), (q 4, aI g 48 (k 2)), (q 5, aI g 4 (k 3)), (q 6, aI g 4 (lay0 i (k 4))), (q 7, aI g 4 (k 5))] 0 0 Q := by
  intro n
  induction n with
  | zero =>
    intro i hi
    have hi9 : i = 4 := by omega
    refine j_iload_n C 1 dX2_layAllDown_2 rfl rfl ?_
    refine j_aload_n C 0 dX2_layAllDown_3 rfl rfl ?_
    refine j_get C ck2 0 3 (by decide) qw94 rfl rfl dX2_layAllDown_4 ?_
    refine j_ilen (n := 4) (f := lay0 i (k 4)) (v := 4) C 6 rfl rfl dX2_layAllDown_7 ?_
    refine j_icmp_ge (tgt := 24) C (by omega) (by decide) dX2_layAllDown_8 (by decide) (fun c8 => ?_) (fun c8 => absurd c8 (by omega))
    refine J.sub (L1 := [(0, .ref (q 0)), (1, .int (iI ((i : Int))))]) [0, 1] rfl ?_
    rw [hi9]
    exact kk
  | succ n ih =>
    intro i hi
    refine j_iload_n C 1 dX2_layAllDown_2 rfl rfl ?_
    refine j_aload_n C 0 dX2_layAllDown_3 rfl rfl ?_
    refine j_get C ck2 0 3 (by decide) qw94 rfl rfl dX2_layAllDown_4 ?_
    refine j_ilen (n := 4) (f := lay0 i (k 4)) (v := 4) C 6 rfl rfl dX2_layAllDown_7 ?_
    refine j_icmp_ge (tgt := 24) C (by omega) (by decide) dX2_layAllDown_8 (by decide) (fun c8 => absurd c8 (by omega)) (fun c8 => ?_)
    refine j_aload_n C 0 dX2_layAllDown_11 rfl rfl ?_
    refine j_get C ck2 0 3 (by decide) qw94 rfl rfl dX2_layAllDown_12 ?_
    refine j_iload_n C 1 dX2_layAllDown_15 rfl rfl ?_
    refine j_iconst C dX2_layAllDown_16 ?_
    refine j_iast (n := 4) (f := lay0 i (k 4)) (ws1 := [(q 0, .inr (2, [.ref (q 1), .ref (q 3), .ref (q 5), .ref (q 6), .ref (q 7), .int (iI (k 0 0))])), (q 1, .inr (1, [.ref (q 2), .int (iI (k 0 2)), .int (iI (k 0 3)), .int (iI (k 0 1))])), (q 2, aI g 10 (k 1)), (q 3, .inr (0, [.ref (q 4), .int (iI (k 0 9)), .int (iI (k 0 6)), .int (iI (k 0 4)), .int (iI (k 0 5)), .long (lI (k 0 7)), .long (lI (k 0 8))])), (q 4, aI g 48 (k 2)), (q 5, aI g 4 (k 3)), (q 6, aI g 4 (va_up (lay0 i (k 4)) i 0)), (q 7, aI g 4 (k 5))]) C 6 i rfl rfl (by omega) (by decide) dX2_layAllDown_17 rfl ?_
    refine j_iinc (L1 := [(1, .int (iI (((i : Int)) + 1))), (0, .ref (q 0))]) C 1 dX2_layAllDown_18 rfl (by decide) rfl ?_
    refine j_goto (tgt := 2) C dX2_layAllDown_21 (by decide) ?_
    refine J.sub (L1 := [(0, .ref (q 0)), (1, .int (iI (((i : Int)) + 1)))]) [1, 0] rfl ?_
    rw [lay0_succ]
    exact ih (i + 1) (by omega)

theorem c_X2_layAllDown (l : Launch) (g : Gh) (q : Nat → Nat) (k : Nat → Nat → Int) (hk : SOK k) : CT l g yX2_layAllDown cX2_layAllDown 2 none ({ frames := 0, cells := 0, slots := 0, locals := 0 }) [.ref (q 0)] [(q 0, .inr (2, [.ref (q 1), .ref (q 3), .ref (q 5), .ref (q 6), .ref (q 7), .int (iI (k 0 0))])), (q 1, .inr (1, [.ref (q 2), .int (iI (k 0 2)), .int (iI (k 0 3)), .int (iI (k 0 1))])), (q 2, aI g 10 (k 1)), (q 3, .inr (0, [.ref (q 4), .int (iI (k 0 9)), .int (iI (k 0 6)), .int (iI (k 0 4)), .int (iI (k 0 5)), .long (lI (k 0 7)), .long (lI (k 0 8))])), (q 4, aI g 48 (k 2)), (q 5, aI g 4 (k 3)), (q 6, aI g 4 (k 4)), (q 7, aI g 4 (k 5))] (PE none (wSt g q (va_up k 4 (lay0 4 (k 4))))) := by
  refine CT.intro (L0 := [(0, .ref (q 0))]) (own := RX2) (by decide) rfl (Nat.le_of_ble_eq_true rfl) rfl ?_
  intro pX eX sX mX argsX belowX methX cX A C hr hlk
  obtain ⟨hP, hE0, hF, hrow0, hwt, hht, hlen, hlat, hkept⟩ := id hk
  have hE : -10 ≤ k 0 3 ∧ k 0 3 ≤ 10 := by omega
  have hrow : ∀ i : Nat, (i : Int) < k 0 2 → 0 ≤ k 1 i ∧ k 1 i ≤ 4 := fun i hi => by have := hrow0 i hi; omega
  refine j_iconst C dX2_layAllDown_0 ?_
  refine j_istore_n (L1 := [(1, .int (iI 0)), (0, .ref (q 0))]) C dX2_layAllDown_1 rfl (by decide) rfl ?_
  refine J.sub (L1 := [(0, .ref (q 0)), (1, .int (iI 0))]) [1, 0] rfl ?_
  rw [← lay0_0 (k 4)]
  refine lp_layAllDown C ?_ 4 0 (by omega)
  exact j_vret C hr hlk dX2_layAllDown_24 ⟨rfl, rfl⟩ (by decide) (by decide)

theorem c_X2_copyFrom (l : Launch) (g : Gh) (q : Nat → Nat) (k : Nat → Nat → Int) (q2 : Nat → Nat) (k2 : Nat → Nat → Int)  : CT l g yX2_copyFrom cX2_copyFrom 2 none ({ frames := 2, cells := 0, slots := 0, locals := 43 }) [.ref (q 0), .ref (q2 0)] [(q 0, .inr (2, [.ref (q 1), .ref (q 3), .ref (q 5), .ref (q 6), .ref (q 7), .int (iI (k 0 0))])), (q 1, .inr (1, [.ref (q 2), .int (iI (k 0 2)), .int (iI (k 0 3)), .int (iI (k 0 1))])), (q 2, aI g 10 (k 1)), (q 3, .inr (0, [.ref (q 4), .int (iI (k 0 9)), .int (iI (k 0 6)), .int (iI (k 0 4)), .int (iI (k 0 5)), .long (lI (k 0 7)), .long (lI (k 0 8))])), (q 4, aI g 48 (k 2)), (q 5, aI g 4 (k 3)), (q 6, aI g 4 (k 4)), (q 7, aI g 4 (k 5)), (q2 0, .inr (2, [.ref (q2 1), .ref (q2 3), .ref (q2 5), .ref (q2 6), .ref (q2 7), .int (iI (k2 0 0))])), (q2 1, .inr (1, [.ref (q2 2), .int (iI (k2 0 2)), .int (iI (k2 0 3)), .int (iI (k2 0 1))])), (q2 2, aI g 10 (k2 1)), (q2 3, .inr (0, [.ref (q2 4), .int (iI (k2 0 9)), .int (iI (k2 0 6)), .int (iI (k2 0 4)), .int (iI (k2 0 5)), .long (lI (k2 0 7)), .long (lI (k2 0 8))])), (q2 4, aI g 48 (k2 2)), (q2 5, aI g 4 (k2 3)), (q2 6, aI g 4 (k2 4)), (q2 7, aI g 4 (k2 5))] (PE none (wSt g q (cpS k2 k) ++ wSt g q2 k2)) := by
  refine CT.intro (L0 := [(0, .ref (q 0)), (1, .ref (q2 0))]) (own := RX2) (by decide) rfl (Nat.le_of_ble_eq_true rfl) rfl ?_
  intro pX eX sX mX argsX belowX methX cX A C hr hlk
  refine j_aload_n C 0 dX2_copyFrom_0 rfl rfl ?_
  refine j_get C ck2 0 0 (by decide) qw88 rfl rfl dX2_copyFrom_1 ?_
  refine j_aload_n C 1 dX2_copyFrom_4 rfl rfl ?_
  refine j_get C ck2 8 0 (by decide) qw88 rfl rfl dX2_copyFrom_5 ?_
  refine j_callV (As := [.ref (q2 1)]) (rest := []) C yv_X1_copyFrom qw272 (c_X1_copyFrom l g (q 1) (q 2) (k 1) (k 0 2) (k 0 3) (k 0 1) (q2 1) (q2 2) (k2 1) (k2 0 2) (k2 0 3) (k2 0 1)) (by decide) 1 rfl rfl rfl dX2_copyFrom_8 rfl (Nat.le_of_ble_eq_true rfl) (by decide) (pf2 [(q 0, .inr (2, [.ref (q 1), .ref (q 3), .ref (q 5), .ref (q 6), .ref (q 7), .int (iI (k 0 0))]))] 2 [(q 3, .inr (0, [.ref (q 4), .int (iI (k 0 9)), .int (iI (k 0 6)), .int (iI (k 0 4)), .int (iI (k 0 5)), .long (lI (k 0 7)), .long (lI (k 0 8))])), (q 4, aI g 48 (k 2)), (q 5, aI g 4 (k 3)), (q 6, aI g 4 (k 4)), (q 7, aI g 4 (k 5)), (q2 0, .inr (2, [.ref (q2 1), .ref (q2 3), .ref (q2 5), .ref (q2 6), .ref (q2 7), .int (iI (k2 0 0))]))] [(q2 3, .inr (0, [.ref (q2 4), .int (iI (k2 0 9)), .int (iI (k2 0 6)), .int (iI (k2 0 4)), .int (iI (k2 0 5)), .long (lI (k2 0 7)), .long (lI (k2 0 8))])), (q2 4, aI g 48 (k2 2)), (q2 5, aI g 4 (k2 3)), (q2 6, aI g 4 (k2 4)), (q2 7, aI g 4 (k2 5))]) rfl (fun r9 w9 hq9 => ?_)
  obtain ⟨rfl, rfl⟩ := hq9
  refine J.to (L1 := [(0, .ref (q 0)), (1, .ref (q2 0))]) (S1 := []) (ws1 := [(q 0, .inr (2, [.ref (q 1), .ref (q 3), .ref (q 5), .ref (q 6), .ref (q 7), .int (iI (k 0 0))])), (q 1, .inr (1, [.ref (q 2), .int (iI (k2 0 2)), .int (iI (k2 0 3)), .int (iI (k2 0 1))])), (q 2, aI g 10 (cpy 10 (k2 1) (k 1))), (q 3, .inr (0, [.ref (q 4), .int (iI (k 0 9)), .int (iI (k 0 6)), .int (iI (k 0 4)), .int (iI (k 0 5)), .long (lI (k 0 7)), .long (lI (k 0 8))])), (q 4, aI g 48 (k 2)), (q 5, aI g 4 (k 3)), (q 6, aI g 4 (k 4)), (q 7, aI g 4 (k 5)), (q2 0, .inr (2, [.ref (q2 1), .ref (q2 3), .ref (q2 5), .ref (q2 6), .ref (q2 7), .int (iI (k2 0 0))])), (q2 1, .inr (1, [.ref (q2 2), .int (iI (k2 0 2)), .int (iI (k2 0 3)), .int (iI (k2 0 1))])), (q2 2, aI g 10 (k2 1)), (q2 3, .inr (0, [.ref (q2 4), .int (iI (k2 0 9)), .int (iI (k2 0 6)), .int (iI (k2 0 4)), .int (iI (k2 0 5)), .long (lI (k2 0 7)), .long (lI (k2 0 8))])), (q2 4, aI g 48 (k2 2)), (q2 5, aI g 4 (k2 3)), (q2 6, aI g 4 (k2 4)), (q2 7, aI g 4 (k2 5))]) rfl rfl rfl ?_
  refine j_aload_n C 0 dX2_copyFrom_11 rfl rfl ?_
  refine j_get C ck2 0 1 (by decide) qw91 rfl rfl dX2_copyFrom_12 ?_
  refine j_aload_n C 1 dX2_copyFrom_15 rfl rfl ?_
  refine j_get C ck2 8 1 (by decide) qw91 rfl rfl dX2_copyFrom_16 ?_
  refine j_callV (As := [.ref (q2 3)]) (rest := []) C yv_X0_copyFrom qw279 (c_X0_copyFrom l g (q 3) (q 4) (k 2) (k 0 9) (k 0 6) (k 0 4) (k 0 5) (k 0 7) (k 0 8) (q2 3) (q2 4) (k2 2) (k2 0 9) (k2 0 6) (k2 0 4) (k2 0 5) (k2 0 7) (k2 0 8)) (by decide) 3 rfl rfl rfl dX2_copyFrom_19 rfl (Nat.le_of_ble_eq_true rfl) (by decide) (pf2 [(q 0, .inr (2, [.ref (q 1), .ref (q 3), .ref (q 5), .ref (q 6), .ref (q 7), .int (iI (k 0 0))])), (q 1, .inr (1, [.ref (q 2), .int (iI (k2 0 2)), .int (iI (k2 0 3)), .int (iI (k2 0 1))])), (q 2, aI g 10 (cpy 10 (k2 1) (k 1)))] 2 [(q 5, aI g 4 (k 3)), (q 6, aI g 4 (k 4)), (q 7, aI g 4 (k 5)), (q2 0, .inr (2, [.ref (q2 1), .ref (q2 3), .ref (q2 5), .ref (q2 6), .ref (q2 7), .int (iI (k2 0 0))])), (q2 1, .inr (1, [.ref (q2 2), .int (iI (k2 0 2)), .int (iI (k2 0 3)), .int (iI (k2 0 1))])), (q2 2, aI g 10 (k2 1))] [(q2 5, aI g 4 (k2 3)), (q2 6, aI g 4 (k2 4)), (q2 7, aI g 4 (k2 5))]) rfl (fun r9 w9 hq9 => ?_)
  obtain ⟨rfl, rfl⟩ := hq9
  refine J.to (L1 := [(0, .ref (q 0)), (1, .ref (q2 0))]) (S1 := []) (ws1 := [(q 0, .inr (2, [.ref (q 1), .ref (q 3), .ref (q 5), .ref (q 6), .ref (q 7), .int (iI (k 0 0))])), (q 1, .inr (1, [.ref (q 2), .int (iI (k2 0 2)), .int (iI (k2 0 3)), .int (iI (k2 0 1))])), (q 2, aI g 10 (cpy 10 (k2 1) (k 1))), (q 3, .inr (0, [.ref (q 4), .int (iI (k2 0 9)), .int (iI (k2 0 6)), .int (iI (k2 0 4)), .int (iI (k2 0 5)), .long (lI (k2 0 7)), .long (lI (k2 0 8))])), (q 4, aI g 48 (cpy 48 (k2 2) (k 2))), (q 5, aI g 4 (k 3)), (q 6, aI g 4 (k 4)), (q 7, aI g 4 (k 5)), (q2 0, .inr (2, [.ref (q2 1), .ref (q2 3), .ref (q2 5), .ref (q2 6), .ref (q2 7), .int (iI (k2 0 0))])), (q2 1, .inr (1, [.ref (q2 2), .int (iI (k2 0 2)), .int (iI (k2 0 3)), .int (iI (k2 0 1))])), (q2 2, aI g 10 (k2 1)), (q2 3, .inr (0, [.ref (q2 4), .int (iI (k2 0 9)), .int (iI (k2 0 6)), .int (iI (k2 0 4)), .int (iI (k2 0 5)), .long (lI (k2 0 7)), .long (lI (k2 0 8))])), (q2 4, aI g 48 (k2 2)), (q2 5, aI g 4 (k2 3)), (q2 6, aI g 4 (k2 4)), (q2 7, aI g 4 (k2 5))]) rfl rfl rfl ?_
  refine j_aload_n C 1 dX2_copyFrom_22 rfl rfl ?_
  refine j_get C ck2 8 2 (by decide) qw93 rfl rfl dX2_copyFrom_23 ?_
  refine j_aload_n C 0 dX2_copyFrom_26 rfl rfl ?_
  refine j_get C ck2 0 2 (by decide) qw93 rfl rfl dX2_copyFrom_27 ?_
  refine j_callSN (As := [.ref (q2 5), .ref (q 5)]) (rest := []) C ys_X4_copyRow qn284 (c_X4_copyRow l g (q2 5) (q 5) 4 (k2 3) (k 3) (by decide)) (by decide) rfl dX2_copyFrom_30 rfl (Nat.le_of_ble_eq_true rfl) (by decide) (pf2r [(q 0, .inr (2, [.ref (q 1), .ref (q 3), .ref (q 5), .ref (q 6), .ref (q 7), .int (iI (k 0 0))])), (q 1, .inr (1, [.ref (q 2), .int (iI (k2 0 2)), .int (iI (k2 0 3)), .int (iI (k2 0 1))])), (q 2, aI g 10 (cpy 10 (k2 1) (k 1))), (q 3, .inr (0, [.ref (q 4), .int (iI (k2 0 9)), .int (iI (k2 0 6)), .int (iI (k2 0 4)), .int (iI (k2 0 5)), .long (lI (k2 0 7)), .long (lI (k2 0 8))])), (q 4, aI g 48 (cpy 48 (k2 2) (k 2)))] 1 [(q 6, aI g 4 (k 4)), (q 7, aI g 4 (k 5)), (q2 0, .inr (2, [.ref (q2 1), .ref (q2 3), .ref (q2 5), .ref (q2 6), .ref (q2 7), .int (iI (k2 0 0))])), (q2 1, .inr (1, [.ref (q2 2), .int (iI (k2 0 2)), .int (iI (k2 0 3)), .int (iI (k2 0 1))])), (q2 2, aI g 10 (k2 1)), (q2 3, .inr (0, [.ref (q2 4), .int (iI (k2 0 9)), .int (iI (k2 0 6)), .int (iI (k2 0 4)), .int (iI (k2 0 5)), .long (lI (k2 0 7)), .long (lI (k2 0 8))])), (q2 4, aI g 48 (k2 2))] [(q2 6, aI g 4 (k2 4)), (q2 7, aI g 4 (k2 5))]) rfl (fun r9 w9 hq9 => ?_)
  obtain ⟨rfl, rfl⟩ := hq9
  refine J.to (L1 := [(0, .ref (q 0)), (1, .ref (q2 0))]) (S1 := []) (ws1 := [(q 0, .inr (2, [.ref (q 1), .ref (q 3), .ref (q 5), .ref (q 6), .ref (q 7), .int (iI (k 0 0))])), (q 1, .inr (1, [.ref (q 2), .int (iI (k2 0 2)), .int (iI (k2 0 3)), .int (iI (k2 0 1))])), (q 2, aI g 10 (cpy 10 (k2 1) (k 1))), (q 3, .inr (0, [.ref (q 4), .int (iI (k2 0 9)), .int (iI (k2 0 6)), .int (iI (k2 0 4)), .int (iI (k2 0 5)), .long (lI (k2 0 7)), .long (lI (k2 0 8))])), (q 4, aI g 48 (cpy 48 (k2 2) (k 2))), (q 5, aI g 4 (cpy 4 (k2 3) (k 3))), (q 6, aI g 4 (k 4)), (q 7, aI g 4 (k 5)), (q2 0, .inr (2, [.ref (q2 1), .ref (q2 3), .ref (q2 5), .ref (q2 6), .ref (q2 7), .int (iI (k2 0 0))])), (q2 1, .inr (1, [.ref (q2 2), .int (iI (k2 0 2)), .int (iI (k2 0 3)), .int (iI (k2 0 1))])), (q2 2, aI g 10 (k2 1)), (q2 3, .inr (0, [.ref (q2 4), .int (iI (k2 0 9)), .int (iI (k2 0 6)), .int (iI (k2 0 4)), .int (iI (k2 0 5)), .long (lI (k2 0 7)), .long (lI (k2 0 8))])), (q2 4, aI g 48 (k2 2)), (q2 5, aI g 4 (k2 3)), (q2 6, aI g 4 (k2 4)), (q2 7, aI g 4 (k2 5))]) rfl rfl rfl ?_
  refine j_aload_n C 1 dX2_copyFrom_33 rfl rfl ?_
  refine j_get C ck2 8 3 (by decide) qw94 rfl rfl dX2_copyFrom_34 ?_
  refine j_aload_n C 0 dX2_copyFrom_37 rfl rfl ?_
  refine j_get C ck2 0 3 (by decide) qw94 rfl rfl dX2_copyFrom_38 ?_
  refine j_callSN (As := [.ref (q2 6), .ref (q 6)]) (rest := []) C ys_X4_copyRow qn284 (c_X4_copyRow l g (q2 6) (q 6) 4 (k2 4) (k 4) (by decide)) (by decide) rfl dX2_copyFrom_41 rfl (Nat.le_of_ble_eq_true rfl) (by decide) (pf2r [(q 0, .inr (2, [.ref (q 1), .ref (q 3), .ref (q 5), .ref (q 6), .ref (q 7), .int (iI (k 0 0))])), (q 1, .inr (1, [.ref (q 2), .int (iI (k2 0 2)), .int (iI (k2 0 3)), .int (iI (k2 0 1))])), (q 2, aI g 10 (cpy 10 (k2 1) (k 1))), (q 3, .inr (0, [.ref (q 4), .int (iI (k2 0 9)), .int (iI (k2 0 6)), .int (iI (k2 0 4)), .int (iI (k2 0 5)), .long (lI (k2 0 7)), .long (lI (k2 0 8))])), (q 4, aI g 48 (cpy 48 (k2 2) (k 2))), (q 5, aI g 4 (cpy 4 (k2 3) (k 3)))] 1 [(q 7, aI g 4 (k 5)), (q2 0, .inr (2, [.ref (q2 1), .ref (q2 3), .ref (q2 5), .ref (q2 6), .ref (q2 7), .int (iI (k2 0 0))])), (q2 1, .inr (1, [.ref (q2 2), .int (iI (k2 0 2)), .int (iI (k2 0 3)), .int (iI (k2 0 1))])), (q2 2, aI g 10 (k2 1)), (q2 3, .inr (0, [.ref (q2 4), .int (iI (k2 0 9)), .int (iI (k2 0 6)), .int (iI (k2 0 4)), .int (iI (k2 0 5)), .long (lI (k2 0 7)), .long (lI (k2 0 8))])), (q2 4, aI g 48 (k2 2)), (q2 5, aI g 4 (k2 3))] [(q2 7, aI g 4 (k2 5))]) rfl (fun r9 w9 hq9 => ?_)
  obtain ⟨rfl, rfl⟩ := hq9
  refine J.to (L1 := [(0, .ref (q 0)), (1, .ref (q2 0))]) (S1 := []) (ws1 := [(q 0, .inr (2, [.ref (q 1), .ref (q 3), .ref (q 5), .ref (q 6), .ref (q 7), .int (iI (k 0 0))])), (q 1, .inr (1, [.ref (q 2), .int (iI (k2 0 2)), .int (iI (k2 0 3)), .int (iI (k2 0 1))])), (q 2, aI g 10 (cpy 10 (k2 1) (k 1))), (q 3, .inr (0, [.ref (q 4), .int (iI (k2 0 9)), .int (iI (k2 0 6)), .int (iI (k2 0 4)), .int (iI (k2 0 5)), .long (lI (k2 0 7)), .long (lI (k2 0 8))])), (q 4, aI g 48 (cpy 48 (k2 2) (k 2))), (q 5, aI g 4 (cpy 4 (k2 3) (k 3))), (q 6, aI g 4 (cpy 4 (k2 4) (k 4))), (q 7, aI g 4 (k 5)), (q2 0, .inr (2, [.ref (q2 1), .ref (q2 3), .ref (q2 5), .ref (q2 6), .ref (q2 7), .int (iI (k2 0 0))])), (q2 1, .inr (1, [.ref (q2 2), .int (iI (k2 0 2)), .int (iI (k2 0 3)), .int (iI (k2 0 1))])), (q2 2, aI g 10 (k2 1)), (q2 3, .inr (0, [.ref (q2 4), .int (iI (k2 0 9)), .int (iI (k2 0 6)), .int (iI (k2 0 4)), .int (iI (k2 0 5)), .long (lI (k2 0 7)), .long (lI (k2 0 8))])), (q2 4, aI g 48 (k2 2)), (q2 5, aI g 4 (k2 3)), (q2 6, aI g 4 (k2 4)), (q2 7, aI g 4 (k2 5))]) rfl rfl rfl ?_
  refine j_aload_n C 0 dX2_copyFrom_44 rfl rfl ?_
  refine j_aload_n C 1 dX2_copyFrom_45 rfl rfl ?_
  refine j_get C ck2 8 5 (by decide) qw96 rfl rfl dX2_copyFrom_46 ?_
  refine j_put (ws1 := [(q 0, .inr (2, [.ref (q 1), .ref (q 3), .ref (q 5), .ref (q 6), .ref (q 7), .int (iI (k2 0 0))])), (q 1, .inr (1, [.ref (q 2), .int (iI (k2 0 2)), .int (iI (k2 0 3)), .int (iI (k2 0 1))])), (q 2, aI g 10 (cpy 10 (k2 1) (k 1))), (q 3, .inr (0, [.ref (q 4), .int (iI (k2 0 9)), .int (iI (k2 0 6)), .int (iI (k2 0 4)), .int (iI (k2 0 5)), .long (lI (k2 0 7)), .long (lI (k2 0 8))])), (q 4, aI g 48 (cpy 48 (k2 2) (k 2))), (q 5, aI g 4 (cpy 4 (k2 3) (k 3))), (q 6, aI g 4 (cpy 4 (k2 4) (k 4))), (q 7, aI g 4 (k 5)), (q2 0, .inr (2, [.ref (q2 1), .ref (q2 3), .ref (q2 5), .ref (q2 6), .ref (q2 7), .int (iI (k2 0 0))])), (q2 1, .inr (1, [.ref (q2 2), .int (iI (k2 0 2)), .int (iI (k2 0 3)), .int (iI (k2 0 1))])), (q2 2, aI g 10 (k2 1)), (q2 3, .inr (0, [.ref (q2 4), .int (iI (k2 0 9)), .int (iI (k2 0 6)), .int (iI (k2 0 4)), .int (iI (k2 0 5)), .long (lI (k2 0 7)), .long (lI (k2 0 8))])), (q2 4, aI g 48 (k2 2)), (q2 5, aI g 4 (k2 3)), (q2 6, aI g 4 (k2 4)), (q2 7, aI g 4 (k2 5))]) C ck2 0 5 (by decide) qw96 rfl dX2_copyFrom_49 rfl rfl rfl rfl (Nat.le_of_ble_eq_true rfl) ?_
  exact j_vret C hr hlk dX2_copyFrom_52 ⟨rfl, rfl⟩ (by decide) (by decide)

theorem lp_inStrands {p : Program} {l : Launch} {e : Env} {s : State} {m : MethodId} {args : Array Value} {below : List Frame} {meth : Method} {c : Code} {g : Gh} {A : Nat → Prop} {Q : State → Prop} (C : Cx p g s m args c cX2_inStrands 3 RX2 A) {q : Nat → Nat} {k : Nat → Nat → Int} (hk : SOK k) (kk : J p l e ({ frames := 2, cells := 0, slots := 0, locals := 44 } : Room) s m args below meth c g A 3 36 [(0, .ref (q 0)), (1, .int (iI (hng (k 1) (k 0 2).toNat (k 0 3) (k 4) 4))), (2, .int (iI 4))] [] [(q 0, .inr (2, [.ref (q 1), .ref (q 3), .ref (q 5), .ref (q 6), .ref (q 7), .int (iI (k 0 0))])), (q 1, .inr (1, [.ref (q 2), .int (iI (k 0 2)), .int (iI (k 0 3)), .int (iI (k 0 1))])), (q 2, aI g 10 (k 1)), (q 3, .inr (0, [.ref (q 4), .int (iI (k 0 9)), .int (iI (k 0 6)), .int (iI (k 0 4)), .int (iI (k 0 5)), .long (lI (k 0 7)), .long (lI (k 0 8))])), (q 4, aI g 48 (k 2)), (q 5, aI g 4 (k 3)), (q 6, aI g 4 (k 4)), (q 7, aI g 4 (k 5))] 0 0 Q) : ∀ (n i : Nat), i + n = 4 → J p l e ({ frames := 2, cells := 0, slots := 0, locals := 44 } : Room) s m args below meth c g A 3 4 [(0, .ref (q 0)), (1, .int (iI (hng (k 1) (k 0 2).toNat (k 0 3) (k 4) i))), (2, .int (iI ((i : Int))))] [] [(q 0, .inr (2, [.ref (q 1), .ref (q 3), .ref (q 5), .ref (q 6), .ref (q 7), .int (iI (k 0 0))])), (q 1, .inr (1, [.ref (q 2), .int (iI (k 0 2)), .int (iI (k 0 3)), .int (iI (k 0 1))])), (q 2, aI g 10 (k 1)), (q 3, .inr (0, [.ref (q 4), .int (iI (k 0 9)), .int (iI (k 0 6)), .int (iI (k 0 4)), .int (iI (k 0 5)), .long (lI (k 0 7)), .long (lI (k 0 8))])), (q 4, aI g 48 (k 2)), (q 5, aI g 4 (k 3)), (q 6, aI g 4 (k 4)), (q 7, aI g 4 (k 5))] 0 0 Q := by
  intro n
  induction n with
  | zero =>
    intro i hi
    have hi9 : i = 4 := by omega
    refine j_iload_n C 2 dX2_inStrands_4 rfl rfl ?_
    refine j_iconst C dX2_inStrands_5 ?_
    refine j_icmp_ge (tgt := 36) C (by omega) (by decide) dX2_inStrands_6 (by decide) (fun c6 => ?_) (fun c6 => absurd c6 (by omega))
    refine J.sub (L1 := [(0, .ref (q 0)), (1, .int (iI (hng (k 1) (k 0 2).toNat (k 0 3) (k 4) i))), (2, .int (iI ((i : Int))))]) [0, 1, 2] rfl ?_
    rw [hi9]
    exact kk
  | succ n ih =>
    intro i hi
    obtain ⟨hP, hE0, hF, hrow0, hwt, hht, hlen, hlat, hkept⟩ := id hk
    have hE : -10 ≤ k 0 3 ∧ k 0 3 ≤ 10 := by omega
    have hrow : ∀ i : Nat, (i : Int) < k 0 2 → 0 ≤ k 1 i ∧ k 1 i ≤ 4 := fun i hi => by have := hrow0 i hi; omega
    refine j_iload_n C 2 dX2_inStrands_4 rfl rfl ?_
    refine j_iconst C dX2_inStrands_5 ?_
    refine j_icmp_ge (tgt := 36) C (by omega) (by decide) dX2_inStrands_6 (by decide) (fun c6 => absurd c6 (by omega)) (fun c6 => ?_)
    refine j_iload_n C 1 dX2_inStrands_9 rfl rfl ?_
    refine j_aload_n C 0 dX2_inStrands_10 rfl rfl ?_
    refine j_get C ck2 0 0 (by decide) qw88 rfl rfl dX2_inStrands_11 ?_
    refine j_iload_n C 2 dX2_inStrands_14 rfl rfl ?_
    refine j_callV (As := [.int (iI ((i : Int)))]) (rest := [.int (iI (hng (k 1) (k 0 2).toNat (k 0 3) (k 4) i))]) C yv_X1_strandsOf qw335 (c_X1_strandsOf l g (q 1) (q 2) (k 1) (k 0 2) (k 0 3) (k 0 1) ((i : Int)) hP hE (by omega) hrow) (by decide) 1 rfl rfl rfl dX2_inStrands_15 rfl (Nat.le_of_ble_eq_true rfl) (by decide) (pf1 [(q 0, .inr (2, [.ref (q 1), .ref (q 3), .ref (q 5), .ref (q 6), .ref (q 7), .int (iI (k 0 0))]))] [(q 3, .inr (0, [.ref (q 4), .int (iI (k 0 9)), .int (iI (k 0 6)), .int (iI (k 0 4)), .int (iI (k 0 5)), .long (lI (k 0 7)), .long (lI (k 0 8))])), (q 4, aI g 48 (k 2)), (q 5, aI g 4 (k 3)), (q 6, aI g 4 (k 4)), (q 7, aI g 4 (k 5))]) rfl (fun r9 w9 hq9 => ?_)
    obtain ⟨rfl, rfl⟩ := hq9
    refine J.to (L1 := [(0, .ref (q 0)), (1, .int (iI (hng (k 1) (k 0 2).toNat (k 0 3) (k 4) i))), (2, .int (iI ((i : Int))))]) (S1 := [.int (iI (strn (k 1) (k 0 2).toNat (k 0 3) ((i : Int)))), .int (iI (hng (k 1) (k 0 2).toNat (k 0 3) (k 4) i))]) (ws1 := [(q 0, .inr (2, [.ref (q 1), .ref (q 3), .ref (q 5), .ref (q 6), .ref (q 7), .int (iI (k 0 0))])), (q 1, .inr (1, [.ref (q 2), .int (iI (k 0 2)), .int (iI (k 0 3)), .int (iI (k 0 1))])), (q 2, aI g 10 (k 1)), (q 3, .inr (0, [.ref (q 4), .int (iI (k 0 9)), .int (iI (k 0 6)), .int (iI (k 0 4)), .int (iI (k 0 5)), .long (lI (k 0 7)), .long (lI (k 0 8))])), (q 4, aI g 48 (k 2)), (q 5, aI g 4 (k 3)), (q 6, aI g 4 (k 4)), (q 7, aI g 4 (k 5))]) rfl rfl rfl ?_
    refine j_sipush C dX2_inStrands_18 (by decide) ?_
    refine j_aload_n C 0 dX2_inStrands_21 rfl rfl ?_
    refine j_iload_n C 2 dX2_inStrands_22 rfl rfl ?_
    refine j_callV (As := [.int (iI ((i : Int)))]) (rest := [.int (iI 10000), .int (iI (strn (k 1) (k 0 2).toNat (k 0 3) ((i : Int)))), .int (iI (hng (k 1) (k 0 2).toNat (k 0 3) (k 4) i))]) C yv_X2_heightOf qw343 (c_X2_heightOf l g q k ((i : Int)) hk (by omega)) (by decide) 0 rfl rfl rfl dX2_inStrands_23 rfl (Nat.le_of_ble_eq_true rfl) (by decide) pf0 rfl (fun r9 w9 hq9 => ?_)
    obtain ⟨rfl, rfl⟩ := hq9
    refine J.to (L1 := [(0, .ref (q 0)), (1, .int (iI (hng (k 1) (k 0 2).toNat (k 0 3) (k 4) i))), (2, .int (iI ((i : Int))))]) (S1 := [.int (iI (k 4 i)), .int (iI 10000), .int (iI (strn (k 1) (k 0 2).toNat (k 0 3) ((i : Int)))), .int (iI (hng (k 1) (k 0 2).toNat (k 0 3) (k 4) i))]) (ws1 := [(q 0, .inr (2, [.ref (q 1), .ref (q 3), .ref (q 5), .ref (q 6), .ref (q 7), .int (iI (k 0 0))])), (q 1, .inr (1, [.ref (q 2), .int (iI (k 0 2)), .int (iI (k 0 3)), .int (iI (k 0 1))])), (q 2, aI g 10 (k 1)), (q 3, .inr (0, [.ref (q 4), .int (iI (k 0 9)), .int (iI (k 0 6)), .int (iI (k 0 4)), .int (iI (k 0 5)), .long (lI (k 0 7)), .long (lI (k 0 8))])), (q 4, aI g 48 (k 2)), (q 5, aI g 4 (k 3)), (q 6, aI g 4 (k 4)), (q 7, aI g 4 (k 5))]) rfl rfl rfl ?_
    refine j_isub C dX2_inStrands_26 ?_
    refine j_imul C dX2_inStrands_27 ?_
    refine j_iadd C dX2_inStrands_28 ?_
    refine j_istore_n (L1 := [(1, .int (iI ((hng (k 1) (k 0 2).toNat (k 0 3) (k 4) i) + ((strn (k 1) (k 0 2).toNat (k 0 3) ((i : Int))) * (10000 - (k 4 i)))))), (0, .ref (q 0)), (2, .int (iI ((i : Int))))]) C dX2_inStrands_29 rfl (by decide) rfl ?_
    refine j_iinc (L1 := [(2, .int (iI (((i : Int)) + 1))), (1, .int (iI ((hng (k 1) (k 0 2).toNat (k 0 3) (k 4) i) + ((strn (k 1) (k 0 2).toNat (k 0 3) ((i : Int))) * (10000 - (k 4 i)))))), (0, .ref (q 0))]) C 2 dX2_inStrands_30 rfl (by decide) rfl ?_
    refine j_goto (tgt := 4) C dX2_inStrands_33 (by decide) ?_
    refine J.sub (L1 := [(0, .ref (q 0)), (1, .int (iI ((hng (k 1) (k 0 2).toNat (k 0 3) (k 4) i) + ((strn (k 1) (k 0 2).toNat (k 0 3) ((i : Int))) * (10000 - (k 4 i)))))), (2, .int (iI (((i : Int)) + 1)))]) [2, 1, 0] rfl ?_
    exact ih (i + 1) (by omega)

theorem c_X2_inStrands (l : Launch) (g : Gh) (q : Nat → Nat) (k : Nat → Nat → Int) (hk : SOK k) : CT l g yX2_inStrands cX2_inStrands 3 (some FieldType.int) ({ frames := 2, cells := 0, slots := 0, locals := 44 }) [.ref (q 0)] [(q 0, .inr (2, [.ref (q 1), .ref (q 3), .ref (q 5), .ref (q 6), .ref (q 7), .int (iI (k 0 0))])), (q 1, .inr (1, [.ref (q 2), .int (iI (k 0 2)), .int (iI (k 0 3)), .int (iI (k 0 1))])), (q 2, aI g 10 (k 1)), (q 3, .inr (0, [.ref (q 4), .int (iI (k 0 9)), .int (iI (k 0 6)), .int (iI (k 0 4)), .int (iI (k 0 5)), .long (lI (k 0 7)), .long (lI (k 0 8))])), (q 4, aI g 48 (k 2)), (q 5, aI g 4 (k 3)), (q 6, aI g 4 (k 4)), (q 7, aI g 4 (k 5))] (PE (some (.int (iI (hng (k 1) (k 0 2).toNat (k 0 3) (k 4) 4)))) (wSt g q k)) := by
  refine CT.intro (L0 := [(0, .ref (q 0))]) (own := RX2) (by decide) rfl (Nat.le_of_ble_eq_true rfl) rfl ?_
  intro pX eX sX mX argsX belowX methX cX A C hr hlk
  obtain ⟨hP, hE0, hF, hrow0, hwt, hht, hlen, hlat, hkept⟩ := id hk
  have hE : -10 ≤ k 0 3 ∧ k 0 3 ≤ 10 := by omega
  have hrow : ∀ i : Nat, (i : Int) < k 0 2 → 0 ≤ k 1 i ∧ k 1 i ≤ 4 := fun i hi => by have := hrow0 i hi; omega
  refine j_iconst C dX2_inStrands_0 ?_
  refine j_istore_n (L1 := [(1, .int (iI 0)), (0, .ref (q 0))]) C dX2_inStrands_1 rfl (by decide) rfl ?_
  refine j_iconst C dX2_inStrands_2 ?_
  refine j_istore_n (L1 := [(2, .int (iI 0)), (1, .int (iI 0)), (0, .ref (q 0))]) C dX2_inStrands_3 rfl (by decide) rfl ?_
  refine J.sub (L1 := [(0, .ref (q 0)), (1, .int (iI 0)), (2, .int (iI 0))]) [2, 1, 0] rfl ?_
  refine lp_inStrands C hk ?_ 4 0 (by omega)
  refine j_iload_n C 1 dX2_inStrands_36 rfl rfl ?_
  exact j_iret C hr hlk dX2_inStrands_37 ⟨rfl, rfl⟩ (by decide) (by decide)

theorem c_X2_inHand (l : Launch) (g : Gh) (q : Nat → Nat) (k : Nat → Nat → Int) (hk : SOK k) : CT l g yX2_inHand cX2_inHand 1 (some FieldType.int) ({ frames := 3, cells := 0, slots := 0, locals := 66 }) [.ref (q 0)] [(q 0, .inr (2, [.ref (q 1), .ref (q 3), .ref (q 5), .ref (q 6), .ref (q 7), .int (iI (k 0 0))])), (q 1, .inr (1, [.ref (q 2), .int (iI (k 0 2)), .int (iI (k 0 3)), .int (iI (k 0 1))])), (q 2, aI g 10 (k 1)), (q 3, .inr (0, [.ref (q 4), .int (iI (k 0 9)), .int (iI (k 0 6)), .int (iI (k 0 4)), .int (iI (k 0 5)), .long (lI (k 0 7)), .long (lI (k 0 8))])), (q 4, aI g 48 (k 2)), (q 5, aI g 4 (k 3)), (q 6, aI g 4 (k 4)), (q 7, aI g 4 (k 5))] (PE (some (.int (iI (hnd k)))) (wSt g q k)) := by
  refine CT.intro (L0 := [(0, .ref (q 0))]) (own := RX2) (by decide) rfl (Nat.le_of_ble_eq_true rfl) rfl ?_
  intro pX eX sX mX argsX belowX methX cX A C hr hlk
  obtain ⟨hP, hE0, hF, hrow0, hwt, hht, hlen, hlat, hkept⟩ := id hk
  have hE : -10 ≤ k 0 3 ∧ k 0 3 ≤ 10 := by omega
  have hrow : ∀ i : Nat, (i : Int) < k 0 2 → 0 ≤ k 1 i ∧ k 1 i ≤ 4 := fun i hi => by have := hrow0 i hi; omega
  refine j_aload_n C 0 dX2_inHand_0 rfl rfl ?_
  refine j_get C ck2 0 5 (by decide) qw96 rfl rfl dX2_inHand_1 ?_
  refine j_aload_n C 0 dX2_inHand_4 rfl rfl ?_
  refine j_callV (As := []) (rest := [.int (iI (k 0 0))]) C yv_X2_inStrands qw331 (c_X2_inStrands l g q k  hk) (by decide) 0 rfl rfl rfl dX2_inHand_5 rfl (Nat.le_of_ble_eq_true rfl) (by decide) pf0 rfl (fun r9 w9 hq9 => ?_)
  obtain ⟨rfl, rfl⟩ := hq9
  refine J.to (L1 := [(0, .ref (q 0))]) (S1 := [.int (iI (hng (k 1) (k 0 2).toNat (k 0 3) (k 4) 4)), .int (iI (k 0 0))]) (ws1 := [(q 0, .inr (2, [.ref (q 1), .ref (q 3), .ref (q 5), .ref (q 6), .ref (q 7), .int (iI (k 0 0))])), (q 1, .inr (1, [.ref (q 2), .int (iI (k 0 2)), .int (iI (k 0 3)), .int (iI (k 0 1))])), (q 2, aI g 10 (k 1)), (q 3, .inr (0, [.ref (q 4), .int (iI (k 0 9)), .int (iI (k 0 6)), .int (iI (k 0 4)), .int (iI (k 0 5)), .long (lI (k 0 7)), .long (lI (k 0 8))])), (q 4, aI g 48 (k 2)), (q 5, aI g 4 (k 3)), (q 6, aI g 4 (k 4)), (q 7, aI g 4 (k 5))]) rfl rfl rfl ?_
  refine j_isub C dX2_inHand_8 ?_
  exact j_iret C hr hlk dX2_inHand_9 ⟨rfl, rfl⟩ (by decide) (by decide)

theorem c_X2_leastForceFor (l : Launch) (g : Gh) (q : Nat → Nat) (k : Nat → Nat → Int) (b : Int) (h : Bool) (hk : SOK k) (hb3 : 0 ≤ b ∧ b ≤ 3) : CT l g yX2_leastForceFor cX2_leastForceFor 3 (some FieldType.int) ({ frames := 3, cells := 0, slots := 0, locals := 82 }) [.ref (q 0), .int (iI b), .int (iI (b2i h))] [(q 0, .inr (2, [.ref (q 1), .ref (q 3), .ref (q 5), .ref (q 6), .ref (q 7), .int (iI (k 0 0))])), (q 1, .inr (1, [.ref (q 2), .int (iI (k 0 2)), .int (iI (k 0 3)), .int (iI (k 0 1))])), (q 2, aI g 10 (k 1)), (q 3, .inr (0, [.ref (q 4), .int (iI (k 0 9)), .int (iI (k 0 6)), .int (iI (k 0 4)), .int (iI (k 0 5)), .long (lI (k 0 7)), .long (lI (k 0 8))])), (q 4, aI g 48 (k 2)), (q 5, aI g 4 (k 3)), (q 6, aI g 4 (k 4)), (q 7, aI g 4 (k 5))] (PE (some (.int (iI (lea (k 1) (k 0 1) h (k 0 2).toNat (k 0 3) b (k 3 b.toNat))))) (wSt g q k)) := by
  refine CT.intro (L0 := [(0, .ref (q 0)), (1, .int (iI b)), (2, .int (iI (b2i h)))]) (own := RX2) (by decide) rfl (Nat.le_of_ble_eq_true rfl) rfl ?_
  intro pX eX sX mX argsX belowX methX cX A C hr hlk
  obtain ⟨hP, hE0, hF, hrow0, hwt, hht, hlen, hlat, hkept⟩ := id hk
  have hE : -10 ≤ k 0 3 ∧ k 0 3 ≤ 10 := by omega
  have hrow : ∀ i : Nat, (i : Int) < k 0 2 → 0 ≤ k 1 i ∧ k 1 i ≤ 4 := fun i hi => by have := hrow0 i hi; omega
  have hw : 0 ≤ k 3 b.toNat ∧ k 3 b.toNat ≤ 1000000 := by have := hwt b.toNat (by omega); omega
  refine j_aload_n C 0 dX2_leastForceFor_0 rfl rfl ?_
  refine j_get C ck2 0 0 (by decide) qw88 rfl rfl dX2_leastForceFor_1 ?_
  refine j_iload_n C 1 dX2_leastForceFor_4 rfl rfl ?_
  refine j_aload_n C 0 dX2_leastForceFor_5 rfl rfl ?_
  refine j_iload_n C 1 dX2_leastForceFor_6 rfl rfl ?_
  refine j_callV (As := [.int (iI b)]) (rest := [.int (iI b), .ref (q 1)]) C yv_X2_weightOf qw389 (c_X2_weightOf l g q k b hk (by omega)) (by decide) 0 rfl rfl rfl dX2_leastForceFor_7 rfl (Nat.le_of_ble_eq_true rfl) (by decide) pf0 rfl (fun r9 w9 hq9 => ?_)
  obtain ⟨rfl, rfl⟩ := hq9
  refine J.to (L1 := [(0, .ref (q 0)), (1, .int (iI b)), (2, .int (iI (b2i h)))]) (S1 := [.int (iI (k 3 b.toNat)), .int (iI b), .ref (q 1)]) (ws1 := [(q 0, .inr (2, [.ref (q 1), .ref (q 3), .ref (q 5), .ref (q 6), .ref (q 7), .int (iI (k 0 0))])), (q 1, .inr (1, [.ref (q 2), .int (iI (k 0 2)), .int (iI (k 0 3)), .int (iI (k 0 1))])), (q 2, aI g 10 (k 1)), (q 3, .inr (0, [.ref (q 4), .int (iI (k 0 9)), .int (iI (k 0 6)), .int (iI (k 0 4)), .int (iI (k 0 5)), .long (lI (k 0 7)), .long (lI (k 0 8))])), (q 4, aI g 48 (k 2)), (q 5, aI g 4 (k 3)), (q 6, aI g 4 (k 4)), (q 7, aI g 4 (k 5))]) rfl rfl rfl ?_
  refine j_iload_n C 2 dX2_leastForceFor_10 rfl rfl ?_
  refine j_callV (As := [.int (iI b), .int (iI (k 3 b.toNat)), .int (iI (b2i h))]) (rest := []) C yv_X1_leastForce qw390 (c_X1_leastForce l g (q 1) (q 2) (k 1) (k 0 2) (k 0 3) (k 0 1) b (k 3 b.toNat) h hP hE hF (by omega) hw hrow) (by decide) 1 rfl rfl rfl dX2_leastForceFor_11 rfl (Nat.le_of_ble_eq_true rfl) (by decide) (pf1 [(q 0, .inr (2, [.ref (q 1), .ref (q 3), .ref (q 5), .ref (q 6), .ref (q 7), .int (iI (k 0 0))]))] [(q 3, .inr (0, [.ref (q 4), .int (iI (k 0 9)), .int (iI (k 0 6)), .int (iI (k 0 4)), .int (iI (k 0 5)), .long (lI (k 0 7)), .long (lI (k 0 8))])), (q 4, aI g 48 (k 2)), (q 5, aI g 4 (k 3)), (q 6, aI g 4 (k 4)), (q 7, aI g 4 (k 5))]) rfl (fun r9 w9 hq9 => ?_)
  obtain ⟨rfl, rfl⟩ := hq9
  refine J.to (L1 := [(0, .ref (q 0)), (1, .int (iI b)), (2, .int (iI (b2i h)))]) (S1 := [.int (iI (lea (k 1) (k 0 1) h (k 0 2).toNat (k 0 3) b (k 3 b.toNat)))]) (ws1 := [(q 0, .inr (2, [.ref (q 1), .ref (q 3), .ref (q 5), .ref (q 6), .ref (q 7), .int (iI (k 0 0))])), (q 1, .inr (1, [.ref (q 2), .int (iI (k 0 2)), .int (iI (k 0 3)), .int (iI (k 0 1))])), (q 2, aI g 10 (k 1)), (q 3, .inr (0, [.ref (q 4), .int (iI (k 0 9)), .int (iI (k 0 6)), .int (iI (k 0 4)), .int (iI (k 0 5)), .long (lI (k 0 7)), .long (lI (k 0 8))])), (q 4, aI g 48 (k 2)), (q 5, aI g 4 (k 3)), (q 6, aI g 4 (k 4)), (q 7, aI g 4 (k 5))]) rfl rfl rfl ?_
  exact j_iret C hr hlk dX2_leastForceFor_14 ⟨rfl, rfl⟩ (by decide) (by decide)

theorem SOK_5 {k : Nat → Nat → Int} (hk : SOK k) (f : Nat → Int) : SOK (va_up k 5 f) := hk
theorem lp_reckonForces {p : Program} {l : Launch} {e : Env} {s : State} {m : MethodId} {args : Array Value} {below : List Frame} {meth : Method} {c : Code} {g : Gh} {A : Nat → Prop} {Q : State → Prop} (C : Cx p g s m args c cX2_reckonForces 3 RX2 A) {q : Nat → Nat} {k : Nat → Nat → Int} {h : Bool} (hk : SOK k) (kk : J p l e ({ frames := 4, cells := 0, slots := 0, locals := 104 } : Room) s m args below meth c g A 3 29 [(0, .ref (q 0)), (1, .int (iI (b2i h))), (2, .int (iI 4))] [] [(q 0, .inr (2, [.ref (q 1), .ref (q 3), .ref (q 5), .ref (q 6), .ref (q 7), .int (iI (k 0 0))])), (q 1, .inr (1, [.ref (q 2), .int (iI (k 0 2)), .int (iI (k 0 3)), .int (iI (k 0 1))])), (q 2, aI g 10 (k 1)), (q 3, .inr (0, [.ref (q 4), .int (iI (k 0 9)), .int (iI (k 0 6)), .int (iI (k 0 4)), .int (iI (k 0 5)), .long (lI (k 0 7)), .long (lI (k 0 8))])), (q 4, aI g 48 (k 2)), (q 5, aI g 4 (k 3)), (q 6, aI g 4 (k 4)), (q 7, aI g 4 (cpy 4 (frc k h) (k 5)))] 0 0 Q) : ∀ (n i : Nat), i + n = 4 → J p l e ({ frames := 4, cells := 0, slots := 0, locals := 104 } : Room) s m args below meth c g A 3 2 [(0, .ref (q 0)), (1, .int (iI (b2i h))), (2, .int (iI ((i : Int))))] [] [(q 0, .inr (2, [.ref (q 1), .ref (q 3), .ref (q 5), .ref (q 6), .ref (q 7), .int (iI (k 0 0))])), (q 1, .inr (1, [.ref (q 2), .int (iI (k 0 2)), .int (iI (k 0 3)), .int (iI (k 0 1))])), (q 2, aI g 10 (k 1)), (q 3, .inr (0, [.ref (q 4), .int (iI (k 0 9)), .int (iI (k 0 6)), .int (iI (k 0 4)), .int (iI (k 0 5)), .long (lI (k 0 7)), .long (lI (k 0 8))])), (q 4, aI g 48 (k 2)), (q 5, aI g 4 (k 3)), (q 6, aI g 4 (k 4)), (q 7, aI g 4 (cpy i (frc k h) (k 5)))] 0 0 Q := by
  intro n
  induction n with
  | zero =>
    intro i hi
    have hi9 : i = 4 := by omega
    refine j_iload_n C 2 dX2_reckonForces_2 rfl rfl ?_
    refine j_aload_n C 0 dX2_reckonForces_3 rfl rfl ?_
    refine j_get C ck2 0 4 (by decide) qw95 rfl rfl dX2_reckonForces_4 ?_
    refine j_ilen (n := 4) (f := cpy i (frc k h) (k 5)) (v := 4) C 7 rfl rfl dX2_reckonForces_7 ?_
    refine j_icmp_ge (tgt := 29) C (by omega) (by decide) dX2_reckonForces_8 (by decide) (fun c8 => ?_) (fun c8 => absurd c8 (by omega))
    refine J.sub (L1 := [(0, .ref (q 0)), (1, .int (iI (b2i h))), (2, .int (iI ((i : Int))))]) [0, 1, 2] rfl ?_
    rw [hi9]
    exact kk
  | succ n ih =>
    intro i hi
    refine j_iload_n C 2 dX2_reckonForces_2 rfl rfl ?_
    refine j_aload_n C 0 dX2_reckonForces_3 rfl rfl ?_
    refine j_get C ck2 0 4 (by decide) qw95 rfl rfl dX2_reckonForces_4 ?_
    refine j_ilen (n := 4) (f := cpy i (frc k h) (k 5)) (v := 4) C 7 rfl rfl dX2_reckonForces_7 ?_
    refine j_icmp_ge (tgt := 29) C (by omega) (by decide) dX2_reckonForces_8 (by decide) (fun c8 => absurd c8 (by omega)) (fun c8 => ?_)
    refine j_aload_n C 0 dX2_reckonForces_11 rfl rfl ?_
    refine j_get C ck2 0 4 (by decide) qw95 rfl rfl dX2_reckonForces_12 ?_
    refine j_iload_n C 2 dX2_reckonForces_15 rfl rfl ?_
    refine j_aload_n C 0 dX2_reckonForces_16 rfl rfl ?_
    refine j_iload_n C 2 dX2_reckonForces_17 rfl rfl ?_
    refine j_iload_n C 1 dX2_reckonForces_18 rfl rfl ?_
    refine j_callV (As := [.int (iI ((i : Int))), .int (iI (b2i h))]) (rest := [.int (iI ((i : Int))), .ref (q 7)]) C yv_X2_leastForceFor qw385 (c_X2_leastForceFor l g q (va_up k 5 (cpy i (frc k h) (k 5))) ((i : Int)) h (SOK_5 hk _) (by omega)) (by decide) 0 rfl rfl rfl dX2_reckonForces_19 rfl (Nat.le_of_ble_eq_true rfl) (by decide) pf0 rfl (fun r9 w9 hq9 => ?_)
    obtain ⟨rfl, rfl⟩ := hq9
    refine J.to (L1 := [(0, .ref (q 0)), (1, .int (iI (b2i h))), (2, .int (iI ((i : Int))))]) (S1 := [.int (iI (frc k h i)), .int (iI ((i : Int))), .ref (q 7)]) (ws1 := [(q 0, .inr (2, [.ref (q 1), .ref (q 3), .ref (q 5), .ref (q 6), .ref (q 7), .int (iI (k 0 0))])), (q 1, .inr (1, [.ref (q 2), .int (iI (k 0 2)), .int (iI (k 0 3)), .int (iI (k 0 1))])), (q 2, aI g 10 (k 1)), (q 3, .inr (0, [.ref (q 4), .int (iI (k 0 9)), .int (iI (k 0 6)), .int (iI (k 0 4)), .int (iI (k 0 5)), .long (lI (k 0 7)), .long (lI (k 0 8))])), (q 4, aI g 48 (k 2)), (q 5, aI g 4 (k 3)), (q 6, aI g 4 (k 4)), (q 7, aI g 4 (cpy i (frc k h) (k 5)))]) rfl rfl rfl ?_
    refine j_iast (n := 4) (f := cpy i (frc k h) (k 5)) (ws1 := [(q 0, .inr (2, [.ref (q 1), .ref (q 3), .ref (q 5), .ref (q 6), .ref (q 7), .int (iI (k 0 0))])), (q 1, .inr (1, [.ref (q 2), .int (iI (k 0 2)), .int (iI (k 0 3)), .int (iI (k 0 1))])), (q 2, aI g 10 (k 1)), (q 3, .inr (0, [.ref (q 4), .int (iI (k 0 9)), .int (iI (k 0 6)), .int (iI (k 0 4)), .int (iI (k 0 5)), .long (lI (k 0 7)), .long (lI (k 0 8))])), (q 4, aI g 48 (k 2)), (q 5, aI g 4 (k 3)), (q 6, aI g 4 (k 4)), (q 7, aI g 4 (va_up (cpy i (frc k h) (k 5)) i (frc k h i)))]) C 7 i rfl rfl (by omega) (by decide) dX2_reckonForces_22 rfl ?_
    refine j_iinc (L1 := [(2, .int (iI (((i : Int)) + 1))), (0, .ref (q 0)), (1, .int (iI (b2i h)))]) C 2 dX2_reckonForces_23 rfl (by decide) rfl ?_
    refine j_goto (tgt := 2) C dX2_reckonForces_26 (by decide) ?_
    refine J.sub (L1 := [(0, .ref (q 0)), (1, .int (iI (b2i h))), (2, .int (iI (((i : Int)) + 1)))]) [1, 2, 0] rfl ?_
    rw [cpy_succ]
    exact ih (i + 1) (by omega)

theorem c_X2_reckonForces (l : Launch) (g : Gh) (q : Nat → Nat) (k : Nat → Nat → Int) (h : Bool) (hk : SOK k) : CT l g yX2_reckonForces cX2_reckonForces 3 none ({ frames := 4, cells := 0, slots := 0, locals := 104 }) [.ref (q 0), .int (iI (b2i h))] [(q 0, .inr (2, [.ref (q 1), .ref (q 3), .ref (q 5), .ref (q 6), .ref (q 7), .int (iI (k 0 0))])), (q 1, .inr (1, [.ref (q 2), .int (iI (k 0 2)), .int (iI (k 0 3)), .int (iI (k 0 1))])), (q 2, aI g 10 (k 1)), (q 3, .inr (0, [.ref (q 4), .int (iI (k 0 9)), .int (iI (k 0 6)), .int (iI (k 0 4)), .int (iI (k 0 5)), .long (lI (k 0 7)), .long (lI (k 0 8))])), (q 4, aI g 48 (k 2)), (q 5, aI g 4 (k 3)), (q 6, aI g 4 (k 4)), (q 7, aI g 4 (k 5))] (PE none (wSt g q (va_up k 5 (cpy 4 (frc k h) (k 5))))) := by
  refine CT.intro (L0 := [(0, .ref (q 0)), (1, .int (iI (b2i h)))]) (own := RX2) (by decide) rfl (Nat.le_of_ble_eq_true rfl) rfl ?_
  intro pX eX sX mX argsX belowX methX cX A C hr hlk
  obtain ⟨hP, hE0, hF, hrow0, hwt, hht, hlen, hlat, hkept⟩ := id hk
  have hE : -10 ≤ k 0 3 ∧ k 0 3 ≤ 10 := by omega
  have hrow : ∀ i : Nat, (i : Int) < k 0 2 → 0 ≤ k 1 i ∧ k 1 i ≤ 4 := fun i hi => by have := hrow0 i hi; omega
  refine j_iconst C dX2_reckonForces_0 ?_
  refine j_istore_n (L1 := [(2, .int (iI 0)), (0, .ref (q 0)), (1, .int (iI (b2i h)))]) C dX2_reckonForces_1 rfl (by decide) rfl ?_
  refine J.sub (L1 := [(0, .ref (q 0)), (1, .int (iI (b2i h))), (2, .int (iI 0))]) [1, 2, 0] rfl ?_
  rw [← cpy_0 (frc k h) (k 5)]
  refine lp_reckonForces C hk ?_ 4 0 (by omega)
  exact j_vret C hr hlk dX2_reckonForces_29 ⟨rfl, rfl⟩ (by decide) (by decide)

theorem lp_nextToRise {p : Program} {l : Launch} {e : Env} {s : State} {m : MethodId} {args : Array Value} {below : List Frame} {meth : Method} {c : Code} {g : Gh} {A : Nat → Prop} {Q : State → Prop} (C : Cx p g s m args c cX2_nextToRise 7 RX2 A) {q : Nat → Nat} {k : Nat → Nat → Int} {hand : Int} (hk : SOK k) (hfc : ∀ b : Nat, b < 4 → -1 ≤ k 5 b ∧ k 5 b ≤ 1000000) (hhand : 0 ≤ hand ∧ hand ≤ 1000000) (kk : ∀ le : Int, J p l e ({ frames := 2, cells := 0, slots := 0, locals := 42 } : Room) s m args below meth c g A 7 83 [(0, .ref (q 0)), (1, .int (iI hand)), (2, .int (iI (nxr (k 5) (k 4) hand 4))), (3, .int (iI le)), (4, .int (iI 4))] [] [(q 0, .inr (2, [.ref (q 1), .ref (q 3), .ref (q 5), .ref (q 6), .ref (q 7), .int (iI (k 0 0))])), (q 1, .inr (1, [.ref (q 2), .int (iI (k 0 2)), .int (iI (k 0 3)), .int (iI (k 0 1))])), (q 2, aI g 10 (k 1)), (q 3, .inr (0, [.ref (q 4), .int (iI (k 0 9)), .int (iI (k 0 6)), .int (iI (k 0 4)), .int (iI (k 0 5)), .long (lI (k 0 7)), .long (lI (k 0 8))])), (q 4, aI g 48 (k 2)), (q 5, aI g 4 (k 3)), (q 6, aI g 4 (k 4)), (q 7, aI g 4 (k 5))] 0 0 Q) : ∀ (n i : Nat) (le : Int), i + n = 4 → (-1 ≤ le ∧ le ≤ 1000000) → (nxr (k 5) (k 4) hand i ≠ -1 → le = k 5 (nxr (k 5) (k 4) hand i).toNat) → J p l e ({ frames := 2, cells := 0, slots := 0, locals := 42 } : Room) s m args below meth c g A 7 7 [(0, .ref (q 0)), (1, .int (iI hand)), (2, .int (iI (nxr (k 5) (k 4) hand i))), (3, .int (iI le)), (4, .int (iI ((i : Int))))] [] [(q 0, .inr (2, [.ref (q 1), .ref (q 3), .ref (q 5), .ref (q 6), .ref (q 7), .int (iI (k 0 0))])), (q 1, .inr (1, [.ref (q 2), .int (iI (k 0 2)), .int (iI (k 0 3)), .int (iI (k 0 1))])), (q 2, aI g 10 (k 1)), (q 3, .inr (0, [.ref (q 4), .int (iI (k 0 9)), .int (iI (k 0 6)), .int (iI (k 0 4)), .int (iI (k 0 5)), .long (lI (k 0 7)), .long (lI (k 0 8))])), (q 4, aI g 48 (k 2)), (q 5, aI g 4 (k 3)), (q 6, aI g 4 (k 4)), (q 7, aI g 4 (k 5))] 0 0 Q := by
  intro n
  induction n with
  | zero =>
    intro i le hi hle0 hle
    have hi9 : i = 4 := by omega
    refine j_iload C 4 dX2_nextToRise_7 rfl ?_
    refine j_iconst C dX2_nextToRise_9 ?_
    refine j_icmp_ge (tgt := 83) C (by omega) (by decide) dX2_nextToRise_10 (by decide) (fun c10 => ?_) (fun c10 => absurd c10 (by omega))
    refine J.sub (L1 := [(0, .ref (q 0)), (1, .int (iI hand)), (2, .int (iI (nxr (k 5) (k 4) hand i))), (3, .int (iI le)), (4, .int (iI ((i : Int))))]) [0, 1, 2, 3, 4] rfl ?_
    rw [hi9]
    exact kk le
  | succ n ih =>
    intro i le hi hle0 hle
    obtain ⟨hP, hE0, hF, hrow0, hwt, hht, hlen, hlat, hkept⟩ := id hk
    have hE : -10 ≤ k 0 3 ∧ k 0 3 ≤ 10 := by omega
    have hrow : ∀ i : Nat, (i : Int) < k 0 2 → 0 ≤ k 1 i ∧ k 1 i ≤ 4 := fun i hi => by have := hrow0 i hi; omega
    have hf9 := hfc i (by omega)
    have hh9 := hht i (by omega)
    have hn9 := nxr_rng (k 5) (k 4) hand i
    refine j_iload C 4 dX2_nextToRise_7 rfl ?_
    refine j_iconst C dX2_nextToRise_9 ?_
    refine j_icmp_ge (tgt := 83) C (by omega) (by decide) dX2_nextToRise_10 (by decide) (fun c10 => absurd c10 (by omega)) (fun c10 => ?_)
    refine j_aload_n C 0 dX2_nextToRise_13 rfl rfl ?_
    refine j_get C ck2 0 4 (by decide) qw95 rfl rfl dX2_nextToRise_14 ?_
    refine j_iload C 4 dX2_nextToRise_17 rfl ?_
    refine j_callSN (As := [.ref (q 7), .int (iI ((i : Int)))]) (rest := []) C ys_X4_at qn295 (c_X4_at l g (q 7) 4 (k 5) ((i : Int)) i (by omega) (by omega) (by decide)) (by decide) rfl dX2_nextToRise_19 rfl (Nat.le_of_ble_eq_true rfl) (by decide) (pf1 [(q 0, .inr (2, [.ref (q 1), .ref (q 3), .ref (q 5), .ref (q 6), .ref (q 7), .int (iI (k 0 0))])), (q 1, .inr (1, [.ref (q 2), .int (iI (k 0 2)), .int (iI (k 0 3)), .int (iI (k 0 1))])), (q 2, aI g 10 (k 1)), (q 3, .inr (0, [.ref (q 4), .int (iI (k 0 9)), .int (iI (k 0 6)), .int (iI (k 0 4)), .int (iI (k 0 5)), .long (lI (k 0 7)), .long (lI (k 0 8))])), (q 4, aI g 48 (k 2)), (q 5, aI g 4 (k 3)), (q 6, aI g 4 (k 4))] []) rfl (fun r9 w9 hq9 => ?_)
    obtain ⟨rfl, rfl⟩ := hq9
    refine J.to (L1 := [(0, .ref (q 0)), (1, .int (iI hand)), (2, .int (iI (nxr (k 5) (k 4) hand i))), (3, .int (iI le)), (4, .int (iI ((i : Int))))]) (S1 := [.int (iI ((k 5) i))]) (ws1 := [(q 0, .inr (2, [.ref (q 1), .ref (q 3), .ref (q 5), .ref (q 6), .ref (q 7), .int (iI (k 0 0))])), (q 1, .inr (1, [.ref (q 2), .int (iI (k 0 2)), .int (iI (k 0 3)), .int (iI (k 0 1))])), (q 2, aI g 10 (k 1)), (q 3, .inr (0, [.ref (q 4), .int (iI (k 0 9)), .int (iI (k 0 6)), .int (iI (k 0 4)), .int (iI (k 0 5)), .long (lI (k 0 7)), .long (lI (k 0 8))])), (q 4, aI g 48 (k 2)), (q 5, aI g 4 (k 3)), (q 6, aI g 4 (k 4)), (q 7, aI g 4 (k 5))]) rfl rfl rfl ?_
    refine j_istore (L1 := [(5, .int (iI ((k 5) i))), (0, .ref (q 0)), (1, .int (iI hand)), (2, .int (iI (nxr (k 5) (k 4) hand i))), (3, .int (iI le)), (4, .int (iI ((i : Int))))]) C dX2_nextToRise_22 (by decide) rfl ?_
    refine j_iload C 0 dX2_nextToRise_24 rfl ?_
    refine j_iconst C dX2_nextToRise_26 ?_
    refine j_icmp_eq (tgt := 52) C (by omega) (by decide) dX2_nextToRise_27 (by decide) (fun c27 => ?_) (fun c27 => ?_)
    · refine j_iconst C dX2_nextToRise_52 ?_
      refine j_istore (L1 := [(6, .int (iI 0)), (5, .int (iI ((k 5) i))), (0, .ref (q 0)), (1, .int (iI hand)), (2, .int (iI (nxr (k 5) (k 4) hand i))), (3, .int (iI le)), (4, .int (iI ((i : Int))))]) C dX2_nextToRise_53 (by decide) rfl ?_
      refine j_iload C 0 dX2_nextToRise_55 rfl ?_
      refine j_if_eq (tgt := 77) C (by decide) dX2_nextToRise_57 (by decide) (fun c57 => ?_) (fun c57 => absurd c57 (by decide))
      refine j_iinc (L1 := [(4, .int (iI (((i : Int)) + 1))), (6, .int (iI 0)), (5, .int (iI ((k 5) i))), (0, .ref (q 0)), (1, .int (iI hand)), (2, .int (iI (nxr (k 5) (k 4) hand i))), (3, .int (iI le))]) C 6 dX2_nextToRise_77 rfl (by decide) rfl ?_
      refine j_goto (tgt := 7) C dX2_nextToRise_80 (by decide) ?_
      refine J.sub (L1 := [(0, .ref (q 0)), (1, .int (iI hand)), (2, .int (iI (nxr (k 5) (k 4) hand i))), (3, .int (iI le)), (4, .int (iI (((i : Int)) + 1)))]) [3, 4, 5, 6, 0] rfl ?_
      have e9 : nxr (k 5) (k 4) hand (i + 1) = nxr (k 5) (k 4) hand i := by simp only [nxr]; exact if_neg (fun h9 => h9.1.1 c27)
      have h9 := ih (i + 1) le (by omega) (by omega) (fun h9 => by rw [e9] at h9 ⊢; exact hle h9)
      rw [e9] at h9
      exact h9
    · refine j_iload C 0 dX2_nextToRise_30 rfl ?_
      refine j_iload_n C 2 dX2_nextToRise_32 rfl rfl ?_
      refine j_icmp_gt (tgt := 52) C (by omega) (by omega) dX2_nextToRise_33 (by decide) (fun c33 => ?_) (fun c33 => ?_)
      · refine j_iconst C dX2_nextToRise_52 ?_
        refine j_istore (L1 := [(6, .int (iI 0)), (5, .int (iI ((k 5) i))), (0, .ref (q 0)), (1, .int (iI hand)), (2, .int (iI (nxr (k 5) (k 4) hand i))), (3, .int (iI le)), (4, .int (iI ((i : Int))))]) C dX2_nextToRise_53 (by decide) rfl ?_
        refine j_iload C 0 dX2_nextToRise_55 rfl ?_
        refine j_if_eq (tgt := 77) C (by decide) dX2_nextToRise_57 (by decide) (fun c57 => ?_) (fun c57 => absurd c57 (by decide))
        refine j_iinc (L1 := [(4, .int (iI (((i : Int)) + 1))), (6, .int (iI 0)), (5, .int (iI ((k 5) i))), (0, .ref (q 0)), (1, .int (iI hand)), (2, .int (iI (nxr (k 5) (k 4) hand i))), (3, .int (iI le))]) C 6 dX2_nextToRise_77 rfl (by decide) rfl ?_
        refine j_goto (tgt := 7) C dX2_nextToRise_80 (by decide) ?_
        refine J.sub (L1 := [(0, .ref (q 0)), (1, .int (iI hand)), (2, .int (iI (nxr (k 5) (k 4) hand i))), (3, .int (iI le)), (4, .int (iI (((i : Int)) + 1)))]) [3, 4, 5, 6, 0] rfl ?_
        have e9 : nxr (k 5) (k 4) hand (i + 1) = nxr (k 5) (k 4) hand i := by simp only [nxr]; exact if_neg (fun h9 => by have := h9.1.2.1; omega)
        have h9 := ih (i + 1) le (by omega) (by omega) (fun h9 => by rw [e9] at h9 ⊢; exact hle h9)
        rw [e9] at h9
        exact h9
      · refine j_aload_n C 1 dX2_nextToRise_36 rfl rfl ?_
        refine j_iload C 5 dX2_nextToRise_37 rfl ?_
        refine j_callV (As := [.int (iI ((i : Int)))]) (rest := []) C yv_X2_heightOf qw343 (c_X2_heightOf l g q k ((i : Int)) hk (by omega)) (by decide) 0 rfl rfl rfl dX2_nextToRise_39 rfl (Nat.le_of_ble_eq_true rfl) (by decide) pf0 rfl (fun r9 w9 hq9 => ?_)
        obtain ⟨rfl, rfl⟩ := hq9
        refine J.to (L1 := [(5, .int (iI ((k 5) i))), (0, .ref (q 0)), (1, .int (iI hand)), (2, .int (iI (nxr (k 5) (k 4) hand i))), (3, .int (iI le)), (4, .int (iI ((i : Int))))]) (S1 := [.int (iI (k 4 i))]) (ws1 := [(q 0, .inr (2, [.ref (q 1), .ref (q 3), .ref (q 5), .ref (q 6), .ref (q 7), .int (iI (k 0 0))])), (q 1, .inr (1, [.ref (q 2), .int (iI (k 0 2)), .int (iI (k 0 3)), .int (iI (k 0 1))])), (q 2, aI g 10 (k 1)), (q 3, .inr (0, [.ref (q 4), .int (iI (k 0 9)), .int (iI (k 0 6)), .int (iI (k 0 4)), .int (iI (k 0 5)), .long (lI (k 0 7)), .long (lI (k 0 8))])), (q 4, aI g 48 (k 2)), (q 5, aI g 4 (k 3)), (q 6, aI g 4 (k 4)), (q 7, aI g 4 (k 5))]) rfl rfl rfl ?_
        refine j_sipush C dX2_nextToRise_42 (by decide) ?_
        refine j_icmp_ge (tgt := 52) C (by omega) (by decide) dX2_nextToRise_45 (by decide) (fun c45 => ?_) (fun c45 => ?_)
        · refine j_iconst C dX2_nextToRise_52 ?_
          refine j_istore (L1 := [(6, .int (iI 0)), (5, .int (iI ((k 5) i))), (0, .ref (q 0)), (1, .int (iI hand)), (2, .int (iI (nxr (k 5) (k 4) hand i))), (3, .int (iI le)), (4, .int (iI ((i : Int))))]) C dX2_nextToRise_53 (by decide) rfl ?_
          refine j_iload C 0 dX2_nextToRise_55 rfl ?_
          refine j_if_eq (tgt := 77) C (by decide) dX2_nextToRise_57 (by decide) (fun c57 => ?_) (fun c57 => absurd c57 (by decide))
          refine j_iinc (L1 := [(4, .int (iI (((i : Int)) + 1))), (6, .int (iI 0)), (5, .int (iI ((k 5) i))), (0, .ref (q 0)), (1, .int (iI hand)), (2, .int (iI (nxr (k 5) (k 4) hand i))), (3, .int (iI le))]) C 6 dX2_nextToRise_77 rfl (by decide) rfl ?_
          refine j_goto (tgt := 7) C dX2_nextToRise_80 (by decide) ?_
          refine J.sub (L1 := [(0, .ref (q 0)), (1, .int (iI hand)), (2, .int (iI (nxr (k 5) (k 4) hand i))), (3, .int (iI le)), (4, .int (iI (((i : Int)) + 1)))]) [3, 4, 5, 6, 0] rfl ?_
          have e9 : nxr (k 5) (k 4) hand (i + 1) = nxr (k 5) (k 4) hand i := by simp only [nxr]; exact if_neg (fun h9 => by have := h9.1.2.2; omega)
          have h9 := ih (i + 1) le (by omega) (by omega) (fun h9 => by rw [e9] at h9 ⊢; exact hle h9)
          rw [e9] at h9
          exact h9
        · refine j_iconst C dX2_nextToRise_48 ?_
          refine j_goto (tgt := 53) C dX2_nextToRise_49 (by decide) ?_
          refine j_istore (L1 := [(6, .int (iI 1)), (5, .int (iI ((k 5) i))), (0, .ref (q 0)), (1, .int (iI hand)), (2, .int (iI (nxr (k 5) (k 4) hand i))), (3, .int (iI le)), (4, .int (iI ((i : Int))))]) C dX2_nextToRise_53 (by decide) rfl ?_
          refine j_iload C 0 dX2_nextToRise_55 rfl ?_
          refine j_if_eq (tgt := 77) C (by decide) dX2_nextToRise_57 (by decide) (fun c57 => absurd c57 (by decide)) (fun c57 => ?_)
          refine j_iload_n C 4 dX2_nextToRise_60 rfl rfl ?_
          refine j_iconst C dX2_nextToRise_61 ?_
          refine j_icmp_eq (tgt := 71) C (by omega) (by decide) dX2_nextToRise_62 (by decide) (fun c62 => ?_) (fun c62 => ?_)
          · refine j_iload C 6 dX2_nextToRise_71 rfl ?_
            refine j_istore_n (L1 := [(2, .int (iI ((i : Int)))), (6, .int (iI 1)), (5, .int (iI ((k 5) i))), (0, .ref (q 0)), (1, .int (iI hand)), (3, .int (iI le)), (4, .int (iI ((i : Int))))]) C dX2_nextToRise_73 rfl (by decide) rfl ?_
            refine j_iload C 2 dX2_nextToRise_74 rfl ?_
            refine j_istore_n (L1 := [(3, .int (iI ((k 5) i))), (2, .int (iI ((i : Int)))), (6, .int (iI 1)), (5, .int (iI ((k 5) i))), (0, .ref (q 0)), (1, .int (iI hand)), (4, .int (iI ((i : Int))))]) C dX2_nextToRise_76 rfl (by decide) rfl ?_
            refine j_iinc (L1 := [(4, .int (iI (((i : Int)) + 1))), (3, .int (iI ((k 5) i))), (2, .int (iI ((i : Int)))), (6, .int (iI 1)), (5, .int (iI ((k 5) i))), (0, .ref (q 0)), (1, .int (iI hand))]) C 6 dX2_nextToRise_77 rfl (by decide) rfl ?_
            refine j_goto (tgt := 7) C dX2_nextToRise_80 (by decide) ?_
            refine J.sub (L1 := [(0, .ref (q 0)), (1, .int (iI hand)), (2, .int (iI ((i : Int)))), (3, .int (iI ((k 5) i))), (4, .int (iI (((i : Int)) + 1)))]) [5, 6, 2, 1, 0] rfl ?_
            have e9 : nxr (k 5) (k 4) hand (i + 1) = (i : Int) := by simp only [nxr]; exact if_pos ⟨⟨c27, c33, c45⟩, Or.inl c62⟩
            have h9 := ih (i + 1) ((k 5) i) (by omega) (by omega) (fun _ => by rw [e9]; rfl)
            rw [e9] at h9
            exact h9
          · refine j_iload C 1 dX2_nextToRise_65 rfl ?_
            refine j_iload_n C 5 dX2_nextToRise_67 rfl rfl ?_
            refine j_icmp_ge (tgt := 77) C (by omega) (by omega) dX2_nextToRise_68 (by decide) (fun c68 => ?_) (fun c68 => ?_)
            · refine j_iinc (L1 := [(4, .int (iI (((i : Int)) + 1))), (6, .int (iI 1)), (5, .int (iI ((k 5) i))), (0, .ref (q 0)), (1, .int (iI hand)), (2, .int (iI (nxr (k 5) (k 4) hand i))), (3, .int (iI le))]) C 6 dX2_nextToRise_77 rfl (by decide) rfl ?_
              refine j_goto (tgt := 7) C dX2_nextToRise_80 (by decide) ?_
              refine J.sub (L1 := [(0, .ref (q 0)), (1, .int (iI hand)), (2, .int (iI (nxr (k 5) (k 4) hand i))), (3, .int (iI le)), (4, .int (iI (((i : Int)) + 1)))]) [3, 4, 5, 6, 0] rfl ?_
              have e9 : nxr (k 5) (k 4) hand (i + 1) = nxr (k 5) (k 4) hand i := by simp only [nxr]; exact if_neg (fun h9 => by rcases h9.2 with h8 | h8; exact c62 h8; rw [← hle c62] at h8; omega)
              have h9 := ih (i + 1) le (by omega) (by omega) (fun h9 => by rw [e9] at h9 ⊢; exact hle h9)
              rw [e9] at h9
              exact h9
            · refine j_iload C 6 dX2_nextToRise_71 rfl ?_
              refine j_istore_n (L1 := [(2, .int (iI ((i : Int)))), (6, .int (iI 1)), (5, .int (iI ((k 5) i))), (0, .ref (q 0)), (1, .int (iI hand)), (3, .int (iI le)), (4, .int (iI ((i : Int))))]) C dX2_nextToRise_73 rfl (by decide) rfl ?_
              refine j_iload C 2 dX2_nextToRise_74 rfl ?_
              refine j_istore_n (L1 := [(3, .int (iI ((k 5) i))), (2, .int (iI ((i : Int)))), (6, .int (iI 1)), (5, .int (iI ((k 5) i))), (0, .ref (q 0)), (1, .int (iI hand)), (4, .int (iI ((i : Int))))]) C dX2_nextToRise_76 rfl (by decide) rfl ?_
              refine j_iinc (L1 := [(4, .int (iI (((i : Int)) + 1))), (3, .int (iI ((k 5) i))), (2, .int (iI ((i : Int)))), (6, .int (iI 1)), (5, .int (iI ((k 5) i))), (0, .ref (q 0)), (1, .int (iI hand))]) C 6 dX2_nextToRise_77 rfl (by decide) rfl ?_
              refine j_goto (tgt := 7) C dX2_nextToRise_80 (by decide) ?_
              refine J.sub (L1 := [(0, .ref (q 0)), (1, .int (iI hand)), (2, .int (iI ((i : Int)))), (3, .int (iI ((k 5) i))), (4, .int (iI (((i : Int)) + 1)))]) [5, 6, 2, 1, 0] rfl ?_
              have e9 : nxr (k 5) (k 4) hand (i + 1) = (i : Int) := by simp only [nxr]; exact if_pos ⟨⟨c27, c33, c45⟩, Or.inr (by rw [← hle c62]; exact c68)⟩
              have h9 := ih (i + 1) ((k 5) i) (by omega) (by omega) (fun _ => by rw [e9]; rfl)
              rw [e9] at h9
              exact h9

theorem c_X2_nextToRise (l : Launch) (g : Gh) (q : Nat → Nat) (k : Nat → Nat → Int) (hand : Int) (hk : SOK k) (hfc : ∀ b : Nat, b < 4 → -1 ≤ k 5 b ∧ k 5 b ≤ 1000000) (hhand : 0 ≤ hand ∧ hand ≤ 1000000) : CT l g yX2_nextToRise cX2_nextToRise 7 (some FieldType.int) ({ frames := 2, cells := 0, slots := 0, locals := 42 }) [.ref (q 0), .int (iI hand)] [(q 0, .inr (2, [.ref (q 1), .ref (q 3), .ref (q 5), .ref (q 6), .ref (q 7), .int (iI (k 0 0))])), (q 1, .inr (1, [.ref (q 2), .int (iI (k 0 2)), .int (iI (k 0 3)), .int (iI (k 0 1))])), (q 2, aI g 10 (k 1)), (q 3, .inr (0, [.ref (q 4), .int (iI (k 0 9)), .int (iI (k 0 6)), .int (iI (k 0 4)), .int (iI (k 0 5)), .long (lI (k 0 7)), .long (lI (k 0 8))])), (q 4, aI g 48 (k 2)), (q 5, aI g 4 (k 3)), (q 6, aI g 4 (k 4)), (q 7, aI g 4 (k 5))] (PE (some (.int (iI (nxr (k 5) (k 4) hand 4)))) (wSt g q k)) := by
  refine CT.intro (L0 := [(0, .ref (q 0)), (1, .int (iI hand))]) (own := RX2) (by decide) rfl (Nat.le_of_ble_eq_true rfl) rfl ?_
  intro pX eX sX mX argsX belowX methX cX A C hr hlk
  obtain ⟨hP, hE0, hF, hrow0, hwt, hht, hlen, hlat, hkept⟩ := id hk
  have hE : -10 ≤ k 0 3 ∧ k 0 3 ≤ 10 := by omega
  have hrow : ∀ i : Nat, (i : Int) < k 0 2 → 0 ≤ k 1 i ∧ k 1 i ≤ 4 := fun i hi => by have := hrow0 i hi; omega
  refine j_iconst C dX2_nextToRise_0 ?_
  refine j_istore_n (L1 := [(2, .int (iI (-1))), (0, .ref (q 0)), (1, .int (iI hand))]) C dX2_nextToRise_1 rfl (by decide) rfl ?_
  refine j_iconst C dX2_nextToRise_2 ?_
  refine j_istore_n (L1 := [(3, .int (iI (-1))), (2, .int (iI (-1))), (0, .ref (q 0)), (1, .int (iI hand))]) C dX2_nextToRise_3 rfl (by decide) rfl ?_
  refine j_iconst C dX2_nextToRise_4 ?_
  refine j_istore (L1 := [(4, .int (iI 0)), (3, .int (iI (-1))), (2, .int (iI (-1))), (0, .ref (q 0)), (1, .int (iI hand))]) C dX2_nextToRise_5 (by decide) rfl ?_
  refine J.sub (L1 := [(0, .ref (q 0)), (1, .int (iI hand)), (2, .int (iI (-1))), (3, .int (iI (-1))), (4, .int (iI 0))]) [3, 4, 2, 1, 0] rfl ?_
  refine lp_nextToRise C hk hfc hhand (fun le => ?_) 4 0 (-1) (by omega) (by decide) (fun h9 => absurd rfl h9)
  refine j_iload_n C 2 dX2_nextToRise_83 rfl rfl ?_
  exact j_iret C hr hlk dX2_nextToRise_84 ⟨rfl, rfl⟩ (by decide) (by decide)

theorem lp_nextToSink {p : Program} {l : Launch} {e : Env} {s : State} {m : MethodId} {args : Array Value} {below : List Frame} {meth : Method} {c : Code} {g : Gh} {A : Nat → Prop} {Q : State → Prop} (C : Cx p g s m args c cX2_nextToSink 6 RX2 A) {q : Nat → Nat} {k : Nat → Nat → Int} {hand : Int} (hk : SOK k) (hfc : ∀ b : Nat, b < 4 → -1 ≤ k 5 b ∧ k 5 b ≤ 1000000) (hhand : 0 ≤ hand ∧ hand ≤ 1000000) (kk : ∀ le : Int, J p l e ({ frames := 2, cells := 0, slots := 0, locals := 42 } : Room) s m args below meth c g A 6 51 [(0, .ref (q 0)), (1, .int (iI hand)), (2, .int (iI (nxs (k 5) (k 4) hand 4))), (3, .int (iI le)), (4, .int (iI 4))] [] [(q 0, .inr (2, [.ref (q 1), .ref (q 3), .ref (q 5), .ref (q 6), .ref (q 7), .int (iI (k 0 0))])), (q 1, .inr (1, [.ref (q 2), .int (iI (k 0 2)), .int (iI (k 0 3)), .int (iI (k 0 1))])), (q 2, aI g 10 (k 1)), (q 3, .inr (0, [.ref (q 4), .int (iI (k 0 9)), .int (iI (k 0 6)), .int (iI (k 0 4)), .int (iI (k 0 5)), .long (lI (k 0 7)), .long (lI (k 0 8))])), (q 4, aI g 48 (k 2)), (q 5, aI g 4 (k 3)), (q 6, aI g 4 (k 4)), (q 7, aI g 4 (k 5))] 0 0 Q) : ∀ (n i : Nat) (le : Int), i + n = 4 → (-1 ≤ le ∧ le ≤ 1000000) → le = (if nxs (k 5) (k 4) hand i = -1 then hand else k 5 (nxs (k 5) (k 4) hand i).toNat) → J p l e ({ frames := 2, cells := 0, slots := 0, locals := 42 } : Room) s m args below meth c g A 6 7 [(0, .ref (q 0)), (1, .int (iI hand)), (2, .int (iI (nxs (k 5) (k 4) hand i))), (3, .int (iI le)), (4, .int (iI ((i : Int))))] [] [(q 0, .inr (2, [.ref (q 1), .ref (q 3), .ref (q 5), .ref (q 6), .ref (q 7), .int (iI (k 0 0))])), (q 1, .inr (1, [.ref (q 2), .int (iI (k 0 2)), .int (iI (k 0 3)), .int (iI (k 0 1))])), (q 2, aI g 10 (k 1)), (q 3, .inr (0, [.ref (q 4), .int (iI (k 0 9)), .int (iI (k 0 6)), .int (iI (k 0 4)), .int (iI (k 0 5)), .long (lI (k 0 7)), .long (lI (k 0 8))])), (q 4, aI g 48 (k 2)), (q 5, aI g 4 (k 3)), (q 6, aI g 4 (k 4)), (q 7, aI g 4 (k 5))] 0 0 Q := by
  intro n
  induction n with
  | zero =>
    intro i le hi hle0 hle
    have hi9 : i = 4 := by omega
    refine j_iload C 4 dX2_nextToSink_7 rfl ?_
    refine j_iconst C dX2_nextToSink_9 ?_
    refine j_icmp_ge (tgt := 51) C (by omega) (by decide) dX2_nextToSink_10 (by decide) (fun c10 => ?_) (fun c10 => absurd c10 (by omega))
    refine J.sub (L1 := [(0, .ref (q 0)), (1, .int (iI hand)), (2, .int (iI (nxs (k 5) (k 4) hand i))), (3, .int (iI le)), (4, .int (iI ((i : Int))))]) [0, 1, 2, 3, 4] rfl ?_
    rw [hi9]
    exact kk le
  | succ n ih =>
    intro i le hi hle0 hle
    obtain ⟨hP, hE0, hF, hrow0, hwt, hht, hlen, hlat, hkept⟩ := id hk
    have hE : -10 ≤ k 0 3 ∧ k 0 3 ≤ 10 := by omega
    have hrow : ∀ i : Nat, (i : Int) < k 0 2 → 0 ≤ k 1 i ∧ k 1 i ≤ 4 := fun i hi => by have := hrow0 i hi; omega
    have hf9 := hfc i (by omega)
    have hh9 := hht i (by omega)
    have hn9 := nxs_rng (k 5) (k 4) hand i
    refine j_iload C 4 dX2_nextToSink_7 rfl ?_
    refine j_iconst C dX2_nextToSink_9 ?_
    refine j_icmp_ge (tgt := 51) C (by omega) (by decide) dX2_nextToSink_10 (by decide) (fun c10 => absurd c10 (by omega)) (fun c10 => ?_)
    refine j_aload_n C 0 dX2_nextToSink_13 rfl rfl ?_
    refine j_get C ck2 0 4 (by decide) qw95 rfl rfl dX2_nextToSink_14 ?_
    refine j_iload C 4 dX2_nextToSink_17 rfl ?_
    refine j_callSN (As := [.ref (q 7), .int (iI ((i : Int)))]) (rest := []) C ys_X4_at qn295 (c_X4_at l g (q 7) 4 (k 5) ((i : Int)) i (by omega) (by omega) (by decide)) (by decide) rfl dX2_nextToSink_19 rfl (Nat.le_of_ble_eq_true rfl) (by decide) (pf1 [(q 0, .inr (2, [.ref (q 1), .ref (q 3), .ref (q 5), .ref (q 6), .ref (q 7), .int (iI (k 0 0))])), (q 1, .inr (1, [.ref (q 2), .int (iI (k 0 2)), .int (iI (k 0 3)), .int (iI (k 0 1))])), (q 2, aI g 10 (k 1)), (q 3, .inr (0, [.ref (q 4), .int (iI (k 0 9)), .int (iI (k 0 6)), .int (iI (k 0 4)), .int (iI (k 0 5)), .long (lI (k 0 7)), .long (lI (k 0 8))])), (q 4, aI g 48 (k 2)), (q 5, aI g 4 (k 3)), (q 6, aI g 4 (k 4))] []) rfl (fun r9 w9 hq9 => ?_)
    obtain ⟨rfl, rfl⟩ := hq9
    refine J.to (L1 := [(0, .ref (q 0)), (1, .int (iI hand)), (2, .int (iI (nxs (k 5) (k 4) hand i))), (3, .int (iI le)), (4, .int (iI ((i : Int))))]) (S1 := [.int (iI ((k 5) i))]) (ws1 := [(q 0, .inr (2, [.ref (q 1), .ref (q 3), .ref (q 5), .ref (q 6), .ref (q 7), .int (iI (k 0 0))])), (q 1, .inr (1, [.ref (q 2), .int (iI (k 0 2)), .int (iI (k 0 3)), .int (iI (k 0 1))])), (q 2, aI g 10 (k 1)), (q 3, .inr (0, [.ref (q 4), .int (iI (k 0 9)), .int (iI (k 0 6)), .int (iI (k 0 4)), .int (iI (k 0 5)), .long (lI (k 0 7)), .long (lI (k 0 8))])), (q 4, aI g 48 (k 2)), (q 5, aI g 4 (k 3)), (q 6, aI g 4 (k 4)), (q 7, aI g 4 (k 5))]) rfl rfl rfl ?_
    refine j_istore (L1 := [(5, .int (iI ((k 5) i))), (0, .ref (q 0)), (1, .int (iI hand)), (2, .int (iI (nxs (k 5) (k 4) hand i))), (3, .int (iI le)), (4, .int (iI ((i : Int))))]) C dX2_nextToSink_22 (by decide) rfl ?_
    refine j_iload C 0 dX2_nextToSink_24 rfl ?_
    refine j_iload_n C 4 dX2_nextToSink_26 rfl rfl ?_
    refine j_icmp_le (tgt := 45) C (by omega) (by omega) dX2_nextToSink_27 (by decide) (fun c27 => ?_) (fun c27 => ?_)
    · refine j_iinc (L1 := [(4, .int (iI (((i : Int)) + 1))), (5, .int (iI ((k 5) i))), (0, .ref (q 0)), (1, .int (iI hand)), (2, .int (iI (nxs (k 5) (k 4) hand i))), (3, .int (iI le))]) C 5 dX2_nextToSink_45 rfl (by decide) rfl ?_
      refine j_goto (tgt := 7) C dX2_nextToSink_48 (by decide) ?_
      refine J.sub (L1 := [(0, .ref (q 0)), (1, .int (iI hand)), (2, .int (iI (nxs (k 5) (k 4) hand i))), (3, .int (iI le)), (4, .int (iI (((i : Int)) + 1)))]) [2, 3, 4, 5, 0] rfl ?_
      have e9 : nxs (k 5) (k 4) hand (i + 1) = nxs (k 5) (k 4) hand i := by simp only [nxs]; exact if_neg (fun h9 => by have h8 := h9.1; rw [← hle] at h8; omega)
      have h9 := ih (i + 1) le (by omega) (by omega) (by rw [e9]; exact hle)
      rw [e9] at h9
      exact h9
    · refine j_aload_n C 1 dX2_nextToSink_30 rfl rfl ?_
      refine j_iload C 5 dX2_nextToSink_31 rfl ?_
      refine j_callV (As := [.int (iI ((i : Int)))]) (rest := []) C yv_X2_heightOf qw343 (c_X2_heightOf l g q k ((i : Int)) hk (by omega)) (by decide) 0 rfl rfl rfl dX2_nextToSink_33 rfl (Nat.le_of_ble_eq_true rfl) (by decide) pf0 rfl (fun r9 w9 hq9 => ?_)
      obtain ⟨rfl, rfl⟩ := hq9
      refine J.to (L1 := [(5, .int (iI ((k 5) i))), (0, .ref (q 0)), (1, .int (iI hand)), (2, .int (iI (nxs (k 5) (k 4) hand i))), (3, .int (iI le)), (4, .int (iI ((i : Int))))]) (S1 := [.int (iI (k 4 i))]) (ws1 := [(q 0, .inr (2, [.ref (q 1), .ref (q 3), .ref (q 5), .ref (q 6), .ref (q 7), .int (iI (k 0 0))])), (q 1, .inr (1, [.ref (q 2), .int (iI (k 0 2)), .int (iI (k 0 3)), .int (iI (k 0 1))])), (q 2, aI g 10 (k 1)), (q 3, .inr (0, [.ref (q 4), .int (iI (k 0 9)), .int (iI (k 0 6)), .int (iI (k 0 4)), .int (iI (k 0 5)), .long (lI (k 0 7)), .long (lI (k 0 8))])), (q 4, aI g 48 (k 2)), (q 5, aI g 4 (k 3)), (q 6, aI g 4 (k 4)), (q 7, aI g 4 (k 5))]) rfl rfl rfl ?_
      refine j_if_le (tgt := 45) C (by omega) dX2_nextToSink_36 (by decide) (fun c36 => ?_) (fun c36 => ?_)
      · refine j_iinc (L1 := [(4, .int (iI (((i : Int)) + 1))), (5, .int (iI ((k 5) i))), (0, .ref (q 0)), (1, .int (iI hand)), (2, .int (iI (nxs (k 5) (k 4) hand i))), (3, .int (iI le))]) C 5 dX2_nextToSink_45 rfl (by decide) rfl ?_
        refine j_goto (tgt := 7) C dX2_nextToSink_48 (by decide) ?_
        refine J.sub (L1 := [(0, .ref (q 0)), (1, .int (iI hand)), (2, .int (iI (nxs (k 5) (k 4) hand i))), (3, .int (iI le)), (4, .int (iI (((i : Int)) + 1)))]) [2, 3, 4, 5, 0] rfl ?_
        have e9 : nxs (k 5) (k 4) hand (i + 1) = nxs (k 5) (k 4) hand i := by simp only [nxs]; exact if_neg (fun h9 => by have := h9.2; omega)
        have h9 := ih (i + 1) le (by omega) (by omega) (by rw [e9]; exact hle)
        rw [e9] at h9
        exact h9
      · refine j_iload C 5 dX2_nextToSink_39 rfl ?_
        refine j_istore_n (L1 := [(2, .int (iI ((i : Int)))), (5, .int (iI ((k 5) i))), (0, .ref (q 0)), (1, .int (iI hand)), (3, .int (iI le)), (4, .int (iI ((i : Int))))]) C dX2_nextToSink_41 rfl (by decide) rfl ?_
        refine j_iload C 1 dX2_nextToSink_42 rfl ?_
        refine j_istore_n (L1 := [(3, .int (iI ((k 5) i))), (2, .int (iI ((i : Int)))), (5, .int (iI ((k 5) i))), (0, .ref (q 0)), (1, .int (iI hand)), (4, .int (iI ((i : Int))))]) C dX2_nextToSink_44 rfl (by decide) rfl ?_
        refine j_iinc (L1 := [(4, .int (iI (((i : Int)) + 1))), (3, .int (iI ((k 5) i))), (2, .int (iI ((i : Int)))), (5, .int (iI ((k 5) i))), (0, .ref (q 0)), (1, .int (iI hand))]) C 5 dX2_nextToSink_45 rfl (by decide) rfl ?_
        refine j_goto (tgt := 7) C dX2_nextToSink_48 (by decide) ?_
        refine J.sub (L1 := [(0, .ref (q 0)), (1, .int (iI hand)), (2, .int (iI ((i : Int)))), (3, .int (iI ((k 5) i))), (4, .int (iI (((i : Int)) + 1)))]) [4, 5, 2, 1, 0] rfl ?_
        have e9 : nxs (k 5) (k 4) hand (i + 1) = (i : Int) := by simp only [nxs]; exact if_pos ⟨by rw [← hle]; exact c27, c36⟩
        have h9 := ih (i + 1) ((k 5) i) (by omega) (by omega) (by rw [e9, if_neg (by omega)]; rfl)
        rw [e9] at h9
        exact h9

theorem c_X2_nextToSink (l : Launch) (g : Gh) (q : Nat → Nat) (k : Nat → Nat → Int) (hand : Int) (hk : SOK k) (hfc : ∀ b : Nat, b < 4 → -1 ≤ k 5 b ∧ k 5 b ≤ 1000000) (hhand : 0 ≤ hand ∧ hand ≤ 1000000) : CT l g yX2_nextToSink cX2_nextToSink 6 (some FieldType.int) ({ frames := 2, cells := 0, slots := 0, locals := 42 }) [.ref (q 0), .int (iI hand)] [(q 0, .inr (2, [.ref (q 1), .ref (q 3), .ref (q 5), .ref (q 6), .ref (q 7), .int (iI (k 0 0))])), (q 1, .inr (1, [.ref (q 2), .int (iI (k 0 2)), .int (iI (k 0 3)), .int (iI (k 0 1))])), (q 2, aI g 10 (k 1)), (q 3, .inr (0, [.ref (q 4), .int (iI (k 0 9)), .int (iI (k 0 6)), .int (iI (k 0 4)), .int (iI (k 0 5)), .long (lI (k 0 7)), .long (lI (k 0 8))])), (q 4, aI g 48 (k 2)), (q 5, aI g 4 (k 3)), (q 6, aI g 4 (k 4)), (q 7, aI g 4 (k 5))] (PE (some (.int (iI (nxs (k 5) (k 4) hand 4)))) (wSt g q k)) := by
  refine CT.intro (L0 := [(0, .ref (q 0)), (1, .int (iI hand))]) (own := RX2) (by decide) rfl (Nat.le_of_ble_eq_true rfl) rfl ?_
  intro pX eX sX mX argsX belowX methX cX A C hr hlk
  obtain ⟨hP, hE0, hF, hrow0, hwt, hht, hlen, hlat, hkept⟩ := id hk
  have hE : -10 ≤ k 0 3 ∧ k 0 3 ≤ 10 := by omega
  have hrow : ∀ i : Nat, (i : Int) < k 0 2 → 0 ≤ k 1 i ∧ k 1 i ≤ 4 := fun i hi => by have := hrow0 i hi; omega
  refine j_iconst C dX2_nextToSink_0 ?_
  refine j_istore_n (L1 := [(2, .int (iI (-1))), (0, .ref (q 0)), (1, .int (iI hand))]) C dX2_nextToSink_1 rfl (by decide) rfl ?_
  refine j_iload_n C 2 dX2_nextToSink_2 rfl rfl ?_
  refine j_istore_n (L1 := [(3, .int (iI hand)), (2, .int (iI (-1))), (0, .ref (q 0)), (1, .int (iI hand))]) C dX2_nextToSink_3 rfl (by decide) rfl ?_
  refine j_iconst C dX2_nextToSink_4 ?_
  refine j_istore (L1 := [(4, .int (iI 0)), (3, .int (iI hand)), (2, .int (iI (-1))), (0, .ref (q 0)), (1, .int (iI hand))]) C dX2_nextToSink_5 (by decide) rfl ?_
  refine J.sub (L1 := [(0, .ref (q 0)), (1, .int (iI hand)), (2, .int (iI (-1))), (3, .int (iI hand)), (4, .int (iI 0))]) [3, 4, 2, 1, 0] rfl ?_
  refine lp_nextToSink C hk hfc hhand (fun le => ?_) 4 0 hand (by omega) (by omega) rfl
  refine j_iload_n C 2 dX2_nextToSink_51 rfl rfl ?_
  exact j_iret C hr hlk dX2_nextToSink_52 ⟨rfl, rfl⟩ (by decide) (by decide)

