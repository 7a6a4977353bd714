/-! RopeTackle: what if, parse, undo -/
noncomputable def ffa (k : Nat → Nat → Int) : Nat → Int
  | 0 => 0
  | b + 1 => if ffa k b = -1 then -1 else if 0 < strn (k 1) (k 0 2).toNat (k 0 3) (b : Int) ∧ k 4 b < 9000 then (if lea (k 1) (k 0 1) true (k 0 2).toNat (k 0 3) (b : Int) (k 3 b) = -1 then -1 else if ffa k b < lea (k 1) (k 0 1) true (k 0 2).toNat (k 0 3) (b : Int) (k 3 b) then lea (k 1) (k 0 1) true (k 0 2).toNat (k 0 3) (b : Int) (k 3 b) else ffa k b) else ffa k b
theorem ffa_stay {k : Nat → Nat → Int} {i : Nat} (h : ffa k i = -1) : ∀ n, ffa k (i + n) = -1
  | 0 => h
  | n + 1 => by
    show ffa k (i + n + 1) = -1
    rw [ffa, if_pos (ffa_stay h n)]
def sf (F f : Int) : Nat → Int
  | 0 => 0
  | n + 1 => sf F f n + (fbn F true f (2 * n + 1) + fbn F true f (2 * n + 2))
theorem psum_sf {g : Nat → Int} {F b f : Int} : ∀ {n : Nat}, (∀ i, i < n → g i = b) → psum g F true b f n = sf F f n
  | 0, _ => rfl
  | n + 1, h => by rw [psum, sf, psum_sf (fun i hi => h i (by omega)), if_pos (h n (by omega))]
def pfs (F f w : Int) : Nat → Nat → Int
  | 0, _ => -1
  | m + 1, n => if w ≤ sf F f (n + 1) then ((n + 1 : Nat) : Int) else pfs F f w m (n + 1)
def kU (kn kt : Nat → Nat → Int) (b : Int) (n : Nat) : Nat → Nat → Int := va_up (va_up (cpS kn kt) 0 (va_up (va_up (kn 0) 2 (n : Int)) 3 4)) 1 (cpy n (fun _ => b) (cpS kn kt 1))
theorem SOK_U {kn kt : Nat → Nat → Int} (hk : SOK kn) {b : Int} (hb : 0 ≤ b ∧ b < 4) {n : Nat} (hn : n ≤ 10) : SOK (kU kn kt b n) := by
  have h := SOK_cpS (k := kt) hk
  refine ⟨⟨?_, ?_⟩, (show (0 : Int) ≤ 4 ∧ (4 : Int) ≤ 4 by decide), h.2.2.1, fun i hi => ?_, h.2.2.2.2.1, h.2.2.2.2.2.1, h.2.2.2.2.2.2.1, h.2.2.2.2.2.2.2.1, h.2.2.2.2.2.2.2.2⟩
  · show 0 ≤ (n : Int)
    omega
  · show (n : Int) ≤ 10
    omega
  · have hi2 : (i : Int) < n := hi
    show 0 ≤ cpy n (fun _ => b) (cpS kn kt 1) i ∧ cpy n (fun _ => b) (cpS kn kt 1) i ≤ 3
    unfold cpy
    rw [if_pos (by omega)]
    show 0 ≤ b ∧ b ≤ 3
    omega
theorem pulU {kn kt : Nat → Nat → Int} {b f : Int} (hb : 0 ≤ b ∧ b < 4) {n : Nat} : pul (kU kn kt b n 1) (kU kn kt b n 0 1) true (kU kn kt b n 0 2).toNat (kU kn kt b n 0 3) b f = sf (kn 0 1) f n := by
  show psum (cpy n (fun _ => b) (cpS kn kt 1)) (kn 0 1) true b f n + (if (4 : Int) = b then _ else 0) = _
  rw [if_neg (by omega), Int.add_zero, psum_sf (fun i hi => by unfold cpy; exact if_pos hi)]
theorem cp4 {kn kt : Nat → Nat → Int} {b : Int} (hb : 0 ≤ b ∧ b < 4) (c : Nat) (hc : c = 3 ∨ c = 4) : cpS kn kt c b.toNat = kn c b.toNat := by
  rcases hc with rfl | rfl
  · show cpy 4 (kn 3) (kt 3) b.toNat = _
    unfold cpy
    exact if_pos (by omega)
  · show cpy 4 (kn 4) (kt 4) b.toNat = _
    unfold cpy
    exact if_pos (by omega)
theorem cp10 {kn kt : Nat → Nat → Int} {i : Nat} (hi : i < 10) : cpS kn kt 1 i = kn 1 i := by
  show cpy 10 (kn 1) (kt 1) i = _
  unfold cpy
  exact if_pos hi
theorem lp_pulleysFor {p : Program} {l : Launch} {e : Env} {s : State} {m : MethodId} {args : Array Value} {below : List Frame} {meth : Method} {c : Code} {g : Gh} {A : Nat → Prop} (C : Cx p g s m args c cX4_pulleysFor 4 RX4 A) (hr : meth.sig.returnType = some .int) (hlk : meth.locks = false) {r : Nat → Nat} {qn qt : Nat → Nat} {qv : Nat → Nat → Nat} {kn kt : Nat → Nat → Int} {kv : Nat → Nat → Nat → Int} {sc : Int} {ns : Nat} {tx : Nat → Int} {tn : Nat} {pl : Int} {b f Fin : Int} (hT : TOK kn kv sc ns tx tn) (hb4 : 0 ≤ b ∧ b < 4) (hf : 0 ≤ f ∧ f ≤ 1000000) : ∀ (m9 n : Nat), n + m9 = 10 → pfs (kn 0 1) f (kn 3 b.toNat) m9 n = Fin → J p l e ({ frames := 3, cells := 0, slots := 0, locals := 64 } : Room) s m args below meth c g A 4 34 [(0, .ref (r 0)), (1, .int (iI b)), (2, .int (iI f)), (3, .int (iI ((n : Int) + 1)))] [] ([(r 0, .inr (4, [.ref (qn 0), .ref (qt 0), .ref (r 1), .int (iI sc), .int (iI ((ns : Int))), .ref (r 2)])), (r 1, aS g 4 (fun j => some (qv j 0))), (r 2, .inr (3, [.ref (r 3), .int (iI ((tn : Int))), .int (iI pl)])), (r 3, aI g 60 tx)] ++ (wSt g qn kn ++ (wSt g qt (kU kn kt b n) ++ (wS4 g qv kv)))) 0 0 (MQ below (QE g A (fun r9 w9 => r9 = (some (.int (iI (Fin)))) ∧ ∃ kt9 : Nat → Nat → Int, w9 = wTp g r qn qt qv kn kt9 kv sc ns tx tn pl)) args s 0 0 A) := by
  intro m9
  induction m9 with
  | zero =>
    intro n hi hfin
    refine j_iload_n C 3 dX4_pulleysFor_34 rfl rfl ?_
    refine j_bipush C dX4_pulleysFor_35 (by decide) ?_
    refine j_icmp_gt (tgt := 85) C (by omega) (by decide) dX4_pulleysFor_37 (by decide) (fun c37 => ?_) (fun c37 => absurd c37 (by omega))
    refine j_iconst C dX4_pulleysFor_85 ?_
    exact j_iret C hr hlk dX4_pulleysFor_86 ⟨by rw [← hfin]; rfl, _, rfl⟩ (by decide) (by decide)
  | succ m9 ih =>
    intro n hi hfin
    obtain ⟨⟨hk, hh0⟩, hkv, hsc, hns, htn, htx⟩ := id hT
    obtain ⟨hP, hE0, hF, hrow0, hwt, hht, hlen, hlat, hkept⟩ := id hk
    have hE : -10 ≤ kn 0 3 ∧ kn 0 3 ≤ 10 := by omega
    have hrow : ∀ i : Nat, (i : Int) < kn 0 2 → 0 ≤ kn 1 i ∧ kn 1 i ≤ 4 := fun i hi => by have := hrow0 i hi; omega
    have hc2 : cpS kn kt 0 2 = kn 0 2 := rfl
    have hhnd : 0 ≤ hnd kn ∧ hnd kn ≤ 300000 := ⟨hh0, hnd_le hk⟩
    obtain ⟨uP, uE0, uF, urow0, uw, uh, ul, ulat, ukept⟩ := SOK_U (kt := kt) hk hb4 (n := n + 1) (by omega)
    have uE : -10 ≤ kU kn kt b (n + 1) 0 3 ∧ kU kn kt b (n + 1) 0 3 ≤ 10 := by omega
    have urow : ∀ i : Nat, (i : Int) < kU kn kt b (n + 1) 0 2 → 0 ≤ kU kn kt b (n + 1) 1 i ∧ kU kn kt b (n + 1) 1 i ≤ 4 := fun i hi => by have := urow0 i hi; omega
    have un : kU kn kt b n 0 2 = (n : Int) := rfl
    have uw9 := hwt b.toNat (by omega)
    refine j_iload_n C 3 dX4_pulleysFor_34 rfl rfl ?_
    refine j_bipush C dX4_pulleysFor_35 (by decide) ?_
    refine j_icmp_gt (tgt := 85) C (by omega) (by decide) dX4_pulleysFor_37 (by decide) (fun c37 => absurd c37 (by omega)) (fun c37 => ?_)
    refine j_aload_n C 0 dX4_pulleysFor_40 rfl rfl ?_
    refine j_get C ck4 0 1 (by decide) qw131 rfl rfl dX4_pulleysFor_41 ?_
    refine j_getN C ck2 12 0 (by decide) qn90 rfl rfl dX4_pulleysFor_44 ?_
    refine j_iload_n C 1 dX4_pulleysFor_47 rfl rfl ?_
    refine j_callV (As := [.int (iI b)]) (rest := []) C yv_X1_hang qw509 (c_X1_hang l g (qt 1) (qt 2) ((kU kn kt b n) 1) ((kU kn kt b n) 0 2) ((kU kn kt b n) 0 3) ((kU kn kt b n) 0 1) b (by omega)) (by decide) 13 rfl rfl rfl dX4_pulleysFor_48 rfl (Nat.le_of_ble_eq_true rfl) (by decide) (pf1 ([(r 0, .inr (4, [.ref (qn 0), .ref (qt 0), .ref (r 1), .int (iI sc), .int (iI ((ns : Int))), .ref (r 2)])), (r 1, aS g 4 (fun j => some (qv j 0))), (r 2, .inr (3, [.ref (r 3), .int (iI ((tn : Int))), .int (iI pl)])), (r 3, aI g 60 tx)] ++ (wSt g qn kn ++ ([(qt 0, .inr (2, [.ref (qt 1), .ref (qt 3), .ref (qt 5), .ref (qt 6), .ref (qt 7), .int (iI ((kU kn kt b n) 0 0))]))]))) ([(qt 3, .inr (0, [.ref (qt 4), .int (iI ((kU kn kt b n) 0 9)), .int (iI ((kU kn kt b n) 0 6)), .int (iI ((kU kn kt b n) 0 4)), .int (iI ((kU kn kt b n) 0 5)), .long (lI ((kU kn kt b n) 0 7)), .long (lI ((kU kn kt b n) 0 8))])), (qt 4, aI g 48 ((kU kn kt b n) 2)), (qt 5, aI g 4 ((kU kn kt b n) 3)), (qt 6, aI g 4 ((kU kn kt b n) 4)), (qt 7, aI g 4 ((kU kn kt b n) 5))] ++ (wS4 g qv kv))) rfl (fun r9 w9 hq9 => ?_)
    obtain ⟨rfl, rfl⟩ := hq9
    refine J.to (L1 := [(0, .ref (r 0)), (1, .int (iI b)), (2, .int (iI f)), (3, .int (iI ((n : Int) + 1)))]) (S1 := []) (ws1 := ([(r 0, .inr (4, [.ref (qn 0), .ref (qt 0), .ref (r 1), .int (iI sc), .int (iI ((ns : Int))), .ref (r 2)])), (r 1, aS g 4 (fun j => some (qv j 0))), (r 2, .inr (3, [.ref (r 3), .int (iI ((tn : Int))), .int (iI pl)])), (r 3, aI g 60 tx)] ++ (wSt g qn kn ++ ([(qt 0, .inr (2, [.ref (qt 1), .ref (qt 3), .ref (qt 5), .ref (qt 6), .ref (qt 7), .int (iI ((kU kn kt b n) 0 0))])), (qt 1, .inr (1, [.ref ((qt 2)), .int (iI (((kU kn kt b n) 0 2) + 1)), .int (iI (((kU kn kt b n) 0 3))), .int (iI (((kU kn kt b n) 0 1)))])), ((qt 2), aI g 10 (va_up ((kU kn kt b n) 1) ((((kU kn kt b n) 0 2)).toNat) b)), (qt 3, .inr (0, [.ref (qt 4), .int (iI ((kU kn kt b n) 0 9)), .int (iI ((kU kn kt b n) 0 6)), .int (iI ((kU kn kt b n) 0 4)), .int (iI ((kU kn kt b n) 0 5)), .long (lI ((kU kn kt b n) 0 7)), .long (lI ((kU kn kt b n) 0 8))])), (qt 4, aI g 48 ((kU kn kt b n) 2)), (qt 5, aI g 4 ((kU kn kt b n) 3)), (qt 6, aI g 4 ((kU kn kt b n) 4)), (qt 7, aI g 4 ((kU kn kt b n) 5))] ++ (wS4 g qv kv))))) rfl rfl rfl ?_
    refine J.world (ws1 := ([(r 0, .inr (4, [.ref (qn 0), .ref (qt 0), .ref (r 1), .int (iI sc), .int (iI ((ns : Int))), .ref (r 2)])), (r 1, aS g 4 (fun j => some (qv j 0))), (r 2, .inr (3, [.ref (r 3), .int (iI ((tn : Int))), .int (iI pl)])), (r 3, aI g 60 tx)] ++ (wSt g qn kn ++ ([(qt 0, .inr (2, [.ref (qt 1), .ref (qt 3), .ref (qt 5), .ref (qt 6), .ref (qt 7), .int (iI ((kU kn kt b n) 0 0))])), (qt 1, .inr (1, [.ref ((qt 2)), .int (iI (((n + 1 : Nat) : Int))), .int (iI (((kU kn kt b n) 0 3))), .int (iI (((kU kn kt b n) 0 1)))])), (qt 2, aI g 10 (va_up (kU kn kt b n 1) n b)), (qt 3, .inr (0, [.ref (qt 4), .int (iI ((kU kn kt b n) 0 9)), .int (iI ((kU kn kt b n) 0 6)), .int (iI ((kU kn kt b n) 0 4)), .int (iI ((kU kn kt b n) 0 5)), .long (lI ((kU kn kt b n) 0 7)), .long (lI ((kU kn kt b n) 0 8))])), (qt 4, aI g 48 ((kU kn kt b n) 2)), (qt 5, aI g 4 ((kU kn kt b n) 3)), (qt 6, aI g 4 ((kU kn kt b n) 4)), (qt 7, aI g 4 ((kU kn kt b n) 5))] ++ (wS4 g qv kv))))) rfl ?_
    rw [show va_up (kU kn kt b n 1) n b = kU kn kt b (n + 1) 1 from cpy_succ n (fun _ => b) (cpS kn kt 1)]
    refine J.world (ws1 := ([(r 0, .inr (4, [.ref (qn 0), .ref (qt 0), .ref (r 1), .int (iI sc), .int (iI ((ns : Int))), .ref (r 2)])), (r 1, aS g 4 (fun j => some (qv j 0))), (r 2, .inr (3, [.ref (r 3), .int (iI ((tn : Int))), .int (iI pl)])), (r 3, aI g 60 tx)] ++ (wSt g qn kn ++ (wSt g qt (kU kn kt b (n + 1)) ++ (wS4 g qv kv))))) rfl ?_
    refine j_aload_n C 0 dX4_pulleysFor_51 rfl rfl ?_
    refine j_get C ck4 0 1 (by decide) qw131 rfl rfl dX4_pulleysFor_52 ?_
    refine j_getN C ck2 12 0 (by decide) qn90 rfl rfl dX4_pulleysFor_55 ?_
    refine j_iload_n C 1 dX4_pulleysFor_58 rfl rfl ?_
    refine j_iload_n C 2 dX4_pulleysFor_59 rfl rfl ?_
    refine j_iconst C dX4_pulleysFor_60 ?_
    refine j_callV (As := [.int (iI b), .int (iI f), .int (iI 1)]) (rest := []) C yv_X1_pullOn qw547 (c_X1_pullOn l g (qt 1) (qt 2) ((kU kn kt b (n + 1)) 1) ((kU kn kt b (n + 1)) 0 2) ((kU kn kt b (n + 1)) 0 3) ((kU kn kt b (n + 1)) 0 1) b f true uP uE uF (by omega) (by omega) urow) (by decide) 13 rfl rfl rfl dX4_pulleysFor_61 rfl (Nat.le_of_ble_eq_true rfl) (by decide) (pf1 ([(r 0, .inr (4, [.ref (qn 0), .ref (qt 0), .ref (r 1), .int (iI sc), .int (iI ((ns : Int))), .ref (r 2)])), (r 1, aS g 4 (fun j => some (qv j 0))), (r 2, .inr (3, [.ref (r 3), .int (iI ((tn : Int))), .int (iI pl)])), (r 3, aI g 60 tx)] ++ (wSt g qn kn ++ ([(qt 0, .inr (2, [.ref (qt 1), .ref (qt 3), .ref (qt 5), .ref (qt 6), .ref (qt 7), .int (iI ((kU kn kt b (n + 1)) 0 0))]))]))) ([(qt 3, .inr (0, [.ref (qt 4), .int (iI ((kU kn kt b (n + 1)) 0 9)), .int (iI ((kU kn kt b (n + 1)) 0 6)), .int (iI ((kU kn kt b (n + 1)) 0 4)), .int (iI ((kU kn kt b (n + 1)) 0 5)), .long (lI ((kU kn kt b (n + 1)) 0 7)), .long (lI ((kU kn kt b (n + 1)) 0 8))])), (qt 4, aI g 48 ((kU kn kt b (n + 1)) 2)), (qt 5, aI g 4 ((kU kn kt b (n + 1)) 3)), (qt 6, aI g 4 ((kU kn kt b (n + 1)) 4)), (qt 7, aI g 4 ((kU kn kt b (n + 1)) 5))] ++ (wS4 g qv kv))) rfl (fun r9 w9 hq9 => ?_)
    obtain ⟨rfl, rfl⟩ := hq9
    refine J.to (L1 := [(0, .ref (r 0)), (1, .int (iI b)), (2, .int (iI f)), (3, .int (iI ((n : Int) + 1)))]) (S1 := [.long (lI (pul ((kU kn kt b (n + 1)) 1) ((kU kn kt b (n + 1)) 0 1) true ((kU kn kt b (n + 1)) 0 2).toNat ((kU kn kt b (n + 1)) 0 3) b f))]) (ws1 := ([(r 0, .inr (4, [.ref (qn 0), .ref (qt 0), .ref (r 1), .int (iI sc), .int (iI ((ns : Int))), .ref (r 2)])), (r 1, aS g 4 (fun j => some (qv j 0))), (r 2, .inr (3, [.ref (r 3), .int (iI ((tn : Int))), .int (iI pl)])), (r 3, aI g 60 tx)] ++ (wSt g qn kn ++ (wSt g qt (kU kn kt b (n + 1)) ++ (wS4 g qv kv))))) rfl rfl rfl ?_
    have hp61 := pul_le (f := (kU kn kt b (n + 1)) 1) (F := (kU kn kt b (n + 1)) 0 1) (h := true) (n := ((kU kn kt b (n + 1)) 0 2).toNat) (E := (kU kn kt b (n + 1)) 0 3) (b := b) (t := f) uF (by omega) (by omega)
    refine J.to (L1 := [(0, .ref (r 0)), (1, .int (iI b)), (2, .int (iI f)), (3, .int (iI ((n : Int) + 1)))]) (S1 := [.long (lI (sf (kn 0 1) f (n + 1)))]) (ws1 := ([(r 0, .inr (4, [.ref (qn 0), .ref (qt 0), .ref (r 1), .int (iI sc), .int (iI ((ns : Int))), .ref (r 2)])), (r 1, aS g 4 (fun j => some (qv j 0))), (r 2, .inr (3, [.ref (r 3), .int (iI ((tn : Int))), .int (iI pl)])), (r 3, aI g 60 tx)] ++ (wSt g qn kn ++ (wSt g qt (kU kn kt b (n + 1)) ++ (wS4 g qv kv))))) rfl rfl (by rw [show ((pul ((kU kn kt b (n + 1)) 1) ((kU kn kt b (n + 1)) 0 1) true ((kU kn kt b (n + 1)) 0 2).toNat ((kU kn kt b (n + 1)) 0 3) b f : Int)) = sf (kn 0 1) f (n + 1) from (pulU hb4)]) ?_
    have hs9 := hp61; rw [pulU hb4] at hs9
    refine j_aload_n C 0 dX4_pulleysFor_64 rfl rfl ?_
    refine j_get C ck4 0 1 (by decide) qw131 rfl rfl dX4_pulleysFor_65 ?_
    refine j_iload_n C 1 dX4_pulleysFor_68 rfl rfl ?_
    refine j_callV (As := [.int (iI b)]) (rest := [.long (lI (sf (kn 0 1) f (n + 1)))]) C yv_X2_weightOf qw291 (c_X2_weightOf l g qt (kU kn kt b (n + 1)) b (SOK_U hk hb4 (by omega)) (by omega)) (by decide) 12 rfl rfl rfl dX4_pulleysFor_69 rfl (Nat.le_of_ble_eq_true rfl) (by decide) (pf1 [(r 0, .inr (4, [.ref (qn 0), .ref (qt 0), .ref (r 1), .int (iI sc), .int (iI ((ns : Int))), .ref (r 2)])), (r 1, aS g 4 (fun j => some (qv j 0))), (r 2, .inr (3, [.ref (r 3), .int (iI ((tn : Int))), .int (iI pl)])), (r 3, aI g 60 tx), (qn 0, .inr (2, [.ref (qn 1), .ref (qn 3), .ref (qn 5), .ref (qn 6), .ref (qn 7), .int (iI (kn 0 0))])), (qn 1, .inr (1, [.ref (qn 2), .int (iI (kn 0 2)), .int (iI (kn 0 3)), .int (iI (kn 0 1))])), (qn 2, aI g 10 (kn 1)), (qn 3, .inr (0, [.ref (qn 4), .int (iI (kn 0 9)), .int (iI (kn 0 6)), .int (iI (kn 0 4)), .int (iI (kn 0 5)), .long (lI (kn 0 7)), .long (lI (kn 0 8))])), (qn 4, aI g 48 (kn 2)), (qn 5, aI g 4 (kn 3)), (qn 6, aI g 4 (kn 4)), (qn 7, aI g 4 (kn 5))] (wS4 g qv kv)) rfl (fun r9 w9 hq9 => ?_)
    obtain ⟨rfl, rfl⟩ := hq9
    refine J.to (L1 := [(0, .ref (r 0)), (1, .int (iI b)), (2, .int (iI f)), (3, .int (iI ((n : Int) + 1)))]) (S1 := [.int (iI ((kU kn kt b (n + 1)) 3 b.toNat)), .long (lI (sf (kn 0 1) f (n + 1)))]) (ws1 := ([(r 0, .inr (4, [.ref (qn 0), .ref (qt 0), .ref (r 1), .int (iI sc), .int (iI ((ns : Int))), .ref (r 2)])), (r 1, aS g 4 (fun j => some (qv j 0))), (r 2, .inr (3, [.ref (r 3), .int (iI ((tn : Int))), .int (iI pl)])), (r 3, aI g 60 tx)] ++ (wSt g qn kn ++ (wSt g qt (kU kn kt b (n + 1)) ++ (wS4 g qv kv))))) rfl rfl rfl ?_
    refine J.to (L1 := [(0, .ref (r 0)), (1, .int (iI b)), (2, .int (iI f)), (3, .int (iI ((n : Int) + 1)))]) (S1 := [.int (iI (kn 3 b.toNat)), .long (lI (sf (kn 0 1) f (n + 1)))]) (ws1 := ([(r 0, .inr (4, [.ref (qn 0), .ref (qt 0), .ref (r 1), .int (iI sc), .int (iI ((ns : Int))), .ref (r 2)])), (r 1, aS g 4 (fun j => some (qv j 0))), (r 2, .inr (3, [.ref (r 3), .int (iI ((tn : Int))), .int (iI pl)])), (r 3, aI g 60 tx)] ++ (wSt g qn kn ++ (wSt g qt (kU kn kt b (n + 1)) ++ (wS4 g qv kv))))) rfl rfl (by rw [show (((kU kn kt b (n + 1)) 3 b.toNat : Int)) = kn 3 b.toNat from (cp4 hb4 3 (Or.inl rfl))]) ?_
    refine j_i2l C (by omega) dX4_pulleysFor_72 ?_
    refine j_lif_lt (tgt := 79) C (by omega) (by omega) dX4_pulleysFor_73 dX4_pulleysFor_74 (by decide) (fun c73 => ?_) (fun c73 => ?_)
    · refine j_iinc (L1 := [(3, .int (iI (((n : Int) + 1) + 1))), (0, .ref (r 0)), (1, .int (iI b)), (2, .int (iI f))]) C 3 dX4_pulleysFor_79 rfl (by decide) rfl ?_
      refine j_goto (tgt := 34) C dX4_pulleysFor_82 (by decide) ?_
      refine J.sub (L1 := [(0, .ref (r 0)), (1, .int (iI b)), (2, .int (iI f)), (3, .int (iI (((n : Int) + 1) + 1)))]) [1, 2, 3, 0] rfl ?_
      exact ih (n + 1) (by omega) (by rw [pfs, if_neg (by omega)] at hfin; exact hfin)
    · refine j_iload_n C 3 dX4_pulleysFor_77 rfl rfl ?_
      exact j_iret C hr hlk dX4_pulleysFor_78 ⟨by rw [← hfin, pfs, if_pos c73]; rfl, _, rfl⟩ (by decide) (by decide)

theorem c_X4_pulleysFor (l : Launch) (g : Gh) (r : Nat → Nat) (qn qt : Nat → Nat) (qv : Nat → Nat → Nat) (kn kt : Nat → Nat → Int) (kv : Nat → Nat → Nat → Int) (sc : Int) (ns : Nat) (tx : Nat → Int) (tn : Nat) (pl : Int) (b f : Int) (hT : TOK kn kv sc ns tx tn) (hb4 : 0 ≤ b ∧ b < 4) (hf : 0 ≤ f ∧ f ≤ 1000000) : CT l g yX4_pulleysFor cX4_pulleysFor 4 (some FieldType.int) ({ frames := 3, cells := 0, slots := 0, locals := 64 }) [.ref (r 0), .int (iI b), .int (iI f)] ([(r 0, .inr (4, [.ref (qn 0), .ref (qt 0), .ref (r 1), .int (iI sc), .int (iI ((ns : Int))), .ref (r 2)])), (r 1, aS g 4 (fun j => some (qv j 0))), (r 2, .inr (3, [.ref (r 3), .int (iI ((tn : Int))), .int (iI pl)])), (r 3, aI g 60 tx)] ++ (wSt g qn kn ++ (wSt g qt kt ++ (wS4 g qv kv)))) (fun r9 w9 => r9 = (some (.int (iI (pfs (kn 0 1) f (kn 3 b.toNat) 10 0)))) ∧ ∃ kt9 : Nat → Nat → Int, w9 = wTp g r qn qt qv kn kt9 kv sc ns tx tn pl) := by
  refine CT.intro (L0 := [(0, .ref (r 0)), (1, .int (iI b)), (2, .int (iI f))]) (own := RX4) (by decide) rfl (Nat.le_of_ble_eq_true rfl) rfl ?_
  intro pX eX sX mX argsX belowX methX cX A C hr hlk
  obtain ⟨⟨hk, hh0⟩, hkv, hsc, hns, htn, htx⟩ := id hT
  obtain ⟨hP, hE0, hF, hrow0, hwt, hht, hlen, hlat, hkept⟩ := id hk
  have hE : -10 ≤ kn 0 3 ∧ kn 0 3 ≤ 10 := by omega
  have hrow : ∀ i : Nat, (i : Int) < kn 0 2 → 0 ≤ kn 1 i ∧ kn 1 i ≤ 4 := fun i hi => by have := hrow0 i hi; omega
  have hc2 : cpS kn kt 0 2 = kn 0 2 := rfl
  have hhnd : 0 ≤ hnd kn ∧ hnd kn ≤ 300000 := ⟨hh0, hnd_le hk⟩
  refine j_iload_n C 1 dX4_pulleysFor_0 rfl rfl ?_
  refine j_callS (As := [.int (iI b)]) (rest := []) C ys_X4_checkBlock qw166 (c_X4_checkBlock l g b (by omega)) (by decide) rfl dX4_pulleysFor_1 rfl (Nat.le_of_ble_eq_true rfl) (by decide) (pf1 [] ([(r 0, .inr (4, [.ref (qn 0), .ref (qt 0), .ref (r 1), .int (iI sc), .int (iI ((ns : Int))), .ref (r 2)])), (r 1, aS g 4 (fun j => some (qv j 0))), (r 2, .inr (3, [.ref (r 3), .int (iI ((tn : Int))), .int (iI pl)])), (r 3, aI g 60 tx)] ++ (wSt g qn kn ++ (wSt g qt kt ++ (wS4 g qv kv))))) rfl (fun r9 w9 hq9 => ?_)
  obtain ⟨rfl, rfl⟩ := hq9
  refine J.to (L1 := [(0, .ref (r 0)), (1, .int (iI b)), (2, .int (iI f))]) (S1 := []) (ws1 := ([(r 0, .inr (4, [.ref (qn 0), .ref (qt 0), .ref (r 1), .int (iI sc), .int (iI ((ns : Int))), .ref (r 2)])), (r 1, aS g 4 (fun j => some (qv j 0))), (r 2, .inr (3, [.ref (r 3), .int (iI ((tn : Int))), .int (iI pl)])), (r 3, aI g 60 tx)] ++ (wSt g qn kn ++ (wSt g qt kt ++ (wS4 g qv kv))))) rfl rfl rfl ?_
  refine j_iload_n C 2 dX4_pulleysFor_4 rfl rfl ?_
  refine j_iconst C dX4_pulleysFor_5 ?_
  refine j_ldc (x := 1000000) C qw375 (by decide) dX4_pulleysFor_6 ?_
  refine j_callS (As := [.int (iI f), .int (iI 0), .int (iI 1000000)]) (rest := []) C ys_X4_checkRange qw241 (c_X4_checkRange l g f 0 1000000 (by omega) (by omega) (by omega) (by omega)) (by decide) rfl dX4_pulleysFor_8 rfl (Nat.le_of_ble_eq_true rfl) (by decide) (pf1 [] ([(r 0, .inr (4, [.ref (qn 0), .ref (qt 0), .ref (r 1), .int (iI sc), .int (iI ((ns : Int))), .ref (r 2)])), (r 1, aS g 4 (fun j => some (qv j 0))), (r 2, .inr (3, [.ref (r 3), .int (iI ((tn : Int))), .int (iI pl)])), (r 3, aI g 60 tx)] ++ (wSt g qn kn ++ (wSt g qt kt ++ (wS4 g qv kv))))) rfl (fun r9 w9 hq9 => ?_)
  obtain ⟨rfl, rfl⟩ := hq9
  refine J.to (L1 := [(0, .ref (r 0)), (1, .int (iI b)), (2, .int (iI f))]) (S1 := []) (ws1 := ([(r 0, .inr (4, [.ref (qn 0), .ref (qt 0), .ref (r 1), .int (iI sc), .int (iI ((ns : Int))), .ref (r 2)])), (r 1, aS g 4 (fun j => some (qv j 0))), (r 2, .inr (3, [.ref (r 3), .int (iI ((tn : Int))), .int (iI pl)])), (r 3, aI g 60 tx)] ++ (wSt g qn kn ++ (wSt g qt kt ++ (wS4 g qv kv))))) rfl rfl rfl ?_
  refine j_aload_n C 0 dX4_pulleysFor_11 rfl rfl ?_
  refine j_get C ck4 0 1 (by decide) qw131 rfl rfl dX4_pulleysFor_12 ?_
  refine j_aload_n C 0 dX4_pulleysFor_15 rfl rfl ?_
  refine j_get C ck4 0 0 (by decide) qw130 rfl rfl dX4_pulleysFor_16 ?_
  refine j_callV (As := [.ref (qn 0)]) (rest := []) C yv_X2_copyFrom qw268 (c_X2_copyFrom l g qt kt qn kn) (by decide) 12 rfl rfl rfl dX4_pulleysFor_19 rfl (Nat.le_of_ble_eq_true rfl) (by decide) (pf2r [(r 0, .inr (4, [.ref (qn 0), .ref (qt 0), .ref (r 1), .int (iI sc), .int (iI ((ns : Int))), .ref (r 2)])), (r 1, aS g 4 (fun j => some (qv j 0))), (r 2, .inr (3, [.ref (r 3), .int (iI ((tn : Int))), .int (iI pl)])), (r 3, aI g 60 tx)] 8 [] (wS4 g qv kv)) rfl (fun r9 w9 hq9 => ?_)
  obtain ⟨rfl, rfl⟩ := hq9
  refine J.to (L1 := [(0, .ref (r 0)), (1, .int (iI b)), (2, .int (iI f))]) (S1 := []) (ws1 := ([(r 0, .inr (4, [.ref (qn 0), .ref (qt 0), .ref (r 1), .int (iI sc), .int (iI ((ns : Int))), .ref (r 2)])), (r 1, aS g 4 (fun j => some (qv j 0))), (r 2, .inr (3, [.ref (r 3), .int (iI ((tn : Int))), .int (iI pl)])), (r 3, aI g 60 tx)] ++ (wSt g qn kn ++ (wSt g qt (cpS kn kt) ++ (wS4 g qv kv))))) rfl rfl rfl ?_
  refine j_aload_n C 0 dX4_pulleysFor_22 rfl rfl ?_
  refine j_get C ck4 0 1 (by decide) qw131 rfl rfl dX4_pulleysFor_23 ?_
  refine j_getN C ck2 12 0 (by decide) qn90 rfl rfl dX4_pulleysFor_26 ?_
  refine j_callV (As := []) (rest := []) C yv_X1_unreeve qw543 (c_X1_unreeve l g (qt 1) (qt 2) ((cpS kn kt) 0 2) ((cpS kn kt) 0 3) ((cpS kn kt) 0 1)  ) (by decide) 13 rfl rfl rfl dX4_pulleysFor_29 rfl (Nat.le_of_ble_eq_true rfl) (by decide) (pf1 ([(r 0, .inr (4, [.ref (qn 0), .ref (qt 0), .ref (r 1), .int (iI sc), .int (iI ((ns : Int))), .ref (r 2)])), (r 1, aS g 4 (fun j => some (qv j 0))), (r 2, .inr (3, [.ref (r 3), .int (iI ((tn : Int))), .int (iI pl)])), (r 3, aI g 60 tx)] ++ (wSt g qn kn ++ ([(qt 0, .inr (2, [.ref (qt 1), .ref (qt 3), .ref (qt 5), .ref (qt 6), .ref (qt 7), .int (iI ((cpS kn kt) 0 0))]))]))) ([(qt 2, aI g 10 ((cpS kn kt) 1)), (qt 3, .inr (0, [.ref (qt 4), .int (iI ((cpS kn kt) 0 9)), .int (iI ((cpS kn kt) 0 6)), .int (iI ((cpS kn kt) 0 4)), .int (iI ((cpS kn kt) 0 5)), .long (lI ((cpS kn kt) 0 7)), .long (lI ((cpS kn kt) 0 8))])), (qt 4, aI g 48 ((cpS kn kt) 2)), (qt 5, aI g 4 ((cpS kn kt) 3)), (qt 6, aI g 4 ((cpS kn kt) 4)), (qt 7, aI g 4 ((cpS kn kt) 5))] ++ (wS4 g qv kv))) rfl (fun r9 w9 hq9 => ?_)
  obtain ⟨rfl, rfl⟩ := hq9
  refine J.to (L1 := [(0, .ref (r 0)), (1, .int (iI b)), (2, .int (iI f))]) (S1 := []) (ws1 := ([(r 0, .inr (4, [.ref (qn 0), .ref (qt 0), .ref (r 1), .int (iI sc), .int (iI ((ns : Int))), .ref (r 2)])), (r 1, aS g 4 (fun j => some (qv j 0))), (r 2, .inr (3, [.ref (r 3), .int (iI ((tn : Int))), .int (iI pl)])), (r 3, aI g 60 tx)] ++ (wSt g qn kn ++ ([(qt 0, .inr (2, [.ref (qt 1), .ref (qt 3), .ref (qt 5), .ref (qt 6), .ref (qt 7), .int (iI ((cpS kn kt) 0 0))])), (qt 1, .inr (1, [.ref ((qt 2)), .int (iI 0), .int (iI 4), .int (iI (((cpS kn kt) 0 1)))])), (qt 2, aI g 10 ((cpS kn kt) 1)), (qt 3, .inr (0, [.ref (qt 4), .int (iI ((cpS kn kt) 0 9)), .int (iI ((cpS kn kt) 0 6)), .int (iI ((cpS kn kt) 0 4)), .int (iI ((cpS kn kt) 0 5)), .long (lI ((cpS kn kt) 0 7)), .long (lI ((cpS kn kt) 0 8))])), (qt 4, aI g 48 ((cpS kn kt) 2)), (qt 5, aI g 4 ((cpS kn kt) 3)), (qt 6, aI g 4 ((cpS kn kt) 4)), (qt 7, aI g 4 ((cpS kn kt) 5))] ++ (wS4 g qv kv))))) rfl rfl rfl ?_
  refine j_iconst C dX4_pulleysFor_32 ?_
  refine j_istore_n (L1 := [(3, .int (iI 1)), (0, .ref (r 0)), (1, .int (iI b)), (2, .int (iI f))]) C dX4_pulleysFor_33 rfl (by decide) rfl ?_
  refine J.sub (L1 := [(0, .ref (r 0)), (1, .int (iI b)), (2, .int (iI f)), (3, .int (iI 1))]) [1, 2, 3, 0] rfl ?_
  refine J.to (L1 := [(0, .ref (r 0)), (1, .int (iI b)), (2, .int (iI f)), (3, .int (iI (((0 : Nat) : Int) + 1)))]) (S1 := []) (ws1 := ([(r 0, .inr (4, [.ref (qn 0), .ref (qt 0), .ref (r 1), .int (iI sc), .int (iI ((ns : Int))), .ref (r 2)])), (r 1, aS g 4 (fun j => some (qv j 0))), (r 2, .inr (3, [.ref (r 3), .int (iI ((tn : Int))), .int (iI pl)])), (r 3, aI g 60 tx)] ++ (wSt g qn kn ++ (wSt g qt (kU kn kt b 0) ++ (wS4 g qv kv))))) rfl rfl rfl ?_
  exact lp_pulleysFor C hr hlk hT hb4 hf 10 0 rfl rfl

theorem x_X4_pulleysFor_1 (l : Launch) (hl : l.stackTraces = false) (g : Gh) (r : Nat → Nat) (qn qt : Nat → Nat) (qv : Nat → Nat → Nat) (kn kt : Nat → Nat → Int) (kv : Nat → Nat → Nat → Int) (sc : Int) (ns : Nat) (tx : Nat → Int) (tn : Nat) (pl : Int) (b f : Int) (hT : TOK kn kv sc ns tx tn) (hrb : -2147483648 ≤ b ∧ b < 2147483648) (hrf : -2147483648 ≤ f ∧ f < 2147483648) (hb4 : b < 0 ∨ 4 ≤ b) : CX l g yX4_pulleysFor cX4_pulleysFor 4 (some FieldType.int) ({ frames := 7, cells := 1, slots := 6, locals := 122 }) [.ref (r 0), .int (iI b), .int (iI f)] ([(r 0, .inr (4, [.ref (qn 0), .ref (qt 0), .ref (r 1), .int (iI sc), .int (iI ((ns : Int))), .ref (r 2)])), (r 1, aS g 4 (fun j => some (qv j 0))), (r 2, .inr (3, [.ref (r 3), .int (iI ((tn : Int))), .int (iI pl)])), (r 3, aI g 60 tx)] ++ (wSt g qn kn ++ (wSt g qt kt ++ (wS4 g qv kv)))) "java/lang/IndexOutOfBoundsException" (fun w9 => w9 = wTp g r qn qt qv kn kt kv sc ns tx tn pl) := by
  refine CX.intro (L0 := [(0, .ref (r 0)), (1, .int (iI b)), (2, .int (iI f))]) (own := RX4) (by decide) rfl (Nat.le_of_ble_eq_true rfl) rfl ?_
  intro pX eX sX mX argsX belowX methX cX A C hlk hnt
  obtain ⟨⟨hk, hh0⟩, hkv, hsc, hns, htn, htx⟩ := id hT
  obtain ⟨hP, hE0, hF, hrow0, hwt, hht, hlen, hlat, hkept⟩ := id hk
  have hE : -10 ≤ kn 0 3 ∧ kn 0 3 ≤ 10 := by omega
  have hrow : ∀ i : Nat, (i : Int) < kn 0 2 → 0 ≤ kn 1 i ∧ kn 1 i ≤ 4 := fun i hi => by have := hrow0 i hi; omega
  have hc2 : cpS kn kt 0 2 = kn 0 2 := rfl
  have hhnd : 0 ≤ hnd kn ∧ hnd kn ≤ 300000 := ⟨hh0, hnd_le hk⟩
  refine j_iload_n C 1 dX4_pulleysFor_0 rfl rfl ?_
  exact j_callSX (As := [.int (iI b)]) (rest := []) C ys_X4_checkBlock qw166 (x_X4_checkBlock_no l hl g b (by omega) (by omega)) (by decide) rfl dX4_pulleysFor_1 rfl (Nat.le_of_ble_eq_true rfl) (by decide) (pf1 [] ([(r 0, .inr (4, [.ref (qn 0), .ref (qt 0), .ref (r 1), .int (iI sc), .int (iI ((ns : Int))), .ref (r 2)])), (r 1, aS g 4 (fun j => some (qv j 0))), (r 2, .inr (3, [.ref (r 3), .int (iI ((tn : Int))), .int (iI pl)])), (r 3, aI g 60 tx)] ++ (wSt g qn kn ++ (wSt g qt kt ++ (wS4 g qv kv))))) rfl hnt hlk ⟨by decide, by decide⟩ (fun w9 h9 => by rw [h9]; rfl)

theorem x_X4_pulleysFor_2 (l : Launch) (hl : l.stackTraces = false) (g : Gh) (r : Nat → Nat) (qn qt : Nat → Nat) (qv : Nat → Nat → Nat) (kn kt : Nat → Nat → Int) (kv : Nat → Nat → Nat → Int) (sc : Int) (ns : Nat) (tx : Nat → Int) (tn : Nat) (pl : Int) (b f : Int) (hT : TOK kn kv sc ns tx tn) (hrb : -2147483648 ≤ b ∧ b < 2147483648) (hrf : -2147483648 ≤ f ∧ f < 2147483648) (hb4 : 0 ≤ b ∧ b < 4) (hf : f < 0 ∨ 1000000 < f) : CX l g yX4_pulleysFor cX4_pulleysFor 4 (some FieldType.int) ({ frames := 7, cells := 1, slots := 6, locals := 122 }) [.ref (r 0), .int (iI b), .int (iI f)] ([(r 0, .inr (4, [.ref (qn 0), .ref (qt 0), .ref (r 1), .int (iI sc), .int (iI ((ns : Int))), .ref (r 2)])), (r 1, aS g 4 (fun j => some (qv j 0))), (r 2, .inr (3, [.ref (r 3), .int (iI ((tn : Int))), .int (iI pl)])), (r 3, aI g 60 tx)] ++ (wSt g qn kn ++ (wSt g qt kt ++ (wS4 g qv kv)))) "java/lang/IllegalArgumentException" (fun w9 => w9 = wTp g r qn qt qv kn kt kv sc ns tx tn pl) := by
  refine CX.intro (L0 := [(0, .ref (r 0)), (1, .int (iI b)), (2, .int (iI f))]) (own := RX4) (by decide) rfl (Nat.le_of_ble_eq_true rfl) rfl ?_
  intro pX eX sX mX argsX belowX methX cX A C hlk hnt
  obtain ⟨⟨hk, hh0⟩, hkv, hsc, hns, htn, htx⟩ := id hT
  obtain ⟨hP, hE0, hF, hrow0, hwt, hht, hlen, hlat, hkept⟩ := id hk
  have hE : -10 ≤ kn 0 3 ∧ kn 0 3 ≤ 10 := by omega
  have hrow : ∀ i : Nat, (i : Int) < kn 0 2 → 0 ≤ kn 1 i ∧ kn 1 i ≤ 4 := fun i hi => by have := hrow0 i hi; omega
  have hc2 : cpS kn kt 0 2 = kn 0 2 := rfl
  have hhnd : 0 ≤ hnd kn ∧ hnd kn ≤ 300000 := ⟨hh0, hnd_le hk⟩
  refine j_iload_n C 1 dX4_pulleysFor_0 rfl rfl ?_
  refine j_callS (As := [.int (iI b)]) (rest := []) C ys_X4_checkBlock qw166 (c_X4_checkBlock l g b (by omega)) (by decide) rfl dX4_pulleysFor_1 rfl (Nat.le_of_ble_eq_true rfl) (by decide) (pf1 [] ([(r 0, .inr (4, [.ref (qn 0), .ref (qt 0), .ref (r 1), .int (iI sc), .int (iI ((ns : Int))), .ref (r 2)])), (r 1, aS g 4 (fun j => some (qv j 0))), (r 2, .inr (3, [.ref (r 3), .int (iI ((tn : Int))), .int (iI pl)])), (r 3, aI g 60 tx)] ++ (wSt g qn kn ++ (wSt g qt kt ++ (wS4 g qv kv))))) rfl (fun r9 w9 hq9 => ?_)
  obtain ⟨rfl, rfl⟩ := hq9
  refine J.to (L1 := [(0, .ref (r 0)), (1, .int (iI b)), (2, .int (iI f))]) (S1 := []) (ws1 := ([(r 0, .inr (4, [.ref (qn 0), .ref (qt 0), .ref (r 1), .int (iI sc), .int (iI ((ns : Int))), .ref (r 2)])), (r 1, aS g 4 (fun j => some (qv j 0))), (r 2, .inr (3, [.ref (r 3), .int (iI ((tn : Int))), .int (iI pl)])), (r 3, aI g 60 tx)] ++ (wSt g qn kn ++ (wSt g qt kt ++ (wS4 g qv kv))))) rfl rfl rfl ?_
  refine j_iload_n C 2 dX4_pulleysFor_4 rfl rfl ?_
  refine j_iconst C dX4_pulleysFor_5 ?_
  refine j_ldc (x := 1000000) C qw375 (by decide) dX4_pulleysFor_6 ?_
  exact j_callSX (As := [.int (iI f), .int (iI 0), .int (iI 1000000)]) (rest := []) C ys_X4_checkRange qw241 (x_X4_checkRange_no l hl g f 0 1000000 (by omega) (by omega) (by omega) (by omega)) (by decide) rfl dX4_pulleysFor_8 rfl (Nat.le_of_ble_eq_true rfl) (by decide) (pf1 [] ([(r 0, .inr (4, [.ref (qn 0), .ref (qt 0), .ref (r 1), .int (iI sc), .int (iI ((ns : Int))), .ref (r 2)])), (r 1, aS g 4 (fun j => some (qv j 0))), (r 2, .inr (3, [.ref (r 3), .int (iI ((tn : Int))), .int (iI pl)])), (r 3, aI g 60 tx)] ++ (wSt g qn kn ++ (wSt g qt kt ++ (wS4 g qv kv))))) rfl hnt hlk ⟨by decide, by decide⟩ (fun w9 h9 => by rw [h9]; rfl)

noncomputable def fcE (k : Nat → Nat → Int) (b : Int) : Nat → Int := fun e => lea (k 1) (k 0 1) true (k 0 2).toNat (e : Int) b (k 3 b.toNat)
theorem fcE_eq {kn kt : Nat → Nat → Int} (hk : SOK kn) {b : Int} (hb : 0 ≤ b ∧ b < 4) (e : Nat) : lea ((kEnd kn kt (e : Int)) 1) ((kEnd kn kt (e : Int)) 0 1) true ((kEnd kn kt (e : Int)) 0 2).toNat ((kEnd kn kt (e : Int)) 0 3) b ((kEnd kn kt (e : Int)) 3 b.toNat) = fcE kn b e := by
  show lea (cpS kn kt 1) (kn 0 1) true (kn 0 2).toNat (e : Int) b (cpS kn kt 3 b.toNat) = _
  rw [cp4 hb 3 (Or.inl rfl), lea_congr (f' := kn 1) (fun i hi => cp10 (by have := hk.1; omega))]
  rfl
theorem lp_bestEnd {p : Program} {l : Launch} {e : Env} {s : State} {m : MethodId} {args : Array Value} {below : List Frame} {meth : Method} {c : Code} {g : Gh} {A : Nat → Prop} (C : Cx p g s m args c cX4_bestEnd 6 RX4 A) (hr : meth.sig.returnType = some .int) (hlk : meth.locks = false) {r : Nat → Nat} {qn qt : Nat → Nat} {qv : Nat → Nat → Nat} {kn kt : Nat → Nat → Int} {kv : Nat → Nat → Nat → Int} {sc : Int} {ns : Nat} {tx : Nat → Int} {tn : Nat} {pl : Int} {b : Int} (hT : TOK kn kv sc ns tx tn) (hb4 : 0 ≤ b ∧ b < 4) : ∀ (n i : Nat) (le E9 : Int), i + n = 5 → (-1 ≤ le ∧ le ≤ 1000000) → (nxr (fcE kn b) (fun _ => 0) 1000000 i ≠ -1 → le = fcE kn b (nxr (fcE kn b) (fun _ => 0) 1000000 i).toNat) → J p l e ({ frames := 4, cells := 0, slots := 0, locals := 104 } : Room) s m args below meth c g A 6 22 [(0, .ref (r 0)), (1, .int (iI b)), (2, .int (iI (nxr (fcE kn b) (fun _ => 0) 1000000 i))), (3, .int (iI le)), (4, .int (iI ((i : Int))))] [] ([(r 0, .inr (4, [.ref (qn 0), .ref (qt 0), .ref (r 1), .int (iI sc), .int (iI ((ns : Int))), .ref (r 2)])), (r 1, aS g 4 (fun j => some (qv j 0))), (r 2, .inr (3, [.ref (r 3), .int (iI ((tn : Int))), .int (iI pl)])), (r 3, aI g 60 tx)] ++ (wSt g qn kn ++ (wSt g qt (kEnd kn kt E9) ++ (wS4 g qv kv)))) 0 0 (MQ below (QE g A (fun r9 w9 => r9 = (some (.int (iI (nxr (fcE kn b) (fun _ => 0) 1000000 5)))) ∧ ∃ kt9 : Nat → Nat → Int, w9 = wTp g r qn qt qv kn kt9 kv sc ns tx tn pl)) args s 0 0 A) := by
  intro n
  induction n with
  | zero =>
    intro i le E9 hi hle0 hle
    have hi9 : i = 5 := by omega
    subst hi9
    refine j_iload C 4 dX4_bestEnd_22 rfl ?_
    refine j_iconst C dX4_bestEnd_24 ?_
    refine j_icmp_gt (tgt := 80) C (by omega) (by decide) dX4_bestEnd_25 (by decide) (fun c25 => ?_) (fun c25 => absurd c25 (by omega))
    refine j_iload_n C 2 dX4_bestEnd_80 rfl rfl ?_
    exact j_iret C hr hlk dX4_bestEnd_81 ⟨rfl, _, rfl⟩ (by decide) (by decide)
  | succ n ih =>
    intro i le E9 hi hle0 hle
    obtain ⟨⟨hk, hh0⟩, hkv, hsc, hns, htn, htx⟩ := id hT
    obtain ⟨hP, hE0, hF, hrow0, hwt, hht, hlen, hlat, hkept⟩ := id hk
    have hE : -10 ≤ kn 0 3 ∧ kn 0 3 ≤ 10 := by omega
    have hrow : ∀ i : Nat, (i : Int) < kn 0 2 → 0 ≤ kn 1 i ∧ kn 1 i ≤ 4 := fun i hi => by have := hrow0 i hi; omega
    have hc2 : cpS kn kt 0 2 = kn 0 2 := rfl
    have hhnd : 0 ≤ hnd kn ∧ hnd kn ≤ 300000 := ⟨hh0, hnd_le hk⟩
    have hf9 : -1 ≤ fcE kn b i ∧ fcE kn b i ≤ 1000000 := lea_rng ..
    have hn9 := nxr_rng (fcE kn b) (fun _ => 0) 1000000 i
    refine j_iload C 4 dX4_bestEnd_22 rfl ?_
    refine j_iconst C dX4_bestEnd_24 ?_
    refine j_icmp_gt (tgt := 80) C (by omega) (by decide) dX4_bestEnd_25 (by decide) (fun c25 => absurd c25 (by omega)) (fun c25 => ?_)
    refine j_aload_n C 0 dX4_bestEnd_28 rfl rfl ?_
    refine j_get C ck4 0 1 (by decide) qw131 rfl rfl dX4_bestEnd_29 ?_
    refine j_getN C ck2 12 0 (by decide) qn90 rfl rfl dX4_bestEnd_32 ?_
    refine j_iload C 4 dX4_bestEnd_35 rfl ?_
    refine j_putN (ws1 := ([(r 0, .inr (4, [.ref (qn 0), .ref (qt 0), .ref (r 1), .int (iI sc), .int (iI ((ns : Int))), .ref (r 2)])), (r 1, aS g 4 (fun j => some (qv j 0))), (r 2, .inr (3, [.ref (r 3), .int (iI ((tn : Int))), .int (iI pl)])), (r 3, aI g 60 tx)] ++ (wSt g qn kn ++ ([(qt 0, .inr (2, [.ref (qt 1), .ref (qt 3), .ref (qt 5), .ref (qt 6), .ref (qt 7), .int (iI ((kEnd kn kt E9) 0 0))])), (qt 1, .inr (1, [.ref (qt 2), .int (iI ((kEnd kn kt E9) 0 2)), .int (iI ((i : Int))), .int (iI ((kEnd kn kt E9) 0 1))])), (qt 2, aI g 10 ((kEnd kn kt E9) 1)), (qt 3, .inr (0, [.ref (qt 4), .int (iI ((kEnd kn kt E9) 0 9)), .int (iI ((kEnd kn kt E9) 0 6)), .int (iI ((kEnd kn kt E9) 0 4)), .int (iI ((kEnd kn kt E9) 0 5)), .long (lI ((kEnd kn kt E9) 0 7)), .long (lI ((kEnd kn kt E9) 0 8))])), (qt 4, aI g 48 ((kEnd kn kt E9) 2)), (qt 5, aI g 4 ((kEnd kn kt E9) 3)), (qt 6, aI g 4 ((kEnd kn kt E9) 4)), (qt 7, aI g 4 ((kEnd kn kt E9) 5))] ++ (wS4 g qv kv))))) C ck1 13 2 (by decide) qn39 rfl dX4_bestEnd_37 rfl rfl rfl rfl (Nat.le_of_ble_eq_true rfl) ?_
    refine J.world (ws1 := ([(r 0, .inr (4, [.ref (qn 0), .ref (qt 0), .ref (r 1), .int (iI sc), .int (iI ((ns : Int))), .ref (r 2)])), (r 1, aS g 4 (fun j => some (qv j 0))), (r 2, .inr (3, [.ref (r 3), .int (iI ((tn : Int))), .int (iI pl)])), (r 3, aI g 60 tx)] ++ (wSt g qn kn ++ (wSt g qt (kEnd kn kt (i : Int)) ++ (wS4 g qv kv))))) rfl ?_
    refine j_aload_n C 0 dX4_bestEnd_40 rfl rfl ?_
    refine j_get C ck4 0 1 (by decide) qw131 rfl rfl dX4_bestEnd_41 ?_
    refine j_iload_n C 1 dX4_bestEnd_44 rfl rfl ?_
    refine j_iconst C dX4_bestEnd_45 ?_
    refine j_callV (As := [.int (iI b), .int (iI 1)]) (rest := []) C yv_X2_leastForceFor qw466 (c_X2_leastForceFor l g qt (kEnd kn kt (i : Int)) b true (SOK_end hk (by omega)) (by omega)) (by decide) 12 rfl rfl rfl dX4_bestEnd_46 rfl (Nat.le_of_ble_eq_true rfl) (by decide) (pf1 [(r 0, .inr (4, [.ref (qn 0), .ref (qt 0), .ref (r 1), .int (iI sc), .int (iI ((ns : Int))), .ref (r 2)])), (r 1, aS g 4 (fun j => some (qv j 0))), (r 2, .inr (3, [.ref (r 3), .int (iI ((tn : Int))), .int (iI pl)])), (r 3, aI g 60 tx), (qn 0, .inr (2, [.ref (qn 1), .ref (qn 3), .ref (qn 5), .ref (qn 6), .ref (qn 7), .int (iI (kn 0 0))])), (qn 1, .inr (1, [.ref (qn 2), .int (iI (kn 0 2)), .int (iI (kn 0 3)), .int (iI (kn 0 1))])), (qn 2, aI g 10 (kn 1)), (qn 3, .inr (0, [.ref (qn 4), .int (iI (kn 0 9)), .int (iI (kn 0 6)), .int (iI (kn 0 4)), .int (iI (kn 0 5)), .long (lI (kn 0 7)), .long (lI (kn 0 8))])), (qn 4, aI g 48 (kn 2)), (qn 5, aI g 4 (kn 3)), (qn 6, aI g 4 (kn 4)), (qn 7, aI g 4 (kn 5))] (wS4 g qv kv)) rfl (fun r9 w9 hq9 => ?_)
    obtain ⟨rfl, rfl⟩ := hq9
    refine J.to (L1 := [(0, .ref (r 0)), (1, .int (iI b)), (2, .int (iI (nxr (fcE kn b) (fun _ => 0) 1000000 i))), (3, .int (iI le)), (4, .int (iI ((i : Int))))]) (S1 := [.int (iI (lea ((kEnd kn kt (i : Int)) 1) ((kEnd kn kt (i : Int)) 0 1) true ((kEnd kn kt (i : Int)) 0 2).toNat ((kEnd kn kt (i : Int)) 0 3) b ((kEnd kn kt (i : Int)) 3 b.toNat)))]) (ws1 := ([(r 0, .inr (4, [.ref (qn 0), .ref (qt 0), .ref (r 1), .int (iI sc), .int (iI ((ns : Int))), .ref (r 2)])), (r 1, aS g 4 (fun j => some (qv j 0))), (r 2, .inr (3, [.ref (r 3), .int (iI ((tn : Int))), .int (iI pl)])), (r 3, aI g 60 tx)] ++ (wSt g qn kn ++ (wSt g qt (kEnd kn kt (i : Int)) ++ (wS4 g qv kv))))) rfl rfl rfl ?_
    refine J.to (L1 := [(0, .ref (r 0)), (1, .int (iI b)), (2, .int (iI (nxr (fcE kn b) (fun _ => 0) 1000000 i))), (3, .int (iI le)), (4, .int (iI ((i : Int))))]) (S1 := [.int (iI (fcE kn b i))]) (ws1 := ([(r 0, .inr (4, [.ref (qn 0), .ref (qt 0), .ref (r 1), .int (iI sc), .int (iI ((ns : Int))), .ref (r 2)])), (r 1, aS g 4 (fun j => some (qv j 0))), (r 2, .inr (3, [.ref (r 3), .int (iI ((tn : Int))), .int (iI pl)])), (r 3, aI g 60 tx)] ++ (wSt g qn kn ++ (wSt g qt (kEnd kn kt (i : Int)) ++ (wS4 g qv kv))))) rfl rfl (by rw [show ((lea ((kEnd kn kt (i : Int)) 1) ((kEnd kn kt (i : Int)) 0 1) true ((kEnd kn kt (i : Int)) 0 2).toNat ((kEnd kn kt (i : Int)) 0 3) b ((kEnd kn kt (i : Int)) 3 b.toNat) : Int)) = fcE kn b i from (fcE_eq hk hb4 i)]) ?_
    refine j_istore (L1 := [(5, .int (iI (fcE kn b i))), (0, .ref (r 0)), (1, .int (iI b)), (2, .int (iI (nxr (fcE kn b) (fun _ => 0) 1000000 i))), (3, .int (iI le)), (4, .int (iI ((i : Int))))]) C dX4_bestEnd_49 (by decide) rfl ?_
    refine j_iload C 0 dX4_bestEnd_51 rfl ?_
    refine j_iconst C dX4_bestEnd_53 ?_
    refine j_icmp_eq (tgt := 74) C (by omega) (by decide) dX4_bestEnd_54 (by decide) (fun c54 => ?_) (fun c54 => ?_)
    · refine j_iinc (L1 := [(4, .int (iI (((i : Int)) + 1))), (5, .int (iI (fcE kn b i))), (0, .ref (r 0)), (1, .int (iI b)), (2, .int (iI (nxr (fcE kn b) (fun _ => 0) 1000000 i))), (3, .int (iI le))]) C 5 dX4_bestEnd_74 rfl (by decide) rfl ?_
      refine j_goto (tgt := 22) C dX4_bestEnd_77 (by decide) ?_
      refine J.sub (L1 := [(0, .ref (r 0)), (1, .int (iI b)), (2, .int (iI (nxr (fcE kn b) (fun _ => 0) 1000000 i))), (3, .int (iI le)), (4, .int (iI (((i : Int)) + 1)))]) [2, 3, 4, 5, 0] rfl ?_
      have e9 : nxr (fcE kn b) (fun _ => 0) 1000000 (i + 1) = nxr (fcE kn b) (fun _ => 0) 1000000 i := by rw [nxr]; exact if_neg (fun h9 => h9.1.1 c54)
      have h9 := ih (i + 1) le (i : Int) (by omega) (by omega) (fun h9 => by rw [e9] at h9 ⊢; exact hle h9)
      rw [e9] at h9
      exact h9
    · refine j_iload_n C 3 dX4_bestEnd_57 rfl rfl ?_
      refine j_iconst C dX4_bestEnd_58 ?_
      refine j_icmp_eq (tgt := 68) C (by omega) (by decide) dX4_bestEnd_59 (by decide) (fun c59 => ?_) (fun c59 => ?_)
      · refine j_iload C 5 dX4_bestEnd_68 rfl ?_
        refine j_istore_n (L1 := [(2, .int (iI ((i : Int)))), (5, .int (iI (fcE kn b i))), (0, .ref (r 0)), (1, .int (iI b)), (3, .int (iI le)), (4, .int (iI ((i : Int))))]) C dX4_bestEnd_70 rfl (by decide) rfl ?_
        refine j_iload C 1 dX4_bestEnd_71 rfl ?_
        refine j_istore_n (L1 := [(3, .int (iI (fcE kn b i))), (2, .int (iI ((i : Int)))), (5, .int (iI (fcE kn b i))), (0, .ref (r 0)), (1, .int (iI b)), (4, .int (iI ((i : Int))))]) C dX4_bestEnd_73 rfl (by decide) rfl ?_
        refine j_iinc (L1 := [(4, .int (iI (((i : Int)) + 1))), (3, .int (iI (fcE kn b i))), (2, .int (iI ((i : Int)))), (5, .int (iI (fcE kn b i))), (0, .ref (r 0)), (1, .int (iI b))]) C 5 dX4_bestEnd_74 rfl (by decide) rfl ?_
        refine j_goto (tgt := 22) C dX4_bestEnd_77 (by decide) ?_
        refine J.sub (L1 := [(0, .ref (r 0)), (1, .int (iI b)), (2, .int (iI ((i : Int)))), (3, .int (iI (fcE kn b i))), (4, .int (iI (((i : Int)) + 1)))]) [4, 5, 2, 1, 0] rfl ?_
        have e9 : nxr (fcE kn b) (fun _ => 0) 1000000 (i + 1) = (i : Int) := by rw [nxr]; exact if_pos ⟨⟨c54, hf9.2, by decide⟩, Or.inl c59⟩
        have h9 := ih (i + 1) (fcE kn b i) (i : Int) (by omega) (by omega) (fun _ => by rw [e9]; rfl)
        rw [e9] at h9
        exact h9
      · refine j_iload C 0 dX4_bestEnd_62 rfl ?_
        refine j_iload_n C 4 dX4_bestEnd_64 rfl rfl ?_
        refine j_icmp_ge (tgt := 74) C (by omega) (by omega) dX4_bestEnd_65 (by decide) (fun c65 => ?_) (fun c65 => ?_)
        · refine j_iinc (L1 := [(4, .int (iI (((i : Int)) + 1))), (5, .int (iI (fcE kn b i))), (0, .ref (r 0)), (1, .int (iI b)), (2, .int (iI (nxr (fcE kn b) (fun _ => 0) 1000000 i))), (3, .int (iI le))]) C 5 dX4_bestEnd_74 rfl (by decide) rfl ?_
          refine j_goto (tgt := 22) C dX4_bestEnd_77 (by decide) ?_
          refine J.sub (L1 := [(0, .ref (r 0)), (1, .int (iI b)), (2, .int (iI (nxr (fcE kn b) (fun _ => 0) 1000000 i))), (3, .int (iI le)), (4, .int (iI (((i : Int)) + 1)))]) [2, 3, 4, 5, 0] rfl ?_
          have e9 : nxr (fcE kn b) (fun _ => 0) 1000000 (i + 1) = nxr (fcE kn b) (fun _ => 0) 1000000 i := by rw [nxr]; exact if_neg (fun h9 => by rcases h9.2 with h8 | h8; exact c59 h8; rw [← hle c59] at h8; omega)
          have h9 := ih (i + 1) le (i : Int) (by omega) (by omega) (fun h9 => by rw [e9] at h9 ⊢; exact hle h9)
          rw [e9] at h9
          exact h9
        · refine j_iload C 5 dX4_bestEnd_68 rfl ?_
          refine j_istore_n (L1 := [(2, .int (iI ((i : Int)))), (5, .int (iI (fcE kn b i))), (0, .ref (r 0)), (1, .int (iI b)), (3, .int (iI le)), (4, .int (iI ((i : Int))))]) C dX4_bestEnd_70 rfl (by decide) rfl ?_
          refine j_iload C 1 dX4_bestEnd_71 rfl ?_
          refine j_istore_n (L1 := [(3, .int (iI (fcE kn b i))), (2, .int (iI ((i : Int)))), (5, .int (iI (fcE kn b i))), (0, .ref (r 0)), (1, .int (iI b)), (4, .int (iI ((i : Int))))]) C dX4_bestEnd_73 rfl (by decide) rfl ?_
          refine j_iinc (L1 := [(4, .int (iI (((i : Int)) + 1))), (3, .int (iI (fcE kn b i))), (2, .int (iI ((i : Int)))), (5, .int (iI (fcE kn b i))), (0, .ref (r 0)), (1, .int (iI b))]) C 5 dX4_bestEnd_74 rfl (by decide) rfl ?_
          refine j_goto (tgt := 22) C dX4_bestEnd_77 (by decide) ?_
          refine J.sub (L1 := [(0, .ref (r 0)), (1, .int (iI b)), (2, .int (iI ((i : Int)))), (3, .int (iI (fcE kn b i))), (4, .int (iI (((i : Int)) + 1)))]) [4, 5, 2, 1, 0] rfl ?_
          have e9 : nxr (fcE kn b) (fun _ => 0) 1000000 (i + 1) = (i : Int) := by rw [nxr]; exact if_pos ⟨⟨c54, hf9.2, by decide⟩, Or.inr (by rw [← hle c59]; omega)⟩
          have h9 := ih (i + 1) (fcE kn b i) (i : Int) (by omega) (by omega) (fun _ => by rw [e9]; rfl)
          rw [e9] at h9
          exact h9

theorem c_X4_bestEnd (l : Launch) (g : Gh) (r : Nat → Nat) (qn qt : Nat → Nat) (qv : Nat → Nat → Nat) (kn kt : Nat → Nat → Int) (kv : Nat → Nat → Nat → Int) (sc : Int) (ns : Nat) (tx : Nat → Int) (tn : Nat) (pl : Int) (b : Int) (hT : TOK kn kv sc ns tx tn) (hb4 : 0 ≤ b ∧ b < 4) : CT l g yX4_bestEnd cX4_bestEnd 6 (some FieldType.int) ({ frames := 4, cells := 0, slots := 0, locals := 104 }) [.ref (r 0), .int (iI b)] ([(r 0, .inr (4, [.ref (qn 0), .ref (qt 0), .ref (r 1), .int (iI sc), .int (iI ((ns : Int))), .ref (r 2)])), (r 1, aS g 4 (fun j => some (qv j 0))), (r 2, .inr (3, [.ref (r 3), .int (iI ((tn : Int))), .int (iI pl)])), (r 3, aI g 60 tx)] ++ (wSt g qn kn ++ (wSt g qt kt ++ (wS4 g qv kv)))) (fun r9 w9 => r9 = (some (.int (iI (nxr (fcE kn b) (fun _ => 0) 1000000 5)))) ∧ ∃ kt9 : Nat → Nat → Int, w9 = wTp g r qn qt qv kn kt9 kv sc ns tx tn pl) := by
  refine CT.intro (L0 := [(0, .ref (r 0)), (1, .int (iI b))]) (own := RX4) (by decide) rfl (Nat.le_of_ble_eq_true rfl) rfl ?_
  intro pX eX sX mX argsX belowX methX cX A C hr hlk
  obtain ⟨⟨hk, hh0⟩, hkv, hsc, hns, htn, htx⟩ := id hT
  obtain ⟨hP, hE0, hF, hrow0, hwt, hht, hlen, hlat, hkept⟩ := id hk
  have hE : -10 ≤ kn 0 3 ∧ kn 0 3 ≤ 10 := by omega
  have hrow : ∀ i : Nat, (i : Int) < kn 0 2 → 0 ≤ kn 1 i ∧ kn 1 i ≤ 4 := fun i hi => by have := hrow0 i hi; omega
  have hc2 : cpS kn kt 0 2 = kn 0 2 := rfl
  have hhnd : 0 ≤ hnd kn ∧ hnd kn ≤ 300000 := ⟨hh0, hnd_le hk⟩
  refine j_iload_n C 1 dX4_bestEnd_0 rfl rfl ?_
  refine j_callS (As := [.int (iI b)]) (rest := []) C ys_X4_checkBlock qw166 (c_X4_checkBlock l g b (by omega)) (by decide) rfl dX4_bestEnd_1 rfl (Nat.le_of_ble_eq_true rfl) (by decide) (pf1 [] ([(r 0, .inr (4, [.ref (qn 0), .ref (qt 0), .ref (r 1), .int (iI sc), .int (iI ((ns : Int))), .ref (r 2)])), (r 1, aS g 4 (fun j => some (qv j 0))), (r 2, .inr (3, [.ref (r 3), .int (iI ((tn : Int))), .int (iI pl)])), (r 3, aI g 60 tx)] ++ (wSt g qn kn ++ (wSt g qt kt ++ (wS4 g qv kv))))) rfl (fun r9 w9 hq9 => ?_)
  obtain ⟨rfl, rfl⟩ := hq9
  refine J.to (L1 := [(0, .ref (r 0)), (1, .int (iI b))]) (S1 := []) (ws1 := ([(r 0, .inr (4, [.ref (qn 0), .ref (qt 0), .ref (r 1), .int (iI sc), .int (iI ((ns : Int))), .ref (r 2)])), (r 1, aS g 4 (fun j => some (qv j 0))), (r 2, .inr (3, [.ref (r 3), .int (iI ((tn : Int))), .int (iI pl)])), (r 3, aI g 60 tx)] ++ (wSt g qn kn ++ (wSt g qt kt ++ (wS4 g qv kv))))) rfl rfl rfl ?_
  refine j_aload_n C 0 dX4_bestEnd_4 rfl rfl ?_
  refine j_get C ck4 0 1 (by decide) qw131 rfl rfl dX4_bestEnd_5 ?_
  refine j_aload_n C 0 dX4_bestEnd_8 rfl rfl ?_
  refine j_get C ck4 0 0 (by decide) qw130 rfl rfl dX4_bestEnd_9 ?_
  refine j_callV (As := [.ref (qn 0)]) (rest := []) C yv_X2_copyFrom qw268 (c_X2_copyFrom l g qt kt qn kn) (by decide) 12 rfl rfl rfl dX4_bestEnd_12 rfl (Nat.le_of_ble_eq_true rfl) (by decide) (pf2r [(r 0, .inr (4, [.ref (qn 0), .ref (qt 0), .ref (r 1), .int (iI sc), .int (iI ((ns : Int))), .ref (r 2)])), (r 1, aS g 4 (fun j => some (qv j 0))), (r 2, .inr (3, [.ref (r 3), .int (iI ((tn : Int))), .int (iI pl)])), (r 3, aI g 60 tx)] 8 [] (wS4 g qv kv)) rfl (fun r9 w9 hq9 => ?_)
  obtain ⟨rfl, rfl⟩ := hq9
  refine J.to (L1 := [(0, .ref (r 0)), (1, .int (iI b))]) (S1 := []) (ws1 := ([(r 0, .inr (4, [.ref (qn 0), .ref (qt 0), .ref (r 1), .int (iI sc), .int (iI ((ns : Int))), .ref (r 2)])), (r 1, aS g 4 (fun j => some (qv j 0))), (r 2, .inr (3, [.ref (r 3), .int (iI ((tn : Int))), .int (iI pl)])), (r 3, aI g 60 tx)] ++ (wSt g qn kn ++ (wSt g qt (cpS kn kt) ++ (wS4 g qv kv))))) rfl rfl rfl ?_
  refine j_iconst C dX4_bestEnd_15 ?_
  refine j_istore_n (L1 := [(2, .int (iI (-1))), (0, .ref (r 0)), (1, .int (iI b))]) C dX4_bestEnd_16 rfl (by decide) rfl ?_
  refine j_iconst C dX4_bestEnd_17 ?_
  refine j_istore_n (L1 := [(3, .int (iI (-1))), (2, .int (iI (-1))), (0, .ref (r 0)), (1, .int (iI b))]) C dX4_bestEnd_18 rfl (by decide) rfl ?_
  refine j_iconst C dX4_bestEnd_19 ?_
  refine j_istore (L1 := [(4, .int (iI 0)), (3, .int (iI (-1))), (2, .int (iI (-1))), (0, .ref (r 0)), (1, .int (iI b))]) C dX4_bestEnd_20 (by decide) rfl ?_
  refine J.sub (L1 := [(0, .ref (r 0)), (1, .int (iI b)), (2, .int (iI (-1))), (3, .int (iI (-1))), (4, .int (iI 0))]) [3, 4, 2, 1, 0] rfl ?_
  refine J.to (L1 := [(0, .ref (r 0)), (1, .int (iI b)), (2, .int (iI (nxr (fcE kn b) (fun _ => 0) 1000000 0))), (3, .int (iI (-1))), (4, .int (iI (((0 : Nat) : Int))))]) (S1 := []) (ws1 := ([(r 0, .inr (4, [.ref (qn 0), .ref (qt 0), .ref (r 1), .int (iI sc), .int (iI ((ns : Int))), .ref (r 2)])), (r 1, aS g 4 (fun j => some (qv j 0))), (r 2, .inr (3, [.ref (r 3), .int (iI ((tn : Int))), .int (iI pl)])), (r 3, aI g 60 tx)] ++ (wSt g qn kn ++ (wSt g qt (kEnd kn kt (kn 0 3)) ++ (wS4 g qv kv))))) rfl rfl rfl ?_
  exact lp_bestEnd C hr hlk hT hb4 5 0 (-1) (kn 0 3) rfl (by decide) (fun h9 => absurd rfl h9)

theorem x_X4_bestEnd_1 (l : Launch) (hl : l.stackTraces = false) (g : Gh) (r : Nat → Nat) (qn qt : Nat → Nat) (qv : Nat → Nat → Nat) (kn kt : Nat → Nat → Int) (kv : Nat → Nat → Nat → Int) (sc : Int) (ns : Nat) (tx : Nat → Int) (tn : Nat) (pl : Int) (b : Int) (hT : TOK kn kv sc ns tx tn) (hrb : -2147483648 ≤ b ∧ b < 2147483648) (hb4 : b < 0 ∨ 4 ≤ b) : CX l g yX4_bestEnd cX4_bestEnd 6 (some FieldType.int) ({ frames := 7, cells := 1, slots := 6, locals := 120 }) [.ref (r 0), .int (iI b)] ([(r 0, .inr (4, [.ref (qn 0), .ref (qt 0), .ref (r 1), .int (iI sc), .int (iI ((ns : Int))), .ref (r 2)])), (r 1, aS g 4 (fun j => some (qv j 0))), (r 2, .inr (3, [.ref (r 3), .int (iI ((tn : Int))), .int (iI pl)])), (r 3, aI g 60 tx)] ++ (wSt g qn kn ++ (wSt g qt kt ++ (wS4 g qv kv)))) "java/lang/IndexOutOfBoundsException" (fun w9 => w9 = wTp g r qn qt qv kn kt kv sc ns tx tn pl) := by
  refine CX.intro (L0 := [(0, .ref (r 0)), (1, .int (iI b))]) (own := RX4) (by decide) rfl (Nat.le_of_ble_eq_true rfl) rfl ?_
  intro pX eX sX mX argsX belowX methX cX A C hlk hnt
  obtain ⟨⟨hk, hh0⟩, hkv, hsc, hns, htn, htx⟩ := id hT
  obtain ⟨hP, hE0, hF, hrow0, hwt, hht, hlen, hlat, hkept⟩ := id hk
  have hE : -10 ≤ kn 0 3 ∧ kn 0 3 ≤ 10 := by omega
  have hrow : ∀ i : Nat, (i : Int) < kn 0 2 → 0 ≤ kn 1 i ∧ kn 1 i ≤ 4 := fun i hi => by have := hrow0 i hi; omega
  have hc2 : cpS kn kt 0 2 = kn 0 2 := rfl
  have hhnd : 0 ≤ hnd kn ∧ hnd kn ≤ 300000 := ⟨hh0, hnd_le hk⟩
  refine j_iload_n C 1 dX4_bestEnd_0 rfl rfl ?_
  exact j_callSX (As := [.int (iI b)]) (rest := []) C ys_X4_checkBlock qw166 (x_X4_checkBlock_no l hl g b (by omega) (by omega)) (by decide) rfl dX4_bestEnd_1 rfl (Nat.le_of_ble_eq_true rfl) (by decide) (pf1 [] ([(r 0, .inr (4, [.ref (qn 0), .ref (qt 0), .ref (r 1), .int (iI sc), .int (iI ((ns : Int))), .ref (r 2)])), (r 1, aS g 4 (fun j => some (qv j 0))), (r 2, .inr (3, [.ref (r 3), .int (iI ((tn : Int))), .int (iI pl)])), (r 3, aI g 60 tx)] ++ (wSt g qn kn ++ (wSt g qt kt ++ (wS4 g qv kv))))) rfl hnt hlk ⟨by decide, by decide⟩ (fun w9 h9 => by rw [h9]; rfl)

def swp (f : Nat → Int) (x y : Nat) : Nat → Int := va_up (va_up f x (f y)) y (f x)
theorem swp_rng {f : Nat → Int} {x y n : Nat} (hx : x < n) (hy : y < n) (h : ∀ i, i < n → 0 ≤ f i ∧ f i ≤ 3) : ∀ i, i < n → 0 ≤ swp f x y i ∧ swp f x y i ≤ 3 := by
  intro i hi
  unfold swp va_up
  split
  · exact h x hx
  · split
    · exact h y hy
    · exact h i hi
theorem swp_congr {f f' : Nat → Int} {x y n : Nat} (hx : x < n) (hy : y < n) (h : ∀ i, i < n → f i = f' i) : ∀ i, i < n → swp f x y i = swp f' x y i := by
  intro i hi
  unfold swp va_up
  rw [h x hx, h y hy, h i hi]
def kSw (kn kt : Nat → Nat → Int) (x y : Int) : Nat → Nat → Int := va_up (cpS kn kt) 1 (swp (cpS kn kt 1) x.toNat y.toNat)
theorem SOK_sw {kn kt : Nat → Nat → Int} (hk : SOK kn) {x y : Int} (hx : 0 ≤ x ∧ x < kn 0 2) (hy : 0 ≤ y ∧ y < kn 0 2) : SOK (kSw kn kt x y) := by
  have h := SOK_cpS (k := kt) hk
  refine ⟨h.1, h.2.1, h.2.2.1, fun i hi => ?_, h.2.2.2.2⟩
  have hi2 : (i : Int) < kn 0 2 := hi
  exact swp_rng (n := (kn 0 2).toNat) (by omega) (by omega) (fun j hj => h.2.2.2.1 j (by show (j : Int) < kn 0 2; omega)) i (by omega)
theorem sw_eq {kn kt : Nat → Nat → Int} (hk : SOK kn) {b x y : Int} (hb : 0 ≤ b ∧ b < 4) (hx : 0 ≤ x ∧ x < kn 0 2) (hy : 0 ≤ y ∧ y < kn 0 2) : lea ((kSw kn kt x y) 1) ((kSw kn kt x y) 0 1) true ((kSw kn kt x y) 0 2).toNat ((kSw kn kt x y) 0 3) b ((kSw kn kt x y) 3 b.toNat) = lea (swp (kn 1) x.toNat y.toNat) (kn 0 1) true (kn 0 2).toNat (kn 0 3) b (kn 3 b.toNat) := by
  show lea (swp (cpS kn kt 1) x.toNat y.toNat) (kn 0 1) true (kn 0 2).toNat (kn 0 3) b (cpS kn kt 3 b.toNat) = _
  rw [cp4 hb 3 (Or.inl rfl)]
  exact lea_congr (swp_congr (by omega) (by omega) (fun i hi => cp10 (by have := hk.1; omega)))
theorem SOK_mup {k : Nat → Nat → Int} (hk : SOK k) {f n : Int} (hn : 0 ≤ n) : SOK (mup f n k).1 := (mvs_rng (up := true) (hand := f) 4 (SOK_rck hk true) hn).1
theorem c_X4_swapped (l : Launch) (g : Gh) (r : Nat → Nat) (qn qt : Nat → Nat) (qv : Nat → Nat → Nat) (kn kt : Nat → Nat → Int) (kv : Nat → Nat → Nat → Int) (sc : Int) (ns : Nat) (tx : Nat → Int) (tn : Nat) (pl : Int) (b x y : Int) (hT : TOK kn kv sc ns tx tn) (hb4 : 0 ≤ b ∧ b < 4) (hi : 0 ≤ x ∧ x < kn 0 2) (hj : 0 ≤ y ∧ y < kn 0 2) : CT l g yX4_swapped cX4_swapped 4 (some FieldType.int) ({ frames := 4, cells := 0, slots := 0, locals := 104 }) [.ref (r 0), .int (iI b), .int (iI x), .int (iI y)] ([(r 0, .inr (4, [.ref (qn 0), .ref (qt 0), .ref (r 1), .int (iI sc), .int (iI ((ns : Int))), .ref (r 2)])), (r 1, aS g 4 (fun j => some (qv j 0))), (r 2, .inr (3, [.ref (r 3), .int (iI ((tn : Int))), .int (iI pl)])), (r 3, aI g 60 tx)] ++ (wSt g qn kn ++ (wSt g qt kt ++ (wS4 g qv kv)))) (fun r9 w9 => r9 = (some (.int (iI (lea (swp (kn 1) x.toNat y.toNat) (kn 0 1) true (kn 0 2).toNat (kn 0 3) b (kn 3 b.toNat))))) ∧ ∃ kt9 : Nat → Nat → Int, w9 = wTp g r qn qt qv kn kt9 kv sc ns tx tn pl) := by
  refine CT.intro (L0 := [(0, .ref (r 0)), (1, .int (iI b)), (2, .int (iI x)), (3, .int (iI y))]) (own := RX4) (by decide) rfl (Nat.le_of_ble_eq_true rfl) rfl ?_
  intro pX eX sX mX argsX belowX methX cX A C hr hlk
  obtain ⟨⟨hk, hh0⟩, hkv, hsc, hns, htn, htx⟩ := id hT
  obtain ⟨hP, hE0, hF, hrow0, hwt, hht, hlen, hlat, hkept⟩ := id hk
  have hE : -10 ≤ kn 0 3 ∧ kn 0 3 ≤ 10 := by omega
  have hrow : ∀ i : Nat, (i : Int) < kn 0 2 → 0 ≤ kn 1 i ∧ kn 1 i ≤ 4 := fun i hi => by have := hrow0 i hi; omega
  have hc2 : cpS kn kt 0 2 = kn 0 2 := rfl
  have hhnd : 0 ≤ hnd kn ∧ hnd kn ≤ 300000 := ⟨hh0, hnd_le hk⟩
  refine j_iload_n C 1 dX4_swapped_0 rfl rfl ?_
  refine j_callS (As := [.int (iI b)]) (rest := []) C ys_X4_checkBlock qw166 (c_X4_checkBlock l g b (by omega)) (by decide) rfl dX4_swapped_1 rfl (Nat.le_of_ble_eq_true rfl) (by decide) (pf1 [] ([(r 0, .inr (4, [.ref (qn 0), .ref (qt 0), .ref (r 1), .int (iI sc), .int (iI ((ns : Int))), .ref (r 2)])), (r 1, aS g 4 (fun j => some (qv j 0))), (r 2, .inr (3, [.ref (r 3), .int (iI ((tn : Int))), .int (iI pl)])), (r 3, aI g 60 tx)] ++ (wSt g qn kn ++ (wSt g qt kt ++ (wS4 g qv kv))))) rfl (fun r9 w9 hq9 => ?_)
  obtain ⟨rfl, rfl⟩ := hq9
  refine J.to (L1 := [(0, .ref (r 0)), (1, .int (iI b)), (2, .int (iI x)), (3, .int (iI y))]) (S1 := []) (ws1 := ([(r 0, .inr (4, [.ref (qn 0), .ref (qt 0), .ref (r 1), .int (iI sc), .int (iI ((ns : Int))), .ref (r 2)])), (r 1, aS g 4 (fun j => some (qv j 0))), (r 2, .inr (3, [.ref (r 3), .int (iI ((tn : Int))), .int (iI pl)])), (r 3, aI g 60 tx)] ++ (wSt g qn kn ++ (wSt g qt kt ++ (wS4 g qv kv))))) rfl rfl rfl ?_
  refine j_aload_n C 0 dX4_swapped_4 rfl rfl ?_
  refine j_iload_n C 2 dX4_swapped_5 rfl rfl ?_
  refine j_callV (As := [.int (iI x)]) (rest := []) C yv_X4_checkPulley qw475 (c_X4_checkPulley l g r qn qt qv kn kt kv sc ns tx tn pl x hT hi) (by decide) 0 rfl rfl rfl dX4_swapped_6 rfl (Nat.le_of_ble_eq_true rfl) (by decide) pf0 rfl (fun r9 w9 hq9 => ?_)
  obtain ⟨rfl, rfl⟩ := hq9
  refine J.to (L1 := [(0, .ref (r 0)), (1, .int (iI b)), (2, .int (iI x)), (3, .int (iI y))]) (S1 := []) (ws1 := ([(r 0, .inr (4, [.ref (qn 0), .ref (qt 0), .ref (r 1), .int (iI sc), .int (iI ((ns : Int))), .ref (r 2)])), (r 1, aS g 4 (fun j => some (qv j 0))), (r 2, .inr (3, [.ref (r 3), .int (iI ((tn : Int))), .int (iI pl)])), (r 3, aI g 60 tx)] ++ (wSt g qn kn ++ (wSt g qt kt ++ (wS4 g qv kv))))) rfl rfl rfl ?_
  refine j_aload_n C 0 dX4_swapped_9 rfl rfl ?_
  refine j_iload_n C 3 dX4_swapped_10 rfl rfl ?_
  refine j_callV (As := [.int (iI y)]) (rest := []) C yv_X4_checkPulley qw475 (c_X4_checkPulley l g r qn qt qv kn kt kv sc ns tx tn pl y hT hj) (by decide) 0 rfl rfl rfl dX4_swapped_11 rfl (Nat.le_of_ble_eq_true rfl) (by decide) pf0 rfl (fun r9 w9 hq9 => ?_)
  obtain ⟨rfl, rfl⟩ := hq9
  refine J.to (L1 := [(0, .ref (r 0)), (1, .int (iI b)), (2, .int (iI x)), (3, .int (iI y))]) (S1 := []) (ws1 := ([(r 0, .inr (4, [.ref (qn 0), .ref (qt 0), .ref (r 1), .int (iI sc), .int (iI ((ns : Int))), .ref (r 2)])), (r 1, aS g 4 (fun j => some (qv j 0))), (r 2, .inr (3, [.ref (r 3), .int (iI ((tn : Int))), .int (iI pl)])), (r 3, aI g 60 tx)] ++ (wSt g qn kn ++ (wSt g qt kt ++ (wS4 g qv kv))))) rfl rfl rfl ?_
  refine j_aload_n C 0 dX4_swapped_14 rfl rfl ?_
  refine j_get C ck4 0 1 (by decide) qw131 rfl rfl dX4_swapped_15 ?_
  refine j_aload_n C 0 dX4_swapped_18 rfl rfl ?_
  refine j_get C ck4 0 0 (by decide) qw130 rfl rfl dX4_swapped_19 ?_
  refine j_callV (As := [.ref (qn 0)]) (rest := []) C yv_X2_copyFrom qw268 (c_X2_copyFrom l g qt kt qn kn) (by decide) 12 rfl rfl rfl dX4_swapped_22 rfl (Nat.le_of_ble_eq_true rfl) (by decide) (pf2r [(r 0, .inr (4, [.ref (qn 0), .ref (qt 0), .ref (r 1), .int (iI sc), .int (iI ((ns : Int))), .ref (r 2)])), (r 1, aS g 4 (fun j => some (qv j 0))), (r 2, .inr (3, [.ref (r 3), .int (iI ((tn : Int))), .int (iI pl)])), (r 3, aI g 60 tx)] 8 [] (wS4 g qv kv)) rfl (fun r9 w9 hq9 => ?_)
  obtain ⟨rfl, rfl⟩ := hq9
  refine J.to (L1 := [(0, .ref (r 0)), (1, .int (iI b)), (2, .int (iI x)), (3, .int (iI y))]) (S1 := []) (ws1 := ([(r 0, .inr (4, [.ref (qn 0), .ref (qt 0), .ref (r 1), .int (iI sc), .int (iI ((ns : Int))), .ref (r 2)])), (r 1, aS g 4 (fun j => some (qv j 0))), (r 2, .inr (3, [.ref (r 3), .int (iI ((tn : Int))), .int (iI pl)])), (r 3, aI g 60 tx)] ++ (wSt g qn kn ++ (wSt g qt (cpS kn kt) ++ (wS4 g qv kv))))) rfl rfl rfl ?_
  refine j_aload_n C 0 dX4_swapped_25 rfl rfl ?_
  refine j_get C ck4 0 1 (by decide) qw131 rfl rfl dX4_swapped_26 ?_
  refine j_getN C ck2 12 0 (by decide) qn90 rfl rfl dX4_swapped_29 ?_
  refine j_iload_n C 2 dX4_swapped_32 rfl rfl ?_
  refine j_iload_n C 3 dX4_swapped_33 rfl rfl ?_
  refine j_callV (As := [.int (iI x), .int (iI y)]) (rest := []) C yv_X1_swap qw578 (c_X1_swap l g (qt 1) (qt 2) ((cpS kn kt) 1) ((cpS kn kt) 0 2) ((cpS kn kt) 0 3) ((cpS kn kt) 0 1) x y (by omega) (by omega)) (by decide) 13 rfl rfl rfl dX4_swapped_34 rfl (Nat.le_of_ble_eq_true rfl) (by decide) (pf1 ([(r 0, .inr (4, [.ref (qn 0), .ref (qt 0), .ref (r 1), .int (iI sc), .int (iI ((ns : Int))), .ref (r 2)])), (r 1, aS g 4 (fun j => some (qv j 0))), (r 2, .inr (3, [.ref (r 3), .int (iI ((tn : Int))), .int (iI pl)])), (r 3, aI g 60 tx)] ++ (wSt g qn kn ++ ([(qt 0, .inr (2, [.ref (qt 1), .ref (qt 3), .ref (qt 5), .ref (qt 6), .ref (qt 7), .int (iI ((cpS kn kt) 0 0))]))]))) ([(qt 3, .inr (0, [.ref (qt 4), .int (iI ((cpS kn kt) 0 9)), .int (iI ((cpS kn kt) 0 6)), .int (iI ((cpS kn kt) 0 4)), .int (iI ((cpS kn kt) 0 5)), .long (lI ((cpS kn kt) 0 7)), .long (lI ((cpS kn kt) 0 8))])), (qt 4, aI g 48 ((cpS kn kt) 2)), (qt 5, aI g 4 ((cpS kn kt) 3)), (qt 6, aI g 4 ((cpS kn kt) 4)), (qt 7, aI g 4 ((cpS kn kt) 5))] ++ (wS4 g qv kv))) rfl (fun r9 w9 hq9 => ?_)
  obtain ⟨rfl, rfl⟩ := hq9
  refine J.to (L1 := [(0, .ref (r 0)), (1, .int (iI b)), (2, .int (iI x)), (3, .int (iI y))]) (S1 := []) (ws1 := ([(r 0, .inr (4, [.ref (qn 0), .ref (qt 0), .ref (r 1), .int (iI sc), .int (iI ((ns : Int))), .ref (r 2)])), (r 1, aS g 4 (fun j => some (qv j 0))), (r 2, .inr (3, [.ref (r 3), .int (iI ((tn : Int))), .int (iI pl)])), (r 3, aI g 60 tx)] ++ (wSt g qn kn ++ ([(qt 0, .inr (2, [.ref (qt 1), .ref (qt 3), .ref (qt 5), .ref (qt 6), .ref (qt 7), .int (iI ((cpS kn kt) 0 0))])), (qt 1, .inr (1, [.ref ((qt 2)), .int (iI (((cpS kn kt) 0 2))), .int (iI (((cpS kn kt) 0 3))), .int (iI (((cpS kn kt) 0 1)))])), ((qt 2), aI g 10 (va_up (va_up ((cpS kn kt) 1) x.toNat (((cpS kn kt) 1) y.toNat)) y.toNat (((cpS kn kt) 1) x.toNat))), (qt 3, .inr (0, [.ref (qt 4), .int (iI ((cpS kn kt) 0 9)), .int (iI ((cpS kn kt) 0 6)), .int (iI ((cpS kn kt) 0 4)), .int (iI ((cpS kn kt) 0 5)), .long (lI ((cpS kn kt) 0 7)), .long (lI ((cpS kn kt) 0 8))])), (qt 4, aI g 48 ((cpS kn kt) 2)), (qt 5, aI g 4 ((cpS kn kt) 3)), (qt 6, aI g 4 ((cpS kn kt) 4)), (qt 7, aI g 4 ((cpS kn kt) 5))] ++ (wS4 g qv kv))))) rfl rfl rfl ?_
  refine J.world (ws1 := ([(r 0, .inr (4, [.ref (qn 0), .ref (qt 0), .ref (r 1), .int (iI sc), .int (iI ((ns : Int))), .ref (r 2)])), (r 1, aS g 4 (fun j => some (qv j 0))), (r 2, .inr (3, [.ref (r 3), .int (iI ((tn : Int))), .int (iI pl)])), (r 3, aI g 60 tx)] ++ (wSt g qn kn ++ (wSt g qt (kSw kn kt x y) ++ (wS4 g qv kv))))) rfl ?_
  refine j_aload_n C 0 dX4_swapped_37 rfl rfl ?_
  refine j_get C ck4 0 1 (by decide) qw131 rfl rfl dX4_swapped_38 ?_
  refine j_iload_n C 1 dX4_swapped_41 rfl rfl ?_
  refine j_iconst C dX4_swapped_42 ?_
  refine j_callV (As := [.int (iI b), .int (iI 1)]) (rest := []) C yv_X2_leastForceFor qw466 (c_X2_leastForceFor l g qt (kSw kn kt x y) b true (SOK_sw hk hi hj) (by omega)) (by decide) 12 rfl rfl rfl dX4_swapped_43 rfl (Nat.le_of_ble_eq_true rfl) (by decide) (pf1 [(r 0, .inr (4, [.ref (qn 0), .ref (qt 0), .ref (r 1), .int (iI sc), .int (iI ((ns : Int))), .ref (r 2)])), (r 1, aS g 4 (fun j => some (qv j 0))), (r 2, .inr (3, [.ref (r 3), .int (iI ((tn : Int))), .int (iI pl)])), (r 3, aI g 60 tx), (qn 0, .inr (2, [.ref (qn 1), .ref (qn 3), .ref (qn 5), .ref (qn 6), .ref (qn 7), .int (iI (kn 0 0))])), (qn 1, .inr (1, [.ref (qn 2), .int (iI (kn 0 2)), .int (iI (kn 0 3)), .int (iI (kn 0 1))])), (qn 2, aI g 10 (kn 1)), (qn 3, .inr (0, [.ref (qn 4), .int (iI (kn 0 9)), .int (iI (kn 0 6)), .int (iI (kn 0 4)), .int (iI (kn 0 5)), .long (lI (kn 0 7)), .long (lI (kn 0 8))])), (qn 4, aI g 48 (kn 2)), (qn 5, aI g 4 (kn 3)), (qn 6, aI g 4 (kn 4)), (qn 7, aI g 4 (kn 5))] (wS4 g qv kv)) rfl (fun r9 w9 hq9 => ?_)
  obtain ⟨rfl, rfl⟩ := hq9
  refine J.to (L1 := [(0, .ref (r 0)), (1, .int (iI b)), (2, .int (iI x)), (3, .int (iI y))]) (S1 := [.int (iI (lea ((kSw kn kt x y) 1) ((kSw kn kt x y) 0 1) true ((kSw kn kt x y) 0 2).toNat ((kSw kn kt x y) 0 3) b ((kSw kn kt x y) 3 b.toNat)))]) (ws1 := ([(r 0, .inr (4, [.ref (qn 0), .ref (qt 0), .ref (r 1), .int (iI sc), .int (iI ((ns : Int))), .ref (r 2)])), (r 1, aS g 4 (fun j => some (qv j 0))), (r 2, .inr (3, [.ref (r 3), .int (iI ((tn : Int))), .int (iI pl)])), (r 3, aI g 60 tx)] ++ (wSt g qn kn ++ (wSt g qt (kSw kn kt x y) ++ (wS4 g qv kv))))) rfl rfl rfl ?_
  refine J.to (L1 := [(0, .ref (r 0)), (1, .int (iI b)), (2, .int (iI x)), (3, .int (iI y))]) (S1 := [.int (iI (lea (swp (kn 1) x.toNat y.toNat) (kn 0 1) true (kn 0 2).toNat (kn 0 3) b (kn 3 b.toNat)))]) (ws1 := ([(r 0, .inr (4, [.ref (qn 0), .ref (qt 0), .ref (r 1), .int (iI sc), .int (iI ((ns : Int))), .ref (r 2)])), (r 1, aS g 4 (fun j => some (qv j 0))), (r 2, .inr (3, [.ref (r 3), .int (iI ((tn : Int))), .int (iI pl)])), (r 3, aI g 60 tx)] ++ (wSt g qn kn ++ (wSt g qt (kSw kn kt x y) ++ (wS4 g qv kv))))) rfl rfl (by rw [show ((lea ((kSw kn kt x y) 1) ((kSw kn kt x y) 0 1) true ((kSw kn kt x y) 0 2).toNat ((kSw kn kt x y) 0 3) b ((kSw kn kt x y) 3 b.toNat) : Int)) = lea (swp (kn 1) x.toNat y.toNat) (kn 0 1) true (kn 0 2).toNat (kn 0 3) b (kn 3 b.toNat) from (sw_eq hk hb4 hi hj)]) ?_
  exact j_iret C hr hlk dX4_swapped_46 ⟨rfl, _, rfl⟩ (by decide) (by decide)

theorem x_X4_swapped_1 (l : Launch) (hl : l.stackTraces = false) (g : Gh) (r : Nat → Nat) (qn qt : Nat → Nat) (qv : Nat → Nat → Nat) (kn kt : Nat → Nat → Int) (kv : Nat → Nat → Nat → Int) (sc : Int) (ns : Nat) (tx : Nat → Int) (tn : Nat) (pl : Int) (b x y : Int) (hT : TOK kn kv sc ns tx tn) (hrb : -2147483648 ≤ b ∧ b < 2147483648) (hrx : -2147483648 ≤ x ∧ x < 2147483648) (hry : -2147483648 ≤ y ∧ y < 2147483648) (hb4 : b < 0 ∨ 4 ≤ b) : CX l g yX4_swapped cX4_swapped 4 (some FieldType.int) ({ frames := 7, cells := 1, slots := 6, locals := 121 }) [.ref (r 0), .int (iI b), .int (iI x), .int (iI y)] ([(r 0, .inr (4, [.ref (qn 0), .ref (qt 0), .ref (r 1), .int (iI sc), .int (iI ((ns : Int))), .ref (r 2)])), (r 1, aS g 4 (fun j => some (qv j 0))), (r 2, .inr (3, [.ref (r 3), .int (iI ((tn : Int))), .int (iI pl)])), (r 3, aI g 60 tx)] ++ (wSt g qn kn ++ (wSt g qt kt ++ (wS4 g qv kv)))) "java/lang/IndexOutOfBoundsException" (fun w9 => w9 = wTp g r qn qt qv kn kt kv sc ns tx tn pl) := by
  refine CX.intro (L0 := [(0, .ref (r 0)), (1, .int (iI b)), (2, .int (iI x)), (3, .int (iI y))]) (own := RX4) (by decide) rfl (Nat.le_of_ble_eq_true rfl) rfl ?_
  intro pX eX sX mX argsX belowX methX cX A C hlk hnt
  obtain ⟨⟨hk, hh0⟩, hkv, hsc, hns, htn, htx⟩ := id hT
  obtain ⟨hP, hE0, hF, hrow0, hwt, hht, hlen, hlat, hkept⟩ := id hk
  have hE : -10 ≤ kn 0 3 ∧ kn 0 3 ≤ 10 := by omega
  have hrow : ∀ i : Nat, (i : Int) < kn 0 2 → 0 ≤ kn 1 i ∧ kn 1 i ≤ 4 := fun i hi => by have := hrow0 i hi; omega
  have hc2 : cpS kn kt 0 2 = kn 0 2 := rfl
  have hhnd : 0 ≤ hnd kn ∧ hnd kn ≤ 300000 := ⟨hh0, hnd_le hk⟩
  refine j_iload_n C 1 dX4_swapped_0 rfl rfl ?_
  exact j_callSX (As := [.int (iI b)]) (rest := []) C ys_X4_checkBlock qw166 (x_X4_checkBlock_no l hl g b (by omega) (by omega)) (by decide) rfl dX4_swapped_1 rfl (Nat.le_of_ble_eq_true rfl) (by decide) (pf1 [] ([(r 0, .inr (4, [.ref (qn 0), .ref (qt 0), .ref (r 1), .int (iI sc), .int (iI ((ns : Int))), .ref (r 2)])), (r 1, aS g 4 (fun j => some (qv j 0))), (r 2, .inr (3, [.ref (r 3), .int (iI ((tn : Int))), .int (iI pl)])), (r 3, aI g 60 tx)] ++ (wSt g qn kn ++ (wSt g qt kt ++ (wS4 g qv kv))))) rfl hnt hlk ⟨by decide, by decide⟩ (fun w9 h9 => by rw [h9]; rfl)

theorem x_X4_swapped_2 (l : Launch) (hl : l.stackTraces = false) (g : Gh) (r : Nat → Nat) (qn qt : Nat → Nat) (qv : Nat → Nat → Nat) (kn kt : Nat → Nat → Int) (kv : Nat → Nat → Nat → Int) (sc : Int) (ns : Nat) (tx : Nat → Int) (tn : Nat) (pl : Int) (b x y : Int) (hT : TOK kn kv sc ns tx tn) (hrb : -2147483648 ≤ b ∧ b < 2147483648) (hrx : -2147483648 ≤ x ∧ x < 2147483648) (hry : -2147483648 ≤ y ∧ y < 2147483648) (hb4 : 0 ≤ b ∧ b < 4) (hi : x < 0 ∨ kn 0 2 ≤ x) : CX l g yX4_swapped cX4_swapped 4 (some FieldType.int) ({ frames := 7, cells := 1, slots := 6, locals := 121 }) [.ref (r 0), .int (iI b), .int (iI x), .int (iI y)] ([(r 0, .inr (4, [.ref (qn 0), .ref (qt 0), .ref (r 1), .int (iI sc), .int (iI ((ns : Int))), .ref (r 2)])), (r 1, aS g 4 (fun j => some (qv j 0))), (r 2, .inr (3, [.ref (r 3), .int (iI ((tn : Int))), .int (iI pl)])), (r 3, aI g 60 tx)] ++ (wSt g qn kn ++ (wSt g qt kt ++ (wS4 g qv kv)))) "java/lang/IndexOutOfBoundsException" (fun w9 => w9 = wTp g r qn qt qv kn kt kv sc ns tx tn pl) := by
  refine CX.intro (L0 := [(0, .ref (r 0)), (1, .int (iI b)), (2, .int (iI x)), (3, .int (iI y))]) (own := RX4) (by decide) rfl (Nat.le_of_ble_eq_true rfl) rfl ?_
  intro pX eX sX mX argsX belowX methX cX A C hlk hnt
  obtain ⟨⟨hk, hh0⟩, hkv, hsc, hns, htn, htx⟩ := id hT
  obtain ⟨hP, hE0, hF, hrow0, hwt, hht, hlen, hlat, hkept⟩ := id hk
  have hE : -10 ≤ kn 0 3 ∧ kn 0 3 ≤ 10 := by omega
  have hrow : ∀ i : Nat, (i : Int) < kn 0 2 → 0 ≤ kn 1 i ∧ kn 1 i ≤ 4 := fun i hi => by have := hrow0 i hi; omega
  have hc2 : cpS kn kt 0 2 = kn 0 2 := rfl
  have hhnd : 0 ≤ hnd kn ∧ hnd kn ≤ 300000 := ⟨hh0, hnd_le hk⟩
  refine j_iload_n C 1 dX4_swapped_0 rfl rfl ?_
  refine j_callS (As := [.int (iI b)]) (rest := []) C ys_X4_checkBlock qw166 (c_X4_checkBlock l g b (by omega)) (by decide) rfl dX4_swapped_1 rfl (Nat.le_of_ble_eq_true rfl) (by decide) (pf1 [] ([(r 0, .inr (4, [.ref (qn 0), .ref (qt 0), .ref (r 1), .int (iI sc), .int (iI ((ns : Int))), .ref (r 2)])), (r 1, aS g 4 (fun j => some (qv j 0))), (r 2, .inr (3, [.ref (r 3), .int (iI ((tn : Int))), .int (iI pl)])), (r 3, aI g 60 tx)] ++ (wSt g qn kn ++ (wSt g qt kt ++ (wS4 g qv kv))))) rfl (fun r9 w9 hq9 => ?_)
  obtain ⟨rfl, rfl⟩ := hq9
  refine J.to (L1 := [(0, .ref (r 0)), (1, .int (iI b)), (2, .int (iI x)), (3, .int (iI y))]) (S1 := []) (ws1 := ([(r 0, .inr (4, [.ref (qn 0), .ref (qt 0), .ref (r 1), .int (iI sc), .int (iI ((ns : Int))), .ref (r 2)])), (r 1, aS g 4 (fun j => some (qv j 0))), (r 2, .inr (3, [.ref (r 3), .int (iI ((tn : Int))), .int (iI pl)])), (r 3, aI g 60 tx)] ++ (wSt g qn kn ++ (wSt g qt kt ++ (wS4 g qv kv))))) rfl rfl rfl ?_
  refine j_aload_n C 0 dX4_swapped_4 rfl rfl ?_
  refine j_iload_n C 2 dX4_swapped_5 rfl rfl ?_
  exact j_callVX (As := [.int (iI x)]) (rest := []) C yv_X4_checkPulley qw475 (x_X4_checkPulley_no l hl g r qn qt qv kn kt kv sc ns tx tn pl x hT hrx hi) (by decide) 0 rfl rfl rfl dX4_swapped_6 rfl (Nat.le_of_ble_eq_true rfl) (by decide) pf0 rfl hnt hlk ⟨by decide, by decide⟩ (fun w9 h9 => by rw [h9])

theorem x_X4_swapped_3 (l : Launch) (hl : l.stackTraces = false) (g : Gh) (r : Nat → Nat) (qn qt : Nat → Nat) (qv : Nat → Nat → Nat) (kn kt : Nat → Nat → Int) (kv : Nat → Nat → Nat → Int) (sc : Int) (ns : Nat) (tx : Nat → Int) (tn : Nat) (pl : Int) (b x y : Int) (hT : TOK kn kv sc ns tx tn) (hrb : -2147483648 ≤ b ∧ b < 2147483648) (hrx : -2147483648 ≤ x ∧ x < 2147483648) (hry : -2147483648 ≤ y ∧ y < 2147483648) (hb4 : 0 ≤ b ∧ b < 4) (hi : 0 ≤ x ∧ x < kn 0 2) (hj : y < 0 ∨ kn 0 2 ≤ y) : CX l g yX4_swapped cX4_swapped 4 (some FieldType.int) ({ frames := 7, cells := 1, slots := 6, locals := 121 }) [.ref (r 0), .int (iI b), .int (iI x), .int (iI y)] ([(r 0, .inr (4, [.ref (qn 0), .ref (qt 0), .ref (r 1), .int (iI sc), .int (iI ((ns : Int))), .ref (r 2)])), (r 1, aS g 4 (fun j => some (qv j 0))), (r 2, .inr (3, [.ref (r 3), .int (iI ((tn : Int))), .int (iI pl)])), (r 3, aI g 60 tx)] ++ (wSt g qn kn ++ (wSt g qt kt ++ (wS4 g qv kv)))) "java/lang/IndexOutOfBoundsException" (fun w9 => w9 = wTp g r qn qt qv kn kt kv sc ns tx tn pl) := by
  refine CX.intro (L0 := [(0, .ref (r 0)), (1, .int (iI b)), (2, .int (iI x)), (3, .int (iI y))]) (own := RX4) (by decide) rfl (Nat.le_of_ble_eq_true rfl) rfl ?_
  intro pX eX sX mX argsX belowX methX cX A C hlk hnt
  obtain ⟨⟨hk, hh0⟩, hkv, hsc, hns, htn, htx⟩ := id hT
  obtain ⟨hP, hE0, hF, hrow0, hwt, hht, hlen, hlat, hkept⟩ := id hk
  have hE : -10 ≤ kn 0 3 ∧ kn 0 3 ≤ 10 := by omega
  have hrow : ∀ i : Nat, (i : Int) < kn 0 2 → 0 ≤ kn 1 i ∧ kn 1 i ≤ 4 := fun i hi => by have := hrow0 i hi; omega
  have hc2 : cpS kn kt 0 2 = kn 0 2 := rfl
  have hhnd : 0 ≤ hnd kn ∧ hnd kn ≤ 300000 := ⟨hh0, hnd_le hk⟩
  refine j_iload_n C 1 dX4_swapped_0 rfl rfl ?_
  refine j_callS (As := [.int (iI b)]) (rest := []) C ys_X4_checkBlock qw166 (c_X4_checkBlock l g b (by omega)) (by decide) rfl dX4_swapped_1 rfl (Nat.le_of_ble_eq_true rfl) (by decide) (pf1 [] ([(r 0, .inr (4, [.ref (qn 0), .ref (qt 0), .ref (r 1), .int (iI sc), .int (iI ((ns : Int))), .ref (r 2)])), (r 1, aS g 4 (fun j => some (qv j 0))), (r 2, .inr (3, [.ref (r 3), .int (iI ((tn : Int))), .int (iI pl)])), (r 3, aI g 60 tx)] ++ (wSt g qn kn ++ (wSt g qt kt ++ (wS4 g qv kv))))) rfl (fun r9 w9 hq9 => ?_)
  obtain ⟨rfl, rfl⟩ := hq9
  refine J.to (L1 := [(0, .ref (r 0)), (1, .int (iI b)), (2, .int (iI x)), (3, .int (iI y))]) (S1 := []) (ws1 := ([(r 0, .inr (4, [.ref (qn 0), .ref (qt 0), .ref (r 1), .int (iI sc), .int (iI ((ns : Int))), .ref (r 2)])), (r 1, aS g 4 (fun j => some (qv j 0))), (r 2, .inr (3, [.ref (r 3), .int (iI ((tn : Int))), .int (iI pl)])), (r 3, aI g 60 tx)] ++ (wSt g qn kn ++ (wSt g qt kt ++ (wS4 g qv kv))))) rfl rfl rfl ?_
  refine j_aload_n C 0 dX4_swapped_4 rfl rfl ?_
  refine j_iload_n C 2 dX4_swapped_5 rfl rfl ?_
  refine j_callV (As := [.int (iI x)]) (rest := []) C yv_X4_checkPulley qw475 (c_X4_checkPulley l g r qn qt qv kn kt kv sc ns tx tn pl x hT hi) (by decide) 0 rfl rfl rfl dX4_swapped_6 rfl (Nat.le_of_ble_eq_true rfl) (by decide) pf0 rfl (fun r9 w9 hq9 => ?_)
  obtain ⟨rfl, rfl⟩ := hq9
  refine J.to (L1 := [(0, .ref (r 0)), (1, .int (iI b)), (2, .int (iI x)), (3, .int (iI y))]) (S1 := []) (ws1 := ([(r 0, .inr (4, [.ref (qn 0), .ref (qt 0), .ref (r 1), .int (iI sc), .int (iI ((ns : Int))), .ref (r 2)])), (r 1, aS g 4 (fun j => some (qv j 0))), (r 2, .inr (3, [.ref (r 3), .int (iI ((tn : Int))), .int (iI pl)])), (r 3, aI g 60 tx)] ++ (wSt g qn kn ++ (wSt g qt kt ++ (wS4 g qv kv))))) rfl rfl rfl ?_
  refine j_aload_n C 0 dX4_swapped_9 rfl rfl ?_
  refine j_iload_n C 3 dX4_swapped_10 rfl rfl ?_
  exact j_callVX (As := [.int (iI y)]) (rest := []) C yv_X4_checkPulley qw475 (x_X4_checkPulley_no l hl g r qn qt qv kn kt kv sc ns tx tn pl y hT hry hj) (by decide) 0 rfl rfl rfl dX4_swapped_11 rfl (Nat.le_of_ble_eq_true rfl) (by decide) pf0 rfl hnt hlk ⟨by decide, by decide⟩ (fun w9 h9 => by rw [h9])

theorem c_X4_riseBy (l : Launch) (g : Gh) (r : Nat → Nat) (qn qt : Nat → Nat) (qv : Nat → Nat → Nat) (kn kt : Nat → Nat → Int) (kv : Nat → Nat → Nat → Int) (sc : Int) (ns : Nat) (tx : Nat → Int) (tn : Nat) (pl : Int) (b f n : Int) (hT : TOK kn kv sc ns tx tn) (hb4 : 0 ≤ b ∧ b < 4) (hf : 0 ≤ f ∧ f ≤ 1000000) (hn : 0 ≤ n ∧ n ≤ 100000) : CT l g yX4_riseBy cX4_riseBy 4 (some FieldType.int) ({ frames := 6, cells := 0, slots := 0, locals := 149 }) [.ref (r 0), .int (iI b), .int (iI f), .int (iI n)] ([(r 0, .inr (4, [.ref (qn 0), .ref (qt 0), .ref (r 1), .int (iI sc), .int (iI ((ns : Int))), .ref (r 2)])), (r 1, aS g 4 (fun j => some (qv j 0))), (r 2, .inr (3, [.ref (r 3), .int (iI ((tn : Int))), .int (iI pl)])), (r 3, aI g 60 tx)] ++ (wSt g qn kn ++ (wSt g qt kt ++ (wS4 g qv kv)))) (fun r9 w9 => r9 = (some (.int (iI ((mup f n (cpS kn kt)).1 4 b.toNat - kn 4 b.toNat)))) ∧ ∃ kt9 : Nat → Nat → Int, w9 = wTp g r qn qt qv kn kt9 kv sc ns tx tn pl) := by
  refine CT.intro (L0 := [(0, .ref (r 0)), (1, .int (iI b)), (2, .int (iI f)), (3, .int (iI n))]) (own := RX4) (by decide) rfl (Nat.le_of_ble_eq_true rfl) rfl ?_
  intro pX eX sX mX argsX belowX methX cX A C hr hlk
  obtain ⟨⟨hk, hh0⟩, hkv, hsc, hns, htn, htx⟩ := id hT
  obtain ⟨hP, hE0, hF, hrow0, hwt, hht, hlen, hlat, hkept⟩ := id hk
  have hE : -10 ≤ kn 0 3 ∧ kn 0 3 ≤ 10 := by omega
  have hrow : ∀ i : Nat, (i : Int) < kn 0 2 → 0 ≤ kn 1 i ∧ kn 1 i ≤ 4 := fun i hi => by have := hrow0 i hi; omega
  have hc2 : cpS kn kt 0 2 = kn 0 2 := rfl
  have hhnd : 0 ≤ hnd kn ∧ hnd kn ≤ 300000 := ⟨hh0, hnd_le hk⟩
  refine j_iload_n C 1 dX4_riseBy_0 rfl rfl ?_
  refine j_callS (As := [.int (iI b)]) (rest := []) C ys_X4_checkBlock qw166 (c_X4_checkBlock l g b (by omega)) (by decide) rfl dX4_riseBy_1 rfl (Nat.le_of_ble_eq_true rfl) (by decide) (pf1 [] ([(r 0, .inr (4, [.ref (qn 0), .ref (qt 0), .ref (r 1), .int (iI sc), .int (iI ((ns : Int))), .ref (r 2)])), (r 1, aS g 4 (fun j => some (qv j 0))), (r 2, .inr (3, [.ref (r 3), .int (iI ((tn : Int))), .int (iI pl)])), (r 3, aI g 60 tx)] ++ (wSt g qn kn ++ (wSt g qt kt ++ (wS4 g qv kv))))) rfl (fun r9 w9 hq9 => ?_)
  obtain ⟨rfl, rfl⟩ := hq9
  refine J.to (L1 := [(0, .ref (r 0)), (1, .int (iI b)), (2, .int (iI f)), (3, .int (iI n))]) (S1 := []) (ws1 := ([(r 0, .inr (4, [.ref (qn 0), .ref (qt 0), .ref (r 1), .int (iI sc), .int (iI ((ns : Int))), .ref (r 2)])), (r 1, aS g 4 (fun j => some (qv j 0))), (r 2, .inr (3, [.ref (r 3), .int (iI ((tn : Int))), .int (iI pl)])), (r 3, aI g 60 tx)] ++ (wSt g qn kn ++ (wSt g qt kt ++ (wS4 g qv kv))))) rfl rfl rfl ?_
  refine j_iload_n C 2 dX4_riseBy_4 rfl rfl ?_
  refine j_iconst C dX4_riseBy_5 ?_
  refine j_ldc (x := 1000000) C qw375 (by decide) dX4_riseBy_6 ?_
  refine j_callS (As := [.int (iI f), .int (iI 0), .int (iI 1000000)]) (rest := []) C ys_X4_checkRange qw241 (c_X4_checkRange l g f 0 1000000 (by omega) (by omega) (by omega) (by omega)) (by decide) rfl dX4_riseBy_8 rfl (Nat.le_of_ble_eq_true rfl) (by decide) (pf1 [] ([(r 0, .inr (4, [.ref (qn 0), .ref (qt 0), .ref (r 1), .int (iI sc), .int (iI ((ns : Int))), .ref (r 2)])), (r 1, aS g 4 (fun j => some (qv j 0))), (r 2, .inr (3, [.ref (r 3), .int (iI ((tn : Int))), .int (iI pl)])), (r 3, aI g 60 tx)] ++ (wSt g qn kn ++ (wSt g qt kt ++ (wS4 g qv kv))))) rfl (fun r9 w9 hq9 => ?_)
  obtain ⟨rfl, rfl⟩ := hq9
  refine J.to (L1 := [(0, .ref (r 0)), (1, .int (iI b)), (2, .int (iI f)), (3, .int (iI n))]) (S1 := []) (ws1 := ([(r 0, .inr (4, [.ref (qn 0), .ref (qt 0), .ref (r 1), .int (iI sc), .int (iI ((ns : Int))), .ref (r 2)])), (r 1, aS g 4 (fun j => some (qv j 0))), (r 2, .inr (3, [.ref (r 3), .int (iI ((tn : Int))), .int (iI pl)])), (r 3, aI g 60 tx)] ++ (wSt g qn kn ++ (wSt g qt kt ++ (wS4 g qv kv))))) rfl rfl rfl ?_
  refine j_iload_n C 3 dX4_riseBy_11 rfl rfl ?_
  refine j_iconst C dX4_riseBy_12 ?_
  refine j_ldc (x := 100000) C qw376 (by decide) dX4_riseBy_13 ?_
  refine j_callS (As := [.int (iI n), .int (iI 0), .int (iI 100000)]) (rest := []) C ys_X4_checkRange qw241 (c_X4_checkRange l g n 0 100000 (by omega) (by omega) (by omega) (by omega)) (by decide) rfl dX4_riseBy_15 rfl (Nat.le_of_ble_eq_true rfl) (by decide) (pf1 [] ([(r 0, .inr (4, [.ref (qn 0), .ref (qt 0), .ref (r 1), .int (iI sc), .int (iI ((ns : Int))), .ref (r 2)])), (r 1, aS g 4 (fun j => some (qv j 0))), (r 2, .inr (3, [.ref (r 3), .int (iI ((tn : Int))), .int (iI pl)])), (r 3, aI g 60 tx)] ++ (wSt g qn kn ++ (wSt g qt kt ++ (wS4 g qv kv))))) rfl (fun r9 w9 hq9 => ?_)
  obtain ⟨rfl, rfl⟩ := hq9
  refine J.to (L1 := [(0, .ref (r 0)), (1, .int (iI b)), (2, .int (iI f)), (3, .int (iI n))]) (S1 := []) (ws1 := ([(r 0, .inr (4, [.ref (qn 0), .ref (qt 0), .ref (r 1), .int (iI sc), .int (iI ((ns : Int))), .ref (r 2)])), (r 1, aS g 4 (fun j => some (qv j 0))), (r 2, .inr (3, [.ref (r 3), .int (iI ((tn : Int))), .int (iI pl)])), (r 3, aI g 60 tx)] ++ (wSt g qn kn ++ (wSt g qt kt ++ (wS4 g qv kv))))) rfl rfl rfl ?_
  refine j_aload_n C 0 dX4_riseBy_18 rfl rfl ?_
  refine j_get C ck4 0 1 (by decide) qw131 rfl rfl dX4_riseBy_19 ?_
  refine j_aload_n C 0 dX4_riseBy_22 rfl rfl ?_
  refine j_get C ck4 0 0 (by decide) qw130 rfl rfl dX4_riseBy_23 ?_
  refine j_callV (As := [.ref (qn 0)]) (rest := []) C yv_X2_copyFrom qw268 (c_X2_copyFrom l g qt kt qn kn) (by decide) 12 rfl rfl rfl dX4_riseBy_26 rfl (Nat.le_of_ble_eq_true rfl) (by decide) (pf2r [(r 0, .inr (4, [.ref (qn 0), .ref (qt 0), .ref (r 1), .int (iI sc), .int (iI ((ns : Int))), .ref (r 2)])), (r 1, aS g 4 (fun j => some (qv j 0))), (r 2, .inr (3, [.ref (r 3), .int (iI ((tn : Int))), .int (iI pl)])), (r 3, aI g 60 tx)] 8 [] (wS4 g qv kv)) rfl (fun r9 w9 hq9 => ?_)
  obtain ⟨rfl, rfl⟩ := hq9
  refine J.to (L1 := [(0, .ref (r 0)), (1, .int (iI b)), (2, .int (iI f)), (3, .int (iI n))]) (S1 := []) (ws1 := ([(r 0, .inr (4, [.ref (qn 0), .ref (qt 0), .ref (r 1), .int (iI sc), .int (iI ((ns : Int))), .ref (r 2)])), (r 1, aS g 4 (fun j => some (qv j 0))), (r 2, .inr (3, [.ref (r 3), .int (iI ((tn : Int))), .int (iI pl)])), (r 3, aI g 60 tx)] ++ (wSt g qn kn ++ (wSt g qt (cpS kn kt) ++ (wS4 g qv kv))))) rfl rfl rfl ?_
  refine j_aload_n C 0 dX4_riseBy_29 rfl rfl ?_
  refine j_get C ck4 0 1 (by decide) qw131 rfl rfl dX4_riseBy_30 ?_
  refine j_iload_n C 2 dX4_riseBy_33 rfl rfl ?_
  refine j_iload_n C 3 dX4_riseBy_34 rfl rfl ?_
  refine j_callV (As := [.int (iI f), .int (iI n)]) (rest := []) C yv_X2_moveUp qw377 (c_X2_moveUp l g qt (cpS kn kt) f n (SOK_cpS hk) (by omega) (by omega)) (by decide) 12 rfl rfl rfl dX4_riseBy_35 rfl (Nat.le_of_ble_eq_true rfl) (by decide) (pf1 [(r 0, .inr (4, [.ref (qn 0), .ref (qt 0), .ref (r 1), .int (iI sc), .int (iI ((ns : Int))), .ref (r 2)])), (r 1, aS g 4 (fun j => some (qv j 0))), (r 2, .inr (3, [.ref (r 3), .int (iI ((tn : Int))), .int (iI pl)])), (r 3, aI g 60 tx), (qn 0, .inr (2, [.ref (qn 1), .ref (qn 3), .ref (qn 5), .ref (qn 6), .ref (qn 7), .int (iI (kn 0 0))])), (qn 1, .inr (1, [.ref (qn 2), .int (iI (kn 0 2)), .int (iI (kn 0 3)), .int (iI (kn 0 1))])), (qn 2, aI g 10 (kn 1)), (qn 3, .inr (0, [.ref (qn 4), .int (iI (kn 0 9)), .int (iI (kn 0 6)), .int (iI (kn 0 4)), .int (iI (kn 0 5)), .long (lI (kn 0 7)), .long (lI (kn 0 8))])), (qn 4, aI g 48 (kn 2)), (qn 5, aI g 4 (kn 3)), (qn 6, aI g 4 (kn 4)), (qn 7, aI g 4 (kn 5))] (wS4 g qv kv)) rfl (fun r9 w9 hq9 => ?_)
  obtain ⟨rfl, rfl⟩ := hq9
  refine J.to (L1 := [(0, .ref (r 0)), (1, .int (iI b)), (2, .int (iI f)), (3, .int (iI n))]) (S1 := [.int (iI ((mup f n (cpS kn kt)).2))]) (ws1 := ([(r 0, .inr (4, [.ref (qn 0), .ref (qt 0), .ref (r 1), .int (iI sc), .int (iI ((ns : Int))), .ref (r 2)])), (r 1, aS g 4 (fun j => some (qv j 0))), (r 2, .inr (3, [.ref (r 3), .int (iI ((tn : Int))), .int (iI pl)])), (r 3, aI g 60 tx)] ++ (wSt g qn kn ++ (wSt g qt ((mup f n (cpS kn kt)).1) ++ (wS4 g qv kv))))) rfl rfl rfl ?_
  refine j_pop C dX4_riseBy_38 rfl ?_
  refine j_aload_n C 0 dX4_riseBy_39 rfl rfl ?_
  refine j_get C ck4 0 1 (by decide) qw131 rfl rfl dX4_riseBy_40 ?_
  refine j_iload_n C 1 dX4_riseBy_43 rfl rfl ?_
  refine j_callV (As := [.int (iI b)]) (rest := []) C yv_X2_heightOf qw463 (c_X2_heightOf l g qt ((mup f n (cpS kn kt)).1) b (SOK_mup (SOK_cpS hk) hn.1) (by omega)) (by decide) 12 rfl rfl rfl dX4_riseBy_44 rfl (Nat.le_of_ble_eq_true rfl) (by decide) (pf1 [(r 0, .inr (4, [.ref (qn 0), .ref (qt 0), .ref (r 1), .int (iI sc), .int (iI ((ns : Int))), .ref (r 2)])), (r 1, aS g 4 (fun j => some (qv j 0))), (r 2, .inr (3, [.ref (r 3), .int (iI ((tn : Int))), .int (iI pl)])), (r 3, aI g 60 tx), (qn 0, .inr (2, [.ref (qn 1), .ref (qn 3), .ref (qn 5), .ref (qn 6), .ref (qn 7), .int (iI (kn 0 0))])), (qn 1, .inr (1, [.ref (qn 2), .int (iI (kn 0 2)), .int (iI (kn 0 3)), .int (iI (kn 0 1))])), (qn 2, aI g 10 (kn 1)), (qn 3, .inr (0, [.ref (qn 4), .int (iI (kn 0 9)), .int (iI (kn 0 6)), .int (iI (kn 0 4)), .int (iI (kn 0 5)), .long (lI (kn 0 7)), .long (lI (kn 0 8))])), (qn 4, aI g 48 (kn 2)), (qn 5, aI g 4 (kn 3)), (qn 6, aI g 4 (kn 4)), (qn 7, aI g 4 (kn 5))] (wS4 g qv kv)) rfl (fun r9 w9 hq9 => ?_)
  obtain ⟨rfl, rfl⟩ := hq9
  refine J.to (L1 := [(0, .ref (r 0)), (1, .int (iI b)), (2, .int (iI f)), (3, .int (iI n))]) (S1 := [.int (iI (((mup f n (cpS kn kt)).1) 4 b.toNat))]) (ws1 := ([(r 0, .inr (4, [.ref (qn 0), .ref (qt 0), .ref (r 1), .int (iI sc), .int (iI ((ns : Int))), .ref (r 2)])), (r 1, aS g 4 (fun j => some (qv j 0))), (r 2, .inr (3, [.ref (r 3), .int (iI ((tn : Int))), .int (iI pl)])), (r 3, aI g 60 tx)] ++ (wSt g qn kn ++ (wSt g qt ((mup f n (cpS kn kt)).1) ++ (wS4 g qv kv))))) rfl rfl rfl ?_
  refine j_aload_n C 0 dX4_riseBy_47 rfl rfl ?_
  refine j_get C ck4 0 0 (by decide) qw130 rfl rfl dX4_riseBy_48 ?_
  refine j_iload_n C 1 dX4_riseBy_51 rfl rfl ?_
  refine j_callV (As := [.int (iI b)]) (rest := [.int (iI (((mup f n (cpS kn kt)).1) 4 b.toNat))]) C yv_X2_heightOf qw463 (c_X2_heightOf l g qn kn b hk (by omega)) (by decide) 4 rfl rfl rfl dX4_riseBy_52 rfl (Nat.le_of_ble_eq_true rfl) (by decide) (pf1 [(r 0, .inr (4, [.ref (qn 0), .ref (qt 0), .ref (r 1), .int (iI sc), .int (iI ((ns : Int))), .ref (r 2)])), (r 1, aS g 4 (fun j => some (qv j 0))), (r 2, .inr (3, [.ref (r 3), .int (iI ((tn : Int))), .int (iI pl)])), (r 3, aI g 60 tx)] (wSt g qt ((mup f n (cpS kn kt)).1) ++ (wS4 g qv kv))) rfl (fun r9 w9 hq9 => ?_)
  obtain ⟨rfl, rfl⟩ := hq9
  refine J.to (L1 := [(0, .ref (r 0)), (1, .int (iI b)), (2, .int (iI f)), (3, .int (iI n))]) (S1 := [.int (iI (kn 4 b.toNat)), .int (iI (((mup f n (cpS kn kt)).1) 4 b.toNat))]) (ws1 := ([(r 0, .inr (4, [.ref (qn 0), .ref (qt 0), .ref (r 1), .int (iI sc), .int (iI ((ns : Int))), .ref (r 2)])), (r 1, aS g 4 (fun j => some (qv j 0))), (r 2, .inr (3, [.ref (r 3), .int (iI ((tn : Int))), .int (iI pl)])), (r 3, aI g 60 tx)] ++ (wSt g qn kn ++ (wSt g qt ((mup f n (cpS kn kt)).1) ++ (wS4 g qv kv))))) rfl rfl rfl ?_
  refine j_isub C dX4_riseBy_55 ?_
  exact j_iret C hr hlk dX4_riseBy_56 ⟨rfl, _, rfl⟩ (by decide) (by decide)

theorem x_X4_riseBy_1 (l : Launch) (hl : l.stackTraces = false) (g : Gh) (r : Nat → Nat) (qn qt : Nat → Nat) (qv : Nat → Nat → Nat) (kn kt : Nat → Nat → Int) (kv : Nat → Nat → Nat → Int) (sc : Int) (ns : Nat) (tx : Nat → Int) (tn : Nat) (pl : Int) (b f n : Int) (hT : TOK kn kv sc ns tx tn) (hrb : -2147483648 ≤ b ∧ b < 2147483648) (hrf : -2147483648 ≤ f ∧ f < 2147483648) (hrn : -2147483648 ≤ n ∧ n < 2147483648) (hb4 : b < 0 ∨ 4 ≤ b) : CX l g yX4_riseBy cX4_riseBy 4 (some FieldType.int) ({ frames := 7, cells := 1, slots := 6, locals := 122 }) [.ref (r 0), .int (iI b), .int (iI f), .int (iI n)] ([(r 0, .inr (4, [.ref (qn 0), .ref (qt 0), .ref (r 1), .int (iI sc), .int (iI ((ns : Int))), .ref (r 2)])), (r 1, aS g 4 (fun j => some (qv j 0))), (r 2, .inr (3, [.ref (r 3), .int (iI ((tn : Int))), .int (iI pl)])), (r 3, aI g 60 tx)] ++ (wSt g qn kn ++ (wSt g qt kt ++ (wS4 g qv kv)))) "java/lang/IndexOutOfBoundsException" (fun w9 => w9 = wTp g r qn qt qv kn kt kv sc ns tx tn pl) := by
  refine CX.intro (L0 := [(0, .ref (r 0)), (1, .int (iI b)), (2, .int (iI f)), (3, .int (iI n))]) (own := RX4) (by decide) rfl (Nat.le_of_ble_eq_true rfl) rfl ?_
  intro pX eX sX mX argsX belowX methX cX A C hlk hnt
  obtain ⟨⟨hk, hh0⟩, hkv, hsc, hns, htn, htx⟩ := id hT
  obtain ⟨hP, hE0, hF, hrow0, hwt, hht, hlen, hlat, hkept⟩ := id hk
  have hE : -10 ≤ kn 0 3 ∧ kn 0 3 ≤ 10 := by omega
  have hrow : ∀ i : Nat, (i : Int) < kn 0 2 → 0 ≤ kn 1 i ∧ kn 1 i ≤ 4 := fun i hi => by have := hrow0 i hi; omega
  have hc2 : cpS kn kt 0 2 = kn 0 2 := rfl
  have hhnd : 0 ≤ hnd kn ∧ hnd kn ≤ 300000 := ⟨hh0, hnd_le hk⟩
  refine j_iload_n C 1 dX4_riseBy_0 rfl rfl ?_
  exact j_callSX (As := [.int (iI b)]) (rest := []) C ys_X4_checkBlock qw166 (x_X4_checkBlock_no l hl g b (by omega) (by omega)) (by decide) rfl dX4_riseBy_1 rfl (Nat.le_of_ble_eq_true rfl) (by decide) (pf1 [] ([(r 0, .inr (4, [.ref (qn 0), .ref (qt 0), .ref (r 1), .int (iI sc), .int (iI ((ns : Int))), .ref (r 2)])), (r 1, aS g 4 (fun j => some (qv j 0))), (r 2, .inr (3, [.ref (r 3), .int (iI ((tn : Int))), .int (iI pl)])), (r 3, aI g 60 tx)] ++ (wSt g qn kn ++ (wSt g qt kt ++ (wS4 g qv kv))))) rfl hnt hlk ⟨by decide, by decide⟩ (fun w9 h9 => by rw [h9]; rfl)

theorem x_X4_riseBy_2 (l : Launch) (hl : l.stackTraces = false) (g : Gh) (r : Nat → Nat) (qn qt : Nat → Nat) (qv : Nat → Nat → Nat) (kn kt : Nat → Nat → Int) (kv : Nat → Nat → Nat → Int) (sc : Int) (ns : Nat) (tx : Nat → Int) (tn : Nat) (pl : Int) (b f n : Int) (hT : TOK kn kv sc ns tx tn) (hrb : -2147483648 ≤ b ∧ b < 2147483648) (hrf : -2147483648 ≤ f ∧ f < 2147483648) (hrn : -2147483648 ≤ n ∧ n < 2147483648) (hb4 : 0 ≤ b ∧ b < 4) (hf : f < 0 ∨ 1000000 < f) : CX l g yX4_riseBy cX4_riseBy 4 (some FieldType.int) ({ frames := 7, cells := 1, slots := 6, locals := 122 }) [.ref (r 0), .int (iI b), .int (iI f), .int (iI n)] ([(r 0, .inr (4, [.ref (qn 0), .ref (qt 0), .ref (r 1), .int (iI sc), .int (iI ((ns : Int))), .ref (r 2)])), (r 1, aS g 4 (fun j => some (qv j 0))), (r 2, .inr (3, [.ref (r 3), .int (iI ((tn : Int))), .int (iI pl)])), (r 3, aI g 60 tx)] ++ (wSt g qn kn ++ (wSt g qt kt ++ (wS4 g qv kv)))) "java/lang/IllegalArgumentException" (fun w9 => w9 = wTp g r qn qt qv kn kt kv sc ns tx tn pl) := by
  refine CX.intro (L0 := [(0, .ref (r 0)), (1, .int (iI b)), (2, .int (iI f)), (3, .int (iI n))]) (own := RX4) (by decide) rfl (Nat.le_of_ble_eq_true rfl) rfl ?_
  intro pX eX sX mX argsX belowX methX cX A C hlk hnt
  obtain ⟨⟨hk, hh0⟩, hkv, hsc, hns, htn, htx⟩ := id hT
  obtain ⟨hP, hE0, hF, hrow0, hwt, hht, hlen, hlat, hkept⟩ := id hk
  have hE : -10 ≤ kn 0 3 ∧ kn 0 3 ≤ 10 := by omega
  have hrow : ∀ i : Nat, (i : Int) < kn 0 2 → 0 ≤ kn 1 i ∧ kn 1 i ≤ 4 := fun i hi => by have := hrow0 i hi; omega
  have hc2 : cpS kn kt 0 2 = kn 0 2 := rfl
  have hhnd : 0 ≤ hnd kn ∧ hnd kn ≤ 300000 := ⟨hh0, hnd_le hk⟩
  refine j_iload_n C 1 dX4_riseBy_0 rfl rfl ?_
  refine j_callS (As := [.int (iI b)]) (rest := []) C ys_X4_checkBlock qw166 (c_X4_checkBlock l g b (by omega)) (by decide) rfl dX4_riseBy_1 rfl (Nat.le_of_ble_eq_true rfl) (by decide) (pf1 [] ([(r 0, .inr (4, [.ref (qn 0), .ref (qt 0), .ref (r 1), .int (iI sc), .int (iI ((ns : Int))), .ref (r 2)])), (r 1, aS g 4 (fun j => some (qv j 0))), (r 2, .inr (3, [.ref (r 3), .int (iI ((tn : Int))), .int (iI pl)])), (r 3, aI g 60 tx)] ++ (wSt g qn kn ++ (wSt g qt kt ++ (wS4 g qv kv))))) rfl (fun r9 w9 hq9 => ?_)
  obtain ⟨rfl, rfl⟩ := hq9
  refine J.to (L1 := [(0, .ref (r 0)), (1, .int (iI b)), (2, .int (iI f)), (3, .int (iI n))]) (S1 := []) (ws1 := ([(r 0, .inr (4, [.ref (qn 0), .ref (qt 0), .ref (r 1), .int (iI sc), .int (iI ((ns : Int))), .ref (r 2)])), (r 1, aS g 4 (fun j => some (qv j 0))), (r 2, .inr (3, [.ref (r 3), .int (iI ((tn : Int))), .int (iI pl)])), (r 3, aI g 60 tx)] ++ (wSt g qn kn ++ (wSt g qt kt ++ (wS4 g qv kv))))) rfl rfl rfl ?_
  refine j_iload_n C 2 dX4_riseBy_4 rfl rfl ?_
  refine j_iconst C dX4_riseBy_5 ?_
  refine j_ldc (x := 1000000) C qw375 (by decide) dX4_riseBy_6 ?_
  exact j_callSX (As := [.int (iI f), .int (iI 0), .int (iI 1000000)]) (rest := []) C ys_X4_checkRange qw241 (x_X4_checkRange_no l hl g f 0 1000000 (by omega) (by omega) (by omega) (by omega)) (by decide) rfl dX4_riseBy_8 rfl (Nat.le_of_ble_eq_true rfl) (by decide) (pf1 [] ([(r 0, .inr (4, [.ref (qn 0), .ref (qt 0), .ref (r 1), .int (iI sc), .int (iI ((ns : Int))), .ref (r 2)])), (r 1, aS g 4 (fun j => some (qv j 0))), (r 2, .inr (3, [.ref (r 3), .int (iI ((tn : Int))), .int (iI pl)])), (r 3, aI g 60 tx)] ++ (wSt g qn kn ++ (wSt g qt kt ++ (wS4 g qv kv))))) rfl hnt hlk ⟨by decide, by decide⟩ (fun w9 h9 => by rw [h9]; rfl)

theorem x_X4_riseBy_3 (l : Launch) (hl : l.stackTraces = false) (g : Gh) (r : Nat → Nat) (qn qt : Nat → Nat) (qv : Nat → Nat → Nat) (kn kt : Nat → Nat → Int) (kv : Nat → Nat → Nat → Int) (sc : Int) (ns : Nat) (tx : Nat → Int) (tn : Nat) (pl : Int) (b f n : Int) (hT : TOK kn kv sc ns tx tn) (hrb : -2147483648 ≤ b ∧ b < 2147483648) (hrf : -2147483648 ≤ f ∧ f < 2147483648) (hrn : -2147483648 ≤ n ∧ n < 2147483648) (hb4 : 0 ≤ b ∧ b < 4) (hf : 0 ≤ f ∧ f ≤ 1000000) (hn : n < 0 ∨ 100000 < n) : CX l g yX4_riseBy cX4_riseBy 4 (some FieldType.int) ({ frames := 7, cells := 1, slots := 6, locals := 122 }) [.ref (r 0), .int (iI b), .int (iI f), .int (iI n)] ([(r 0, .inr (4, [.ref (qn 0), .ref (qt 0), .ref (r 1), .int (iI sc), .int (iI ((ns : Int))), .ref (r 2)])), (r 1, aS g 4 (fun j => some (qv j 0))), (r 2, .inr (3, [.ref (r 3), .int (iI ((tn : Int))), .int (iI pl)])), (r 3, aI g 60 tx)] ++ (wSt g qn kn ++ (wSt g qt kt ++ (wS4 g qv kv)))) "java/lang/IllegalArgumentException" (fun w9 => w9 = wTp g r qn qt qv kn kt kv sc ns tx tn pl) := by
  refine CX.intro (L0 := [(0, .ref (r 0)), (1, .int (iI b)), (2, .int (iI f)), (3, .int (iI n))]) (own := RX4) (by decide) rfl (Nat.le_of_ble_eq_true rfl) rfl ?_
  intro pX eX sX mX argsX belowX methX cX A C hlk hnt
  obtain ⟨⟨hk, hh0⟩, hkv, hsc, hns, htn, htx⟩ := id hT
  obtain ⟨hP, hE0, hF, hrow0, hwt, hht, hlen, hlat, hkept⟩ := id hk
  have hE : -10 ≤ kn 0 3 ∧ kn 0 3 ≤ 10 := by omega
  have hrow : ∀ i : Nat, (i : Int) < kn 0 2 → 0 ≤ kn 1 i ∧ kn 1 i ≤ 4 := fun i hi => by have := hrow0 i hi; omega
  have hc2 : cpS kn kt 0 2 = kn 0 2 := rfl
  have hhnd : 0 ≤ hnd kn ∧ hnd kn ≤ 300000 := ⟨hh0, hnd_le hk⟩
  refine j_iload_n C 1 dX4_riseBy_0 rfl rfl ?_
  refine j_callS (As := [.int (iI b)]) (rest := []) C ys_X4_checkBlock qw166 (c_X4_checkBlock l g b (by omega)) (by decide) rfl dX4_riseBy_1 rfl (Nat.le_of_ble_eq_true rfl) (by decide) (pf1 [] ([(r 0, .inr (4, [.ref (qn 0), .ref (qt 0), .ref (r 1), .int (iI sc), .int (iI ((ns : Int))), .ref (r 2)])), (r 1, aS g 4 (fun j => some (qv j 0))), (r 2, .inr (3, [.ref (r 3), .int (iI ((tn : Int))), .int (iI pl)])), (r 3, aI g 60 tx)] ++ (wSt g qn kn ++ (wSt g qt kt ++ (wS4 g qv kv))))) rfl (fun r9 w9 hq9 => ?_)
  obtain ⟨rfl, rfl⟩ := hq9
  refine J.to (L1 := [(0, .ref (r 0)), (1, .int (iI b)), (2, .int (iI f)), (3, .int (iI n))]) (S1 := []) (ws1 := ([(r 0, .inr (4, [.ref (qn 0), .ref (qt 0), .ref (r 1), .int (iI sc), .int (iI ((ns : Int))), .ref (r 2)])), (r 1, aS g 4 (fun j => some (qv j 0))), (r 2, .inr (3, [.ref (r 3), .int (iI ((tn : Int))), .int (iI pl)])), (r 3, aI g 60 tx)] ++ (wSt g qn kn ++ (wSt g qt kt ++ (wS4 g qv kv))))) rfl rfl rfl ?_
  refine j_iload_n C 2 dX4_riseBy_4 rfl rfl ?_
  refine j_iconst C dX4_riseBy_5 ?_
  refine j_ldc (x := 1000000) C qw375 (by decide) dX4_riseBy_6 ?_
  refine j_callS (As := [.int (iI f), .int (iI 0), .int (iI 1000000)]) (rest := []) C ys_X4_checkRange qw241 (c_X4_checkRange l g f 0 1000000 (by omega) (by omega) (by omega) (by omega)) (by decide) rfl dX4_riseBy_8 rfl (Nat.le_of_ble_eq_true rfl) (by decide) (pf1 [] ([(r 0, .inr (4, [.ref (qn 0), .ref (qt 0), .ref (r 1), .int (iI sc), .int (iI ((ns : Int))), .ref (r 2)])), (r 1, aS g 4 (fun j => some (qv j 0))), (r 2, .inr (3, [.ref (r 3), .int (iI ((tn : Int))), .int (iI pl)])), (r 3, aI g 60 tx)] ++ (wSt g qn kn ++ (wSt g qt kt ++ (wS4 g qv kv))))) rfl (fun r9 w9 hq9 => ?_)
  obtain ⟨rfl, rfl⟩ := hq9
  refine J.to (L1 := [(0, .ref (r 0)), (1, .int (iI b)), (2, .int (iI f)), (3, .int (iI n))]) (S1 := []) (ws1 := ([(r 0, .inr (4, [.ref (qn 0), .ref (qt 0), .ref (r 1), .int (iI sc), .int (iI ((ns : Int))), .ref (r 2)])), (r 1, aS g 4 (fun j => some (qv j 0))), (r 2, .inr (3, [.ref (r 3), .int (iI ((tn : Int))), .int (iI pl)])), (r 3, aI g 60 tx)] ++ (wSt g qn kn ++ (wSt g qt kt ++ (wS4 g qv kv))))) rfl rfl rfl ?_
  refine j_iload_n C 3 dX4_riseBy_11 rfl rfl ?_
  refine j_iconst C dX4_riseBy_12 ?_
  refine j_ldc (x := 100000) C qw376 (by decide) dX4_riseBy_13 ?_
  exact j_callSX (As := [.int (iI n), .int (iI 0), .int (iI 100000)]) (rest := []) C ys_X4_checkRange qw241 (x_X4_checkRange_no l hl g n 0 100000 (by omega) (by omega) (by omega) (by omega)) (by decide) rfl dX4_riseBy_15 rfl (Nat.le_of_ble_eq_true rfl) (by decide) (pf1 [] ([(r 0, .inr (4, [.ref (qn 0), .ref (qt 0), .ref (r 1), .int (iI sc), .int (iI ((ns : Int))), .ref (r 2)])), (r 1, aS g 4 (fun j => some (qv j 0))), (r 2, .inr (3, [.ref (r 3), .int (iI ((tn : Int))), .int (iI pl)])), (r 3, aI g 60 tx)] ++ (wSt g qn kn ++ (wSt g qt kt ++ (wS4 g qv kv))))) rfl hnt hlk ⟨by decide, by decide⟩ (fun w9 h9 => by rw [h9]; rfl)

theorem wtf_rng {tx : Nat → Int} {n : Nat} : ∀ (f p b : Nat) {w : Nat → Int}, (∀ j, j < 4 → 0 ≤ w j ∧ w j ≤ 50000) → ∀ j, j < 4 → 0 ≤ wtf tx n f p b w j ∧ wtf tx n f p b w j ≤ 50000
  | 0, _, _, _, h => h
  | f + 1, p, b, w, h => by
    rw [wtf]
    split
    · next hc =>
      exact wtf_rng f _ _ (fun j hj => by
        unfold va_up
        split
        · exact ⟨dv_wm.1, hc.2.2.2.2⟩
        · exact h j hj)
    · exact h
theorem pfin_rng {tx : Nat → Int} {n : Nat} : ∀ (f p : Nat), -1 ≤ pfin tx n f p ∧ pfin tx n f p ≤ n
  | 0, p => by
    rw [pfin]
    split <;> omega
  | f + 1, p => by
    rw [pfin]
    split
    · next hp =>
      split
      · exact pfin_rng f _
      · have h1 := wm_le (tx := tx) (n := n) (p := p) (by omega)
        unfold wFl
        split
        · omega
        · split <;> omega
    · omega
theorem pFlt_rng {tx : Nat → Int} {n : Nat} (hn : n ≤ 60) : -1 ≤ pFlt tx n ∧ pFlt tx n ≤ 61 := by
  have h1 := pP_le tx n
  have h2 := pfin_rng (tx := tx) (n := n) 4 (pP tx n + 2)
  rw [pFlt]
  split
  · omega
  · split <;> omega
theorem SOK_prs {tx : Nat → Int} {n : Nat} {k : Nat → Nat → Int} (hk : SOK k) (hF : pFlt tx n = -1) : SOK (prs tx n k) := by
  have h1 := pP_le tx n
  have h2 : dg tx n 48 52 (pP tx n + 1) := by
    rw [pFlt] at hF
    split at hF
    · omega
    · split at hF
      · omega
      · next h => exact Decidable.not_not.mp h
  exact SOK_prS hk (by omega) rfl (fun i hi => by
    have := rn_dg (tx := tx) (n := n) (lo := 48) (hi := 51) (f := 10) (p := 0) (i := i) hi
    rw [Nat.zero_add] at this
    exact this.2) (by have := h2.2; omega) (wtf_rng 4 _ _ hk.2.2.2.2.1)
theorem c_X4_parse_1 (l : Launch) (g : Gh) (r : Nat → Nat) (qn qt : Nat → Nat) (qv : Nat → Nat → Nat) (kn kt : Nat → Nat → Int) (kv : Nat → Nat → Nat → Int) (sc : Int) (ns : Nat) (tx : Nat → Int) (tn : Nat) (pl : Int) (hT : TOK kn kv sc ns tx tn) (hF9 : pFlt tx tn ≠ -1) : CT l g yX4_parse cX4_parse 2 (some FieldType.int) ({ frames := 5, cells := 0, slots := 0, locals := 105 }) [.ref (r 0)] ([(r 0, .inr (4, [.ref (qn 0), .ref (qt 0), .ref (r 1), .int (iI sc), .int (iI ((ns : Int))), .ref (r 2)])), (r 1, aS g 4 (fun j => some (qv j 0))), (r 2, .inr (3, [.ref (r 3), .int (iI ((tn : Int))), .int (iI pl)])), (r 3, aI g 60 tx)] ++ (wSt g qn kn ++ (wSt g qt kt ++ (wS4 g qv kv)))) (fun r9 w9 => r9 = (some (.int (iI (-10 - pFlt tx tn)))) ∧ ∃ (kt9 : Nat → Nat → Int) (pl9 : Int), w9 = wTp g r qn qt qv kn kt9 kv sc ns tx tn pl9) := by
  refine CT.intro (L0 := [(0, .ref (r 0))]) (own := RX4) (by decide) rfl (Nat.le_of_ble_eq_true rfl) rfl ?_
  intro pX eX sX mX argsX belowX methX cX A C hr hlk
  obtain ⟨⟨hk, hh0⟩, hkv, hsc, hns, htn, htx⟩ := id hT
  obtain ⟨hP, hE0, hF, hrow0, hwt, hht, hlen, hlat, hkept⟩ := id hk
  have hE : -10 ≤ kn 0 3 ∧ kn 0 3 ≤ 10 := by omega
  have hrow : ∀ i : Nat, (i : Int) < kn 0 2 → 0 ≤ kn 1 i ∧ kn 1 i ≤ 4 := fun i hi => by have := hrow0 i hi; omega
  have hc2 : cpS kn kt 0 2 = kn 0 2 := rfl
  have hhnd : 0 ≤ hnd kn ∧ hnd kn ≤ 300000 := ⟨hh0, hnd_le hk⟩
  have hp9 := pFlt_rng (tx := tx) htn
  refine j_aload_n C 0 dX4_parse_0 rfl rfl ?_
  refine j_get C ck4 0 1 (by decide) qw131 rfl rfl dX4_parse_1 ?_
  refine j_aload_n C 0 dX4_parse_4 rfl rfl ?_
  refine j_get C ck4 0 0 (by decide) qw130 rfl rfl dX4_parse_5 ?_
  refine j_callV (As := [.ref (qn 0)]) (rest := []) C yv_X2_copyFrom qw268 (c_X2_copyFrom l g qt kt qn kn) (by decide) 12 rfl rfl rfl dX4_parse_8 rfl (Nat.le_of_ble_eq_true rfl) (by decide) (pf2r [(r 0, .inr (4, [.ref (qn 0), .ref (qt 0), .ref (r 1), .int (iI sc), .int (iI ((ns : Int))), .ref (r 2)])), (r 1, aS g 4 (fun j => some (qv j 0))), (r 2, .inr (3, [.ref (r 3), .int (iI ((tn : Int))), .int (iI pl)])), (r 3, aI g 60 tx)] 8 [] (wS4 g qv kv)) rfl (fun r9 w9 hq9 => ?_)
  obtain ⟨rfl, rfl⟩ := hq9
  refine J.to (L1 := [(0, .ref (r 0))]) (S1 := []) (ws1 := ([(r 0, .inr (4, [.ref (qn 0), .ref (qt 0), .ref (r 1), .int (iI sc), .int (iI ((ns : Int))), .ref (r 2)])), (r 1, aS g 4 (fun j => some (qv j 0))), (r 2, .inr (3, [.ref (r 3), .int (iI ((tn : Int))), .int (iI pl)])), (r 3, aI g 60 tx)] ++ (wSt g qn kn ++ (wSt g qt (cpS kn kt) ++ (wS4 g qv kv))))) rfl rfl rfl ?_
  refine j_aload_n C 0 dX4_parse_11 rfl rfl ?_
  refine j_get C ck4 0 5 (by decide) qw135 rfl rfl dX4_parse_12 ?_
  refine j_aload_n C 0 dX4_parse_15 rfl rfl ?_
  refine j_get C ck4 0 1 (by decide) qw131 rfl rfl dX4_parse_16 ?_
  refine j_callV (As := [.ref (qt 0)]) (rest := []) C yv_X3_readInto qw655 (c_X3_readInto l g (r 2) (r 3) tx tn pl qt (cpS kn kt) htn htx (SOK_cpS hk)) (by decide) 2 rfl rfl rfl dX4_parse_19 rfl (Nat.le_of_ble_eq_true rfl) (by decide) (pf2 [(r 0, .inr (4, [.ref (qn 0), .ref (qt 0), .ref (r 1), .int (iI sc), .int (iI ((ns : Int))), .ref (r 2)])), (r 1, aS g 4 (fun j => some (qv j 0)))] 2 [(qn 0, .inr (2, [.ref (qn 1), .ref (qn 3), .ref (qn 5), .ref (qn 6), .ref (qn 7), .int (iI (kn 0 0))])), (qn 1, .inr (1, [.ref (qn 2), .int (iI (kn 0 2)), .int (iI (kn 0 3)), .int (iI (kn 0 1))])), (qn 2, aI g 10 (kn 1)), (qn 3, .inr (0, [.ref (qn 4), .int (iI (kn 0 9)), .int (iI (kn 0 6)), .int (iI (kn 0 4)), .int (iI (kn 0 5)), .long (lI (kn 0 7)), .long (lI (kn 0 8))])), (qn 4, aI g 48 (kn 2)), (qn 5, aI g 4 (kn 3)), (qn 6, aI g 4 (kn 4)), (qn 7, aI g 4 (kn 5))] (wS4 g qv kv)) rfl (fun r9 w9 hq9 => ?_)
  obtain ⟨rfl, p', kx, rfl, hkx⟩ := hq9
  refine J.to (L1 := [(0, .ref (r 0))]) (S1 := [.int (iI (pFlt tx tn))]) (ws1 := ([(r 0, .inr (4, [.ref (qn 0), .ref (qt 0), .ref (r 1), .int (iI sc), .int (iI ((ns : Int))), .ref (r 2)])), (r 1, aS g 4 (fun j => some (qv j 0))), (r 2, .inr (3, [.ref (r 3), .int (iI ((tn : Int))), .int (iI ((p' : Int)))])), (r 3, aI g 60 tx)] ++ (wSt g qn kn ++ (wSt g qt kx ++ (wS4 g qv kv))))) rfl rfl rfl ?_
  refine j_istore_n (L1 := [(1, .int (iI (pFlt tx tn))), (0, .ref (r 0))]) C dX4_parse_22 rfl (by decide) rfl ?_
  refine j_iload_n C 0 dX4_parse_23 rfl rfl ?_
  refine j_iconst C dX4_parse_24 ?_
  refine j_icmp_eq (tgt := 33) C (by omega) (by decide) dX4_parse_25 (by decide) (fun c25 => absurd c25 (by omega)) (fun c25 => ?_)
  refine j_bipush C dX4_parse_28 (by decide) ?_
  refine j_iload_n C 0 dX4_parse_30 rfl rfl ?_
  refine j_isub C dX4_parse_31 ?_
  exact j_iret C hr hlk dX4_parse_32 ⟨rfl, _, _, rfl⟩ (by decide) (by decide)

theorem c_X4_parse_2 (l : Launch) (g : Gh) (r : Nat → Nat) (qn qt : Nat → Nat) (qv : Nat → Nat → Nat) (kn kt : Nat → Nat → Int) (kv : Nat → Nat → Nat → Int) (sc : Int) (ns : Nat) (tx : Nat → Int) (tn : Nat) (pl : Int) (hT : TOK kn kv sc ns tx tn) (hF9 : pFlt tx tn = -1) (hh : hnd (prs tx tn (cpS kn kt)) < 0) : CT l g yX4_parse cX4_parse 2 (some FieldType.int) ({ frames := 5, cells := 0, slots := 0, locals := 105 }) [.ref (r 0)] ([(r 0, .inr (4, [.ref (qn 0), .ref (qt 0), .ref (r 1), .int (iI sc), .int (iI ((ns : Int))), .ref (r 2)])), (r 1, aS g 4 (fun j => some (qv j 0))), (r 2, .inr (3, [.ref (r 3), .int (iI ((tn : Int))), .int (iI pl)])), (r 3, aI g 60 tx)] ++ (wSt g qn kn ++ (wSt g qt kt ++ (wS4 g qv kv)))) (fun r9 w9 => r9 = (some (.int (iI (-1)))) ∧ ∃ (kt9 : Nat → Nat → Int) (pl9 : Int), w9 = wTp g r qn qt qv kn kt9 kv sc ns tx tn pl9) := by
  refine CT.intro (L0 := [(0, .ref (r 0))]) (own := RX4) (by decide) rfl (Nat.le_of_ble_eq_true rfl) rfl ?_
  intro pX eX sX mX argsX belowX methX cX A C hr hlk
  obtain ⟨⟨hk, hh0⟩, hkv, hsc, hns, htn, htx⟩ := id hT
  obtain ⟨hP, hE0, hF, hrow0, hwt, hht, hlen, hlat, hkept⟩ := id hk
  have hE : -10 ≤ kn 0 3 ∧ kn 0 3 ≤ 10 := by omega
  have hrow : ∀ i : Nat, (i : Int) < kn 0 2 → 0 ≤ kn 1 i ∧ kn 1 i ≤ 4 := fun i hi => by have := hrow0 i hi; omega
  have hc2 : cpS kn kt 0 2 = kn 0 2 := rfl
  have hhnd : 0 ≤ hnd kn ∧ hnd kn ≤ 300000 := ⟨hh0, hnd_le hk⟩
  have hp9 := pFlt_rng (tx := tx) htn
  refine j_aload_n C 0 dX4_parse_0 rfl rfl ?_
  refine j_get C ck4 0 1 (by decide) qw131 rfl rfl dX4_parse_1 ?_
  refine j_aload_n C 0 dX4_parse_4 rfl rfl ?_
  refine j_get C ck4 0 0 (by decide) qw130 rfl rfl dX4_parse_5 ?_
  refine j_callV (As := [.ref (qn 0)]) (rest := []) C yv_X2_copyFrom qw268 (c_X2_copyFrom l g qt kt qn kn) (by decide) 12 rfl rfl rfl dX4_parse_8 rfl (Nat.le_of_ble_eq_true rfl) (by decide) (pf2r [(r 0, .inr (4, [.ref (qn 0), .ref (qt 0), .ref (r 1), .int (iI sc), .int (iI ((ns : Int))), .ref (r 2)])), (r 1, aS g 4 (fun j => some (qv j 0))), (r 2, .inr (3, [.ref (r 3), .int (iI ((tn : Int))), .int (iI pl)])), (r 3, aI g 60 tx)] 8 [] (wS4 g qv kv)) rfl (fun r9 w9 hq9 => ?_)
  obtain ⟨rfl, rfl⟩ := hq9
  refine J.to (L1 := [(0, .ref (r 0))]) (S1 := []) (ws1 := ([(r 0, .inr (4, [.ref (qn 0), .ref (qt 0), .ref (r 1), .int (iI sc), .int (iI ((ns : Int))), .ref (r 2)])), (r 1, aS g 4 (fun j => some (qv j 0))), (r 2, .inr (3, [.ref (r 3), .int (iI ((tn : Int))), .int (iI pl)])), (r 3, aI g 60 tx)] ++ (wSt g qn kn ++ (wSt g qt (cpS kn kt) ++ (wS4 g qv kv))))) rfl rfl rfl ?_
  refine j_aload_n C 0 dX4_parse_11 rfl rfl ?_
  refine j_get C ck4 0 5 (by decide) qw135 rfl rfl dX4_parse_12 ?_
  refine j_aload_n C 0 dX4_parse_15 rfl rfl ?_
  refine j_get C ck4 0 1 (by decide) qw131 rfl rfl dX4_parse_16 ?_
  refine j_callV (As := [.ref (qt 0)]) (rest := []) C yv_X3_readInto qw655 (c_X3_readInto l g (r 2) (r 3) tx tn pl qt (cpS kn kt) htn htx (SOK_cpS hk)) (by decide) 2 rfl rfl rfl dX4_parse_19 rfl (Nat.le_of_ble_eq_true rfl) (by decide) (pf2 [(r 0, .inr (4, [.ref (qn 0), .ref (qt 0), .ref (r 1), .int (iI sc), .int (iI ((ns : Int))), .ref (r 2)])), (r 1, aS g 4 (fun j => some (qv j 0)))] 2 [(qn 0, .inr (2, [.ref (qn 1), .ref (qn 3), .ref (qn 5), .ref (qn 6), .ref (qn 7), .int (iI (kn 0 0))])), (qn 1, .inr (1, [.ref (qn 2), .int (iI (kn 0 2)), .int (iI (kn 0 3)), .int (iI (kn 0 1))])), (qn 2, aI g 10 (kn 1)), (qn 3, .inr (0, [.ref (qn 4), .int (iI (kn 0 9)), .int (iI (kn 0 6)), .int (iI (kn 0 4)), .int (iI (kn 0 5)), .long (lI (kn 0 7)), .long (lI (kn 0 8))])), (qn 4, aI g 48 (kn 2)), (qn 5, aI g 4 (kn 3)), (qn 6, aI g 4 (kn 4)), (qn 7, aI g 4 (kn 5))] (wS4 g qv kv)) rfl (fun r9 w9 hq9 => ?_)
  obtain ⟨rfl, p', kx, rfl, hkx⟩ := hq9
  obtain rfl := hkx hF9
  refine J.to (L1 := [(0, .ref (r 0))]) (S1 := [.int (iI (pFlt tx tn))]) (ws1 := ([(r 0, .inr (4, [.ref (qn 0), .ref (qt 0), .ref (r 1), .int (iI sc), .int (iI ((ns : Int))), .ref (r 2)])), (r 1, aS g 4 (fun j => some (qv j 0))), (r 2, .inr (3, [.ref (r 3), .int (iI ((tn : Int))), .int (iI ((p' : Int)))])), (r 3, aI g 60 tx)] ++ (wSt g qn kn ++ (wSt g qt (prs tx tn (cpS kn kt)) ++ (wS4 g qv kv))))) rfl rfl rfl ?_
  refine j_istore_n (L1 := [(1, .int (iI (pFlt tx tn))), (0, .ref (r 0))]) C dX4_parse_22 rfl (by decide) rfl ?_
  refine j_iload_n C 0 dX4_parse_23 rfl rfl ?_
  refine j_iconst C dX4_parse_24 ?_
  refine j_icmp_eq (tgt := 33) C (by omega) (by decide) dX4_parse_25 (by decide) (fun c25 => ?_) (fun c25 => absurd c25 (by omega))
  refine j_aload_n C 1 dX4_parse_33 rfl rfl ?_
  refine j_get C ck4 0 1 (by decide) qw131 rfl rfl dX4_parse_34 ?_
  have hg9 := hnd_ge (SOK_prs (SOK_cpS (k := kt) hk) hF9)
  refine j_callV (As := []) (rest := []) C yv_X2_inHand qw327 (c_X2_inHand l g qt (prs tx tn (cpS kn kt)) (SOK_prs (SOK_cpS hk) hF9)) (by decide) 12 rfl rfl rfl dX4_parse_37 rfl (Nat.le_of_ble_eq_true rfl) (by decide) (pf1 [(r 0, .inr (4, [.ref (qn 0), .ref (qt 0), .ref (r 1), .int (iI sc), .int (iI ((ns : Int))), .ref (r 2)])), (r 1, aS g 4 (fun j => some (qv j 0))), (r 2, .inr (3, [.ref (r 3), .int (iI ((tn : Int))), .int (iI ((p' : Int)))])), (r 3, aI g 60 tx), (qn 0, .inr (2, [.ref (qn 1), .ref (qn 3), .ref (qn 5), .ref (qn 6), .ref (qn 7), .int (iI (kn 0 0))])), (qn 1, .inr (1, [.ref (qn 2), .int (iI (kn 0 2)), .int (iI (kn 0 3)), .int (iI (kn 0 1))])), (qn 2, aI g 10 (kn 1)), (qn 3, .inr (0, [.ref (qn 4), .int (iI (kn 0 9)), .int (iI (kn 0 6)), .int (iI (kn 0 4)), .int (iI (kn 0 5)), .long (lI (kn 0 7)), .long (lI (kn 0 8))])), (qn 4, aI g 48 (kn 2)), (qn 5, aI g 4 (kn 3)), (qn 6, aI g 4 (kn 4)), (qn 7, aI g 4 (kn 5))] (wS4 g qv kv)) rfl (fun r9 w9 hq9 => ?_)
  obtain ⟨rfl, rfl⟩ := hq9
  refine J.to (L1 := [(1, .int (iI (pFlt tx tn))), (0, .ref (r 0))]) (S1 := [.int (iI (hnd (prs tx tn (cpS kn kt))))]) (ws1 := ([(r 0, .inr (4, [.ref (qn 0), .ref (qt 0), .ref (r 1), .int (iI sc), .int (iI ((ns : Int))), .ref (r 2)])), (r 1, aS g 4 (fun j => some (qv j 0))), (r 2, .inr (3, [.ref (r 3), .int (iI ((tn : Int))), .int (iI ((p' : Int)))])), (r 3, aI g 60 tx)] ++ (wSt g qn kn ++ (wSt g qt (prs tx tn (cpS kn kt)) ++ (wS4 g qv kv))))) rfl rfl rfl ?_
  refine j_if_ge (tgt := 45) C (by omega) dX4_parse_40 (by decide) (fun c40 => absurd c40 (by omega)) (fun c40 => ?_)
  refine j_iconst C dX4_parse_43 ?_
  exact j_iret C hr hlk dX4_parse_44 ⟨rfl, _, _, rfl⟩ (by decide) (by decide)

theorem c_X4_parse_3 (l : Launch) (g : Gh) (r : Nat → Nat) (qn qt : Nat → Nat) (qv : Nat → Nat → Nat) (kn kt : Nat → Nat → Int) (kv : Nat → Nat → Nat → Int) (sc : Int) (ns : Nat) (tx : Nat → Int) (tn : Nat) (pl : Int) (hT : TOK kn kv sc ns tx tn) (hF9 : pFlt tx tn = -1) (hh : 0 ≤ hnd (prs tx tn (cpS kn kt))) : CT l g yX4_parse cX4_parse 2 (some FieldType.int) ({ frames := 5, cells := 0, slots := 0, locals := 105 }) [.ref (r 0)] ([(r 0, .inr (4, [.ref (qn 0), .ref (qt 0), .ref (r 1), .int (iI sc), .int (iI ((ns : Int))), .ref (r 2)])), (r 1, aS g 4 (fun j => some (qv j 0))), (r 2, .inr (3, [.ref (r 3), .int (iI ((tn : Int))), .int (iI pl)])), (r 3, aI g 60 tx)] ++ (wSt g qn kn ++ (wSt g qt kt ++ (wS4 g qv kv)))) (fun r9 w9 => r9 = (some (.int (iI (hnd (cpS (prs tx tn (cpS kn kt)) kn))))) ∧ ∃ (kt9 : Nat → Nat → Int) (pl9 : Int), w9 = wTp g r qn qt qv (cpS (prs tx tn (cpS kn kt)) kn) kt9 (svk kn kv ns) (svs sc) (svn ns) tx tn pl9) := by
  refine CT.intro (L0 := [(0, .ref (r 0))]) (own := RX4) (by decide) rfl (Nat.le_of_ble_eq_true rfl) rfl ?_
  intro pX eX sX mX argsX belowX methX cX A C hr hlk
  obtain ⟨⟨hk, hh0⟩, hkv, hsc, hns, htn, htx⟩ := id hT
  obtain ⟨hP, hE0, hF, hrow0, hwt, hht, hlen, hlat, hkept⟩ := id hk
  have hE : -10 ≤ kn 0 3 ∧ kn 0 3 ≤ 10 := by omega
  have hrow : ∀ i : Nat, (i : Int) < kn 0 2 → 0 ≤ kn 1 i ∧ kn 1 i ≤ 4 := fun i hi => by have := hrow0 i hi; omega
  have hc2 : cpS kn kt 0 2 = kn 0 2 := rfl
  have hhnd : 0 ≤ hnd kn ∧ hnd kn ≤ 300000 := ⟨hh0, hnd_le hk⟩
  have hp9 := pFlt_rng (tx := tx) htn
  refine j_aload_n C 0 dX4_parse_0 rfl rfl ?_
  refine j_get C ck4 0 1 (by decide) qw131 rfl rfl dX4_parse_1 ?_
  refine j_aload_n C 0 dX4_parse_4 rfl rfl ?_
  refine j_get C ck4 0 0 (by decide) qw130 rfl rfl dX4_parse_5 ?_
  refine j_callV (As := [.ref (qn 0)]) (rest := []) C yv_X2_copyFrom qw268 (c_X2_copyFrom l g qt kt qn kn) (by decide) 12 rfl rfl rfl dX4_parse_8 rfl (Nat.le_of_ble_eq_true rfl) (by decide) (pf2r [(r 0, .inr (4, [.ref (qn 0), .ref (qt 0), .ref (r 1), .int (iI sc), .int (iI ((ns : Int))), .ref (r 2)])), (r 1, aS g 4 (fun j => some (qv j 0))), (r 2, .inr (3, [.ref (r 3), .int (iI ((tn : Int))), .int (iI pl)])), (r 3, aI g 60 tx)] 8 [] (wS4 g qv kv)) rfl (fun r9 w9 hq9 => ?_)
  obtain ⟨rfl, rfl⟩ := hq9
  refine J.to (L1 := [(0, .ref (r 0))]) (S1 := []) (ws1 := ([(r 0, .inr (4, [.ref (qn 0), .ref (qt 0), .ref (r 1), .int (iI sc), .int (iI ((ns : Int))), .ref (r 2)])), (r 1, aS g 4 (fun j => some (qv j 0))), (r 2, .inr (3, [.ref (r 3), .int (iI ((tn : Int))), .int (iI pl)])), (r 3, aI g 60 tx)] ++ (wSt g qn kn ++ (wSt g qt (cpS kn kt) ++ (wS4 g qv kv))))) rfl rfl rfl ?_
  refine j_aload_n C 0 dX4_parse_11 rfl rfl ?_
  refine j_get C ck4 0 5 (by decide) qw135 rfl rfl dX4_parse_12 ?_
  refine j_aload_n C 0 dX4_parse_15 rfl rfl ?_
  refine j_get C ck4 0 1 (by decide) qw131 rfl rfl dX4_parse_16 ?_
  refine j_callV (As := [.ref (qt 0)]) (rest := []) C yv_X3_readInto qw655 (c_X3_readInto l g (r 2) (r 3) tx tn pl qt (cpS kn kt) htn htx (SOK_cpS hk)) (by decide) 2 rfl rfl rfl dX4_parse_19 rfl (Nat.le_of_ble_eq_true rfl) (by decide) (pf2 [(r 0, .inr (4, [.ref (qn 0), .ref (qt 0), .ref (r 1), .int (iI sc), .int (iI ((ns : Int))), .ref (r 2)])), (r 1, aS g 4 (fun j => some (qv j 0)))] 2 [(qn 0, .inr (2, [.ref (qn 1), .ref (qn 3), .ref (qn 5), .ref (qn 6), .ref (qn 7), .int (iI (kn 0 0))])), (qn 1, .inr (1, [.ref (qn 2), .int (iI (kn 0 2)), .int (iI (kn 0 3)), .int (iI (kn 0 1))])), (qn 2, aI g 10 (kn 1)), (qn 3, .inr (0, [.ref (qn 4), .int (iI (kn 0 9)), .int (iI (kn 0 6)), .int (iI (kn 0 4)), .int (iI (kn 0 5)), .long (lI (kn 0 7)), .long (lI (kn 0 8))])), (qn 4, aI g 48 (kn 2)), (qn 5, aI g 4 (kn 3)), (qn 6, aI g 4 (kn 4)), (qn 7, aI g 4 (kn 5))] (wS4 g qv kv)) rfl (fun r9 w9 hq9 => ?_)
  obtain ⟨rfl, p', kx, rfl, hkx⟩ := hq9
  obtain rfl := hkx hF9
  refine J.to (L1 := [(0, .ref (r 0))]) (S1 := [.int (iI (pFlt tx tn))]) (ws1 := ([(r 0, .inr (4, [.ref (qn 0), .ref (qt 0), .ref (r 1), .int (iI sc), .int (iI ((ns : Int))), .ref (r 2)])), (r 1, aS g 4 (fun j => some (qv j 0))), (r 2, .inr (3, [.ref (r 3), .int (iI ((tn : Int))), .int (iI ((p' : Int)))])), (r 3, aI g 60 tx)] ++ (wSt g qn kn ++ (wSt g qt (prs tx tn (cpS kn kt)) ++ (wS4 g qv kv))))) rfl rfl rfl ?_
  refine j_istore_n (L1 := [(1, .int (iI (pFlt tx tn))), (0, .ref (r 0))]) C dX4_parse_22 rfl (by decide) rfl ?_
  refine j_iload_n C 0 dX4_parse_23 rfl rfl ?_
  refine j_iconst C dX4_parse_24 ?_
  refine j_icmp_eq (tgt := 33) C (by omega) (by decide) dX4_parse_25 (by decide) (fun c25 => ?_) (fun c25 => absurd c25 (by omega))
  refine j_aload_n C 1 dX4_parse_33 rfl rfl ?_
  refine j_get C ck4 0 1 (by decide) qw131 rfl rfl dX4_parse_34 ?_
  have hg9 := hnd_le (SOK_prs (SOK_cpS (k := kt) hk) hF9)
  refine j_callV (As := []) (rest := []) C yv_X2_inHand qw327 (c_X2_inHand l g qt (prs tx tn (cpS kn kt)) (SOK_prs (SOK_cpS hk) hF9)) (by decide) 12 rfl rfl rfl dX4_parse_37 rfl (Nat.le_of_ble_eq_true rfl) (by decide) (pf1 [(r 0, .inr (4, [.ref (qn 0), .ref (qt 0), .ref (r 1), .int (iI sc), .int (iI ((ns : Int))), .ref (r 2)])), (r 1, aS g 4 (fun j => some (qv j 0))), (r 2, .inr (3, [.ref (r 3), .int (iI ((tn : Int))), .int (iI ((p' : Int)))])), (r 3, aI g 60 tx), (qn 0, .inr (2, [.ref (qn 1), .ref (qn 3), .ref (qn 5), .ref (qn 6), .ref (qn 7), .int (iI (kn 0 0))])), (qn 1, .inr (1, [.ref (qn 2), .int (iI (kn 0 2)), .int (iI (kn 0 3)), .int (iI (kn 0 1))])), (qn 2, aI g 10 (kn 1)), (qn 3, .inr (0, [.ref (qn 4), .int (iI (kn 0 9)), .int (iI (kn 0 6)), .int (iI (kn 0 4)), .int (iI (kn 0 5)), .long (lI (kn 0 7)), .long (lI (kn 0 8))])), (qn 4, aI g 48 (kn 2)), (qn 5, aI g 4 (kn 3)), (qn 6, aI g 4 (kn 4)), (qn 7, aI g 4 (kn 5))] (wS4 g qv kv)) rfl (fun r9 w9 hq9 => ?_)
  obtain ⟨rfl, rfl⟩ := hq9
  refine J.to (L1 := [(1, .int (iI (pFlt tx tn))), (0, .ref (r 0))]) (S1 := [.int (iI (hnd (prs tx tn (cpS kn kt))))]) (ws1 := ([(r 0, .inr (4, [.ref (qn 0), .ref (qt 0), .ref (r 1), .int (iI sc), .int (iI ((ns : Int))), .ref (r 2)])), (r 1, aS g 4 (fun j => some (qv j 0))), (r 2, .inr (3, [.ref (r 3), .int (iI ((tn : Int))), .int (iI ((p' : Int)))])), (r 3, aI g 60 tx)] ++ (wSt g qn kn ++ (wSt g qt (prs tx tn (cpS kn kt)) ++ (wS4 g qv kv))))) rfl rfl rfl ?_
  refine j_if_ge (tgt := 45) C (by omega) dX4_parse_40 (by decide) (fun c40 => ?_) (fun c40 => absurd c40 (by omega))
  refine j_aload_n C 1 dX4_parse_45 rfl rfl ?_
  refine j_callV (As := []) (rest := []) C yv_X4_acceptTrial qw363 (c_X4_acceptTrial l g r qn qt qv kn (prs tx tn (cpS kn kt)) kv sc ns tx tn ((p' : Int)) hsc hns) (by decide) 0 rfl rfl rfl dX4_parse_46 rfl (Nat.le_of_ble_eq_true rfl) (by decide) pf0 rfl (fun r9 w9 hq9 => ?_)
  obtain ⟨rfl, rfl⟩ := hq9
  refine J.to (L1 := [(1, .int (iI (pFlt tx tn))), (0, .ref (r 0))]) (S1 := []) (ws1 := ([(r 0, .inr (4, [.ref (qn 0), .ref (qt 0), .ref (r 1), .int (iI (svs sc)), .int (iI ((svn ns : Int))), .ref (r 2)])), (r 1, aS g 4 (fun j => some (qv j 0))), (r 2, .inr (3, [.ref (r 3), .int (iI ((tn : Int))), .int (iI ((p' : Int)))])), (r 3, aI g 60 tx)] ++ (wSt g qn (cpS (prs tx tn (cpS kn kt)) kn) ++ (wSt g qt (prs tx tn (cpS kn kt)) ++ (wS4 g qv (svk kn kv ns)))))) rfl rfl rfl ?_
  refine j_aload_n C 1 dX4_parse_49 rfl rfl ?_
  refine j_get C ck4 0 0 (by decide) qw130 rfl rfl dX4_parse_50 ?_
  refine j_callV (As := []) (rest := []) C yv_X2_inHand qw327 (c_X2_inHand l g qn (cpS (prs tx tn (cpS kn kt)) kn) (SOK_cpS (SOK_prs (SOK_cpS hk) hF9))) (by decide) 4 rfl rfl rfl dX4_parse_53 rfl (Nat.le_of_ble_eq_true rfl) (by decide) (pf1 [(r 0, .inr (4, [.ref (qn 0), .ref (qt 0), .ref (r 1), .int (iI (svs sc)), .int (iI ((svn ns : Int))), .ref (r 2)])), (r 1, aS g 4 (fun j => some (qv j 0))), (r 2, .inr (3, [.ref (r 3), .int (iI ((tn : Int))), .int (iI ((p' : Int)))])), (r 3, aI g 60 tx)] (wSt g qt (prs tx tn (cpS kn kt)) ++ (wS4 g qv (svk kn kv ns)))) rfl (fun r9 w9 hq9 => ?_)
  obtain ⟨rfl, rfl⟩ := hq9
  refine J.to (L1 := [(1, .int (iI (pFlt tx tn))), (0, .ref (r 0))]) (S1 := [.int (iI (hnd (cpS (prs tx tn (cpS kn kt)) kn)))]) (ws1 := ([(r 0, .inr (4, [.ref (qn 0), .ref (qt 0), .ref (r 1), .int (iI (svs sc)), .int (iI ((svn ns : Int))), .ref (r 2)])), (r 1, aS g 4 (fun j => some (qv j 0))), (r 2, .inr (3, [.ref (r 3), .int (iI ((tn : Int))), .int (iI ((p' : Int)))])), (r 3, aI g 60 tx)] ++ (wSt g qn (cpS (prs tx tn (cpS kn kt)) kn) ++ (wSt g qt (prs tx tn (cpS kn kt)) ++ (wS4 g qv (svk kn kv ns)))))) rfl rfl rfl ?_
  exact j_iret C hr hlk dX4_parse_56 ⟨rfl, _, _, rfl⟩ (by decide) (by decide)

theorem c_X4_undo_0 (l : Launch) (g : Gh) (r : Nat → Nat) (qn qt : Nat → Nat) (qv : Nat → Nat → Nat) (kn kt : Nat → Nat → Int) (kv : Nat → Nat → Nat → Int) (sc : Int) (tx : Nat → Int) (tn : Nat) (pl : Int) (hsc : 0 < sc ∧ sc ≤ 4) : CT l g yX4_undo cX4_undo 2 (some FieldType.int) ({ frames := 3, cells := 0, slots := 0, locals := 64 }) [.ref (r 0)] ([(r 0, .inr (4, [.ref (qn 0), .ref (qt 0), .ref (r 1), .int (iI sc), .int (iI 0), .ref (r 2)])), (r 1, aS g 4 (fun j => some (qv j 0))), (r 2, .inr (3, [.ref (r 3), .int (iI ((tn : Int))), .int (iI pl)])), (r 3, aI g 60 tx)] ++ (wSt g qn kn ++ (wSt g qt kt ++ (wSt g (qv 0) (kv 0) ++ (wSt g (qv 1) (kv 1) ++ (wSt g (qv 2) (kv 2) ++ (wSt g (qv 3) (kv 3)))))))) (PE (some (.int (iI (sc - 1)))) (wTp g r qn qt qv (cpS (kv 3) kn) kt kv (sc - 1) 3 tx tn pl)) := by
  refine CT.intro (L0 := [(0, .ref (r 0))]) (own := RX4) (by decide) rfl (Nat.le_of_ble_eq_true rfl) rfl ?_
  intro pX eX sX mX argsX belowX methX cX A C hr hlk
  refine j_aload_n C 0 dX4_undo_0 rfl rfl ?_
  refine j_get C ck4 0 3 (by decide) qw133 rfl rfl dX4_undo_1 ?_
  refine j_if_gt (tgt := 17) C (by omega) dX4_undo_4 (by decide) (fun c4 => ?_) (fun c4 => absurd c4 (by omega))
  refine j_aload_n C 0 dX4_undo_17 rfl rfl ?_
  refine j_aload_n C 0 dX4_undo_18 rfl rfl ?_
  refine j_get C ck4 0 4 (by decide) qw134 rfl rfl dX4_undo_19 ?_
  refine j_iconst C dX4_undo_22 ?_
  refine j_isub C dX4_undo_23 ?_
  refine j_iconst C dX4_undo_24 ?_
  refine j_callS (As := [.int (iI (0 - 1)), .int (iI 4)]) (rest := [.ref (r 0)]) C ys_J9_floorMod_7cf53 qw285 (c_J9_floorMod_7cf53 l g (0 - 1) 4 (by omega) (by decide)) (by decide) rfl dX4_undo_25 rfl (Nat.le_of_ble_eq_true rfl) (by decide) (pf1 [] ([(r 0, .inr (4, [.ref (qn 0), .ref (qt 0), .ref (r 1), .int (iI sc), .int (iI 0), .ref (r 2)])), (r 1, aS g 4 (fun j => some (qv j 0))), (r 2, .inr (3, [.ref (r 3), .int (iI ((tn : Int))), .int (iI pl)])), (r 3, aI g 60 tx)] ++ (wSt g qn kn ++ (wSt g qt kt ++ (wSt g (qv 0) (kv 0) ++ (wSt g (qv 1) (kv 1) ++ (wSt g (qv 2) (kv 2) ++ (wSt g (qv 3) (kv 3))))))))) rfl (fun r9 w9 hq9 => ?_)
  obtain ⟨rfl, rfl⟩ := hq9
  refine J.to (L1 := [(0, .ref (r 0))]) (S1 := [.int (iI ((0 - 1) % 4)), .ref (r 0)]) (ws1 := ([(r 0, .inr (4, [.ref (qn 0), .ref (qt 0), .ref (r 1), .int (iI sc), .int (iI 0), .ref (r 2)])), (r 1, aS g 4 (fun j => some (qv j 0))), (r 2, .inr (3, [.ref (r 3), .int (iI ((tn : Int))), .int (iI pl)])), (r 3, aI g 60 tx)] ++ (wSt g qn kn ++ (wSt g qt kt ++ (wSt g (qv 0) (kv 0) ++ (wSt g (qv 1) (kv 1) ++ (wSt g (qv 2) (kv 2) ++ (wSt g (qv 3) (kv 3))))))))) rfl rfl rfl ?_
  refine J.to (L1 := [(0, .ref (r 0))]) (S1 := [.int (iI 3), .ref (r 0)]) (ws1 := ([(r 0, .inr (4, [.ref (qn 0), .ref (qt 0), .ref (r 1), .int (iI sc), .int (iI 0), .ref (r 2)])), (r 1, aS g 4 (fun j => some (qv j 0))), (r 2, .inr (3, [.ref (r 3), .int (iI ((tn : Int))), .int (iI pl)])), (r 3, aI g 60 tx)] ++ (wSt g qn kn ++ (wSt g qt kt ++ (wSt g (qv 0) (kv 0) ++ (wSt g (qv 1) (kv 1) ++ (wSt g (qv 2) (kv 2) ++ (wSt g (qv 3) (kv 3))))))))) rfl rfl (by rw [show (((0 - 1) % 4 : Int)) = 3 from (by decide)]) ?_
  refine j_put (ws1 := ([(r 0, .inr (4, [.ref (qn 0), .ref (qt 0), .ref (r 1), .int (iI sc), .int (iI 3), .ref (r 2)])), (r 1, aS g 4 (fun j => some (qv j 0))), (r 2, .inr (3, [.ref (r 3), .int (iI ((tn : Int))), .int (iI pl)])), (r 3, aI g 60 tx)] ++ (wSt g qn kn ++ (wSt g qt kt ++ (wSt g (qv 0) (kv 0) ++ (wSt g (qv 1) (kv 1) ++ (wSt g (qv 2) (kv 2) ++ (wSt g (qv 3) (kv 3))))))))) C ck4 0 4 (by decide) qw134 rfl dX4_undo_28 rfl rfl rfl rfl (Nat.le_of_ble_eq_true rfl) ?_
  refine j_aload_n C 0 dX4_undo_31 rfl rfl ?_
  refine j_aload_n C 0 dX4_undo_32 rfl rfl ?_
  refine j_get C ck4 0 4 (by decide) qw134 rfl rfl dX4_undo_33 ?_
  refine j_callV (As := [.int (iI 3)]) (rest := []) C yv_X4_savedAt qw264 (c_X4_savedAt_3 l g r (qn 0) (qt 0) sc 3 qv) (by decide) 0 rfl rfl rfl dX4_undo_36 rfl (Nat.le_of_ble_eq_true rfl) (by decide) (pf1 [] ([(r 2, .inr (3, [.ref (r 3), .int (iI ((tn : Int))), .int (iI pl)])), (r 3, aI g 60 tx)] ++ (wSt g qn kn ++ (wSt g qt kt ++ (wSt g (qv 0) (kv 0) ++ (wSt g (qv 1) (kv 1) ++ (wSt g (qv 2) (kv 2) ++ (wSt g (qv 3) (kv 3))))))))) rfl (fun r9 w9 hq9 => ?_)
  obtain ⟨rfl, rfl⟩ := hq9
  refine J.to (L1 := [(0, .ref (r 0))]) (S1 := [.ref (qv 3 0)]) (ws1 := ([(r 0, .inr (4, [.ref (qn 0), .ref (qt 0), .ref (r 1), .int (iI sc), .int (iI 3), .ref (r 2)])), (r 1, aS g 4 (fun j => some (qv j 0))), (r 2, .inr (3, [.ref (r 3), .int (iI ((tn : Int))), .int (iI pl)])), (r 3, aI g 60 tx)] ++ (wSt g qn kn ++ (wSt g qt kt ++ (wSt g (qv 0) (kv 0) ++ (wSt g (qv 1) (kv 1) ++ (wSt g (qv 2) (kv 2) ++ (wSt g (qv 3) (kv 3))))))))) rfl rfl rfl ?_
  refine j_astore_n (L1 := [(1, .ref (qv 3 0)), (0, .ref (r 0))]) C dX4_undo_39 rfl (by decide) rfl ?_
  refine j_aload_n C 0 dX4_undo_40 rfl rfl ?_
  refine j_ifnull C dX4_undo_41 ?_
  refine j_aload_n C 1 dX4_undo_44 rfl rfl ?_
  refine j_get C ck4 0 0 (by decide) qw130 rfl rfl dX4_undo_45 ?_
  refine j_aload_n C 0 dX4_undo_48 rfl rfl ?_
  refine j_callV (As := [.ref (qv 3 0)]) (rest := []) C yv_X2_copyFrom qw268 (c_X2_copyFrom l g qn kn (qv 3) (kv 3)) (by decide) 4 rfl rfl rfl dX4_undo_49 rfl (Nat.le_of_ble_eq_true rfl) (by decide) (pf2 [(r 0, .inr (4, [.ref (qn 0), .ref (qt 0), .ref (r 1), .int (iI sc), .int (iI 3), .ref (r 2)])), (r 1, aS g 4 (fun j => some (qv j 0))), (r 2, .inr (3, [.ref (r 3), .int (iI ((tn : Int))), .int (iI pl)])), (r 3, aI g 60 tx)] 8 (wSt g qt kt ++ (wSt g (qv 0) (kv 0) ++ (wSt g (qv 1) (kv 1) ++ (wSt g (qv 2) (kv 2))))) []) rfl (fun r9 w9 hq9 => ?_)
  obtain ⟨rfl, rfl⟩ := hq9
  refine J.to (L1 := [(1, .ref (qv 3 0)), (0, .ref (r 0))]) (S1 := []) (ws1 := ([(r 0, .inr (4, [.ref (qn 0), .ref (qt 0), .ref (r 1), .int (iI sc), .int (iI 3), .ref (r 2)])), (r 1, aS g 4 (fun j => some (qv j 0))), (r 2, .inr (3, [.ref (r 3), .int (iI ((tn : Int))), .int (iI pl)])), (r 3, aI g 60 tx)] ++ (wSt g qn (cpS (kv 3) kn) ++ (wSt g qt kt ++ (wSt g (qv 0) (kv 0) ++ (wSt g (qv 1) (kv 1) ++ (wSt g (qv 2) (kv 2) ++ (wSt g (qv 3) (kv 3))))))))) rfl rfl rfl ?_
  refine j_aload_n C 1 dX4_undo_52 rfl rfl ?_
  refine j_dup C dX4_undo_53 rfl ?_
  refine j_get C ck4 0 3 (by decide) qw133 rfl rfl dX4_undo_54 ?_
  refine j_iconst C dX4_undo_57 ?_
  refine j_isub C dX4_undo_58 ?_
  refine j_put (ws1 := ([(r 0, .inr (4, [.ref (qn 0), .ref (qt 0), .ref (r 1), .int (iI (sc - 1)), .int (iI 3), .ref (r 2)])), (r 1, aS g 4 (fun j => some (qv j 0))), (r 2, .inr (3, [.ref (r 3), .int (iI ((tn : Int))), .int (iI pl)])), (r 3, aI g 60 tx)] ++ (wSt g qn (cpS (kv 3) kn) ++ (wSt g qt kt ++ (wSt g (qv 0) (kv 0) ++ (wSt g (qv 1) (kv 1) ++ (wSt g (qv 2) (kv 2) ++ (wSt g (qv 3) (kv 3))))))))) C ck4 0 3 (by decide) qw133 rfl dX4_undo_59 rfl rfl rfl rfl (Nat.le_of_ble_eq_true rfl) ?_
  refine j_aload_n C 1 dX4_undo_62 rfl rfl ?_
  refine j_get C ck4 0 3 (by decide) qw133 rfl rfl dX4_undo_63 ?_
  exact j_iret C hr hlk dX4_undo_66 ⟨rfl, rfl⟩ (by decide) (by decide)

theorem c_X4_undo_1 (l : Launch) (g : Gh) (r : Nat → Nat) (qn qt : Nat → Nat) (qv : Nat → Nat → Nat) (kn kt : Nat → Nat → Int) (kv : Nat → Nat → Nat → Int) (sc : Int) (tx : Nat → Int) (tn : Nat) (pl : Int) (hsc : 0 < sc ∧ sc ≤ 4) : CT l g yX4_undo cX4_undo 2 (some FieldType.int) ({ frames := 3, cells := 0, slots := 0, locals := 64 }) [.ref (r 0)] ([(r 0, .inr (4, [.ref (qn 0), .ref (qt 0), .ref (r 1), .int (iI sc), .int (iI 1), .ref (r 2)])), (r 1, aS g 4 (fun j => some (qv j 0))), (r 2, .inr (3, [.ref (r 3), .int (iI ((tn : Int))), .int (iI pl)])), (r 3, aI g 60 tx)] ++ (wSt g qn kn ++ (wSt g qt kt ++ (wSt g (qv 0) (kv 0) ++ (wSt g (qv 1) (kv 1) ++ (wSt g (qv 2) (kv 2) ++ (wSt g (qv 3) (kv 3)))))))) (PE (some (.int (iI (sc - 1)))) (wTp g r qn qt qv (cpS (kv 0) kn) kt kv (sc - 1) 0 tx tn pl)) := by
  refine CT.intro (L0 := [(0, .ref (r 0))]) (own := RX4) (by decide) rfl (Nat.le_of_ble_eq_true rfl) rfl ?_
  intro pX eX sX mX argsX belowX methX cX A C hr hlk
  refine j_aload_n C 0 dX4_undo_0 rfl rfl ?_
  refine j_get C ck4 0 3 (by decide) qw133 rfl rfl dX4_undo_1 ?_
  refine j_if_gt (tgt := 17) C (by omega) dX4_undo_4 (by decide) (fun c4 => ?_) (fun c4 => absurd c4 (by omega))
  refine j_aload_n C 0 dX4_undo_17 rfl rfl ?_
  refine j_aload_n C 0 dX4_undo_18 rfl rfl ?_
  refine j_get C ck4 0 4 (by decide) qw134 rfl rfl dX4_undo_19 ?_
  refine j_iconst C dX4_undo_22 ?_
  refine j_isub C dX4_undo_23 ?_
  refine j_iconst C dX4_undo_24 ?_
  refine j_callS (As := [.int (iI (1 - 1)), .int (iI 4)]) (rest := [.ref (r 0)]) C ys_J9_floorMod_7cf53 qw285 (c_J9_floorMod_7cf53 l g (1 - 1) 4 (by omega) (by decide)) (by decide) rfl dX4_undo_25 rfl (Nat.le_of_ble_eq_true rfl) (by decide) (pf1 [] ([(r 0, .inr (4, [.ref (qn 0), .ref (qt 0), .ref (r 1), .int (iI sc), .int (iI 1), .ref (r 2)])), (r 1, aS g 4 (fun j => some (qv j 0))), (r 2, .inr (3, [.ref (r 3), .int (iI ((tn : Int))), .int (iI pl)])), (r 3, aI g 60 tx)] ++ (wSt g qn kn ++ (wSt g qt kt ++ (wSt g (qv 0) (kv 0) ++ (wSt g (qv 1) (kv 1) ++ (wSt g (qv 2) (kv 2) ++ (wSt g (qv 3) (kv 3))))))))) rfl (fun r9 w9 hq9 => ?_)
  obtain ⟨rfl, rfl⟩ := hq9
  refine J.to (L1 := [(0, .ref (r 0))]) (S1 := [.int (iI ((1 - 1) % 4)), .ref (r 0)]) (ws1 := ([(r 0, .inr (4, [.ref (qn 0), .ref (qt 0), .ref (r 1), .int (iI sc), .int (iI 1), .ref (r 2)])), (r 1, aS g 4 (fun j => some (qv j 0))), (r 2, .inr (3, [.ref (r 3), .int (iI ((tn : Int))), .int (iI pl)])), (r 3, aI g 60 tx)] ++ (wSt g qn kn ++ (wSt g qt kt ++ (wSt g (qv 0) (kv 0) ++ (wSt g (qv 1) (kv 1) ++ (wSt g (qv 2) (kv 2) ++ (wSt g (qv 3) (kv 3))))))))) rfl rfl rfl ?_
  refine J.to (L1 := [(0, .ref (r 0))]) (S1 := [.int (iI 0), .ref (r 0)]) (ws1 := ([(r 0, .inr (4, [.ref (qn 0), .ref (qt 0), .ref (r 1), .int (iI sc), .int (iI 1), .ref (r 2)])), (r 1, aS g 4 (fun j => some (qv j 0))), (r 2, .inr (3, [.ref (r 3), .int (iI ((tn : Int))), .int (iI pl)])), (r 3, aI g 60 tx)] ++ (wSt g qn kn ++ (wSt g qt kt ++ (wSt g (qv 0) (kv 0) ++ (wSt g (qv 1) (kv 1) ++ (wSt g (qv 2) (kv 2) ++ (wSt g (qv 3) (kv 3))))))))) rfl rfl (by rw [show (((1 - 1) % 4 : Int)) = 0 from (by decide)]) ?_
  refine j_put (ws1 := ([(r 0, .inr (4, [.ref (qn 0), .ref (qt 0), .ref (r 1), .int (iI sc), .int (iI 0), .ref (r 2)])), (r 1, aS g 4 (fun j => some (qv j 0))), (r 2, .inr (3, [.ref (r 3), .int (iI ((tn : Int))), .int (iI pl)])), (r 3, aI g 60 tx)] ++ (wSt g qn kn ++ (wSt g qt kt ++ (wSt g (qv 0) (kv 0) ++ (wSt g (qv 1) (kv 1) ++ (wSt g (qv 2) (kv 2) ++ (wSt g (qv 3) (kv 3))))))))) C ck4 0 4 (by decide) qw134 rfl dX4_undo_28 rfl rfl rfl rfl (Nat.le_of_ble_eq_true rfl) ?_
  refine j_aload_n C 0 dX4_undo_31 rfl rfl ?_
  refine j_aload_n C 0 dX4_undo_32 rfl rfl ?_
  refine j_get C ck4 0 4 (by decide) qw134 rfl rfl dX4_undo_33 ?_
  refine j_callV (As := [.int (iI 0)]) (rest := []) C yv_X4_savedAt qw264 (c_X4_savedAt_0 l g r (qn 0) (qt 0) sc 0 qv) (by decide) 0 rfl rfl rfl dX4_undo_36 rfl (Nat.le_of_ble_eq_true rfl) (by decide) (pf1 [] ([(r 2, .inr (3, [.ref (r 3), .int (iI ((tn : Int))), .int (iI pl)])), (r 3, aI g 60 tx)] ++ (wSt g qn kn ++ (wSt g qt kt ++ (wSt g (qv 0) (kv 0) ++ (wSt g (qv 1) (kv 1) ++ (wSt g (qv 2) (kv 2) ++ (wSt g (qv 3) (kv 3))))))))) rfl (fun r9 w9 hq9 => ?_)
  obtain ⟨rfl, rfl⟩ := hq9
  refine J.to (L1 := [(0, .ref (r 0))]) (S1 := [.ref (qv 0 0)]) (ws1 := ([(r 0, .inr (4, [.ref (qn 0), .ref (qt 0), .ref (r 1), .int (iI sc), .int (iI 0), .ref (r 2)])), (r 1, aS g 4 (fun j => some (qv j 0))), (r 2, .inr (3, [.ref (r 3), .int (iI ((tn : Int))), .int (iI pl)])), (r 3, aI g 60 tx)] ++ (wSt g qn kn ++ (wSt g qt kt ++ (wSt g (qv 0) (kv 0) ++ (wSt g (qv 1) (kv 1) ++ (wSt g (qv 2) (kv 2) ++ (wSt g (qv 3) (kv 3))))))))) rfl rfl rfl ?_
  refine j_astore_n (L1 := [(1, .ref (qv 0 0)), (0, .ref (r 0))]) C dX4_undo_39 rfl (by decide) rfl ?_
  refine j_aload_n C 0 dX4_undo_40 rfl rfl ?_
  refine j_ifnull C dX4_undo_41 ?_
  refine j_aload_n C 1 dX4_undo_44 rfl rfl ?_
  refine j_get C ck4 0 0 (by decide) qw130 rfl rfl dX4_undo_45 ?_
  refine j_aload_n C 0 dX4_undo_48 rfl rfl ?_
  refine j_callV (As := [.ref (qv 0 0)]) (rest := []) C yv_X2_copyFrom qw268 (c_X2_copyFrom l g qn kn (qv 0) (kv 0)) (by decide) 4 rfl rfl rfl dX4_undo_49 rfl (Nat.le_of_ble_eq_true rfl) (by decide) (pf2 [(r 0, .inr (4, [.ref (qn 0), .ref (qt 0), .ref (r 1), .int (iI sc), .int (iI 0), .ref (r 2)])), (r 1, aS g 4 (fun j => some (qv j 0))), (r 2, .inr (3, [.ref (r 3), .int (iI ((tn : Int))), .int (iI pl)])), (r 3, aI g 60 tx)] 8 [(qt 0, .inr (2, [.ref (qt 1), .ref (qt 3), .ref (qt 5), .ref (qt 6), .ref (qt 7), .int (iI (kt 0 0))])), (qt 1, .inr (1, [.ref (qt 2), .int (iI (kt 0 2)), .int (iI (kt 0 3)), .int (iI (kt 0 1))])), (qt 2, aI g 10 (kt 1)), (qt 3, .inr (0, [.ref (qt 4), .int (iI (kt 0 9)), .int (iI (kt 0 6)), .int (iI (kt 0 4)), .int (iI (kt 0 5)), .long (lI (kt 0 7)), .long (lI (kt 0 8))])), (qt 4, aI g 48 (kt 2)), (qt 5, aI g 4 (kt 3)), (qt 6, aI g 4 (kt 4)), (qt 7, aI g 4 (kt 5))] (wSt g (qv 1) (kv 1) ++ (wSt g (qv 2) (kv 2) ++ (wSt g (qv 3) (kv 3))))) rfl (fun r9 w9 hq9 => ?_)
  obtain ⟨rfl, rfl⟩ := hq9
  refine J.to (L1 := [(1, .ref (qv 0 0)), (0, .ref (r 0))]) (S1 := []) (ws1 := ([(r 0, .inr (4, [.ref (qn 0), .ref (qt 0), .ref (r 1), .int (iI sc), .int (iI 0), .ref (r 2)])), (r 1, aS g 4 (fun j => some (qv j 0))), (r 2, .inr (3, [.ref (r 3), .int (iI ((tn : Int))), .int (iI pl)])), (r 3, aI g 60 tx)] ++ (wSt g qn (cpS (kv 0) kn) ++ (wSt g qt kt ++ (wSt g (qv 0) (kv 0) ++ (wSt g (qv 1) (kv 1) ++ (wSt g (qv 2) (kv 2) ++ (wSt g (qv 3) (kv 3))))))))) rfl rfl rfl ?_
  refine j_aload_n C 1 dX4_undo_52 rfl rfl ?_
  refine j_dup C dX4_undo_53 rfl ?_
  refine j_get C ck4 0 3 (by decide) qw133 rfl rfl dX4_undo_54 ?_
  refine j_iconst C dX4_undo_57 ?_
  refine j_isub C dX4_undo_58 ?_
  refine j_put (ws1 := ([(r 0, .inr (4, [.ref (qn 0), .ref (qt 0), .ref (r 1), .int (iI (sc - 1)), .int (iI 0), .ref (r 2)])), (r 1, aS g 4 (fun j => some (qv j 0))), (r 2, .inr (3, [.ref (r 3), .int (iI ((tn : Int))), .int (iI pl)])), (r 3, aI g 60 tx)] ++ (wSt g qn (cpS (kv 0) kn) ++ (wSt g qt kt ++ (wSt g (qv 0) (kv 0) ++ (wSt g (qv 1) (kv 1) ++ (wSt g (qv 2) (kv 2) ++ (wSt g (qv 3) (kv 3))))))))) C ck4 0 3 (by decide) qw133 rfl dX4_undo_59 rfl rfl rfl rfl (Nat.le_of_ble_eq_true rfl) ?_
  refine j_aload_n C 1 dX4_undo_62 rfl rfl ?_
  refine j_get C ck4 0 3 (by decide) qw133 rfl rfl dX4_undo_63 ?_
  exact j_iret C hr hlk dX4_undo_66 ⟨rfl, rfl⟩ (by decide) (by decide)

theorem c_X4_undo_2 (l : Launch) (g : Gh) (r : Nat → Nat) (qn qt : Nat → Nat) (qv : Nat → Nat → Nat) (kn kt : Nat → Nat → Int) (kv : Nat → Nat → Nat → Int) (sc : Int) (tx : Nat → Int) (tn : Nat) (pl : Int) (hsc : 0 < sc ∧ sc ≤ 4) : CT l g yX4_undo cX4_undo 2 (some FieldType.int) ({ frames := 3, cells := 0, slots := 0, locals := 64 }) [.ref (r 0)] ([(r 0, .inr (4, [.ref (qn 0), .ref (qt 0), .ref (r 1), .int (iI sc), .int (iI 2), .ref (r 2)])), (r 1, aS g 4 (fun j => some (qv j 0))), (r 2, .inr (3, [.ref (r 3), .int (iI ((tn : Int))), .int (iI pl)])), (r 3, aI g 60 tx)] ++ (wSt g qn kn ++ (wSt g qt kt ++ (wSt g (qv 0) (kv 0) ++ (wSt g (qv 1) (kv 1) ++ (wSt g (qv 2) (kv 2) ++ (wSt g (qv 3) (kv 3)))))))) (PE (some (.int (iI (sc - 1)))) (wTp g r qn qt qv (cpS (kv 1) kn) kt kv (sc - 1) 1 tx tn pl)) := by
  refine CT.intro (L0 := [(0, .ref (r 0))]) (own := RX4) (by decide) rfl (Nat.le_of_ble_eq_true rfl) rfl ?_
  intro pX eX sX mX argsX belowX methX cX A C hr hlk
  refine j_aload_n C 0 dX4_undo_0 rfl rfl ?_
  refine j_get C ck4 0 3 (by decide) qw133 rfl rfl dX4_undo_1 ?_
  refine j_if_gt (tgt := 17) C (by omega) dX4_undo_4 (by decide) (fun c4 => ?_) (fun c4 => absurd c4 (by omega))
  refine j_aload_n C 0 dX4_undo_17 rfl rfl ?_
  refine j_aload_n C 0 dX4_undo_18 rfl rfl ?_
  refine j_get C ck4 0 4 (by decide) qw134 rfl rfl dX4_undo_19 ?_
  refine j_iconst C dX4_undo_22 ?_
  refine j_isub C dX4_undo_23 ?_
  refine j_iconst C dX4_undo_24 ?_
  refine j_callS (As := [.int (iI (2 - 1)), .int (iI 4)]) (rest := [.ref (r 0)]) C ys_J9_floorMod_7cf53 qw285 (c_J9_floorMod_7cf53 l g (2 - 1) 4 (by omega) (by decide)) (by decide) rfl dX4_undo_25 rfl (Nat.le_of_ble_eq_true rfl) (by decide) (pf1 [] ([(r 0, .inr (4, [.ref (qn 0), .ref (qt 0), .ref (r 1), .int (iI sc), .int (iI 2), .ref (r 2)])), (r 1, aS g 4 (fun j => some (qv j 0))), (r 2, .inr (3, [.ref (r 3), .int (iI ((tn : Int))), .int (iI pl)])), (r 3, aI g 60 tx)] ++ (wSt g qn kn ++ (wSt g qt kt ++ (wSt g (qv 0) (kv 0) ++ (wSt g (qv 1) (kv 1) ++ (wSt g (qv 2) (kv 2) ++ (wSt g (qv 3) (kv 3))))))))) rfl (fun r9 w9 hq9 => ?_)
  obtain ⟨rfl, rfl⟩ := hq9
  refine J.to (L1 := [(0, .ref (r 0))]) (S1 := [.int (iI ((2 - 1) % 4)), .ref (r 0)]) (ws1 := ([(r 0, .inr (4, [.ref (qn 0), .ref (qt 0), .ref (r 1), .int (iI sc), .int (iI 2), .ref (r 2)])), (r 1, aS g 4 (fun j => some (qv j 0))), (r 2, .inr (3, [.ref (r 3), .int (iI ((tn : Int))), .int (iI pl)])), (r 3, aI g 60 tx)] ++ (wSt g qn kn ++ (wSt g qt kt ++ (wSt g (qv 0) (kv 0) ++ (wSt g (qv 1) (kv 1) ++ (wSt g (qv 2) (kv 2) ++ (wSt g (qv 3) (kv 3))))))))) rfl rfl rfl ?_
  refine J.to (L1 := [(0, .ref (r 0))]) (S1 := [.int (iI 1), .ref (r 0)]) (ws1 := ([(r 0, .inr (4, [.ref (qn 0), .ref (qt 0), .ref (r 1), .int (iI sc), .int (iI 2), .ref (r 2)])), (r 1, aS g 4 (fun j => some (qv j 0))), (r 2, .inr (3, [.ref (r 3), .int (iI ((tn : Int))), .int (iI pl)])), (r 3, aI g 60 tx)] ++ (wSt g qn kn ++ (wSt g qt kt ++ (wSt g (qv 0) (kv 0) ++ (wSt g (qv 1) (kv 1) ++ (wSt g (qv 2) (kv 2) ++ (wSt g (qv 3) (kv 3))))))))) rfl rfl (by rw [show (((2 - 1) % 4 : Int)) = 1 from (by decide)]) ?_
  refine j_put (ws1 := ([(r 0, .inr (4, [.ref (qn 0), .ref (qt 0), .ref (r 1), .int (iI sc), .int (iI 1), .ref (r 2)])), (r 1, aS g 4 (fun j => some (qv j 0))), (r 2, .inr (3, [.ref (r 3), .int (iI ((tn : Int))), .int (iI pl)])), (r 3, aI g 60 tx)] ++ (wSt g qn kn ++ (wSt g qt kt ++ (wSt g (qv 0) (kv 0) ++ (wSt g (qv 1) (kv 1) ++ (wSt g (qv 2) (kv 2) ++ (wSt g (qv 3) (kv 3))))))))) C ck4 0 4 (by decide) qw134 rfl dX4_undo_28 rfl rfl rfl rfl (Nat.le_of_ble_eq_true rfl) ?_
  refine j_aload_n C 0 dX4_undo_31 rfl rfl ?_
  refine j_aload_n C 0 dX4_undo_32 rfl rfl ?_
  refine j_get C ck4 0 4 (by decide) qw134 rfl rfl dX4_undo_33 ?_
  refine j_callV (As := [.int (iI 1)]) (rest := []) C yv_X4_savedAt qw264 (c_X4_savedAt_1 l g r (qn 0) (qt 0) sc 1 qv) (by decide) 0 rfl rfl rfl dX4_undo_36 rfl (Nat.le_of_ble_eq_true rfl) (by decide) (pf1 [] ([(r 2, .inr (3, [.ref (r 3), .int (iI ((tn : Int))), .int (iI pl)])), (r 3, aI g 60 tx)] ++ (wSt g qn kn ++ (wSt g qt kt ++ (wSt g (qv 0) (kv 0) ++ (wSt g (qv 1) (kv 1) ++ (wSt g (qv 2) (kv 2) ++ (wSt g (qv 3) (kv 3))))))))) rfl (fun r9 w9 hq9 => ?_)
  obtain ⟨rfl, rfl⟩ := hq9
  refine J.to (L1 := [(0, .ref (r 0))]) (S1 := [.ref (qv 1 0)]) (ws1 := ([(r 0, .inr (4, [.ref (qn 0), .ref (qt 0), .ref (r 1), .int (iI sc), .int (iI 1), .ref (r 2)])), (r 1, aS g 4 (fun j => some (qv j 0))), (r 2, .inr (3, [.ref (r 3), .int (iI ((tn : Int))), .int (iI pl)])), (r 3, aI g 60 tx)] ++ (wSt g qn kn ++ (wSt g qt kt ++ (wSt g (qv 0) (kv 0) ++ (wSt g (qv 1) (kv 1) ++ (wSt g (qv 2) (kv 2) ++ (wSt g (qv 3) (kv 3))))))))) rfl rfl rfl ?_
  refine j_astore_n (L1 := [(1, .ref (qv 1 0)), (0, .ref (r 0))]) C dX4_undo_39 rfl (by decide) rfl ?_
  refine j_aload_n C 0 dX4_undo_40 rfl rfl ?_
  refine j_ifnull C dX4_undo_41 ?_
  refine j_aload_n C 1 dX4_undo_44 rfl rfl ?_
  refine j_get C ck4 0 0 (by decide) qw130 rfl rfl dX4_undo_45 ?_
  refine j_aload_n C 0 dX4_undo_48 rfl rfl ?_
  refine j_callV (As := [.ref (qv 1 0)]) (rest := []) C yv_X2_copyFrom qw268 (c_X2_copyFrom l g qn kn (qv 1) (kv 1)) (by decide) 4 rfl rfl rfl dX4_undo_49 rfl (Nat.le_of_ble_eq_true rfl) (by decide) (pf2 [(r 0, .inr (4, [.ref (qn 0), .ref (qt 0), .ref (r 1), .int (iI sc), .int (iI 1), .ref (r 2)])), (r 1, aS g 4 (fun j => some (qv j 0))), (r 2, .inr (3, [.ref (r 3), .int (iI ((tn : Int))), .int (iI pl)])), (r 3, aI g 60 tx)] 8 (wSt g qt kt ++ (wSt g (qv 0) (kv 0))) (wSt g (qv 2) (kv 2) ++ (wSt g (qv 3) (kv 3)))) rfl (fun r9 w9 hq9 => ?_)
  obtain ⟨rfl, rfl⟩ := hq9
  refine J.to (L1 := [(1, .ref (qv 1 0)), (0, .ref (r 0))]) (S1 := []) (ws1 := ([(r 0, .inr (4, [.ref (qn 0), .ref (qt 0), .ref (r 1), .int (iI sc), .int (iI 1), .ref (r 2)])), (r 1, aS g 4 (fun j => some (qv j 0))), (r 2, .inr (3, [.ref (r 3), .int (iI ((tn : Int))), .int (iI pl)])), (r 3, aI g 60 tx)] ++ (wSt g qn (cpS (kv 1) kn) ++ (wSt g qt kt ++ (wSt g (qv 0) (kv 0) ++ (wSt g (qv 1) (kv 1) ++ (wSt g (qv 2) (kv 2) ++ (wSt g (qv 3) (kv 3))))))))) rfl rfl rfl ?_
  refine j_aload_n C 1 dX4_undo_52 rfl rfl ?_
  refine j_dup C dX4_undo_53 rfl ?_
  refine j_get C ck4 0 3 (by decide) qw133 rfl rfl dX4_undo_54 ?_
  refine j_iconst C dX4_undo_57 ?_
  refine j_isub C dX4_undo_58 ?_
  refine j_put (ws1 := ([(r 0, .inr (4, [.ref (qn 0), .ref (qt 0), .ref (r 1), .int (iI (sc - 1)), .int (iI 1), .ref (r 2)])), (r 1, aS g 4 (fun j => some (qv j 0))), (r 2, .inr (3, [.ref (r 3), .int (iI ((tn : Int))), .int (iI pl)])), (r 3, aI g 60 tx)] ++ (wSt g qn (cpS (kv 1) kn) ++ (wSt g qt kt ++ (wSt g (qv 0) (kv 0) ++ (wSt g (qv 1) (kv 1) ++ (wSt g (qv 2) (kv 2) ++ (wSt g (qv 3) (kv 3))))))))) C ck4 0 3 (by decide) qw133 rfl dX4_undo_59 rfl rfl rfl rfl (Nat.le_of_ble_eq_true rfl) ?_
  refine j_aload_n C 1 dX4_undo_62 rfl rfl ?_
  refine j_get C ck4 0 3 (by decide) qw133 rfl rfl dX4_undo_63 ?_
  exact j_iret C hr hlk dX4_undo_66 ⟨rfl, rfl⟩ (by decide) (by decide)

theorem c_X4_undo_3 (l : Launch) (g : Gh) (r : Nat → Nat) (qn qt : Nat → Nat) (qv : Nat → Nat → Nat) (kn kt : Nat → Nat → Int) (kv : Nat → Nat → Nat → Int) (sc : Int) (tx : Nat → Int) (tn : Nat) (pl : Int) (hsc : 0 < sc ∧ sc ≤ 4) : CT l g yX4_undo cX4_undo 2 (some FieldType.int) ({ frames := 3, cells := 0, slots := 0, locals := 64 }) [.ref (r 0)] ([(r 0, .inr (4, [.ref (qn 0), .ref (qt 0), .ref (r 1), .int (iI sc), .int (iI 3), .ref (r 2)])), (r 1, aS g 4 (fun j => some (qv j 0))), (r 2, .inr (3, [.ref (r 3), .int (iI ((tn : Int))), .int (iI pl)])), (r 3, aI g 60 tx)] ++ (wSt g qn kn ++ (wSt g qt kt ++ (wSt g (qv 0) (kv 0) ++ (wSt g (qv 1) (kv 1) ++ (wSt g (qv 2) (kv 2) ++ (wSt g (qv 3) (kv 3)))))))) (PE (some (.int (iI (sc - 1)))) (wTp g r qn qt qv (cpS (kv 2) kn) kt kv (sc - 1) 2 tx tn pl)) := by
  refine CT.intro (L0 := [(0, .ref (r 0))]) (own := RX4) (by decide) rfl (Nat.le_of_ble_eq_true rfl) rfl ?_
  intro pX eX sX mX argsX belowX methX cX A C hr hlk
  refine j_aload_n C 0 dX4_undo_0 rfl rfl ?_
  refine j_get C ck4 0 3 (by decide) qw133 rfl rfl dX4_undo_1 ?_
  refine j_if_gt (tgt := 17) C (by omega) dX4_undo_4 (by decide) (fun c4 => ?_) (fun c4 => absurd c4 (by omega))
  refine j_aload_n C 0 dX4_undo_17 rfl rfl ?_
  refine j_aload_n C 0 dX4_undo_18 rfl rfl ?_
  refine j_get C ck4 0 4 (by decide) qw134 rfl rfl dX4_undo_19 ?_
  refine j_iconst C dX4_undo_22 ?_
  refine j_isub C dX4_undo_23 ?_
  refine j_iconst C dX4_undo_24 ?_
  refine j_callS (As := [.int (iI (3 - 1)), .int (iI 4)]) (rest := [.ref (r 0)]) C ys_J9_floorMod_7cf53 qw285 (c_J9_floorMod_7cf53 l g (3 - 1) 4 (by omega) (by decide)) (by decide) rfl dX4_undo_25 rfl (Nat.le_of_ble_eq_true rfl) (by decide) (pf1 [] ([(r 0, .inr (4, [.ref (qn 0), .ref (qt 0), .ref (r 1), .int (iI sc), .int (iI 3), .ref (r 2)])), (r 1, aS g 4 (fun j => some (qv j 0))), (r 2, .inr (3, [.ref (r 3), .int (iI ((tn : Int))), .int (iI pl)])), (r 3, aI g 60 tx)] ++ (wSt g qn kn ++ (wSt g qt kt ++ (wSt g (qv 0) (kv 0) ++ (wSt g (qv 1) (kv 1) ++ (wSt g (qv 2) (kv 2) ++ (wSt g (qv 3) (kv 3))))))))) rfl (fun r9 w9 hq9 => ?_)
  obtain ⟨rfl, rfl⟩ := hq9
  refine J.to (L1 := [(0, .ref (r 0))]) (S1 := [.int (iI ((3 - 1) % 4)), .ref (r 0)]) (ws1 := ([(r 0, .inr (4, [.ref (qn 0), .ref (qt 0), .ref (r 1), .int (iI sc), .int (iI 3), .ref (r 2)])), (r 1, aS g 4 (fun j => some (qv j 0))), (r 2, .inr (3, [.ref (r 3), .int (iI ((tn : Int))), .int (iI pl)])), (r 3, aI g 60 tx)] ++ (wSt g qn kn ++ (wSt g qt kt ++ (wSt g (qv 0) (kv 0) ++ (wSt g (qv 1) (kv 1) ++ (wSt g (qv 2) (kv 2) ++ (wSt g (qv 3) (kv 3))))))))) rfl rfl rfl ?_
  refine J.to (L1 := [(0, .ref (r 0))]) (S1 := [.int (iI 2), .ref (r 0)]) (ws1 := ([(r 0, .inr (4, [.ref (qn 0), .ref (qt 0), .ref (r 1), .int (iI sc), .int (iI 3), .ref (r 2)])), (r 1, aS g 4 (fun j => some (qv j 0))), (r 2, .inr (3, [.ref (r 3), .int (iI ((tn : Int))), .int (iI pl)])), (r 3, aI g 60 tx)] ++ (wSt g qn kn ++ (wSt g qt kt ++ (wSt g (qv 0) (kv 0) ++ (wSt g (qv 1) (kv 1) ++ (wSt g (qv 2) (kv 2) ++ (wSt g (qv 3) (kv 3))))))))) rfl rfl (by rw [show (((3 - 1) % 4 : Int)) = 2 from (by decide)]) ?_
  refine j_put (ws1 := ([(r 0, .inr (4, [.ref (qn 0), .ref (qt 0), .ref (r 1), .int (iI sc), .int (iI 2), .ref (r 2)])), (r 1, aS g 4 (fun j => some (qv j 0))), (r 2, .inr (3, [.ref (r 3), .int (iI ((tn : Int))), .int (iI pl)])), (r 3, aI g 60 tx)] ++ (wSt g qn kn ++ (wSt g qt kt ++ (wSt g (qv 0) (kv 0) ++ (wSt g (qv 1) (kv 1) ++ (wSt g (qv 2) (kv 2) ++ (wSt g (qv 3) (kv 3))))))))) C ck4 0 4 (by decide) qw134 rfl dX4_undo_28 rfl rfl rfl rfl (Nat.le_of_ble_eq_true rfl) ?_
  refine j_aload_n C 0 dX4_undo_31 rfl rfl ?_
  refine j_aload_n C 0 dX4_undo_32 rfl rfl ?_
  refine j_get C ck4 0 4 (by decide) qw134 rfl rfl dX4_undo_33 ?_
  refine j_callV (As := [.int (iI 2)]) (rest := []) C yv_X4_savedAt qw264 (c_X4_savedAt_2 l g r (qn 0) (qt 0) sc 2 qv) (by decide) 0 rfl rfl rfl dX4_undo_36 rfl (Nat.le_of_ble_eq_true rfl) (by decide) (pf1 [] ([(r 2, .inr (3, [.ref (r 3), .int (iI ((tn : Int))), .int (iI pl)])), (r 3, aI g 60 tx)] ++ (wSt g qn kn ++ (wSt g qt kt ++ (wSt g (qv 0) (kv 0) ++ (wSt g (qv 1) (kv 1) ++ (wSt g (qv 2) (kv 2) ++ (wSt g (qv 3) (kv 3))))))))) rfl (fun r9 w9 hq9 => ?_)
  obtain ⟨rfl, rfl⟩ := hq9
  refine J.to (L1 := [(0, .ref (r 0))]) (S1 := [.ref (qv 2 0)]) (ws1 := ([(r 0, .inr (4, [.ref (qn 0), .ref (qt 0), .ref (r 1), .int (iI sc), .int (iI 2), .ref (r 2)])), (r 1, aS g 4 (fun j => some (qv j 0))), (r 2, .inr (3, [.ref (r 3), .int (iI ((tn : Int))), .int (iI pl)])), (r 3, aI g 60 tx)] ++ (wSt g qn kn ++ (wSt g qt kt ++ (wSt g (qv 0) (kv 0) ++ (wSt g (qv 1) (kv 1) ++ (wSt g (qv 2) (kv 2) ++ (wSt g (qv 3) (kv 3))))))))) rfl rfl rfl ?_
  refine j_astore_n (L1 := [(1, .ref (qv 2 0)), (0, .ref (r 0))]) C dX4_undo_39 rfl (by decide) rfl ?_
  refine j_aload_n C 0 dX4_undo_40 rfl rfl ?_
  refine j_ifnull C dX4_undo_41 ?_
  refine j_aload_n C 1 dX4_undo_44 rfl rfl ?_
  refine j_get C ck4 0 0 (by decide) qw130 rfl rfl dX4_undo_45 ?_
  refine j_aload_n C 0 dX4_undo_48 rfl rfl ?_
  refine j_callV (As := [.ref (qv 2 0)]) (rest := []) C yv_X2_copyFrom qw268 (c_X2_copyFrom l g qn kn (qv 2) (kv 2)) (by decide) 4 rfl rfl rfl dX4_undo_49 rfl (Nat.le_of_ble_eq_true rfl) (by decide) (pf2 [(r 0, .inr (4, [.ref (qn 0), .ref (qt 0), .ref (r 1), .int (iI sc), .int (iI 2), .ref (r 2)])), (r 1, aS g 4 (fun j => some (qv j 0))), (r 2, .inr (3, [.ref (r 3), .int (iI ((tn : Int))), .int (iI pl)])), (r 3, aI g 60 tx)] 8 (wSt g qt kt ++ (wSt g (qv 0) (kv 0) ++ (wSt g (qv 1) (kv 1)))) [(qv 3 0, .inr (2, [.ref (qv 3 1), .ref (qv 3 3), .ref (qv 3 5), .ref (qv 3 6), .ref (qv 3 7), .int (iI ((kv 3) 0 0))])), (qv 3 1, .inr (1, [.ref (qv 3 2), .int (iI ((kv 3) 0 2)), .int (iI ((kv 3) 0 3)), .int (iI ((kv 3) 0 1))])), (qv 3 2, aI g 10 ((kv 3) 1)), (qv 3 3, .inr (0, [.ref (qv 3 4), .int (iI ((kv 3) 0 9)), .int (iI ((kv 3) 0 6)), .int (iI ((kv 3) 0 4)), .int (iI ((kv 3) 0 5)), .long (lI ((kv 3) 0 7)), .long (lI ((kv 3) 0 8))])), (qv 3 4, aI g 48 ((kv 3) 2)), (qv 3 5, aI g 4 ((kv 3) 3)), (qv 3 6, aI g 4 ((kv 3) 4)), (qv 3 7, aI g 4 ((kv 3) 5))]) rfl (fun r9 w9 hq9 => ?_)
  obtain ⟨rfl, rfl⟩ := hq9
  refine J.to (L1 := [(1, .ref (qv 2 0)), (0, .ref (r 0))]) (S1 := []) (ws1 := ([(r 0, .inr (4, [.ref (qn 0), .ref (qt 0), .ref (r 1), .int (iI sc), .int (iI 2), .ref (r 2)])), (r 1, aS g 4 (fun j => some (qv j 0))), (r 2, .inr (3, [.ref (r 3), .int (iI ((tn : Int))), .int (iI pl)])), (r 3, aI g 60 tx)] ++ (wSt g qn (cpS (kv 2) kn) ++ (wSt g qt kt ++ (wSt g (qv 0) (kv 0) ++ (wSt g (qv 1) (kv 1) ++ (wSt g (qv 2) (kv 2) ++ (wSt g (qv 3) (kv 3))))))))) rfl rfl rfl ?_
  refine j_aload_n C 1 dX4_undo_52 rfl rfl ?_
  refine j_dup C dX4_undo_53 rfl ?_
  refine j_get C ck4 0 3 (by decide) qw133 rfl rfl dX4_undo_54 ?_
  refine j_iconst C dX4_undo_57 ?_
  refine j_isub C dX4_undo_58 ?_
  refine j_put (ws1 := ([(r 0, .inr (4, [.ref (qn 0), .ref (qt 0), .ref (r 1), .int (iI (sc - 1)), .int (iI 2), .ref (r 2)])), (r 1, aS g 4 (fun j => some (qv j 0))), (r 2, .inr (3, [.ref (r 3), .int (iI ((tn : Int))), .int (iI pl)])), (r 3, aI g 60 tx)] ++ (wSt g qn (cpS (kv 2) kn) ++ (wSt g qt kt ++ (wSt g (qv 0) (kv 0) ++ (wSt g (qv 1) (kv 1) ++ (wSt g (qv 2) (kv 2) ++ (wSt g (qv 3) (kv 3))))))))) C ck4 0 3 (by decide) qw133 rfl dX4_undo_59 rfl rfl rfl rfl (Nat.le_of_ble_eq_true rfl) ?_
  refine j_aload_n C 1 dX4_undo_62 rfl rfl ?_
  refine j_get C ck4 0 3 (by decide) qw133 rfl rfl dX4_undo_63 ?_
  exact j_iret C hr hlk dX4_undo_66 ⟨rfl, rfl⟩ (by decide) (by decide)

theorem c_X4_undo (l : Launch) (g : Gh) (r : Nat → Nat) (qn qt : Nat → Nat) (qv : Nat → Nat → Nat) (kn kt : Nat → Nat → Int) (kv : Nat → Nat → Nat → Int) (sc : Int) (ns : Nat) (tx : Nat → Int) (tn : Nat) (pl : Int) (hsc : 0 < sc ∧ sc ≤ 4) (hns : ns < 4) : CT l g yX4_undo cX4_undo 2 (some .int) ({ frames := 3, cells := 0, slots := 0, locals := 64 }) [.ref (r 0)] (wTp g r qn qt qv kn kt kv sc ns tx tn pl) (PE (some (.int (iI (sc - 1)))) (wTp g r qn qt qv (cpS (kv ((ns + 3) % 4)) kn) kt kv (sc - 1) ((ns + 3) % 4) tx tn pl)) := by
  match ns, hns with
  | 0, _ => exact c_X4_undo_0 l g r qn qt qv kn kt kv sc tx tn pl hsc
  | 1, _ => exact c_X4_undo_1 l g r qn qt qv kn kt kv sc tx tn pl hsc
  | 2, _ => exact c_X4_undo_2 l g r qn qt qv kn kt kv sc tx tn pl hsc
  | 3, _ => exact c_X4_undo_3 l g r qn qt qv kn kt kv sc tx tn pl hsc
theorem x_X4_undo_1 (l : Launch) (hl : l.stackTraces = false) (g : Gh) (r : Nat → Nat) (qn qt : Nat → Nat) (qv : Nat → Nat → Nat) (kn kt : Nat → Nat → Int) (kv : Nat → Nat → Nat → Int) (sc : Int) (ns : Nat) (tx : Nat → Int) (tn : Nat) (pl : Int) (hT : TOK kn kv sc ns tx tn) (hs0 : sc = 0) : CX l g yX4_undo cX4_undo 2 (some FieldType.int) ({ frames := 6, cells := 1, slots := 6, locals := 100 }) [.ref (r 0)] ([(r 0, .inr (4, [.ref (qn 0), .ref (qt 0), .ref (r 1), .int (iI sc), .int (iI ((ns : Int))), .ref (r 2)])), (r 1, aS g 4 (fun j => some (qv j 0))), (r 2, .inr (3, [.ref (r 3), .int (iI ((tn : Int))), .int (iI pl)])), (r 3, aI g 60 tx)] ++ (wSt g qn kn ++ (wSt g qt kt ++ (wS4 g qv kv)))) "java/lang/IllegalStateException" (fun w9 => w9 = wTp g r qn qt qv kn kt kv sc ns tx tn pl) := by
  refine CX.intro (L0 := [(0, .ref (r 0))]) (own := RX4) (by decide) rfl (Nat.le_of_ble_eq_true rfl) rfl ?_
  intro pX eX sX mX argsX belowX methX cX A C hlk hnt
  obtain ⟨⟨hk, hh0⟩, hkv, hsc, hns, htn, htx⟩ := id hT
  obtain ⟨hP, hE0, hF, hrow0, hwt, hht, hlen, hlat, hkept⟩ := id hk
  have hE : -10 ≤ kn 0 3 ∧ kn 0 3 ≤ 10 := by omega
  have hrow : ∀ i : Nat, (i : Int) < kn 0 2 → 0 ≤ kn 1 i ∧ kn 1 i ≤ 4 := fun i hi => by have := hrow0 i hi; omega
  have hc2 : cpS kn kt 0 2 = kn 0 2 := rfl
  have hhnd : 0 ≤ hnd kn ∧ hnd kn ≤ 300000 := ⟨hh0, hnd_le hk⟩
  refine j_aload_n C 0 dX4_undo_0 rfl rfl ?_
  refine j_get C ck4 0 3 (by decide) qw133 rfl rfl dX4_undo_1 ?_
  refine j_if_gt (tgt := 17) C (by omega) dX4_undo_4 (by decide) (fun c4 => absurd c4 (by omega)) (fun c4 => ?_)
  exact j_throw C hl hlk hnt exw_IllegalStateException qw347 qw9 (by decide +kernel) (List.mem_of_getElem? (i := 11) rfl) dX4_undo_7 dX4_undo_10 dX4_undo_11 dX4_undo_13 dX4_undo_16 ⟨by decide, Nat.le_of_ble_eq_true rfl⟩ ⟨by decide, by decide⟩ rfl ⟨by decide, by decide⟩

