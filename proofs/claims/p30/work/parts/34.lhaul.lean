/-! the law: hauled -/
/-- the law's 1, and a tackle behind at most n haulings -/
def AP (g : Gh) (r : Nat → Nat) (qn qt : Nat → Nat) (qv : Nat → Nat → Nat) (n : Nat) : Option Value → va_W → Prop := fun r9 w9 => r9 = some (.int (iI 1)) ∧ ∃ (kn9 kt9 : Nat → Nat → Int) (kv9 : Nat → Nat → Nat → Int) (sc9 : Int) (ns9 : Nat) (tx9 : Nat → Int) (tn9 : Nat) (pl9 : Int), w9 = wTp g r qn qt qv kn9 kt9 kv9 sc9 ns9 tx9 tn9 pl9 ∧ IV n kn9 kv9 sc9 ns9 tx9 tn9
noncomputable abbrev KU (k : Nat → Nat → Int) (f v : Int) : Nat → Nat → Int := (mup f v (rck k true)).1
noncomputable abbrev RU (k : Nat → Nat → Int) (f v : Int) : Int := (mup f v (rck k true)).2
theorem rise_K {k kt : Nat → Nat → Int} {f v : Int} {b : Nat} (hk : SOK k) (hb : b < 4) : (mup f v (cpS k kt)).1 4 b - k 4 b = KU k f v 4 b - k 4 b := by
  have h := (KE.up ((KE_cp k kt).tr (KE_rck k true).sy) (SOK_cpS hk) f v).1.2.2.2.2 b hb
  rw [h]
theorem nx_cases (k : Nat → Nat → Int) : nxr (rck k true 5) (k 4) 1000000 4 = -1 ∨ ∃ b : Nat, b < 4 ∧ nxr (rck k true 5) (k 4) 1000000 4 = (b : Int) := by
  have h := nxr_rng (rck k true 5) (k 4) 1000000 4
  by_cases h0 : nxr (rck k true 5) (k 4) 1000000 4 = -1
  · exact Or.inl h0
  · exact Or.inr ⟨(nxr (rck k true 5) (k 4) 1000000 4).toNat, by omega, by omega⟩
theorem RU_no {k : Nat → Nat → Int} (hk : SOK k) {f v : Int} (hf : f ≤ 1000000) (h : nxr (rck k true 5) (k 4) 1000000 4 = -1 ∨ ∃ b : Nat, b < 4 ∧ nxr (rck k true 5) (k 4) 1000000 4 = (b : Int) ∧ f < lef k true b) : RU k f v = 0 := by
  show (mup f v (rck k true)).2 = 0
  rw [(KE.up (KE_rck k true) hk f v).2]
  exact mup_no hf h
set_option maxRecDepth 100000 in
set_option maxHeartbeats 4000000 in
theorem lp_haul1 {p : Program} {l : Launch} {e : Env} {s : State} {m : MethodId} {args : Array Value} {below : List Frame} {meth : Method} {c : Code} {A : Nat → Prop} {Q : State → Prop} {g : Gh} {r : Nat → Nat} {qn qt : Nat → Nat} {qv : Nat → Nat → Nat} {kn : Nat → Nat → Int} {kv : Nat → Nat → Nat → Int} {sc : Int} {ns : Nat} {tx : Nat → Int} {tn : Nat} {pl : Int} (C : Cx p g s m args c cL_hauled 18 RL A) (hl : l.stackTraces = false) (hT : TOK kn kv sc ns tx tn) {f v : Int} (hf : 0 ≤ f ∧ f ≤ 1000000) (hv : 0 ≤ v ∧ v ≤ 100000) {a1 a2 : Nat} (kk : ∀ (kt : Nat → Nat → Int), J p l e ({ frames := 9, cells := 2, slots := 8, locals := 196 } : Room) s m args below meth c g A 18 48 [(0, .ref (r 0)), (1, .int (iI f)), (2, .int (iI v)), (3, .ref a1), (4, .ref a2)] [] ([(a2, aI g 4 (cpy 4 (kn 4) (fun _ => 0))), (a1, aI g 4 (cpy 4 (fun j => KU kn f v 4 j - kn 4 j) (fun _ => 0)))] ++ (wTp g r qn qt qv kn kt kv sc ns tx tn pl)) 2 8 Q) : ∀ (n i : Nat), i + n = 4 → ∀ (kt : Nat → Nat → Int), J p l e ({ frames := 9, cells := 2, slots := 8, locals := 196 } : Room) s m args below meth c g A 18 12 [(0, .ref (r 0)), (1, .int (iI f)), (2, .int (iI v)), (3, .ref a1), (4, .ref a2), (5, .int (iI ((i : Int))))] [] ([(a2, aI g 4 (cpy i (kn 4) (fun _ => 0))), (a1, aI g 4 (cpy i (fun j => KU kn f v 4 j - kn 4 j) (fun _ => 0)))] ++ (wTp g r qn qt qv kn kt kv sc ns tx tn pl)) 2 8 Q := by
  intro n
  induction n with
  | zero =>
    intro i hi kt
    have hi9 : 4 = i := by omega
    subst hi9
    refine j_iload C 5 dL_hauled_12 rfl ?_
    refine j_iconst C dL_hauled_14 ?_
    refine j_icmp_ge (tgt := 48) C (by omega) (by decide) dL_hauled_15 (by decide) (fun c15 => ?_) (fun c15 => absurd c15 (by omega))
    refine J.sub (L1 := [(0, .ref (r 0)), (1, .int (iI f)), (2, .int (iI v)), (3, .ref a1), (4, .ref a2)]) [0, 1, 2, 3, 4] rfl ?_
    exact kk kt
  | succ n ih =>
    intro i hi kt
    have hi4 : i < 4 := by omega
    have hk := hT.1.1
    refine j_iload C 5 dL_hauled_12 rfl ?_
    refine j_iconst C dL_hauled_14 ?_
    refine j_icmp_ge (tgt := 48) C (by omega) (by decide) dL_hauled_15 (by decide) (fun c15 => absurd c15 (by omega)) (fun c15 => ?_)
    refine j_aload_n C 3 dL_hauled_18 rfl rfl ?_
    refine j_iload C 5 dL_hauled_19 rfl ?_
    refine j_aload_n C 0 dL_hauled_21 rfl rfl ?_
    refine j_iload C 5 dL_hauled_22 rfl ?_
    refine j_iload_n C 1 dL_hauled_24 rfl rfl ?_
    refine j_iload_n C 2 dL_hauled_25 rfl rfl ?_
    refine j_callSW (As := [.ref (r 0), .int (iI ((i : Int))), .int (iI f), .int (iI v)]) (rest := [.int (iI ((i : Int))), .ref a1]) C yw_L_rise qw548 (w_rise l g r qn qt qv kn kt kv sc ns tx tn pl (i : Int) f v hT (by omega) (by omega) (by omega)) (by decide) rfl dL_hauled_26 rfl (Nat.le_of_ble_eq_true rfl) (by decide) (pfL [(a2, aI g 4 (cpy i (kn 4) (fun _ => 0))), (a1, aI g 4 (cpy i (fun j => KU kn f v 4 j - kn 4 j) (fun _ => 0)))]) rfl (fun r9 w9 hq9 => ?_)
    obtain ⟨rfl, kt_1, rfl⟩ := hq9
    refine J.to (L1 := [(0, .ref (r 0)), (1, .int (iI f)), (2, .int (iI v)), (3, .ref a1), (4, .ref a2), (5, .int (iI ((i : Int))))]) (S1 := [.int (iI ((mup f v (cpS kn kt)).1 4 i - kn 4 i)), .int (iI ((i : Int))), .ref a1]) (ws1 := ([(a2, aI g 4 (cpy i (kn 4) (fun _ => 0))), (a1, aI g 4 (cpy i (fun j => KU kn f v 4 j - kn 4 j) (fun _ => 0)))] ++ (wTp g r qn qt qv kn kt_1 kv sc ns tx tn pl))) rfl rfl rfl ?_
    refine J.to (L1 := [(0, .ref (r 0)), (1, .int (iI f)), (2, .int (iI v)), (3, .ref a1), (4, .ref a2), (5, .int (iI ((i : Int))))]) (S1 := [.int (iI (KU kn f v 4 i - kn 4 i)), .int (iI ((i : Int))), .ref a1]) (ws1 := ([(a2, aI g 4 (cpy i (kn 4) (fun _ => 0))), (a1, aI g 4 (cpy i (fun j => KU kn f v 4 j - kn 4 j) (fun _ => 0)))] ++ (wTp g r qn qt qv kn kt_1 kv sc ns tx tn pl))) rfl rfl (congrArg (fun x9 : Int => ([.int (iI x9), .int (iI ((i : Int))), .ref a1] : List Value)) (show ((mup f v (cpS kn kt)).1 4 i - kn 4 i : Int) = KU kn f v 4 i - kn 4 i from (rise_K hk hi4))) ?_
    refine j_iast (n := 4) (f := cpy i (fun j => KU kn f v 4 j - kn 4 j) (fun _ => 0)) (ws1 := ([(a2, aI g 4 (cpy i (kn 4) (fun _ => 0))), (a1, aI g 4 (va_up (cpy i (fun j => KU kn f v 4 j - kn 4 j) (fun _ => 0)) i (KU kn f v 4 i - kn 4 i)))] ++ (wTp g r qn qt qv kn kt_1 kv sc ns tx tn pl))) C 1 i rfl rfl (by omega) (by decide) dL_hauled_29 rfl ?_
    refine j_aload C 4 dL_hauled_30 rfl ?_
    refine j_iload C 5 dL_hauled_32 rfl ?_
    refine j_aload_n C 0 dL_hauled_34 rfl rfl ?_
    refine j_iload C 5 dL_hauled_35 rfl ?_
    refine j_iconst C dL_hauled_37 ?_
    refine j_callSW (As := [.ref (r 0), .int (iI ((i : Int))), .int (iI 1)]) (rest := [.int (iI ((i : Int))), .ref a2]) C yw_L_block qw456 (w_block l g r qn qt qv kn kt_1 kv sc ns tx tn pl (i : Int) 1 hT (by omega) (by omega)) (by decide) rfl dL_hauled_38 rfl (Nat.le_of_ble_eq_true rfl) (by decide) (pfL [(a2, aI g 4 (cpy i (kn 4) (fun _ => 0))), (a1, aI g 4 (va_up (cpy i (fun j => KU kn f v 4 j - kn 4 j) (fun _ => 0)) i (KU kn f v 4 i - kn 4 i)))]) rfl (fun r9 w9 hq9 => ?_)
    obtain ⟨rfl, rfl⟩ := hq9
    refine J.to (L1 := [(0, .ref (r 0)), (1, .int (iI f)), (2, .int (iI v)), (3, .ref a1), (4, .ref a2), (5, .int (iI ((i : Int))))]) (S1 := [.int (iI (kn 4 i)), .int (iI ((i : Int))), .ref a2]) (ws1 := ([(a2, aI g 4 (cpy i (kn 4) (fun _ => 0))), (a1, aI g 4 (va_up (cpy i (fun j => KU kn f v 4 j - kn 4 j) (fun _ => 0)) i (KU kn f v 4 i - kn 4 i)))] ++ (wTp g r qn qt qv kn kt_1 kv sc ns tx tn pl))) rfl rfl rfl ?_
    refine j_iast (n := 4) (f := cpy i (kn 4) (fun _ => 0)) (ws1 := ([(a2, aI g 4 (va_up (cpy i (kn 4) (fun _ => 0)) i (kn 4 i))), (a1, aI g 4 (va_up (cpy i (fun j => KU kn f v 4 j - kn 4 j) (fun _ => 0)) i (KU kn f v 4 i - kn 4 i)))] ++ (wTp g r qn qt qv kn kt_1 kv sc ns tx tn pl))) C 0 i rfl rfl (by omega) (by decide) dL_hauled_41 rfl ?_
    refine j_iinc (L1 := [(5, .int (iI (((i : Int)) + 1))), (0, .ref (r 0)), (1, .int (iI f)), (2, .int (iI v)), (3, .ref a1), (4, .ref a2)]) C 5 dL_hauled_42 rfl (by decide) rfl ?_
    refine j_goto (tgt := 12) C dL_hauled_45 (by decide) ?_
    refine J.sub (L1 := [(0, .ref (r 0)), (1, .int (iI f)), (2, .int (iI v)), (3, .ref a1), (4, .ref a2), (5, .int (iI (((i : Int)) + 1)))]) [1, 2, 3, 4, 5, 0] rfl ?_
    rw [cpy_succ i (fun j => KU kn f v 4 j - kn 4 j) (fun _ => 0), cpy_succ i (kn 4) (fun _ => 0)]
    exact ih (i + 1) (by omega) kt_1

set_option maxRecDepth 100000 in
set_option maxHeartbeats 4000000 in
theorem lp_haul2 {p : Program} {l : Launch} {e : Env} {s : State} {m : MethodId} {args : Array Value} {below : List Frame} {meth : Method} {c : Code} {A : Nat → Prop} {Q : State → Prop} {g : Gh} {r : Nat → Nat} {qn qt : Nat → Nat} {qv : Nat → Nat → Nat} {kv : Nat → Nat → Nat → Int} {sc : Int} {ns : Nat} {tx : Nat → Int} {tn : Nat} {pl : Int} {kt : Nat → Nat → Int} (C : Cx p g s m args c cL_hauled 18 RL A) (hl : l.stackTraces = false) {K : Nat → Nat → Int} (hTK : TOK K kv sc ns tx tn) {f v hd ris rop inn g0 : Int} {h0 : Nat → Int} (hf : 0 ≤ f ∧ f ≤ 1000000) (hh : ∀ b : Nat, b < 4 → h0 b ≤ K 4 b ∧ (K 4 b ≠ h0 b → lef K true b ≤ f)) (hh0 : ∀ b : Nat, b < 4 → 0 ≤ h0 b) {a1 a2 : Nat} (kk : J p l e ({ frames := 9, cells := 2, slots := 8, locals := 196 } : Room) s m args below meth c g A 18 274 [(0, .ref (r 0)), (1, .int (iI f)), (2, .int (iI v)), (3, .ref a1), (4, .ref a2), (5, .int (iI hd)), (6, .long (lI inn)), (8, .long (lI (g0 + psF (fun j => (K 4 j - h0 j) * K 3 j) 4))), (10, .int (iI ris)), (13, .int (iI rop)), (14, .int (iI (psF (fun j => msf K j * (K 4 j - h0 j)) 4))), (15, .int (iI (psF (fun j => i1 (0 < K 4 j - h0 j)) 4))), (16, .int (iI 1))] [] ([(a2, aI g 4 (cpy 4 h0 (fun _ => 0))), (a1, aI g 4 (cpy 4 (fun j => K 4 j - h0 j) (fun _ => 0)))] ++ (wTp g r qn qt qv K kt kv sc ns tx tn pl)) 2 8 Q) : ∀ (n i : Nat), i + n = 4 → J p l e ({ frames := 9, cells := 2, slots := 8, locals := 196 } : Room) s m args below meth c g A 18 152 [(0, .ref (r 0)), (1, .int (iI f)), (2, .int (iI v)), (3, .ref a1), (4, .ref a2), (5, .int (iI hd)), (6, .long (lI inn)), (8, .long (lI (g0 + psF (fun j => (K 4 j - h0 j) * K 3 j) i))), (10, .int (iI ris)), (13, .int (iI rop)), (14, .int (iI (psF (fun j => msf K j * (K 4 j - h0 j)) i))), (15, .int (iI (psF (fun j => i1 (0 < K 4 j - h0 j)) i))), (16, .int (iI 1)), (17, .int (iI ((i : Int))))] [] ([(a2, aI g 4 (cpy 4 h0 (fun _ => 0))), (a1, aI g 4 (cpy 4 (fun j => K 4 j - h0 j) (fun _ => 0)))] ++ (wTp g r qn qt qv K kt kv sc ns tx tn pl)) 2 8 Q := by
  intro n
  induction n with
  | zero =>
    intro i hi 
    have hi9 : 4 = i := by omega
    subst hi9
    refine j_iload C 13 dL_hauled_152 rfl ?_
    refine j_iconst C dL_hauled_154 ?_
    refine j_icmp_ge (tgt := 274) C (by omega) (by decide) dL_hauled_155 (by decide) (fun c155 => ?_) (fun c155 => absurd c155 (by omega))
    refine J.sub (L1 := [(0, .ref (r 0)), (1, .int (iI f)), (2, .int (iI v)), (3, .ref a1), (4, .ref a2), (5, .int (iI hd)), (6, .long (lI inn)), (8, .long (lI (g0 + psF (fun j => (K 4 j - h0 j) * K 3 j) 4))), (10, .int (iI ris)), (13, .int (iI rop)), (14, .int (iI (psF (fun j => msf K j * (K 4 j - h0 j)) 4))), (15, .int (iI (psF (fun j => i1 (0 < K 4 j - h0 j)) 4))), (16, .int (iI 1))]) [0, 1, 2, 3, 4, 5, 6, 7, 8, 9, 10, 11, 12] rfl ?_
    exact kk
  | succ n ih =>
    intro i hi 
    obtain ⟨hP, hE, hF, hrow, hwt, hht, hlen, hlat, hkept⟩ := id hTK.1.1
    have hi4 : i < 4 := by omega
    have hhi := hh i hi4
    have h0i := hh0 i hi4
    have hti := hht i hi4
    have hwi := hwt i hi4
    have hlr := lef_rng K true i
    refine j_iload C 13 dL_hauled_152 rfl ?_
    refine j_iconst C dL_hauled_154 ?_
    refine j_icmp_ge (tgt := 274) C (by omega) (by decide) dL_hauled_155 (by decide) (fun c155 => absurd c155 (by omega)) (fun c155 => ?_)
    refine j_iload C 12 dL_hauled_158 rfl ?_
    refine j_if_eq (tgt := 212) C (by decide) dL_hauled_160 (by decide) (fun c160 => absurd c160 (by decide)) (fun c160 => ?_)
    refine j_aload_n C 3 dL_hauled_163 rfl rfl ?_
    refine j_iload C 13 dL_hauled_164 rfl ?_
    refine j_iald (n := 4) (f := cpy 4 (fun j => K 4 j - h0 j) (fun _ => 0)) C 1 i rfl rfl (by omega) (by decide) dL_hauled_166 ?_
    refine J.to (L1 := [(0, .ref (r 0)), (1, .int (iI f)), (2, .int (iI v)), (3, .ref a1), (4, .ref a2), (5, .int (iI hd)), (6, .long (lI inn)), (8, .long (lI (g0 + psF (fun j => (K 4 j - h0 j) * K 3 j) i))), (10, .int (iI ris)), (13, .int (iI rop)), (14, .int (iI (psF (fun j => msf K j * (K 4 j - h0 j)) i))), (15, .int (iI (psF (fun j => i1 (0 < K 4 j - h0 j)) i))), (16, .int (iI 1)), (17, .int (iI ((i : Int))))]) (S1 := [.int (iI (K 4 i - h0 i))]) (ws1 := ([(a2, aI g 4 (cpy 4 h0 (fun _ => 0))), (a1, aI g 4 (cpy 4 (fun j => K 4 j - h0 j) (fun _ => 0)))] ++ (wTp g r qn qt qv K kt kv sc ns tx tn pl))) rfl rfl (congrArg (fun x9 : Int => ([.int (iI x9)] : List Value)) (show ((cpy 4 (fun j => K 4 j - h0 j) (fun _ => 0)) i : Int) = K 4 i - h0 i from (cpy_lt hi4))) ?_
    refine j_if_lt (tgt := 212) C (by omega) dL_hauled_167 (by decide) (fun c167 => absurd c167 (by omega)) (fun c167 => ?_)
    refine j_aload_n C 0 dL_hauled_170 rfl rfl ?_
    refine j_iload C 13 dL_hauled_171 rfl ?_
    refine j_iconst C dL_hauled_173 ?_
    refine j_callSW (As := [.ref (r 0), .int (iI ((i : Int))), .int (iI 1)]) (rest := []) C yw_L_block qw456 (w_block l g r qn qt qv K kt kv sc ns tx tn pl (i : Int) 1 hTK (by omega) (by omega)) (by decide) rfl dL_hauled_174 rfl (Nat.le_of_ble_eq_true rfl) (by decide) (pfL [(a2, aI g 4 (cpy 4 h0 (fun _ => 0))), (a1, aI g 4 (cpy 4 (fun j => K 4 j - h0 j) (fun _ => 0)))]) rfl (fun r9 w9 hq9 => ?_)
    obtain ⟨rfl, rfl⟩ := hq9
    refine J.to (L1 := [(0, .ref (r 0)), (1, .int (iI f)), (2, .int (iI v)), (3, .ref a1), (4, .ref a2), (5, .int (iI hd)), (6, .long (lI inn)), (8, .long (lI (g0 + psF (fun j => (K 4 j - h0 j) * K 3 j) i))), (10, .int (iI ris)), (13, .int (iI rop)), (14, .int (iI (psF (fun j => msf K j * (K 4 j - h0 j)) i))), (15, .int (iI (psF (fun j => i1 (0 < K 4 j - h0 j)) i))), (16, .int (iI 1)), (17, .int (iI ((i : Int))))]) (S1 := [.int (iI (K 4 i))]) (ws1 := ([(a2, aI g 4 (cpy 4 h0 (fun _ => 0))), (a1, aI g 4 (cpy 4 (fun j => K 4 j - h0 j) (fun _ => 0)))] ++ (wTp g r qn qt qv K kt kv sc ns tx tn pl))) rfl rfl rfl ?_
    refine j_aload C 4 dL_hauled_177 rfl ?_
    refine j_iload C 13 dL_hauled_179 rfl ?_
    refine j_iald (n := 4) (f := cpy 4 h0 (fun _ => 0)) C 0 i rfl rfl (by omega) (by decide) dL_hauled_181 ?_
    refine J.to (L1 := [(0, .ref (r 0)), (1, .int (iI f)), (2, .int (iI v)), (3, .ref a1), (4, .ref a2), (5, .int (iI hd)), (6, .long (lI inn)), (8, .long (lI (g0 + psF (fun j => (K 4 j - h0 j) * K 3 j) i))), (10, .int (iI ris)), (13, .int (iI rop)), (14, .int (iI (psF (fun j => msf K j * (K 4 j - h0 j)) i))), (15, .int (iI (psF (fun j => i1 (0 < K 4 j - h0 j)) i))), (16, .int (iI 1)), (17, .int (iI ((i : Int))))]) (S1 := [.int (iI (h0 i)), .int (iI (K 4 i))]) (ws1 := ([(a2, aI g 4 (cpy 4 h0 (fun _ => 0))), (a1, aI g 4 (cpy 4 (fun j => K 4 j - h0 j) (fun _ => 0)))] ++ (wTp g r qn qt qv K kt kv sc ns tx tn pl))) rfl rfl (congrArg (fun x9 : Int => ([.int (iI x9), .int (iI (K 4 i))] : List Value)) (show ((cpy 4 h0 (fun _ => 0)) i : Int) = h0 i from (cpy_lt hi4))) ?_
    refine j_aload_n C 3 dL_hauled_182 rfl rfl ?_
    refine j_iload C 13 dL_hauled_183 rfl ?_
    refine j_iald (n := 4) (f := cpy 4 (fun j => K 4 j - h0 j) (fun _ => 0)) C 1 i rfl rfl (by omega) (by decide) dL_hauled_185 ?_
    refine J.to (L1 := [(0, .ref (r 0)), (1, .int (iI f)), (2, .int (iI v)), (3, .ref a1), (4, .ref a2), (5, .int (iI hd)), (6, .long (lI inn)), (8, .long (lI (g0 + psF (fun j => (K 4 j - h0 j) * K 3 j) i))), (10, .int (iI ris)), (13, .int (iI rop)), (14, .int (iI (psF (fun j => msf K j * (K 4 j - h0 j)) i))), (15, .int (iI (psF (fun j => i1 (0 < K 4 j - h0 j)) i))), (16, .int (iI 1)), (17, .int (iI ((i : Int))))]) (S1 := [.int (iI (K 4 i - h0 i)), .int (iI (h0 i)), .int (iI (K 4 i))]) (ws1 := ([(a2, aI g 4 (cpy 4 h0 (fun _ => 0))), (a1, aI g 4 (cpy 4 (fun j => K 4 j - h0 j) (fun _ => 0)))] ++ (wTp g r qn qt qv K kt kv sc ns tx tn pl))) rfl rfl (congrArg (fun x9 : Int => ([.int (iI x9), .int (iI (h0 i)), .int (iI (K 4 i))] : List Value)) (show ((cpy 4 (fun j => K 4 j - h0 j) (fun _ => 0)) i : Int) = K 4 i - h0 i from (cpy_lt hi4))) ?_
    refine j_iadd C dL_hauled_186 ?_
    refine j_isameF C ((by omega)) dL_hauled_187 (tgt := 212) (by decide) ?_
    have kj208_0 : J p l e ({ frames := 9, cells := 2, slots := 8, locals := 196 } : Room) s m args below meth c g A 18 208 [(0, .ref (r 0)), (1, .int (iI f)), (2, .int (iI v)), (3, .ref a1), (4, .ref a2), (5, .int (iI hd)), (6, .long (lI inn)), (8, .long (lI (g0 + psF (fun j => (K 4 j - h0 j) * K 3 j) i))), (10, .int (iI ris)), (13, .int (iI rop)), (14, .int (iI (psF (fun j => msf K j * (K 4 j - h0 j)) i))), (15, .int (iI (psF (fun j => i1 (0 < K 4 j - h0 j)) i))), (16, .int (iI 1)), (17, .int (iI ((i : Int))))] [] ([(a2, aI g 4 (cpy 4 h0 (fun _ => 0))), (a1, aI g 4 (cpy 4 (fun j => K 4 j - h0 j) (fun _ => 0)))] ++ (wTp g r qn qt qv K kt kv sc ns tx tn pl)) 2 8 Q := by
      refine j_iconst C dL_hauled_208 ?_
      refine j_goto (tgt := 213) C dL_hauled_209 (by decide) ?_
      refine j_istore (L1 := [(16, .int (iI 1)), (0, .ref (r 0)), (1, .int (iI f)), (2, .int (iI v)), (3, .ref a1), (4, .ref a2), (5, .int (iI hd)), (6, .long (lI inn)), (8, .long (lI (g0 + psF (fun j => (K 4 j - h0 j) * K 3 j) i))), (10, .int (iI ris)), (13, .int (iI rop)), (14, .int (iI (psF (fun j => msf K j * (K 4 j - h0 j)) i))), (15, .int (iI (psF (fun j => i1 (0 < K 4 j - h0 j)) i))), (17, .int (iI ((i : Int))))]) C dL_hauled_213 (by decide) rfl ?_
      refine j_iload C 11 dL_hauled_215 rfl ?_
      refine j_aload_n C 1 dL_hauled_217 rfl rfl ?_
      refine j_iload C 13 dL_hauled_218 rfl ?_
      refine j_iconst C dL_hauled_220 ?_
      refine j_callSW (As := [.ref (r 0), .int (iI ((i : Int))), .int (iI 2)]) (rest := [.int (iI (psF (fun j => msf K j * (K 4 j - h0 j)) i))]) C yw_L_block qw456 (w_block l g r qn qt qv K kt kv sc ns tx tn pl (i : Int) 2 hTK (by omega) (by omega)) (by decide) rfl dL_hauled_221 rfl (Nat.le_of_ble_eq_true rfl) (by decide) (pfL [(a2, aI g 4 (cpy 4 h0 (fun _ => 0))), (a1, aI g 4 (cpy 4 (fun j => K 4 j - h0 j) (fun _ => 0)))]) rfl (fun r9 w9 hq9 => ?_)
      obtain ⟨rfl, rfl⟩ := hq9
      refine J.to (L1 := [(16, .int (iI 1)), (0, .ref (r 0)), (1, .int (iI f)), (2, .int (iI v)), (3, .ref a1), (4, .ref a2), (5, .int (iI hd)), (6, .long (lI inn)), (8, .long (lI (g0 + psF (fun j => (K 4 j - h0 j) * K 3 j) i))), (10, .int (iI ris)), (13, .int (iI rop)), (14, .int (iI (psF (fun j => msf K j * (K 4 j - h0 j)) i))), (15, .int (iI (psF (fun j => i1 (0 < K 4 j - h0 j)) i))), (17, .int (iI ((i : Int))))]) (S1 := [.int (iI (msf K i)), .int (iI (psF (fun j => msf K j * (K 4 j - h0 j)) i))]) (ws1 := ([(a2, aI g 4 (cpy 4 h0 (fun _ => 0))), (a1, aI g 4 (cpy 4 (fun j => K 4 j - h0 j) (fun _ => 0)))] ++ (wTp g r qn qt qv K kt kv sc ns tx tn pl))) rfl rfl rfl ?_
      refine j_aload_n C 4 dL_hauled_224 rfl rfl ?_
      refine j_iload C 13 dL_hauled_225 rfl ?_
      refine j_iald (n := 4) (f := cpy 4 (fun j => K 4 j - h0 j) (fun _ => 0)) C 1 i rfl rfl (by omega) (by decide) dL_hauled_227 ?_
      refine J.to (L1 := [(16, .int (iI 1)), (0, .ref (r 0)), (1, .int (iI f)), (2, .int (iI v)), (3, .ref a1), (4, .ref a2), (5, .int (iI hd)), (6, .long (lI inn)), (8, .long (lI (g0 + psF (fun j => (K 4 j - h0 j) * K 3 j) i))), (10, .int (iI ris)), (13, .int (iI rop)), (14, .int (iI (psF (fun j => msf K j * (K 4 j - h0 j)) i))), (15, .int (iI (psF (fun j => i1 (0 < K 4 j - h0 j)) i))), (17, .int (iI ((i : Int))))]) (S1 := [.int (iI (K 4 i - h0 i)), .int (iI (msf K i)), .int (iI (psF (fun j => msf K j * (K 4 j - h0 j)) i))]) (ws1 := ([(a2, aI g 4 (cpy 4 h0 (fun _ => 0))), (a1, aI g 4 (cpy 4 (fun j => K 4 j - h0 j) (fun _ => 0)))] ++ (wTp g r qn qt qv K kt kv sc ns tx tn pl))) rfl rfl (congrArg (fun x9 : Int => ([.int (iI x9), .int (iI (msf K i)), .int (iI (psF (fun j => msf K j * (K 4 j - h0 j)) i))] : List Value)) (show ((cpy 4 (fun j => K 4 j - h0 j) (fun _ => 0)) i : Int) = K 4 i - h0 i from (cpy_lt hi4))) ?_
      refine j_imul C dL_hauled_228 ?_
      refine j_iadd C dL_hauled_229 ?_
      refine j_istore (L1 := [(14, .int (iI ((psF (fun j => msf K j * (K 4 j - h0 j)) i) + ((msf K i) * (K 4 i - h0 i))))), (16, .int (iI 1)), (0, .ref (r 0)), (1, .int (iI f)), (2, .int (iI v)), (3, .ref a1), (4, .ref a2), (5, .int (iI hd)), (6, .long (lI inn)), (8, .long (lI (g0 + psF (fun j => (K 4 j - h0 j) * K 3 j) i))), (10, .int (iI ris)), (13, .int (iI rop)), (15, .int (iI (psF (fun j => i1 (0 < K 4 j - h0 j)) i))), (17, .int (iI ((i : Int))))]) C dL_hauled_230 (by decide) rfl ?_
      refine j_iload C 12 dL_hauled_232 rfl ?_
      refine j_aload_n C 5 dL_hauled_234 rfl rfl ?_
      refine j_iload C 13 dL_hauled_235 rfl ?_
      refine j_iald (n := 4) (f := cpy 4 (fun j => K 4 j - h0 j) (fun _ => 0)) C 1 i rfl rfl (by omega) (by decide) dL_hauled_237 ?_
      refine J.to (L1 := [(14, .int (iI ((psF (fun j => msf K j * (K 4 j - h0 j)) i) + ((msf K i) * (K 4 i - h0 i))))), (16, .int (iI 1)), (0, .ref (r 0)), (1, .int (iI f)), (2, .int (iI v)), (3, .ref a1), (4, .ref a2), (5, .int (iI hd)), (6, .long (lI inn)), (8, .long (lI (g0 + psF (fun j => (K 4 j - h0 j) * K 3 j) i))), (10, .int (iI ris)), (13, .int (iI rop)), (15, .int (iI (psF (fun j => i1 (0 < K 4 j - h0 j)) i))), (17, .int (iI ((i : Int))))]) (S1 := [.int (iI (K 4 i - h0 i)), .int (iI (psF (fun j => i1 (0 < K 4 j - h0 j)) i))]) (ws1 := ([(a2, aI g 4 (cpy 4 h0 (fun _ => 0))), (a1, aI g 4 (cpy 4 (fun j => K 4 j - h0 j) (fun _ => 0)))] ++ (wTp g r qn qt qv K kt kv sc ns tx tn pl))) rfl rfl (congrArg (fun x9 : Int => ([.int (iI x9), .int (iI (psF (fun j => i1 (0 < K 4 j - h0 j)) i))] : List Value)) (show ((cpy 4 (fun j => K 4 j - h0 j) (fun _ => 0)) i : Int) = K 4 i - h0 i from (cpy_lt hi4))) ?_
      refine j_if_le (tgt := 245) C (by omega) dL_hauled_238 (by decide) (fun c238 => ?_) (fun c238 => ?_)
      · refine j_iconst C dL_hauled_245 ?_
        refine j_iadd C dL_hauled_246 ?_
        refine J.to (L1 := [(14, .int (iI ((psF (fun j => msf K j * (K 4 j - h0 j)) i) + ((msf K i) * (K 4 i - h0 i))))), (16, .int (iI 1)), (0, .ref (r 0)), (1, .int (iI f)), (2, .int (iI v)), (3, .ref a1), (4, .ref a2), (5, .int (iI hd)), (6, .long (lI inn)), (8, .long (lI (g0 + psF (fun j => (K 4 j - h0 j) * K 3 j) i))), (10, .int (iI ris)), (13, .int (iI rop)), (15, .int (iI (psF (fun j => i1 (0 < K 4 j - h0 j)) i))), (17, .int (iI ((i : Int))))]) (S1 := [.int (iI (psF (fun j => i1 (0 < K 4 j - h0 j)) (i + 1)))]) (ws1 := ([(a2, aI g 4 (cpy 4 h0 (fun _ => 0))), (a1, aI g 4 (cpy 4 (fun j => K 4 j - h0 j) (fun _ => 0)))] ++ (wTp g r qn qt qv K kt kv sc ns tx tn pl))) rfl rfl (congrArg (fun x9 : Int => ([.int (iI x9)] : List Value)) (show ((psF (fun j => i1 (0 < K 4 j - h0 j)) i) + 0 : Int) = psF (fun j => i1 (0 < K 4 j - h0 j)) (i + 1) from (by rw [psF]; show _ = _ + i1 (0 < K 4 i - h0 i); rw [i1_f (by omega)]))) ?_
        refine j_istore (L1 := [(15, .int (iI (psF (fun j => i1 (0 < K 4 j - h0 j)) (i + 1)))), (14, .int (iI ((psF (fun j => msf K j * (K 4 j - h0 j)) i) + ((msf K i) * (K 4 i - h0 i))))), (16, .int (iI 1)), (0, .ref (r 0)), (1, .int (iI f)), (2, .int (iI v)), (3, .ref a1), (4, .ref a2), (5, .int (iI hd)), (6, .long (lI inn)), (8, .long (lI (g0 + psF (fun j => (K 4 j - h0 j) * K 3 j) i))), (10, .int (iI ris)), (13, .int (iI rop)), (17, .int (iI ((i : Int))))]) C dL_hauled_247 (by decide) rfl ?_
        refine j_lload C 10 dL_hauled_249 rfl ?_
        refine j_aload_n C 6 dL_hauled_251 rfl rfl ?_
        refine j_iload C 13 dL_hauled_252 rfl ?_
        refine j_iald (n := 4) (f := cpy 4 (fun j => K 4 j - h0 j) (fun _ => 0)) C 1 i rfl rfl (by omega) (by decide) dL_hauled_254 ?_
        refine J.to (L1 := [(15, .int (iI (psF (fun j => i1 (0 < K 4 j - h0 j)) (i + 1)))), (14, .int (iI ((psF (fun j => msf K j * (K 4 j - h0 j)) i) + ((msf K i) * (K 4 i - h0 i))))), (16, .int (iI 1)), (0, .ref (r 0)), (1, .int (iI f)), (2, .int (iI v)), (3, .ref a1), (4, .ref a2), (5, .int (iI hd)), (6, .long (lI inn)), (8, .long (lI (g0 + psF (fun j => (K 4 j - h0 j) * K 3 j) i))), (10, .int (iI ris)), (13, .int (iI rop)), (17, .int (iI ((i : Int))))]) (S1 := [.int (iI (K 4 i - h0 i)), .long (lI (g0 + psF (fun j => (K 4 j - h0 j) * K 3 j) i))]) (ws1 := ([(a2, aI g 4 (cpy 4 h0 (fun _ => 0))), (a1, aI g 4 (cpy 4 (fun j => K 4 j - h0 j) (fun _ => 0)))] ++ (wTp g r qn qt qv K kt kv sc ns tx tn pl))) rfl rfl (congrArg (fun x9 : Int => ([.int (iI x9), .long (lI (g0 + psF (fun j => (K 4 j - h0 j) * K 3 j) i))] : List Value)) (show ((cpy 4 (fun j => K 4 j - h0 j) (fun _ => 0)) i : Int) = K 4 i - h0 i from (cpy_lt hi4))) ?_
        refine j_i2l C (by omega) dL_hauled_255 ?_
        refine j_aload_n C 3 dL_hauled_256 rfl rfl ?_
        refine j_iload C 13 dL_hauled_257 rfl ?_
        refine j_iconst C dL_hauled_259 ?_
        refine j_callSW (As := [.ref (r 0), .int (iI ((i : Int))), .int (iI 0)]) (rest := [.long (lI (K 4 i - h0 i)), .long (lI (g0 + psF (fun j => (K 4 j - h0 j) * K 3 j) i))]) C yw_L_block qw456 (w_block l g r qn qt qv K kt kv sc ns tx tn pl (i : Int) 0 hTK (by omega) (by omega)) (by decide) rfl dL_hauled_260 rfl (Nat.le_of_ble_eq_true rfl) (by decide) (pfL [(a2, aI g 4 (cpy 4 h0 (fun _ => 0))), (a1, aI g 4 (cpy 4 (fun j => K 4 j - h0 j) (fun _ => 0)))]) rfl (fun r9 w9 hq9 => ?_)
        obtain ⟨rfl, rfl⟩ := hq9
        refine J.to (L1 := [(15, .int (iI (psF (fun j => i1 (0 < K 4 j - h0 j)) (i + 1)))), (14, .int (iI ((psF (fun j => msf K j * (K 4 j - h0 j)) i) + ((msf K i) * (K 4 i - h0 i))))), (16, .int (iI 1)), (0, .ref (r 0)), (1, .int (iI f)), (2, .int (iI v)), (3, .ref a1), (4, .ref a2), (5, .int (iI hd)), (6, .long (lI inn)), (8, .long (lI (g0 + psF (fun j => (K 4 j - h0 j) * K 3 j) i))), (10, .int (iI ris)), (13, .int (iI rop)), (17, .int (iI ((i : Int))))]) (S1 := [.int (iI (K 3 i)), .long (lI (K 4 i - h0 i)), .long (lI (g0 + psF (fun j => (K 4 j - h0 j) * K 3 j) i))]) (ws1 := ([(a2, aI g 4 (cpy 4 h0 (fun _ => 0))), (a1, aI g 4 (cpy 4 (fun j => K 4 j - h0 j) (fun _ => 0)))] ++ (wTp g r qn qt qv K kt kv sc ns tx tn pl))) rfl rfl rfl ?_
        refine j_i2l C (by omega) dL_hauled_263 ?_
        refine j_lmul C dL_hauled_264 ?_
        refine j_ladd C dL_hauled_265 ?_
        refine J.to (L1 := [(15, .int (iI (psF (fun j => i1 (0 < K 4 j - h0 j)) (i + 1)))), (14, .int (iI ((psF (fun j => msf K j * (K 4 j - h0 j)) i) + ((msf K i) * (K 4 i - h0 i))))), (16, .int (iI 1)), (0, .ref (r 0)), (1, .int (iI f)), (2, .int (iI v)), (3, .ref a1), (4, .ref a2), (5, .int (iI hd)), (6, .long (lI inn)), (8, .long (lI (g0 + psF (fun j => (K 4 j - h0 j) * K 3 j) i))), (10, .int (iI ris)), (13, .int (iI rop)), (17, .int (iI ((i : Int))))]) (S1 := [.long (lI (g0 + psF (fun j => (K 4 j - h0 j) * K 3 j) (i + 1)))]) (ws1 := ([(a2, aI g 4 (cpy 4 h0 (fun _ => 0))), (a1, aI g 4 (cpy 4 (fun j => K 4 j - h0 j) (fun _ => 0)))] ++ (wTp g r qn qt qv K kt kv sc ns tx tn pl))) rfl rfl (congrArg (fun x9 : Int => ([.long (lI x9)] : List Value)) (show ((g0 + psF (fun j => (K 4 j - h0 j) * K 3 j) i) + ((K 4 i - h0 i) * (K 3 i)) : Int) = g0 + psF (fun j => (K 4 j - h0 j) * K 3 j) (i + 1) from (Int.add_assoc _ _ _))) ?_
        refine j_lstore (L1 := [(8, .long (lI (g0 + psF (fun j => (K 4 j - h0 j) * K 3 j) (i + 1)))), (15, .int (iI (psF (fun j => i1 (0 < K 4 j - h0 j)) (i + 1)))), (14, .int (iI ((psF (fun j => msf K j * (K 4 j - h0 j)) i) + ((msf K i) * (K 4 i - h0 i))))), (16, .int (iI 1)), (0, .ref (r 0)), (1, .int (iI f)), (2, .int (iI v)), (3, .ref a1), (4, .ref a2), (5, .int (iI hd)), (6, .long (lI inn)), (10, .int (iI ris)), (13, .int (iI rop)), (17, .int (iI ((i : Int))))]) C dL_hauled_266 (by decide) rfl ?_
        refine j_iinc (L1 := [(17, .int (iI (((i : Int)) + 1))), (8, .long (lI (g0 + psF (fun j => (K 4 j - h0 j) * K 3 j) (i + 1)))), (15, .int (iI (psF (fun j => i1 (0 < K 4 j - h0 j)) (i + 1)))), (14, .int (iI ((psF (fun j => msf K j * (K 4 j - h0 j)) i) + ((msf K i) * (K 4 i - h0 i))))), (16, .int (iI 1)), (0, .ref (r 0)), (1, .int (iI f)), (2, .int (iI v)), (3, .ref a1), (4, .ref a2), (5, .int (iI hd)), (6, .long (lI inn)), (10, .int (iI ris)), (13, .int (iI rop))]) C 13 dL_hauled_268 rfl (by decide) rfl ?_
        refine j_goto (tgt := 152) C dL_hauled_271 (by decide) ?_
        refine J.sub (L1 := [(0, .ref (r 0)), (1, .int (iI f)), (2, .int (iI v)), (3, .ref a1), (4, .ref a2), (5, .int (iI hd)), (6, .long (lI inn)), (8, .long (lI (g0 + psF (fun j => (K 4 j - h0 j) * K 3 j) (i + 1)))), (10, .int (iI ris)), (13, .int (iI rop)), (14, .int (iI ((psF (fun j => msf K j * (K 4 j - h0 j)) i) + ((msf K i) * (K 4 i - h0 i))))), (15, .int (iI (psF (fun j => i1 (0 < K 4 j - h0 j)) (i + 1)))), (16, .int (iI 1)), (17, .int (iI (((i : Int)) + 1)))]) [5, 6, 7, 8, 9, 10, 11, 1, 12, 13, 3, 2, 4, 0] rfl ?_
        exact ih (i + 1) (by omega)
      · refine j_iconst C dL_hauled_241 ?_
        refine j_goto (tgt := 246) C dL_hauled_242 (by decide) ?_
        refine j_iadd C dL_hauled_246 ?_
        refine J.to (L1 := [(14, .int (iI ((psF (fun j => msf K j * (K 4 j - h0 j)) i) + ((msf K i) * (K 4 i - h0 i))))), (16, .int (iI 1)), (0, .ref (r 0)), (1, .int (iI f)), (2, .int (iI v)), (3, .ref a1), (4, .ref a2), (5, .int (iI hd)), (6, .long (lI inn)), (8, .long (lI (g0 + psF (fun j => (K 4 j - h0 j) * K 3 j) i))), (10, .int (iI ris)), (13, .int (iI rop)), (15, .int (iI (psF (fun j => i1 (0 < K 4 j - h0 j)) i))), (17, .int (iI ((i : Int))))]) (S1 := [.int (iI (psF (fun j => i1 (0 < K 4 j - h0 j)) (i + 1)))]) (ws1 := ([(a2, aI g 4 (cpy 4 h0 (fun _ => 0))), (a1, aI g 4 (cpy 4 (fun j => K 4 j - h0 j) (fun _ => 0)))] ++ (wTp g r qn qt qv K kt kv sc ns tx tn pl))) rfl rfl (congrArg (fun x9 : Int => ([.int (iI x9)] : List Value)) (show ((psF (fun j => i1 (0 < K 4 j - h0 j)) i) + 1 : Int) = psF (fun j => i1 (0 < K 4 j - h0 j)) (i + 1) from (by rw [psF]; show _ = _ + i1 (0 < K 4 i - h0 i); rw [i1_t (by omega)]))) ?_
        refine j_istore (L1 := [(15, .int (iI (psF (fun j => i1 (0 < K 4 j - h0 j)) (i + 1)))), (14, .int (iI ((psF (fun j => msf K j * (K 4 j - h0 j)) i) + ((msf K i) * (K 4 i - h0 i))))), (16, .int (iI 1)), (0, .ref (r 0)), (1, .int (iI f)), (2, .int (iI v)), (3, .ref a1), (4, .ref a2), (5, .int (iI hd)), (6, .long (lI inn)), (8, .long (lI (g0 + psF (fun j => (K 4 j - h0 j) * K 3 j) i))), (10, .int (iI ris)), (13, .int (iI rop)), (17, .int (iI ((i : Int))))]) C dL_hauled_247 (by decide) rfl ?_
        refine j_lload C 10 dL_hauled_249 rfl ?_
        refine j_aload_n C 6 dL_hauled_251 rfl rfl ?_
        refine j_iload C 13 dL_hauled_252 rfl ?_
        refine j_iald (n := 4) (f := cpy 4 (fun j => K 4 j - h0 j) (fun _ => 0)) C 1 i rfl rfl (by omega) (by decide) dL_hauled_254 ?_
        refine J.to (L1 := [(15, .int (iI (psF (fun j => i1 (0 < K 4 j - h0 j)) (i + 1)))), (14, .int (iI ((psF (fun j => msf K j * (K 4 j - h0 j)) i) + ((msf K i) * (K 4 i - h0 i))))), (16, .int (iI 1)), (0, .ref (r 0)), (1, .int (iI f)), (2, .int (iI v)), (3, .ref a1), (4, .ref a2), (5, .int (iI hd)), (6, .long (lI inn)), (8, .long (lI (g0 + psF (fun j => (K 4 j - h0 j) * K 3 j) i))), (10, .int (iI ris)), (13, .int (iI rop)), (17, .int (iI ((i : Int))))]) (S1 := [.int (iI (K 4 i - h0 i)), .long (lI (g0 + psF (fun j => (K 4 j - h0 j) * K 3 j) i))]) (ws1 := ([(a2, aI g 4 (cpy 4 h0 (fun _ => 0))), (a1, aI g 4 (cpy 4 (fun j => K 4 j - h0 j) (fun _ => 0)))] ++ (wTp g r qn qt qv K kt kv sc ns tx tn pl))) rfl rfl (congrArg (fun x9 : Int => ([.int (iI x9), .long (lI (g0 + psF (fun j => (K 4 j - h0 j) * K 3 j) i))] : List Value)) (show ((cpy 4 (fun j => K 4 j - h0 j) (fun _ => 0)) i : Int) = K 4 i - h0 i from (cpy_lt hi4))) ?_
        refine j_i2l C (by omega) dL_hauled_255 ?_
        refine j_aload_n C 3 dL_hauled_256 rfl rfl ?_
        refine j_iload C 13 dL_hauled_257 rfl ?_
        refine j_iconst C dL_hauled_259 ?_
        refine j_callSW (As := [.ref (r 0), .int (iI ((i : Int))), .int (iI 0)]) (rest := [.long (lI (K 4 i - h0 i)), .long (lI (g0 + psF (fun j => (K 4 j - h0 j) * K 3 j) i))]) C yw_L_block qw456 (w_block l g r qn qt qv K kt kv sc ns tx tn pl (i : Int) 0 hTK (by omega) (by omega)) (by decide) rfl dL_hauled_260 rfl (Nat.le_of_ble_eq_true rfl) (by decide) (pfL [(a2, aI g 4 (cpy 4 h0 (fun _ => 0))), (a1, aI g 4 (cpy 4 (fun j => K 4 j - h0 j) (fun _ => 0)))]) rfl (fun r9 w9 hq9 => ?_)
        obtain ⟨rfl, rfl⟩ := hq9
        refine J.to (L1 := [(15, .int (iI (psF (fun j => i1 (0 < K 4 j - h0 j)) (i + 1)))), (14, .int (iI ((psF (fun j => msf K j * (K 4 j - h0 j)) i) + ((msf K i) * (K 4 i - h0 i))))), (16, .int (iI 1)), (0, .ref (r 0)), (1, .int (iI f)), (2, .int (iI v)), (3, .ref a1), (4, .ref a2), (5, .int (iI hd)), (6, .long (lI inn)), (8, .long (lI (g0 + psF (fun j => (K 4 j - h0 j) * K 3 j) i))), (10, .int (iI ris)), (13, .int (iI rop)), (17, .int (iI ((i : Int))))]) (S1 := [.int (iI (K 3 i)), .long (lI (K 4 i - h0 i)), .long (lI (g0 + psF (fun j => (K 4 j - h0 j) * K 3 j) i))]) (ws1 := ([(a2, aI g 4 (cpy 4 h0 (fun _ => 0))), (a1, aI g 4 (cpy 4 (fun j => K 4 j - h0 j) (fun _ => 0)))] ++ (wTp g r qn qt qv K kt kv sc ns tx tn pl))) rfl rfl rfl ?_
        refine j_i2l C (by omega) dL_hauled_263 ?_
        refine j_lmul C dL_hauled_264 ?_
        refine j_ladd C dL_hauled_265 ?_
        refine J.to (L1 := [(15, .int (iI (psF (fun j => i1 (0 < K 4 j - h0 j)) (i + 1)))), (14, .int (iI ((psF (fun j => msf K j * (K 4 j - h0 j)) i) + ((msf K i) * (K 4 i - h0 i))))), (16, .int (iI 1)), (0, .ref (r 0)), (1, .int (iI f)), (2, .int (iI v)), (3, .ref a1), (4, .ref a2), (5, .int (iI hd)), (6, .long (lI inn)), (8, .long (lI (g0 + psF (fun j => (K 4 j - h0 j) * K 3 j) i))), (10, .int (iI ris)), (13, .int (iI rop)), (17, .int (iI ((i : Int))))]) (S1 := [.long (lI (g0 + psF (fun j => (K 4 j - h0 j) * K 3 j) (i + 1)))]) (ws1 := ([(a2, aI g 4 (cpy 4 h0 (fun _ => 0))), (a1, aI g 4 (cpy 4 (fun j => K 4 j - h0 j) (fun _ => 0)))] ++ (wTp g r qn qt qv K kt kv sc ns tx tn pl))) rfl rfl (congrArg (fun x9 : Int => ([.long (lI x9)] : List Value)) (show ((g0 + psF (fun j => (K 4 j - h0 j) * K 3 j) i) + ((K 4 i - h0 i) * (K 3 i)) : Int) = g0 + psF (fun j => (K 4 j - h0 j) * K 3 j) (i + 1) from (Int.add_assoc _ _ _))) ?_
        refine j_lstore (L1 := [(8, .long (lI (g0 + psF (fun j => (K 4 j - h0 j) * K 3 j) (i + 1)))), (15, .int (iI (psF (fun j => i1 (0 < K 4 j - h0 j)) (i + 1)))), (14, .int (iI ((psF (fun j => msf K j * (K 4 j - h0 j)) i) + ((msf K i) * (K 4 i - h0 i))))), (16, .int (iI 1)), (0, .ref (r 0)), (1, .int (iI f)), (2, .int (iI v)), (3, .ref a1), (4, .ref a2), (5, .int (iI hd)), (6, .long (lI inn)), (10, .int (iI ris)), (13, .int (iI rop)), (17, .int (iI ((i : Int))))]) C dL_hauled_266 (by decide) rfl ?_
        refine j_iinc (L1 := [(17, .int (iI (((i : Int)) + 1))), (8, .long (lI (g0 + psF (fun j => (K 4 j - h0 j) * K 3 j) (i + 1)))), (15, .int (iI (psF (fun j => i1 (0 < K 4 j - h0 j)) (i + 1)))), (14, .int (iI ((psF (fun j => msf K j * (K 4 j - h0 j)) i) + ((msf K i) * (K 4 i - h0 i))))), (16, .int (iI 1)), (0, .ref (r 0)), (1, .int (iI f)), (2, .int (iI v)), (3, .ref a1), (4, .ref a2), (5, .int (iI hd)), (6, .long (lI inn)), (10, .int (iI ris)), (13, .int (iI rop))]) C 13 dL_hauled_268 rfl (by decide) rfl ?_
        refine j_goto (tgt := 152) C dL_hauled_271 (by decide) ?_
        refine J.sub (L1 := [(0, .ref (r 0)), (1, .int (iI f)), (2, .int (iI v)), (3, .ref a1), (4, .ref a2), (5, .int (iI hd)), (6, .long (lI inn)), (8, .long (lI (g0 + psF (fun j => (K 4 j - h0 j) * K 3 j) (i + 1)))), (10, .int (iI ris)), (13, .int (iI rop)), (14, .int (iI ((psF (fun j => msf K j * (K 4 j - h0 j)) i) + ((msf K i) * (K 4 i - h0 i))))), (15, .int (iI (psF (fun j => i1 (0 < K 4 j - h0 j)) (i + 1)))), (16, .int (iI 1)), (17, .int (iI (((i : Int)) + 1)))]) [5, 6, 7, 8, 9, 10, 11, 1, 12, 13, 3, 2, 4, 0] rfl ?_
        exact ih (i + 1) (by omega)
    refine j_aload_n C 3 dL_hauled_190 rfl rfl ?_
    refine j_iload C 13 dL_hauled_191 rfl ?_
    refine j_iald (n := 4) (f := cpy 4 (fun j => K 4 j - h0 j) (fun _ => 0)) C 1 i rfl rfl (by omega) (by decide) dL_hauled_193 ?_
    refine J.to (L1 := [(0, .ref (r 0)), (1, .int (iI f)), (2, .int (iI v)), (3, .ref a1), (4, .ref a2), (5, .int (iI hd)), (6, .long (lI inn)), (8, .long (lI (g0 + psF (fun j => (K 4 j - h0 j) * K 3 j) i))), (10, .int (iI ris)), (13, .int (iI rop)), (14, .int (iI (psF (fun j => msf K j * (K 4 j - h0 j)) i))), (15, .int (iI (psF (fun j => i1 (0 < K 4 j - h0 j)) i))), (16, .int (iI 1)), (17, .int (iI ((i : Int))))]) (S1 := [.int (iI (K 4 i - h0 i))]) (ws1 := ([(a2, aI g 4 (cpy 4 h0 (fun _ => 0))), (a1, aI g 4 (cpy 4 (fun j => K 4 j - h0 j) (fun _ => 0)))] ++ (wTp g r qn qt qv K kt kv sc ns tx tn pl))) rfl rfl (congrArg (fun x9 : Int => ([.int (iI x9)] : List Value)) (show ((cpy 4 (fun j => K 4 j - h0 j) (fun _ => 0)) i : Int) = K 4 i - h0 i from (cpy_lt hi4))) ?_
    refine j_if_eq (tgt := 208) C (by omega) dL_hauled_194 (by decide) (fun c194 => ?_) (fun c194 => ?_)
    · refine J.sub (L1 := [(0, .ref (r 0)), (1, .int (iI f)), (2, .int (iI v)), (3, .ref a1), (4, .ref a2), (5, .int (iI hd)), (6, .long (lI inn)), (8, .long (lI (g0 + psF (fun j => (K 4 j - h0 j) * K 3 j) i))), (10, .int (iI ris)), (13, .int (iI rop)), (14, .int (iI (psF (fun j => msf K j * (K 4 j - h0 j)) i))), (15, .int (iI (psF (fun j => i1 (0 < K 4 j - h0 j)) i))), (16, .int (iI 1)), (17, .int (iI ((i : Int))))]) [0, 1, 2, 3, 4, 5, 6, 7, 8, 9, 10, 11, 12, 13] rfl ?_
      exact kj208_0
    · refine j_aload_n C 0 dL_hauled_197 rfl rfl ?_
      refine j_iload C 13 dL_hauled_198 rfl ?_
      refine j_iconst C dL_hauled_200 ?_
      refine j_callSW (As := [.ref (r 0), .int (iI ((i : Int))), .int (iI 4)]) (rest := []) C yw_L_block qw456 (w_block l g r qn qt qv K kt kv sc ns tx tn pl (i : Int) 4 hTK (by omega) (by omega)) (by decide) rfl dL_hauled_201 rfl (Nat.le_of_ble_eq_true rfl) (by decide) (pfL [(a2, aI g 4 (cpy 4 h0 (fun _ => 0))), (a1, aI g 4 (cpy 4 (fun j => K 4 j - h0 j) (fun _ => 0)))]) rfl (fun r9 w9 hq9 => ?_)
      obtain ⟨rfl, rfl⟩ := hq9
      refine J.to (L1 := [(0, .ref (r 0)), (1, .int (iI f)), (2, .int (iI v)), (3, .ref a1), (4, .ref a2), (5, .int (iI hd)), (6, .long (lI inn)), (8, .long (lI (g0 + psF (fun j => (K 4 j - h0 j) * K 3 j) i))), (10, .int (iI ris)), (13, .int (iI rop)), (14, .int (iI (psF (fun j => msf K j * (K 4 j - h0 j)) i))), (15, .int (iI (psF (fun j => i1 (0 < K 4 j - h0 j)) i))), (16, .int (iI 1)), (17, .int (iI ((i : Int))))]) (S1 := [.int (iI (lef K true i))]) (ws1 := ([(a2, aI g 4 (cpy 4 h0 (fun _ => 0))), (a1, aI g 4 (cpy 4 (fun j => K 4 j - h0 j) (fun _ => 0)))] ++ (wTp g r qn qt qv K kt kv sc ns tx tn pl))) rfl rfl rfl ?_
      refine j_iload_n C 1 dL_hauled_204 rfl rfl ?_
      refine j_icmp_gt (tgt := 212) C (by omega) (by omega) dL_hauled_205 (by decide) (fun c205 => absurd c205 (by omega)) (fun c205 => ?_)
      refine J.sub (L1 := [(0, .ref (r 0)), (1, .int (iI f)), (2, .int (iI v)), (3, .ref a1), (4, .ref a2), (5, .int (iI hd)), (6, .long (lI inn)), (8, .long (lI (g0 + psF (fun j => (K 4 j - h0 j) * K 3 j) i))), (10, .int (iI ris)), (13, .int (iI rop)), (14, .int (iI (psF (fun j => msf K j * (K 4 j - h0 j)) i))), (15, .int (iI (psF (fun j => i1 (0 < K 4 j - h0 j)) i))), (16, .int (iI 1)), (17, .int (iI ((i : Int))))]) [0, 1, 2, 3, 4, 5, 6, 7, 8, 9, 10, 11, 12, 13] rfl ?_
      exact kj208_0

set_option maxRecDepth 100000 in
set_option maxHeartbeats 4000000 in
theorem c_L_hauled (l : Launch) (hl : l.stackTraces = false) (g : Gh) (r : Nat → Nat) (qn qt : Nat → Nat) (qv : Nat → Nat → Nat) (kn kt : Nat → Nat → Int) (kv : Nat → Nat → Nat → Int) (sc : Int) (ns : Nat) (tx : Nat → Int) (tn : Nat) (pl : Int) (n : Nat) (hI : IV n kn kv sc ns tx tn) (f v : Int) (hf : 0 ≤ f ∧ f ≤ 1000000) (hv : 0 ≤ v ∧ v ≤ 100000) : CT l g yL_hauled cL_hauled 18 (some FieldType.boolean) ({ frames := 9, cells := 2, slots := 8, locals := 196 }) [.ref (r 0), .int (iI f), .int (iI v)] (wTp g r qn qt qv kn kt kv sc ns tx tn pl) (AP g r qn qt qv (n + 1)) := by
  refine CT.intro (L0 := [(0, .ref (r 0)), (1, .int (iI f)), (2, .int (iI v))]) (own := RL) (by decide) rfl (Nat.le_of_ble_eq_true rfl) rfl ?_
  intro pX eX sX mX argsX belowX methX cX A C hr hlk
  have hT := hI.1
  obtain ⟨hP, hE, hF, hrow, hwt, hht, hlen, hlat, hkept⟩ := id hT.1.1
  have hk := hT.1.1
  have hh0 := hT.1.2
  have hhl := hnd_le hk
  have hT1 : TOK (rck kn true) kv sc ns tx tn := hT
  have hHF : HF kn (KU kn f v) f v (RU kn f v) := HF_mup (k := rck kn true) hk hh0 hf hv.1
  obtain ⟨hr1, hr2, hr3, hr4, hr5, hr6, hr7, hr8⟩ := hHF
  have hI2 : IV (n + 1) (KU kn f v) (svk (rck kn true) kv ns) (svs sc) (svn ns) tx tn := (hI.same (KE_rck kn true).sy).up hf hv
  have hI3 : IV (n + 1) (rck (KU kn f v) true) (svk (rck kn true) kv ns) (svs sc) (svn ns) tx tn := hI2.same (KE_rck _ true).sy
  have hT3 := hI3.1
  refine j_iconst C dL_hauled_0 ?_
  refine j_newI (N' := 4) C rfl (by decide) dL_hauled_1 (Nat.le_of_ble_eq_true rfl) (Nat.le_of_ble_eq_true rfl) (fun z1 => ?_)
  refine J.perm (w1 := ([(z1, aI g 4 (fun _ => 0))] ++ (wTp g r qn qt qv kn kt kv sc ns tx tn pl))) List.perm_append_comm ?_
  refine j_astore_n (L1 := [(3, .ref z1), (0, .ref (r 0)), (1, .int (iI f)), (2, .int (iI v))]) C dL_hauled_3 rfl (by decide) rfl ?_
  refine j_iconst C dL_hauled_4 ?_
  refine j_newI (N' := 4) C rfl (by decide) dL_hauled_5 (Nat.le_of_ble_eq_true rfl) (Nat.le_of_ble_eq_true rfl) (fun z2 => ?_)
  refine J.perm (w1 := ([(z2, aI g 4 (fun _ => 0)), (z1, aI g 4 (fun _ => 0))] ++ (wTp g r qn qt qv kn kt kv sc ns tx tn pl))) List.perm_append_comm ?_
  refine j_astore (L1 := [(4, .ref z2), (3, .ref z1), (0, .ref (r 0)), (1, .int (iI f)), (2, .int (iI v))]) C dL_hauled_7 (by decide) rfl ?_
  refine j_iconst C dL_hauled_9 ?_
  refine j_istore (L1 := [(5, .int (iI 0)), (4, .ref z2), (3, .ref z1), (0, .ref (r 0)), (1, .int (iI f)), (2, .int (iI v))]) C dL_hauled_10 (by decide) rfl ?_
  refine J.sub (L1 := [(0, .ref (r 0)), (1, .int (iI f)), (2, .int (iI v)), (3, .ref z1), (4, .ref z2), (5, .int (iI 0))]) [3, 4, 5, 2, 1, 0] rfl ?_
  refine J.to (L1 := [(0, .ref (r 0)), (1, .int (iI f)), (2, .int (iI v)), (3, .ref z1), (4, .ref z2), (5, .int (iI (((0 : Nat) : Int))))]) (S1 := []) (ws1 := ([(z2, aI g 4 (cpy 0 (kn 4) (fun _ => 0))), (z1, aI g 4 (cpy 0 (fun j => KU kn f v 4 j - kn 4 j) (fun _ => 0)))] ++ (wTp g r qn qt qv kn kt kv sc ns tx tn pl))) rfl rfl rfl ?_
  refine lp_haul1 C hl hT hf hv (fun kt1 => ?_) 4 0 rfl kt
  refine j_aload_n C 0 dL_hauled_48 rfl rfl ?_
  refine j_iconst C dL_hauled_49 ?_
  refine j_callSW (As := [.ref (r 0), .int (iI 1)]) (rest := []) C yw_L_value qw443 (w_value l g r qn qt qv kn kt1 kv sc ns tx tn pl 1 hT (by omega)) (by decide) rfl dL_hauled_50 rfl (Nat.le_of_ble_eq_true rfl) (by decide) (pfL [(z2, aI g 4 (cpy 4 (kn 4) (fun _ => 0))), (z1, aI g 4 (cpy 4 (fun j => KU kn f v 4 j - kn 4 j) (fun _ => 0)))]) rfl (fun r9 w9 hq9 => ?_)
  obtain ⟨rfl, rfl⟩ := hq9
  refine J.to (L1 := [(0, .ref (r 0)), (1, .int (iI f)), (2, .int (iI v)), (3, .ref z1), (4, .ref z2)]) (S1 := [.int (iI (hnd kn))]) (ws1 := ([(z2, aI g 4 (cpy 4 (kn 4) (fun _ => 0))), (z1, aI g 4 (cpy 4 (fun j => KU kn f v 4 j - kn 4 j) (fun _ => 0)))] ++ (wTp g r qn qt qv kn kt1 kv sc ns tx tn pl))) rfl rfl rfl ?_
  refine j_istore (L1 := [(5, .int (iI (hnd kn))), (0, .ref (r 0)), (1, .int (iI f)), (2, .int (iI v)), (3, .ref z1), (4, .ref z2)]) C dL_hauled_53 (by decide) rfl ?_
  refine j_aload_n C 1 dL_hauled_55 rfl rfl ?_
  refine j_iconst C dL_hauled_56 ?_
  refine j_callV (As := [.int (iI 0)]) (rest := []) C yv_X4_work qw494 (c_X4_work l g r qn qt qv kn kt1 kv sc ns tx tn pl false hT) (by decide) 2 rfl rfl rfl dL_hauled_57 rfl (Nat.le_of_ble_eq_true rfl) (by decide) (pfL [(z2, aI g 4 (cpy 4 (kn 4) (fun _ => 0))), (z1, aI g 4 (cpy 4 (fun j => KU kn f v 4 j - kn 4 j) (fun _ => 0)))]) rfl (fun r9 w9 hq9 => ?_)
  obtain ⟨rfl, rfl⟩ := hq9
  refine J.to (L1 := [(5, .int (iI (hnd kn))), (0, .ref (r 0)), (1, .int (iI f)), (2, .int (iI v)), (3, .ref z1), (4, .ref z2)]) (S1 := [.long (lI (kn 0 7))]) (ws1 := ([(z2, aI g 4 (cpy 4 (kn 4) (fun _ => 0))), (z1, aI g 4 (cpy 4 (fun j => KU kn f v 4 j - kn 4 j) (fun _ => 0)))] ++ (wTp g r qn qt qv kn kt1 kv sc ns tx tn pl))) rfl rfl rfl ?_
  refine j_lstore (L1 := [(6, .long (lI (kn 0 7))), (5, .int (iI (hnd kn))), (0, .ref (r 0)), (1, .int (iI f)), (2, .int (iI v)), (3, .ref z1), (4, .ref z2)]) C dL_hauled_60 (by decide) rfl ?_
  refine j_aload_n C 2 dL_hauled_62 rfl rfl ?_
  refine j_iconst C dL_hauled_63 ?_
  refine j_callV (As := [.int (iI 1)]) (rest := []) C yv_X4_work qw494 (c_X4_work l g r qn qt qv kn kt1 kv sc ns tx tn pl true hT) (by decide) 2 rfl rfl rfl dL_hauled_64 rfl (Nat.le_of_ble_eq_true rfl) (by decide) (pfL [(z2, aI g 4 (cpy 4 (kn 4) (fun _ => 0))), (z1, aI g 4 (cpy 4 (fun j => KU kn f v 4 j - kn 4 j) (fun _ => 0)))]) rfl (fun r9 w9 hq9 => ?_)
  obtain ⟨rfl, rfl⟩ := hq9
  refine J.to (L1 := [(6, .long (lI (kn 0 7))), (5, .int (iI (hnd kn))), (0, .ref (r 0)), (1, .int (iI f)), (2, .int (iI v)), (3, .ref z1), (4, .ref z2)]) (S1 := [.long (lI (kn 0 8))]) (ws1 := ([(z2, aI g 4 (cpy 4 (kn 4) (fun _ => 0))), (z1, aI g 4 (cpy 4 (fun j => KU kn f v 4 j - kn 4 j) (fun _ => 0)))] ++ (wTp g r qn qt qv kn kt1 kv sc ns tx tn pl))) rfl rfl rfl ?_
  refine J.to (L1 := [(6, .long (lI (kn 0 7))), (5, .int (iI (hnd kn))), (0, .ref (r 0)), (1, .int (iI f)), (2, .int (iI v)), (3, .ref z1), (4, .ref z2)]) (S1 := [.long (lI (kn 0 8 + psF (fun j => (KU kn f v 4 j - kn 4 j) * KU kn f v 3 j) 0))]) (ws1 := ([(z2, aI g 4 (cpy 4 (kn 4) (fun _ => 0))), (z1, aI g 4 (cpy 4 (fun j => KU kn f v 4 j - kn 4 j) (fun _ => 0)))] ++ (wTp g r qn qt qv kn kt1 kv sc ns tx tn pl))) rfl rfl (congrArg (fun x9 : Int => ([.long (lI x9)] : List Value)) (show (kn 0 8 : Int) = kn 0 8 + psF (fun j => (KU kn f v 4 j - kn 4 j) * KU kn f v 3 j) 0 from (Int.add_zero _).symm)) ?_
  refine j_lstore (L1 := [(8, .long (lI (kn 0 8 + psF (fun j => (KU kn f v 4 j - kn 4 j) * KU kn f v 3 j) 0))), (6, .long (lI (kn 0 7))), (5, .int (iI (hnd kn))), (0, .ref (r 0)), (1, .int (iI f)), (2, .int (iI v)), (3, .ref z1), (4, .ref z2)]) C dL_hauled_67 (by decide) rfl ?_
  refine j_aload_n C 3 dL_hauled_69 rfl rfl ?_
  refine j_bipush C dL_hauled_70 (by decide) ?_
  refine j_callSW (As := [.ref (r 0), .int (iI 7)]) (rest := []) C yw_L_value qw443 (w_value l g r qn qt qv kn kt1 kv sc ns tx tn pl 7 hT (by omega)) (by decide) rfl dL_hauled_72 rfl (Nat.le_of_ble_eq_true rfl) (by decide) (pfL [(z2, aI g 4 (cpy 4 (kn 4) (fun _ => 0))), (z1, aI g 4 (cpy 4 (fun j => KU kn f v 4 j - kn 4 j) (fun _ => 0)))]) rfl (fun r9 w9 hq9 => ?_)
  obtain ⟨rfl, rfl⟩ := hq9
  refine J.to (L1 := [(8, .long (lI (kn 0 8 + psF (fun j => (KU kn f v 4 j - kn 4 j) * KU kn f v 3 j) 0))), (6, .long (lI (kn 0 7))), (5, .int (iI (hnd kn))), (0, .ref (r 0)), (1, .int (iI f)), (2, .int (iI v)), (3, .ref z1), (4, .ref z2)]) (S1 := [.int (iI (kn 0 4))]) (ws1 := ([(z2, aI g 4 (cpy 4 (kn 4) (fun _ => 0))), (z1, aI g 4 (cpy 4 (fun j => KU kn f v 4 j - kn 4 j) (fun _ => 0)))] ++ (wTp g r qn qt qv kn kt1 kv sc ns tx tn pl))) rfl rfl rfl ?_
  refine j_istore (L1 := [(10, .int (iI (kn 0 4))), (8, .long (lI (kn 0 8 + psF (fun j => (KU kn f v 4 j - kn 4 j) * KU kn f v 3 j) 0))), (6, .long (lI (kn 0 7))), (5, .int (iI (hnd kn))), (0, .ref (r 0)), (1, .int (iI f)), (2, .int (iI v)), (3, .ref z1), (4, .ref z2)]) C dL_hauled_75 (by decide) rfl ?_
  refine j_aload_n C 4 dL_hauled_77 rfl rfl ?_
  have kj142_2 : J pX l eX ({ frames := 9, cells := 2, slots := 8, locals := 196 } : Room) sX mX argsX belowX methX cX g A 18 142 [(15, .int (iI 0)), (14, .int (iI 0)), (13, .int (iI (RU kn f v))), (10, .int (iI (kn 0 4))), (8, .long (lI (kn 0 8 + psF (fun j => (KU kn f v 4 j - kn 4 j) * KU kn f v 3 j) 0))), (6, .long (lI (kn 0 7))), (5, .int (iI (hnd kn))), (0, .ref (r 0)), (1, .int (iI f)), (2, .int (iI v)), (3, .ref z1), (4, .ref z2)] [] ([(z2, aI g 4 (cpy 4 (kn 4) (fun _ => 0))), (z1, aI g 4 (cpy 4 (fun j => KU kn f v 4 j - kn 4 j) (fun _ => 0)))] ++ (wTp g r qn qt qv (KU kn f v) kt1 (svk (rck kn true) kv ns) (svs sc) (svn ns) tx tn pl)) 2 8 (MQ belowX (QE g A (AP g r qn qt qv (n + 1))) argsX sX 2 8 A) := by
    refine j_iconst C dL_hauled_142 ?_
    refine j_goto (tgt := 147) C dL_hauled_143 (by decide) ?_
    refine j_istore (L1 := [(16, .int (iI 1)), (15, .int (iI 0)), (14, .int (iI 0)), (13, .int (iI (RU kn f v))), (10, .int (iI (kn 0 4))), (8, .long (lI (kn 0 8 + psF (fun j => (KU kn f v 4 j - kn 4 j) * KU kn f v 3 j) 0))), (6, .long (lI (kn 0 7))), (5, .int (iI (hnd kn))), (0, .ref (r 0)), (1, .int (iI f)), (2, .int (iI v)), (3, .ref z1), (4, .ref z2)]) C dL_hauled_147 (by decide) rfl ?_
    refine j_iconst C dL_hauled_149 ?_
    refine j_istore (L1 := [(17, .int (iI 0)), (16, .int (iI 1)), (15, .int (iI 0)), (14, .int (iI 0)), (13, .int (iI (RU kn f v))), (10, .int (iI (kn 0 4))), (8, .long (lI (kn 0 8 + psF (fun j => (KU kn f v 4 j - kn 4 j) * KU kn f v 3 j) 0))), (6, .long (lI (kn 0 7))), (5, .int (iI (hnd kn))), (0, .ref (r 0)), (1, .int (iI f)), (2, .int (iI v)), (3, .ref z1), (4, .ref z2)]) C dL_hauled_150 (by decide) rfl ?_
    refine J.sub (L1 := [(0, .ref (r 0)), (1, .int (iI f)), (2, .int (iI v)), (3, .ref z1), (4, .ref z2), (5, .int (iI (hnd kn))), (6, .long (lI (kn 0 7))), (8, .long (lI (kn 0 8 + psF (fun j => (KU kn f v 4 j - kn 4 j) * KU kn f v 3 j) 0))), (10, .int (iI (kn 0 4))), (13, .int (iI (RU kn f v))), (14, .int (iI 0)), (15, .int (iI 0)), (16, .int (iI 1)), (17, .int (iI 0))]) [9, 10, 11, 12, 13, 8, 7, 6, 5, 4, 3, 2, 1, 0] rfl ?_
    refine J.to (L1 := [(0, .ref (r 0)), (1, .int (iI f)), (2, .int (iI v)), (3, .ref z1), (4, .ref z2), (5, .int (iI (hnd kn))), (6, .long (lI (kn 0 7))), (8, .long (lI (kn 0 8 + psF (fun j => (KU kn f v 4 j - kn 4 j) * KU kn f v 3 j) 0))), (10, .int (iI (kn 0 4))), (13, .int (iI (RU kn f v))), (14, .int (iI (psF (fun j => msf (KU kn f v) j * (KU kn f v 4 j - kn 4 j)) 0))), (15, .int (iI (psF (fun j => i1 (0 < KU kn f v 4 j - kn 4 j)) 0))), (16, .int (iI 1)), (17, .int (iI (((0 : Nat) : Int))))]) (S1 := []) (ws1 := ([(z2, aI g 4 (cpy 4 (kn 4) (fun _ => 0))), (z1, aI g 4 (cpy 4 (fun j => KU kn f v 4 j - kn 4 j) (fun _ => 0)))] ++ (wTp g r qn qt qv (KU kn f v) kt1 (svk (rck kn true) kv ns) (svs sc) (svn ns) tx tn pl))) rfl rfl rfl ?_
    refine lp_haul2 C hl (K := KU kn f v) hI2.1 hf hr2 (fun b hb => (hht b hb).1) ?_ 4 0 rfl
    refine j_iload C 12 dL_hauled_274 rfl ?_
    refine j_if_eq (tgt := 346) C (by decide) dL_hauled_276 (by decide) (fun c276 => absurd c276 (by decide)) (fun c276 => ?_)
    refine j_iload C 10 dL_hauled_279 rfl ?_
    refine j_iload C 9 dL_hauled_281 rfl ?_
    refine j_isameF C (hr3) dL_hauled_283 (tgt := 346) (by decide) ?_
    refine j_aload_n C 0 dL_hauled_286 rfl rfl ?_
    refine j_iconst C dL_hauled_287 ?_
    refine j_callSW (As := [.ref (r 0), .int (iI 1)]) (rest := []) C yw_L_value qw443 (w_value l g r qn qt qv (KU kn f v) kt1 (svk (rck kn true) kv ns) (svs sc) (svn ns) tx tn pl 1 hI2.1 (by omega)) (by decide) rfl dL_hauled_288 rfl (Nat.le_of_ble_eq_true rfl) (by decide) (pfL [(z2, aI g 4 (cpy 4 (kn 4) (fun _ => 0))), (z1, aI g 4 (cpy 4 (fun j => KU kn f v 4 j - kn 4 j) (fun _ => 0)))]) rfl (fun r9 w9 hq9 => ?_)
    obtain ⟨rfl, rfl⟩ := hq9
    refine J.to (L1 := [(0, .ref (r 0)), (1, .int (iI f)), (2, .int (iI v)), (3, .ref z1), (4, .ref z2), (5, .int (iI (hnd kn))), (6, .long (lI (kn 0 7))), (8, .long (lI (kn 0 8 + psF (fun j => (KU kn f v 4 j - kn 4 j) * KU kn f v 3 j) 4))), (10, .int (iI (kn 0 4))), (13, .int (iI (RU kn f v))), (14, .int (iI (psF (fun j => msf (KU kn f v) j * (KU kn f v 4 j - kn 4 j)) 4))), (15, .int (iI (psF (fun j => i1 (0 < KU kn f v 4 j - kn 4 j)) 4))), (16, .int (iI 1))]) (S1 := [.int (iI (hnd (KU kn f v)))]) (ws1 := ([(z2, aI g 4 (cpy 4 (kn 4) (fun _ => 0))), (z1, aI g 4 (cpy 4 (fun j => KU kn f v 4 j - kn 4 j) (fun _ => 0)))] ++ (wTp g r qn qt qv (KU kn f v) kt1 (svk (rck kn true) kv ns) (svs sc) (svn ns) tx tn pl))) rfl rfl rfl ?_
    refine j_iload C 5 dL_hauled_291 rfl ?_
    refine j_iload C 9 dL_hauled_293 rfl ?_
    refine j_iadd C dL_hauled_295 ?_
    refine j_isameF C (hr4) dL_hauled_296 (tgt := 346) (by decide) ?_
    refine j_aload_n C 0 dL_hauled_299 rfl rfl ?_
    refine j_iconst C dL_hauled_300 ?_
    refine j_callV (As := [.int (iI 0)]) (rest := []) C yv_X4_work qw494 (c_X4_work l g r qn qt qv (KU kn f v) kt1 (svk (rck kn true) kv ns) (svs sc) (svn ns) tx tn pl false hI2.1) (by decide) 2 rfl rfl rfl dL_hauled_301 rfl (Nat.le_of_ble_eq_true rfl) (by decide) (pfL [(z2, aI g 4 (cpy 4 (kn 4) (fun _ => 0))), (z1, aI g 4 (cpy 4 (fun j => KU kn f v 4 j - kn 4 j) (fun _ => 0)))]) rfl (fun r9 w9 hq9 => ?_)
    obtain ⟨rfl, rfl⟩ := hq9
    refine J.to (L1 := [(0, .ref (r 0)), (1, .int (iI f)), (2, .int (iI v)), (3, .ref z1), (4, .ref z2), (5, .int (iI (hnd kn))), (6, .long (lI (kn 0 7))), (8, .long (lI (kn 0 8 + psF (fun j => (KU kn f v 4 j - kn 4 j) * KU kn f v 3 j) 4))), (10, .int (iI (kn 0 4))), (13, .int (iI (RU kn f v))), (14, .int (iI (psF (fun j => msf (KU kn f v) j * (KU kn f v 4 j - kn 4 j)) 4))), (15, .int (iI (psF (fun j => i1 (0 < KU kn f v 4 j - kn 4 j)) 4))), (16, .int (iI 1))]) (S1 := [.long (lI ((KU kn f v) 0 7))]) (ws1 := ([(z2, aI g 4 (cpy 4 (kn 4) (fun _ => 0))), (z1, aI g 4 (cpy 4 (fun j => KU kn f v 4 j - kn 4 j) (fun _ => 0)))] ++ (wTp g r qn qt qv (KU kn f v) kt1 (svk (rck kn true) kv ns) (svs sc) (svn ns) tx tn pl))) rfl rfl rfl ?_
    refine j_lload C 6 dL_hauled_304 rfl ?_
    refine j_iload_n C 1 dL_hauled_306 rfl rfl ?_
    refine j_i2l C (by omega) dL_hauled_307 ?_
    refine j_iload C 9 dL_hauled_308 rfl ?_
    refine j_i2l C (by omega) dL_hauled_310 ?_
    refine j_lmul C dL_hauled_311 ?_
    refine j_ladd C dL_hauled_312 ?_
    refine j_lsameF (tgt := 346) C (hr5) dL_hauled_313 dL_hauled_314 (by decide) ?_
    refine j_aload_n C 0 dL_hauled_317 rfl rfl ?_
    refine j_iconst C dL_hauled_318 ?_
    refine j_callV (As := [.int (iI 1)]) (rest := []) C yv_X4_work qw494 (c_X4_work l g r qn qt qv (KU kn f v) kt1 (svk (rck kn true) kv ns) (svs sc) (svn ns) tx tn pl true hI2.1) (by decide) 2 rfl rfl rfl dL_hauled_319 rfl (Nat.le_of_ble_eq_true rfl) (by decide) (pfL [(z2, aI g 4 (cpy 4 (kn 4) (fun _ => 0))), (z1, aI g 4 (cpy 4 (fun j => KU kn f v 4 j - kn 4 j) (fun _ => 0)))]) rfl (fun r9 w9 hq9 => ?_)
    obtain ⟨rfl, rfl⟩ := hq9
    refine J.to (L1 := [(0, .ref (r 0)), (1, .int (iI f)), (2, .int (iI v)), (3, .ref z1), (4, .ref z2), (5, .int (iI (hnd kn))), (6, .long (lI (kn 0 7))), (8, .long (lI (kn 0 8 + psF (fun j => (KU kn f v 4 j - kn 4 j) * KU kn f v 3 j) 4))), (10, .int (iI (kn 0 4))), (13, .int (iI (RU kn f v))), (14, .int (iI (psF (fun j => msf (KU kn f v) j * (KU kn f v 4 j - kn 4 j)) 4))), (15, .int (iI (psF (fun j => i1 (0 < KU kn f v 4 j - kn 4 j)) 4))), (16, .int (iI 1))]) (S1 := [.long (lI ((KU kn f v) 0 8))]) (ws1 := ([(z2, aI g 4 (cpy 4 (kn 4) (fun _ => 0))), (z1, aI g 4 (cpy 4 (fun j => KU kn f v 4 j - kn 4 j) (fun _ => 0)))] ++ (wTp g r qn qt qv (KU kn f v) kt1 (svk (rck kn true) kv ns) (svs sc) (svn ns) tx tn pl))) rfl rfl rfl ?_
    refine j_lload C 7 dL_hauled_322 rfl ?_
    refine j_lsameF (tgt := 346) C (hr6) dL_hauled_324 dL_hauled_325 (by decide) ?_
    refine j_aload_n C 0 dL_hauled_328 rfl rfl ?_
    refine j_bipush C dL_hauled_329 (by decide) ?_
    refine j_callSW (As := [.ref (r 0), .int (iI 7)]) (rest := []) C yw_L_value qw443 (w_value l g r qn qt qv (KU kn f v) kt1 (svk (rck kn true) kv ns) (svs sc) (svn ns) tx tn pl 7 hI2.1 (by omega)) (by decide) rfl dL_hauled_331 rfl (Nat.le_of_ble_eq_true rfl) (by decide) (pfL [(z2, aI g 4 (cpy 4 (kn 4) (fun _ => 0))), (z1, aI g 4 (cpy 4 (fun j => KU kn f v 4 j - kn 4 j) (fun _ => 0)))]) rfl (fun r9 w9 hq9 => ?_)
    obtain ⟨rfl, rfl⟩ := hq9
    refine J.to (L1 := [(0, .ref (r 0)), (1, .int (iI f)), (2, .int (iI v)), (3, .ref z1), (4, .ref z2), (5, .int (iI (hnd kn))), (6, .long (lI (kn 0 7))), (8, .long (lI (kn 0 8 + psF (fun j => (KU kn f v 4 j - kn 4 j) * KU kn f v 3 j) 4))), (10, .int (iI (kn 0 4))), (13, .int (iI (RU kn f v))), (14, .int (iI (psF (fun j => msf (KU kn f v) j * (KU kn f v 4 j - kn 4 j)) 4))), (15, .int (iI (psF (fun j => i1 (0 < KU kn f v 4 j - kn 4 j)) 4))), (16, .int (iI 1))]) (S1 := [.int (iI ((KU kn f v) 0 4))]) (ws1 := ([(z2, aI g 4 (cpy 4 (kn 4) (fun _ => 0))), (z1, aI g 4 (cpy 4 (fun j => KU kn f v 4 j - kn 4 j) (fun _ => 0)))] ++ (wTp g r qn qt qv (KU kn f v) kt1 (svk (rck kn true) kv ns) (svs sc) (svn ns) tx tn pl))) rfl rfl rfl ?_
    refine j_iload C 8 dL_hauled_334 rfl ?_
    refine j_iload C 11 dL_hauled_336 rfl ?_
    refine j_iadd C dL_hauled_338 ?_
    refine j_isameF C (hr7) dL_hauled_339 (tgt := 346) (by decide) ?_
    refine j_iconst C dL_hauled_342 ?_
    refine j_goto (tgt := 347) C dL_hauled_343 (by decide) ?_
    refine j_istore (L1 := [(16, .int (iI 1)), (0, .ref (r 0)), (1, .int (iI f)), (2, .int (iI v)), (3, .ref z1), (4, .ref z2), (5, .int (iI (hnd kn))), (6, .long (lI (kn 0 7))), (8, .long (lI (kn 0 8 + psF (fun j => (KU kn f v 4 j - kn 4 j) * KU kn f v 3 j) 4))), (10, .int (iI (kn 0 4))), (13, .int (iI (RU kn f v))), (14, .int (iI (psF (fun j => msf (KU kn f v) j * (KU kn f v 4 j - kn 4 j)) 4))), (15, .int (iI (psF (fun j => i1 (0 < KU kn f v 4 j - kn 4 j)) 4)))]) C dL_hauled_347 (by decide) rfl ?_
    refine j_aload_n C 1 dL_hauled_349 rfl rfl ?_
    refine j_callV (As := []) (rest := []) C yv_X4_first qw634 (c_X4_first l g r qn qt qv (KU kn f v) kt1 (svk (rck kn true) kv ns) (svs sc) (svn ns) tx tn pl hI2.1) (by decide) 2 rfl rfl rfl dL_hauled_350 rfl (Nat.le_of_ble_eq_true rfl) (by decide) (pfL [(z2, aI g 4 (cpy 4 (kn 4) (fun _ => 0))), (z1, aI g 4 (cpy 4 (fun j => KU kn f v 4 j - kn 4 j) (fun _ => 0)))]) rfl (fun r9 w9 hq9 => ?_)
    obtain ⟨rfl, rfl⟩ := hq9
    refine J.to (L1 := [(16, .int (iI 1)), (0, .ref (r 0)), (1, .int (iI f)), (2, .int (iI v)), (3, .ref z1), (4, .ref z2), (5, .int (iI (hnd kn))), (6, .long (lI (kn 0 7))), (8, .long (lI (kn 0 8 + psF (fun j => (KU kn f v 4 j - kn 4 j) * KU kn f v 3 j) 4))), (10, .int (iI (kn 0 4))), (13, .int (iI (RU kn f v))), (14, .int (iI (psF (fun j => msf (KU kn f v) j * (KU kn f v 4 j - kn 4 j)) 4))), (15, .int (iI (psF (fun j => i1 (0 < KU kn f v 4 j - kn 4 j)) 4)))]) (S1 := [.int (iI ((nxr (rck (KU kn f v) true 5) ((KU kn f v) 4) 1000000 4)))]) (ws1 := ([(z2, aI g 4 (cpy 4 (kn 4) (fun _ => 0))), (z1, aI g 4 (cpy 4 (fun j => KU kn f v 4 j - kn 4 j) (fun _ => 0)))] ++ (wTp g r qn qt qv (rck (KU kn f v) true) kt1 (svk (rck kn true) kv ns) (svs sc) (svn ns) tx tn pl))) rfl rfl rfl ?_
    rcases hr8 with hnx | ⟨nb, hnb, hnx, hq8⟩
    · refine J.to (L1 := [(16, .int (iI 1)), (0, .ref (r 0)), (1, .int (iI f)), (2, .int (iI v)), (3, .ref z1), (4, .ref z2), (5, .int (iI (hnd kn))), (6, .long (lI (kn 0 7))), (8, .long (lI (kn 0 8 + psF (fun j => (KU kn f v 4 j - kn 4 j) * KU kn f v 3 j) 4))), (10, .int (iI (kn 0 4))), (13, .int (iI (RU kn f v))), (14, .int (iI (psF (fun j => msf (KU kn f v) j * (KU kn f v 4 j - kn 4 j)) 4))), (15, .int (iI (psF (fun j => i1 (0 < KU kn f v 4 j - kn 4 j)) 4)))]) (S1 := [.int (iI (-1))]) (ws1 := ([(z2, aI g 4 (cpy 4 (kn 4) (fun _ => 0))), (z1, aI g 4 (cpy 4 (fun j => KU kn f v 4 j - kn 4 j) (fun _ => 0)))] ++ (wTp g r qn qt qv (rck (KU kn f v) true) kt1 (svk (rck kn true) kv ns) (svs sc) (svn ns) tx tn pl))) rfl rfl (congrArg (fun x9 : Int => ([.int (iI x9)] : List Value)) (show ((nxr (rck (KU kn f v) true 5) ((KU kn f v) 4) 1000000 4) : Int) = -1 from hnx)) ?_
      refine j_istore (L1 := [(17, .int (iI (-1))), (16, .int (iI 1)), (0, .ref (r 0)), (1, .int (iI f)), (2, .int (iI v)), (3, .ref z1), (4, .ref z2), (5, .int (iI (hnd kn))), (6, .long (lI (kn 0 7))), (8, .long (lI (kn 0 8 + psF (fun j => (KU kn f v 4 j - kn 4 j) * KU kn f v 3 j) 4))), (10, .int (iI (kn 0 4))), (13, .int (iI (RU kn f v))), (14, .int (iI (psF (fun j => msf (KU kn f v) j * (KU kn f v 4 j - kn 4 j)) 4))), (15, .int (iI (psF (fun j => i1 (0 < KU kn f v 4 j - kn 4 j)) 4)))]) C dL_hauled_353 (by decide) rfl ?_
      refine j_iload C 1 dL_hauled_355 rfl ?_
      refine j_if_eq (tgt := 395) C (by decide) dL_hauled_357 (by decide) (fun c357 => absurd c357 (by decide)) (fun c357 => ?_)
      refine j_iload C 0 dL_hauled_360 rfl ?_
      refine j_iconst C dL_hauled_362 ?_
      refine j_icmp_eq (tgt := 391) C (by decide) (by decide) dL_hauled_363 (by decide) (fun c363 => ?_) (fun c363 => absurd c363 (by decide))
      refine j_iconst C dL_hauled_391 ?_
      refine j_goto (tgt := 396) C dL_hauled_392 (by decide) ?_
      refine J.dropL ?_
      exact j_zret C hr hlk rfl dL_hauled_396 ⟨rfl, rck (KU kn f v) true, kt1, svk (rck kn true) kv ns, svs sc, svn ns, tx, tn, pl, rfl, hI3⟩ (by decide) (by decide)
    · refine J.to (L1 := [(16, .int (iI 1)), (0, .ref (r 0)), (1, .int (iI f)), (2, .int (iI v)), (3, .ref z1), (4, .ref z2), (5, .int (iI (hnd kn))), (6, .long (lI (kn 0 7))), (8, .long (lI (kn 0 8 + psF (fun j => (KU kn f v 4 j - kn 4 j) * KU kn f v 3 j) 4))), (10, .int (iI (kn 0 4))), (13, .int (iI (RU kn f v))), (14, .int (iI (psF (fun j => msf (KU kn f v) j * (KU kn f v 4 j - kn 4 j)) 4))), (15, .int (iI (psF (fun j => i1 (0 < KU kn f v 4 j - kn 4 j)) 4)))]) (S1 := [.int (iI ((nb : Int)))]) (ws1 := ([(z2, aI g 4 (cpy 4 (kn 4) (fun _ => 0))), (z1, aI g 4 (cpy 4 (fun j => KU kn f v 4 j - kn 4 j) (fun _ => 0)))] ++ (wTp g r qn qt qv (rck (KU kn f v) true) kt1 (svk (rck kn true) kv ns) (svs sc) (svn ns) tx tn pl))) rfl rfl (congrArg (fun x9 : Int => ([.int (iI x9)] : List Value)) (show ((nxr (rck (KU kn f v) true 5) ((KU kn f v) 4) 1000000 4) : Int) = (nb : Int) from hnx)) ?_
      have hl1 : lef (rck (KU kn f v) true) true nb = lef (KU kn f v) true nb := rfl
      have hm1 : msf (rck (KU kn f v) true) nb = msf (KU kn f v) nb := rfl
      have hlr := lef_rng (KU kn f v) true nb
      have hmr : 0 ≤ msf (KU kn f v) nb ∧ msf (KU kn f v) nb ≤ 21 := mst_rng hI2.1.1.1 (nb : Int)
      refine j_istore (L1 := [(17, .int (iI ((nb : Int)))), (16, .int (iI 1)), (0, .ref (r 0)), (1, .int (iI f)), (2, .int (iI v)), (3, .ref z1), (4, .ref z2), (5, .int (iI (hnd kn))), (6, .long (lI (kn 0 7))), (8, .long (lI (kn 0 8 + psF (fun j => (KU kn f v 4 j - kn 4 j) * KU kn f v 3 j) 4))), (10, .int (iI (kn 0 4))), (13, .int (iI (RU kn f v))), (14, .int (iI (psF (fun j => msf (KU kn f v) j * (KU kn f v 4 j - kn 4 j)) 4))), (15, .int (iI (psF (fun j => i1 (0 < KU kn f v 4 j - kn 4 j)) 4)))]) C dL_hauled_353 (by decide) rfl ?_
      refine j_iload C 1 dL_hauled_355 rfl ?_
      refine j_if_eq (tgt := 395) C (by decide) dL_hauled_357 (by decide) (fun c357 => absurd c357 (by decide)) (fun c357 => ?_)
      refine j_iload C 0 dL_hauled_360 rfl ?_
      refine j_iconst C dL_hauled_362 ?_
      refine j_icmp_eq (tgt := 391) C (by omega) (by decide) dL_hauled_363 (by decide) (fun c363 => ?_) (fun c363 => ?_)
      · refine j_iconst C dL_hauled_391 ?_
        refine j_goto (tgt := 396) C dL_hauled_392 (by decide) ?_
        refine J.dropL ?_
        exact j_zret C hr hlk rfl dL_hauled_396 ⟨rfl, rck (KU kn f v) true, kt1, svk (rck kn true) kv ns, svs sc, svn ns, tx, tn, pl, rfl, hI3⟩ (by decide) (by decide)
      · refine j_aload_n C 2 dL_hauled_366 rfl rfl ?_
        refine j_iload C 0 dL_hauled_367 rfl ?_
        refine j_iconst C dL_hauled_369 ?_
        refine j_callSW (As := [.ref (r 0), .int (iI ((nb : Int))), .int (iI 4)]) (rest := []) C yw_L_block qw456 (w_block l g r qn qt qv (rck (KU kn f v) true) kt1 (svk (rck kn true) kv ns) (svs sc) (svn ns) tx tn pl (nb : Int) 4 hT3 (by omega) (by omega)) (by decide) rfl dL_hauled_370 rfl (Nat.le_of_ble_eq_true rfl) (by decide) (pfL [(z2, aI g 4 (cpy 4 (kn 4) (fun _ => 0))), (z1, aI g 4 (cpy 4 (fun j => KU kn f v 4 j - kn 4 j) (fun _ => 0)))]) rfl (fun r9 w9 hq9 => ?_)
        obtain ⟨rfl, rfl⟩ := hq9
        refine J.to (L1 := [(17, .int (iI ((nb : Int)))), (16, .int (iI 1)), (0, .ref (r 0)), (1, .int (iI f)), (2, .int (iI v)), (3, .ref z1), (4, .ref z2), (5, .int (iI (hnd kn))), (6, .long (lI (kn 0 7))), (8, .long (lI (kn 0 8 + psF (fun j => (KU kn f v 4 j - kn 4 j) * KU kn f v 3 j) 4))), (10, .int (iI (kn 0 4))), (13, .int (iI (RU kn f v))), (14, .int (iI (psF (fun j => msf (KU kn f v) j * (KU kn f v 4 j - kn 4 j)) 4))), (15, .int (iI (psF (fun j => i1 (0 < KU kn f v 4 j - kn 4 j)) 4)))]) (S1 := [.int (iI (lef (rck (KU kn f v) true) true nb))]) (ws1 := ([(z2, aI g 4 (cpy 4 (kn 4) (fun _ => 0))), (z1, aI g 4 (cpy 4 (fun j => KU kn f v 4 j - kn 4 j) (fun _ => 0)))] ++ (wTp g r qn qt qv (rck (KU kn f v) true) kt1 (svk (rck kn true) kv ns) (svs sc) (svn ns) tx tn pl))) rfl rfl rfl ?_
        refine j_iload_n C 3 dL_hauled_373 rfl rfl ?_
        refine j_icmp_gt (tgt := 391) C (by omega) (by omega) dL_hauled_374 (by decide) (fun c374 => ?_) (fun c374 => ?_)
        · refine j_iconst C dL_hauled_391 ?_
          refine j_goto (tgt := 396) C dL_hauled_392 (by decide) ?_
          refine J.dropL ?_
          exact j_zret C hr hlk rfl dL_hauled_396 ⟨rfl, rck (KU kn f v) true, kt1, svk (rck kn true) kv ns, svs sc, svn ns, tx, tn, pl, rfl, hI3⟩ (by decide) (by decide)
        · refine j_iload_n C 4 dL_hauled_377 rfl rfl ?_
          refine j_iload C 11 dL_hauled_378 rfl ?_
          refine j_isub C dL_hauled_380 ?_
          refine j_aload_n C 2 dL_hauled_381 rfl rfl ?_
          refine j_iload C 0 dL_hauled_382 rfl ?_
          refine j_iconst C dL_hauled_384 ?_
          refine j_callSW (As := [.ref (r 0), .int (iI ((nb : Int))), .int (iI 2)]) (rest := [.int (iI (v - (RU kn f v)))]) C yw_L_block qw456 (w_block l g r qn qt qv (rck (KU kn f v) true) kt1 (svk (rck kn true) kv ns) (svs sc) (svn ns) tx tn pl (nb : Int) 2 hT3 (by omega) (by omega)) (by decide) rfl dL_hauled_385 rfl (Nat.le_of_ble_eq_true rfl) (by decide) (pfL [(z2, aI g 4 (cpy 4 (kn 4) (fun _ => 0))), (z1, aI g 4 (cpy 4 (fun j => KU kn f v 4 j - kn 4 j) (fun _ => 0)))]) rfl (fun r9 w9 hq9 => ?_)
          obtain ⟨rfl, rfl⟩ := hq9
          refine J.to (L1 := [(17, .int (iI ((nb : Int)))), (16, .int (iI 1)), (0, .ref (r 0)), (1, .int (iI f)), (2, .int (iI v)), (3, .ref z1), (4, .ref z2), (5, .int (iI (hnd kn))), (6, .long (lI (kn 0 7))), (8, .long (lI (kn 0 8 + psF (fun j => (KU kn f v 4 j - kn 4 j) * KU kn f v 3 j) 4))), (10, .int (iI (kn 0 4))), (13, .int (iI (RU kn f v))), (14, .int (iI (psF (fun j => msf (KU kn f v) j * (KU kn f v 4 j - kn 4 j)) 4))), (15, .int (iI (psF (fun j => i1 (0 < KU kn f v 4 j - kn 4 j)) 4)))]) (S1 := [.int (iI (msf (rck (KU kn f v) true) nb)), .int (iI (v - (RU kn f v)))]) (ws1 := ([(z2, aI g 4 (cpy 4 (kn 4) (fun _ => 0))), (z1, aI g 4 (cpy 4 (fun j => KU kn f v 4 j - kn 4 j) (fun _ => 0)))] ++ (wTp g r qn qt qv (rck (KU kn f v) true) kt1 (svk (rck kn true) kv ns) (svs sc) (svn ns) tx tn pl))) rfl rfl rfl ?_
          refine j_icmp_ge (tgt := 395) C (by omega) (by omega) dL_hauled_388 (by decide) (fun c388 => absurd c388 (by omega)) (fun c388 => ?_)
          refine j_iconst C dL_hauled_391 ?_
          refine j_goto (tgt := 396) C dL_hauled_392 (by decide) ?_
          refine J.dropL ?_
          exact j_zret C hr hlk rfl dL_hauled_396 ⟨rfl, rck (KU kn f v) true, kt1, svk (rck kn true) kv ns, svs sc, svn ns, tx, tn, pl, rfl, hI3⟩ (by decide) (by decide)
  refine j_callV (As := []) (rest := []) C yv_X4_first qw634 (c_X4_first l g r qn qt qv kn kt1 kv sc ns tx tn pl hT) (by decide) 2 rfl rfl rfl dL_hauled_78 rfl (Nat.le_of_ble_eq_true rfl) (by decide) (pfL [(z2, aI g 4 (cpy 4 (kn 4) (fun _ => 0))), (z1, aI g 4 (cpy 4 (fun j => KU kn f v 4 j - kn 4 j) (fun _ => 0)))]) rfl (fun r9 w9 hq9 => ?_)
  obtain ⟨rfl, rfl⟩ := hq9
  refine J.to (L1 := [(10, .int (iI (kn 0 4))), (8, .long (lI (kn 0 8 + psF (fun j => (KU kn f v 4 j - kn 4 j) * KU kn f v 3 j) 0))), (6, .long (lI (kn 0 7))), (5, .int (iI (hnd kn))), (0, .ref (r 0)), (1, .int (iI f)), (2, .int (iI v)), (3, .ref z1), (4, .ref z2)]) (S1 := [.int (iI ((nxr (rck kn true 5) (kn 4) 1000000 4)))]) (ws1 := ([(z2, aI g 4 (cpy 4 (kn 4) (fun _ => 0))), (z1, aI g 4 (cpy 4 (fun j => KU kn f v 4 j - kn 4 j) (fun _ => 0)))] ++ (wTp g r qn qt qv (rck kn true) kt1 kv sc ns tx tn pl))) rfl rfl rfl ?_
  rcases nx_cases kn with hnx | ⟨nb, hnb, hnx⟩
  · refine J.to (L1 := [(10, .int (iI (kn 0 4))), (8, .long (lI (kn 0 8 + psF (fun j => (KU kn f v 4 j - kn 4 j) * KU kn f v 3 j) 0))), (6, .long (lI (kn 0 7))), (5, .int (iI (hnd kn))), (0, .ref (r 0)), (1, .int (iI f)), (2, .int (iI v)), (3, .ref z1), (4, .ref z2)]) (S1 := [.int (iI (-1))]) (ws1 := ([(z2, aI g 4 (cpy 4 (kn 4) (fun _ => 0))), (z1, aI g 4 (cpy 4 (fun j => KU kn f v 4 j - kn 4 j) (fun _ => 0)))] ++ (wTp g r qn qt qv (rck kn true) kt1 kv sc ns tx tn pl))) rfl rfl (congrArg (fun x9 : Int => ([.int (iI x9)] : List Value)) (show ((nxr (rck kn true 5) (kn 4) 1000000 4) : Int) = -1 from hnx)) ?_
    refine j_istore (L1 := [(11, .int (iI (-1))), (10, .int (iI (kn 0 4))), (8, .long (lI (kn 0 8 + psF (fun j => (KU kn f v 4 j - kn 4 j) * KU kn f v 3 j) 0))), (6, .long (lI (kn 0 7))), (5, .int (iI (hnd kn))), (0, .ref (r 0)), (1, .int (iI f)), (2, .int (iI v)), (3, .ref z1), (4, .ref z2)]) C dL_hauled_81 (by decide) rfl ?_
    refine j_iload C 0 dL_hauled_83 rfl ?_
    refine j_iconst C dL_hauled_85 ?_
    refine j_icmp_eq (tgt := 104) C (by decide) (by decide) dL_hauled_86 (by decide) (fun c86 => ?_) (fun c86 => absurd c86 (by decide))
    refine j_iconst C dL_hauled_104 ?_
    refine j_istore (L1 := [(12, .int (iI 0)), (11, .int (iI (-1))), (10, .int (iI (kn 0 4))), (8, .long (lI (kn 0 8 + psF (fun j => (KU kn f v 4 j - kn 4 j) * KU kn f v 3 j) 0))), (6, .long (lI (kn 0 7))), (5, .int (iI (hnd kn))), (0, .ref (r 0)), (1, .int (iI f)), (2, .int (iI v)), (3, .ref z1), (4, .ref z2)]) C dL_hauled_105 (by decide) rfl ?_
    refine j_aload_n C 6 dL_hauled_107 rfl rfl ?_
    refine j_iload_n C 7 dL_hauled_108 rfl rfl ?_
    refine j_iload_n C 8 dL_hauled_109 rfl rfl ?_
    refine j_callSW (As := [.ref (r 0), .int (iI f), .int (iI v)]) (rest := []) C yw_L_hauls qw368 (w_hauls l g r qn qt qv (rck kn true) kt1 kv sc ns tx tn pl f v hT1 (by omega) (by omega)) (by decide) rfl dL_hauled_110 rfl (Nat.le_of_ble_eq_true rfl) (by decide) (pfL [(z2, aI g 4 (cpy 4 (kn 4) (fun _ => 0))), (z1, aI g 4 (cpy 4 (fun j => KU kn f v 4 j - kn 4 j) (fun _ => 0)))]) rfl (fun r9 w9 hq9 => ?_)
    obtain ⟨rfl, rfl⟩ := hq9
    refine J.to (L1 := [(12, .int (iI 0)), (11, .int (iI (-1))), (10, .int (iI (kn 0 4))), (8, .long (lI (kn 0 8 + psF (fun j => (KU kn f v 4 j - kn 4 j) * KU kn f v 3 j) 0))), (6, .long (lI (kn 0 7))), (5, .int (iI (hnd kn))), (0, .ref (r 0)), (1, .int (iI f)), (2, .int (iI v)), (3, .ref z1), (4, .ref z2)]) (S1 := [.int (iI (((mup f v (rck kn true)).2)))]) (ws1 := ([(z2, aI g 4 (cpy 4 (kn 4) (fun _ => 0))), (z1, aI g 4 (cpy 4 (fun j => KU kn f v 4 j - kn 4 j) (fun _ => 0)))] ++ (wTp g r qn qt qv ((mup f v (rck kn true)).1) kt1 (svk (rck kn true) kv ns) (svs sc) (svn ns) tx tn pl))) rfl rfl rfl ?_
    refine J.to (L1 := [(12, .int (iI 0)), (11, .int (iI (-1))), (10, .int (iI (kn 0 4))), (8, .long (lI (kn 0 8 + psF (fun j => (KU kn f v 4 j - kn 4 j) * KU kn f v 3 j) 0))), (6, .long (lI (kn 0 7))), (5, .int (iI (hnd kn))), (0, .ref (r 0)), (1, .int (iI f)), (2, .int (iI v)), (3, .ref z1), (4, .ref z2)]) (S1 := [.int (iI (RU kn f v))]) (ws1 := ([(z2, aI g 4 (cpy 4 (kn 4) (fun _ => 0))), (z1, aI g 4 (cpy 4 (fun j => KU kn f v 4 j - kn 4 j) (fun _ => 0)))] ++ (wTp g r qn qt qv (KU kn f v) kt1 (svk (rck kn true) kv ns) (svs sc) (svn ns) tx tn pl))) rfl rfl rfl ?_
    refine j_istore (L1 := [(13, .int (iI (RU kn f v))), (12, .int (iI 0)), (11, .int (iI (-1))), (10, .int (iI (kn 0 4))), (8, .long (lI (kn 0 8 + psF (fun j => (KU kn f v 4 j - kn 4 j) * KU kn f v 3 j) 0))), (6, .long (lI (kn 0 7))), (5, .int (iI (hnd kn))), (0, .ref (r 0)), (1, .int (iI f)), (2, .int (iI v)), (3, .ref z1), (4, .ref z2)]) C dL_hauled_113 (by decide) rfl ?_
    refine j_iconst C dL_hauled_115 ?_
    refine j_istore (L1 := [(14, .int (iI 0)), (13, .int (iI (RU kn f v))), (12, .int (iI 0)), (11, .int (iI (-1))), (10, .int (iI (kn 0 4))), (8, .long (lI (kn 0 8 + psF (fun j => (KU kn f v 4 j - kn 4 j) * KU kn f v 3 j) 0))), (6, .long (lI (kn 0 7))), (5, .int (iI (hnd kn))), (0, .ref (r 0)), (1, .int (iI f)), (2, .int (iI v)), (3, .ref z1), (4, .ref z2)]) C dL_hauled_116 (by decide) rfl ?_
    refine j_iconst C dL_hauled_118 ?_
    refine j_istore (L1 := [(15, .int (iI 0)), (14, .int (iI 0)), (13, .int (iI (RU kn f v))), (12, .int (iI 0)), (11, .int (iI (-1))), (10, .int (iI (kn 0 4))), (8, .long (lI (kn 0 8 + psF (fun j => (KU kn f v 4 j - kn 4 j) * KU kn f v 3 j) 0))), (6, .long (lI (kn 0 7))), (5, .int (iI (hnd kn))), (0, .ref (r 0)), (1, .int (iI f)), (2, .int (iI v)), (3, .ref z1), (4, .ref z2)]) C dL_hauled_119 (by decide) rfl ?_
    refine j_iload C 2 dL_hauled_121 rfl ?_
    refine j_if_lt (tgt := 146) C (by omega) dL_hauled_123 (by decide) (fun c123 => absurd c123 (by omega)) (fun c123 => ?_)
    refine j_iload C 2 dL_hauled_126 rfl ?_
    refine j_iload_n C 11 dL_hauled_128 rfl rfl ?_
    refine j_icmp_gt (tgt := 146) C (by omega) (by omega) dL_hauled_129 (by decide) (fun c129 => absurd c129 (by omega)) (fun c129 => ?_)
    refine j_iload C 3 dL_hauled_132 rfl ?_
    have hno : RU kn f v = 0 := RU_no hk hf.2 (Or.inl hnx)
    refine j_if_ne (tgt := 142) C (by decide) dL_hauled_134 (by decide) (fun c134 => absurd c134 (by decide)) (fun c134 => ?_)
    refine j_iload C 2 dL_hauled_137 rfl ?_
    refine j_if_ne (tgt := 146) C (by omega) dL_hauled_139 (by decide) (fun c139 => absurd c139 (by omega)) (fun c139 => ?_)
    refine J.sub (L1 := [(15, .int (iI 0)), (14, .int (iI 0)), (13, .int (iI (RU kn f v))), (10, .int (iI (kn 0 4))), (8, .long (lI (kn 0 8 + psF (fun j => (KU kn f v 4 j - kn 4 j) * KU kn f v 3 j) 0))), (6, .long (lI (kn 0 7))), (5, .int (iI (hnd kn))), (0, .ref (r 0)), (1, .int (iI f)), (2, .int (iI v)), (3, .ref z1), (4, .ref z2)]) [0, 1, 2, 5, 6, 7, 8, 9, 10, 11, 12, 13] rfl ?_
    exact kj142_2
  · refine J.to (L1 := [(10, .int (iI (kn 0 4))), (8, .long (lI (kn 0 8 + psF (fun j => (KU kn f v 4 j - kn 4 j) * KU kn f v 3 j) 0))), (6, .long (lI (kn 0 7))), (5, .int (iI (hnd kn))), (0, .ref (r 0)), (1, .int (iI f)), (2, .int (iI v)), (3, .ref z1), (4, .ref z2)]) (S1 := [.int (iI ((nb : Int)))]) (ws1 := ([(z2, aI g 4 (cpy 4 (kn 4) (fun _ => 0))), (z1, aI g 4 (cpy 4 (fun j => KU kn f v 4 j - kn 4 j) (fun _ => 0)))] ++ (wTp g r qn qt qv (rck kn true) kt1 kv sc ns tx tn pl))) rfl rfl (congrArg (fun x9 : Int => ([.int (iI x9)] : List Value)) (show ((nxr (rck kn true 5) (kn 4) 1000000 4) : Int) = (nb : Int) from hnx)) ?_
    have hl1 : lef (rck kn true) true nb = lef kn true nb := rfl
    have hlr := lef_rng kn true nb
    refine j_istore (L1 := [(11, .int (iI ((nb : Int)))), (10, .int (iI (kn 0 4))), (8, .long (lI (kn 0 8 + psF (fun j => (KU kn f v 4 j - kn 4 j) * KU kn f v 3 j) 0))), (6, .long (lI (kn 0 7))), (5, .int (iI (hnd kn))), (0, .ref (r 0)), (1, .int (iI f)), (2, .int (iI v)), (3, .ref z1), (4, .ref z2)]) C dL_hauled_81 (by decide) rfl ?_
    refine j_iload C 0 dL_hauled_83 rfl ?_
    refine j_iconst C dL_hauled_85 ?_
    refine j_icmp_eq (tgt := 104) C (by omega) (by decide) dL_hauled_86 (by decide) (fun c86 => ?_) (fun c86 => ?_)
    · refine j_iconst C dL_hauled_104 ?_
      refine j_istore (L1 := [(12, .int (iI 0)), (11, .int (iI ((nb : Int)))), (10, .int (iI (kn 0 4))), (8, .long (lI (kn 0 8 + psF (fun j => (KU kn f v 4 j - kn 4 j) * KU kn f v 3 j) 0))), (6, .long (lI (kn 0 7))), (5, .int (iI (hnd kn))), (0, .ref (r 0)), (1, .int (iI f)), (2, .int (iI v)), (3, .ref z1), (4, .ref z2)]) C dL_hauled_105 (by decide) rfl ?_
      refine j_aload_n C 6 dL_hauled_107 rfl rfl ?_
      refine j_iload_n C 7 dL_hauled_108 rfl rfl ?_
      refine j_iload_n C 8 dL_hauled_109 rfl rfl ?_
      refine j_callSW (As := [.ref (r 0), .int (iI f), .int (iI v)]) (rest := []) C yw_L_hauls qw368 (w_hauls l g r qn qt qv (rck kn true) kt1 kv sc ns tx tn pl f v hT1 (by omega) (by omega)) (by decide) rfl dL_hauled_110 rfl (Nat.le_of_ble_eq_true rfl) (by decide) (pfL [(z2, aI g 4 (cpy 4 (kn 4) (fun _ => 0))), (z1, aI g 4 (cpy 4 (fun j => KU kn f v 4 j - kn 4 j) (fun _ => 0)))]) rfl (fun r9 w9 hq9 => ?_)
      obtain ⟨rfl, rfl⟩ := hq9
      refine J.to (L1 := [(12, .int (iI 0)), (11, .int (iI ((nb : Int)))), (10, .int (iI (kn 0 4))), (8, .long (lI (kn 0 8 + psF (fun j => (KU kn f v 4 j - kn 4 j) * KU kn f v 3 j) 0))), (6, .long (lI (kn 0 7))), (5, .int (iI (hnd kn))), (0, .ref (r 0)), (1, .int (iI f)), (2, .int (iI v)), (3, .ref z1), (4, .ref z2)]) (S1 := [.int (iI (((mup f v (rck kn true)).2)))]) (ws1 := ([(z2, aI g 4 (cpy 4 (kn 4) (fun _ => 0))), (z1, aI g 4 (cpy 4 (fun j => KU kn f v 4 j - kn 4 j) (fun _ => 0)))] ++ (wTp g r qn qt qv ((mup f v (rck kn true)).1) kt1 (svk (rck kn true) kv ns) (svs sc) (svn ns) tx tn pl))) rfl rfl rfl ?_
      refine J.to (L1 := [(12, .int (iI 0)), (11, .int (iI ((nb : Int)))), (10, .int (iI (kn 0 4))), (8, .long (lI (kn 0 8 + psF (fun j => (KU kn f v 4 j - kn 4 j) * KU kn f v 3 j) 0))), (6, .long (lI (kn 0 7))), (5, .int (iI (hnd kn))), (0, .ref (r 0)), (1, .int (iI f)), (2, .int (iI v)), (3, .ref z1), (4, .ref z2)]) (S1 := [.int (iI (RU kn f v))]) (ws1 := ([(z2, aI g 4 (cpy 4 (kn 4) (fun _ => 0))), (z1, aI g 4 (cpy 4 (fun j => KU kn f v 4 j - kn 4 j) (fun _ => 0)))] ++ (wTp g r qn qt qv (KU kn f v) kt1 (svk (rck kn true) kv ns) (svs sc) (svn ns) tx tn pl))) rfl rfl rfl ?_
      refine j_istore (L1 := [(13, .int (iI (RU kn f v))), (12, .int (iI 0)), (11, .int (iI ((nb : Int)))), (10, .int (iI (kn 0 4))), (8, .long (lI (kn 0 8 + psF (fun j => (KU kn f v 4 j - kn 4 j) * KU kn f v 3 j) 0))), (6, .long (lI (kn 0 7))), (5, .int (iI (hnd kn))), (0, .ref (r 0)), (1, .int (iI f)), (2, .int (iI v)), (3, .ref z1), (4, .ref z2)]) C dL_hauled_113 (by decide) rfl ?_
      refine j_iconst C dL_hauled_115 ?_
      refine j_istore (L1 := [(14, .int (iI 0)), (13, .int (iI (RU kn f v))), (12, .int (iI 0)), (11, .int (iI ((nb : Int)))), (10, .int (iI (kn 0 4))), (8, .long (lI (kn 0 8 + psF (fun j => (KU kn f v 4 j - kn 4 j) * KU kn f v 3 j) 0))), (6, .long (lI (kn 0 7))), (5, .int (iI (hnd kn))), (0, .ref (r 0)), (1, .int (iI f)), (2, .int (iI v)), (3, .ref z1), (4, .ref z2)]) C dL_hauled_116 (by decide) rfl ?_
      refine j_iconst C dL_hauled_118 ?_
      refine j_istore (L1 := [(15, .int (iI 0)), (14, .int (iI 0)), (13, .int (iI (RU kn f v))), (12, .int (iI 0)), (11, .int (iI ((nb : Int)))), (10, .int (iI (kn 0 4))), (8, .long (lI (kn 0 8 + psF (fun j => (KU kn f v 4 j - kn 4 j) * KU kn f v 3 j) 0))), (6, .long (lI (kn 0 7))), (5, .int (iI (hnd kn))), (0, .ref (r 0)), (1, .int (iI f)), (2, .int (iI v)), (3, .ref z1), (4, .ref z2)]) C dL_hauled_119 (by decide) rfl ?_
      refine j_iload C 2 dL_hauled_121 rfl ?_
      refine j_if_lt (tgt := 146) C (by omega) dL_hauled_123 (by decide) (fun c123 => absurd c123 (by omega)) (fun c123 => ?_)
      refine j_iload C 2 dL_hauled_126 rfl ?_
      refine j_iload_n C 11 dL_hauled_128 rfl rfl ?_
      refine j_icmp_gt (tgt := 146) C (by omega) (by omega) dL_hauled_129 (by decide) (fun c129 => absurd c129 (by omega)) (fun c129 => ?_)
      refine j_iload C 3 dL_hauled_132 rfl ?_
      have hno : RU kn f v = 0 := RU_no hk hf.2 (Or.inr ⟨nb, hnb, hnx, by omega⟩)
      refine j_if_ne (tgt := 142) C (by decide) dL_hauled_134 (by decide) (fun c134 => absurd c134 (by decide)) (fun c134 => ?_)
      refine j_iload C 2 dL_hauled_137 rfl ?_
      refine j_if_ne (tgt := 146) C (by omega) dL_hauled_139 (by decide) (fun c139 => absurd c139 (by omega)) (fun c139 => ?_)
      refine J.sub (L1 := [(15, .int (iI 0)), (14, .int (iI 0)), (13, .int (iI (RU kn f v))), (10, .int (iI (kn 0 4))), (8, .long (lI (kn 0 8 + psF (fun j => (KU kn f v 4 j - kn 4 j) * KU kn f v 3 j) 0))), (6, .long (lI (kn 0 7))), (5, .int (iI (hnd kn))), (0, .ref (r 0)), (1, .int (iI f)), (2, .int (iI v)), (3, .ref z1), (4, .ref z2)]) [0, 1, 2, 5, 6, 7, 8, 9, 10, 11, 12, 13] rfl ?_
      exact kj142_2
    · refine j_aload_n C 5 dL_hauled_89 rfl rfl ?_
      refine j_iload C 0 dL_hauled_90 rfl ?_
      refine j_iconst C dL_hauled_92 ?_
      refine j_callSW (As := [.ref (r 0), .int (iI ((nb : Int))), .int (iI 4)]) (rest := []) C yw_L_block qw456 (w_block l g r qn qt qv (rck kn true) kt1 kv sc ns tx tn pl (nb : Int) 4 hT1 (by omega) (by omega)) (by decide) rfl dL_hauled_93 rfl (Nat.le_of_ble_eq_true rfl) (by decide) (pfL [(z2, aI g 4 (cpy 4 (kn 4) (fun _ => 0))), (z1, aI g 4 (cpy 4 (fun j => KU kn f v 4 j - kn 4 j) (fun _ => 0)))]) rfl (fun r9 w9 hq9 => ?_)
      obtain ⟨rfl, rfl⟩ := hq9
      refine J.to (L1 := [(11, .int (iI ((nb : Int)))), (10, .int (iI (kn 0 4))), (8, .long (lI (kn 0 8 + psF (fun j => (KU kn f v 4 j - kn 4 j) * KU kn f v 3 j) 0))), (6, .long (lI (kn 0 7))), (5, .int (iI (hnd kn))), (0, .ref (r 0)), (1, .int (iI f)), (2, .int (iI v)), (3, .ref z1), (4, .ref z2)]) (S1 := [.int (iI (lef (rck kn true) true nb))]) (ws1 := ([(z2, aI g 4 (cpy 4 (kn 4) (fun _ => 0))), (z1, aI g 4 (cpy 4 (fun j => KU kn f v 4 j - kn 4 j) (fun _ => 0)))] ++ (wTp g r qn qt qv (rck kn true) kt1 kv sc ns tx tn pl))) rfl rfl rfl ?_
      refine j_iload_n C 6 dL_hauled_96 rfl rfl ?_
      refine j_icmp_gt (tgt := 104) C (by omega) (by omega) dL_hauled_97 (by decide) (fun c97 => ?_) (fun c97 => ?_)
      · refine j_iconst C dL_hauled_104 ?_
        refine j_istore (L1 := [(12, .int (iI 0)), (11, .int (iI ((nb : Int)))), (10, .int (iI (kn 0 4))), (8, .long (lI (kn 0 8 + psF (fun j => (KU kn f v 4 j - kn 4 j) * KU kn f v 3 j) 0))), (6, .long (lI (kn 0 7))), (5, .int (iI (hnd kn))), (0, .ref (r 0)), (1, .int (iI f)), (2, .int (iI v)), (3, .ref z1), (4, .ref z2)]) C dL_hauled_105 (by decide) rfl ?_
        refine j_aload_n C 6 dL_hauled_107 rfl rfl ?_
        refine j_iload_n C 7 dL_hauled_108 rfl rfl ?_
        refine j_iload_n C 8 dL_hauled_109 rfl rfl ?_
        refine j_callSW (As := [.ref (r 0), .int (iI f), .int (iI v)]) (rest := []) C yw_L_hauls qw368 (w_hauls l g r qn qt qv (rck kn true) kt1 kv sc ns tx tn pl f v hT1 (by omega) (by omega)) (by decide) rfl dL_hauled_110 rfl (Nat.le_of_ble_eq_true rfl) (by decide) (pfL [(z2, aI g 4 (cpy 4 (kn 4) (fun _ => 0))), (z1, aI g 4 (cpy 4 (fun j => KU kn f v 4 j - kn 4 j) (fun _ => 0)))]) rfl (fun r9 w9 hq9 => ?_)
        obtain ⟨rfl, rfl⟩ := hq9
        refine J.to (L1 := [(12, .int (iI 0)), (11, .int (iI ((nb : Int)))), (10, .int (iI (kn 0 4))), (8, .long (lI (kn 0 8 + psF (fun j => (KU kn f v 4 j - kn 4 j) * KU kn f v 3 j) 0))), (6, .long (lI (kn 0 7))), (5, .int (iI (hnd kn))), (0, .ref (r 0)), (1, .int (iI f)), (2, .int (iI v)), (3, .ref z1), (4, .ref z2)]) (S1 := [.int (iI (((mup f v (rck kn true)).2)))]) (ws1 := ([(z2, aI g 4 (cpy 4 (kn 4) (fun _ => 0))), (z1, aI g 4 (cpy 4 (fun j => KU kn f v 4 j - kn 4 j) (fun _ => 0)))] ++ (wTp g r qn qt qv ((mup f v (rck kn true)).1) kt1 (svk (rck kn true) kv ns) (svs sc) (svn ns) tx tn pl))) rfl rfl rfl ?_
        refine J.to (L1 := [(12, .int (iI 0)), (11, .int (iI ((nb : Int)))), (10, .int (iI (kn 0 4))), (8, .long (lI (kn 0 8 + psF (fun j => (KU kn f v 4 j - kn 4 j) * KU kn f v 3 j) 0))), (6, .long (lI (kn 0 7))), (5, .int (iI (hnd kn))), (0, .ref (r 0)), (1, .int (iI f)), (2, .int (iI v)), (3, .ref z1), (4, .ref z2)]) (S1 := [.int (iI (RU kn f v))]) (ws1 := ([(z2, aI g 4 (cpy 4 (kn 4) (fun _ => 0))), (z1, aI g 4 (cpy 4 (fun j => KU kn f v 4 j - kn 4 j) (fun _ => 0)))] ++ (wTp g r qn qt qv (KU kn f v) kt1 (svk (rck kn true) kv ns) (svs sc) (svn ns) tx tn pl))) rfl rfl rfl ?_
        refine j_istore (L1 := [(13, .int (iI (RU kn f v))), (12, .int (iI 0)), (11, .int (iI ((nb : Int)))), (10, .int (iI (kn 0 4))), (8, .long (lI (kn 0 8 + psF (fun j => (KU kn f v 4 j - kn 4 j) * KU kn f v 3 j) 0))), (6, .long (lI (kn 0 7))), (5, .int (iI (hnd kn))), (0, .ref (r 0)), (1, .int (iI f)), (2, .int (iI v)), (3, .ref z1), (4, .ref z2)]) C dL_hauled_113 (by decide) rfl ?_
        refine j_iconst C dL_hauled_115 ?_
        refine j_istore (L1 := [(14, .int (iI 0)), (13, .int (iI (RU kn f v))), (12, .int (iI 0)), (11, .int (iI ((nb : Int)))), (10, .int (iI (kn 0 4))), (8, .long (lI (kn 0 8 + psF (fun j => (KU kn f v 4 j - kn 4 j) * KU kn f v 3 j) 0))), (6, .long (lI (kn 0 7))), (5, .int (iI (hnd kn))), (0, .ref (r 0)), (1, .int (iI f)), (2, .int (iI v)), (3, .ref z1), (4, .ref z2)]) C dL_hauled_116 (by decide) rfl ?_
        refine j_iconst C dL_hauled_118 ?_
        refine j_istore (L1 := [(15, .int (iI 0)), (14, .int (iI 0)), (13, .int (iI (RU kn f v))), (12, .int (iI 0)), (11, .int (iI ((nb : Int)))), (10, .int (iI (kn 0 4))), (8, .long (lI (kn 0 8 + psF (fun j => (KU kn f v 4 j - kn 4 j) * KU kn f v 3 j) 0))), (6, .long (lI (kn 0 7))), (5, .int (iI (hnd kn))), (0, .ref (r 0)), (1, .int (iI f)), (2, .int (iI v)), (3, .ref z1), (4, .ref z2)]) C dL_hauled_119 (by decide) rfl ?_
        refine j_iload C 2 dL_hauled_121 rfl ?_
        refine j_if_lt (tgt := 146) C (by omega) dL_hauled_123 (by decide) (fun c123 => absurd c123 (by omega)) (fun c123 => ?_)
        refine j_iload C 2 dL_hauled_126 rfl ?_
        refine j_iload_n C 11 dL_hauled_128 rfl rfl ?_
        refine j_icmp_gt (tgt := 146) C (by omega) (by omega) dL_hauled_129 (by decide) (fun c129 => absurd c129 (by omega)) (fun c129 => ?_)
        refine j_iload C 3 dL_hauled_132 rfl ?_
        have hno : RU kn f v = 0 := RU_no hk hf.2 (Or.inr ⟨nb, hnb, hnx, by omega⟩)
        refine j_if_ne (tgt := 142) C (by decide) dL_hauled_134 (by decide) (fun c134 => absurd c134 (by decide)) (fun c134 => ?_)
        refine j_iload C 2 dL_hauled_137 rfl ?_
        refine j_if_ne (tgt := 146) C (by omega) dL_hauled_139 (by decide) (fun c139 => absurd c139 (by omega)) (fun c139 => ?_)
        refine J.sub (L1 := [(15, .int (iI 0)), (14, .int (iI 0)), (13, .int (iI (RU kn f v))), (10, .int (iI (kn 0 4))), (8, .long (lI (kn 0 8 + psF (fun j => (KU kn f v 4 j - kn 4 j) * KU kn f v 3 j) 0))), (6, .long (lI (kn 0 7))), (5, .int (iI (hnd kn))), (0, .ref (r 0)), (1, .int (iI f)), (2, .int (iI v)), (3, .ref z1), (4, .ref z2)]) [0, 1, 2, 5, 6, 7, 8, 9, 10, 11, 12, 13] rfl ?_
        exact kj142_2
      · refine j_iconst C dL_hauled_100 ?_
        refine j_goto (tgt := 105) C dL_hauled_101 (by decide) ?_
        refine j_istore (L1 := [(12, .int (iI 1)), (11, .int (iI ((nb : Int)))), (10, .int (iI (kn 0 4))), (8, .long (lI (kn 0 8 + psF (fun j => (KU kn f v 4 j - kn 4 j) * KU kn f v 3 j) 0))), (6, .long (lI (kn 0 7))), (5, .int (iI (hnd kn))), (0, .ref (r 0)), (1, .int (iI f)), (2, .int (iI v)), (3, .ref z1), (4, .ref z2)]) C dL_hauled_105 (by decide) rfl ?_
        refine j_aload_n C 6 dL_hauled_107 rfl rfl ?_
        refine j_iload_n C 7 dL_hauled_108 rfl rfl ?_
        refine j_iload_n C 8 dL_hauled_109 rfl rfl ?_
        refine j_callSW (As := [.ref (r 0), .int (iI f), .int (iI v)]) (rest := []) C yw_L_hauls qw368 (w_hauls l g r qn qt qv (rck kn true) kt1 kv sc ns tx tn pl f v hT1 (by omega) (by omega)) (by decide) rfl dL_hauled_110 rfl (Nat.le_of_ble_eq_true rfl) (by decide) (pfL [(z2, aI g 4 (cpy 4 (kn 4) (fun _ => 0))), (z1, aI g 4 (cpy 4 (fun j => KU kn f v 4 j - kn 4 j) (fun _ => 0)))]) rfl (fun r9 w9 hq9 => ?_)
        obtain ⟨rfl, rfl⟩ := hq9
        refine J.to (L1 := [(12, .int (iI 1)), (11, .int (iI ((nb : Int)))), (10, .int (iI (kn 0 4))), (8, .long (lI (kn 0 8 + psF (fun j => (KU kn f v 4 j - kn 4 j) * KU kn f v 3 j) 0))), (6, .long (lI (kn 0 7))), (5, .int (iI (hnd kn))), (0, .ref (r 0)), (1, .int (iI f)), (2, .int (iI v)), (3, .ref z1), (4, .ref z2)]) (S1 := [.int (iI (((mup f v (rck kn true)).2)))]) (ws1 := ([(z2, aI g 4 (cpy 4 (kn 4) (fun _ => 0))), (z1, aI g 4 (cpy 4 (fun j => KU kn f v 4 j - kn 4 j) (fun _ => 0)))] ++ (wTp g r qn qt qv ((mup f v (rck kn true)).1) kt1 (svk (rck kn true) kv ns) (svs sc) (svn ns) tx tn pl))) rfl rfl rfl ?_
        refine J.to (L1 := [(12, .int (iI 1)), (11, .int (iI ((nb : Int)))), (10, .int (iI (kn 0 4))), (8, .long (lI (kn 0 8 + psF (fun j => (KU kn f v 4 j - kn 4 j) * KU kn f v 3 j) 0))), (6, .long (lI (kn 0 7))), (5, .int (iI (hnd kn))), (0, .ref (r 0)), (1, .int (iI f)), (2, .int (iI v)), (3, .ref z1), (4, .ref z2)]) (S1 := [.int (iI (RU kn f v))]) (ws1 := ([(z2, aI g 4 (cpy 4 (kn 4) (fun _ => 0))), (z1, aI g 4 (cpy 4 (fun j => KU kn f v 4 j - kn 4 j) (fun _ => 0)))] ++ (wTp g r qn qt qv (KU kn f v) kt1 (svk (rck kn true) kv ns) (svs sc) (svn ns) tx tn pl))) rfl rfl rfl ?_
        refine j_istore (L1 := [(13, .int (iI (RU kn f v))), (12, .int (iI 1)), (11, .int (iI ((nb : Int)))), (10, .int (iI (kn 0 4))), (8, .long (lI (kn 0 8 + psF (fun j => (KU kn f v 4 j - kn 4 j) * KU kn f v 3 j) 0))), (6, .long (lI (kn 0 7))), (5, .int (iI (hnd kn))), (0, .ref (r 0)), (1, .int (iI f)), (2, .int (iI v)), (3, .ref z1), (4, .ref z2)]) C dL_hauled_113 (by decide) rfl ?_
        refine j_iconst C dL_hauled_115 ?_
        refine j_istore (L1 := [(14, .int (iI 0)), (13, .int (iI (RU kn f v))), (12, .int (iI 1)), (11, .int (iI ((nb : Int)))), (10, .int (iI (kn 0 4))), (8, .long (lI (kn 0 8 + psF (fun j => (KU kn f v 4 j - kn 4 j) * KU kn f v 3 j) 0))), (6, .long (lI (kn 0 7))), (5, .int (iI (hnd kn))), (0, .ref (r 0)), (1, .int (iI f)), (2, .int (iI v)), (3, .ref z1), (4, .ref z2)]) C dL_hauled_116 (by decide) rfl ?_
        refine j_iconst C dL_hauled_118 ?_
        refine j_istore (L1 := [(15, .int (iI 0)), (14, .int (iI 0)), (13, .int (iI (RU kn f v))), (12, .int (iI 1)), (11, .int (iI ((nb : Int)))), (10, .int (iI (kn 0 4))), (8, .long (lI (kn 0 8 + psF (fun j => (KU kn f v 4 j - kn 4 j) * KU kn f v 3 j) 0))), (6, .long (lI (kn 0 7))), (5, .int (iI (hnd kn))), (0, .ref (r 0)), (1, .int (iI f)), (2, .int (iI v)), (3, .ref z1), (4, .ref z2)]) C dL_hauled_119 (by decide) rfl ?_
        refine j_iload C 2 dL_hauled_121 rfl ?_
        refine j_if_lt (tgt := 146) C (by omega) dL_hauled_123 (by decide) (fun c123 => absurd c123 (by omega)) (fun c123 => ?_)
        refine j_iload C 2 dL_hauled_126 rfl ?_
        refine j_iload_n C 11 dL_hauled_128 rfl rfl ?_
        refine j_icmp_gt (tgt := 146) C (by omega) (by omega) dL_hauled_129 (by decide) (fun c129 => absurd c129 (by omega)) (fun c129 => ?_)
        refine j_iload C 3 dL_hauled_132 rfl ?_
        refine j_if_ne (tgt := 142) C (by decide) dL_hauled_134 (by decide) (fun c134 => ?_) (fun c134 => absurd c134 (by decide))
        refine J.sub (L1 := [(15, .int (iI 0)), (14, .int (iI 0)), (13, .int (iI (RU kn f v))), (10, .int (iI (kn 0 4))), (8, .long (lI (kn 0 8 + psF (fun j => (KU kn f v 4 j - kn 4 j) * KU kn f v 3 j) 0))), (6, .long (lI (kn 0 7))), (5, .int (iI (hnd kn))), (0, .ref (r 0)), (1, .int (iI f)), (2, .int (iI v)), (3, .ref z1), (4, .ref z2)]) [0, 1, 2, 5, 6, 7, 8, 9, 10, 11, 12, 13] rfl ?_
        exact kj142_2

