/-! the law: letOut -/
noncomputable abbrev KD (k : Nat → Nat → Int) (f v : Int) : Nat → Nat → Int := (mdn f v k).1
noncomputable abbrev RD (k : Nat → Nat → Int) (f v : Int) : Int := (mdn f v k).2
set_option maxRecDepth 100000 in
set_option maxHeartbeats 4000000 in
theorem lp_let1 {p : Program} {l : Launch} {e : Env} {s : State} {m : MethodId} {args : Array Value} {below : List Frame} {meth : Method} {c : Code} {A : Nat → Prop} {Q : State → Prop} {g : Gh} {r : Nat → Nat} {qn qt : Nat → Nat} {qv : Nat → Nat → Nat} {kn : Nat → Nat → Int} {kv : Nat → Nat → Nat → Int} {sc : Int} {ns : Nat} {tx : Nat → Int} {tn : Nat} {pl : Int} {kt : Nat → Nat → Int} (C : Cx p g s m args c cL_letOut 14 RL A) (hl : l.stackTraces = false) (hT : TOK kn kv sc ns tx tn) {f v : Int} (hf : 0 ≤ f ∧ f ≤ 1000000) (hv : 0 ≤ v ∧ v ≤ 100000) {a1 : Nat} (kk : J p l e ({ frames := 9, cells := 1, slots := 4, locals := 193 } : Room) s m args below meth c g A 14 52 [(0, .ref (r 0)), (1, .int (iI f)), (2, .int (iI v)), (3, .int (iI (hnd kn))), (4, .long (lI (kn 0 7))), (6, .long (lI (kn 0 8))), (8, .ref a1)] [] ([(a1, aI g 4 (cpy 4 (kn 4) (fun _ => 0)))] ++ (wTp g r qn qt qv kn kt kv sc ns tx tn pl)) 1 4 Q) : ∀ (n i : Nat), i + n = 4 → J p l e ({ frames := 9, cells := 1, slots := 4, locals := 193 } : Room) s m args below meth c g A 14 28 [(0, .ref (r 0)), (1, .int (iI f)), (2, .int (iI v)), (3, .int (iI (hnd kn))), (4, .long (lI (kn 0 7))), (6, .long (lI (kn 0 8))), (8, .ref a1), (9, .int (iI ((i : Int))))] [] ([(a1, aI g 4 (cpy i (kn 4) (fun _ => 0)))] ++ (wTp g r qn qt qv kn kt kv sc ns tx tn pl)) 1 4 Q := by
  intro n
  induction n with
  | zero =>
    intro i hi 
    have hi9 : 4 = i := by omega
    subst hi9
    refine j_iload C 7 dL_letOut_28 rfl ?_
    refine j_iconst C dL_letOut_30 ?_
    refine j_icmp_ge (tgt := 52) C (by omega) (by decide) dL_letOut_31 (by decide) (fun c31 => ?_) (fun c31 => absurd c31 (by omega))
    refine J.sub (L1 := [(0, .ref (r 0)), (1, .int (iI f)), (2, .int (iI v)), (3, .int (iI (hnd kn))), (4, .long (lI (kn 0 7))), (6, .long (lI (kn 0 8))), (8, .ref a1)]) [0, 1, 2, 3, 4, 5, 6] rfl ?_
    exact kk
  | succ n ih =>
    intro i hi 
    have hi4 : i < 4 := by omega
    refine j_iload C 7 dL_letOut_28 rfl ?_
    refine j_iconst C dL_letOut_30 ?_
    refine j_icmp_ge (tgt := 52) C (by omega) (by decide) dL_letOut_31 (by decide) (fun c31 => absurd c31 (by omega)) (fun c31 => ?_)
    refine j_aload C 6 dL_letOut_34 rfl ?_
    refine j_iload C 7 dL_letOut_36 rfl ?_
    refine j_aload_n C 0 dL_letOut_38 rfl rfl ?_
    refine j_iload C 7 dL_letOut_39 rfl ?_
    refine j_iconst C dL_letOut_41 ?_
    refine j_callSW (As := [.ref (r 0), .int (iI ((i : Int))), .int (iI 1)]) (rest := [.int (iI ((i : Int))), .ref a1]) C yw_L_block qw456 (w_block l g r qn qt qv kn kt kv sc ns tx tn pl (i : Int) 1 hT (by omega) (by omega)) (by decide) rfl dL_letOut_42 rfl (Nat.le_of_ble_eq_true rfl) (by decide) (pfL [(a1, aI g 4 (cpy i (kn 4) (fun _ => 0)))]) rfl (fun r9 w9 hq9 => ?_)
    obtain ⟨rfl, rfl⟩ := hq9
    refine J.to (L1 := [(0, .ref (r 0)), (1, .int (iI f)), (2, .int (iI v)), (3, .int (iI (hnd kn))), (4, .long (lI (kn 0 7))), (6, .long (lI (kn 0 8))), (8, .ref a1), (9, .int (iI ((i : Int))))]) (S1 := [.int (iI (kn 4 i)), .int (iI ((i : Int))), .ref a1]) (ws1 := ([(a1, aI g 4 (cpy i (kn 4) (fun _ => 0)))] ++ (wTp g r qn qt qv kn kt kv sc ns tx tn pl))) rfl rfl rfl ?_
    refine j_iast (n := 4) (f := cpy i (kn 4) (fun _ => 0)) (ws1 := ([(a1, aI g 4 (va_up (cpy i (kn 4) (fun _ => 0)) i (kn 4 i)))] ++ (wTp g r qn qt qv kn kt kv sc ns tx tn pl))) C 0 i rfl rfl (by omega) (by decide) dL_letOut_45 rfl ?_
    refine j_iinc (L1 := [(9, .int (iI (((i : Int)) + 1))), (0, .ref (r 0)), (1, .int (iI f)), (2, .int (iI v)), (3, .int (iI (hnd kn))), (4, .long (lI (kn 0 7))), (6, .long (lI (kn 0 8))), (8, .ref a1)]) C 7 dL_letOut_46 rfl (by decide) rfl ?_
    refine j_goto (tgt := 28) C dL_letOut_49 (by decide) ?_
    refine J.sub (L1 := [(0, .ref (r 0)), (1, .int (iI f)), (2, .int (iI v)), (3, .int (iI (hnd kn))), (4, .long (lI (kn 0 7))), (6, .long (lI (kn 0 8))), (8, .ref a1), (9, .int (iI (((i : Int)) + 1)))]) [1, 2, 3, 4, 5, 6, 7, 0] rfl ?_
    rw [cpy_succ i (kn 4) (fun _ => 0)]
    exact ih (i + 1) (by omega)

set_option maxRecDepth 100000 in
set_option maxHeartbeats 4000000 in
theorem lp_let2 {p : Program} {l : Launch} {e : Env} {s : State} {m : MethodId} {args : Array Value} {below : List Frame} {meth : Method} {c : Code} {A : Nat → Prop} {Q : State → Prop} {g : Gh} {r : Nat → Nat} {qn qt : Nat → Nat} {qv : Nat → Nat → Nat} {kv : Nat → Nat → Nat → Int} {sc : Int} {ns : Nat} {tx : Nat → Int} {tn : Nat} {pl : Int} {kt : Nat → Nat → Int} (C : Cx p g s m args c cL_letOut 14 RL A) (hl : l.stackTraces = false) {K : Nat → Nat → Int} (hTK : TOK K kv sc ns tx tn) {f rop : Int} {h0 : Nat → Int} (hf : 0 ≤ f ∧ f ≤ 1000000) (hh : ∀ b : Nat, b < 4 → K 4 b ≤ h0 b ∧ (K 4 b ≠ h0 b → f < lef K false b)) (hh0 : ∀ b : Nat, b < 4 → h0 b ≤ 9000) {a1 : Nat} (kk : J p l e ({ frames := 9, cells := 1, slots := 4, locals := 193 } : Room) s m args below meth c g A 14 199 [(0, .ref (r 0)), (1, .int (iI f)), (8, .ref a1), (9, .int (iI rop)), (10, .int (iI (psF (fun j => (h0 j - K 4 j) * msf K j) 4))), (11, .int (iI 1))] [] ([(a1, aI g 4 (cpy 4 h0 (fun _ => 0)))] ++ (wTp g r qn qt qv K kt kv sc ns tx tn pl)) 1 4 Q) : ∀ (n i : Nat), i + n = 4 → J p l e ({ frames := 9, cells := 1, slots := 4, locals := 193 } : Room) s m args below meth c g A 14 124 [(0, .ref (r 0)), (1, .int (iI f)), (8, .ref a1), (9, .int (iI rop)), (10, .int (iI (psF (fun j => (h0 j - K 4 j) * msf K j) i))), (11, .int (iI 1)), (12, .int (iI ((i : Int))))] [] ([(a1, aI g 4 (cpy 4 h0 (fun _ => 0)))] ++ (wTp g r qn qt qv K kt kv sc ns tx tn pl)) 1 4 Q := by
  intro n
  induction n with
  | zero =>
    intro i hi 
    have hi9 : 4 = i := by omega
    subst hi9
    refine j_iload C 6 dL_letOut_124 rfl ?_
    refine j_iconst C dL_letOut_126 ?_
    refine j_icmp_ge (tgt := 199) C (by omega) (by decide) dL_letOut_127 (by decide) (fun c127 => ?_) (fun c127 => absurd c127 (by omega))
    refine J.sub (L1 := [(0, .ref (r 0)), (1, .int (iI f)), (8, .ref a1), (9, .int (iI rop)), (10, .int (iI (psF (fun j => (h0 j - K 4 j) * msf K j) 4))), (11, .int (iI 1))]) [0, 1, 2, 3, 4, 5] rfl ?_
    exact kk
  | succ n ih =>
    intro i hi 
    obtain ⟨hP, hE, hF, hrow, hwt, hht, hlen, hlat, hkept⟩ := id hTK.1.1
    have hi4 : i < 4 := by omega
    have hhi := hh i hi4
    have h0i := hh0 i hi4
    have hti := hht i hi4
    have hlr := lef_rng K false i
    refine j_iload C 6 dL_letOut_124 rfl ?_
    refine j_iconst C dL_letOut_126 ?_
    refine j_icmp_ge (tgt := 199) C (by omega) (by decide) dL_letOut_127 (by decide) (fun c127 => absurd c127 (by omega)) (fun c127 => ?_)
    refine j_aload C 2 dL_letOut_130 rfl ?_
    refine j_iload C 6 dL_letOut_132 rfl ?_
    refine j_iald (n := 4) (f := cpy 4 h0 (fun _ => 0)) C 0 i rfl rfl (by omega) (by decide) dL_letOut_134 ?_
    refine J.to (L1 := [(0, .ref (r 0)), (1, .int (iI f)), (8, .ref a1), (9, .int (iI rop)), (10, .int (iI (psF (fun j => (h0 j - K 4 j) * msf K j) i))), (11, .int (iI 1)), (12, .int (iI ((i : Int))))]) (S1 := [.int (iI (h0 i))]) (ws1 := ([(a1, aI g 4 (cpy 4 h0 (fun _ => 0)))] ++ (wTp g r qn qt qv K kt kv sc ns tx tn pl))) rfl rfl (congrArg (fun x9 : Int => ([.int (iI x9)] : List Value)) (show ((cpy 4 h0 (fun _ => 0)) i : Int) = h0 i from (cpy_lt hi4))) ?_
    refine j_aload_n C 0 dL_letOut_135 rfl rfl ?_
    refine j_iload C 6 dL_letOut_136 rfl ?_
    refine j_iconst C dL_letOut_138 ?_
    refine j_callSW (As := [.ref (r 0), .int (iI ((i : Int))), .int (iI 1)]) (rest := [.int (iI (h0 i))]) C yw_L_block qw456 (w_block l g r qn qt qv K kt kv sc ns tx tn pl (i : Int) 1 hTK (by omega) (by omega)) (by decide) rfl dL_letOut_139 rfl (Nat.le_of_ble_eq_true rfl) (by decide) (pfL [(a1, aI g 4 (cpy 4 h0 (fun _ => 0)))]) rfl (fun r9 w9 hq9 => ?_)
    obtain ⟨rfl, rfl⟩ := hq9
    refine J.to (L1 := [(0, .ref (r 0)), (1, .int (iI f)), (8, .ref a1), (9, .int (iI rop)), (10, .int (iI (psF (fun j => (h0 j - K 4 j) * msf K j) i))), (11, .int (iI 1)), (12, .int (iI ((i : Int))))]) (S1 := [.int (iI (K 4 i)), .int (iI (h0 i))]) (ws1 := ([(a1, aI g 4 (cpy 4 h0 (fun _ => 0)))] ++ (wTp g r qn qt qv K kt kv sc ns tx tn pl))) rfl rfl rfl ?_
    refine j_isub C dL_letOut_142 ?_
    refine j_istore (L1 := [(13, .int (iI ((h0 i) - (K 4 i)))), (0, .ref (r 0)), (1, .int (iI f)), (8, .ref a1), (9, .int (iI rop)), (10, .int (iI (psF (fun j => (h0 j - K 4 j) * msf K j) i))), (11, .int (iI 1)), (12, .int (iI ((i : Int))))]) C dL_letOut_143 (by decide) rfl ?_
    refine j_iload C 6 dL_letOut_145 rfl ?_
    refine j_if_eq (tgt := 175) C (by decide) dL_letOut_147 (by decide) (fun c147 => absurd c147 (by decide)) (fun c147 => ?_)
    refine j_iload C 0 dL_letOut_150 rfl ?_
    refine j_if_lt (tgt := 175) C (by omega) dL_letOut_152 (by decide) (fun c152 => absurd c152 (by omega)) (fun c152 => ?_)
    have kj171_0 : J p l e ({ frames := 9, cells := 1, slots := 4, locals := 193 } : Room) s m args below meth c g A 14 171 [(13, .int (iI ((h0 i) - (K 4 i)))), (0, .ref (r 0)), (1, .int (iI f)), (8, .ref a1), (9, .int (iI rop)), (10, .int (iI (psF (fun j => (h0 j - K 4 j) * msf K j) i))), (11, .int (iI 1)), (12, .int (iI ((i : Int))))] [] ([(a1, aI g 4 (cpy 4 h0 (fun _ => 0)))] ++ (wTp g r qn qt qv K kt kv sc ns tx tn pl)) 1 4 Q := by
      refine j_iconst C dL_letOut_171 ?_
      refine j_goto (tgt := 176) C dL_letOut_172 (by decide) ?_
      refine j_istore (L1 := [(11, .int (iI 1)), (13, .int (iI ((h0 i) - (K 4 i)))), (0, .ref (r 0)), (1, .int (iI f)), (8, .ref a1), (9, .int (iI rop)), (10, .int (iI (psF (fun j => (h0 j - K 4 j) * msf K j) i))), (12, .int (iI ((i : Int))))]) C dL_letOut_176 (by decide) rfl ?_
      refine j_iload C 6 dL_letOut_178 rfl ?_
      refine j_iload C 1 dL_letOut_180 rfl ?_
      refine j_aload_n C 2 dL_letOut_182 rfl rfl ?_
      refine j_iload C 7 dL_letOut_183 rfl ?_
      refine j_iconst C dL_letOut_185 ?_
      refine j_callSW (As := [.ref (r 0), .int (iI ((i : Int))), .int (iI 2)]) (rest := [.int (iI ((h0 i) - (K 4 i))), .int (iI (psF (fun j => (h0 j - K 4 j) * msf K j) i))]) C yw_L_block qw456 (w_block l g r qn qt qv K kt kv sc ns tx tn pl (i : Int) 2 hTK (by omega) (by omega)) (by decide) rfl dL_letOut_186 rfl (Nat.le_of_ble_eq_true rfl) (by decide) (pfL [(a1, aI g 4 (cpy 4 h0 (fun _ => 0)))]) rfl (fun r9 w9 hq9 => ?_)
      obtain ⟨rfl, rfl⟩ := hq9
      refine J.to (L1 := [(11, .int (iI 1)), (13, .int (iI ((h0 i) - (K 4 i)))), (0, .ref (r 0)), (1, .int (iI f)), (8, .ref a1), (9, .int (iI rop)), (10, .int (iI (psF (fun j => (h0 j - K 4 j) * msf K j) i))), (12, .int (iI ((i : Int))))]) (S1 := [.int (iI (msf K i)), .int (iI ((h0 i) - (K 4 i))), .int (iI (psF (fun j => (h0 j - K 4 j) * msf K j) i))]) (ws1 := ([(a1, aI g 4 (cpy 4 h0 (fun _ => 0)))] ++ (wTp g r qn qt qv K kt kv sc ns tx tn pl))) rfl rfl rfl ?_
      refine j_imul C dL_letOut_189 ?_
      refine j_iadd C dL_letOut_190 ?_
      refine j_istore (L1 := [(10, .int (iI ((psF (fun j => (h0 j - K 4 j) * msf K j) i) + (((h0 i) - (K 4 i)) * (msf K i))))), (11, .int (iI 1)), (13, .int (iI ((h0 i) - (K 4 i)))), (0, .ref (r 0)), (1, .int (iI f)), (8, .ref a1), (9, .int (iI rop)), (12, .int (iI ((i : Int))))]) C dL_letOut_191 (by decide) rfl ?_
      refine j_iinc (L1 := [(12, .int (iI (((i : Int)) + 1))), (10, .int (iI ((psF (fun j => (h0 j - K 4 j) * msf K j) i) + (((h0 i) - (K 4 i)) * (msf K i))))), (11, .int (iI 1)), (13, .int (iI ((h0 i) - (K 4 i)))), (0, .ref (r 0)), (1, .int (iI f)), (8, .ref a1), (9, .int (iI rop))]) C 7 dL_letOut_193 rfl (by decide) rfl ?_
      refine j_goto (tgt := 124) C dL_letOut_196 (by decide) ?_
      refine J.sub (L1 := [(0, .ref (r 0)), (1, .int (iI f)), (8, .ref a1), (9, .int (iI rop)), (10, .int (iI ((psF (fun j => (h0 j - K 4 j) * msf K j) i) + (((h0 i) - (K 4 i)) * (msf K i))))), (11, .int (iI 1)), (12, .int (iI (((i : Int)) + 1)))]) [4, 5, 6, 7, 1, 2, 0] rfl ?_
      exact ih (i + 1) (by omega)
    refine j_iload C 0 dL_letOut_155 rfl ?_
    refine j_if_eq (tgt := 171) C (by omega) dL_letOut_157 (by decide) (fun c157 => ?_) (fun c157 => ?_)
    · refine J.sub (L1 := [(13, .int (iI ((h0 i) - (K 4 i)))), (0, .ref (r 0)), (1, .int (iI f)), (8, .ref a1), (9, .int (iI rop)), (10, .int (iI (psF (fun j => (h0 j - K 4 j) * msf K j) i))), (11, .int (iI 1)), (12, .int (iI ((i : Int))))]) [0, 1, 2, 3, 4, 5, 6, 7] rfl ?_
      exact kj171_0
    · refine j_aload_n C 1 dL_letOut_160 rfl rfl ?_
      refine j_iload C 7 dL_letOut_161 rfl ?_
      refine j_iconst C dL_letOut_163 ?_
      refine j_callSW (As := [.ref (r 0), .int (iI ((i : Int))), .int (iI 5)]) (rest := []) C yw_L_block qw456 (w_block l g r qn qt qv K kt kv sc ns tx tn pl (i : Int) 5 hTK (by omega) (by omega)) (by decide) rfl dL_letOut_164 rfl (Nat.le_of_ble_eq_true rfl) (by decide) (pfL [(a1, aI g 4 (cpy 4 h0 (fun _ => 0)))]) rfl (fun r9 w9 hq9 => ?_)
      obtain ⟨rfl, rfl⟩ := hq9
      refine J.to (L1 := [(13, .int (iI ((h0 i) - (K 4 i)))), (0, .ref (r 0)), (1, .int (iI f)), (8, .ref a1), (9, .int (iI rop)), (10, .int (iI (psF (fun j => (h0 j - K 4 j) * msf K j) i))), (11, .int (iI 1)), (12, .int (iI ((i : Int))))]) (S1 := [.int (iI (lef K false i))]) (ws1 := ([(a1, aI g 4 (cpy 4 h0 (fun _ => 0)))] ++ (wTp g r qn qt qv K kt kv sc ns tx tn pl))) rfl rfl rfl ?_
      refine j_iload_n C 2 dL_letOut_167 rfl rfl ?_
      refine j_icmp_le (tgt := 175) C (by omega) (by omega) dL_letOut_168 (by decide) (fun c168 => absurd c168 (by omega)) (fun c168 => ?_)
      refine J.sub (L1 := [(13, .int (iI ((h0 i) - (K 4 i)))), (0, .ref (r 0)), (1, .int (iI f)), (8, .ref a1), (9, .int (iI rop)), (10, .int (iI (psF (fun j => (h0 j - K 4 j) * msf K j) i))), (11, .int (iI 1)), (12, .int (iI ((i : Int))))]) [0, 1, 2, 3, 4, 5, 6, 7] rfl ?_
      exact kj171_0

set_option maxRecDepth 100000 in
set_option maxHeartbeats 4000000 in
theorem c_L_letOut (l : Launch) (hl : l.stackTraces = false) (g : Gh) (r : Nat → Nat) (qn qt : Nat → Nat) (qv : Nat → Nat → Nat) (kn kt : Nat → Nat → Int) (kv : Nat → Nat → Nat → Int) (sc : Int) (ns : Nat) (tx : Nat → Int) (tn : Nat) (pl : Int) (n : Nat) (hI : IV n kn kv sc ns tx tn) (f v : Int) (hf : 0 ≤ f ∧ f ≤ 1000000) (hv : 0 ≤ v ∧ v ≤ 100000) : CT l g yL_letOut cL_letOut 14 (some FieldType.boolean) ({ frames := 9, cells := 1, slots := 4, locals := 193 }) [.ref (r 0), .int (iI f), .int (iI v)] (wTp g r qn qt qv kn kt kv sc ns tx tn pl) (AP g r qn qt qv (n + 1)) := by
  refine CT.intro (L0 := [(0, .ref (r 0)), (1, .int (iI f)), (2, .int (iI v))]) (own := RL) (by decide) rfl (Nat.le_of_ble_eq_true rfl) rfl ?_
  intro pX eX sX mX argsX belowX methX cX A C hr hlk
  have hT := hI.1
  obtain ⟨hP, hE, hF, hrow, hwt, hht, hlen, hlat, hkept⟩ := id hT.1.1
  have hk := hT.1.1
  have hh0 := hT.1.2
  have hhl := hnd_le hk
  have hLF : LF kn (KD kn f v) f v (RD kn f v) := LF_mdn hk hh0 hv.1
  obtain ⟨hr1, hr2, hr3, hr4, hr5, hr6⟩ := hLF
  have hI2 : IV (n + 1) (KD kn f v) (svk kn kv ns) (svs sc) (svn ns) tx tn := hI.dn hv
  refine j_aload_n C 0 dL_letOut_0 rfl rfl ?_
  refine j_iconst C dL_letOut_1 ?_
  refine j_callSW (As := [.ref (r 0), .int (iI 1)]) (rest := []) C yw_L_value qw443 (w_value l g r qn qt qv kn kt kv sc ns tx tn pl 1 hT (by omega)) (by decide) rfl dL_letOut_2 rfl (Nat.le_of_ble_eq_true rfl) (by decide) pf0 rfl (fun r9 w9 hq9 => ?_)
  obtain ⟨rfl, rfl⟩ := hq9
  refine J.to (L1 := [(0, .ref (r 0)), (1, .int (iI f)), (2, .int (iI v))]) (S1 := [.int (iI (hnd kn))]) (ws1 := (wTp g r qn qt qv kn kt kv sc ns tx tn pl)) rfl rfl rfl ?_
  refine j_istore_n (L1 := [(3, .int (iI (hnd kn))), (0, .ref (r 0)), (1, .int (iI f)), (2, .int (iI v))]) C dL_letOut_5 rfl (by decide) rfl ?_
  refine j_aload_n C 1 dL_letOut_6 rfl rfl ?_
  refine j_iconst C dL_letOut_7 ?_
  refine j_callV (As := [.int (iI 0)]) (rest := []) C yv_X4_work qw494 (c_X4_work l g r qn qt qv kn kt kv sc ns tx tn pl false hT) (by decide) 0 rfl rfl rfl dL_letOut_8 rfl (Nat.le_of_ble_eq_true rfl) (by decide) pf0 rfl (fun r9 w9 hq9 => ?_)
  obtain ⟨rfl, rfl⟩ := hq9
  refine J.to (L1 := [(3, .int (iI (hnd kn))), (0, .ref (r 0)), (1, .int (iI f)), (2, .int (iI v))]) (S1 := [.long (lI (kn 0 7))]) (ws1 := (wTp g r qn qt qv kn kt kv sc ns tx tn pl)) rfl rfl rfl ?_
  refine j_lstore (L1 := [(4, .long (lI (kn 0 7))), (3, .int (iI (hnd kn))), (0, .ref (r 0)), (1, .int (iI f)), (2, .int (iI v))]) C dL_letOut_11 (by decide) rfl ?_
  refine j_aload_n C 2 dL_letOut_13 rfl rfl ?_
  refine j_iconst C dL_letOut_14 ?_
  refine j_callV (As := [.int (iI 1)]) (rest := []) C yv_X4_work qw494 (c_X4_work l g r qn qt qv kn kt kv sc ns tx tn pl true hT) (by decide) 0 rfl rfl rfl dL_letOut_15 rfl (Nat.le_of_ble_eq_true rfl) (by decide) pf0 rfl (fun r9 w9 hq9 => ?_)
  obtain ⟨rfl, rfl⟩ := hq9
  refine J.to (L1 := [(4, .long (lI (kn 0 7))), (3, .int (iI (hnd kn))), (0, .ref (r 0)), (1, .int (iI f)), (2, .int (iI v))]) (S1 := [.long (lI (kn 0 8))]) (ws1 := (wTp g r qn qt qv kn kt kv sc ns tx tn pl)) rfl rfl rfl ?_
  refine j_lstore (L1 := [(6, .long (lI (kn 0 8))), (4, .long (lI (kn 0 7))), (3, .int (iI (hnd kn))), (0, .ref (r 0)), (1, .int (iI f)), (2, .int (iI v))]) C dL_letOut_18 (by decide) rfl ?_
  refine j_iconst C dL_letOut_20 ?_
  refine j_newI (N' := 4) C rfl (by decide) dL_letOut_21 (Nat.le_of_ble_eq_true rfl) (Nat.le_of_ble_eq_true rfl) (fun z1 => ?_)
  refine J.perm (w1 := ([(z1, aI g 4 (fun _ => 0))] ++ (wTp g r qn qt qv kn kt kv sc ns tx tn pl))) List.perm_append_comm ?_
  refine j_astore (L1 := [(8, .ref z1), (6, .long (lI (kn 0 8))), (4, .long (lI (kn 0 7))), (3, .int (iI (hnd kn))), (0, .ref (r 0)), (1, .int (iI f)), (2, .int (iI v))]) C dL_letOut_23 (by decide) rfl ?_
  refine j_iconst C dL_letOut_25 ?_
  refine j_istore (L1 := [(9, .int (iI 0)), (8, .ref z1), (6, .long (lI (kn 0 8))), (4, .long (lI (kn 0 7))), (3, .int (iI (hnd kn))), (0, .ref (r 0)), (1, .int (iI f)), (2, .int (iI v))]) C dL_letOut_26 (by decide) rfl ?_
  refine J.sub (L1 := [(0, .ref (r 0)), (1, .int (iI f)), (2, .int (iI v)), (3, .int (iI (hnd kn))), (4, .long (lI (kn 0 7))), (6, .long (lI (kn 0 8))), (8, .ref z1), (9, .int (iI 0))]) [5, 6, 7, 4, 3, 2, 1, 0] rfl ?_
  refine J.to (L1 := [(0, .ref (r 0)), (1, .int (iI f)), (2, .int (iI v)), (3, .int (iI (hnd kn))), (4, .long (lI (kn 0 7))), (6, .long (lI (kn 0 8))), (8, .ref z1), (9, .int (iI (((0 : Nat) : Int))))]) (S1 := []) (ws1 := ([(z1, aI g 4 (cpy 0 (kn 4) (fun _ => 0)))] ++ (wTp g r qn qt qv kn kt kv sc ns tx tn pl))) rfl rfl rfl ?_
  refine lp_let1 C hl hT hf hv ?_ 4 0 rfl
  refine j_aload_n C 0 dL_letOut_52 rfl rfl ?_
  refine j_iload_n C 1 dL_letOut_53 rfl rfl ?_
  refine j_iload_n C 2 dL_letOut_54 rfl rfl ?_
  refine j_callSW (As := [.ref (r 0), .int (iI f), .int (iI v)]) (rest := []) C yw_L_lets qw523 (w_lets l g r qn qt qv kn kt kv sc ns tx tn pl f v hT (by omega) (by omega)) (by decide) rfl dL_letOut_55 rfl (Nat.le_of_ble_eq_true rfl) (by decide) (pfL [(z1, aI g 4 (cpy 4 (kn 4) (fun _ => 0)))]) rfl (fun r9 w9 hq9 => ?_)
  obtain ⟨rfl, rfl⟩ := hq9
  refine J.to (L1 := [(0, .ref (r 0)), (1, .int (iI f)), (2, .int (iI v)), (3, .int (iI (hnd kn))), (4, .long (lI (kn 0 7))), (6, .long (lI (kn 0 8))), (8, .ref z1)]) (S1 := [.int (iI (((mdn f v kn).2)))]) (ws1 := ([(z1, aI g 4 (cpy 4 (kn 4) (fun _ => 0)))] ++ (wTp g r qn qt qv ((mdn f v kn).1) kt (svk kn kv ns) (svs sc) (svn ns) tx tn pl))) rfl rfl rfl ?_
  refine J.to (L1 := [(0, .ref (r 0)), (1, .int (iI f)), (2, .int (iI v)), (3, .int (iI (hnd kn))), (4, .long (lI (kn 0 7))), (6, .long (lI (kn 0 8))), (8, .ref z1)]) (S1 := [.int (iI (RD kn f v))]) (ws1 := ([(z1, aI g 4 (cpy 4 (kn 4) (fun _ => 0)))] ++ (wTp g r qn qt qv (KD kn f v) kt (svk kn kv ns) (svs sc) (svn ns) tx tn pl))) rfl rfl rfl ?_
  refine j_istore (L1 := [(9, .int (iI (RD kn f v))), (0, .ref (r 0)), (1, .int (iI f)), (2, .int (iI v)), (3, .int (iI (hnd kn))), (4, .long (lI (kn 0 7))), (6, .long (lI (kn 0 8))), (8, .ref z1)]) C dL_letOut_58 (by decide) rfl ?_
  refine j_iconst C dL_letOut_60 ?_
  refine j_istore (L1 := [(10, .int (iI 0)), (9, .int (iI (RD kn f v))), (0, .ref (r 0)), (1, .int (iI f)), (2, .int (iI v)), (3, .int (iI (hnd kn))), (4, .long (lI (kn 0 7))), (6, .long (lI (kn 0 8))), (8, .ref z1)]) C dL_letOut_61 (by decide) rfl ?_
  refine j_iload C 1 dL_letOut_63 rfl ?_
  refine j_if_lt (tgt := 118) C (by omega) dL_letOut_65 (by decide) (fun c65 => absurd c65 (by omega)) (fun c65 => ?_)
  refine j_iload C 1 dL_letOut_68 rfl ?_
  refine j_iload_n C 4 dL_letOut_70 rfl rfl ?_
  refine j_icmp_gt (tgt := 118) C (by omega) (by omega) dL_letOut_71 (by decide) (fun c71 => absurd c71 (by omega)) (fun c71 => ?_)
  refine j_iload C 1 dL_letOut_74 rfl ?_
  refine j_iload_n C 5 dL_letOut_76 rfl rfl ?_
  refine j_icmp_gt (tgt := 118) C (by omega) (by omega) dL_letOut_77 (by decide) (fun c77 => absurd c77 (by omega)) (fun c77 => ?_)
  refine j_aload_n C 2 dL_letOut_80 rfl rfl ?_
  refine j_iconst C dL_letOut_81 ?_
  refine j_callSW (As := [.ref (r 0), .int (iI 1)]) (rest := []) C yw_L_value qw443 (w_value l g r qn qt qv (KD kn f v) kt (svk kn kv ns) (svs sc) (svn ns) tx tn pl 1 hI2.1 (by omega)) (by decide) rfl dL_letOut_82 rfl (Nat.le_of_ble_eq_true rfl) (by decide) (pfL [(z1, aI g 4 (cpy 4 (kn 4) (fun _ => 0)))]) rfl (fun r9 w9 hq9 => ?_)
  obtain ⟨rfl, rfl⟩ := hq9
  refine J.to (L1 := [(10, .int (iI 0)), (9, .int (iI (RD kn f v))), (0, .ref (r 0)), (1, .int (iI f)), (2, .int (iI v)), (3, .int (iI (hnd kn))), (4, .long (lI (kn 0 7))), (6, .long (lI (kn 0 8))), (8, .ref z1)]) (S1 := [.int (iI (hnd (KD kn f v)))]) (ws1 := ([(z1, aI g 4 (cpy 4 (kn 4) (fun _ => 0)))] ++ (wTp g r qn qt qv (KD kn f v) kt (svk kn kv ns) (svs sc) (svn ns) tx tn pl))) rfl rfl rfl ?_
  refine j_iload_n C 5 dL_letOut_85 rfl rfl ?_
  refine j_iload C 1 dL_letOut_86 rfl ?_
  refine j_isub C dL_letOut_88 ?_
  refine j_isameF C (hr4) dL_letOut_89 (tgt := 118) (by decide) ?_
  refine j_aload_n C 2 dL_letOut_92 rfl rfl ?_
  refine j_iconst C dL_letOut_93 ?_
  refine j_callV (As := [.int (iI 0)]) (rest := []) C yv_X4_work qw494 (c_X4_work l g r qn qt qv (KD kn f v) kt (svk kn kv ns) (svs sc) (svn ns) tx tn pl false hI2.1) (by decide) 1 rfl rfl rfl dL_letOut_94 rfl (Nat.le_of_ble_eq_true rfl) (by decide) (pfL [(z1, aI g 4 (cpy 4 (kn 4) (fun _ => 0)))]) rfl (fun r9 w9 hq9 => ?_)
  obtain ⟨rfl, rfl⟩ := hq9
  refine J.to (L1 := [(10, .int (iI 0)), (9, .int (iI (RD kn f v))), (0, .ref (r 0)), (1, .int (iI f)), (2, .int (iI v)), (3, .int (iI (hnd kn))), (4, .long (lI (kn 0 7))), (6, .long (lI (kn 0 8))), (8, .ref z1)]) (S1 := [.long (lI ((KD kn f v) 0 7))]) (ws1 := ([(z1, aI g 4 (cpy 4 (kn 4) (fun _ => 0)))] ++ (wTp g r qn qt qv (KD kn f v) kt (svk kn kv ns) (svs sc) (svn ns) tx tn pl))) rfl rfl rfl ?_
  refine j_lload C 6 dL_letOut_97 rfl ?_
  refine j_lsameF (tgt := 118) C (hr5) dL_letOut_99 dL_letOut_100 (by decide) ?_
  refine j_aload_n C 2 dL_letOut_103 rfl rfl ?_
  refine j_iconst C dL_letOut_104 ?_
  refine j_callV (As := [.int (iI 1)]) (rest := []) C yv_X4_work qw494 (c_X4_work l g r qn qt qv (KD kn f v) kt (svk kn kv ns) (svs sc) (svn ns) tx tn pl true hI2.1) (by decide) 1 rfl rfl rfl dL_letOut_105 rfl (Nat.le_of_ble_eq_true rfl) (by decide) (pfL [(z1, aI g 4 (cpy 4 (kn 4) (fun _ => 0)))]) rfl (fun r9 w9 hq9 => ?_)
  obtain ⟨rfl, rfl⟩ := hq9
  refine J.to (L1 := [(10, .int (iI 0)), (9, .int (iI (RD kn f v))), (0, .ref (r 0)), (1, .int (iI f)), (2, .int (iI v)), (3, .int (iI (hnd kn))), (4, .long (lI (kn 0 7))), (6, .long (lI (kn 0 8))), (8, .ref z1)]) (S1 := [.long (lI ((KD kn f v) 0 8))]) (ws1 := ([(z1, aI g 4 (cpy 4 (kn 4) (fun _ => 0)))] ++ (wTp g r qn qt qv (KD kn f v) kt (svk kn kv ns) (svs sc) (svn ns) tx tn pl))) rfl rfl rfl ?_
  refine j_lload C 7 dL_letOut_108 rfl ?_
  refine j_lsameF (tgt := 118) C (hr6) dL_letOut_110 dL_letOut_111 (by decide) ?_
  refine j_iconst C dL_letOut_114 ?_
  refine j_goto (tgt := 119) C dL_letOut_115 (by decide) ?_
  refine j_istore (L1 := [(11, .int (iI 1)), (10, .int (iI 0)), (9, .int (iI (RD kn f v))), (0, .ref (r 0)), (1, .int (iI f)), (2, .int (iI v)), (3, .int (iI (hnd kn))), (4, .long (lI (kn 0 7))), (6, .long (lI (kn 0 8))), (8, .ref z1)]) C dL_letOut_119 (by decide) rfl ?_
  refine j_iconst C dL_letOut_121 ?_
  refine j_istore (L1 := [(12, .int (iI 0)), (11, .int (iI 1)), (10, .int (iI 0)), (9, .int (iI (RD kn f v))), (0, .ref (r 0)), (1, .int (iI f)), (2, .int (iI v)), (3, .int (iI (hnd kn))), (4, .long (lI (kn 0 7))), (6, .long (lI (kn 0 8))), (8, .ref z1)]) C dL_letOut_122 (by decide) rfl ?_
  refine J.sub (L1 := [(0, .ref (r 0)), (1, .int (iI f)), (8, .ref z1), (9, .int (iI (RD kn f v))), (10, .int (iI 0)), (11, .int (iI 1)), (12, .int (iI 0))]) [4, 5, 10, 3, 2, 1, 0] rfl ?_
  refine J.to (L1 := [(0, .ref (r 0)), (1, .int (iI f)), (8, .ref z1), (9, .int (iI (RD kn f v))), (10, .int (iI (psF (fun j => (kn 4 j - KD kn f v 4 j) * msf (KD kn f v) j) 0))), (11, .int (iI 1)), (12, .int (iI (((0 : Nat) : Int))))]) (S1 := []) (ws1 := ([(z1, aI g 4 (cpy 4 (kn 4) (fun _ => 0)))] ++ (wTp g r qn qt qv (KD kn f v) kt (svk kn kv ns) (svs sc) (svn ns) tx tn pl))) rfl rfl rfl ?_
  refine lp_let2 C hl (K := KD kn f v) hI2.1 hf hr2 (fun b hb => (hht b hb).2) ?_ 4 0 rfl
  refine j_iload C 5 dL_letOut_199 rfl ?_
  refine j_if_eq (tgt := 215) C (by decide) dL_letOut_201 (by decide) (fun c201 => absurd c201 (by decide)) (fun c201 => ?_)
  refine j_iload C 4 dL_letOut_204 rfl ?_
  refine j_iload C 3 dL_letOut_206 rfl ?_
  refine j_isameF C (hr3) dL_letOut_208 (tgt := 215) (by decide) ?_
  refine j_iconst C dL_letOut_211 ?_
  refine j_goto (tgt := 216) C dL_letOut_212 (by decide) ?_
  refine J.dropL ?_
  exact j_zret C hr hlk rfl dL_letOut_216 ⟨rfl, KD kn f v, kt, svk kn kv ns, svs sc, svn ns, tx, tn, pl, rfl, hI2⟩ (by decide) (by decide)

