/-! what holds between the law's steps; what is saved; the sum of all that is told -/
def IV (n : Nat) (kn : Nat → Nat → Int) (kv : Nat → Nat → Nat → Int) (sc : Int) (ns : Nat) (tx : Nat → Int) (tn : Nat) : Prop := TOK kn kv sc ns tx tn ∧ (0 ≤ kn 0 7 ∧ kn 0 7 ≤ 100000000000 * (n : Int)) ∧ (∀ j, j < 4 → 0 ≤ kv j 0 7 ∧ kv j 0 7 ≤ 100000000000 * (n : Int))
theorem IV.le {n m : Nat} {kn : Nat → Nat → Int} {kv : Nat → Nat → Nat → Int} {sc : Int} {ns : Nat} {tx : Nat → Int} {tn : Nat} (h : IV n kn kv sc ns tx tn) (hm : n ≤ m) : IV m kn kv sc ns tx tn := by
  obtain ⟨h1, h8, h9⟩ := h
  exact ⟨h1, ⟨h8.1, by omega⟩, fun j hj => ⟨(h9 j hj).1, by have := (h9 j hj).2; omega⟩⟩
theorem IV.save {n : Nat} {kn kn' : Nat → Nat → Int} {kv : Nat → Nat → Nat → Int} {sc : Int} {ns : Nat} {tx : Nat → Int} {tn : Nat} (h : IV n kn kv sc ns tx tn) (hk : SOK kn') (hh : 0 ≤ hnd kn') (h7 : kn 0 7 ≤ kn' 0 7 ∧ kn' 0 7 ≤ kn 0 7 + 100000000000) : IV (n + 1) kn' (svk kn kv ns) (svs sc) (svn ns) tx tn := by
  obtain ⟨⟨⟨g1, g2⟩, g3, g4, g5, g6, g7⟩, h8, h9⟩ := h
  have hs : ∀ j, j < 4 → svk kn kv ns j = if j = ns then cpS kn (kv ns) else kv j := fun j hj => rfl
  refine ⟨⟨⟨hk, hh⟩, fun j hj => ?_, ⟨?_, ?_⟩, Nat.mod_lt _ (by decide), g6, g7⟩, ⟨by omega, by omega⟩, fun j hj => ?_⟩
  · rw [hs j hj]
    by_cases hj2 : j = ns
    · rw [if_pos hj2]
      exact ⟨SOK_cpS g1, by rw [hnd_cpS g1]; exact g2⟩
    · rw [if_neg hj2]
      exact g3 j hj
  · show 0 ≤ (if 4 < sc + 1 then 4 else sc + 1)
    split <;> omega
  · show (if 4 < sc + 1 then 4 else sc + 1) ≤ 4
    split <;> omega
  · rw [hs j hj]
    by_cases hj2 : j = ns
    · rw [if_pos hj2]
      show 0 ≤ kn 0 7 ∧ kn 0 7 ≤ _
      omega
    · rw [if_neg hj2]
      have := h9 j hj
      omega
theorem IV.same {n : Nat} {kn kn' : Nat → Nat → Int} {kv : Nat → Nat → Nat → Int} {sc : Int} {ns : Nat} {tx : Nat → Int} {tn : Nat} (h : IV n kn kv sc ns tx tn) (e : KE kn kn') : IV n kn' kv sc ns tx tn := by
  obtain ⟨⟨⟨g1, g2⟩, g3⟩, h8, h9⟩ := h
  exact ⟨⟨⟨e.sok g1, by rw [← e.hn g1]; exact g2⟩, g3⟩, by rw [← e.1]; exact h8, h9⟩
theorem IV.undo {n : Nat} {kn : Nat → Nat → Int} {kv : Nat → Nat → Nat → Int} {sc : Int} {ns : Nat} {tx : Nat → Int} {tn : Nat} (h : IV n kn kv sc ns tx tn) (hs : 0 < sc) : IV n (cpS (kv ((ns + 3) % 4)) kn) kv (sc - 1) ((ns + 3) % 4) tx tn := by
  obtain ⟨⟨⟨g1, g2⟩, g3, g4, g5, g6, g7⟩, h8, h9⟩ := h
  have hm : (ns + 3) % 4 < 4 := Nat.mod_lt _ (by decide)
  refine ⟨⟨⟨SOK_cpS (g3 _ hm).1, by rw [hnd_cpS (g3 _ hm).1]; exact (g3 _ hm).2⟩, g3, ⟨by omega, by omega⟩, hm, g6, g7⟩, ?_, h9⟩
  show 0 ≤ kv ((ns + 3) % 4) 0 7 ∧ kv ((ns + 3) % 4) 0 7 ≤ _
  exact h9 _ hm
theorem IV.app {n : Nat} {kn : Nat → Nat → Int} {kv : Nat → Nat → Nat → Int} {sc : Int} {ns : Nat} {tx : Nat → Int} {tn : Nat} (h : IV n kn kv sc ns tx tn) {x : Int} (hx : 0 ≤ x ∧ x ≤ 127) (hn : tn < 60) : IV n kn kv sc ns (va_up tx tn x) (tn + 1) := by
  obtain ⟨⟨g0, g3, g4, g5, g6, g7⟩, h8⟩ := h
  refine ⟨⟨g0, g3, g4, g5, by omega, fun i hi => ?_⟩, h8⟩
  unfold va_up
  split
  · exact hx
  · exact g7 i (by omega)
theorem IV.clr {n : Nat} {kn : Nat → Nat → Int} {kv : Nat → Nat → Nat → Int} {sc : Int} {ns : Nat} {tx : Nat → Int} {tn : Nat} (h : IV n kn kv sc ns tx tn) : IV n kn kv sc ns tx 0 := by
  obtain ⟨⟨g0, g3, g4, g5, g6, g7⟩, h8⟩ := h
  exact ⟨⟨g0, g3, g4, g5, by omega, fun i hi => absurd hi (Nat.not_lt_zero i)⟩, h8⟩
theorem hnd_mup {k : Nat → Nat → Int} (h : 0 ≤ hnd k) (hk : SOK k) {hand most : Int} (hm : 0 ≤ most) : 0 ≤ hnd (mup hand most k).1 := by
  have h1 := mvs_hnd_up (hand := hand) 4 (rck k true) most
  have h2 : hnd (rck k true) = hnd k := rfl
  have h3 : hnd (mup hand most k).1 = hnd (mvs true hand 4 (rck k true) most).1 := rfl
  have h4 := mvs_rng (up := true) (hand := hand) 4 (SOK_rck hk true) hm
  omega
theorem mll_rng {k : Nat → Nat → Int} (h : 0 ≤ hnd k) {most : Int} (hm : 0 ≤ most) : 0 ≤ mll k most ∧ mll k most ≤ hnd k ∧ mll k most ≤ most := by
  unfold mll
  split <;> omega
theorem hnd_mdn {k : Nat → Nat → Int} (hk : SOK k) (h : 0 ≤ hnd k) {hand most : Int} (hm : 0 ≤ most) : hnd (mdn hand most k).1 = hnd k - (mdn hand most k).2 ∧ 0 ≤ (mdn hand most k).2 ∧ (mdn hand most k).2 ≤ most ∧ (mdn hand most k).2 ≤ hnd k := by
  have h0 := mll_rng h hm
  have h1 := mvs_hnd_dn (hand := hand) 4 (rck k false) (mll k most)
  have h2 : hnd (rck k false) = hnd k := rfl
  have h3 : hnd (mdn hand most k).1 = hnd (mvs false hand 4 (rck k false) (mll k most)).1 := rfl
  have h4 := mvs_rng (up := false) (hand := hand) 4 (SOK_rck hk false) h0.1
  have h5 : (mdn hand most k).2 = mll k most - (mvs false hand 4 (rck k false) (mll k most)).2 := rfl
  omega
theorem SOK_mdn {k : Nat → Nat → Int} (hk : SOK k) (h : 0 ≤ hnd k) {hand most : Int} (hm : 0 ≤ most) : SOK (mdn hand most k).1 := (mvs_rng (up := false) (hand := hand) 4 (SOK_rck hk false) (mll_rng h hm).1).1
theorem mup_7 {k : Nat → Nat → Int} (hk : SOK k) {f n : Int} (hf : 0 ≤ f ∧ f ≤ 1000000) (hn : 0 ≤ n ∧ n ≤ 100000) : (mup f n k).1 0 7 = k 0 7 + f * (mup f n k).2 ∧ k 0 7 ≤ (mup f n k).1 0 7 ∧ (mup f n k).1 0 7 ≤ k 0 7 + 100000000000 := by
  have h1 : (mvs true f 4 (rck k true) n).1 0 7 = k 0 7 := (mvs_fix (up := true) (hand := f) 4 (rck k true) n).2.2.2.2.2.2.2
  have h2 := mvs_rng (up := true) (hand := f) 4 (SOK_rck hk true) hn.1
  have h4 : (mup f n k).1 0 7 = (mvs true f 4 (rck k true) n).1 0 7 + f * (n - (mvs true f 4 (rck k true) n).2) := rfl
  have h3 : (mup f n k).2 = n - (mvs true f 4 (rck k true) n).2 := rfl
  have h5 : f * (n - (mvs true f 4 (rck k true) n).2) ≤ 1000000 * 100000 := Int.mul_le_mul hf.2 (by omega) (by omega) (by decide)
  have h6 := Int.mul_nonneg hf.1 (show 0 ≤ n - (mvs true f 4 (rck k true) n).2 by omega)
  rw [h3, h4, h1]
  omega
theorem mdn_7 {k : Nat → Nat → Int} {f n : Int} : (mdn f n k).1 0 7 = k 0 7 := (mvs_fix (up := false) (hand := f) 4 (rck k false) (mll k n)).2.2.2.2.2.2.2
section IVS
variable {n : Nat} {kn kt : Nat → Nat → Int} {kv : Nat → Nat → Nat → Int} {sc : Int} {ns : Nat} {tx : Nat → Int} {tn : Nat}
theorem IV.w (h : IV n kn kv sc ns tx tn) {b : Nat} {w : Int} (hw : 0 ≤ w ∧ w ≤ 50000) : IV (n + 1) (va_up kn 3 (va_up (kn 3) b w)) (svk kn kv ns) (svs sc) (svn ns) tx tn :=
  h.save (SOK_w h.1.1.1 hw) h.1.1.2 ⟨Int.le_refl _, Int.le_add_of_nonneg_right (by decide)⟩
theorem IV.f (h : IV n kn kv sc ns tx tn) {f : Int} (hf : 0 ≤ f ∧ f ≤ 30) : IV (n + 1) (va_up kn 0 (va_up (kn 0) 1 f)) (svk kn kv ns) (svs sc) (svn ns) tx tn :=
  h.save (SOK_f h.1.1.1 hf) h.1.1.2 ⟨Int.le_refl _, Int.le_add_of_nonneg_right (by decide)⟩
theorem IV.cp (h : IV n kn kv sc ns tx tn) (hk : SOK kt) (hh : 0 ≤ hnd kt) (h7 : kt 0 7 = kn 0 7) : IV (n + 1) (cpS kt kn) (svk kn kv ns) (svs sc) (svn ns) tx tn :=
  h.save (SOK_cpS hk) (by rw [hnd_cpS hk]; exact hh) (by have e : cpS kt kn 0 7 = kt 0 7 := rfl; omega)
theorem IV.len (h : IV n kn kv sc ns tx tn) {x : Int} (hx : 1000 ≤ x ∧ x ≤ 300000) (hh : 0 ≤ hnd (kLen kn kt x)) : IV (n + 1) (cpS (kLen kn kt x) kn) (svk kn kv ns) (svs sc) (svn ns) tx tn :=
  h.cp (SOK_len h.1.1.1 hx) hh rfl
theorem IV.add (h : IV n kn kv sc ns tx tn) {b : Int} (hb : 0 ≤ b ∧ b < 4) (hP : kn 0 2 < 10) (hh : 0 ≤ hnd (kAdd kn kt b)) : IV (n + 1) (cpS (kAdd kn kt b) kn) (svk kn kv ns) (svs sc) (svn ns) tx tn :=
  h.cp (SOK_add h.1.1.1 hb hP) hh rfl
theorem IV.en (h : IV n kn kv sc ns tx tn) {x : Int} (hx : 0 ≤ x ∧ x ≤ 4) (hh : 0 ≤ hnd (kEnd kn kt x)) : IV (n + 1) (cpS (kEnd kn kt x) kn) (svk kn kv ns) (svs sc) (svn ns) tx tn :=
  h.cp (SOK_end h.1.1.1 hx) hh rfl
theorem IV.up (h : IV n kn kv sc ns tx tn) {f m : Int} (hf : 0 ≤ f ∧ f ≤ 1000000) (hm : 0 ≤ m ∧ m ≤ 100000) : IV (n + 1) (mup f m kn).1 (svk kn kv ns) (svs sc) (svn ns) tx tn :=
  h.save (SOK_mup h.1.1.1 hm.1) (hnd_mup h.1.1.2 h.1.1.1 hm.1) (mup_7 h.1.1.1 hf hm).2
theorem IV.dn (h : IV n kn kv sc ns tx tn) {f m : Int} (hm : 0 ≤ m ∧ m ≤ 100000) : IV (n + 1) (mdn f m kn).1 (svk kn kv ns) (svs sc) (svn ns) tx tn := by
  have h1 := hnd_mdn (hand := f) h.1.1.1 h.1.1.2 hm.1
  exact h.save (SOK_mdn h.1.1.1 h.1.1.2 hm.1) (by omega) (by rw [mdn_7]; omega)
theorem IV.prs (h : IV n kn kv sc ns tx tn) (hF : pFlt tx tn = -1) (hh : 0 ≤ hnd (prs tx tn (cpS kn kt))) : IV (n + 1) (cpS (prs tx tn (cpS kn kt)) kn) (svk kn kv ns) (svs sc) (svn ns) tx tn :=
  h.cp (SOK_prs (SOK_cpS h.1.1.1) hF) hh rfl
end IVS
def hg2 (f : Nat → Int) (n : Nat) (ht : Nat → Int) : Int := 2 * cnt f 0 n * (10000 - ht 0) + 2 * cnt f 1 n * (10000 - ht 1) + 2 * cnt f 2 n * (10000 - ht 2) + 2 * cnt f 3 n * (10000 - ht 3)
theorem hng_E (f : Nat → Int) (n : Nat) (E : Int) (ht : Nat → Int) (hE : 0 ≤ E ∧ E ≤ 4) : hng f n E ht 4 = hg2 f n ht + (if E = 4 then 0 else 10000 - ht E.toNat) := by
  rw [hng_4]
  unfold strn hg2
  rcases (by omega : E = 0 ∨ E = 1 ∨ E = 2 ∨ E = 3 ∨ E = 4) with rfl | rfl | rfl | rfl | rfl
  · rw [if_pos rfl, if_neg (by decide), if_neg (by decide), if_neg (by decide), if_neg (by decide)]
    rw [Int.add_mul, Int.one_mul, Int.add_zero, Int.add_zero, Int.add_zero]
    show _ = _ + (10000 - ht 0)
    omega
  · rw [if_neg (by decide), if_pos rfl, if_neg (by decide), if_neg (by decide), if_neg (by decide)]
    rw [Int.add_mul (2 * cnt f 1 n), Int.one_mul, Int.add_zero, Int.add_zero, Int.add_zero]
    show _ = _ + (10000 - ht 1)
    omega
  · rw [if_neg (by decide), if_neg (by decide), if_pos rfl, if_neg (by decide), if_neg (by decide)]
    rw [Int.add_mul (2 * cnt f 2 n), Int.one_mul, Int.add_zero, Int.add_zero, Int.add_zero]
    show _ = _ + (10000 - ht 2)
    omega
  · rw [if_neg (by decide), if_neg (by decide), if_neg (by decide), if_pos rfl, if_neg (by decide)]
    rw [Int.add_mul (2 * cnt f 3 n), Int.one_mul, Int.add_zero, Int.add_zero, Int.add_zero]
    show _ = _ + (10000 - ht 3)
    omega
  · rw [if_neg (by decide), if_neg (by decide), if_neg (by decide), if_neg (by decide), if_pos rfl]
    rw [Int.add_zero, Int.add_zero, Int.add_zero, Int.add_zero, Int.add_zero]
theorem cnt_sum {f : Nat → Int} : ∀ {n : Nat}, (∀ i, i < n → 0 ≤ f i ∧ f i ≤ 3) → cnt f 0 n + cnt f 1 n + cnt f 2 n + cnt f 3 n = n
  | 0, _ => rfl
  | n + 1, h => by
    have ih := cnt_sum (f := f) (n := n) (fun i hi => h i (by omega))
    have hn := h n (by omega)
    rw [cnt, cnt, cnt, cnt]
    rcases (by omega : f n = 0 ∨ f n = 1 ∨ f n = 2 ∨ f n = 3) with e | e | e | e
    · rw [e, if_pos rfl, if_neg (by decide), if_neg (by decide), if_neg (by decide)]; omega
    · rw [e, if_neg (by decide), if_pos rfl, if_neg (by decide), if_neg (by decide)]; omega
    · rw [e, if_neg (by decide), if_neg (by decide), if_pos rfl, if_neg (by decide)]; omega
    · rw [e, if_neg (by decide), if_neg (by decide), if_neg (by decide), if_pos rfl]; omega
theorem hng_add {f ht : Nat → Int} {P : Nat} {E b : Int} (hb : 0 ≤ b ∧ b < 4) : hng (va_up f P b) (P + 1) E ht 4 = hng f P E ht 4 + 2 * (10000 - ht b.toNat) := by
  have hc : ∀ c, strn (va_up f P b) (P + 1) E c = strn f P E c + (if b = c then 2 else 0) := by
    intro c
    have h1 : cnt (va_up f P b) c P = cnt f c P := cnt_congr fun i hi => va_ne (by omega)
    have h2 : va_up f P b P = b := by unfold va_up; exact if_pos rfl
    unfold strn
    rw [cnt, h1, h2]
    split <;> omega
  rw [hng_4, hng_4, hc 0, hc 1, hc 2, hc 3]
  rcases (by omega : b = 0 ∨ b = 1 ∨ b = 2 ∨ b = 3) with rfl | rfl | rfl | rfl
  · rw [if_pos rfl, if_neg (by decide), if_neg (by decide), if_neg (by decide), Int.add_mul, Int.add_zero, Int.add_zero, Int.add_zero]
    show _ = _ + 2 * (10000 - ht 0)
    omega
  · rw [if_neg (by decide), if_pos rfl, if_neg (by decide), if_neg (by decide), Int.add_mul (strn f P E 1), Int.add_zero, Int.add_zero, Int.add_zero]
    show _ = _ + 2 * (10000 - ht 1)
    omega
  · rw [if_neg (by decide), if_neg (by decide), if_pos rfl, if_neg (by decide), Int.add_mul (strn f P E 2), Int.add_zero, Int.add_zero, Int.add_zero]
    show _ = _ + 2 * (10000 - ht 2)
    omega
  · rw [if_neg (by decide), if_neg (by decide), if_neg (by decide), if_pos rfl, Int.add_mul (strn f P E 3), Int.add_zero, Int.add_zero, Int.add_zero]
    show _ = _ + 2 * (10000 - ht 3)
    omega
/-- the rope in all strands -/
abbrev hgA (k : Nat → Nat → Int) : Int := hng (k 1) (k 0 2).toNat (k 0 3) (k 4) 4
theorem hnd_len {k kt : Nat → Nat → Int} (hk : SOK k) {x : Int} : hnd (kLen k kt x) = x - hgA k := by
  have e := (KE_cp k kt).hg (SOK_cpS hk)
  show x - hng (cpS k kt 1) (cpS k kt 0 2).toNat (cpS k kt 0 3) (cpS k kt 4) 4 = _
  rw [e]
theorem hnd_add {k kt : Nat → Nat → Int} (hk : SOK k) {b : Int} (hb : 0 ≤ b ∧ b < 4) : hnd (kAdd k kt b) = hnd k - 2 * (10000 - k 4 b.toNat) := by
  have h1 := hk.1
  have e := (KE_cp k kt).hg (SOK_cpS hk)
  have e2 : hng (va_up (cpS k kt 1) (k 0 2).toNat b) (k 0 2 + 1).toNat (k 0 3) (cpS k kt 4) 4 = hgA k + 2 * (10000 - k 4 b.toNat) := by
    rw [show (k 0 2 + 1).toNat = (k 0 2).toNat + 1 by omega, hng_add hb, show cpS k kt 4 b.toNat = k 4 b.toNat from cpy_lt (by omega)]
    have e3 : hng (cpS k kt 1) (k 0 2).toNat (k 0 3) (cpS k kt 4) 4 = hgA k := e
    rw [e3]
  show k 0 0 - hng (va_up (cpS k kt 1) (k 0 2).toNat b) (k 0 2 + 1).toNat (k 0 3) (cpS k kt 4) 4 = k 0 0 - hgA k - _
  rw [e2]
  omega
theorem hnd_take {kn : Nat → Nat → Int} (hk : SOK kn) (hP : 0 < kn 0 2) (hh : 0 ≤ hnd kn) : 0 ≤ hnd (kTake kn) := by
  have h1 := hk.1
  obtain ⟨P, hPe⟩ : ∃ P : Nat, kn 0 2 = (P : Int) + 1 := ⟨(kn 0 2 - 1).toNat, by omega⟩
  have e1 : (kn 0 2).toNat = P + 1 := by omega
  have e2 : (kn 0 2 - 1).toNat = P := by omega
  have hr := hk.2.2.2.1 P (by omega)
  have hb : 0 ≤ kn 1 P ∧ kn 1 P < 4 := by omega
  have h2 := hng_add (f := kn 1) (ht := kn 4) (P := P) (E := kn 0 3) hb
  have e3 : va_up (kn 1) P (kn 1 P) = kn 1 := funext fun j => by unfold va_up; split <;> simp_all
  rw [e3] at h2
  have h3 := hk.2.2.2.2.2.1 (kn 1 P).toNat (by omega)
  have e4 : hnd (kTake kn) = kn 0 0 - hng (kn 1) (kn 0 2 - 1).toNat (kn 0 3) (kn 4) 4 := rfl
  have e5 : hnd kn = kn 0 0 - hng (kn 1) (kn 0 2).toNat (kn 0 3) (kn 4) 4 := rfl
  rw [e2] at e4
  rw [e1] at e5
  omega
theorem IV.take {n : Nat} {kn : Nat → Nat → Int} {kv : Nat → Nat → Nat → Int} {sc : Int} {ns : Nat} {tx : Nat → Int} {tn : Nat} (h : IV n kn kv sc ns tx tn) (hP : 0 < kn 0 2) : IV (n + 1) (kTake kn) (svk kn kv ns) (svs sc) (svn ns) tx tn :=
  h.save (SOK_take h.1.1.1 hP) (hnd_take h.1.1.1 hP h.1.1.2) ⟨Int.le_refl _, Int.le_add_of_nonneg_right (by decide)⟩
/-! what is saved comes back -/
theorem sv_back {kn k' : Nat → Nat → Int} {kv : Nat → Nat → Nat → Int} {ns : Nat} (hns : ns < 4) : KE (cpS (svk kn kv ns ((svn ns + 3) % 4)) k') kn := by
  have e : (svn ns + 3) % 4 = ns := by
    show ((ns + 1) % 4 + 3) % 4 = ns
    omega
  rw [e]
  refine (KE_cp _ _).tr ?_
  have e2 : svk kn kv ns ns = cpS kn (kv ns) := by unfold svk va_up; exact if_pos rfl
  rw [e2]
  exact KE_cp _ _
theorem sv_ns {ns : Nat} (hns : ns < 4) : (svn ns + 3) % 4 = ns := by
  show ((ns + 1) % 4 + 3) % 4 = ns
  omega
theorem sv_at {kn : Nat → Nat → Int} {kv : Nat → Nat → Nat → Int} {ns : Nat} : svk kn kv ns ns = cpS kn (kv ns) := by unfold svk va_up; exact if_pos rfl
theorem sv_ne {kn : Nat → Nat → Int} {kv : Nat → Nat → Nat → Int} {ns j : Nat} (h : j ≠ ns) : svk kn kv ns j = kv j := by unfold svk va_up; exact if_neg h
/-- three are saved, three come back: the first state again -/
theorem sv_3 {k0 k1 k2 ka kb kc : Nat → Nat → Int} {kv : Nat → Nat → Nat → Int} {ns : Nat} (hns : ns < 4) : KE (cpS (svk k2 (svk k1 (svk k0 kv ns) (svn ns)) (svn (svn ns)) ((((svn (svn (svn ns)) + 3) % 4 + 3) % 4 + 3) % 4)) ka) k0 := by
  have e : ((((svn (svn (svn ns)) + 3) % 4 + 3) % 4 + 3) % 4) = ns := by
    show (((((((ns + 1) % 4 + 1) % 4 + 1) % 4) + 3) % 4 + 3) % 4 + 3) % 4 = ns
    omega
  rw [e, sv_ne (by show ns ≠ ((ns + 1) % 4 + 1) % 4; omega), sv_ne (by show ns ≠ (ns + 1) % 4; omega), sv_at]
  exact (KE_cp _ _).tr (KE_cp _ _)
/-! the sum -/
noncomputable def sm1 (k : Nat → Nat → Int) : Nat → Int
  | 0 => 17
  | w + 1 => 31 * sm1 k w + w32 (valF k (w : Int))
noncomputable def sm2 (h0 : Int) (k : Nat → Nat → Int) : Nat → Int
  | 0 => h0
  | j + 1 => 31 * sm2 h0 k j + w32 (blkF k ((j / 7 : Nat) : Int) ((j % 7 : Nat) : Int))
noncomputable def sm3 (h0 : Int) (k : Nat → Nat → Int) : Nat → Int
  | 0 => h0
  | j + 1 => 31 * sm3 h0 k j + w32 (k 1 j)
noncomputable def sm4 (h0 : Int) (k : Nat → Nat → Int) : Nat → Int
  | 0 => h0
  | j + 1 => 31 * sm4 h0 k j + w32 (k 2 ((k 0 9 - ((j / 3 : Nat) : Int)) % 16 * 3 + ((j % 3 : Nat) : Int)).toNat)
noncomputable def sumV (k : Nat → Nat → Int) : Int := 31 * (31 * sm4 (sm3 (sm2 (sm1 k 10) k 28) k (k 0 2).toNat) k (3 * (k 0 6).toNat) + k 0 7) + k 0 8
theorem KE.va {k k' : Nat → Nat → Int} (h : KE k k') (hk : SOK k) (w : Int) : valF k w = valF k' w := by
  have h1 := h.hn hk
  have h2 := h.hg hk
  unfold valF passF
  rw [h1, h2, h.1]
theorem KE.bk {k k' : Nat → Nat → Int} (h : KE k k') (hk : SOK k) {b : Int} (hb : 0 ≤ b ∧ b < 4) (w : Int) : blkF k b w = blkF k' b w := by
  have h1 := h.ct hk b
  have h2 := h.st hk b
  have h3 := h.le hk true hb
  have h4 := h.le hk false hb
  unfold mst at h2
  unfold blkF
  rw [h1, h2, h3, h4, h.2.2.2.1 b.toNat (by omega), h.2.2.2.2 b.toNat (by omega)]
theorem sm1_c {k k' : Nat → Nat → Int} (h : KE k k') (hk : SOK k) : ∀ n, sm1 k n = sm1 k' n
  | 0 => rfl
  | n + 1 => by rw [sm1, sm1, sm1_c h hk n, h.va hk]
theorem sm2_c {k k' : Nat → Nat → Int} (h : KE k k') (hk : SOK k) {h0 : Int} : ∀ n, n ≤ 28 → sm2 h0 k n = sm2 h0 k' n
  | 0, _ => rfl
  | n + 1, hn => by rw [sm2, sm2, sm2_c h hk n (by omega), h.bk hk (by omega)]
theorem sm3_c {k k' : Nat → Nat → Int} (h : KE k k') {h0 : Int} : ∀ n, n ≤ 10 → sm3 h0 k n = sm3 h0 k' n
  | 0, _ => rfl
  | n + 1, hn => by rw [sm3, sm3, sm3_c h n (by omega), h.2.1 n (by omega)]
theorem sm4_c {k k' : Nat → Nat → Int} (h : KE k k') {h0 : Int} : ∀ n, n ≤ 48 → sm4 h0 k n = sm4 h0 k' n
  | 0, _ => rfl
  | n + 1, hn => by rw [sm4, sm4, sm4_c h n (by omega), ← h.1, h.2.2.1 _ (by omega)]
theorem KE.sum {k k' : Nat → Nat → Int} (h : KE k k') (hk : SOK k) : sumV k = sumV k' := by
  have h1 := hk.1
  have h2 := hk.2.2.2.2.2.2.2.2
  unfold sumV
  rw [← h.1, sm1_c h hk, sm2_c h hk 28 (Nat.le_refl _), sm3_c h _ (by omega), sm4_c h _ (by omega)]
/-! a typed reeving -/
theorem rn_eq {tx : Nat → Int} {n : Nat} {lo hi : Int} : ∀ {f p m : Nat}, m ≤ f → (∀ i, i < m → dg tx n lo hi (p + i)) → ¬ dg tx n lo hi (p + m) → rn tx n lo hi f p = m
  | 0, p, m, hm, _, _ => by rw [show m = 0 by omega]; rfl
  | f + 1, p, 0, hm, _, h2 => by rw [rn]; exact if_neg h2
  | f + 1, p, m + 1, hm, h1, h2 => by
    have h0 := h1 0 (by omega)
    rw [Nat.add_zero] at h0
    rw [rn_t h0, rn_eq (f := f) (p := p + 1) (m := m) (by omega) (fun i hi => by rw [show p + 1 + i = p + (i + 1) by omega]; exact h1 (i + 1) (by omega)) (by rw [show p + 1 + m = p + (m + 1) by omega]; exact h2)]
/-- the text is a row and an end -/
def TXT (tx : Nat → Int) (tn P : Nat) (row : Nat → Int) (E : Int) : Prop := tn = P + 2 ∧ (∀ i, i < P → tx i = 48 + row i) ∧ tx P = 46 ∧ tx (P + 1) = 48 + E
theorem txt_pP {tx : Nat → Int} {tn P : Nat} {row : Nat → Int} {E : Int} (h : TXT tx tn P row E) (hP : P ≤ 10) (hr : ∀ i, i < P → 0 ≤ row i ∧ row i ≤ 3) : pP tx tn = P := by
  obtain ⟨h1, h2, h3, h4⟩ := h
  refine rn_eq hP (fun i hi => ?_) (fun hd => ?_)
  · rw [Nat.zero_add]
    have := hr i hi
    have := h2 i hi
    exact ⟨by omega, by omega, by omega⟩
  · rw [Nat.zero_add] at hd
    have := hd.2.1
    omega
theorem txt_flt {tx : Nat → Int} {tn P : Nat} {row : Nat → Int} {E : Int} (h : TXT tx tn P row E) (hP : P ≤ 10) (hr : ∀ i, i < P → 0 ≤ row i ∧ row i ≤ 3) (hE : 0 ≤ E ∧ E ≤ 4) : pFlt tx tn = -1 := by
  have hp := txt_pP h hP hr
  obtain ⟨h1, h2, h3, h4⟩ := h
  unfold pFlt
  rw [hp, if_neg (fun hc => hc ⟨by omega, by omega, by omega⟩), if_neg (fun hc => hc ⟨by omega, by omega, by omega⟩)]
  show (if P + 2 < tn then _ else (-1 : Int)) = -1
  rw [if_neg (by omega)]
theorem txt_prs {tx : Nat → Int} {tn P : Nat} {row : Nat → Int} {E : Int} (h : TXT tx tn P row E) (hP : P ≤ 10) (hr : ∀ i, i < P → 0 ≤ row i ∧ row i ≤ 3) (k : Nat → Nat → Int) : prs tx tn k = prS tx (P : Int) E P (k 3) k := by
  have hp := txt_pP h hP hr
  obtain ⟨h1, h2, h3, h4⟩ := h
  unfold prs
  rw [hp, h4, show 48 + E - 48 = E by omega]
  have e : wtf tx tn 4 (P + 2) 0 (k 3) = k 3 := by
    rw [wtf, if_neg (by omega)]
  rw [e]
theorem hnd_txt {tx : Nat → Int} {tn P : Nat} {row : Nat → Int} {E : Int} (h : TXT tx tn P row E) (hP : P ≤ 10) (hr : ∀ i, i < P → 0 ≤ row i ∧ row i ≤ 3) (hE : 0 ≤ E ∧ E ≤ 4) (k : Nat → Nat → Int) : hnd (prs tx tn k) = k 0 0 - 10000 * (2 * (P : Int) + if E = 4 then 0 else 1) := by
  rw [txt_prs h hP hr]
  obtain ⟨h1, h2, h3, h4⟩ := h
  have hs := cnt_sum (f := cpy P (fun j => tx j - 48) (k 1)) (n := P) (fun i hi => by
    rw [cpy_lt hi]
    have := hr i hi
    have := h2 i hi
    show 0 ≤ tx i - 48 ∧ tx i - 48 ≤ 3
    omega)
  have hz : ∀ b : Nat, b < 4 → lay0 4 (k 4) b = 0 := fun b hb => by unfold lay0; exact if_pos hb
  show k 0 0 - hng (cpy P (fun j => tx j - 48) (k 1)) ((P : Nat) : Int).toNat E (lay0 4 (k 4)) 4 = _
  rw [show ((P : Nat) : Int).toNat = P from rfl, hng_E _ _ _ _ hE]
  unfold hg2
  rw [hz 0 (by decide), hz 1 (by decide), hz 2 (by decide), hz 3 (by decide)]
  by_cases h9 : E = 4
  · rw [if_pos h9, if_pos h9]; omega
  · rw [if_neg h9, if_neg h9, hz _ (by omega)]; omega
theorem SOK_k0S : SOK k0S := by
  refine ⟨(show (0 : Int) ≤ 1 ∧ (1 : Int) ≤ 10 by decide), (show (0 : Int) ≤ 4 ∧ (4 : Int) ≤ 4 by decide), (show (0 : Int) ≤ 10 ∧ (10 : Int) ≤ 30 by decide), fun i _ => (show (0 : Int) ≤ 0 ∧ (0 : Int) ≤ 3 by decide), fun b hb => ?_, fun b hb => (show (0 : Int) ≤ 0 ∧ (0 : Int) ≤ 9000 by decide), (show (1000 : Int) ≤ 60000 ∧ (60000 : Int) ≤ 300000 by decide), (show (0 : Int) ≤ 0 ∧ (0 : Int) ≤ 15 by decide), (show (0 : Int) ≤ 0 ∧ (0 : Int) ≤ 16 by decide)⟩
  show 0 ≤ cpy 4 (fun _ => 1000) (fun _ => 0) b ∧ cpy 4 (fun _ => 1000) (fun _ => 0) b ≤ 50000
  unfold cpy
  rw [if_pos hb]
  exact (show (0 : Int) ≤ 1000 ∧ (1000 : Int) ≤ 50000 by decide)
theorem hnd_0 : 0 ≤ hnd k0S := by decide +kernel
theorem IV_0 : IV 0 k0S (fun _ => k0S) 0 0 (fun _ => 0) 0 := ⟨⟨⟨SOK_k0S, hnd_0⟩, fun _ _ => ⟨SOK_k0S, hnd_0⟩, by decide, by decide, by decide, fun i hi => absurd hi (Nat.not_lt_zero i)⟩, by decide +kernel, fun _ _ => (by show 0 ≤ k0S 0 7 ∧ k0S 0 7 ≤ 100000000000 * ((0 : Nat) : Int); decide +kernel)⟩
