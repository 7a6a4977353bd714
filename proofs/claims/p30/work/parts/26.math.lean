/-! states that show alike; moves -/
theorem ite_cg {α : Type} {a b : Prop} [Decidable a] [Decidable b] {x x' y y' : α} (h : a ↔ b) (hx : x = x') (hy : y = y') : (if a then x else y) = if b then x' else y' := by
  subst hx; subst hy
  by_cases hb : b
  · rw [if_pos hb, if_pos (h.mpr hb)]
  · rw [if_neg hb, if_neg (fun ha => hb (h.mp ha))]
theorem nxr_congr {fc fc' ht ht' : Nat → Int} {hand : Int} : ∀ {n : Nat}, (∀ b, b < n → fc b = fc' b) → (∀ b, b < n → (ht b < 9000 ↔ ht' b < 9000)) → nxr fc ht hand n = nxr fc' ht' hand n
  | 0, _, _ => rfl
  | n + 1, hf, hh => by
    have ih := nxr_congr (hand := hand) (n := n) (fun b hb => hf b (by omega)) (fun b hb => hh b (by omega))
    have hr := nxr_rng fc ht hand n
    rw [nxr, nxr, ← ih, ← hf n (by omega)]
    refine ite_cg (and_congr (and_congr Iff.rfl (and_congr Iff.rfl (hh n (by omega)))) ?_) rfl rfl
    by_cases h0 : nxr fc ht hand n = -1
    · exact ⟨fun _ => Or.inl h0, fun _ => Or.inl h0⟩
    · rw [hf _ (by omega : (nxr fc ht hand n).toNat < n + 1)]
theorem nxs_congr {fc fc' ht ht' : Nat → Int} {hand : Int} : ∀ {n : Nat}, (∀ b, b < n → fc b = fc' b) → (∀ b, b < n → (0 < ht b ↔ 0 < ht' b)) → nxs fc ht hand n = nxs fc' ht' hand n
  | 0, _, _ => rfl
  | n + 1, hf, hh => by
    have ih := nxs_congr (hand := hand) (n := n) (fun b hb => hf b (by omega)) (fun b hb => hh b (by omega))
    have hr := nxs_rng fc ht hand n
    rw [nxs, nxs, ← ih, ← hf n (by omega)]
    refine ite_cg (and_congr ?_ (hh n (by omega))) rfl rfl
    by_cases h0 : nxs fc ht hand n = -1
    · rw [if_pos h0, if_pos h0]
    · rw [if_neg h0, if_neg h0, hf _ (by omega : (nxs fc ht hand n).toNat < n + 1)]
theorem va_ne {v : Nat → Int} {j k : Nat} {x : Int} (h : j ≠ k) : va_up v k x j = v j := by
  unfold va_up
  exact if_neg h
theorem va_eq {v : Nat → Int} {k : Nat} {x : Int} : va_up v k x k = x := by
  unfold va_up
  exact if_pos rfl
theorem up_cg {f f' : Nat → Int} {a i : Nat} {x : Int} (h : f i = f' i) : va_up f a x i = va_up f' a x i := by
  unfold va_up
  split
  · rfl
  · exact h
theorem cpy_lt {n i : Nat} {f h : Nat → Int} (hi : i < n) : cpy n f h i = f i := by
  unfold cpy
  exact if_pos hi
theorem hng_4 (f : Nat → Int) (n : Nat) (E : Int) (ht : Nat → Int) : hng f n E ht 4 = strn f n E 0 * (10000 - ht 0) + strn f n E 1 * (10000 - ht 1) + strn f n E 2 * (10000 - ht 2) + strn f n E 3 * (10000 - ht 3) := by
  simp only [hng]
  show 0 + strn f n E ((0 : Nat) : Int) * _ + strn f n E ((1 : Nat) : Int) * _ + strn f n E ((2 : Nat) : Int) * _ + strn f n E ((3 : Nat) : Int) * _ = _
  rw [Int.zero_add]
  rfl
/-- two states of which nothing that is told differs -/
def KE (k k' : Nat → Nat → Int) : Prop := k 0 = k' 0 ∧ (∀ i, i < 10 → k 1 i = k' 1 i) ∧ (∀ i, i < 48 → k 2 i = k' 2 i) ∧ (∀ b, b < 4 → k 3 b = k' 3 b) ∧ (∀ b, b < 4 → k 4 b = k' 4 b)
theorem KE.rf (k : Nat → Nat → Int) : KE k k := ⟨rfl, fun _ _ => rfl, fun _ _ => rfl, fun _ _ => rfl, fun _ _ => rfl⟩
theorem KE.sy {k k' : Nat → Nat → Int} (h : KE k k') : KE k' k := ⟨h.1.symm, fun i hi => (h.2.1 i hi).symm, fun i hi => (h.2.2.1 i hi).symm, fun i hi => (h.2.2.2.1 i hi).symm, fun i hi => (h.2.2.2.2 i hi).symm⟩
theorem KE.tr {k k' k2 : Nat → Nat → Int} (h : KE k k') (h' : KE k' k2) : KE k k2 := ⟨h.1.trans h'.1, fun i hi => (h.2.1 i hi).trans (h'.2.1 i hi), fun i hi => (h.2.2.1 i hi).trans (h'.2.2.1 i hi), fun i hi => (h.2.2.2.1 i hi).trans (h'.2.2.2.1 i hi), fun i hi => (h.2.2.2.2 i hi).trans (h'.2.2.2.2 i hi)⟩
theorem KE_cp (k kt : Nat → Nat → Int) : KE (cpS k kt) k := ⟨rfl, fun i hi => cpy_lt hi, fun i hi => cpy_lt hi, fun i hi => cpy_lt hi, fun i hi => cpy_lt hi⟩
theorem KE_rck (k : Nat → Nat → Int) (h : Bool) : KE (rck k h) k := ⟨rfl, fun _ _ => rfl, fun _ _ => rfl, fun _ _ => rfl, fun _ _ => rfl⟩
theorem KE.row {k k' : Nat → Nat → Int} (h : KE k k') (hk : SOK k) : ∀ i, i < (k 0 2).toNat → k 1 i = k' 1 i := fun i hi => h.2.1 i (by have := hk.1; omega)
theorem KE.st {k k' : Nat → Nat → Int} (h : KE k k') (hk : SOK k) (b : Int) : mst k b = mst k' b := by
  unfold mst
  rw [← h.1]
  exact strn_congr (h.row hk)
theorem KE.ct {k k' : Nat → Nat → Int} (h : KE k k') (hk : SOK k) (b : Int) : cnt (k 1) b (k 0 2).toNat = cnt (k' 1) b (k' 0 2).toNat := by
  rw [← h.1]
  exact cnt_congr (h.row hk)
theorem KE.hg {k k' : Nat → Nat → Int} (h : KE k k') (hk : SOK k) : hng (k 1) (k 0 2).toNat (k 0 3) (k 4) 4 = hng (k' 1) (k' 0 2).toNat (k' 0 3) (k' 4) 4 := by
  rw [← h.1]
  exact hng_congr (h.row hk) (fun b hb => h.2.2.2.2 b hb) 4 (Nat.le_refl _)
theorem KE.hn {k k' : Nat → Nat → Int} (h : KE k k') (hk : SOK k) : hnd k = hnd k' := by
  have h2 := h.hg hk
  unfold hnd
  rw [h2, h.1]
theorem KE.le {k k' : Nat → Nat → Int} (h : KE k k') (hk : SOK k) (d : Bool) {b : Int} (hb : 0 ≤ b ∧ b < 4) : lea (k 1) (k 0 1) d (k 0 2).toNat (k 0 3) b (k 3 b.toNat) = lea (k' 1) (k' 0 1) d (k' 0 2).toNat (k' 0 3) b (k' 3 b.toNat) := by
  rw [← h.1, h.2.2.2.1 b.toNat (by omega)]
  exact lea_congr (h.row hk)
theorem KE.f5 {k k' : Nat → Nat → Int} (h : KE k k') (hk : SOK k) (d : Bool) {b : Nat} (hb : b < 4) : rck k d 5 b = rck k' d 5 b := by
  show cpy 4 (frc k d) (k 5) b = cpy 4 (frc k' d) (k' 5) b
  rw [cpy_lt hb, cpy_lt hb]
  exact h.le hk d (b := (b : Int)) (by omega)
theorem KE.sok {k k' : Nat → Nat → Int} (h : KE k k') (hk : SOK k) : SOK k' := by
  obtain ⟨h1, h2, h3, h4, h5, h6, h7, h8, h9⟩ := hk
  obtain ⟨e0, e1, e2, e3, e4⟩ := h
  rw [e0] at h1 h2 h3 h4 h7 h8 h9
  exact ⟨h1, h2, h3, fun i hi => by rw [← e1 i (by omega)]; exact h4 i hi, fun b hb => by rw [← e3 b hb]; exact h5 b hb, fun b hb => by rw [← e4 b hb]; exact h6 b hb, h7, h8, h9⟩
theorem KE.wy {k k' : Nat → Nat → Int} (h : KE k k') (hk : SOK k) (b left : Int) (up : Bool) : mwy k b left up = mwy k' b left up := by
  have hs := h.st hk b
  unfold mwy
  rw [hs]
  by_cases hc : (0 ≤ b ∧ b < 4) ∧ 0 < mst k' b
  · rw [if_pos hc, if_pos hc, h.2.2.2.2 b.toNat (by omega)]
  · rw [if_neg hc, if_neg hc]
theorem KE.vk {k k' : Nat → Nat → Int} (h : KE k k') (hk : SOK k) {up : Bool} {b w : Int} (hb : 0 ≤ b ∧ b < 4) : KE (mvk up k b w) (mvk up k' b w) := by
  have hs := h.st hk b
  obtain ⟨e0, e1, e2, e3, e4⟩ := h
  refine ⟨?_, e1, fun i hi => ?_, e3, fun c hc => ?_⟩
  · show (fun j => if j = 9 then (k 0 9 + 1) % 16 else if j = 6 then (if 16 < k 0 6 + 1 then 16 else k 0 6 + 1) else if j = 4 then (if up then k 0 4 + 1 else k 0 4) else if j = 5 then (if up then k 0 5 else k 0 5 + 1) else if j = 8 then (if up then k 0 8 + k 3 b.toNat * w else k 0 8) else k 0 j) = _
    rw [e0, e3 b.toNat (by omega)]
    rfl
  · show va_up (va_up (va_up (k 2) ((k 0 9 + 1) % 16 * 3).toNat b) ((k 0 9 + 1) % 16 * 3 + 1).toNat (if up then w else -w)) ((k 0 9 + 1) % 16 * 3 + 2).toNat ((if up then w else -w) * mst k b) i = va_up (va_up (va_up (k' 2) ((k' 0 9 + 1) % 16 * 3).toNat b) ((k' 0 9 + 1) % 16 * 3 + 1).toNat (if up then w else -w)) ((k' 0 9 + 1) % 16 * 3 + 2).toNat ((if up then w else -w) * mst k' b) i
    rw [e0, hs]
    exact up_cg (up_cg (up_cg (e2 i hi)))
  · show va_up (k 4) b.toNat (k 4 b.toNat + (if up then w else -w)) c = va_up (k' 4) b.toNat (k' 4 b.toNat + (if up then w else -w)) c
    rw [e4 b.toNat (by omega)]
    exact up_cg (e4 c hc)
theorem KE.nx {k k' : Nat → Nat → Int} (h : KE k k') (h5 : ∀ b, b < 4 → k 5 b = k' 5 b) (up : Bool) (hand : Int) : mnx up hand k = mnx up hand k' := by
  cases up
  · exact nxs_congr h5 (fun b hb => by rw [h.2.2.2.2 b hb])
  · exact nxr_congr h5 (fun b hb => by rw [h.2.2.2.2 b hb])
theorem KE.vs {up : Bool} {hand : Int} : ∀ (n : Nat) {k k' : Nat → Nat → Int} {left : Int}, KE k k' → SOK k → (∀ b, b < 4 → k 5 b = k' 5 b) → KE (mvs up hand n k left).1 (mvs up hand n k' left).1 ∧ (mvs up hand n k left).2 = (mvs up hand n k' left).2
  | 0, k, k', left, h, hk, h5 => ⟨h, rfl⟩
  | n + 1, k, k', left, h, hk, h5 => by
    have e1 := h.nx h5 up hand
    have e2 := h.wy hk (mnx up hand k) left up
    have e3 := h.st hk (mnx up hand k)
    rw [mvs, mvs, ← e1, ← e2, ← e3]
    by_cases hw : mwy k (mnx up hand k) left up ≤ 0
    · rw [if_pos hw, if_pos hw]
      exact ⟨h, rfl⟩
    · rw [if_neg hw, if_neg hw]
      have hp := Int.not_le.mp hw
      exact KE.vs n (h.vk hk (mwy_pos hp).1) (SOK_mvk hk hp) h5
theorem KE.up {k k' : Nat → Nat → Int} (h : KE k k') (hk : SOK k) (f n : Int) : KE (mup f n k).1 (mup f n k').1 ∧ (mup f n k).2 = (mup f n k').2 := by
  obtain ⟨⟨e0, e1⟩, e2⟩ := KE.vs (up := true) (hand := f) 4 (k := rck k true) (k' := rck k' true) (left := n) ((KE_rck k true).tr (h.tr (KE_rck k' true).sy)) hk (fun b hb => h.f5 hk true hb)
  refine ⟨⟨?_, e1⟩, ?_⟩
  · show va_up ((mvs true f 4 (rck k true) n).1 0) 7 ((mvs true f 4 (rck k true) n).1 0 7 + f * (n - (mvs true f 4 (rck k true) n).2)) = va_up ((mvs true f 4 (rck k' true) n).1 0) 7 ((mvs true f 4 (rck k' true) n).1 0 7 + f * (n - (mvs true f 4 (rck k' true) n).2))
    rw [e0, e2]
  · show n - _ = n - _
    rw [e2]
/-! who is next -/
def nxQ (fc ht : Nat → Int) (hand : Int) (c : Nat) : Prop := fc c ≠ -1 ∧ fc c ≤ hand ∧ ht c < 9000
theorem nxr_spec {fc ht : Nat → Int} {hand : Int} : ∀ n : Nat, (nxr fc ht hand n = -1 ∧ ∀ c, c < n → ¬ nxQ fc ht hand c) ∨ ∃ b : Nat, b < n ∧ nxr fc ht hand n = (b : Int) ∧ nxQ fc ht hand b ∧ ∀ c, c < n → nxQ fc ht hand c → fc b < fc c ∨ (fc b = fc c ∧ b ≤ c)
  | 0 => Or.inl ⟨rfl, fun c hc => absurd hc (Nat.not_lt_zero c)⟩
  | n + 1 => by
    rcases nxr_spec (fc := fc) (ht := ht) (hand := hand) n with ⟨h1, h2⟩ | ⟨b, h1, h2, h3, h4⟩
    · by_cases hq : nxQ fc ht hand n
      · refine Or.inr ⟨n, Nat.lt_succ_self n, ?_, hq, fun c hc hqc => ?_⟩
        · rw [nxr]; exact if_pos ⟨hq, Or.inl h1⟩
        · rcases Nat.lt_or_ge c n with h | h
          · exact absurd hqc (h2 c h)
          · rw [show c = n by omega]; exact Or.inr ⟨rfl, Nat.le_refl n⟩
      · refine Or.inl ⟨?_, fun c hc hqc => ?_⟩
        · rw [nxr, if_neg (fun h => hq h.1)]; exact h1
        · rcases Nat.lt_or_ge c n with h | h
          · exact h2 c h hqc
          · rw [show c = n by omega] at hqc; exact hq hqc
    · have e : (nxr fc ht hand n).toNat = b := by rw [h2]; rfl
      by_cases hq : nxQ fc ht hand n ∧ fc n < fc b
      · refine Or.inr ⟨n, Nat.lt_succ_self n, ?_, hq.1, fun c hc hqc => ?_⟩
        · rw [nxr]; exact if_pos ⟨hq.1, Or.inr (by rw [e]; exact hq.2)⟩
        · rcases Nat.lt_or_ge c n with h | h
          · have := h4 c h hqc; omega
          · rw [show c = n by omega]; exact Or.inr ⟨rfl, Nat.le_refl n⟩
      · refine Or.inr ⟨b, by omega, ?_, h3, fun c hc hqc => ?_⟩
        · rw [nxr, if_neg (fun h => hq ⟨h.1, h.2.elim (fun h9 => absurd h9 (by omega)) (fun h9 => by rw [e] at h9; exact h9)⟩)]; exact h2
        · rcases Nat.lt_or_ge c n with h | h
          · exact h4 c h hqc
          · rw [show c = n by omega] at hqc ⊢
            have h10 : ¬ fc n < fc b := fun h9 => hq ⟨hqc, h9⟩
            omega
/-- with less force: the same one, or none -/
theorem nxr_less {fc ht : Nat → Int} {h1 h2 : Int} {n b : Nat} (hh : h2 ≤ h1) (e : nxr fc ht h1 n = (b : Int)) (hb : fc b ≤ h2) : nxr fc ht h2 n = (b : Int) := by
  rcases nxr_spec (fc := fc) (ht := ht) (hand := h1) n with ⟨a1, a2⟩ | ⟨b1, a1, a2, a3, a4⟩
  · omega
  · have hb1 : b1 = b := by omega
    subst hb1
    rcases nxr_spec (fc := fc) (ht := ht) (hand := h2) n with ⟨c1, c2⟩ | ⟨b2, c1, c2, c3, c4⟩
    · exact absurd ⟨a3.1, hb, a3.2.2⟩ (c2 b1 a1)
    · have d1 := c4 b1 a1 ⟨a3.1, hb, a3.2.2⟩
      have d2 := a4 b2 c1 ⟨c3.1, by have := c3.2.1; omega, c3.2.2⟩
      rw [c2, show b2 = b1 by omega]
theorem nxr_no {fc ht : Nat → Int} {h1 h2 : Int} {n : Nat} (hh : h2 ≤ h1) (e : nxr fc ht h1 n = -1 ∨ h2 < fc (nxr fc ht h1 n).toNat) : nxr fc ht h2 n = -1 := by
  rcases nxr_spec (fc := fc) (ht := ht) (hand := h2) n with ⟨c1, c2⟩ | ⟨b2, c1, c2, c3, c4⟩
  · exact c1
  · rcases nxr_spec (fc := fc) (ht := ht) (hand := h1) n with ⟨a1, a2⟩ | ⟨b1, a1, a2, a3, a4⟩
    · exact absurd ⟨c3.1, by have := c3.2.1; omega, c3.2.2⟩ (a2 b2 c1)
    · have d2 := a4 b2 c1 ⟨c3.1, by have := c3.2.1; omega, c3.2.2⟩
      have d3 := c3.2.1
      rw [a2] at e
      rw [show ((b1 : Int)).toNat = b1 from rfl] at e
      omega
theorem nxs_gt {fc ht : Nat → Int} {hand : Int} : ∀ n : Nat, nxs fc ht hand n ≠ -1 → hand < fc (nxs fc ht hand n).toNat
  | 0, h => absurd rfl h
  | n + 1, h => by
    have ih := nxs_gt (fc := fc) (ht := ht) (hand := hand) n
    rw [nxs] at h ⊢
    by_cases hc : (if nxs fc ht hand n = -1 then hand else fc (nxs fc ht hand n).toNat) < fc n ∧ 0 < ht n
    · rw [if_pos hc]
      show hand < fc n
      have h1 := hc.1
      by_cases h0 : nxs fc ht hand n = -1
      · rw [if_pos h0] at h1; exact h1
      · rw [if_neg h0] at h1
        have := ih h0
        omega
    · rw [if_neg hc] at h ⊢
      exact ih h
/-! what moves keep and bring -/
theorem mvs_ind {up : Bool} {hand : Int} (P : (Nat → Nat → Int) → Int → (Nat → Nat → Int) → Int → Prop) (h0 : ∀ k left, P k left k left) (hs : ∀ k left k' left', 0 < mwy k (mnx up hand k) left up → P (mvk up k (mnx up hand k) (mwy k (mnx up hand k) left up)) (left - mwy k (mnx up hand k) left up * mst k (mnx up hand k)) k' left' → P k left k' left') : ∀ (n : Nat) (k : Nat → Nat → Int) (left : Int), P k left (mvs up hand n k left).1 (mvs up hand n k left).2
  | 0, k, left => h0 k left
  | n + 1, k, left => by
    rw [mvs]
    by_cases hw : mwy k (mnx up hand k) left up ≤ 0
    · rw [if_pos hw]; exact h0 k left
    · rw [if_neg hw]; exact hs k left _ _ (Int.not_le.mp hw) (mvs_ind P h0 hs n _ _)
theorem mvs_stop {up : Bool} {hand : Int} {k : Nat → Nat → Int} {left : Int} (h : mwy k (mnx up hand k) left up ≤ 0) : ∀ n : Nat, mvs up hand n k left = (k, left)
  | 0 => rfl
  | n + 1 => by rw [mvs, if_pos h]
theorem mvs_fix {up : Bool} {hand : Int} (n : Nat) (k : Nat → Nat → Int) (left : Int) : (mvs up hand n k left).1 1 = k 1 ∧ (mvs up hand n k left).1 3 = k 3 ∧ (mvs up hand n k left).1 5 = k 5 ∧ (mvs up hand n k left).1 0 0 = k 0 0 ∧ (mvs up hand n k left).1 0 1 = k 0 1 ∧ (mvs up hand n k left).1 0 2 = k 0 2 ∧ (mvs up hand n k left).1 0 3 = k 0 3 ∧ (mvs up hand n k left).1 0 7 = k 0 7 :=
  mvs_ind (fun k _ k' _ => k' 1 = k 1 ∧ k' 3 = k 3 ∧ k' 5 = k 5 ∧ k' 0 0 = k 0 0 ∧ k' 0 1 = k 0 1 ∧ k' 0 2 = k 0 2 ∧ k' 0 3 = k 0 3 ∧ k' 0 7 = k 0 7) (fun _ _ => ⟨rfl, rfl, rfl, rfl, rfl, rfl, rfl, rfl⟩) (fun _ _ _ _ _ h => h) n k left
theorem hng_mv {f ht : Nat → Int} {n : Nat} {E b d : Int} (hb : 0 ≤ b ∧ b < 4) : hng f n E (va_up ht b.toNat (ht b.toNat + d)) 4 = hng f n E ht 4 - d * strn f n E b := by
  rcases (by omega : b = 0 ∨ b = 1 ∨ b = 2 ∨ b = 3) with rfl | rfl | rfl | rfl
  · have q : strn f n E 0 * (10000 - (ht 0 + d)) = strn f n E 0 * (10000 - ht 0) - d * strn f n E 0 := by
      rw [show 10000 - (ht 0 + d) = (10000 - ht 0) - d by omega, Int.mul_sub, Int.mul_comm (strn f n E 0) d]
    have e0 : va_up ht ((0 : Int)).toNat (ht ((0 : Int)).toNat + d) 0 = ht 0 + d := rfl
    have e1 : va_up ht ((0 : Int)).toNat (ht ((0 : Int)).toNat + d) 1 = ht 1 := rfl
    have e2 : va_up ht ((0 : Int)).toNat (ht ((0 : Int)).toNat + d) 2 = ht 2 := rfl
    have e3 : va_up ht ((0 : Int)).toNat (ht ((0 : Int)).toNat + d) 3 = ht 3 := rfl
    rw [hng_4, hng_4, e0, e1, e2, e3, q]
    omega
  · have q : strn f n E 1 * (10000 - (ht 1 + d)) = strn f n E 1 * (10000 - ht 1) - d * strn f n E 1 := by
      rw [show 10000 - (ht 1 + d) = (10000 - ht 1) - d by omega, Int.mul_sub, Int.mul_comm (strn f n E 1) d]
    have e0 : va_up ht ((1 : Int)).toNat (ht ((1 : Int)).toNat + d) 0 = ht 0 := rfl
    have e1 : va_up ht ((1 : Int)).toNat (ht ((1 : Int)).toNat + d) 1 = ht 1 + d := rfl
    have e2 : va_up ht ((1 : Int)).toNat (ht ((1 : Int)).toNat + d) 2 = ht 2 := rfl
    have e3 : va_up ht ((1 : Int)).toNat (ht ((1 : Int)).toNat + d) 3 = ht 3 := rfl
    rw [hng_4, hng_4, e0, e1, e2, e3, q]
    omega
  · have q : strn f n E 2 * (10000 - (ht 2 + d)) = strn f n E 2 * (10000 - ht 2) - d * strn f n E 2 := by
      rw [show 10000 - (ht 2 + d) = (10000 - ht 2) - d by omega, Int.mul_sub, Int.mul_comm (strn f n E 2) d]
    have e0 : va_up ht ((2 : Int)).toNat (ht ((2 : Int)).toNat + d) 0 = ht 0 := rfl
    have e1 : va_up ht ((2 : Int)).toNat (ht ((2 : Int)).toNat + d) 1 = ht 1 := rfl
    have e2 : va_up ht ((2 : Int)).toNat (ht ((2 : Int)).toNat + d) 2 = ht 2 + d := rfl
    have e3 : va_up ht ((2 : Int)).toNat (ht ((2 : Int)).toNat + d) 3 = ht 3 := rfl
    rw [hng_4, hng_4, e0, e1, e2, e3, q]
    omega
  · have q : strn f n E 3 * (10000 - (ht 3 + d)) = strn f n E 3 * (10000 - ht 3) - d * strn f n E 3 := by
      rw [show 10000 - (ht 3 + d) = (10000 - ht 3) - d by omega, Int.mul_sub, Int.mul_comm (strn f n E 3) d]
    have e0 : va_up ht ((3 : Int)).toNat (ht ((3 : Int)).toNat + d) 0 = ht 0 := rfl
    have e1 : va_up ht ((3 : Int)).toNat (ht ((3 : Int)).toNat + d) 1 = ht 1 := rfl
    have e2 : va_up ht ((3 : Int)).toNat (ht ((3 : Int)).toNat + d) 2 = ht 2 := rfl
    have e3 : va_up ht ((3 : Int)).toNat (ht ((3 : Int)).toNat + d) 3 = ht 3 + d := rfl
    rw [hng_4, hng_4, e0, e1, e2, e3, q]
    omega
theorem hnd_mvk {up : Bool} {k : Nat → Nat → Int} {b way : Int} (hb : 0 ≤ b ∧ b < 4) : hnd (mvk up k b way) = hnd k + (if up then way else -way) * mst k b := by
  have e := hng_mv (f := k 1) (ht := k 4) (n := (k 0 2).toNat) (E := k 0 3) (d := if up then way else -way) hb
  show k 0 0 - hng (k 1) (k 0 2).toNat (k 0 3) (va_up (k 4) b.toNat (k 4 b.toNat + (if up then way else -way))) 4 = k 0 0 - hng (k 1) (k 0 2).toNat (k 0 3) (k 4) 4 + _
  rw [e]
  unfold mst
  omega
theorem mvs_hnd_up {hand : Int} (n : Nat) (k : Nat → Nat → Int) (left : Int) : hnd (mvs true hand n k left).1 = hnd k + (left - (mvs true hand n k left).2) :=
  mvs_ind (fun k left k' left' => hnd k' = hnd k + (left - left')) (fun k left => by omega) (fun k left k' left' hp h => by
    have h1 := hnd_mvk (up := true) (k := k) (way := mwy k (mnx true hand k) left true) (mwy_pos hp).1
    have h2 : hnd (mvk true k (mnx true hand k) (mwy k (mnx true hand k) left true)) = hnd k + mwy k (mnx true hand k) left true * mst k (mnx true hand k) := h1
    omega) n k left
theorem mvs_hnd_dn {hand : Int} (n : Nat) (k : Nat → Nat → Int) (left : Int) : hnd (mvs false hand n k left).1 = hnd k - (left - (mvs false hand n k left).2) :=
  mvs_ind (fun k left k' left' => hnd k' = hnd k - (left - left')) (fun k left => by omega) (fun k left k' left' hp h => by
    have h1 := hnd_mvk (up := false) (k := k) (way := mwy k (mnx false hand k) left false) (mwy_pos hp).1
    have h2 : hnd (mvk false k (mnx false hand k) (mwy k (mnx false hand k) left false)) = hnd k + -mwy k (mnx false hand k) left false * mst k (mnx false hand k) := h1
    rw [Int.neg_mul] at h2
    omega) n k left
theorem mul_sh (a x y w : Int) : a * (x - (y + w)) = a * (x - y) - a * w := by
  rw [← Int.mul_sub]
  congr 1
  omega
theorem mvk_4 {up : Bool} {k : Nat → Nat → Int} {b w : Int} (c : Nat) : mvk up k b w 4 c = if c = b.toNat then k 4 b.toNat + (if up then w else -w) else k 4 c := rfl
/-- rises: no block comes down, who rises had a lifting force that the hand had, the work that is got -/
theorem mvs_rise {hand : Int} (n : Nat) (k : Nat → Nat → Int) (left : Int) : (∀ b : Nat, b < 4 → k 4 b ≤ (mvs true hand n k left).1 4 b ∧ ((mvs true hand n k left).1 4 b ≠ k 4 b → k 5 b ≠ -1 ∧ k 5 b ≤ hand)) ∧ (mvs true hand n k left).1 0 8 = k 0 8 + (k 3 0 * ((mvs true hand n k left).1 4 0 - k 4 0) + k 3 1 * ((mvs true hand n k left).1 4 1 - k 4 1) + k 3 2 * ((mvs true hand n k left).1 4 2 - k 4 2) + k 3 3 * ((mvs true hand n k left).1 4 3 - k 4 3)) :=
  mvs_ind (fun k left k' left' => (∀ b : Nat, b < 4 → k 4 b ≤ k' 4 b ∧ (k' 4 b ≠ k 4 b → k 5 b ≠ -1 ∧ k 5 b ≤ hand)) ∧ k' 0 8 = k 0 8 + (k 3 0 * (k' 4 0 - k 4 0) + k 3 1 * (k' 4 1 - k 4 1) + k 3 2 * (k' 4 2 - k 4 2) + k 3 3 * (k' 4 3 - k 4 3))) (fun k left => by
    refine ⟨fun b hb => ⟨Int.le_refl _, fun h => absurd rfl h⟩, ?_⟩
    simp only [Int.sub_self, Int.mul_zero, Int.add_zero]) (fun k left k' left' hp ⟨h1, h2⟩ => by
    have hq := mwy_pos hp
    generalize hw : mwy k (mnx true hand k) left true = w at hp h1 h2 hq
    have hspec := nxr_spec (fc := k 5) (ht := k 4) (hand := hand) 4
    have hmx : mnx true hand k = nxr (k 5) (k 4) hand 4 := rfl
    generalize hb0 : mnx true hand k = b0 at hp h1 h2 hq hmx
    obtain ⟨b, hbe⟩ : ∃ b : Nat, b0 = (b : Int) := ⟨b0.toNat, by omega⟩
    subst hbe
    have hle : k 5 b ≠ -1 ∧ k 5 b ≤ hand := by
      rcases hspec with ⟨a1, -⟩ | ⟨b1, a1, a2, a3, -⟩
      · omega
      · rw [show b = b1 by omega]; exact ⟨a3.1, a3.2.1⟩
    have hb4 : b < 4 := by omega
    have e4 : ∀ c : Nat, mvk true k (b : Int) w 4 c = if c = b then k 4 b + w else k 4 c := fun c => rfl
    have e8 : mvk true k (b : Int) w 0 8 = k 0 8 + k 3 b * w := rfl
    have e3 : mvk true k (b : Int) w 3 = k 3 := rfl
    have e5 : mvk true k (b : Int) w 5 = k 5 := rfl
    rw [e3, e8, e4 0, e4 1, e4 2, e4 3] at h2
    refine ⟨fun c hc => ?_, ?_⟩
    · have h3 := h1 c hc
      rw [e4 c, e5] at h3
      by_cases hcb : c = b
      · rw [if_pos hcb] at h3
        rw [hcb] at h3 ⊢
        exact ⟨by omega, fun _ => hle⟩
      · rw [if_neg hcb] at h3
        exact h3
    · rcases (by omega : b = 0 ∨ b = 1 ∨ b = 2 ∨ b = 3) with rfl | rfl | rfl | rfl
      · rw [if_pos rfl, if_neg (by decide), if_neg (by decide), if_neg (by decide), mul_sh] at h2; omega
      · rw [if_neg (by decide), if_pos rfl, if_neg (by decide), if_neg (by decide), mul_sh] at h2; omega
      · rw [if_neg (by decide), if_neg (by decide), if_pos rfl, if_neg (by decide), mul_sh] at h2; omega
      · rw [if_neg (by decide), if_neg (by decide), if_neg (by decide), if_pos rfl, mul_sh] at h2; omega) n k left
theorem mvs_sink {hand : Int} (n : Nat) (k : Nat → Nat → Int) (left : Int) : (∀ b : Nat, b < 4 → (mvs false hand n k left).1 4 b ≤ k 4 b ∧ ((mvs false hand n k left).1 4 b ≠ k 4 b → hand < k 5 b)) ∧ (mvs false hand n k left).1 0 8 = k 0 8 :=
  mvs_ind (fun k left k' left' => (∀ b : Nat, b < 4 → k' 4 b ≤ k 4 b ∧ (k' 4 b ≠ k 4 b → hand < k 5 b)) ∧ k' 0 8 = k 0 8) (fun k left => ⟨fun b hb => ⟨Int.le_refl _, fun h => absurd rfl h⟩, rfl⟩) (fun k left k' left' hp ⟨h1, h2⟩ => by
    have hq := mwy_pos hp
    generalize hw : mwy k (mnx false hand k) left false = w at hp h1 h2 hq
    have hgt := nxs_gt (fc := k 5) (ht := k 4) (hand := hand) 4
    have hmx : mnx false hand k = nxs (k 5) (k 4) hand 4 := rfl
    rw [← hmx] at hgt
    generalize hb0 : mnx false hand k = b0 at hp h1 h2 hq hmx hgt
    obtain ⟨b, hbe⟩ : ∃ b : Nat, b0 = (b : Int) := ⟨b0.toNat, by omega⟩
    subst hbe
    have hle : hand < k 5 b := hgt (by omega)
    have e4 : ∀ c : Nat, mvk false k (b : Int) w 4 c = if c = b then k 4 b + -w else k 4 c := fun c => rfl
    have e5 : mvk false k (b : Int) w 5 = k 5 := rfl
    refine ⟨fun c hc => ?_, h2⟩
    have h3 := h1 c hc
    rw [e4 c, e5] at h3
    by_cases hcb : c = b
    · rw [if_pos hcb] at h3
      rw [hcb] at h3 ⊢
      exact ⟨by omega, fun _ => hle⟩
    · rw [if_neg hcb] at h3
      exact h3) n k left
/-! where rises end, and how many there were -/
def i1 (p : Prop) [Decidable p] : Int := if p then 1 else 0
def bt (k : Nat → Nat → Int) : Int := i1 (k 4 0 < 9000) + i1 (k 4 1 < 9000) + i1 (k 4 2 < 9000) + i1 (k 4 3 < 9000)
def nmv (k k' : Nat → Nat → Int) : Int := i1 (k 4 0 < k' 4 0) + i1 (k 4 1 < k' 4 1) + i1 (k 4 2 < k' 4 2) + i1 (k 4 3 < k' 4 3)
theorem i1_t {p : Prop} [Decidable p] (h : p) : i1 p = 1 := if_pos h
theorem i1_f {p : Prop} [Decidable p] (h : ¬ p) : i1 p = 0 := if_neg h
theorem i1_r (p : Prop) [Decidable p] : 0 ≤ i1 p ∧ i1 p ≤ 1 := by unfold i1; split <;> decide
theorem i1_c {p q : Prop} [Decidable p] [Decidable q] (h : p ↔ q) : i1 p = i1 q := ite_cg h rfl rfl
theorem nmv_0 (k : Nat → Nat → Int) : nmv k k = 0 := by
  unfold nmv
  rw [i1_f (Int.lt_irrefl _), i1_f (Int.lt_irrefl _), i1_f (Int.lt_irrefl _), i1_f (Int.lt_irrefl _)]
  rfl
def mEnd (hand : Int) (k : Nat → Nat → Int) (left : Int) : Prop := mnx true hand k = -1 ∨ left < mst k (mnx true hand k)
theorem mvs_end {hand : Int} : ∀ (n : Nat) (k : Nat → Nat → Int) (left : Int), SOK k → 0 ≤ left → (∀ b : Nat, b < 4 → k 5 b ≠ -1 → 0 < mst k (b : Int)) → bt k ≤ (n : Int) → mEnd hand (mvs true hand n k left).1 (mvs true hand n k left).2 ∧ (mvs true hand n k left).1 0 4 = k 0 4 + nmv k (mvs true hand n k left).1
  | 0, k, left, hk, hl, h5, hb => by
    refine ⟨Or.inl ?_, by rw [show (mvs true hand 0 k left).1 = k from rfl, nmv_0]; omega⟩
    have r0 := i1_r (k 4 0 < 9000)
    have r1 := i1_r (k 4 1 < 9000)
    have r2 := i1_r (k 4 2 < 9000)
    have r3 := i1_r (k 4 3 < 9000)
    have hb' : i1 (k 4 0 < 9000) + i1 (k 4 1 < 9000) + i1 (k 4 2 < 9000) + i1 (k 4 3 < 9000) ≤ 0 := hb
    rcases nxr_spec (fc := k 5) (ht := k 4) (hand := hand) 4 with ⟨a1, -⟩ | ⟨b1, a1, a2, a3, -⟩
    · exact a1
    · have h9 := a3.2.2
      rcases (by omega : b1 = 0 ∨ b1 = 1 ∨ b1 = 2 ∨ b1 = 3) with rfl | rfl | rfl | rfl
      · have := i1_t h9; omega
      · have := i1_t h9; omega
      · have := i1_t h9; omega
      · have := i1_t h9; omega
  | n + 1, k, left, hk, hl, h5, hb => by
    rw [mvs]
    by_cases hw : mwy k (mnx true hand k) left true ≤ 0
    · rw [if_pos hw]
      refine ⟨?_, by show k 0 4 = k 0 4 + nmv k k; rw [nmv_0]; omega⟩
      have hmx : mnx true hand k = nxr (k 5) (k 4) hand 4 := rfl
      rcases nxr_spec (fc := k 5) (ht := k 4) (hand := hand) 4 with ⟨a1, -⟩ | ⟨b1, a1, a2, a3, -⟩
      · exact Or.inl (hmx.trans a1)
      · refine Or.inr ?_
        rw [hmx, a2] at hw ⊢
        have hm := h5 b1 a1 a3.1
        show left < mst k (b1 : Int)
        unfold mwy at hw
        rw [if_pos ⟨by omega, hm⟩] at hw
        have h9 := a3.2.2
        have hw2 : (if 9000 - k 4 b1 < left / mst k (b1 : Int) then 9000 - k 4 b1 else left / mst k (b1 : Int)) ≤ 0 := hw
        have h10 : left / mst k (b1 : Int) ≤ 0 := by
          by_cases hc : 9000 - k 4 b1 < left / mst k (b1 : Int)
          · rw [if_pos hc] at hw2; omega
          · rw [if_neg hc] at hw2; exact hw2
        have h11 := Int.lt_mul_ediv_self_add (x := left) hm
        have h12 : mst k (b1 : Int) * (left / mst k (b1 : Int)) ≤ 0 := Int.mul_nonpos_of_nonneg_of_nonpos (by omega) h10
        omega
    · rw [if_neg hw]
      have hp := Int.not_le.mp hw
      have hq := mwy_pos hp
      have hs1 := SOK_mvk hk hp
      have hwr := mwy_rng hk (b := mnx true hand k) (up := true) hl
      have hwd : mwy k (mnx true hand k) left true = if (if true then 9000 - k 4 (mnx true hand k).toNat else k 4 (mnx true hand k).toNat) < left / mst k (mnx true hand k) then (if true then 9000 - k 4 (mnx true hand k).toNat else k 4 (mnx true hand k).toNat) else left / mst k (mnx true hand k) := by
        unfold mwy
        rw [if_pos ⟨hq.1, hq.2.1⟩]
      have hmx : mnx true hand k = nxr (k 5) (k 4) hand 4 := rfl
      generalize hwe : mwy k (mnx true hand k) left true = w at hp hq hs1 hwr hwd ⊢
      generalize hb0 : mnx true hand k = b0 at hp hq hs1 hwr hwd hmx hwe ⊢
      obtain ⟨b, hbe⟩ : ∃ b : Nat, b0 = (b : Int) := ⟨b0.toNat, by omega⟩
      subst hbe
      have hb4 : b < 4 := by omega
      have hq4 : k 4 b + w ≤ 9000 := hq.2.2.2
      have hwd2 : w = if 9000 - k 4 b < left / mst k (b : Int) then 9000 - k 4 b else left / mst k (b : Int) := hwd
      have e4 : ∀ c : Nat, mvk true k (b : Int) w 4 c = if c = b then k 4 b + w else k 4 c := fun c => rfl
      have e04 : mvk true k (b : Int) w 0 4 = k 0 4 + 1 := rfl
      have e5 : mvk true k (b : Int) w 5 = k 5 := rfl
      have em : ∀ c : Int, mst (mvk true k (b : Int) w) c = mst k c := fun c => rfl
      have hmpos : 0 < mst k (b : Int) := hq.2.1
      generalize hk1 : mvk true k (b : Int) w = k1 at hs1 e4 e04 e5 em ⊢
      by_cases htop : k 4 b + w = 9000
      · have hbt : bt k1 + 1 = bt k := by
          unfold bt
          rw [e4 0, e4 1, e4 2, e4 3]
          rcases (by omega : b = 0 ∨ b = 1 ∨ b = 2 ∨ b = 3) with rfl | rfl | rfl | rfl
          · rw [if_pos rfl, if_neg (by decide), if_neg (by decide), if_neg (by decide), i1_f (p := k 4 0 + w < 9000) (by omega), i1_t (p := k 4 0 < 9000) (by omega)]; omega
          · rw [if_neg (by decide), if_pos rfl, if_neg (by decide), if_neg (by decide), i1_f (p := k 4 1 + w < 9000) (by omega), i1_t (p := k 4 1 < 9000) (by omega)]; omega
          · rw [if_neg (by decide), if_neg (by decide), if_pos rfl, if_neg (by decide), i1_f (p := k 4 2 + w < 9000) (by omega), i1_t (p := k 4 2 < 9000) (by omega)]; omega
          · rw [if_neg (by decide), if_neg (by decide), if_neg (by decide), if_pos rfl, i1_f (p := k 4 3 + w < 9000) (by omega), i1_t (p := k 4 3 < 9000) (by omega)]; omega
        have hl1 : 0 ≤ left - w * mst k (b : Int) := by omega
        have ih := mvs_end (hand := hand) n k1 (left - w * mst k (b : Int)) hs1 hl1 (fun c hc h9 => by rw [em]; rw [e5] at h9; exact h5 c hc h9) (by omega)
        have hup := (mvs_rise (hand := hand) n k1 (left - w * mst k (b : Int))).1
        have hs2 := (mvs_rng (up := true) (hand := hand) n hs1 hl1).1
        refine ⟨ih.1, ?_⟩
        rw [ih.2, e04]
        generalize (mvs true hand n k1 (left - w * mst k (b : Int))).1 = k' at hup hs2 ⊢
        have hub := hup b hb4
        have htb := hs2.2.2.2.2.2.1 b hb4
        have e4b := e4 b
        rw [if_pos rfl] at e4b
        have : nmv k k' = nmv k1 k' + 1 := by
          unfold nmv
          rw [e4 0, e4 1, e4 2, e4 3]
          rcases (by omega : b = 0 ∨ b = 1 ∨ b = 2 ∨ b = 3) with rfl | rfl | rfl | rfl
          · rw [if_pos rfl, if_neg (by decide), if_neg (by decide), if_neg (by decide), i1_f (p := k 4 0 + w < k' 4 0) (by omega), i1_t (p := k 4 0 < k' 4 0) (by omega)]; omega
          · rw [if_neg (by decide), if_pos rfl, if_neg (by decide), if_neg (by decide), i1_f (p := k 4 1 + w < k' 4 1) (by omega), i1_t (p := k 4 1 < k' 4 1) (by omega)]; omega
          · rw [if_neg (by decide), if_neg (by decide), if_pos rfl, if_neg (by decide), i1_f (p := k 4 2 + w < k' 4 2) (by omega), i1_t (p := k 4 2 < k' 4 2) (by omega)]; omega
          · rw [if_neg (by decide), if_neg (by decide), if_neg (by decide), if_pos rfl, i1_f (p := k 4 3 + w < k' 4 3) (by omega), i1_t (p := k 4 3 < k' 4 3) (by omega)]; omega
        omega
      · have hwl : w = left / mst k (b : Int) := by
          by_cases hc : 9000 - k 4 b < left / mst k (b : Int)
          · rw [if_pos hc] at hwd2; omega
          · rw [if_neg hc] at hwd2; exact hwd2
        have h11 := Int.lt_mul_ediv_self_add (x := left) hmpos
        rw [← hwl, Int.mul_comm] at h11
        have hl1 : 0 ≤ left - w * mst k (b : Int) ∧ left - w * mst k (b : Int) < mst k (b : Int) := by omega
        have hmn : mnx true hand k1 = (b : Int) := by
          rw [hmx]
          show nxr (k1 5) (k1 4) hand 4 = nxr (k 5) (k 4) hand 4
          refine nxr_congr (fun c hc => by rw [e5]) (fun c hc => ?_)
          rw [e4 c]
          by_cases hcb : c = b
          · rw [if_pos hcb, hcb]; omega
          · rw [if_neg hcb]
        have hst : mwy k1 (mnx true hand k1) (left - w * mst k (b : Int)) true ≤ 0 := by
          rw [hmn]
          unfold mwy
          rw [if_pos ⟨by omega, by rw [em]; exact hmpos⟩, em]
          have h0 : (left - w * mst k (b : Int)) / mst k (b : Int) = 0 := Int.ediv_eq_zero_of_lt hl1.1 hl1.2
          rw [h0]
          show (if 9000 - k1 4 b < 0 then 9000 - k1 4 b else 0) ≤ 0
          split
          · next h9 => exact Int.le_of_lt h9
          · exact Int.le_refl _
        rw [mvs_stop hst n]
        refine ⟨Or.inr ?_, ?_⟩
        · show left - w * mst k (b : Int) < mst k1 (mnx true hand k1)
          rw [hmn, em]
          exact hl1.2
        · show k1 0 4 = k 0 4 + nmv k k1
          rw [e04]
          unfold nmv
          rw [e4 0, e4 1, e4 2, e4 3]
          have hi : ∀ x : Int, i1 (x < x) = 0 := fun x => i1_f (Int.lt_irrefl x)
          rcases (by omega : b = 0 ∨ b = 1 ∨ b = 2 ∨ b = 3) with rfl | rfl | rfl | rfl
          · rw [if_pos rfl, if_neg (by decide), if_neg (by decide), if_neg (by decide), hi, hi, hi, i1_t (p := k 4 0 < k 4 0 + w) (by omega)]; omega
          · rw [if_neg (by decide), if_pos rfl, if_neg (by decide), if_neg (by decide), hi, hi, hi, i1_t (p := k 4 1 < k 4 1 + w) (by omega)]; omega
          · rw [if_neg (by decide), if_neg (by decide), if_pos rfl, if_neg (by decide), hi, hi, hi, i1_t (p := k 4 2 < k 4 2 + w) (by omega)]; omega
          · rw [if_neg (by decide), if_neg (by decide), if_neg (by decide), if_pos rfl, hi, hi, hi, i1_t (p := k 4 3 < k 4 3 + w) (by omega)]; omega
