/-! short words for what is told, and facts of the checks -/
theorem pfE (W : va_W) : ∀ w : va_W, (w ++ W).Perm (w ++ W) := fun _ => List.Perm.refl _
noncomputable def lef (k : Nat → Nat → Int) (h : Bool) (b : Nat) : Int := lea (k 1) (k 0 1) h (k 0 2).toNat (k 0 3) (b : Int) (k 3 b)
def plf (k : Nat → Nat → Int) (h : Bool) (b : Nat) (f : Int) : Int := pul (k 1) (k 0 1) h (k 0 2).toNat (k 0 3) (b : Int) f
abbrev msf (k : Nat → Nat → Int) (b : Nat) : Int := mst k (b : Int)
def psF (g : Nat → Int) : Nat → Int
  | 0 => 0
  | i + 1 => psF g i + g i
theorem psF_4 (g : Nat → Int) : psF g 4 = g 0 + g 1 + g 2 + g 3 := by
  show 0 + g 0 + g 1 + g 2 + g 3 = _
  omega
theorem lef_rng (k : Nat → Nat → Int) (h : Bool) (b : Nat) : -1 ≤ lef k h b ∧ lef k h b ≤ 1000000 := lea_rng ..
theorem plf_rng {k : Nat → Nat → Int} (hk : SOK k) {h : Bool} {b : Nat} {f : Int} (hf : 0 ≤ f ∧ f ≤ 1000000) : 0 ≤ plf k h b f ∧ plf k h b f ≤ 90000000000000 := pul_le hk.2.2.1 hf (by have := hk.1; omega)
theorem plf_mono {k : Nat → Nat → Int} (hk : SOK k) {h : Bool} {b : Nat} {f f' : Int} (hf : 0 ≤ f) (hh : f ≤ f') : plf k h b f ≤ plf k h b f' := pul_mono hk.2.2.1 hf hh
theorem pul_0 {f : Nat → Int} {F : Int} {h : Bool} {E b t : Int} : ∀ {n : Nat}, strn f n E b = 0 → pul f F h n E b t = 0
  | n, hs => by
    have hc := cnt_rng f b n
    have hz : cnt f b n = 0 ∧ E ≠ b := by
      unfold strn at hs
      split at hs
      · omega
      · next h9 => exact ⟨by omega, h9⟩
    have hp : ∀ m : Nat, cnt f b m = 0 → psum f F h b t m = 0 := by
      intro m
      induction m with
      | zero => intro _; rfl
      | succ m ih =>
        intro h1
        rw [cnt] at h1
        have h2 := cnt_rng f b m
        by_cases h3 : f m = b
        · rw [if_pos h3] at h1; omega
        · rw [if_neg h3] at h1
          rw [psum, ih (by omega), if_neg h3]
          rfl
    unfold pul
    rw [hp n hz.1, if_neg hz.2]
    rfl
/-- a least force is enough, and one less is not -/
theorem lef_spec {k : Nat → Nat → Int} (hk : SOK k) (h : Bool) (b : Nat) : (lef k h b = -1 ∧ (msf k b = 0 ∧ plf k h b 1000000 = 0 ∨ msf k b ≠ 0 ∧ plf k h b 1000000 < k 3 b)) ∨ (0 ≤ lef k h b ∧ 0 < msf k b ∧ k 3 b ≤ plf k h b (lef k h b) ∧ (0 < lef k h b → plf k h b (lef k h b - 1) < k 3 b)) := by
  have hs := mst_rng hk (b : Int)
  by_cases h0 : strn (k 1) (k 0 2).toNat (k 0 3) (b : Int) = 0
  · refine Or.inl ⟨?_, Or.inl ⟨h0, pul_0 h0⟩⟩
    unfold lef lea
    rw [if_pos h0]
  · have e : lef k h b = lst (pul (k 1) (k 0 1) h (k 0 2).toNat (k 0 3) (b : Int)) (k 3 b) := by
      unfold lef lea
      rw [if_neg h0]
    have hm : 0 < msf k b := by
      have : mst k (b : Int) ≠ 0 := h0
      show 0 < mst k (b : Int)
      omega
    by_cases hp : k 3 b ≤ pul (k 1) (k 0 1) h (k 0 2).toNat (k 0 3) (b : Int) 1000000
    · obtain ⟨r, hr⟩ := IsL.ex hp
      have e2 := e.trans (lst_eq hr)
      rw [e2]
      exact Or.inr ⟨hr.1.1, hm, hr.2.1, fun h9 => hr.2.2 (r - 1) (by omega) (by omega)⟩
    · have hp2 := Int.not_le.mp hp
      exact Or.inl ⟨e.trans (lst_none (fun a b ha hb => pul_mono hk.2.2.1 ha hb) hp2), Or.inr ⟨h0, hp2⟩⟩
/-! forces and pulls -/
/-- the pulley n + 1 of the way is followed by a strand of the block -/
def itsP (k : Nat → Nat → Int) (b : Nat) (n : Nat) : Prop := if (n : Int) + 1 ≤ 2 * k 0 2 then k 1 (n / 2) = (b : Int) else k 0 3 = (b : Int)
noncomputable def pps (k : Nat → Nat → Int) (h : Bool) (b : Nat) (f : Int) : Nat → Int
  | 0 => 0
  | n + 1 => pps k h b f n + @ite Int (itsP k b n) (Classical.propDecidable _) (fbn (k 0 1) h f (n + 1)) 0
theorem pps_t {k : Nat → Nat → Int} {h : Bool} {b : Nat} {f : Int} {n : Nat} (hi : itsP k b n) : pps k h b f n + fbn (k 0 1) h f (n + 1) = pps k h b f (n + 1) := by
  rw [pps, if_pos hi]
theorem pps_f {k : Nat → Nat → Int} {h : Bool} {b : Nat} {f : Int} {n : Nat} (hi : ¬ itsP k b n) : pps k h b f n + 0 = pps k h b f (n + 1) := by
  rw [pps, if_neg hi]
theorem its_1 {k : Nat → Nat → Int} {b n : Nat} (h1 : (n : Int) + 1 ≤ 2 * k 0 2) : itsP k b n ↔ k 1 (n / 2) = (b : Int) := by unfold itsP; rw [if_pos h1]
theorem its_2 {k : Nat → Nat → Int} {b n : Nat} (h1 : ¬ (n : Int) + 1 ≤ 2 * k 0 2) : itsP k b n ↔ k 0 3 = (b : Int) := by unfold itsP; rw [if_neg h1]
theorem pps_2 {k : Nat → Nat → Int} {h : Bool} {b : Nat} {f : Int} : ∀ m : Nat, (m : Int) ≤ k 0 2 → pps k h b f (2 * m) = psum (k 1) (k 0 1) h (b : Int) f m
  | 0, _ => rfl
  | m + 1, hm => by
    have ih := pps_2 (k := k) (h := h) (b := b) (f := f) m (by omega)
    have i1 := its_1 (k := k) (b := b) (n := 2 * m) (by omega)
    have i2 := its_1 (k := k) (b := b) (n := 2 * m + 1) (by omega)
    rw [show 2 * m / 2 = m by omega] at i1
    rw [show (2 * m + 1) / 2 = m by omega] at i2
    rw [show 2 * (m + 1) = 2 * m + 1 + 1 by omega, psum, ← ih]
    by_cases hb : k 1 m = (b : Int)
    · rw [← pps_t (i2.mpr hb), ← pps_t (i1.mpr hb), if_pos hb]
      have e9 : fbn (k 0 1) h f (2 * m + 1 + 1) = fbn (k 0 1) h f (2 * m + 2) := rfl
      omega
    · rw [← pps_f (fun h9 => hb (i2.mp h9)), ← pps_f (fun h9 => hb (i1.mp h9)), if_neg hb]
      omega
theorem passF_r  {k : Nat → Nat → Int} (hk : SOK k) : 0 ≤ passF k ∧ passF k ≤ 21 ∧ 2 * k 0 2 ≤ passF k := by
  have := hk.1
  unfold passF
  split <;> omega
theorem pps_end {k : Nat → Nat → Int} (hk : SOK k) {h : Bool} {b : Nat} (hb : b < 4) {f : Int} : plf k h b f = pps k h b f (passF k).toNat := by
  have h1 := hk.1
  have e := pps_2 (k := k) (h := h) (b := b) (f := f) (k 0 2).toNat (by omega)
  unfold plf pul
  rw [← e]
  by_cases h4 : k 0 3 = 4
  · have e2 : (passF k).toNat = 2 * (k 0 2).toNat := by
      unfold passF
      rw [if_pos h4]
      omega
    rw [e2, if_neg (by omega)]
    omega
  · have e2 : (passF k).toNat = 2 * (k 0 2).toNat + 1 := by
      unfold passF
      rw [if_neg h4]
      omega
    have i2 := its_2 (k := k) (b := b) (n := 2 * (k 0 2).toNat) (by omega)
    rw [e2]
    by_cases hE : k 0 3 = (b : Int)
    · rw [← pps_t (i2.mpr hE), if_pos hE]
    · rw [← pps_f (fun h9 => hE (i2.mp h9)), if_neg hE]
theorem beh_tf {F t u : Int} (hF : 0 ≤ F ∧ F ≤ 30) (ht : 0 ≤ t) (hu : t ≤ u) : beh F true t ≤ beh F false u := by
  have h1 := beh_mono (h := false) hF ht hu
  have h2 := mulF ht hF
  have h3 : beh F true t = t - t * F / 100 := rfl
  have h4 : beh F false t = t + t * F / 100 := rfl
  omega
theorem fbn_tf {F t : Int} (hF : 0 ≤ F ∧ F ≤ 30) (ht : 0 ≤ t) : ∀ n : Nat, fbn F true t n ≤ fbn F false t n
  | 0 => Int.le_refl _
  | n + 1 => beh_tf hF (fbn_rng hF ht n).1 (fbn_tf hF ht n)
theorem psum_tf {f : Nat → Int} {F b t : Int} (hF : 0 ≤ F ∧ F ≤ 30) (ht : 0 ≤ t) : ∀ n : Nat, psum f F true b t n ≤ psum f F false b t n
  | 0 => Int.le_refl _
  | n + 1 => by
    have h1 := fbn_tf hF ht (2 * n + 1)
    have h2 := fbn_tf hF ht (2 * n + 2)
    have h3 := psum_tf (f := f) (b := b) hF ht n
    rw [psum, psum]
    split <;> omega
theorem plf_tf {k : Nat → Nat → Int} (hk : SOK k) {b : Nat} {f : Int} (hf : 0 ≤ f) : plf k true b f ≤ plf k false b f := by
  have h1 := fbn_tf hk.2.2.1 hf (2 * (k 0 2).toNat + 1)
  have h2 := psum_tf (f := k 1) (b := (b : Int)) hk.2.2.1 hf (k 0 2).toNat
  unfold plf pul
  split <;> omega
/-! hauling -/
/-- what a hauling does: from k to K with a force, up to a length; the rope -/
def HF (k K : Nat → Nat → Int) (f v rope : Int) : Prop := (0 ≤ rope ∧ rope ≤ v) ∧ (∀ b : Nat, b < 4 → k 4 b ≤ K 4 b ∧ (K 4 b ≠ k 4 b → lef K true b ≤ f)) ∧ psF (fun j => msf K j * (K 4 j - k 4 j)) 4 = rope ∧ hnd K = hnd k + rope ∧ K 0 7 = k 0 7 + f * rope ∧ K 0 8 = k 0 8 + psF (fun j => (K 4 j - k 4 j) * K 3 j) 4 ∧ K 0 4 = k 0 4 + psF (fun j => i1 (0 < K 4 j - k 4 j)) 4 ∧ (nxr (rck K true 5) (K 4) 1000000 4 = -1 ∨ (∃ b : Nat, b < 4 ∧ nxr (rck K true 5) (K 4) 1000000 4 = (b : Int) ∧ (f < lef K true b ∨ v - rope < msf K b)))
theorem rck_lef {k : Nat → Nat → Int} {h : Bool} {b : Nat} (hb : b < 4) : rck k h 5 b = lef k h b := cpy_lt hb
theorem HF_mup {k : Nat → Nat → Int} (hk : SOK k) (hh : 0 ≤ hnd k) {f v : Int} (hf : 0 ≤ f ∧ f ≤ 1000000) (hv : 0 ≤ v) : HF k (mup f v k).1 f v (mup f v k).2 := by
  have hr := mvs_rng (up := true) (hand := f) 4 (SOK_rck hk true) hv
  have hfx := mvs_fix (up := true) (hand := f) 4 (rck k true) v
  have hhn := mvs_hnd_up (hand := f) 4 (rck k true) v
  have hri := mvs_rise (hand := f) 4 (rck k true) v
  have hfc : ∀ b : Nat, b < 4 → rck k true 5 b ≠ -1 → 0 < mst (rck k true) (b : Int) := by
    intro b hb h9
    rw [rck_lef hb] at h9
    rcases lef_spec hk true b with ⟨h1, -⟩ | ⟨-, h1, -⟩
    · exact absurd h1 h9
    · exact h1
  have hbt : bt (rck k true) ≤ ((4 : Nat) : Int) := by
    have r0 := i1_r (k 4 0 < 9000)
    have r1 := i1_r (k 4 1 < 9000)
    have r2 := i1_r (k 4 2 < 9000)
    have r3 := i1_r (k 4 3 < 9000)
    show i1 (k 4 0 < 9000) + i1 (k 4 1 < 9000) + i1 (k 4 2 < 9000) + i1 (k 4 3 < 9000) ≤ 4
    omega
  have hen := mvs_end (hand := f) 4 (rck k true) v (SOK_rck hk true) hv hfc hbt
  have h7 := mup_7 hk hf (n := v)
  have e2 : (mup f v k).2 = v - (mvs true f 4 (rck k true) v).2 := rfl
  have e4 : (mup f v k).1 4 = (mvs true f 4 (rck k true) v).1 4 := rfl
  have e3 : (mup f v k).1 3 = (mvs true f 4 (rck k true) v).1 3 := rfl
  have e08 : (mup f v k).1 0 8 = (mvs true f 4 (rck k true) v).1 0 8 := rfl
  have e04 : (mup f v k).1 0 4 = (mvs true f 4 (rck k true) v).1 0 4 := rfl
  have ehn : hnd (mup f v k).1 = hnd (mvs true f 4 (rck k true) v).1 := rfl
  have e07 : (mup f v k).1 0 7 = (mvs true f 4 (rck k true) v).1 0 7 + f * (v - (mvs true f 4 (rck k true) v).2) := rfl
  have eml : ∀ b : Nat, lef (mup f v k).1 true b = lef (mvs true f 4 (rck k true) v).1 true b := fun _ => rfl
  have ems : ∀ b : Nat, msf (mup f v k).1 b = msf (mvs true f 4 (rck k true) v).1 b := fun _ => rfl
  generalize (mup f v k).2 = rope at e2 ⊢
  generalize (mup f v k).1 = K0 at *
  generalize hM : (mvs true f 4 (rck k true) v).1 = M at *
  generalize hlf : (mvs true f 4 (rck k true) v).2 = lf at *
  obtain ⟨f1, f3, f5, f00, f01, f02, f03, f07⟩ := hfx
  have q1 : rck k true 1 = k 1 := rfl
  have q0 : rck k true 0 = k 0 := rfl
  have q3 : rck k true 3 = k 3 := rfl
  have q4 : rck k true 4 = k 4 := rfl
  have qh : hnd (rck k true) = hnd k := rfl
  rw [q0] at f00 f01 f02 f03 f07
  rw [q1] at f1
  rw [q3] at f3
  rw [qh] at hhn
  have hlM : ∀ b : Nat, lef M true b = lef k true b := fun b => by
    unfold lef
    rw [f1, f3, f01, f02, f03]
  have hmM : ∀ b : Nat, msf M b = msf k b := fun b => by
    show strn (M 1) (M 0 2).toNat (M 0 3) (b : Int) = strn (k 1) (k 0 2).toNat (k 0 3) (b : Int)
    rw [f1, f02, f03]
  have hsum : psF (fun j => msf k j * (M 4 j - k 4 j)) 4 = v - lf := by
    rw [psF_4]
    have g1 : hnd M = M 0 0 - hng (M 1) (M 0 2).toNat (M 0 3) (M 4) 4 := rfl
    have g2 : hnd k = k 0 0 - hng (k 1) (k 0 2).toNat (k 0 3) (k 4) 4 := rfl
    rw [f1, f00, f02, f03] at g1
    rw [hng_4] at g1 g2
    have m0 : ∀ a x y : Int, a * (x - y) = a * (10000 - y) - a * (10000 - x) := fun a x y => by rw [← Int.mul_sub]; congr 1; omega
    show strn (k 1) (k 0 2).toNat (k 0 3) 0 * (M 4 0 - k 4 0) + strn (k 1) (k 0 2).toNat (k 0 3) 1 * (M 4 1 - k 4 1) + strn (k 1) (k 0 2).toNat (k 0 3) 2 * (M 4 2 - k 4 2) + strn (k 1) (k 0 2).toNat (k 0 3) 3 * (M 4 3 - k 4 3) = _
    rw [m0 _ (M 4 0), m0 _ (M 4 1), m0 _ (M 4 2), m0 _ (M 4 3)]
    omega
  have h5k : ∀ b : Nat, b < 4 → rck M true 5 b = M 5 b := fun b hb => by
    rw [rck_lef hb, hlM b, f5, rck_lef hb]
  have hr5 : ∀ b : Nat, b < 4 → rck K0 true 5 b = lef K0 true b := fun b hb => rck_lef hb
  refine ⟨by omega, fun b hb => ?_, ?_, by omega, by rw [e07, f07, e2], ?_, ?_, ?_⟩
  · have h1 := hri.1 b hb
    rw [q4, rck_lef hb] at h1
    rw [e4, eml, hlM]
    exact ⟨h1.1, fun h9 => (h1.2 h9).2⟩
  · rw [e2, ← hsum]
    simp only [psF_4, ems, e4, hmM]
  · rw [e08, hri.2, psF_4, e4, e3, f3, q3, q4]
    have hcm : ∀ a b : Int, a * b = b * a := Int.mul_comm
    rw [hcm (k 3 0), hcm (k 3 1), hcm (k 3 2), hcm (k 3 3)]
    rfl
  · rw [e04, hen.2, psF_4, e4]
    have hi : ∀ x y : Int, i1 (x < y) = i1 (0 < y - x) := fun x y => i1_c ⟨fun _ => by omega, fun _ => by omega⟩
    unfold nmv
    rw [hi (rck k true 4 0) (M 4 0), hi (rck k true 4 1) (M 4 1), hi (rck k true 4 2) (M 4 2), hi (rck k true 4 3) (M 4 3)]
    rfl
  · have hme : mnx true f M = nxr (M 5) (M 4) f 4 := rfl
    have hnc : nxr (rck K0 true 5) (K0 4) 1000000 4 = nxr (M 5) (M 4) 1000000 4 := nxr_congr (fun b hb => by rw [hr5 b hb, eml, ← rck_lef hb, h5k b hb]) (fun b hb => by rw [e4])
    rw [hnc]
    rcases nxr_spec (fc := M 5) (ht := M 4) (hand := 1000000) 4 with ⟨a1, -⟩ | ⟨b, a1, a2, a3, -⟩
    · exact Or.inl a1
    · refine Or.inr ⟨b, a1, a2, ?_⟩
      by_cases hle : M 5 b ≤ f
      · have e9 := nxr_less hf.2 a2 hle
        rcases hen.1 with h9 | h9
        · rw [hme, e9] at h9; omega
        · rw [hme, e9] at h9
          refine Or.inr ?_
          rw [e2, ems]
          have h9' : lf < mst M (b : Int) := h9
          show v - (v - lf) < mst M (b : Int)
          omega
      · refine Or.inl ?_
        rw [eml, ← rck_lef a1, h5k b a1]
        omega
theorem mup_no {k : Nat → Nat → Int} {f v : Int} (hf : f ≤ 1000000) (h : nxr (rck k true 5) (k 4) 1000000 4 = -1 ∨ ∃ b : Nat, b < 4 ∧ nxr (rck k true 5) (k 4) 1000000 4 = (b : Int) ∧ f < lef k true b) : (mup f v k).2 = 0 := by
  have hn : mnx true f (rck k true) = -1 := by
    show nxr (rck k true 5) (k 4) f 4 = -1
    refine nxr_no hf ?_
    rcases h with h | ⟨b, h1, h2, h3⟩
    · exact Or.inl h
    · refine Or.inr ?_
      rw [h2]
      show f < rck k true 5 b
      rw [rck_lef h1]
      exact h3
  have hs : mwy (rck k true) (mnx true f (rck k true)) v true ≤ 0 := by
    rw [hn]
    unfold mwy
    rw [if_neg (by omega)]
    exact Int.le_refl _
  show v - (mvs true f 4 (rck k true) v).2 = 0
  rw [mvs_stop hs 4]
  show v - v = 0
  omega
theorem rise_0 {k : Nat → Nat → Int} {f v : Int} {b : Nat} (hk : SOK k) (hb : b < 4) (h : msf k b = 0) : (mup f v k).1 4 b - k 4 b = 0 := by
  have h1 := (mvs_rise (hand := f) 4 (rck k true) v).1 b hb
  have h2 : rck k true 5 b = lef k true b := rck_lef hb
  rcases lef_spec hk true b with ⟨h3, -⟩ | ⟨-, h3, -⟩
  · have h4 : (mup f v k).1 4 b = (mvs true f 4 (rck k true) v).1 4 b := rfl
    have h5 : rck k true 4 b = k 4 b := rfl
    rw [h4]
    rw [h5] at h1
    by_cases h6 : (mvs true f 4 (rck k true) v).1 4 b = k 4 b
    · omega
    · exact absurd (h2.trans h3) (h1.2 h6).1
  · omega
/-- what a letting out does -/
def LF (k K : Nat → Nat → Int) (f v rope : Int) : Prop := (0 ≤ rope ∧ rope ≤ v ∧ rope ≤ hnd k) ∧ (∀ b : Nat, b < 4 → K 4 b ≤ k 4 b ∧ (K 4 b ≠ k 4 b → f < lef K false b)) ∧ psF (fun j => (k 4 j - K 4 j) * msf K j) 4 = rope ∧ hnd K = hnd k - rope ∧ K 0 7 = k 0 7 ∧ K 0 8 = k 0 8
theorem LF_mdn {k : Nat → Nat → Int} (hk : SOK k) (hh : 0 ≤ hnd k) {f v : Int} (hv : 0 ≤ v) : LF k (mdn f v k).1 f v (mdn f v k).2 := by
  have hr := hnd_mdn (hand := f) hk hh hv
  have hfx := mvs_fix (up := false) (hand := f) 4 (rck k false) (mll k v)
  have hri := mvs_sink (hand := f) 4 (rck k false) (mll k v)
  have e1 : (mdn f v k).1 = (mvs false f 4 (rck k false) (mll k v)).1 := rfl
  rw [← e1] at hfx hri
  generalize (mdn f v k).2 = rope at hr ⊢
  generalize (mdn f v k).1 = M at *
  obtain ⟨f1, f3, f5, f00, f01, f02, f03, f07⟩ := hfx
  have q1 : rck k false 1 = k 1 := rfl
  have q0 : rck k false 0 = k 0 := rfl
  have q3 : rck k false 3 = k 3 := rfl
  have q4 : rck k false 4 = k 4 := rfl
  rw [q0] at f00 f01 f02 f03 f07 hri
  rw [q1] at f1
  rw [q3] at f3
  have hlM : ∀ b : Nat, lef M false b = lef k false b := fun b => by
    unfold lef
    rw [f1, f3, f01, f02, f03]
  have hmM : ∀ b : Nat, msf M b = msf k b := fun b => by
    show strn (M 1) (M 0 2).toNat (M 0 3) (b : Int) = strn (k 1) (k 0 2).toNat (k 0 3) (b : Int)
    rw [f1, f02, f03]
  refine ⟨by omega, fun b hb => ?_, ?_, by omega, f07, hri.2⟩
  · have h1 := hri.1 b hb
    rw [q4, rck_lef hb] at h1
    rw [hlM]
    exact h1
  · simp only [psF_4, hmM]
    have g1 : hnd M = M 0 0 - hng (M 1) (M 0 2).toNat (M 0 3) (M 4) 4 := rfl
    have g2 : hnd k = k 0 0 - hng (k 1) (k 0 2).toNat (k 0 3) (k 4) 4 := rfl
    rw [f1, f00, f02, f03] at g1
    rw [hng_4] at g1 g2
    have m0 : ∀ a x y : Int, (x - y) * a = a * (10000 - y) - a * (10000 - x) := fun a x y => by rw [← Int.mul_sub, Int.mul_comm]; congr 1; omega
    show (k 4 0 - M 4 0) * strn (k 1) (k 0 2).toNat (k 0 3) 0 + (k 4 1 - M 4 1) * strn (k 1) (k 0 2).toNat (k 0 3) 1 + (k 4 2 - M 4 2) * strn (k 1) (k 0 2).toNat (k 0 3) 2 + (k 4 3 - M 4 3) * strn (k 1) (k 0 2).toNat (k 0 3) 3 = _
    rw [m0 _ (k 4 0), m0 _ (k 4 1), m0 _ (k 4 2), m0 _ (k 4 3)]
    omega
