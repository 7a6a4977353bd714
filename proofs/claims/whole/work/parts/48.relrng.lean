/-! the states behind haul and letOut are in their ranges -/
theorem hnd_mup {k : Nat → Nat → Int} (h : 0 ≤ hnd k) {hand most : Int} : 0 ≤ hnd (mup hand most k).1 := by
  have h1 := hnd_mvs_up (hand := hand) 4 (k := rck k true) (left := most)
  have h2 : hnd (rck k true) = hnd k := rfl
  have h3 : hnd (mup hand most k).1 = hnd (mvs true hand 4 (rck k true) most).1 := rfl
  omega
theorem mll_rng {k : Nat → Nat → Int} (h : 0 ≤ hnd k) {most : Int} (hm : 0 ≤ most) : 0 ≤ mll k most ∧ mll k most ≤ hnd k ∧ mll k most ≤ most := by
  unfold mll
  split <;> omega
theorem hnd_mdn {k : Nat → Nat → Int} (hk : SOK k) (h : 0 ≤ hnd k) {hand most : Int} (hm : 0 ≤ most) : 0 ≤ hnd (mdn hand most k).1 := by
  have h0 := mll_rng h hm
  have h1 := hnd_mvs_dn (hand := hand) 4 (k := rck k false) (left := mll k most)
  have h2 : hnd (rck k false) = hnd k := rfl
  have h3 : hnd (mdn hand most k).1 = hnd (mvs false hand 4 (rck k false) (mll k most)).1 := rfl
  have h4 := mvs_rng (up := false) (hand := hand) 4 (SOK_rck hk false) h0.1
  omega
theorem SOK_mdn {k : Nat → Nat → Int} (hk : SOK k) (h : 0 ≤ hnd k) {hand most : Int} (hm : 0 ≤ most) : SOK (mdn hand most k).1 := (mvs_rng (up := false) (hand := hand) 4 (SOK_rck hk false) (mll_rng h hm).1).1
theorem POK_mup {k : Nat → Nat → Int} (hk : SOK k) (h : POK k) {hand most : Int} (hm : 0 ≤ most ∧ most ≤ 100000) : POK (mup hand most k).1 := (POK_mvs (up := true) (hand := hand) 4 (SOK_rck hk true) (show POK (rck k true) from h) (left := most) (by omega)).1
theorem POK_mdn {k : Nat → Nat → Int} (hk : SOK k) (hh : 0 ≤ hnd k) (h : POK k) {hand most : Int} (hm : 0 ≤ most ∧ most ≤ 100000) : POK (mdn hand most k).1 := by
  have h0 := mll_rng hh hm.1
  exact (POK_mvs (up := false) (hand := hand) 4 (SOK_rck hk false) (show POK (rck k false) from h) (left := mll k most) (by omega)).1
