/-! the reference: hauls, haul, letOut -/
theorem ite_cg {p q : Prop} [Decidable p] [Decidable q] {a b c d : Int} (h : p ↔ q) (h1 : a = b) (h2 : c = d) : (if p then a else c) = if q then b else d := by
  by_cases hp : p
  · rw [if_pos hp, if_pos (h.mp hp), h1]
  · rw [if_neg hp, if_neg (fun hq => hp (h.mpr hq)), h2]
theorem nxr_congr {fc fc' ht ht' : Nat → Int} {hand : Int} : ∀ {n : Nat}, (∀ b, b < n → fc b = fc' b) → (∀ b, b < n → (ht b < 9000 ↔ ht' b < 9000)) → nxr fc ht hand n = nxr fc' ht' hand n
  | 0, _, _ => rfl
  | n + 1, hf, hh => by
    have ih := nxr_congr (hand := hand) (n := n) (fun b hb => hf b (by omega)) (fun b hb => hh b (by omega))
    have hr := nxr_rng fc ht hand n
    rw [nxr, nxr, ← ih, ← hf n (by omega)]
    refine ite_cg (and_congr (and_congr Iff.rfl (and_congr Iff.rfl (hh n (by omega)))) ?_) rfl rfl
    by_cases h0 : nxr fc ht hand n = -1
    · exact ⟨fun _ => Or.inl h0, fun _ => Or.inl h0⟩
    · rw [hf _ (by omega : (nxr fc ht hand n).toNat < n + 1)]
theorem nxs_congr {fc fc' ht ht' : Nat → Int} {hand : Int} : ∀ {n : Nat}, (∀ b, b < n → fc b = fc' b) → (∀ b, b < n → (0 < ht b ↔ 0 < ht' b)) → nxs fc ht hand n = nxs fc' ht' hand n
  | 0, _, _ => rfl
  | n + 1, hf, hh => by
    have ih := nxs_congr (hand := hand) (n := n) (fun b hb => hf b (by omega)) (fun b hb => hh b (by omega))
    have hr := nxs_rng fc ht hand n
    rw [nxs, nxs, ← ih, ← hf n (by omega)]
    refine ite_cg (and_congr ?_ (hh n (by omega))) rfl rfl
    by_cases h0 : nxs fc ht hand n = -1
    · rw [if_pos h0, if_pos h0]
    · rw [if_neg h0, if_neg h0, hf _ (by omega : (nxs fc ht hand n).toNat < n + 1)]
theorem nxr_ht {fc ht : Nat → Int} {hand : Int} : ∀ {n : Nat}, nxr fc ht hand n ≠ -1 → ht (nxr fc ht hand n).toNat < 9000
  | 0, h => absurd rfl h
  | n + 1, h => by
    rw [nxr] at h ⊢
    by_cases hc : (fc n ≠ -1 ∧ fc n ≤ hand ∧ ht n < 9000) ∧ (nxr fc ht hand n = -1 ∨ fc n < fc (nxr fc ht hand n).toNat)
    · rw [if_pos hc]; exact hc.1.2.2
    · rw [if_neg hc] at h ⊢; exact nxr_ht h
theorem nxs_ht {fc ht : Nat → Int} {hand : Int} : ∀ {n : Nat}, nxs fc ht hand n ≠ -1 → 0 < ht (nxs fc ht hand n).toNat
  | 0, h => absurd rfl h
  | n + 1, h => by
    rw [nxs] at h ⊢
    by_cases hc : (if nxs fc ht hand n = -1 then hand else fc (nxs fc ht hand n).toNat) < fc n ∧ 0 < ht n
    · rw [if_pos hc]; exact hc.2
    · rw [if_neg hc] at h ⊢; exact nxs_ht h
def cdd : Bool → (Nat → Int) → Nat → Nat
  | true, v, b => if vH v b < 9000 then 1 else 0
  | false, v, b => if 0 < vH v b then 1 else 0
def cand (up : Bool) (v : Nat → Int) : Nat := cdd up v 0 + cdd up v 1 + cdd up v 2 + cdd up v 3
theorem cdd_1 {up : Bool} {hand : Int} {v : Nat → Int} (h : mnV up hand v ≠ -1) : cdd up v (mnV up hand v).toNat = 1 := by
  cases up
  · exact if_pos (nxs_ht h)
  · exact if_pos (nxr_ht h)
theorem cdd_le (up : Bool) (v : Nat → Int) (b : Nat) : cdd up v b ≤ 1 := by
  cases up
  · show (if 0 < vH v b then 1 else 0) ≤ 1
    split <;> omega
  · show (if vH v b < 9000 then 1 else 0) ≤ 1
    split <;> omega
theorem cand_4 (up : Bool) (v : Nat → Int) : cand up v ≤ 4 := by
  have h0 := cdd_le up v 0
  have h1 := cdd_le up v 1
  have h2 := cdd_le up v 2
  have h3 := cdd_le up v 3
  unfold cand
  omega
theorem cand_b {up : Bool} {v : Nat → Int} {b : Nat} (hb : b < 4) (h : cdd up v b = 1) : 1 ≤ cand up v := by
  unfold cand
  rcases (by omega : b = 0 ∨ b = 1 ∨ b = 2 ∨ b = 3) with rfl | rfl | rfl | rfl <;> omega
theorem cand_lt {up : Bool} {v w : Nat → Int} {b : Nat} (hb : b < 4) (h1 : cdd up v b = 1) (h0 : cdd up w b = 0) (ho : ∀ c, c < 4 → c ≠ b → cdd up w c = cdd up v c) : cand up w + 1 ≤ cand up v := by
  unfold cand
  rcases (by omega : b = 0 ∨ b = 1 ∨ b = 2 ∨ b = 3) with rfl | rfl | rfl | rfl
  · have a1 := ho 1 (by omega) (by omega)
    have a2 := ho 2 (by omega) (by omega)
    have a3 := ho 3 (by omega) (by omega)
    omega
  · have a1 := ho 0 (by omega) (by omega)
    have a2 := ho 2 (by omega) (by omega)
    have a3 := ho 3 (by omega) (by omega)
    omega
  · have a1 := ho 0 (by omega) (by omega)
    have a2 := ho 1 (by omega) (by omega)
    have a3 := ho 3 (by omega) (by omega)
    omega
  · have a1 := ho 0 (by omega) (by omega)
    have a2 := ho 1 (by omega) (by omega)
    have a3 := ho 2 (by omega) (by omega)
    omega
theorem SmR_mn {up : Bool} {hand : Int} {v w : Nat → Int} (h : SmR v w) (hc : ∀ b : Nat, b < 4 → (if up then (vH w b < 9000 ↔ vH v b < 9000) else (0 < vH w b ↔ 0 < vH v b))) : mnV up hand w = mnV up hand v := by
  cases up
  · exact nxs_congr (fun b hb => SmR_lea h false (by omega)) (fun b hb => hc b hb)
  · exact nxr_congr (fun b hb => SmR_lea h true (by omega)) (fun b hb => hc b hb)
abbrev rmV (up : Bool) (v : Nat → Int) (b : Int) : Int := if up then 9000 - vH v b.toNat else vH v b.toNat
theorem mwyV_eq {up : Bool} {v : Nat → Int} {b left : Int} (hb : 0 ≤ b ∧ b < 4) (hs : 0 < strV v b) : mwy (kV v) b left up = if rmV up v b < left / strV v b then rmV up v b else left / strV v b := by
  unfold mwy
  exact if_pos ⟨hb, hs⟩
theorem mv_step {up : Bool} {hand : Int} (hh : 0 ≤ hand) {v : Nat → Int} (hm : MOK v) {left : Int} (hl : 0 ≤ left) (hp : 0 < mwy (kV v) (mnV up hand v) left up) : cand up (mkV up v (mnV up hand v) (mwy (kV v) (mnV up hand v) left up)) + 1 ≤ cand up v ∨ mwy (kV (mkV up v (mnV up hand v) (mwy (kV v) (mnV up hand v) left up))) (mnV up hand (mkV up v (mnV up hand v) (mwy (kV v) (mnV up hand v) left up))) (left - strV v (mnV up hand v) * mwy (kV v) (mnV up hand v) left up) up ≤ 0 := by
  obtain ⟨hb, hs, -, hx⟩ := mwy_pos hp
  have hs : 0 < strV v (mnV up hand v) := hs
  have hne : mnV up hand v ≠ -1 := by omega
  have hc1 := cdd_1 hne
  have hht := hm.2.2.2.2.2.1
  have he := mwyV_eq (up := up) (left := left) hb hs
  have hsm := SmR_mkV (up := up) hm (way := mwy (kV v) (mnV up hand v) left up) hb
  have hhs : ∀ c : Nat, c < 4 → vH (mkV up v (mnV up hand v) (mwy (kV v) (mnV up hand v) left up)) c = if c = (mnV up hand v).toNat then (if up then vH v c + mwy (kV v) (mnV up hand v) left up else vH v c - mwy (kV v) (mnV up hand v) left up) else vH v c := fun c hc => mkV_h hb hc
  by_cases hroom : rmV up v (mnV up hand v) < left / strV v (mnV up hand v)
  · rw [if_pos hroom] at he
    left
    refine cand_lt (b := (mnV up hand v).toNat) (by omega) hc1 ?_ fun c hc hcb => ?_
    · have h9 := hhs (mnV up hand v).toNat (by omega)
      rw [if_pos rfl] at h9
      cases up
      · have h8 : vH (mkV false v (mnV false hand v) (mwy (kV v) (mnV false hand v) left false)) (mnV false hand v).toNat = vH v (mnV false hand v).toNat - mwy (kV v) (mnV false hand v) left false := h9
        have hr : rmV false v (mnV false hand v) = vH v (mnV false hand v).toNat := rfl
        exact if_neg (by rw [h8]; omega)
      · have h8 : vH (mkV true v (mnV true hand v) (mwy (kV v) (mnV true hand v) left true)) (mnV true hand v).toNat = vH v (mnV true hand v).toNat + mwy (kV v) (mnV true hand v) left true := h9
        have hr : rmV true v (mnV true hand v) = 9000 - vH v (mnV true hand v).toNat := rfl
        exact if_neg (by rw [h8]; omega)
    · have h9 := hhs c hc
      rw [if_neg hcb] at h9
      cases up
      · show (if 0 < vH _ c then 1 else 0) = if 0 < vH v c then 1 else 0
        rw [h9]
      · show (if vH _ c < 9000 then 1 else 0) = if vH v c < 9000 then 1 else 0
        rw [h9]
  · rw [if_neg hroom] at he
    by_cases hfull : left / strV v (mnV up hand v) = rmV up v (mnV up hand v)
    · left
      rw [hfull] at he
      refine cand_lt (b := (mnV up hand v).toNat) (by omega) hc1 ?_ fun c hc hcb => ?_
      · have h9 := hhs (mnV up hand v).toNat (by omega)
        rw [if_pos rfl] at h9
        cases up
        · have h8 : vH (mkV false v (mnV false hand v) (mwy (kV v) (mnV false hand v) left false)) (mnV false hand v).toNat = vH v (mnV false hand v).toNat - mwy (kV v) (mnV false hand v) left false := h9
          have hr : rmV false v (mnV false hand v) = vH v (mnV false hand v).toNat := rfl
          exact if_neg (by rw [h8]; omega)
        · have h8 : vH (mkV true v (mnV true hand v) (mwy (kV v) (mnV true hand v) left true)) (mnV true hand v).toNat = vH v (mnV true hand v).toNat + mwy (kV v) (mnV true hand v) left true := h9
          have hr : rmV true v (mnV true hand v) = 9000 - vH v (mnV true hand v).toNat := rfl
          exact if_neg (by rw [h8]; omega)
      · have h9 := hhs c hc
        rw [if_neg hcb] at h9
        cases up
        · show (if 0 < vH _ c then 1 else 0) = if 0 < vH v c then 1 else 0
          rw [h9]
        · show (if vH _ c < 9000 then 1 else 0) = if vH v c < 9000 then 1 else 0
          rw [h9]
    · right
      have hmn : mnV up hand (mkV up v (mnV up hand v) (mwy (kV v) (mnV up hand v) left up)) = mnV up hand v := by
        refine SmR_mn hsm fun c hc => ?_
        have h9 := hhs c hc
        by_cases hcb : c = (mnV up hand v).toNat
        · rw [if_pos hcb] at h9
          cases up
          · have hx2 : mwy (kV v) (mnV false hand v) left false < vH v (mnV false hand v).toNat := by
              have : rmV false v (mnV false hand v) = vH v (mnV false hand v).toNat := rfl
              omega
            show 0 < vH _ c ↔ 0 < vH v c
            rw [h9, hcb]
            show 0 < vH v _ - _ ↔ _
            omega
          · have hx2 : mwy (kV v) (mnV true hand v) left true < 9000 - vH v (mnV true hand v).toNat := by
              have : rmV true v (mnV true hand v) = 9000 - vH v (mnV true hand v).toNat := rfl
              omega
            show vH _ c < 9000 ↔ vH v c < 9000
            rw [h9, hcb]
            show vH v _ + _ < 9000 ↔ _
            omega
        · rw [if_neg hcb] at h9
          cases up
          · show 0 < vH _ c ↔ 0 < vH v c
            rw [h9]
          · show vH _ c < 9000 ↔ vH v c < 9000
            rw [h9]
      rw [hmn, mwyV_eq hb (by rw [SmR_st hsm]; exact hs), SmR_st hsm, he]
      have hd : (left - strV v (mnV up hand v) * (left / strV v (mnV up hand v))) / strV v (mnV up hand v) = 0 := by
        have h1 := Int.emod_add_mul_ediv left (strV v (mnV up hand v))
        have h2 := Int.emod_nonneg left (show strV v (mnV up hand v) ≠ 0 by omega)
        have h3 := Int.emod_lt_of_pos left hs
        exact Int.ediv_eq_zero_of_lt (by omega) (by omega)
      rw [hd]
      split <;> omega
theorem finA {up : Bool} {hand : Int} (hh : 0 ≤ hand) : ∀ (n : Nat) (v : Nat → Int) (left : Int), MOK v → 0 ≤ left → (cand up v ≤ n ∨ mwy (kV v) (mnV up hand v) left up ≤ 0) → mwy (kV (mvV up hand n v left).1) (mnV up hand (mvV up hand n v left).1) (mvV up hand n v left).2 up ≤ 0
  | 0, v, left, hm, hl, h => by
    show mwy (kV v) (mnV up hand v) left up ≤ 0
    rcases h with h | h
    · by_cases h0 : mnV up hand v = -1
      · rw [← way0 h0]; decide
      · have h1 := cand_b (up := up) (v := v) (b := (mnV up hand v).toNat) (by have := mn_rng up hand v; omega) (cdd_1 h0)
        omega
    · exact h
  | n + 1, v, left, hm, hl, h => by
    rw [mvV]
    by_cases hw : mwy (kV v) (mnV up hand v) left up ≤ 0
    · rw [if_pos hw]; exact hw
    · rw [if_neg hw]
      have hp : 0 < mwy (kV v) (mnV up hand v) left up := by omega
      have h1 := mwyV_rng hm hl hp
      refine finA hh n _ _ (MOK_mkV hm hp) (by omega) ?_
      rcases mv_step hh hm hl hp with h2 | h2
      · left
        rcases h with h | h <;> omega
      · exact Or.inr h2
theorem finV {up : Bool} {hand : Int} (hh : 0 ≤ hand) {v : Nat → Int} {left : Int} (hm : MOK v) (hl : 0 ≤ left) : mwy (kV (mvV up hand 4 v left).1) (mnV up hand (mvV up hand 4 v left).1) (mvV up hand 4 v left).2 up ≤ 0 := finA hh 4 v left hm hl (Or.inl (cand_4 up v))
theorem mvV_rng {up : Bool} {hand : Int} : ∀ (n : Nat) {v : Nat → Int} {left : Int}, MOK v → 0 ≤ left → MOK (mvV up hand n v left).1 ∧ 0 ≤ (mvV up hand n v left).2 ∧ (mvV up hand n v left).2 ≤ left
  | 0, v, left, hm, hl => ⟨hm, hl, Int.le_refl _⟩
  | n + 1, v, left, hm, hl => by
    rw [mvV]
    split
    · exact ⟨hm, hl, Int.le_refl _⟩
    · next h =>
      have hp := Int.not_le.mp h
      have h1 := mwyV_rng hm hl hp
      have h3 := mvV_rng (up := up) (hand := hand) n (MOK_mkV hm hp) (left := left - strV v (mnV up hand v) * mwy (kV v) (mnV up hand v) left up) (by omega)
      exact ⟨h3.1, h3.2.1, by omega⟩
noncomputable def hauV (hand most : Int) (v : Nat → Int) : (Nat → Int) × Int := (va_up (mvV true hand 4 v most).1 7 ((mvV true hand 4 v most).1 7 + hand * (most - (mvV true hand 4 v most).2)), most - (mvV true hand 4 v most).2)
noncomputable def letV (hand most : Int) (v : Nat → Int) : (Nat → Int) × Int := ((mvV false hand 4 v (if most < hndV v then most else hndV v)).1, (if most < hndV v then most else hndV v) - (mvV false hand 4 v (if most < hndV v then most else hndV v)).2)
theorem c_X5_hauls (l : Launch) (g : Gh) (u : Nat → Nat) (v : Nat → Int) (sv ln th ap rm rd nw hh : Int) (hand most : Int) (hm : MOK v) (hhand : 0 ≤ hand ∧ hand ≤ 1000000) (hmost : 0 ≤ most ∧ most ≤ 100000) : CT l g yX5_hauls cX5_hauls 6 (some FieldType.int) ({ frames := 4, cells := 0, slots := 0, locals := 106 }) [.ref (u 0), .int (iI hand), .int (iI most)] [(u 0, .inr (5, [.ref (u 1), .ref (u 2), .ref (u 3), .int (iI sv), .ref (u 4), .int (iI ln), .int (iI th), .int (iI ap), .int (iI rm), .ref (u 5), .int (iI rd), .int (iI nw), .ref (u 6), .long (lI hh)])), (u 1, aL g 75 v)] (PE (some (.int (iI (hauV hand most v).2))) [(u 0, .inr (5, [.ref (u 1), .ref (u 2), .ref (u 3), .int (iI sv), .ref (u 4), .int (iI ln), .int (iI th), .int (iI ap), .int (iI rm), .ref (u 5), .int (iI rd), .int (iI nw), .ref (u 6), .long (lI hh)])), (u 1, aL g 75 ((hauV hand most v).1))]) := by
  refine CT.intro (L0 := [(0, .ref (u 0)), (1, .int (iI hand)), (2, .int (iI most))]) (own := RX5) (by decide) rfl (Nat.le_of_ble_eq_true rfl) rfl ?_
  intro pX eX sX mX argsX belowX methX cX A C hr hlk
  obtain ⟨hP, hE0, hF, hrow0, hwt, hht, hlen, hent⟩ := id hm
  have hE : -10 ≤ v 3 ∧ v 3 ≤ 10 := by omega
  have hrow : ∀ i : Nat, (i : Int) < v 2 → 0 ≤ vR v i ∧ vR v i ≤ 4 := fun i hi => by have := hrow0 i hi; omega
  have hv9 := mvV_rng (up := true) (hand := hand) 4 hm hmost.1
  refine j_iload_n C 2 dX5_hauls_0 rfl rfl ?_
  refine j_istore_n (L1 := [(3, .int (iI most)), (0, .ref (u 0)), (1, .int (iI hand)), (2, .int (iI most))]) C dX5_hauls_1 rfl (by decide) rfl ?_
  refine j_aload_n C 1 dX5_hauls_2 rfl rfl ?_
  refine j_iload_n C 2 dX5_hauls_3 rfl rfl ?_
  refine j_callV (As := [.int (iI hand)]) (rest := []) C yv_X5_riser qw795 (c_X5_riser l g u v sv ln th ap rm rd nw hh hand hm (by omega)) (by decide) 0 rfl rfl rfl dX5_hauls_4 rfl (Nat.le_of_ble_eq_true rfl) (by decide) pf0 rfl (fun r9 w9 hq9 => ?_)
  obtain ⟨rfl, rfl⟩ := hq9
  refine J.to (L1 := [(3, .int (iI most)), (0, .ref (u 0)), (1, .int (iI hand)), (2, .int (iI most))]) (S1 := [.int (iI (mnV true hand v))]) (ws1 := [(u 0, .inr (5, [.ref (u 1), .ref (u 2), .ref (u 3), .int (iI sv), .ref (u 4), .int (iI ln), .int (iI th), .int (iI ap), .int (iI rm), .ref (u 5), .int (iI rd), .int (iI nw), .ref (u 6), .long (lI hh)])), (u 1, aL g 75 v)]) rfl rfl rfl ?_
  generalize hb0 : mnV true hand v = b0
  have hbr := mn_rng true hand v
  rw [hb0] at hbr
  refine j_istore (L1 := [(4, .int (iI b0)), (3, .int (iI most)), (0, .ref (u 0)), (1, .int (iI hand)), (2, .int (iI most))]) C dX5_hauls_7 (by decide) rfl ?_
  refine j_iload C 0 dX5_hauls_9 rfl ?_
  refine j_iconst C dX5_hauls_11 ?_
  refine j_icmp_ne (tgt := 19) C (by omega) (by decide) dX5_hauls_12 (by decide) (fun c12 => ?_) (fun c12 => ?_)
  · have hs1 := mn_pos (up := true) (v := v) hhand.1 (by rw [hb0]; exact c12)
    rw [hb0] at hs1
    have hsr1 := strV_rng hm b0
    have ht1 := hm.2.2.2.2.2.1 b0.toNat (by omega)
    have hv1 : v (13 + b0.toNat) = vH v b0.toNat := rfl
    have hd1 := div_rng (a := most) (b := strV v b0) (by omega) hs1.2
    refine j_iload_n C 1 dX5_hauls_19 rfl rfl ?_
    refine j_aload_n C 2 dX5_hauls_20 rfl rfl ?_
    refine j_iload C 0 dX5_hauls_21 rfl ?_
    refine j_callV (As := [.int (iI b0)]) (rest := [.int (iI most)]) C yv_X5_strands qw752 (c_X5_strands l g u v sv ln th ap rm rd nw hh b0 hm (by omega)) (by decide) 0 rfl rfl rfl dX5_hauls_23 rfl (Nat.le_of_ble_eq_true rfl) (by decide) pf0 rfl (fun r9 w9 hq9 => ?_)
    obtain ⟨rfl, rfl⟩ := hq9
    refine J.to (L1 := [(4, .int (iI b0)), (3, .int (iI most)), (0, .ref (u 0)), (1, .int (iI hand)), (2, .int (iI most))]) (S1 := [.int (iI (strV v b0)), .int (iI most)]) (ws1 := [(u 0, .inr (5, [.ref (u 1), .ref (u 2), .ref (u 3), .int (iI sv), .ref (u 4), .int (iI ln), .int (iI th), .int (iI ap), .int (iI rm), .ref (u 5), .int (iI rd), .int (iI nw), .ref (u 6), .long (lI hh)])), (u 1, aL g 75 v)]) rfl rfl rfl ?_
    refine j_idiv C (by omega) (by omega) dX5_hauls_26 ?_
    refine j_i2l C (by omega) dX5_hauls_27 ?_
    refine j_ldc2 (x := 9000) C qw799 (by decide) dX5_hauls_28 ?_
    refine j_aload_n C 2 dX5_hauls_31 rfl rfl ?_
    refine j_get C ck5 0 0 (by decide) qw662 rfl rfl dX5_hauls_32 ?_
    refine j_bipush C dX5_hauls_35 (by decide) ?_
    refine j_iload C 0 dX5_hauls_37 rfl ?_
    refine j_iadd C dX5_hauls_39 ?_
    refine j_lald (n := 75) (f := v) C 1 (13 + b0.toNat) rfl (by omega) (by omega) (by decide) dX5_hauls_40 ?_
    refine j_lsub C dX5_hauls_41 ?_
    refine j_callS (As := [.long (lI (most / (strV v b0))), .long (lI (9000 - (v (13 + b0.toNat))))]) (rest := []) C ys_X5_lesser qw815 (c_X5_lesser l g (most / (strV v b0)) (9000 - (v (13 + b0.toNat))) (by omega) (by omega)) (by decide) rfl dX5_hauls_42 rfl (Nat.le_of_ble_eq_true rfl) (by decide) (pf1 [] [(u 0, .inr (5, [.ref (u 1), .ref (u 2), .ref (u 3), .int (iI sv), .ref (u 4), .int (iI ln), .int (iI th), .int (iI ap), .int (iI rm), .ref (u 5), .int (iI rd), .int (iI nw), .ref (u 6), .long (lI hh)])), (u 1, aL g 75 v)]) rfl (fun r9 w9 hq9 => ?_)
    obtain ⟨rfl, rfl⟩ := hq9
    refine J.to (L1 := [(4, .int (iI b0)), (3, .int (iI most)), (0, .ref (u 0)), (1, .int (iI hand)), (2, .int (iI most))]) (S1 := [.int (iI (if most / (strV v b0) < 9000 - (v (13 + b0.toNat)) then most / (strV v b0) else 9000 - (v (13 + b0.toNat))))]) (ws1 := [(u 0, .inr (5, [.ref (u 1), .ref (u 2), .ref (u 3), .int (iI sv), .ref (u 4), .int (iI ln), .int (iI th), .int (iI ap), .int (iI rm), .ref (u 5), .int (iI rd), .int (iI nw), .ref (u 6), .long (lI hh)])), (u 1, aL g 75 v)]) rfl rfl rfl ?_
    refine J.to (L1 := [(4, .int (iI b0)), (3, .int (iI most)), (0, .ref (u 0)), (1, .int (iI hand)), (2, .int (iI most))]) (S1 := [.int (iI (mwy (kV v) b0 most true))]) (ws1 := [(u 0, .inr (5, [.ref (u 1), .ref (u 2), .ref (u 3), .int (iI sv), .ref (u 4), .int (iI ln), .int (iI th), .int (iI ap), .int (iI rm), .ref (u 5), .int (iI rd), .int (iI nw), .ref (u 6), .long (lI hh)])), (u 1, aL g 75 v)]) rfl rfl (by rw [show ((if most / (strV v b0) < 9000 - (v (13 + b0.toNat)) then most / (strV v b0) else 9000 - (v (13 + b0.toNat)) : Int)) = mwy (kV v) b0 most true from (wayU hs1.1 hs1.2)]) ?_
    refine j_istore (L1 := [(5, .int (iI (mwy (kV v) b0 most true))), (4, .int (iI b0)), (3, .int (iI most)), (0, .ref (u 0)), (1, .int (iI hand)), (2, .int (iI most))]) C dX5_hauls_45 (by decide) rfl ?_
    refine J.sub (L1 := [(0, .ref (u 0)), (1, .int (iI hand)), (2, .int (iI most)), (3, .int (iI most)), (4, .int (iI b0)), (5, .int (iI (mwy (kV v) b0 most true)))]) [3, 4, 5, 2, 1, 0] rfl ?_
    refine lm_hauls C hhand (by omega) (mvV true hand 4 v most) ?_ (finV hhand.1 hm hmost.1) 4 v most b0 _ hm ⟨hmost.1, Int.le_refl _⟩ hb0.symm rfl rfl
    refine j_aload_n C 0 dX5_hauls_169 rfl rfl ?_
    refine j_get C ck5 0 0 (by decide) qw662 rfl rfl dX5_hauls_170 ?_
    refine j_bipush C dX5_hauls_173 (by decide) ?_
    refine j_dup2 C dX5_hauls_175 rfl rfl ?_
    refine j_lald (n := 75) (f := (mvV true hand 4 v most).1) C 1 7 rfl rfl (by decide) (by decide) dX5_hauls_176 ?_
    refine j_iload_n C 1 dX5_hauls_177 rfl rfl ?_
    refine j_i2l C (by omega) dX5_hauls_178 ?_
    refine j_iload_n C 2 dX5_hauls_179 rfl rfl ?_
    refine j_iload_n C 3 dX5_hauls_180 rfl rfl ?_
    refine j_isub C dX5_hauls_181 ?_
    refine j_i2l C (by omega) dX5_hauls_182 ?_
    refine j_lmul C dX5_hauls_183 ?_
    refine j_ladd C dX5_hauls_184 ?_
    refine j_last (n := 75) (f := (mvV true hand 4 v most).1) (ws1 := [(u 0, .inr (5, [.ref (u 1), .ref (u 2), .ref (u 3), .int (iI sv), .ref (u 4), .int (iI ln), .int (iI th), .int (iI ap), .int (iI rm), .ref (u 5), .int (iI rd), .int (iI nw), .ref (u 6), .long (lI hh)])), (u 1, aL g 75 (va_up ((mvV true hand 4 v most).1) 7 ((((mvV true hand 4 v most).1) 7) + (hand * (most - ((mvV true hand 4 v most).2))))))]) C 1 7 rfl rfl (by decide) (by decide) dX5_hauls_185 rfl ?_
    refine j_iload_n C 2 dX5_hauls_186 rfl rfl ?_
    refine j_iload_n C 3 dX5_hauls_187 rfl rfl ?_
    refine j_isub C dX5_hauls_188 ?_
    exact j_iret C hr hlk dX5_hauls_189 ⟨rfl, rfl⟩ (by decide) (by decide)
  · refine j_iconst C dX5_hauls_15 ?_
    refine j_goto (tgt := 45) C dX5_hauls_16 (by decide) ?_
    refine J.to (L1 := [(4, .int (iI b0)), (3, .int (iI most)), (0, .ref (u 0)), (1, .int (iI hand)), (2, .int (iI most))]) (S1 := [.int (iI (mwy (kV v) b0 most true))]) (ws1 := [(u 0, .inr (5, [.ref (u 1), .ref (u 2), .ref (u 3), .int (iI sv), .ref (u 4), .int (iI ln), .int (iI th), .int (iI ap), .int (iI rm), .ref (u 5), .int (iI rd), .int (iI nw), .ref (u 6), .long (lI hh)])), (u 1, aL g 75 v)]) rfl rfl (by rw [show ((0 : Int)) = mwy (kV v) b0 most true from (way0 (by omega))]) ?_
    refine j_istore (L1 := [(5, .int (iI (mwy (kV v) b0 most true))), (4, .int (iI b0)), (3, .int (iI most)), (0, .ref (u 0)), (1, .int (iI hand)), (2, .int (iI most))]) C dX5_hauls_45 (by decide) rfl ?_
    refine J.sub (L1 := [(0, .ref (u 0)), (1, .int (iI hand)), (2, .int (iI most)), (3, .int (iI most)), (4, .int (iI b0)), (5, .int (iI (mwy (kV v) b0 most true)))]) [3, 4, 5, 2, 1, 0] rfl ?_
    refine lm_hauls C hhand (by omega) (mvV true hand 4 v most) ?_ (finV hhand.1 hm hmost.1) 4 v most b0 _ hm ⟨hmost.1, Int.le_refl _⟩ hb0.symm rfl rfl
    refine j_aload_n C 0 dX5_hauls_169 rfl rfl ?_
    refine j_get C ck5 0 0 (by decide) qw662 rfl rfl dX5_hauls_170 ?_
    refine j_bipush C dX5_hauls_173 (by decide) ?_
    refine j_dup2 C dX5_hauls_175 rfl rfl ?_
    refine j_lald (n := 75) (f := (mvV true hand 4 v most).1) C 1 7 rfl rfl (by decide) (by decide) dX5_hauls_176 ?_
    refine j_iload_n C 1 dX5_hauls_177 rfl rfl ?_
    refine j_i2l C (by omega) dX5_hauls_178 ?_
    refine j_iload_n C 2 dX5_hauls_179 rfl rfl ?_
    refine j_iload_n C 3 dX5_hauls_180 rfl rfl ?_
    refine j_isub C dX5_hauls_181 ?_
    refine j_i2l C (by omega) dX5_hauls_182 ?_
    refine j_lmul C dX5_hauls_183 ?_
    refine j_ladd C dX5_hauls_184 ?_
    refine j_last (n := 75) (f := (mvV true hand 4 v most).1) (ws1 := [(u 0, .inr (5, [.ref (u 1), .ref (u 2), .ref (u 3), .int (iI sv), .ref (u 4), .int (iI ln), .int (iI th), .int (iI ap), .int (iI rm), .ref (u 5), .int (iI rd), .int (iI nw), .ref (u 6), .long (lI hh)])), (u 1, aL g 75 (va_up ((mvV true hand 4 v most).1) 7 ((((mvV true hand 4 v most).1) 7) + (hand * (most - ((mvV true hand 4 v most).2))))))]) C 1 7 rfl rfl (by decide) (by decide) dX5_hauls_185 rfl ?_
    refine j_iload_n C 2 dX5_hauls_186 rfl rfl ?_
    refine j_iload_n C 3 dX5_hauls_187 rfl rfl ?_
    refine j_isub C dX5_hauls_188 ?_
    exact j_iret C hr hlk dX5_hauls_189 ⟨rfl, rfl⟩ (by decide) (by decide)

theorem c_X5_haul_ok (l : Launch) (g : Gh) (u : Nat → Nat) (v pa sd tx rr rq : Nat → Int) (sv : Nat) (ln th ap rm rd nw hh : Int) (hand most : Int) (hm : MOK v) (hsv : sv ≤ 4) (hhand : 0 ≤ hand ∧ hand ≤ 1000000) (hmost : 0 ≤ most ∧ most ≤ 100000) : CT l g yX5_haul cX5_haul 3 (some FieldType.int) ({ frames := 5, cells := 0, slots := 0, locals := 131 }) [.ref (u 0), .int (iI hand), .int (iI most)] [(u 0, .inr (5, [.ref (u 1), .ref (u 2), .ref (u 3), .int (iI ((sv : Int))), .ref (u 4), .int (iI ln), .int (iI th), .int (iI ap), .int (iI rm), .ref (u 5), .int (iI rd), .int (iI nw), .ref (u 6), .long (lI hh)])), (u 1, aL g 75 v), (u 2, aL g 300 pa)] (PE (some (.int (iI (hauV hand most v).2))) [(u 0, .inr (5, [.ref (u 1), .ref (u 2), .ref (u 3), .int (iI (((svN sv : Nat) : Int))), .ref (u 4), .int (iI ln), .int (iI 0), .int (iI ap), .int (iI rm), .ref (u 5), .int (iI rd), .int (iI nw), .ref (u 6), .long (lI hh)])), (u 1, aL g 75 ((hauV hand most v).1)), (u 2, aL g 300 (svP v pa sv))]) := by
  refine CT.intro (L0 := [(0, .ref (u 0)), (1, .int (iI hand)), (2, .int (iI most))]) (own := RX5) (by decide) rfl (Nat.le_of_ble_eq_true rfl) rfl ?_
  intro pX eX sX mX argsX belowX methX cX A C hr hlk
  obtain ⟨hP, hE0, hF, hrow0, hwt, hht, hlen, hent⟩ := id hm
  have hE : -10 ≤ v 3 ∧ v 3 ≤ 10 := by omega
  have hrow : ∀ i : Nat, (i : Int) < v 2 → 0 ≤ vR v i ∧ vR v i ≤ 4 := fun i hi => by have := hrow0 i hi; omega
  refine j_iload_n C 1 dX5_haul_0 rfl rfl ?_
  refine j_callS (As := [.int (iI hand)]) (rest := []) C ys_X5_isForce qw786 (c_X5_isForce_t l g hand (by omega)) (by decide) rfl dX5_haul_1 rfl (Nat.le_of_ble_eq_true rfl) (by decide) (pf1 [] [(u 0, .inr (5, [.ref (u 1), .ref (u 2), .ref (u 3), .int (iI ((sv : Int))), .ref (u 4), .int (iI ln), .int (iI th), .int (iI ap), .int (iI rm), .ref (u 5), .int (iI rd), .int (iI nw), .ref (u 6), .long (lI hh)])), (u 1, aL g 75 v), (u 2, aL g 300 pa)]) rfl (fun r9 w9 hq9 => ?_)
  obtain ⟨rfl, rfl⟩ := hq9
  refine J.to (L1 := [(0, .ref (u 0)), (1, .int (iI hand)), (2, .int (iI most))]) (S1 := [.int (iI 1)]) (ws1 := [(u 0, .inr (5, [.ref (u 1), .ref (u 2), .ref (u 3), .int (iI ((sv : Int))), .ref (u 4), .int (iI ln), .int (iI th), .int (iI ap), .int (iI rm), .ref (u 5), .int (iI rd), .int (iI nw), .ref (u 6), .long (lI hh)])), (u 1, aL g 75 v), (u 2, aL g 300 pa)]) rfl rfl rfl ?_
  refine j_if_eq (tgt := 19) C (by decide) dX5_haul_4 (by decide) (fun c4 => absurd c4 (by decide)) (fun c4 => ?_)
  refine j_iload_n C 2 dX5_haul_7 rfl rfl ?_
  refine j_i2l C (by omega) dX5_haul_8 ?_
  refine j_lconst (v := 0) C dX5_haul_9 rfl ?_
  refine j_ldc2 (x := 100000) C qw790 (by decide) dX5_haul_10 ?_
  refine j_callS (As := [.long (lI most), .long (lI 0), .long (lI 100000)]) (rest := []) C ys_X5_in qw718 (c_X5_in_t l g most 0 100000 (by omega) (by omega) (by omega) (by omega)) (by decide) rfl dX5_haul_13 rfl (Nat.le_of_ble_eq_true rfl) (by decide) (pf1 [] [(u 0, .inr (5, [.ref (u 1), .ref (u 2), .ref (u 3), .int (iI ((sv : Int))), .ref (u 4), .int (iI ln), .int (iI th), .int (iI ap), .int (iI rm), .ref (u 5), .int (iI rd), .int (iI nw), .ref (u 6), .long (lI hh)])), (u 1, aL g 75 v), (u 2, aL g 300 pa)]) rfl (fun r9 w9 hq9 => ?_)
  obtain ⟨rfl, rfl⟩ := hq9
  refine J.to (L1 := [(0, .ref (u 0)), (1, .int (iI hand)), (2, .int (iI most))]) (S1 := [.int (iI 1)]) (ws1 := [(u 0, .inr (5, [.ref (u 1), .ref (u 2), .ref (u 3), .int (iI ((sv : Int))), .ref (u 4), .int (iI ln), .int (iI th), .int (iI ap), .int (iI rm), .ref (u 5), .int (iI rd), .int (iI nw), .ref (u 6), .long (lI hh)])), (u 1, aL g 75 v), (u 2, aL g 300 pa)]) rfl rfl rfl ?_
  refine j_if_ne (tgt := 25) C (by decide) dX5_haul_16 (by decide) (fun c16 => ?_) (fun c16 => absurd c16 (by decide))
  refine j_aload_n C 0 dX5_haul_25 rfl rfl ?_
  refine j_callV (As := []) (rest := []) C yv_X5_saves qw730 (c_X5_saves l g u v pa sd tx rr rq sv ln th ap rm rd nw hh hsv) (by decide) 0 rfl rfl rfl dX5_haul_26 rfl (Nat.le_of_ble_eq_true rfl) (by decide) pf0 rfl (fun r9 w9 hq9 => ?_)
  obtain ⟨rfl, rfl⟩ := hq9
  refine J.to (L1 := [(0, .ref (u 0)), (1, .int (iI hand)), (2, .int (iI most))]) (S1 := []) (ws1 := [(u 0, .inr (5, [.ref (u 1), .ref (u 2), .ref (u 3), .int (iI (((svN sv : Nat) : Int))), .ref (u 4), .int (iI ln), .int (iI th), .int (iI ap), .int (iI rm), .ref (u 5), .int (iI rd), .int (iI nw), .ref (u 6), .long (lI hh)])), (u 1, aL g 75 v), (u 2, aL g 300 (svP v pa sv))]) rfl rfl rfl ?_
  refine j_aload_n C 0 dX5_haul_29 rfl rfl ?_
  refine j_aload_n C 0 dX5_haul_30 rfl rfl ?_
  refine j_iload_n C 1 dX5_haul_31 rfl rfl ?_
  refine j_iload_n C 2 dX5_haul_32 rfl rfl ?_
  refine j_callV (As := [.int (iI hand), .int (iI most)]) (rest := [.ref (u 0)]) C yv_X5_hauls qw791 (c_X5_hauls l g u v (((svN sv : Nat) : Int)) ln th ap rm rd nw hh hand most hm (by omega) (by omega)) (by decide) 0 rfl rfl rfl dX5_haul_33 rfl (Nat.le_of_ble_eq_true rfl) (by decide) (pf1 [] [(u 2, aL g 300 (svP v pa sv))]) rfl (fun r9 w9 hq9 => ?_)
  obtain ⟨rfl, rfl⟩ := hq9
  refine J.to (L1 := [(0, .ref (u 0)), (1, .int (iI hand)), (2, .int (iI most))]) (S1 := [.int (iI ((hauV hand most v).2)), .ref (u 0)]) (ws1 := [(u 0, .inr (5, [.ref (u 1), .ref (u 2), .ref (u 3), .int (iI (((svN sv : Nat) : Int))), .ref (u 4), .int (iI ln), .int (iI th), .int (iI ap), .int (iI rm), .ref (u 5), .int (iI rd), .int (iI nw), .ref (u 6), .long (lI hh)])), (u 1, aL g 75 ((hauV hand most v).1)), (u 2, aL g 300 (svP v pa sv))]) rfl rfl rfl ?_
  refine j_callV (As := [.int (iI ((hauV hand most v).2))]) (rest := []) C yv_X5_tells qw734 (c_X5_tells l g u ((hauV hand most v).1) (((svN sv : Nat) : Int)) ln th ap rm rd nw hh ((hauV hand most v).2)) (by decide) 0 rfl rfl rfl dX5_haul_36 rfl (Nat.le_of_ble_eq_true rfl) (by decide) (pf1 [] [(u 1, aL g 75 ((hauV hand most v).1)), (u 2, aL g 300 (svP v pa sv))]) rfl (fun r9 w9 hq9 => ?_)
  obtain ⟨rfl, rfl⟩ := hq9
  refine J.to (L1 := [(0, .ref (u 0)), (1, .int (iI hand)), (2, .int (iI most))]) (S1 := [.int (iI ((hauV hand most v).2))]) (ws1 := [(u 0, .inr (5, [.ref (u 1), .ref (u 2), .ref (u 3), .int (iI (((svN sv : Nat) : Int))), .ref (u 4), .int (iI ln), .int (iI 0), .int (iI ap), .int (iI rm), .ref (u 5), .int (iI rd), .int (iI nw), .ref (u 6), .long (lI hh)])), (u 1, aL g 75 ((hauV hand most v).1)), (u 2, aL g 300 (svP v pa sv))]) rfl rfl rfl ?_
  exact j_iret C hr hlk dX5_haul_39 ⟨rfl, rfl⟩ (by decide) (by decide)

theorem c_X5_haul_n1 (l : Launch) (g : Gh) (u : Nat → Nat) (v pa sd tx rr rq : Nat → Int) (sv : Nat) (ln th ap rm rd nw hh : Int) (hand most : Int) (hm : MOK v) (hsv : sv ≤ 4) (hr1 : -2147483648 ≤ hand ∧ hand < 2147483648) (hr2 : -2147483648 ≤ most ∧ most < 2147483648) (hf : hand < 0 ∨ 1000000 < hand) : CT l g yX5_haul cX5_haul 3 (some FieldType.int) ({ frames := 5, cells := 0, slots := 0, locals := 131 }) [.ref (u 0), .int (iI hand), .int (iI most)] [(u 0, .inr (5, [.ref (u 1), .ref (u 2), .ref (u 3), .int (iI ((sv : Int))), .ref (u 4), .int (iI ln), .int (iI th), .int (iI ap), .int (iI rm), .ref (u 5), .int (iI rd), .int (iI nw), .ref (u 6), .long (lI hh)])), (u 1, aL g 75 v), (u 2, aL g 300 pa)] (PE (some (.int (iI 0))) [(u 0, .inr (5, [.ref (u 1), .ref (u 2), .ref (u 3), .int (iI ((sv : Int))), .ref (u 4), .int (iI ln), .int (iI 1), .int (iI ap), .int (iI rm), .ref (u 5), .int (iI rd), .int (iI nw), .ref (u 6), .long (lI hh)])), (u 1, aL g 75 v), (u 2, aL g 300 pa)]) := by
  refine CT.intro (L0 := [(0, .ref (u 0)), (1, .int (iI hand)), (2, .int (iI most))]) (own := RX5) (by decide) rfl (Nat.le_of_ble_eq_true rfl) rfl ?_
  intro pX eX sX mX argsX belowX methX cX A C hr hlk
  obtain ⟨hP, hE0, hF, hrow0, hwt, hht, hlen, hent⟩ := id hm
  have hE : -10 ≤ v 3 ∧ v 3 ≤ 10 := by omega
  have hrow : ∀ i : Nat, (i : Int) < v 2 → 0 ≤ vR v i ∧ vR v i ≤ 4 := fun i hi => by have := hrow0 i hi; omega
  refine j_iload_n C 1 dX5_haul_0 rfl rfl ?_
  refine j_callS (As := [.int (iI hand)]) (rest := []) C ys_X5_isForce qw786 (c_X5_isForce_f l g hand (by omega) (by omega)) (by decide) rfl dX5_haul_1 rfl (Nat.le_of_ble_eq_true rfl) (by decide) (pf1 [] [(u 0, .inr (5, [.ref (u 1), .ref (u 2), .ref (u 3), .int (iI ((sv : Int))), .ref (u 4), .int (iI ln), .int (iI th), .int (iI ap), .int (iI rm), .ref (u 5), .int (iI rd), .int (iI nw), .ref (u 6), .long (lI hh)])), (u 1, aL g 75 v), (u 2, aL g 300 pa)]) rfl (fun r9 w9 hq9 => ?_)
  obtain ⟨rfl, rfl⟩ := hq9
  refine J.to (L1 := [(0, .ref (u 0)), (1, .int (iI hand)), (2, .int (iI most))]) (S1 := [.int (iI 0)]) (ws1 := [(u 0, .inr (5, [.ref (u 1), .ref (u 2), .ref (u 3), .int (iI ((sv : Int))), .ref (u 4), .int (iI ln), .int (iI th), .int (iI ap), .int (iI rm), .ref (u 5), .int (iI rd), .int (iI nw), .ref (u 6), .long (lI hh)])), (u 1, aL g 75 v), (u 2, aL g 300 pa)]) rfl rfl rfl ?_
  refine j_if_eq (tgt := 19) C (by decide) dX5_haul_4 (by decide) (fun c4 => ?_) (fun c4 => absurd c4 (by decide))
  refine j_aload_n C 0 dX5_haul_19 rfl rfl ?_
  refine j_iconst C dX5_haul_20 ?_
  refine j_callV (As := [.int (iI 1)]) (rest := []) C yv_X5_fails qw721 (c_X5_fails l g u v ((sv : Int)) ln th ap rm rd nw hh 1) (by decide) 0 rfl rfl rfl dX5_haul_21 rfl (Nat.le_of_ble_eq_true rfl) (by decide) (pf1 [] [(u 1, aL g 75 v), (u 2, aL g 300 pa)]) rfl (fun r9 w9 hq9 => ?_)
  obtain ⟨rfl, rfl⟩ := hq9
  refine J.to (L1 := [(0, .ref (u 0)), (1, .int (iI hand)), (2, .int (iI most))]) (S1 := [.int (iI 0)]) (ws1 := [(u 0, .inr (5, [.ref (u 1), .ref (u 2), .ref (u 3), .int (iI ((sv : Int))), .ref (u 4), .int (iI ln), .int (iI 1), .int (iI ap), .int (iI rm), .ref (u 5), .int (iI rd), .int (iI nw), .ref (u 6), .long (lI hh)])), (u 1, aL g 75 v), (u 2, aL g 300 pa)]) rfl rfl rfl ?_
  exact j_iret C hr hlk dX5_haul_24 ⟨rfl, rfl⟩ (by decide) (by decide)

theorem c_X5_haul_n2 (l : Launch) (g : Gh) (u : Nat → Nat) (v pa sd tx rr rq : Nat → Int) (sv : Nat) (ln th ap rm rd nw hh : Int) (hand most : Int) (hm : MOK v) (hsv : sv ≤ 4) (hr1 : -2147483648 ≤ hand ∧ hand < 2147483648) (hr2 : -2147483648 ≤ most ∧ most < 2147483648) (hhand : 0 ≤ hand ∧ hand ≤ 1000000) (hn : most < 0 ∨ 100000 < most) : CT l g yX5_haul cX5_haul 3 (some FieldType.int) ({ frames := 5, cells := 0, slots := 0, locals := 131 }) [.ref (u 0), .int (iI hand), .int (iI most)] [(u 0, .inr (5, [.ref (u 1), .ref (u 2), .ref (u 3), .int (iI ((sv : Int))), .ref (u 4), .int (iI ln), .int (iI th), .int (iI ap), .int (iI rm), .ref (u 5), .int (iI rd), .int (iI nw), .ref (u 6), .long (lI hh)])), (u 1, aL g 75 v), (u 2, aL g 300 pa)] (PE (some (.int (iI 0))) [(u 0, .inr (5, [.ref (u 1), .ref (u 2), .ref (u 3), .int (iI ((sv : Int))), .ref (u 4), .int (iI ln), .int (iI 1), .int (iI ap), .int (iI rm), .ref (u 5), .int (iI rd), .int (iI nw), .ref (u 6), .long (lI hh)])), (u 1, aL g 75 v), (u 2, aL g 300 pa)]) := by
  refine CT.intro (L0 := [(0, .ref (u 0)), (1, .int (iI hand)), (2, .int (iI most))]) (own := RX5) (by decide) rfl (Nat.le_of_ble_eq_true rfl) rfl ?_
  intro pX eX sX mX argsX belowX methX cX A C hr hlk
  obtain ⟨hP, hE0, hF, hrow0, hwt, hht, hlen, hent⟩ := id hm
  have hE : -10 ≤ v 3 ∧ v 3 ≤ 10 := by omega
  have hrow : ∀ i : Nat, (i : Int) < v 2 → 0 ≤ vR v i ∧ vR v i ≤ 4 := fun i hi => by have := hrow0 i hi; omega
  refine j_iload_n C 1 dX5_haul_0 rfl rfl ?_
  refine j_callS (As := [.int (iI hand)]) (rest := []) C ys_X5_isForce qw786 (c_X5_isForce_t l g hand (by omega)) (by decide) rfl dX5_haul_1 rfl (Nat.le_of_ble_eq_true rfl) (by decide) (pf1 [] [(u 0, .inr (5, [.ref (u 1), .ref (u 2), .ref (u 3), .int (iI ((sv : Int))), .ref (u 4), .int (iI ln), .int (iI th), .int (iI ap), .int (iI rm), .ref (u 5), .int (iI rd), .int (iI nw), .ref (u 6), .long (lI hh)])), (u 1, aL g 75 v), (u 2, aL g 300 pa)]) rfl (fun r9 w9 hq9 => ?_)
  obtain ⟨rfl, rfl⟩ := hq9
  refine J.to (L1 := [(0, .ref (u 0)), (1, .int (iI hand)), (2, .int (iI most))]) (S1 := [.int (iI 1)]) (ws1 := [(u 0, .inr (5, [.ref (u 1), .ref (u 2), .ref (u 3), .int (iI ((sv : Int))), .ref (u 4), .int (iI ln), .int (iI th), .int (iI ap), .int (iI rm), .ref (u 5), .int (iI rd), .int (iI nw), .ref (u 6), .long (lI hh)])), (u 1, aL g 75 v), (u 2, aL g 300 pa)]) rfl rfl rfl ?_
  refine j_if_eq (tgt := 19) C (by decide) dX5_haul_4 (by decide) (fun c4 => absurd c4 (by decide)) (fun c4 => ?_)
  refine j_iload_n C 2 dX5_haul_7 rfl rfl ?_
  refine j_i2l C (by omega) dX5_haul_8 ?_
  refine j_lconst (v := 0) C dX5_haul_9 rfl ?_
  refine j_ldc2 (x := 100000) C qw790 (by decide) dX5_haul_10 ?_
  refine j_callS (As := [.long (lI most), .long (lI 0), .long (lI 100000)]) (rest := []) C ys_X5_in qw718 (c_X5_in_f l g most 0 100000 (by omega) (by omega) (by omega) (by omega)) (by decide) rfl dX5_haul_13 rfl (Nat.le_of_ble_eq_true rfl) (by decide) (pf1 [] [(u 0, .inr (5, [.ref (u 1), .ref (u 2), .ref (u 3), .int (iI ((sv : Int))), .ref (u 4), .int (iI ln), .int (iI th), .int (iI ap), .int (iI rm), .ref (u 5), .int (iI rd), .int (iI nw), .ref (u 6), .long (lI hh)])), (u 1, aL g 75 v), (u 2, aL g 300 pa)]) rfl (fun r9 w9 hq9 => ?_)
  obtain ⟨rfl, rfl⟩ := hq9
  refine J.to (L1 := [(0, .ref (u 0)), (1, .int (iI hand)), (2, .int (iI most))]) (S1 := [.int (iI 0)]) (ws1 := [(u 0, .inr (5, [.ref (u 1), .ref (u 2), .ref (u 3), .int (iI ((sv : Int))), .ref (u 4), .int (iI ln), .int (iI th), .int (iI ap), .int (iI rm), .ref (u 5), .int (iI rd), .int (iI nw), .ref (u 6), .long (lI hh)])), (u 1, aL g 75 v), (u 2, aL g 300 pa)]) rfl rfl rfl ?_
  refine j_if_ne (tgt := 25) C (by decide) dX5_haul_16 (by decide) (fun c16 => absurd c16 (by decide)) (fun c16 => ?_)
  refine j_aload_n C 0 dX5_haul_19 rfl rfl ?_
  refine j_iconst C dX5_haul_20 ?_
  refine j_callV (As := [.int (iI 1)]) (rest := []) C yv_X5_fails qw721 (c_X5_fails l g u v ((sv : Int)) ln th ap rm rd nw hh 1) (by decide) 0 rfl rfl rfl dX5_haul_21 rfl (Nat.le_of_ble_eq_true rfl) (by decide) (pf1 [] [(u 1, aL g 75 v), (u 2, aL g 300 pa)]) rfl (fun r9 w9 hq9 => ?_)
  obtain ⟨rfl, rfl⟩ := hq9
  refine J.to (L1 := [(0, .ref (u 0)), (1, .int (iI hand)), (2, .int (iI most))]) (S1 := [.int (iI 0)]) (ws1 := [(u 0, .inr (5, [.ref (u 1), .ref (u 2), .ref (u 3), .int (iI ((sv : Int))), .ref (u 4), .int (iI ln), .int (iI 1), .int (iI ap), .int (iI rm), .ref (u 5), .int (iI rd), .int (iI nw), .ref (u 6), .long (lI hh)])), (u 1, aL g 75 v), (u 2, aL g 300 pa)]) rfl rfl rfl ?_
  exact j_iret C hr hlk dX5_haul_24 ⟨rfl, rfl⟩ (by decide) (by decide)

theorem c_X5_letOut_ok (l : Launch) (g : Gh) (u : Nat → Nat) (v pa sd tx rr rq : Nat → Int) (sv : Nat) (ln th ap rm rd nw hh : Int) (hand most : Int) (hm : MOK v) (hsv : sv ≤ 4) (hhand : 0 ≤ hand ∧ hand ≤ 1000000) (hmost : 0 ≤ most ∧ most ≤ 100000) (hhn : 0 ≤ hndV v) : CT l g yX5_letOut cX5_letOut 7 (some FieldType.int) ({ frames := 4, cells := 0, slots := 0, locals := 105 }) [.ref (u 0), .int (iI hand), .int (iI most)] [(u 0, .inr (5, [.ref (u 1), .ref (u 2), .ref (u 3), .int (iI ((sv : Int))), .ref (u 4), .int (iI ln), .int (iI th), .int (iI ap), .int (iI rm), .ref (u 5), .int (iI rd), .int (iI nw), .ref (u 6), .long (lI hh)])), (u 1, aL g 75 v), (u 2, aL g 300 pa)] (PE (some (.int (iI (letV hand most v).2))) [(u 0, .inr (5, [.ref (u 1), .ref (u 2), .ref (u 3), .int (iI (((svN sv : Nat) : Int))), .ref (u 4), .int (iI ln), .int (iI 0), .int (iI ap), .int (iI rm), .ref (u 5), .int (iI rd), .int (iI nw), .ref (u 6), .long (lI hh)])), (u 1, aL g 75 ((letV hand most v).1)), (u 2, aL g 300 (svP v pa sv))]) := by
  refine CT.intro (L0 := [(0, .ref (u 0)), (1, .int (iI hand)), (2, .int (iI most))]) (own := RX5) (by decide) rfl (Nat.le_of_ble_eq_true rfl) rfl ?_
  intro pX eX sX mX argsX belowX methX cX A C hr hlk
  obtain ⟨hP, hE0, hF, hrow0, hwt, hht, hlen, hent⟩ := id hm
  have hE : -10 ≤ v 3 ∧ v 3 ≤ 10 := by omega
  have hrow : ∀ i : Nat, (i : Int) < v 2 → 0 ≤ vR v i ∧ vR v i ≤ 4 := fun i hi => by have := hrow0 i hi; omega
  have hh9 := hanV_rng hm
  have hh8 : hndV v = v 0 - hanV v := rfl
  refine j_iload_n C 1 dX5_letOut_0 rfl rfl ?_
  refine j_callS (As := [.int (iI hand)]) (rest := []) C ys_X5_isForce qw786 (c_X5_isForce_t l g hand (by omega)) (by decide) rfl dX5_letOut_1 rfl (Nat.le_of_ble_eq_true rfl) (by decide) (pf1 [] [(u 0, .inr (5, [.ref (u 1), .ref (u 2), .ref (u 3), .int (iI ((sv : Int))), .ref (u 4), .int (iI ln), .int (iI th), .int (iI ap), .int (iI rm), .ref (u 5), .int (iI rd), .int (iI nw), .ref (u 6), .long (lI hh)])), (u 1, aL g 75 v), (u 2, aL g 300 pa)]) rfl (fun r9 w9 hq9 => ?_)
  obtain ⟨rfl, rfl⟩ := hq9
  refine J.to (L1 := [(0, .ref (u 0)), (1, .int (iI hand)), (2, .int (iI most))]) (S1 := [.int (iI 1)]) (ws1 := [(u 0, .inr (5, [.ref (u 1), .ref (u 2), .ref (u 3), .int (iI ((sv : Int))), .ref (u 4), .int (iI ln), .int (iI th), .int (iI ap), .int (iI rm), .ref (u 5), .int (iI rd), .int (iI nw), .ref (u 6), .long (lI hh)])), (u 1, aL g 75 v), (u 2, aL g 300 pa)]) rfl rfl rfl ?_
  refine j_if_eq (tgt := 19) C (by decide) dX5_letOut_4 (by decide) (fun c4 => absurd c4 (by decide)) (fun c4 => ?_)
  refine j_iload_n C 2 dX5_letOut_7 rfl rfl ?_
  refine j_i2l C (by omega) dX5_letOut_8 ?_
  refine j_lconst (v := 0) C dX5_letOut_9 rfl ?_
  refine j_ldc2 (x := 100000) C qw790 (by decide) dX5_letOut_10 ?_
  refine j_callS (As := [.long (lI most), .long (lI 0), .long (lI 100000)]) (rest := []) C ys_X5_in qw718 (c_X5_in_t l g most 0 100000 (by omega) (by omega) (by omega) (by omega)) (by decide) rfl dX5_letOut_13 rfl (Nat.le_of_ble_eq_true rfl) (by decide) (pf1 [] [(u 0, .inr (5, [.ref (u 1), .ref (u 2), .ref (u 3), .int (iI ((sv : Int))), .ref (u 4), .int (iI ln), .int (iI th), .int (iI ap), .int (iI rm), .ref (u 5), .int (iI rd), .int (iI nw), .ref (u 6), .long (lI hh)])), (u 1, aL g 75 v), (u 2, aL g 300 pa)]) rfl (fun r9 w9 hq9 => ?_)
  obtain ⟨rfl, rfl⟩ := hq9
  refine J.to (L1 := [(0, .ref (u 0)), (1, .int (iI hand)), (2, .int (iI most))]) (S1 := [.int (iI 1)]) (ws1 := [(u 0, .inr (5, [.ref (u 1), .ref (u 2), .ref (u 3), .int (iI ((sv : Int))), .ref (u 4), .int (iI ln), .int (iI th), .int (iI ap), .int (iI rm), .ref (u 5), .int (iI rd), .int (iI nw), .ref (u 6), .long (lI hh)])), (u 1, aL g 75 v), (u 2, aL g 300 pa)]) rfl rfl rfl ?_
  refine j_if_ne (tgt := 25) C (by decide) dX5_letOut_16 (by decide) (fun c16 => ?_) (fun c16 => absurd c16 (by decide))
  refine j_aload_n C 0 dX5_letOut_25 rfl rfl ?_
  refine j_callV (As := []) (rest := []) C yv_X5_saves qw730 (c_X5_saves l g u v pa sd tx rr rq sv ln th ap rm rd nw hh hsv) (by decide) 0 rfl rfl rfl dX5_letOut_26 rfl (Nat.le_of_ble_eq_true rfl) (by decide) pf0 rfl (fun r9 w9 hq9 => ?_)
  obtain ⟨rfl, rfl⟩ := hq9
  refine J.to (L1 := [(0, .ref (u 0)), (1, .int (iI hand)), (2, .int (iI most))]) (S1 := []) (ws1 := [(u 0, .inr (5, [.ref (u 1), .ref (u 2), .ref (u 3), .int (iI (((svN sv : Nat) : Int))), .ref (u 4), .int (iI ln), .int (iI th), .int (iI ap), .int (iI rm), .ref (u 5), .int (iI rd), .int (iI nw), .ref (u 6), .long (lI hh)])), (u 1, aL g 75 v), (u 2, aL g 300 (svP v pa sv))]) rfl rfl rfl ?_
  refine j_iload_n C 2 dX5_letOut_29 rfl rfl ?_
  refine j_i2l C (by omega) dX5_letOut_30 ?_
  refine j_aload_n C 0 dX5_letOut_31 rfl rfl ?_
  refine j_callV (As := []) (rest := [.long (lI most)]) C yv_X5_inHand qw760 (c_X5_inHand l g u v (((svN sv : Nat) : Int)) ln th ap rm rd nw hh  hm) (by decide) 0 rfl rfl rfl dX5_letOut_32 rfl (Nat.le_of_ble_eq_true rfl) (by decide) (pf1 [] [(u 2, aL g 300 (svP v pa sv))]) rfl (fun r9 w9 hq9 => ?_)
  obtain ⟨rfl, rfl⟩ := hq9
  refine J.to (L1 := [(0, .ref (u 0)), (1, .int (iI hand)), (2, .int (iI most))]) (S1 := [.int (iI (hndV v)), .long (lI most)]) (ws1 := [(u 0, .inr (5, [.ref (u 1), .ref (u 2), .ref (u 3), .int (iI (((svN sv : Nat) : Int))), .ref (u 4), .int (iI ln), .int (iI th), .int (iI ap), .int (iI rm), .ref (u 5), .int (iI rd), .int (iI nw), .ref (u 6), .long (lI hh)])), (u 1, aL g 75 v), (u 2, aL g 300 (svP v pa sv))]) rfl rfl rfl ?_
  refine j_i2l C (by omega) dX5_letOut_35 ?_
  refine j_callS (As := [.long (lI most), .long (lI (hndV v))]) (rest := []) C ys_X5_lesser qw815 (c_X5_lesser l g most (hndV v) (by omega) (by omega)) (by decide) rfl dX5_letOut_36 rfl (Nat.le_of_ble_eq_true rfl) (by decide) (pf1 [] [(u 0, .inr (5, [.ref (u 1), .ref (u 2), .ref (u 3), .int (iI (((svN sv : Nat) : Int))), .ref (u 4), .int (iI ln), .int (iI th), .int (iI ap), .int (iI rm), .ref (u 5), .int (iI rd), .int (iI nw), .ref (u 6), .long (lI hh)])), (u 1, aL g 75 v), (u 2, aL g 300 (svP v pa sv))]) rfl (fun r9 w9 hq9 => ?_)
  obtain ⟨rfl, rfl⟩ := hq9
  refine J.to (L1 := [(0, .ref (u 0)), (1, .int (iI hand)), (2, .int (iI most))]) (S1 := [.int (iI (if most < hndV v then most else hndV v))]) (ws1 := [(u 0, .inr (5, [.ref (u 1), .ref (u 2), .ref (u 3), .int (iI (((svN sv : Nat) : Int))), .ref (u 4), .int (iI ln), .int (iI th), .int (iI ap), .int (iI rm), .ref (u 5), .int (iI rd), .int (iI nw), .ref (u 6), .long (lI hh)])), (u 1, aL g 75 v), (u 2, aL g 300 (svP v pa sv))]) rfl rfl rfl ?_
  generalize hm0 : (if most < hndV v then most else hndV v) = m0
  have hm9 : 0 ≤ m0 ∧ m0 ≤ 100000 := by rw [← hm0]; split <;> omega
  have hv9 := mvV_rng (up := false) (hand := hand) 4 hm hm9.1
  refine j_istore_n (L1 := [(3, .int (iI m0)), (0, .ref (u 0)), (1, .int (iI hand)), (2, .int (iI most))]) C dX5_letOut_39 rfl (by decide) rfl ?_
  refine j_iload_n C 0 dX5_letOut_40 rfl rfl ?_
  refine j_istore (L1 := [(4, .int (iI m0)), (3, .int (iI m0)), (0, .ref (u 0)), (1, .int (iI hand)), (2, .int (iI most))]) C dX5_letOut_41 (by decide) rfl ?_
  refine j_aload_n C 2 dX5_letOut_43 rfl rfl ?_
  refine j_iload_n C 3 dX5_letOut_44 rfl rfl ?_
  refine j_callV (As := [.int (iI hand)]) (rest := []) C yv_X5_sinker qw827 (c_X5_sinker l g u v (((svN sv : Nat) : Int)) ln th ap rm rd nw hh hand hm (by omega)) (by decide) 0 rfl rfl rfl dX5_letOut_45 rfl (Nat.le_of_ble_eq_true rfl) (by decide) (pf1 [] [(u 2, aL g 300 (svP v pa sv))]) rfl (fun r9 w9 hq9 => ?_)
  obtain ⟨rfl, rfl⟩ := hq9
  refine J.to (L1 := [(4, .int (iI m0)), (3, .int (iI m0)), (0, .ref (u 0)), (1, .int (iI hand)), (2, .int (iI most))]) (S1 := [.int (iI (mnV false hand v))]) (ws1 := [(u 0, .inr (5, [.ref (u 1), .ref (u 2), .ref (u 3), .int (iI (((svN sv : Nat) : Int))), .ref (u 4), .int (iI ln), .int (iI th), .int (iI ap), .int (iI rm), .ref (u 5), .int (iI rd), .int (iI nw), .ref (u 6), .long (lI hh)])), (u 1, aL g 75 v), (u 2, aL g 300 (svP v pa sv))]) rfl rfl rfl ?_
  generalize hb0 : mnV false hand v = b0
  have hbr := mn_rng false hand v
  rw [hb0] at hbr
  refine j_istore (L1 := [(5, .int (iI b0)), (4, .int (iI m0)), (3, .int (iI m0)), (0, .ref (u 0)), (1, .int (iI hand)), (2, .int (iI most))]) C dX5_letOut_48 (by decide) rfl ?_
  refine j_iload C 0 dX5_letOut_50 rfl ?_
  refine j_iconst C dX5_letOut_52 ?_
  refine j_icmp_ne (tgt := 60) C (by omega) (by decide) dX5_letOut_53 (by decide) (fun c53 => ?_) (fun c53 => ?_)
  · have hs1 := mn_pos (up := false) (v := v) hhand.1 (by rw [hb0]; exact c53)
    rw [hb0] at hs1
    have hsr1 := strV_rng hm b0
    have ht1 := hm.2.2.2.2.2.1 b0.toNat (by omega)
    have hv1 : v (13 + b0.toNat) = vH v b0.toNat := rfl
    have hd1 := div_rng (a := m0) (b := strV v b0) (by omega) hs1.2
    refine j_iload C 1 dX5_letOut_60 rfl ?_
    refine j_aload_n C 3 dX5_letOut_62 rfl rfl ?_
    refine j_iload C 0 dX5_letOut_63 rfl ?_
    refine j_callV (As := [.int (iI b0)]) (rest := [.int (iI m0)]) C yv_X5_strands qw752 (c_X5_strands l g u v (((svN sv : Nat) : Int)) ln th ap rm rd nw hh b0 hm (by omega)) (by decide) 0 rfl rfl rfl dX5_letOut_65 rfl (Nat.le_of_ble_eq_true rfl) (by decide) (pf1 [] [(u 2, aL g 300 (svP v pa sv))]) rfl (fun r9 w9 hq9 => ?_)
    obtain ⟨rfl, rfl⟩ := hq9
    refine J.to (L1 := [(5, .int (iI b0)), (4, .int (iI m0)), (3, .int (iI m0)), (0, .ref (u 0)), (1, .int (iI hand)), (2, .int (iI most))]) (S1 := [.int (iI (strV v b0)), .int (iI m0)]) (ws1 := [(u 0, .inr (5, [.ref (u 1), .ref (u 2), .ref (u 3), .int (iI (((svN sv : Nat) : Int))), .ref (u 4), .int (iI ln), .int (iI th), .int (iI ap), .int (iI rm), .ref (u 5), .int (iI rd), .int (iI nw), .ref (u 6), .long (lI hh)])), (u 1, aL g 75 v), (u 2, aL g 300 (svP v pa sv))]) rfl rfl rfl ?_
    refine j_idiv C (by omega) (by omega) dX5_letOut_68 ?_
    refine j_i2l C (by omega) dX5_letOut_69 ?_
    refine j_aload_n C 3 dX5_letOut_70 rfl rfl ?_
    refine j_get C ck5 0 0 (by decide) qw662 rfl rfl dX5_letOut_71 ?_
    refine j_bipush C dX5_letOut_74 (by decide) ?_
    refine j_iload C 0 dX5_letOut_76 rfl ?_
    refine j_iadd C dX5_letOut_78 ?_
    refine j_lald (n := 75) (f := v) C 1 (13 + b0.toNat) rfl (by omega) (by omega) (by decide) dX5_letOut_79 ?_
    refine j_callS (As := [.long (lI (m0 / (strV v b0))), .long (lI (v (13 + b0.toNat)))]) (rest := []) C ys_X5_lesser qw815 (c_X5_lesser l g (m0 / (strV v b0)) (v (13 + b0.toNat)) (by omega) (by omega)) (by decide) rfl dX5_letOut_80 rfl (Nat.le_of_ble_eq_true rfl) (by decide) (pf1 [] [(u 0, .inr (5, [.ref (u 1), .ref (u 2), .ref (u 3), .int (iI (((svN sv : Nat) : Int))), .ref (u 4), .int (iI ln), .int (iI th), .int (iI ap), .int (iI rm), .ref (u 5), .int (iI rd), .int (iI nw), .ref (u 6), .long (lI hh)])), (u 1, aL g 75 v), (u 2, aL g 300 (svP v pa sv))]) rfl (fun r9 w9 hq9 => ?_)
    obtain ⟨rfl, rfl⟩ := hq9
    refine J.to (L1 := [(5, .int (iI b0)), (4, .int (iI m0)), (3, .int (iI m0)), (0, .ref (u 0)), (1, .int (iI hand)), (2, .int (iI most))]) (S1 := [.int (iI (if m0 / (strV v b0) < v (13 + b0.toNat) then m0 / (strV v b0) else v (13 + b0.toNat)))]) (ws1 := [(u 0, .inr (5, [.ref (u 1), .ref (u 2), .ref (u 3), .int (iI (((svN sv : Nat) : Int))), .ref (u 4), .int (iI ln), .int (iI th), .int (iI ap), .int (iI rm), .ref (u 5), .int (iI rd), .int (iI nw), .ref (u 6), .long (lI hh)])), (u 1, aL g 75 v), (u 2, aL g 300 (svP v pa sv))]) rfl rfl rfl ?_
    refine J.to (L1 := [(5, .int (iI b0)), (4, .int (iI m0)), (3, .int (iI m0)), (0, .ref (u 0)), (1, .int (iI hand)), (2, .int (iI most))]) (S1 := [.int (iI (mwy (kV v) b0 m0 false))]) (ws1 := [(u 0, .inr (5, [.ref (u 1), .ref (u 2), .ref (u 3), .int (iI (((svN sv : Nat) : Int))), .ref (u 4), .int (iI ln), .int (iI th), .int (iI ap), .int (iI rm), .ref (u 5), .int (iI rd), .int (iI nw), .ref (u 6), .long (lI hh)])), (u 1, aL g 75 v), (u 2, aL g 300 (svP v pa sv))]) rfl rfl (by rw [show ((if m0 / (strV v b0) < v (13 + b0.toNat) then m0 / (strV v b0) else v (13 + b0.toNat) : Int)) = mwy (kV v) b0 m0 false from (wayD hs1.1 hs1.2)]) ?_
    refine j_istore (L1 := [(6, .int (iI (mwy (kV v) b0 m0 false))), (5, .int (iI b0)), (4, .int (iI m0)), (3, .int (iI m0)), (0, .ref (u 0)), (1, .int (iI hand)), (2, .int (iI most))]) C dX5_letOut_83 (by decide) rfl ?_
    refine J.sub (L1 := [(0, .ref (u 0)), (1, .int (iI hand)), (3, .int (iI m0)), (4, .int (iI m0)), (5, .int (iI b0)), (6, .int (iI (mwy (kV v) b0 m0 false)))]) [4, 5, 3, 2, 1, 0] rfl ?_
    refine lm_letOut C hhand (by omega) (mvV false hand 4 v m0) ?_ (finV hhand.1 hm (by omega)) 4 v m0 b0 _ hm ⟨by omega, Int.le_refl _⟩ hb0.symm rfl rfl
    refine j_aload_n C 0 dX5_letOut_184 rfl rfl ?_
    refine j_iload_n C 1 dX5_letOut_185 rfl rfl ?_
    refine j_iload C 2 dX5_letOut_186 rfl ?_
    refine j_isub C dX5_letOut_188 ?_
    refine j_callV (As := [.int (iI (m0 - ((mvV false hand 4 v m0).2)))]) (rest := []) C yv_X5_tells qw734 (c_X5_tells l g u ((mvV false hand 4 v m0).1) (((svN sv : Nat) : Int)) ln th ap rm rd nw hh (m0 - ((mvV false hand 4 v m0).2))) (by decide) 0 rfl rfl rfl dX5_letOut_189 rfl (Nat.le_of_ble_eq_true rfl) (by decide) (pf1 [] [(u 1, aL g 75 ((mvV false hand 4 v m0).1)), (u 2, aL g 300 (svP v pa sv))]) rfl (fun r9 w9 hq9 => ?_)
    obtain ⟨rfl, rfl⟩ := hq9
    refine J.to (L1 := [(0, .ref (u 0)), (3, .int (iI m0)), (4, .int (iI ((mvV false hand 4 v m0).2)))]) (S1 := [.int (iI (m0 - ((mvV false hand 4 v m0).2)))]) (ws1 := [(u 0, .inr (5, [.ref (u 1), .ref (u 2), .ref (u 3), .int (iI (((svN sv : Nat) : Int))), .ref (u 4), .int (iI ln), .int (iI 0), .int (iI ap), .int (iI rm), .ref (u 5), .int (iI rd), .int (iI nw), .ref (u 6), .long (lI hh)])), (u 1, aL g 75 ((mvV false hand 4 v m0).1)), (u 2, aL g 300 (svP v pa sv))]) rfl rfl rfl ?_
    exact j_iret C hr hlk dX5_letOut_192 ⟨by rw [letV, hm0], by rw [letV, hm0]⟩ (by decide) (by decide)
  · refine j_iconst C dX5_letOut_56 ?_
    refine j_goto (tgt := 83) C dX5_letOut_57 (by decide) ?_
    refine J.to (L1 := [(5, .int (iI b0)), (4, .int (iI m0)), (3, .int (iI m0)), (0, .ref (u 0)), (1, .int (iI hand)), (2, .int (iI most))]) (S1 := [.int (iI (mwy (kV v) b0 m0 false))]) (ws1 := [(u 0, .inr (5, [.ref (u 1), .ref (u 2), .ref (u 3), .int (iI (((svN sv : Nat) : Int))), .ref (u 4), .int (iI ln), .int (iI th), .int (iI ap), .int (iI rm), .ref (u 5), .int (iI rd), .int (iI nw), .ref (u 6), .long (lI hh)])), (u 1, aL g 75 v), (u 2, aL g 300 (svP v pa sv))]) rfl rfl (by rw [show ((0 : Int)) = mwy (kV v) b0 m0 false from (way0 (by omega))]) ?_
    refine j_istore (L1 := [(6, .int (iI (mwy (kV v) b0 m0 false))), (5, .int (iI b0)), (4, .int (iI m0)), (3, .int (iI m0)), (0, .ref (u 0)), (1, .int (iI hand)), (2, .int (iI most))]) C dX5_letOut_83 (by decide) rfl ?_
    refine J.sub (L1 := [(0, .ref (u 0)), (1, .int (iI hand)), (3, .int (iI m0)), (4, .int (iI m0)), (5, .int (iI b0)), (6, .int (iI (mwy (kV v) b0 m0 false)))]) [4, 5, 3, 2, 1, 0] rfl ?_
    refine lm_letOut C hhand (by omega) (mvV false hand 4 v m0) ?_ (finV hhand.1 hm (by omega)) 4 v m0 b0 _ hm ⟨by omega, Int.le_refl _⟩ hb0.symm rfl rfl
    refine j_aload_n C 0 dX5_letOut_184 rfl rfl ?_
    refine j_iload_n C 1 dX5_letOut_185 rfl rfl ?_
    refine j_iload C 2 dX5_letOut_186 rfl ?_
    refine j_isub C dX5_letOut_188 ?_
    refine j_callV (As := [.int (iI (m0 - ((mvV false hand 4 v m0).2)))]) (rest := []) C yv_X5_tells qw734 (c_X5_tells l g u ((mvV false hand 4 v m0).1) (((svN sv : Nat) : Int)) ln th ap rm rd nw hh (m0 - ((mvV false hand 4 v m0).2))) (by decide) 0 rfl rfl rfl dX5_letOut_189 rfl (Nat.le_of_ble_eq_true rfl) (by decide) (pf1 [] [(u 1, aL g 75 ((mvV false hand 4 v m0).1)), (u 2, aL g 300 (svP v pa sv))]) rfl (fun r9 w9 hq9 => ?_)
    obtain ⟨rfl, rfl⟩ := hq9
    refine J.to (L1 := [(0, .ref (u 0)), (3, .int (iI m0)), (4, .int (iI ((mvV false hand 4 v m0).2)))]) (S1 := [.int (iI (m0 - ((mvV false hand 4 v m0).2)))]) (ws1 := [(u 0, .inr (5, [.ref (u 1), .ref (u 2), .ref (u 3), .int (iI (((svN sv : Nat) : Int))), .ref (u 4), .int (iI ln), .int (iI 0), .int (iI ap), .int (iI rm), .ref (u 5), .int (iI rd), .int (iI nw), .ref (u 6), .long (lI hh)])), (u 1, aL g 75 ((mvV false hand 4 v m0).1)), (u 2, aL g 300 (svP v pa sv))]) rfl rfl rfl ?_
    exact j_iret C hr hlk dX5_letOut_192 ⟨by rw [letV, hm0], by rw [letV, hm0]⟩ (by decide) (by decide)

theorem c_X5_letOut_n1 (l : Launch) (g : Gh) (u : Nat → Nat) (v pa sd tx rr rq : Nat → Int) (sv : Nat) (ln th ap rm rd nw hh : Int) (hand most : Int) (hm : MOK v) (hsv : sv ≤ 4) (hr1 : -2147483648 ≤ hand ∧ hand < 2147483648) (hr2 : -2147483648 ≤ most ∧ most < 2147483648) (hf : hand < 0 ∨ 1000000 < hand) : CT l g yX5_letOut cX5_letOut 7 (some FieldType.int) ({ frames := 4, cells := 0, slots := 0, locals := 105 }) [.ref (u 0), .int (iI hand), .int (iI most)] [(u 0, .inr (5, [.ref (u 1), .ref (u 2), .ref (u 3), .int (iI ((sv : Int))), .ref (u 4), .int (iI ln), .int (iI th), .int (iI ap), .int (iI rm), .ref (u 5), .int (iI rd), .int (iI nw), .ref (u 6), .long (lI hh)])), (u 1, aL g 75 v), (u 2, aL g 300 pa)] (PE (some (.int (iI 0))) [(u 0, .inr (5, [.ref (u 1), .ref (u 2), .ref (u 3), .int (iI ((sv : Int))), .ref (u 4), .int (iI ln), .int (iI 1), .int (iI ap), .int (iI rm), .ref (u 5), .int (iI rd), .int (iI nw), .ref (u 6), .long (lI hh)])), (u 1, aL g 75 v), (u 2, aL g 300 pa)]) := by
  refine CT.intro (L0 := [(0, .ref (u 0)), (1, .int (iI hand)), (2, .int (iI most))]) (own := RX5) (by decide) rfl (Nat.le_of_ble_eq_true rfl) rfl ?_
  intro pX eX sX mX argsX belowX methX cX A C hr hlk
  obtain ⟨hP, hE0, hF, hrow0, hwt, hht, hlen, hent⟩ := id hm
  have hE : -10 ≤ v 3 ∧ v 3 ≤ 10 := by omega
  have hrow : ∀ i : Nat, (i : Int) < v 2 → 0 ≤ vR v i ∧ vR v i ≤ 4 := fun i hi => by have := hrow0 i hi; omega
  refine j_iload_n C 1 dX5_letOut_0 rfl rfl ?_
  refine j_callS (As := [.int (iI hand)]) (rest := []) C ys_X5_isForce qw786 (c_X5_isForce_f l g hand (by omega) (by omega)) (by decide) rfl dX5_letOut_1 rfl (Nat.le_of_ble_eq_true rfl) (by decide) (pf1 [] [(u 0, .inr (5, [.ref (u 1), .ref (u 2), .ref (u 3), .int (iI ((sv : Int))), .ref (u 4), .int (iI ln), .int (iI th), .int (iI ap), .int (iI rm), .ref (u 5), .int (iI rd), .int (iI nw), .ref (u 6), .long (lI hh)])), (u 1, aL g 75 v), (u 2, aL g 300 pa)]) rfl (fun r9 w9 hq9 => ?_)
  obtain ⟨rfl, rfl⟩ := hq9
  refine J.to (L1 := [(0, .ref (u 0)), (1, .int (iI hand)), (2, .int (iI most))]) (S1 := [.int (iI 0)]) (ws1 := [(u 0, .inr (5, [.ref (u 1), .ref (u 2), .ref (u 3), .int (iI ((sv : Int))), .ref (u 4), .int (iI ln), .int (iI th), .int (iI ap), .int (iI rm), .ref (u 5), .int (iI rd), .int (iI nw), .ref (u 6), .long (lI hh)])), (u 1, aL g 75 v), (u 2, aL g 300 pa)]) rfl rfl rfl ?_
  refine j_if_eq (tgt := 19) C (by decide) dX5_letOut_4 (by decide) (fun c4 => ?_) (fun c4 => absurd c4 (by decide))
  refine j_aload_n C 0 dX5_letOut_19 rfl rfl ?_
  refine j_iconst C dX5_letOut_20 ?_
  refine j_callV (As := [.int (iI 1)]) (rest := []) C yv_X5_fails qw721 (c_X5_fails l g u v ((sv : Int)) ln th ap rm rd nw hh 1) (by decide) 0 rfl rfl rfl dX5_letOut_21 rfl (Nat.le_of_ble_eq_true rfl) (by decide) (pf1 [] [(u 1, aL g 75 v), (u 2, aL g 300 pa)]) rfl (fun r9 w9 hq9 => ?_)
  obtain ⟨rfl, rfl⟩ := hq9
  refine J.to (L1 := [(0, .ref (u 0)), (1, .int (iI hand)), (2, .int (iI most))]) (S1 := [.int (iI 0)]) (ws1 := [(u 0, .inr (5, [.ref (u 1), .ref (u 2), .ref (u 3), .int (iI ((sv : Int))), .ref (u 4), .int (iI ln), .int (iI 1), .int (iI ap), .int (iI rm), .ref (u 5), .int (iI rd), .int (iI nw), .ref (u 6), .long (lI hh)])), (u 1, aL g 75 v), (u 2, aL g 300 pa)]) rfl rfl rfl ?_
  exact j_iret C hr hlk dX5_letOut_24 ⟨rfl, rfl⟩ (by decide) (by decide)

theorem c_X5_letOut_n2 (l : Launch) (g : Gh) (u : Nat → Nat) (v pa sd tx rr rq : Nat → Int) (sv : Nat) (ln th ap rm rd nw hh : Int) (hand most : Int) (hm : MOK v) (hsv : sv ≤ 4) (hr1 : -2147483648 ≤ hand ∧ hand < 2147483648) (hr2 : -2147483648 ≤ most ∧ most < 2147483648) (hhand : 0 ≤ hand ∧ hand ≤ 1000000) (hn : most < 0 ∨ 100000 < most) : CT l g yX5_letOut cX5_letOut 7 (some FieldType.int) ({ frames := 4, cells := 0, slots := 0, locals := 105 }) [.ref (u 0), .int (iI hand), .int (iI most)] [(u 0, .inr (5, [.ref (u 1), .ref (u 2), .ref (u 3), .int (iI ((sv : Int))), .ref (u 4), .int (iI ln), .int (iI th), .int (iI ap), .int (iI rm), .ref (u 5), .int (iI rd), .int (iI nw), .ref (u 6), .long (lI hh)])), (u 1, aL g 75 v), (u 2, aL g 300 pa)] (PE (some (.int (iI 0))) [(u 0, .inr (5, [.ref (u 1), .ref (u 2), .ref (u 3), .int (iI ((sv : Int))), .ref (u 4), .int (iI ln), .int (iI 1), .int (iI ap), .int (iI rm), .ref (u 5), .int (iI rd), .int (iI nw), .ref (u 6), .long (lI hh)])), (u 1, aL g 75 v), (u 2, aL g 300 pa)]) := by
  refine CT.intro (L0 := [(0, .ref (u 0)), (1, .int (iI hand)), (2, .int (iI most))]) (own := RX5) (by decide) rfl (Nat.le_of_ble_eq_true rfl) rfl ?_
  intro pX eX sX mX argsX belowX methX cX A C hr hlk
  obtain ⟨hP, hE0, hF, hrow0, hwt, hht, hlen, hent⟩ := id hm
  have hE : -10 ≤ v 3 ∧ v 3 ≤ 10 := by omega
  have hrow : ∀ i : Nat, (i : Int) < v 2 → 0 ≤ vR v i ∧ vR v i ≤ 4 := fun i hi => by have := hrow0 i hi; omega
  refine j_iload_n C 1 dX5_letOut_0 rfl rfl ?_
  refine j_callS (As := [.int (iI hand)]) (rest := []) C ys_X5_isForce qw786 (c_X5_isForce_t l g hand (by omega)) (by decide) rfl dX5_letOut_1 rfl (Nat.le_of_ble_eq_true rfl) (by decide) (pf1 [] [(u 0, .inr (5, [.ref (u 1), .ref (u 2), .ref (u 3), .int (iI ((sv : Int))), .ref (u 4), .int (iI ln), .int (iI th), .int (iI ap), .int (iI rm), .ref (u 5), .int (iI rd), .int (iI nw), .ref (u 6), .long (lI hh)])), (u 1, aL g 75 v), (u 2, aL g 300 pa)]) rfl (fun r9 w9 hq9 => ?_)
  obtain ⟨rfl, rfl⟩ := hq9
  refine J.to (L1 := [(0, .ref (u 0)), (1, .int (iI hand)), (2, .int (iI most))]) (S1 := [.int (iI 1)]) (ws1 := [(u 0, .inr (5, [.ref (u 1), .ref (u 2), .ref (u 3), .int (iI ((sv : Int))), .ref (u 4), .int (iI ln), .int (iI th), .int (iI ap), .int (iI rm), .ref (u 5), .int (iI rd), .int (iI nw), .ref (u 6), .long (lI hh)])), (u 1, aL g 75 v), (u 2, aL g 300 pa)]) rfl rfl rfl ?_
  refine j_if_eq (tgt := 19) C (by decide) dX5_letOut_4 (by decide) (fun c4 => absurd c4 (by decide)) (fun c4 => ?_)
  refine j_iload_n C 2 dX5_letOut_7 rfl rfl ?_
  refine j_i2l C (by omega) dX5_letOut_8 ?_
  refine j_lconst (v := 0) C dX5_letOut_9 rfl ?_
  refine j_ldc2 (x := 100000) C qw790 (by decide) dX5_letOut_10 ?_
  refine j_callS (As := [.long (lI most), .long (lI 0), .long (lI 100000)]) (rest := []) C ys_X5_in qw718 (c_X5_in_f l g most 0 100000 (by omega) (by omega) (by omega) (by omega)) (by decide) rfl dX5_letOut_13 rfl (Nat.le_of_ble_eq_true rfl) (by decide) (pf1 [] [(u 0, .inr (5, [.ref (u 1), .ref (u 2), .ref (u 3), .int (iI ((sv : Int))), .ref (u 4), .int (iI ln), .int (iI th), .int (iI ap), .int (iI rm), .ref (u 5), .int (iI rd), .int (iI nw), .ref (u 6), .long (lI hh)])), (u 1, aL g 75 v), (u 2, aL g 300 pa)]) rfl (fun r9 w9 hq9 => ?_)
  obtain ⟨rfl, rfl⟩ := hq9
  refine J.to (L1 := [(0, .ref (u 0)), (1, .int (iI hand)), (2, .int (iI most))]) (S1 := [.int (iI 0)]) (ws1 := [(u 0, .inr (5, [.ref (u 1), .ref (u 2), .ref (u 3), .int (iI ((sv : Int))), .ref (u 4), .int (iI ln), .int (iI th), .int (iI ap), .int (iI rm), .ref (u 5), .int (iI rd), .int (iI nw), .ref (u 6), .long (lI hh)])), (u 1, aL g 75 v), (u 2, aL g 300 pa)]) rfl rfl rfl ?_
  refine j_if_ne (tgt := 25) C (by decide) dX5_letOut_16 (by decide) (fun c16 => absurd c16 (by decide)) (fun c16 => ?_)
  refine j_aload_n C 0 dX5_letOut_19 rfl rfl ?_
  refine j_iconst C dX5_letOut_20 ?_
  refine j_callV (As := [.int (iI 1)]) (rest := []) C yv_X5_fails qw721 (c_X5_fails l g u v ((sv : Int)) ln th ap rm rd nw hh 1) (by decide) 0 rfl rfl rfl dX5_letOut_21 rfl (Nat.le_of_ble_eq_true rfl) (by decide) (pf1 [] [(u 1, aL g 75 v), (u 2, aL g 300 pa)]) rfl (fun r9 w9 hq9 => ?_)
  obtain ⟨rfl, rfl⟩ := hq9
  refine J.to (L1 := [(0, .ref (u 0)), (1, .int (iI hand)), (2, .int (iI most))]) (S1 := [.int (iI 0)]) (ws1 := [(u 0, .inr (5, [.ref (u 1), .ref (u 2), .ref (u 3), .int (iI ((sv : Int))), .ref (u 4), .int (iI ln), .int (iI 1), .int (iI ap), .int (iI rm), .ref (u 5), .int (iI rd), .int (iI nw), .ref (u 6), .long (lI hh)])), (u 1, aL g 75 v), (u 2, aL g 300 pa)]) rfl rfl rfl ?_
  exact j_iret C hr hlk dX5_letOut_24 ⟨rfl, rfl⟩ (by decide) (by decide)

