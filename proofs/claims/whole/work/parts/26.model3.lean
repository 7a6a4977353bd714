/-! the reference: hauling and letting out -/
def kV (v : Nat → Int) : Nat → Nat → Int := fun c => if c = 0 then (fun j => if j = 9 then 0 else v j) else if c = 1 then vR v else if c = 3 then vW v else if c = 4 then vH v else vL v
theorem SOK_kV {v : Nat → Int} (hm : MOK v) : SOK (kV v) := ⟨hm.1, hm.2.1, hm.2.2.1, hm.2.2.2.1, hm.2.2.2.2.1, hm.2.2.2.2.2.1, hm.2.2.2.2.2.2.1, (show (0 : Int) ≤ 0 ∧ (0 : Int) ≤ 15 by decide), hm.2.2.2.2.2.2.2⟩
theorem wayU {v : Nat → Int} {b left : Int} (hb : 0 ≤ b ∧ b < 4) (hs : 0 < strV v b) : (if left / strV v b < 9000 - v (13 + b.toNat) then left / strV v b else 9000 - v (13 + b.toNat)) = mwy (kV v) b left true := by
  unfold mwy
  refine Eq.trans ?_ (if_pos (show (0 ≤ b ∧ b < 4) ∧ 0 < mst (kV v) b from ⟨hb, hs⟩)).symm
  show _ = (if 9000 - v (13 + b.toNat) < left / strV v b then 9000 - v (13 + b.toNat) else left / strV v b)
  split <;> split <;> omega
theorem wayD {v : Nat → Int} {b left : Int} (hb : 0 ≤ b ∧ b < 4) (hs : 0 < strV v b) : (if left / strV v b < v (13 + b.toNat) then left / strV v b else v (13 + b.toNat)) = mwy (kV v) b left false := by
  unfold mwy
  refine Eq.trans ?_ (if_pos (show (0 ≤ b ∧ b < 4) ∧ 0 < mst (kV v) b from ⟨hb, hs⟩)).symm
  show _ = (if v (13 + b.toNat) < left / strV v b then v (13 + b.toNat) else left / strV v b)
  split <;> split <;> omega
theorem way0 {v : Nat → Int} {b left : Int} {up : Bool} (hb : b = -1) : 0 = mwy (kV v) b left up := by
  unfold mwy
  exact (if_neg (fun h => by have := h.1; omega)).symm
theorem lea_st {v : Nat → Int} {h : Bool} {b : Int} (hl : leaV v h b ≠ -1) : 0 < strV v b := by
  have h1 := (strn_rng (vR v) (v 2).toNat (v 3) b).1
  rcases Int.lt_or_eq_of_le h1 with h2 | h2
  · exact h2
  · exact absurd (show leaV v h b = -1 by show lea _ _ _ _ _ _ _ = -1; rw [lea, if_pos h2.symm]) hl
theorem nxr_fc {fc ht : Nat → Int} {hand : Int} : ∀ {n : Nat}, nxr fc ht hand n ≠ -1 → fc (nxr fc ht hand n).toNat ≠ -1
  | 0, h => absurd rfl h
  | n + 1, h => by
    rw [nxr] at h ⊢
    split
    · next hc => exact hc.1.1
    · next hc => rw [if_neg hc] at h; exact nxr_fc h
theorem nxs_fc {fc ht : Nat → Int} {hand : Int} : ∀ {n : Nat}, nxs fc ht hand n ≠ -1 → hand < fc (nxs fc ht hand n).toNat
  | 0, h => absurd rfl h
  | n + 1, h => by
    rw [nxs] at h ⊢
    by_cases hc : (if nxs fc ht hand n = -1 then hand else fc (nxs fc ht hand n).toNat) < fc n ∧ 0 < ht n
    · rw [if_pos hc]
      by_cases h0 : nxs fc ht hand n = -1
      · have h1 := hc.1; rw [if_pos h0] at h1; exact h1
      · have h1 := hc.1; rw [if_neg h0] at h1; exact Int.lt_trans (nxs_fc h0) h1
    · rw [if_neg hc] at h ⊢
      exact nxs_fc h
theorem mn_rng (up : Bool) (hand : Int) (v : Nat → Int) : -1 ≤ mnV up hand v ∧ mnV up hand v < 4 := by
  cases up
  · exact nxs_rng ..
  · exact nxr_rng ..
theorem mn_pos {up : Bool} {hand : Int} {v : Nat → Int} (hh : 0 ≤ hand) (h : mnV up hand v ≠ -1) : (0 ≤ mnV up hand v ∧ mnV up hand v < 4) ∧ 0 < strV v (mnV up hand v) := by
  have h1 := mn_rng up hand v
  refine ⟨⟨by omega, h1.2⟩, ?_⟩
  cases up
  · have h2 : hand < frcV v false (mnV false hand v).toNat := nxs_fc h
    have h3 : leaV v false (((mnV false hand v).toNat : Nat) : Int) ≠ -1 := fun h4 => by have : frcV v false (mnV false hand v).toNat = -1 := h4; omega
    have h5 := lea_st h3
    rwa [Int.toNat_of_nonneg (by omega)] at h5
  · have h2 : frcV v true (mnV true hand v).toNat ≠ -1 := nxr_fc h
    have h5 := lea_st (v := v) (h := true) (b := (((mnV true hand v).toNat : Nat) : Int)) h2
    rwa [Int.toNat_of_nonneg (by omega)] at h5
def mk1 (v : Nat → Int) (b way : Int) : Nat → Int := va_up v (13 + b.toNat) (v (13 + b.toNat) + way)
def mk2 (v : Nat → Int) (b way : Int) : Nat → Int := va_up (mk1 v b way) 8 (mk1 v b way 8 + mk1 v b way (9 + b.toNat) * way)
def mkd (v : Nat → Int) (b way : Int) : Nat → Int := va_up v (13 + b.toNat) (v (13 + b.toNat) - way)
def mkV : Bool → (Nat → Int) → Int → Int → Nat → Int
  | true, v, b, way => entV true (mk2 v b way) b way (strV v b * way)
  | false, v, b, way => entV false (mkd v b way) b (-way) (-strV v b * way)
noncomputable def mvV (up : Bool) (hand : Int) : Nat → (Nat → Int) → Int → (Nat → Int) × Int
  | 0, v, left => (v, left)
  | n + 1, v, left => if mwy (kV v) (mnV up hand v) left up ≤ 0 then (v, left) else mvV up hand n (mkV up v (mnV up hand v) (mwy (kV v) (mnV up hand v) left up)) (left - strV v (mnV up hand v) * mwy (kV v) (mnV up hand v) left up)
theorem ent_lo {up : Bool} {v : Nat → Int} {b way rope : Int} {j : Nat} (hj : j < 27) (h4 : j ≠ 4) (h5 : j ≠ 5) (h6 : j ≠ 6) : entV up v b way rope j = v j := by
  have h7 : j ≠ (if up = true then 4 else 5) := by cases up; exact h5; exact h4
  simp only [entV, en1, va_up, shE]
  rw [if_neg h7, if_neg h6, if_neg (by omega), if_neg (by omega), if_neg (by omega), if_neg (by omega)]
theorem ent_6 {up : Bool} {v : Nat → Int} {b way rope : Int} : entV up v b way rope 6 = v 6 + if v 6 < 16 then 1 else 0 := by
  have h7 : 6 ≠ (if up = true then 4 else 5) := by cases up <;> decide
  simp only [entV, va_up]
  rw [if_neg h7, if_pos trivial]
theorem mk2_o {v : Nat → Int} {b way : Int} {j : Nat} (h8 : j ≠ 8) (hb : j ≠ 13 + b.toNat) : mk2 v b way j = v j := by
  simp only [mk2, mk1, va_up]
  rw [if_neg h8, if_neg hb]
theorem mk2_b {v : Nat → Int} {b way : Int} : mk2 v b way (13 + b.toNat) = v (13 + b.toNat) + way := by
  simp only [mk2, mk1, va_up]
  rw [if_neg (by omega), if_pos trivial]
theorem mkd_o {v : Nat → Int} {b way : Int} {j : Nat} (hb : j ≠ 13 + b.toNat) : mkd v b way j = v j := by
  simp only [mkd, va_up]
  rw [if_neg hb]
theorem mkd_b {v : Nat → Int} {b way : Int} : mkd v b way (13 + b.toNat) = v (13 + b.toNat) - way := by
  simp only [mkd, va_up]
  rw [if_pos trivial]
theorem mkV_o {up : Bool} {v : Nat → Int} {b way : Int} {j : Nat} (hj : j < 27) (h4 : j ≠ 4) (h5 : j ≠ 5) (h6 : j ≠ 6) (h8 : j ≠ 8) (hb : j ≠ 13 + b.toNat) : mkV up v b way j = v j := by
  cases up
  · show entV false (mkd v b way) b (-way) (-strV v b * way) j = _
    rw [ent_lo hj h4 h5 h6, mkd_o hb]
  · show entV true (mk2 v b way) b way (strV v b * way) j = _
    rw [ent_lo hj h4 h5 h6, mk2_o h8 hb]
theorem mkV_6 {up : Bool} {v : Nat → Int} {b way : Int} : mkV up v b way 6 = v 6 + if v 6 < 16 then 1 else 0 := by
  cases up
  · show entV false (mkd v b way) b (-way) (-strV v b * way) 6 = _
    rw [ent_6, mkd_o (by omega)]
  · show entV true (mk2 v b way) b way (strV v b * way) 6 = _
    rw [ent_6, mk2_o (by decide) (by omega)]
theorem mkV_h {up : Bool} {v : Nat → Int} {b way : Int} (hb : 0 ≤ b ∧ b < 4) {c : Nat} (hc : c < 4) : vH (mkV up v b way) c = if c = b.toNat then (if up then vH v c + way else vH v c - way) else vH v c := by
  by_cases h : c = b.toNat
  · rw [if_pos h, h]
    cases up
    · show entV false (mkd v b way) b (-way) (-strV v b * way) (13 + b.toNat) = v (13 + b.toNat) - way
      rw [ent_lo (by omega) (by omega) (by omega) (by omega), mkd_b]
    · show entV true (mk2 v b way) b way (strV v b * way) (13 + b.toNat) = v (13 + b.toNat) + way
      rw [ent_lo (by omega) (by omega) (by omega) (by omega), mk2_b]
  · rw [if_neg h]
    exact mkV_o (by omega) (by omega) (by omega) (by omega) (by omega) (by omega)
/-- the same reeving, weights, friction -/
def SmR (v w : Nat → Int) : Prop := w 0 = v 0 ∧ w 1 = v 1 ∧ w 2 = v 2 ∧ w 3 = v 3 ∧ (∀ i : Nat, (i : Int) < v 2 → vR w i = vR v i) ∧ ∀ b : Nat, b < 4 → vW w b = vW v b
theorem SmR_st {v w : Nat → Int} (h : SmR v w) (b : Int) : strV w b = strV v b := by
  show strn (vR w) (w 2).toNat (w 3) b = strn (vR v) (v 2).toNat (v 3) b
  rw [h.2.2.1, h.2.2.2.1]
  exact strn_congr fun i hi => h.2.2.2.2.1 i (by omega)
theorem SmR_lea {v w : Nat → Int} (h : SmR v w) (hd : Bool) {b : Int} (hb : 0 ≤ b ∧ b < 4) : leaV w hd b = leaV v hd b := by
  show lea (vR w) (w 1) hd (w 2).toNat (w 3) b (vW w b.toNat) = lea (vR v) (v 1) hd (v 2).toNat (v 3) b (vW v b.toNat)
  rw [h.2.1, h.2.2.1, h.2.2.2.1, h.2.2.2.2.2 b.toNat (by omega)]
  exact lea_congr fun i hi => h.2.2.2.2.1 i (by omega)
theorem SmR_mkV {up : Bool} {v : Nat → Int} (hm : MOK v) {b way : Int} (hb : 0 ≤ b ∧ b < 4) : SmR v (mkV up v b way) := by
  have h1 := hm.1
  refine ⟨mkV_o (by decide) (by decide) (by decide) (by decide) (by decide) (by omega), mkV_o (by decide) (by decide) (by decide) (by decide) (by decide) (by omega), mkV_o (by decide) (by decide) (by decide) (by decide) (by decide) (by omega), mkV_o (by decide) (by decide) (by decide) (by decide) (by decide) (by omega), fun i hi => ?_, fun c hc => ?_⟩
  · exact mkV_o (by omega) (by omega) (by omega) (by omega) (by omega) (by omega)
  · exact mkV_o (by omega) (by omega) (by omega) (by omega) (by omega) (by omega)
theorem SmR_ok {v w : Nat → Int} (h : SmR v w) (hm : MOK v) (hh : ∀ b : Nat, b < 4 → 0 ≤ vH w b ∧ vH w b ≤ 9000) (h6 : 0 ≤ w 6 ∧ w 6 ≤ 16) : MOK w := by
  obtain ⟨a0, a1, a2, a3, a4, a5⟩ := h
  obtain ⟨h1, h2, h3, h4, h5, h7, h8, h9⟩ := hm
  refine ⟨by omega, by omega, by omega, fun i hi => ?_, fun b hb => ?_, hh, by omega, h6⟩
  · rw [a4 i (by omega)]; exact h4 i (by omega)
  · rw [a5 b hb]; exact h5 b hb
theorem MOK_mkV {up : Bool} {v : Nat → Int} (hm : MOK v) {b left : Int} (hp : 0 < mwy (kV v) b left up) : MOK (mkV up v b (mwy (kV v) b left up)) := by
  obtain ⟨hb, hs, hr, hl⟩ := mwy_pos hp
  refine SmR_ok (SmR_mkV hm hb) hm (fun c hc => ?_) ?_
  · have h5 := hm.2.2.2.2.2.1 c hc
    rw [mkV_h hb hc]
    split
    · next he =>
      subst he
      cases up
      · have h6 : 0 ≤ vH v b.toNat - mwy (kV v) b left false := hl
        show 0 ≤ vH v b.toNat - mwy (kV v) b left false ∧ vH v b.toNat - mwy (kV v) b left false ≤ 9000
        omega
      · have h6 : vH v b.toNat + mwy (kV v) b left true ≤ 9000 := hl
        show 0 ≤ vH v b.toNat + mwy (kV v) b left true ∧ vH v b.toNat + mwy (kV v) b left true ≤ 9000
        omega
    · exact h5
  · have h6 := hm.2.2.2.2.2.2.2
    rw [mkV_6]
    split <;> omega
theorem SmR_mk2 {v : Nat → Int} (hm : MOK v) {b way : Int} (hb : 0 ≤ b ∧ b < 4) : SmR v (mk2 v b way) := by
  have h1 := hm.1
  exact ⟨mk2_o (by decide) (by omega), mk2_o (by decide) (by omega), mk2_o (by decide) (by omega), mk2_o (by decide) (by omega), fun i hi => mk2_o (by omega) (by omega), fun c hc => mk2_o (by omega) (by omega)⟩
theorem SmR_mkd {v : Nat → Int} (hm : MOK v) {b way : Int} (hb : 0 ≤ b ∧ b < 4) : SmR v (mkd v b way) := by
  have h1 := hm.1
  exact ⟨mkd_o (by omega), mkd_o (by omega), mkd_o (by omega), mkd_o (by omega), fun i hi => mkd_o (by omega), fun c hc => mkd_o (by omega)⟩
theorem MOK_mk2 {v : Nat → Int} (hm : MOK v) {b left : Int} (hp : 0 < mwy (kV v) b left true) : MOK (mk2 v b (mwy (kV v) b left true)) := by
  obtain ⟨hb, hs, hr, hl⟩ := mwy_pos hp
  have h6 : vH v b.toNat + mwy (kV v) b left true ≤ 9000 := hl
  refine SmR_ok (SmR_mk2 hm hb) hm (fun c hc => ?_) (by rw [mk2_o (by decide) (by omega)]; exact hm.2.2.2.2.2.2.2)
  have h5 := hm.2.2.2.2.2.1 c hc
  by_cases he : c = b.toNat
  · subst he
    show 0 ≤ mk2 v b _ (13 + b.toNat) ∧ mk2 v b _ (13 + b.toNat) ≤ 9000
    rw [mk2_b]
    exact ⟨by have : vH v b.toNat = v (13 + b.toNat) := rfl; omega, h6⟩
  · show 0 ≤ mk2 v b _ (13 + c) ∧ mk2 v b _ (13 + c) ≤ 9000
    rw [mk2_o (by omega) (by omega)]
    exact h5
theorem MOK_mkd {v : Nat → Int} (hm : MOK v) {b left : Int} (hp : 0 < mwy (kV v) b left false) : MOK (mkd v b (mwy (kV v) b left false)) := by
  obtain ⟨hb, hs, hr, hl⟩ := mwy_pos hp
  have h6 : 0 ≤ vH v b.toNat - mwy (kV v) b left false := hl
  refine SmR_ok (SmR_mkd hm hb) hm (fun c hc => ?_) (by rw [mkd_o (by omega)]; exact hm.2.2.2.2.2.2.2)
  have h5 := hm.2.2.2.2.2.1 c hc
  by_cases he : c = b.toNat
  · subst he
    show 0 ≤ mkd v b _ (13 + b.toNat) ∧ mkd v b _ (13 + b.toNat) ≤ 9000
    rw [mkd_b]
    exact ⟨h6, by have : vH v b.toNat = v (13 + b.toNat) := rfl; omega⟩
  · show 0 ≤ mkd v b _ (13 + c) ∧ mkd v b _ (13 + c) ≤ 9000
    rw [mkd_o (by omega)]
    exact h5
theorem mwyV_rng {v : Nat → Int} (hm : MOK v) {b left : Int} {up : Bool} (hl : 0 ≤ left) (hp : 0 < mwy (kV v) b left up) : mwy (kV v) b left up ≤ 9000 ∧ 0 < strV v b * mwy (kV v) b left up ∧ strV v b * mwy (kV v) b left up ≤ left := by
  have h1 := mwy_rng (SOK_kV hm) (b := b) (up := up) hl
  have h2 := (mwy_pos hp).2.2.1
  rw [Int.mul_comm]
  exact ⟨h1.2.1, h2, h1.2.2⟩
theorem lm_hauls {p : Program} {l : Launch} {e : Env} {s : State} {m : MethodId} {args : Array Value} {below : List Frame} {meth : Method} {c : Code} {g : Gh} {A : Nat → Prop} {Q : State → Prop} (C : Cx p g s m args c cX5_hauls 6 RX5 A) {u : Nat → Nat} {sv ln th ap rm rd nw hh : Int} {hand most : Int} (hhand : 0 ≤ hand ∧ hand ≤ 1000000) (hmost : 0 ≤ most ∧ most ≤ 300000) (fin : (Nat → Int) × Int) (kk : J p l e ({ frames := 4, cells := 0, slots := 0, locals := 106 } : Room) s m args below meth c g A 6 169 [(0, .ref (u 0)), (1, .int (iI hand)), (2, .int (iI most)), (3, .int (iI fin.2))] [] [(u 0, .inr (5, [.ref (u 1), .ref (u 2), .ref (u 3), .int (iI sv), .ref (u 4), .int (iI ln), .int (iI th), .int (iI ap), .int (iI rm), .ref (u 5), .int (iI rd), .int (iI nw), .ref (u 6), .long (lI hh)])), (u 1, aL g 75 fin.1)] 0 0 Q) (hend : mwy (kV fin.1) (mnV true hand fin.1) fin.2 true ≤ 0) : ∀ (n : Nat) (v : Nat → Int) (left b way : Int), MOK v → (0 ≤ left ∧ left ≤ most) → b = mnV true hand v → way = mwy (kV v) b left true → mvV true hand n v left = fin → J p l e ({ frames := 4, cells := 0, slots := 0, locals := 106 } : Room) s m args below meth c g A 6 47 [(0, .ref (u 0)), (1, .int (iI hand)), (2, .int (iI most)), (3, .int (iI left)), (4, .int (iI b)), (5, .int (iI way))] [] [(u 0, .inr (5, [.ref (u 1), .ref (u 2), .ref (u 3), .int (iI sv), .ref (u 4), .int (iI ln), .int (iI th), .int (iI ap), .int (iI rm), .ref (u 5), .int (iI rd), .int (iI nw), .ref (u 6), .long (lI hh)])), (u 1, aL g 75 v)] 0 0 Q := by
  intro n
  induction n with
  | zero =>
    intro v left b way hm hleft hbb hww hfin
    subst hfin
    have hend1 : way ≤ 0 := by rw [hww, hbb]; exact hend
    have hw0 := mwy_rng (SOK_kV hm) (b := b) (up := true) hleft.1
    rw [← hww] at hw0
    refine j_iload C 5 dX5_hauls_47 rfl ?_
    refine j_if_le (tgt := 169) C (by omega) dX5_hauls_49 (by decide) (fun c49 => ?_) (fun c49 => absurd c49 (by omega))
    refine J.sub (L1 := [(0, .ref (u 0)), (1, .int (iI hand)), (2, .int (iI most)), (3, .int (iI left))]) [0, 1, 2, 3] rfl ?_
    exact kk
  | succ n ih =>
    intro v left b way hm hleft hbb hww hfin
    have hw0 := mwy_rng (SOK_kV hm) (b := b) (up := true) hleft.1
    rw [← hww] at hw0
    rw [mvV, ← hbb, ← hww] at hfin
    refine j_iload C 5 dX5_hauls_47 rfl ?_
    refine j_if_le (tgt := 169) C (by omega) dX5_hauls_49 (by decide) (fun c49 => ?_) (fun c49 => ?_)
    · rw [if_pos c49] at hfin
      subst hfin
      refine J.sub (L1 := [(0, .ref (u 0)), (1, .int (iI hand)), (2, .int (iI most)), (3, .int (iI left))]) [0, 1, 2, 3] rfl ?_
      exact kk
    · rw [if_neg (by omega)] at hfin
      have hp9 : 0 < mwy (kV v) b left true := by rw [← hww]; exact c49
      obtain ⟨hb4, hs9, -, -⟩ := mwy_pos hp9
      have hy9 := mwyV_rng hm hleft.1 hp9
      rw [← hww] at hy9
      have ht9 := hm.2.2.2.2.2.1 b.toNat (by omega)
      have hv9 : v (13 + b.toNat) = vH v b.toNat := rfl
      have hz2 : MOK (mk2 v b way) := by rw [hww]; exact MOK_mk2 hm hp9
      have hm1 : MOK (mkV true v b way) := by rw [hww]; exact MOK_mkV hm hp9
      have hst2 : strV (mk2 v b way) b = strV v b := SmR_st (SmR_mk2 hm hb4) b
      have hsr := strV_rng hm b
      have hngm : -strV v b * way = -(strV v b * way) := Int.neg_mul _ _
      refine j_aload_n C 0 dX5_hauls_52 rfl rfl ?_
      refine j_get C ck5 0 0 (by decide) qw662 rfl rfl dX5_hauls_53 ?_
      refine j_bipush C dX5_hauls_56 (by decide) ?_
      refine j_iload C 4 dX5_hauls_58 rfl ?_
      refine j_iadd C dX5_hauls_60 ?_
      refine j_dup2 C dX5_hauls_61 rfl rfl ?_
      refine j_lald (n := 75) (f := v) C 1 (13 + b.toNat) rfl (by omega) (by omega) (by decide) dX5_hauls_62 ?_
      refine j_iload C 5 dX5_hauls_63 rfl ?_
      refine j_i2l C (by omega) dX5_hauls_65 ?_
      refine j_ladd C dX5_hauls_66 ?_
      refine j_last (n := 75) (f := v) (ws1 := [(u 0, .inr (5, [.ref (u 1), .ref (u 2), .ref (u 3), .int (iI sv), .ref (u 4), .int (iI ln), .int (iI th), .int (iI ap), .int (iI rm), .ref (u 5), .int (iI rd), .int (iI nw), .ref (u 6), .long (lI hh)])), (u 1, aL g 75 (va_up v (13 + b.toNat) ((v (13 + b.toNat)) + way)))]) C 1 (13 + b.toNat) rfl (by omega) (by omega) (by decide) dX5_hauls_67 rfl ?_
      refine J.world (ws1 := [(u 0, .inr (5, [.ref (u 1), .ref (u 2), .ref (u 3), .int (iI sv), .ref (u 4), .int (iI ln), .int (iI th), .int (iI ap), .int (iI rm), .ref (u 5), .int (iI rd), .int (iI nw), .ref (u 6), .long (lI hh)])), (u 1, aL g 75 (mk1 v b way))]) rfl ?_
      refine j_aload_n C 0 dX5_hauls_68 rfl rfl ?_
      refine j_get C ck5 0 0 (by decide) qw662 rfl rfl dX5_hauls_69 ?_
      refine j_bipush C dX5_hauls_72 (by decide) ?_
      refine j_dup2 C dX5_hauls_74 rfl rfl ?_
      refine j_lald (n := 75) (f := mk1 v b way) C 1 8 rfl rfl (by decide) (by decide) dX5_hauls_75 ?_
      refine j_aload_n C 0 dX5_hauls_76 rfl rfl ?_
      refine j_get C ck5 0 0 (by decide) qw662 rfl rfl dX5_hauls_77 ?_
      refine j_bipush C dX5_hauls_80 (by decide) ?_
      refine j_iload C 4 dX5_hauls_82 rfl ?_
      refine j_iadd C dX5_hauls_84 ?_
      refine j_lald (n := 75) (f := mk1 v b way) C 1 (9 + b.toNat) rfl (by omega) (by omega) (by decide) dX5_hauls_85 ?_
      refine j_iload C 5 dX5_hauls_86 rfl ?_
      refine j_i2l C (by omega) dX5_hauls_88 ?_
      refine j_lmul C dX5_hauls_89 ?_
      refine j_ladd C dX5_hauls_90 ?_
      refine j_last (n := 75) (f := mk1 v b way) (ws1 := [(u 0, .inr (5, [.ref (u 1), .ref (u 2), .ref (u 3), .int (iI sv), .ref (u 4), .int (iI ln), .int (iI th), .int (iI ap), .int (iI rm), .ref (u 5), .int (iI rd), .int (iI nw), .ref (u 6), .long (lI hh)])), (u 1, aL g 75 (va_up (mk1 v b way) 8 (((mk1 v b way) 8) + (((mk1 v b way) (9 + b.toNat)) * way))))]) C 1 8 rfl rfl (by decide) (by decide) dX5_hauls_91 rfl ?_
      refine J.world (ws1 := [(u 0, .inr (5, [.ref (u 1), .ref (u 2), .ref (u 3), .int (iI sv), .ref (u 4), .int (iI ln), .int (iI th), .int (iI ap), .int (iI rm), .ref (u 5), .int (iI rd), .int (iI nw), .ref (u 6), .long (lI hh)])), (u 1, aL g 75 (mk2 v b way))]) rfl ?_
      refine j_iload_n C 3 dX5_hauls_92 rfl rfl ?_
      refine j_aload_n C 0 dX5_hauls_93 rfl rfl ?_
      refine j_iload C 4 dX5_hauls_94 rfl ?_
      refine j_callV (As := [.int (iI b)]) (rest := [.int (iI left)]) C yv_X5_strands qw752 (c_X5_strands l g u (mk2 v b way) sv ln th ap rm rd nw hh b hz2 (by omega)) (by decide) 0 rfl rfl rfl dX5_hauls_96 rfl (Nat.le_of_ble_eq_true rfl) (by decide) pf0 rfl (fun r9 w9 hq9 => ?_)
      obtain ⟨rfl, rfl⟩ := hq9
      refine J.to (L1 := [(0, .ref (u 0)), (1, .int (iI hand)), (2, .int (iI most)), (3, .int (iI left)), (4, .int (iI b)), (5, .int (iI way))]) (S1 := [.int (iI (strV (mk2 v b way) b)), .int (iI left)]) (ws1 := [(u 0, .inr (5, [.ref (u 1), .ref (u 2), .ref (u 3), .int (iI sv), .ref (u 4), .int (iI ln), .int (iI th), .int (iI ap), .int (iI rm), .ref (u 5), .int (iI rd), .int (iI nw), .ref (u 6), .long (lI hh)])), (u 1, aL g 75 (mk2 v b way))]) rfl rfl rfl ?_
      refine J.to (L1 := [(0, .ref (u 0)), (1, .int (iI hand)), (2, .int (iI most)), (3, .int (iI left)), (4, .int (iI b)), (5, .int (iI way))]) (S1 := [.int (iI (strV v b)), .int (iI left)]) (ws1 := [(u 0, .inr (5, [.ref (u 1), .ref (u 2), .ref (u 3), .int (iI sv), .ref (u 4), .int (iI ln), .int (iI th), .int (iI ap), .int (iI rm), .ref (u 5), .int (iI rd), .int (iI nw), .ref (u 6), .long (lI hh)])), (u 1, aL g 75 (mk2 v b way))]) rfl rfl (by rw [show ((strV (mk2 v b way) b : Int)) = strV v b from hst2]) ?_
      refine j_iload C 5 dX5_hauls_99 rfl ?_
      refine j_imul C dX5_hauls_101 ?_
      refine j_isub C dX5_hauls_102 ?_
      refine j_istore_n (L1 := [(3, .int (iI (left - ((strV v b) * way)))), (0, .ref (u 0)), (1, .int (iI hand)), (2, .int (iI most)), (4, .int (iI b)), (5, .int (iI way))]) C dX5_hauls_103 rfl (by decide) rfl ?_
      refine j_aload_n C 1 dX5_hauls_104 rfl rfl ?_
      refine j_iload C 4 dX5_hauls_105 rfl ?_
      refine j_iload C 5 dX5_hauls_107 rfl ?_
      refine j_aload_n C 1 dX5_hauls_109 rfl rfl ?_
      refine j_iload C 4 dX5_hauls_110 rfl ?_
      refine j_callV (As := [.int (iI b)]) (rest := [.int (iI way), .int (iI b), .ref (u 0)]) C yv_X5_strands qw752 (c_X5_strands l g u (mk2 v b way) sv ln th ap rm rd nw hh b hz2 (by omega)) (by decide) 0 rfl rfl rfl dX5_hauls_112 rfl (Nat.le_of_ble_eq_true rfl) (by decide) pf0 rfl (fun r9 w9 hq9 => ?_)
      obtain ⟨rfl, rfl⟩ := hq9
      refine J.to (L1 := [(3, .int (iI (left - ((strV v b) * way)))), (0, .ref (u 0)), (1, .int (iI hand)), (2, .int (iI most)), (4, .int (iI b)), (5, .int (iI way))]) (S1 := [.int (iI (strV (mk2 v b way) b)), .int (iI way), .int (iI b), .ref (u 0)]) (ws1 := [(u 0, .inr (5, [.ref (u 1), .ref (u 2), .ref (u 3), .int (iI sv), .ref (u 4), .int (iI ln), .int (iI th), .int (iI ap), .int (iI rm), .ref (u 5), .int (iI rd), .int (iI nw), .ref (u 6), .long (lI hh)])), (u 1, aL g 75 (mk2 v b way))]) rfl rfl rfl ?_
      refine J.to (L1 := [(3, .int (iI (left - ((strV v b) * way)))), (0, .ref (u 0)), (1, .int (iI hand)), (2, .int (iI most)), (4, .int (iI b)), (5, .int (iI way))]) (S1 := [.int (iI (strV v b)), .int (iI way), .int (iI b), .ref (u 0)]) (ws1 := [(u 0, .inr (5, [.ref (u 1), .ref (u 2), .ref (u 3), .int (iI sv), .ref (u 4), .int (iI ln), .int (iI th), .int (iI ap), .int (iI rm), .ref (u 5), .int (iI rd), .int (iI nw), .ref (u 6), .long (lI hh)])), (u 1, aL g 75 (mk2 v b way))]) rfl rfl (by rw [show ((strV (mk2 v b way) b : Int)) = strV v b from hst2]) ?_
      refine j_iload C 5 dX5_hauls_115 rfl ?_
      refine j_imul C dX5_hauls_117 ?_
      refine j_callV (As := [.int (iI b), .int (iI way), .int (iI ((strV v b) * way))]) (rest := []) C yv_X5_enters qw818 (c_X5_enters_up l g u (mk2 v b way) sv ln th ap rm rd nw hh b way ((strV v b) * way) hz2 (by omega) (by omega) (by omega)) (by decide) 0 rfl rfl rfl dX5_hauls_118 rfl (Nat.le_of_ble_eq_true rfl) (by decide) pf0 rfl (fun r9 w9 hq9 => ?_)
      obtain ⟨rfl, rfl⟩ := hq9
      refine J.to (L1 := [(3, .int (iI (left - ((strV v b) * way)))), (0, .ref (u 0)), (1, .int (iI hand)), (2, .int (iI most)), (4, .int (iI b)), (5, .int (iI way))]) (S1 := []) (ws1 := [(u 0, .inr (5, [.ref (u 1), .ref (u 2), .ref (u 3), .int (iI sv), .ref (u 4), .int (iI ln), .int (iI th), .int (iI ap), .int (iI rm), .ref (u 5), .int (iI rd), .int (iI nw), .ref (u 6), .long (lI hh)])), (u 1, aL g 75 (entV true (mk2 v b way) b way ((strV v b) * way)))]) rfl rfl rfl ?_
      refine J.world (ws1 := [(u 0, .inr (5, [.ref (u 1), .ref (u 2), .ref (u 3), .int (iI sv), .ref (u 4), .int (iI ln), .int (iI th), .int (iI ap), .int (iI rm), .ref (u 5), .int (iI rd), .int (iI nw), .ref (u 6), .long (lI hh)])), (u 1, aL g 75 (mkV true v b way))]) rfl ?_
      generalize mkV true v b way = v1 at hm1 hfin ⊢
      refine j_aload_n C 1 dX5_hauls_121 rfl rfl ?_
      refine j_iload_n C 2 dX5_hauls_122 rfl rfl ?_
      refine j_callV (As := [.int (iI hand)]) (rest := []) C yv_X5_riser qw795 (c_X5_riser l g u v1 sv ln th ap rm rd nw hh hand hm1 (by omega)) (by decide) 0 rfl rfl rfl dX5_hauls_123 rfl (Nat.le_of_ble_eq_true rfl) (by decide) pf0 rfl (fun r9 w9 hq9 => ?_)
      obtain ⟨rfl, rfl⟩ := hq9
      refine J.to (L1 := [(3, .int (iI (left - ((strV v b) * way)))), (0, .ref (u 0)), (1, .int (iI hand)), (2, .int (iI most)), (4, .int (iI b)), (5, .int (iI way))]) (S1 := [.int (iI (mnV true hand v1))]) (ws1 := [(u 0, .inr (5, [.ref (u 1), .ref (u 2), .ref (u 3), .int (iI sv), .ref (u 4), .int (iI ln), .int (iI th), .int (iI ap), .int (iI rm), .ref (u 5), .int (iI rd), .int (iI nw), .ref (u 6), .long (lI hh)])), (u 1, aL g 75 v1)]) rfl rfl rfl ?_
      generalize hb1 : mnV true hand v1 = b1
      have hbr := mn_rng true hand v1
      rw [hb1] at hbr
      refine j_istore (L1 := [(4, .int (iI b1)), (3, .int (iI (left - ((strV v b) * way)))), (0, .ref (u 0)), (1, .int (iI hand)), (2, .int (iI most)), (5, .int (iI way))]) C dX5_hauls_126 (by decide) rfl ?_
      refine j_iload C 0 dX5_hauls_128 rfl ?_
      refine j_iconst C dX5_hauls_130 ?_
      refine j_icmp_ne (tgt := 138) C (by omega) (by decide) dX5_hauls_131 (by decide) (fun c131 => ?_) (fun c131 => ?_)
      · have hs1 := mn_pos (up := true) (v := v1) hhand.1 (by rw [hb1]; exact c131)
        rw [hb1] at hs1
        have hsr1 := strV_rng hm1 b1
        have ht1 := hm1.2.2.2.2.2.1 b1.toNat (by omega)
        have hv1 : v1 (13 + b1.toNat) = vH v1 b1.toNat := rfl
        have hd1 := div_rng (a := left - strV v b * way) (b := strV v1 b1) (by omega) hs1.2
        refine j_iload_n C 1 dX5_hauls_138 rfl rfl ?_
        refine j_aload_n C 2 dX5_hauls_139 rfl rfl ?_
        refine j_iload C 0 dX5_hauls_140 rfl ?_
        refine j_callV (As := [.int (iI b1)]) (rest := [.int (iI (left - ((strV v b) * way)))]) C yv_X5_strands qw752 (c_X5_strands l g u v1 sv ln th ap rm rd nw hh b1 hm1 (by omega)) (by decide) 0 rfl rfl rfl dX5_hauls_142 rfl (Nat.le_of_ble_eq_true rfl) (by decide) pf0 rfl (fun r9 w9 hq9 => ?_)
        obtain ⟨rfl, rfl⟩ := hq9
        refine J.to (L1 := [(4, .int (iI b1)), (3, .int (iI (left - ((strV v b) * way)))), (0, .ref (u 0)), (1, .int (iI hand)), (2, .int (iI most)), (5, .int (iI way))]) (S1 := [.int (iI (strV v1 b1)), .int (iI (left - ((strV v b) * way)))]) (ws1 := [(u 0, .inr (5, [.ref (u 1), .ref (u 2), .ref (u 3), .int (iI sv), .ref (u 4), .int (iI ln), .int (iI th), .int (iI ap), .int (iI rm), .ref (u 5), .int (iI rd), .int (iI nw), .ref (u 6), .long (lI hh)])), (u 1, aL g 75 v1)]) rfl rfl rfl ?_
        refine j_idiv C (by omega) (by omega) dX5_hauls_145 ?_
        refine j_i2l C (by omega) dX5_hauls_146 ?_
        refine j_ldc2 (x := 9000) C qw799 (by decide) dX5_hauls_147 ?_
        refine j_aload_n C 2 dX5_hauls_150 rfl rfl ?_
        refine j_get C ck5 0 0 (by decide) qw662 rfl rfl dX5_hauls_151 ?_
        refine j_bipush C dX5_hauls_154 (by decide) ?_
        refine j_iload C 0 dX5_hauls_156 rfl ?_
        refine j_iadd C dX5_hauls_158 ?_
        refine j_lald (n := 75) (f := v1) C 1 (13 + b1.toNat) rfl (by omega) (by omega) (by decide) dX5_hauls_159 ?_
        refine j_lsub C dX5_hauls_160 ?_
        refine j_callS (As := [.long (lI ((left - ((strV v b) * way)) / (strV v1 b1))), .long (lI (9000 - (v1 (13 + b1.toNat))))]) (rest := []) C ys_X5_lesser qw815 (c_X5_lesser l g ((left - ((strV v b) * way)) / (strV v1 b1)) (9000 - (v1 (13 + b1.toNat))) (by omega) (by omega)) (by decide) rfl dX5_hauls_161 rfl (Nat.le_of_ble_eq_true rfl) (by decide) (pf1 [] [(u 0, .inr (5, [.ref (u 1), .ref (u 2), .ref (u 3), .int (iI sv), .ref (u 4), .int (iI ln), .int (iI th), .int (iI ap), .int (iI rm), .ref (u 5), .int (iI rd), .int (iI nw), .ref (u 6), .long (lI hh)])), (u 1, aL g 75 v1)]) rfl (fun r9 w9 hq9 => ?_)
        obtain ⟨rfl, rfl⟩ := hq9
        refine J.to (L1 := [(4, .int (iI b1)), (3, .int (iI (left - ((strV v b) * way)))), (0, .ref (u 0)), (1, .int (iI hand)), (2, .int (iI most)), (5, .int (iI way))]) (S1 := [.int (iI (if (left - ((strV v b) * way)) / (strV v1 b1) < 9000 - (v1 (13 + b1.toNat)) then (left - ((strV v b) * way)) / (strV v1 b1) else 9000 - (v1 (13 + b1.toNat))))]) (ws1 := [(u 0, .inr (5, [.ref (u 1), .ref (u 2), .ref (u 3), .int (iI sv), .ref (u 4), .int (iI ln), .int (iI th), .int (iI ap), .int (iI rm), .ref (u 5), .int (iI rd), .int (iI nw), .ref (u 6), .long (lI hh)])), (u 1, aL g 75 v1)]) rfl rfl rfl ?_
        refine J.to (L1 := [(4, .int (iI b1)), (3, .int (iI (left - ((strV v b) * way)))), (0, .ref (u 0)), (1, .int (iI hand)), (2, .int (iI most)), (5, .int (iI way))]) (S1 := [.int (iI (mwy (kV v1) b1 (left - strV v b * way) true))]) (ws1 := [(u 0, .inr (5, [.ref (u 1), .ref (u 2), .ref (u 3), .int (iI sv), .ref (u 4), .int (iI ln), .int (iI th), .int (iI ap), .int (iI rm), .ref (u 5), .int (iI rd), .int (iI nw), .ref (u 6), .long (lI hh)])), (u 1, aL g 75 v1)]) rfl rfl (by rw [show ((if (left - ((strV v b) * way)) / (strV v1 b1) < 9000 - (v1 (13 + b1.toNat)) then (left - ((strV v b) * way)) / (strV v1 b1) else 9000 - (v1 (13 + b1.toNat)) : Int)) = mwy (kV v1) b1 (left - strV v b * way) true from (wayU hs1.1 hs1.2)]) ?_
        refine j_istore (L1 := [(5, .int (iI (mwy (kV v1) b1 (left - strV v b * way) true))), (4, .int (iI b1)), (3, .int (iI (left - ((strV v b) * way)))), (0, .ref (u 0)), (1, .int (iI hand)), (2, .int (iI most))]) C dX5_hauls_164 (by decide) rfl ?_
        refine j_goto (tgt := 47) C dX5_hauls_166 (by decide) ?_
        refine J.sub (L1 := [(0, .ref (u 0)), (1, .int (iI hand)), (2, .int (iI most)), (3, .int (iI (left - ((strV v b) * way)))), (4, .int (iI b1)), (5, .int (iI (mwy (kV v1) b1 (left - strV v b * way) true)))]) [3, 4, 5, 2, 1, 0] rfl ?_
        exact ih v1 (left - strV v b * way) b1 _ hm1 (by omega) hb1.symm rfl hfin
      · refine j_iconst C dX5_hauls_134 ?_
        refine j_goto (tgt := 164) C dX5_hauls_135 (by decide) ?_
        refine J.to (L1 := [(4, .int (iI b1)), (3, .int (iI (left - ((strV v b) * way)))), (0, .ref (u 0)), (1, .int (iI hand)), (2, .int (iI most)), (5, .int (iI way))]) (S1 := [.int (iI (mwy (kV v1) b1 (left - strV v b * way) true))]) (ws1 := [(u 0, .inr (5, [.ref (u 1), .ref (u 2), .ref (u 3), .int (iI sv), .ref (u 4), .int (iI ln), .int (iI th), .int (iI ap), .int (iI rm), .ref (u 5), .int (iI rd), .int (iI nw), .ref (u 6), .long (lI hh)])), (u 1, aL g 75 v1)]) rfl rfl (by rw [show ((0 : Int)) = mwy (kV v1) b1 (left - strV v b * way) true from (way0 (by omega))]) ?_
        refine j_istore (L1 := [(5, .int (iI (mwy (kV v1) b1 (left - strV v b * way) true))), (4, .int (iI b1)), (3, .int (iI (left - ((strV v b) * way)))), (0, .ref (u 0)), (1, .int (iI hand)), (2, .int (iI most))]) C dX5_hauls_164 (by decide) rfl ?_
        refine j_goto (tgt := 47) C dX5_hauls_166 (by decide) ?_
        refine J.sub (L1 := [(0, .ref (u 0)), (1, .int (iI hand)), (2, .int (iI most)), (3, .int (iI (left - ((strV v b) * way)))), (4, .int (iI b1)), (5, .int (iI (mwy (kV v1) b1 (left - strV v b * way) true)))]) [3, 4, 5, 2, 1, 0] rfl ?_
        exact ih v1 (left - strV v b * way) b1 _ hm1 (by omega) hb1.symm rfl hfin

theorem lm_letOut {p : Program} {l : Launch} {e : Env} {s : State} {m : MethodId} {args : Array Value} {below : List Frame} {meth : Method} {c : Code} {g : Gh} {A : Nat → Prop} {Q : State → Prop} (C : Cx p g s m args c cX5_letOut 7 RX5 A) {u : Nat → Nat} {pa : Nat → Int} {sv ln th ap rm rd nw hh : Int} {hand most : Int} (hhand : 0 ≤ hand ∧ hand ≤ 1000000) (hmost : 0 ≤ most ∧ most ≤ 300000) (fin : (Nat → Int) × Int) (kk : J p l e ({ frames := 4, cells := 0, slots := 0, locals := 105 } : Room) s m args below meth c g A 7 184 [(0, .ref (u 0)), (3, .int (iI most)), (4, .int (iI fin.2))] [] [(u 0, .inr (5, [.ref (u 1), .ref (u 2), .ref (u 3), .int (iI sv), .ref (u 4), .int (iI ln), .int (iI th), .int (iI ap), .int (iI rm), .ref (u 5), .int (iI rd), .int (iI nw), .ref (u 6), .long (lI hh)])), (u 1, aL g 75 fin.1), (u 2, aL g 300 pa)] 0 0 Q) (hend : mwy (kV fin.1) (mnV false hand fin.1) fin.2 false ≤ 0) : ∀ (n : Nat) (v : Nat → Int) (left b way : Int), MOK v → (0 ≤ left ∧ left ≤ most) → b = mnV false hand v → way = mwy (kV v) b left false → mvV false hand n v left = fin → J p l e ({ frames := 4, cells := 0, slots := 0, locals := 105 } : Room) s m args below meth c g A 7 85 [(0, .ref (u 0)), (1, .int (iI hand)), (3, .int (iI most)), (4, .int (iI left)), (5, .int (iI b)), (6, .int (iI way))] [] [(u 0, .inr (5, [.ref (u 1), .ref (u 2), .ref (u 3), .int (iI sv), .ref (u 4), .int (iI ln), .int (iI th), .int (iI ap), .int (iI rm), .ref (u 5), .int (iI rd), .int (iI nw), .ref (u 6), .long (lI hh)])), (u 1, aL g 75 v), (u 2, aL g 300 pa)] 0 0 Q := by
  intro n
  induction n with
  | zero =>
    intro v left b way hm hleft hbb hww hfin
    subst hfin
    have hend1 : way ≤ 0 := by rw [hww, hbb]; exact hend
    have hw0 := mwy_rng (SOK_kV hm) (b := b) (up := false) hleft.1
    rw [← hww] at hw0
    refine j_iload C 5 dX5_letOut_85 rfl ?_
    refine j_if_le (tgt := 184) C (by omega) dX5_letOut_87 (by decide) (fun c87 => ?_) (fun c87 => absurd c87 (by omega))
    refine J.sub (L1 := [(0, .ref (u 0)), (3, .int (iI most)), (4, .int (iI left))]) [0, 2, 3] rfl ?_
    exact kk
  | succ n ih =>
    intro v left b way hm hleft hbb hww hfin
    have hw0 := mwy_rng (SOK_kV hm) (b := b) (up := false) hleft.1
    rw [← hww] at hw0
    rw [mvV, ← hbb, ← hww] at hfin
    refine j_iload C 5 dX5_letOut_85 rfl ?_
    refine j_if_le (tgt := 184) C (by omega) dX5_letOut_87 (by decide) (fun c87 => ?_) (fun c87 => ?_)
    · rw [if_pos c87] at hfin
      subst hfin
      refine J.sub (L1 := [(0, .ref (u 0)), (3, .int (iI most)), (4, .int (iI left))]) [0, 2, 3] rfl ?_
      exact kk
    · rw [if_neg (by omega)] at hfin
      have hp9 : 0 < mwy (kV v) b left false := by rw [← hww]; exact c87
      obtain ⟨hb4, hs9, -, -⟩ := mwy_pos hp9
      have hy9 := mwyV_rng hm hleft.1 hp9
      rw [← hww] at hy9
      have ht9 := hm.2.2.2.2.2.1 b.toNat (by omega)
      have hv9 : v (13 + b.toNat) = vH v b.toNat := rfl
      have hz2 : MOK (mkd v b way) := by rw [hww]; exact MOK_mkd hm hp9
      have hm1 : MOK (mkV false v b way) := by rw [hww]; exact MOK_mkV hm hp9
      have hst2 : strV (mkd v b way) b = strV v b := SmR_st (SmR_mkd hm hb4) b
      have hsr := strV_rng hm b
      have hngm : -strV v b * way = -(strV v b * way) := Int.neg_mul _ _
      refine j_aload_n C 0 dX5_letOut_90 rfl rfl ?_
      refine j_get C ck5 0 0 (by decide) qw662 rfl rfl dX5_letOut_91 ?_
      refine j_bipush C dX5_letOut_94 (by decide) ?_
      refine j_iload C 4 dX5_letOut_96 rfl ?_
      refine j_iadd C dX5_letOut_98 ?_
      refine j_dup2 C dX5_letOut_99 rfl rfl ?_
      refine j_lald (n := 75) (f := v) C 1 (13 + b.toNat) rfl (by omega) (by omega) (by decide) dX5_letOut_100 ?_
      refine j_iload C 5 dX5_letOut_101 rfl ?_
      refine j_i2l C (by omega) dX5_letOut_103 ?_
      refine j_lsub C dX5_letOut_104 ?_
      refine j_last (n := 75) (f := v) (ws1 := [(u 0, .inr (5, [.ref (u 1), .ref (u 2), .ref (u 3), .int (iI sv), .ref (u 4), .int (iI ln), .int (iI th), .int (iI ap), .int (iI rm), .ref (u 5), .int (iI rd), .int (iI nw), .ref (u 6), .long (lI hh)])), (u 1, aL g 75 (va_up v (13 + b.toNat) ((v (13 + b.toNat)) - way))), (u 2, aL g 300 pa)]) C 1 (13 + b.toNat) rfl (by omega) (by omega) (by decide) dX5_letOut_105 rfl ?_
      refine J.world (ws1 := [(u 0, .inr (5, [.ref (u 1), .ref (u 2), .ref (u 3), .int (iI sv), .ref (u 4), .int (iI ln), .int (iI th), .int (iI ap), .int (iI rm), .ref (u 5), .int (iI rd), .int (iI nw), .ref (u 6), .long (lI hh)])), (u 1, aL g 75 (mkd v b way)), (u 2, aL g 300 pa)]) rfl ?_
      refine j_iload C 3 dX5_letOut_106 rfl ?_
      refine j_aload_n C 0 dX5_letOut_108 rfl rfl ?_
      refine j_iload C 4 dX5_letOut_109 rfl ?_
      refine j_callV (As := [.int (iI b)]) (rest := [.int (iI left)]) C yv_X5_strands qw752 (c_X5_strands l g u (mkd v b way) sv ln th ap rm rd nw hh b hz2 (by omega)) (by decide) 0 rfl rfl rfl dX5_letOut_111 rfl (Nat.le_of_ble_eq_true rfl) (by decide) (pf1 [] [(u 2, aL g 300 pa)]) rfl (fun r9 w9 hq9 => ?_)
      obtain ⟨rfl, rfl⟩ := hq9
      refine J.to (L1 := [(0, .ref (u 0)), (1, .int (iI hand)), (3, .int (iI most)), (4, .int (iI left)), (5, .int (iI b)), (6, .int (iI way))]) (S1 := [.int (iI (strV (mkd v b way) b)), .int (iI left)]) (ws1 := [(u 0, .inr (5, [.ref (u 1), .ref (u 2), .ref (u 3), .int (iI sv), .ref (u 4), .int (iI ln), .int (iI th), .int (iI ap), .int (iI rm), .ref (u 5), .int (iI rd), .int (iI nw), .ref (u 6), .long (lI hh)])), (u 1, aL g 75 (mkd v b way)), (u 2, aL g 300 pa)]) rfl rfl rfl ?_
      refine J.to (L1 := [(0, .ref (u 0)), (1, .int (iI hand)), (3, .int (iI most)), (4, .int (iI left)), (5, .int (iI b)), (6, .int (iI way))]) (S1 := [.int (iI (strV v b)), .int (iI left)]) (ws1 := [(u 0, .inr (5, [.ref (u 1), .ref (u 2), .ref (u 3), .int (iI sv), .ref (u 4), .int (iI ln), .int (iI th), .int (iI ap), .int (iI rm), .ref (u 5), .int (iI rd), .int (iI nw), .ref (u 6), .long (lI hh)])), (u 1, aL g 75 (mkd v b way)), (u 2, aL g 300 pa)]) rfl rfl (by rw [show ((strV (mkd v b way) b : Int)) = strV v b from hst2]) ?_
      refine j_iload C 5 dX5_letOut_114 rfl ?_
      refine j_imul C dX5_letOut_116 ?_
      refine j_isub C dX5_letOut_117 ?_
      refine j_istore (L1 := [(4, .int (iI (left - ((strV v b) * way)))), (0, .ref (u 0)), (1, .int (iI hand)), (3, .int (iI most)), (5, .int (iI b)), (6, .int (iI way))]) C dX5_letOut_118 (by decide) rfl ?_
      refine j_aload_n C 1 dX5_letOut_120 rfl rfl ?_
      refine j_iload C 4 dX5_letOut_121 rfl ?_
      refine j_iload C 5 dX5_letOut_123 rfl ?_
      refine j_ineg C dX5_letOut_125 ?_
      refine j_aload_n C 1 dX5_letOut_126 rfl rfl ?_
      refine j_iload C 4 dX5_letOut_127 rfl ?_
      refine j_callV (As := [.int (iI b)]) (rest := [.int (iI (-way)), .int (iI b), .ref (u 0)]) C yv_X5_strands qw752 (c_X5_strands l g u (mkd v b way) sv ln th ap rm rd nw hh b hz2 (by omega)) (by decide) 0 rfl rfl rfl dX5_letOut_129 rfl (Nat.le_of_ble_eq_true rfl) (by decide) (pf1 [] [(u 2, aL g 300 pa)]) rfl (fun r9 w9 hq9 => ?_)
      obtain ⟨rfl, rfl⟩ := hq9
      refine J.to (L1 := [(4, .int (iI (left - ((strV v b) * way)))), (0, .ref (u 0)), (1, .int (iI hand)), (3, .int (iI most)), (5, .int (iI b)), (6, .int (iI way))]) (S1 := [.int (iI (strV (mkd v b way) b)), .int (iI (-way)), .int (iI b), .ref (u 0)]) (ws1 := [(u 0, .inr (5, [.ref (u 1), .ref (u 2), .ref (u 3), .int (iI sv), .ref (u 4), .int (iI ln), .int (iI th), .int (iI ap), .int (iI rm), .ref (u 5), .int (iI rd), .int (iI nw), .ref (u 6), .long (lI hh)])), (u 1, aL g 75 (mkd v b way)), (u 2, aL g 300 pa)]) rfl rfl rfl ?_
      refine J.to (L1 := [(4, .int (iI (left - ((strV v b) * way)))), (0, .ref (u 0)), (1, .int (iI hand)), (3, .int (iI most)), (5, .int (iI b)), (6, .int (iI way))]) (S1 := [.int (iI (strV v b)), .int (iI (-way)), .int (iI b), .ref (u 0)]) (ws1 := [(u 0, .inr (5, [.ref (u 1), .ref (u 2), .ref (u 3), .int (iI sv), .ref (u 4), .int (iI ln), .int (iI th), .int (iI ap), .int (iI rm), .ref (u 5), .int (iI rd), .int (iI nw), .ref (u 6), .long (lI hh)])), (u 1, aL g 75 (mkd v b way)), (u 2, aL g 300 pa)]) rfl rfl (by rw [show ((strV (mkd v b way) b : Int)) = strV v b from hst2]) ?_
      refine j_ineg C dX5_letOut_132 ?_
      refine j_iload C 5 dX5_letOut_133 rfl ?_
      refine j_imul C dX5_letOut_135 ?_
      refine j_callV (As := [.int (iI b), .int (iI (-way)), .int (iI ((-(strV v b)) * way))]) (rest := []) C yv_X5_enters qw818 (c_X5_enters_dn l g u (mkd v b way) sv ln th ap rm rd nw hh b (-way) ((-(strV v b)) * way) hz2 (by omega) (by omega) (by omega)) (by decide) 0 rfl rfl rfl dX5_letOut_136 rfl (Nat.le_of_ble_eq_true rfl) (by decide) (pf1 [] [(u 2, aL g 300 pa)]) rfl (fun r9 w9 hq9 => ?_)
      obtain ⟨rfl, rfl⟩ := hq9
      refine J.to (L1 := [(4, .int (iI (left - ((strV v b) * way)))), (0, .ref (u 0)), (1, .int (iI hand)), (3, .int (iI most)), (5, .int (iI b)), (6, .int (iI way))]) (S1 := []) (ws1 := [(u 0, .inr (5, [.ref (u 1), .ref (u 2), .ref (u 3), .int (iI sv), .ref (u 4), .int (iI ln), .int (iI th), .int (iI ap), .int (iI rm), .ref (u 5), .int (iI rd), .int (iI nw), .ref (u 6), .long (lI hh)])), (u 1, aL g 75 (entV false (mkd v b way) b (-way) ((-(strV v b)) * way))), (u 2, aL g 300 pa)]) rfl rfl rfl ?_
      refine J.world (ws1 := [(u 0, .inr (5, [.ref (u 1), .ref (u 2), .ref (u 3), .int (iI sv), .ref (u 4), .int (iI ln), .int (iI th), .int (iI ap), .int (iI rm), .ref (u 5), .int (iI rd), .int (iI nw), .ref (u 6), .long (lI hh)])), (u 1, aL g 75 (mkV false v b way)), (u 2, aL g 300 pa)]) rfl ?_
      generalize mkV false v b way = v1 at hm1 hfin ⊢
      refine j_aload_n C 1 dX5_letOut_139 rfl rfl ?_
      refine j_iload_n C 2 dX5_letOut_140 rfl rfl ?_
      refine j_callV (As := [.int (iI hand)]) (rest := []) C yv_X5_sinker qw827 (c_X5_sinker l g u v1 sv ln th ap rm rd nw hh hand hm1 (by omega)) (by decide) 0 rfl rfl rfl dX5_letOut_141 rfl (Nat.le_of_ble_eq_true rfl) (by decide) (pf1 [] [(u 2, aL g 300 pa)]) rfl (fun r9 w9 hq9 => ?_)
      obtain ⟨rfl, rfl⟩ := hq9
      refine J.to (L1 := [(4, .int (iI (left - ((strV v b) * way)))), (0, .ref (u 0)), (1, .int (iI hand)), (3, .int (iI most)), (5, .int (iI b)), (6, .int (iI way))]) (S1 := [.int (iI (mnV false hand v1))]) (ws1 := [(u 0, .inr (5, [.ref (u 1), .ref (u 2), .ref (u 3), .int (iI sv), .ref (u 4), .int (iI ln), .int (iI th), .int (iI ap), .int (iI rm), .ref (u 5), .int (iI rd), .int (iI nw), .ref (u 6), .long (lI hh)])), (u 1, aL g 75 v1), (u 2, aL g 300 pa)]) rfl rfl rfl ?_
      generalize hb1 : mnV false hand v1 = b1
      have hbr := mn_rng false hand v1
      rw [hb1] at hbr
      refine j_istore (L1 := [(5, .int (iI b1)), (4, .int (iI (left - ((strV v b) * way)))), (0, .ref (u 0)), (1, .int (iI hand)), (3, .int (iI most)), (6, .int (iI way))]) C dX5_letOut_144 (by decide) rfl ?_
      refine j_iload C 0 dX5_letOut_146 rfl ?_
      refine j_iconst C dX5_letOut_148 ?_
      refine j_icmp_ne (tgt := 156) C (by omega) (by decide) dX5_letOut_149 (by decide) (fun c149 => ?_) (fun c149 => ?_)
      · have hs1 := mn_pos (up := false) (v := v1) hhand.1 (by rw [hb1]; exact c149)
        rw [hb1] at hs1
        have hsr1 := strV_rng hm1 b1
        have ht1 := hm1.2.2.2.2.2.1 b1.toNat (by omega)
        have hv1 : v1 (13 + b1.toNat) = vH v1 b1.toNat := rfl
        have hd1 := div_rng (a := left - strV v b * way) (b := strV v1 b1) (by omega) hs1.2
        refine j_iload C 1 dX5_letOut_156 rfl ?_
        refine j_aload_n C 2 dX5_letOut_158 rfl rfl ?_
        refine j_iload C 0 dX5_letOut_159 rfl ?_
        refine j_callV (As := [.int (iI b1)]) (rest := [.int (iI (left - ((strV v b) * way)))]) C yv_X5_strands qw752 (c_X5_strands l g u v1 sv ln th ap rm rd nw hh b1 hm1 (by omega)) (by decide) 0 rfl rfl rfl dX5_letOut_161 rfl (Nat.le_of_ble_eq_true rfl) (by decide) (pf1 [] [(u 2, aL g 300 pa)]) rfl (fun r9 w9 hq9 => ?_)
        obtain ⟨rfl, rfl⟩ := hq9
        refine J.to (L1 := [(5, .int (iI b1)), (4, .int (iI (left - ((strV v b) * way)))), (0, .ref (u 0)), (1, .int (iI hand)), (3, .int (iI most)), (6, .int (iI way))]) (S1 := [.int (iI (strV v1 b1)), .int (iI (left - ((strV v b) * way)))]) (ws1 := [(u 0, .inr (5, [.ref (u 1), .ref (u 2), .ref (u 3), .int (iI sv), .ref (u 4), .int (iI ln), .int (iI th), .int (iI ap), .int (iI rm), .ref (u 5), .int (iI rd), .int (iI nw), .ref (u 6), .long (lI hh)])), (u 1, aL g 75 v1), (u 2, aL g 300 pa)]) rfl rfl rfl ?_
        refine j_idiv C (by omega) (by omega) dX5_letOut_164 ?_
        refine j_i2l C (by omega) dX5_letOut_165 ?_
        refine j_aload_n C 2 dX5_letOut_166 rfl rfl ?_
        refine j_get C ck5 0 0 (by decide) qw662 rfl rfl dX5_letOut_167 ?_
        refine j_bipush C dX5_letOut_170 (by decide) ?_
        refine j_iload C 0 dX5_letOut_172 rfl ?_
        refine j_iadd C dX5_letOut_174 ?_
        refine j_lald (n := 75) (f := v1) C 1 (13 + b1.toNat) rfl (by omega) (by omega) (by decide) dX5_letOut_175 ?_
        refine j_callS (As := [.long (lI ((left - ((strV v b) * way)) / (strV v1 b1))), .long (lI (v1 (13 + b1.toNat)))]) (rest := []) C ys_X5_lesser qw815 (c_X5_lesser l g ((left - ((strV v b) * way)) / (strV v1 b1)) (v1 (13 + b1.toNat)) (by omega) (by omega)) (by decide) rfl dX5_letOut_176 rfl (Nat.le_of_ble_eq_true rfl) (by decide) (pf1 [] [(u 0, .inr (5, [.ref (u 1), .ref (u 2), .ref (u 3), .int (iI sv), .ref (u 4), .int (iI ln), .int (iI th), .int (iI ap), .int (iI rm), .ref (u 5), .int (iI rd), .int (iI nw), .ref (u 6), .long (lI hh)])), (u 1, aL g 75 v1), (u 2, aL g 300 pa)]) rfl (fun r9 w9 hq9 => ?_)
        obtain ⟨rfl, rfl⟩ := hq9
        refine J.to (L1 := [(5, .int (iI b1)), (4, .int (iI (left - ((strV v b) * way)))), (0, .ref (u 0)), (1, .int (iI hand)), (3, .int (iI most)), (6, .int (iI way))]) (S1 := [.int (iI (if (left - ((strV v b) * way)) / (strV v1 b1) < v1 (13 + b1.toNat) then (left - ((strV v b) * way)) / (strV v1 b1) else v1 (13 + b1.toNat)))]) (ws1 := [(u 0, .inr (5, [.ref (u 1), .ref (u 2), .ref (u 3), .int (iI sv), .ref (u 4), .int (iI ln), .int (iI th), .int (iI ap), .int (iI rm), .ref (u 5), .int (iI rd), .int (iI nw), .ref (u 6), .long (lI hh)])), (u 1, aL g 75 v1), (u 2, aL g 300 pa)]) rfl rfl rfl ?_
        refine J.to (L1 := [(5, .int (iI b1)), (4, .int (iI (left - ((strV v b) * way)))), (0, .ref (u 0)), (1, .int (iI hand)), (3, .int (iI most)), (6, .int (iI way))]) (S1 := [.int (iI (mwy (kV v1) b1 (left - strV v b * way) false))]) (ws1 := [(u 0, .inr (5, [.ref (u 1), .ref (u 2), .ref (u 3), .int (iI sv), .ref (u 4), .int (iI ln), .int (iI th), .int (iI ap), .int (iI rm), .ref (u 5), .int (iI rd), .int (iI nw), .ref (u 6), .long (lI hh)])), (u 1, aL g 75 v1), (u 2, aL g 300 pa)]) rfl rfl (by rw [show ((if (left - ((strV v b) * way)) / (strV v1 b1) < v1 (13 + b1.toNat) then (left - ((strV v b) * way)) / (strV v1 b1) else v1 (13 + b1.toNat) : Int)) = mwy (kV v1) b1 (left - strV v b * way) false from (wayD hs1.1 hs1.2)]) ?_
        refine j_istore (L1 := [(6, .int (iI (mwy (kV v1) b1 (left - strV v b * way) false))), (5, .int (iI b1)), (4, .int (iI (left - ((strV v b) * way)))), (0, .ref (u 0)), (1, .int (iI hand)), (3, .int (iI most))]) C dX5_letOut_179 (by decide) rfl ?_
        refine j_goto (tgt := 85) C dX5_letOut_181 (by decide) ?_
        refine J.sub (L1 := [(0, .ref (u 0)), (1, .int (iI hand)), (3, .int (iI most)), (4, .int (iI (left - ((strV v b) * way)))), (5, .int (iI b1)), (6, .int (iI (mwy (kV v1) b1 (left - strV v b * way) false)))]) [3, 4, 5, 2, 1, 0] rfl ?_
        exact ih v1 (left - strV v b * way) b1 _ hm1 (by omega) hb1.symm rfl hfin
      · refine j_iconst C dX5_letOut_152 ?_
        refine j_goto (tgt := 179) C dX5_letOut_153 (by decide) ?_
        refine J.to (L1 := [(5, .int (iI b1)), (4, .int (iI (left - ((strV v b) * way)))), (0, .ref (u 0)), (1, .int (iI hand)), (3, .int (iI most)), (6, .int (iI way))]) (S1 := [.int (iI (mwy (kV v1) b1 (left - strV v b * way) false))]) (ws1 := [(u 0, .inr (5, [.ref (u 1), .ref (u 2), .ref (u 3), .int (iI sv), .ref (u 4), .int (iI ln), .int (iI th), .int (iI ap), .int (iI rm), .ref (u 5), .int (iI rd), .int (iI nw), .ref (u 6), .long (lI hh)])), (u 1, aL g 75 v1), (u 2, aL g 300 pa)]) rfl rfl (by rw [show ((0 : Int)) = mwy (kV v1) b1 (left - strV v b * way) false from (way0 (by omega))]) ?_
        refine j_istore (L1 := [(6, .int (iI (mwy (kV v1) b1 (left - strV v b * way) false))), (5, .int (iI b1)), (4, .int (iI (left - ((strV v b) * way)))), (0, .ref (u 0)), (1, .int (iI hand)), (3, .int (iI most))]) C dX5_letOut_179 (by decide) rfl ?_
        refine j_goto (tgt := 85) C dX5_letOut_181 (by decide) ?_
        refine J.sub (L1 := [(0, .ref (u 0)), (1, .int (iI hand)), (3, .int (iI most)), (4, .int (iI (left - ((strV v b) * way)))), (5, .int (iI b1)), (6, .int (iI (mwy (kV v1) b1 (left - strV v b * way) false)))]) [3, 4, 5, 2, 1, 0] rfl ?_
        exact ih v1 (left - strV v b * way) b1 _ hm1 (by omega) hb1.symm rfl hfin

