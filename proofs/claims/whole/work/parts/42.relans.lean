/-! the relation: what is answered -/
theorem rel_cnt {k : Nat → Nat → Int} {v : Nat → Int} (h : RelS k v) (b : Int) : cnt (k 1) b (k 0 2).toNat = cnt (vR v) b (v 2).toNat := by
  rw [h.1 2 (by decide)]
  exact cnt_congr fun i hi => h.2.1 i (by omega)
theorem rel_blk {k : Nat → Nat → Int} {v : Nat → Int} (h : RelS k v) {b : Int} (hb : 0 ≤ b ∧ b < 4) (w : Int) : blkF k b w = blkF (kV v) b w := by
  unfold blkF
  have h3 := h.2.2.1 b.toNat (by omega)
  have h4 := h.2.2.2.1 b.toNat (by omega)
  have hs : strn (k 1) (k 0 2).toNat (k 0 3) b = strn (kV v 1) (kV v 0 2).toNat (kV v 0 3) b := rel_st h b
  have hc : cnt (k 1) b (k 0 2).toNat = cnt (kV v 1) b (kV v 0 2).toNat := rel_cnt h b
  have ht : lea (k 1) (k 0 1) true (k 0 2).toNat (k 0 3) b (k 3 b.toNat) = lea (kV v 1) (kV v 0 1) true (kV v 0 2).toNat (kV v 0 3) b (kV v 3 b.toNat) := rel_lea h true hb
  have hf : lea (k 1) (k 0 1) false (k 0 2).toNat (k 0 3) b (k 3 b.toNat) = lea (kV v 1) (kV v 0 1) false (kV v 0 2).toNat (kV v 0 3) b (kV v 3 b.toNat) := rel_lea h false hb
  rw [hs, hc, ht, hf, show k 3 b.toNat = kV v 3 b.toNat from h3, show k 4 b.toNat = kV v 4 b.toNat from h4]
theorem rel_pass {k : Nat → Nat → Int} {v : Nat → Int} (h : RelS k v) : passF k = passF (kV v) := by
  unfold passF
  rw [h.1 2 (by decide), h.1 3 (by decide)]
  rfl
theorem rel_val {k : Nat → Nat → Int} {v : Nat → Int} (h : RelS k v) (w : Int) : valF k w = valF (kV v) w := by
  unfold valF
  rw [rel_pass h, show hnd k = hnd (kV v) from rel_hnd h, show hng (k 1) (k 0 2).toNat (k 0 3) (k 4) 4 = hng (kV v 1) (kV v 0 2).toNat (kV v 0 3) (kV v 4) 4 from rel_hng h, show k 0 0 = kV v 0 0 from h.1 0 (by decide), show k 0 1 = kV v 0 1 from h.1 1 (by decide), show k 0 2 = kV v 0 2 from h.1 2 (by decide), show k 0 3 = kV v 0 3 from h.1 3 (by decide), show k 0 4 = kV v 0 4 from h.1 4 (by decide), show k 0 5 = kV v 0 5 from h.1 5 (by decide), show k 0 6 = kV v 0 6 from h.1 6 (by decide)]
theorem rel_ffa {k : Nat → Nat → Int} {v : Nat → Int} (h : RelS k v) : ∀ n, n ≤ 4 → ffa k n = ffa (kV v) n
  | 0, _ => rfl
  | n + 1, hn => by
    have hs : strn (k 1) (k 0 2).toNat (k 0 3) (n : Int) = strn (kV v 1) (kV v 0 2).toNat (kV v 0 3) (n : Int) := rel_st h _
    have hl : lea (k 1) (k 0 1) true (k 0 2).toNat (k 0 3) (n : Int) (k 3 n) = lea (kV v 1) (kV v 0 1) true (kV v 0 2).toNat (kV v 0 3) (n : Int) (kV v 3 n) := rel_lea h true (b := (n : Int)) (by omega)
    rw [ffa, ffa, rel_ffa h n (by omega), hs, hl, show k 4 n = kV v 4 n from h.2.2.2.1 n (by omega)]
theorem rel_fcE {k : Nat → Nat → Int} {v : Nat → Int} (h : RelS k v) {b : Int} (hb : 0 ≤ b ∧ b < 4) (e : Nat) : fcE k b e = fcE (kV v) b e := by
  show lea (k 1) (k 0 1) true (k 0 2).toNat (e : Int) b (k 3 b.toNat) = lea (vR v) (v 1) true (v 2).toNat (e : Int) b (vW v b.toNat)
  rw [h.1 1 (by decide), h.1 2 (by decide), h.2.2.1 b.toNat (by omega)]
  exact lea_congr fun i hi => h.2.1 i (by omega)
theorem rel_best {k : Nat → Nat → Int} {v : Nat → Int} (h : RelS k v) {b : Int} (hb : 0 ≤ b ∧ b < 4) : nxr (fcE k b) (fun _ => 0) 1000000 5 = nxr (fcE (kV v) b) (fun _ => 0) 1000000 5 := nxr_congr (fun e _ => rel_fcE h hb e) (fun _ _ => Iff.rfl)
theorem rel_sw {k : Nat → Nat → Int} {v : Nat → Int} (h : RelS k v) {b x y : Int} (hb : 0 ≤ b ∧ b < 4) (hx : 0 ≤ x ∧ x < v 2) (hy : 0 ≤ y ∧ y < v 2) : lea (swp (k 1) x.toNat y.toNat) (k 0 1) true (k 0 2).toNat (k 0 3) b (k 3 b.toNat) = lea (swp (vR v) x.toNat y.toNat) (v 1) true (v 2).toNat (v 3) b (vW v b.toNat) := by
  rw [h.1 1 (by decide), h.1 2 (by decide), h.1 3 (by decide), h.2.2.1 b.toNat (by omega)]
  exact lea_congr (swp_congr (by omega) (by omega) fun i hi => h.2.1 i (by omega))
theorem rel_pul {k : Nat → Nat → Int} {v : Nat → Int} (h : RelS k v) (d : Bool) (b f : Int) : pul (k 1) (k 0 1) d (k 0 2).toNat (k 0 3) b f = pulV v d b f := by
  rw [h.1 1 (by decide), h.1 2 (by decide), h.1 3 (by decide)]
  exact pul_congr fun i hi => h.2.1 i (by omega)
theorem rel_dgA {k : Nat → Nat → Int} {v : Nat → Int} (h : RelS k v) (tn : Int) : ∀ n, dgA k tn n = dgA (kV v) tn n
  | 0 => rfl
  | n + 1 => by rw [dgA, dgA, rel_dgA h tn n, rel_val h]
theorem rel_dgC {k : Nat → Nat → Int} {v : Nat → Int} (h : RelS k v) (h0 : Int) : ∀ n, n ≤ 28 → dgC h0 k n = dgC h0 (kV v) n
  | 0, _ => rfl
  | n + 1, hn => by rw [dgC, dgC, rel_dgC h h0 n (by omega), rel_blk h (by omega)]
theorem rel_dgD {k : Nat → Nat → Int} {v : Nat → Int} (h : RelS k v) (h0 : Int) : ∀ n : Nat, (n : Int) ≤ v 2 → dgD h0 k n = dgD h0 (kV v) n
  | 0, _ => rfl
  | n + 1, hn => by rw [dgD, dgD, rel_dgD h h0 n (by omega), show k 1 n = kV v 1 n from h.2.1 n (by omega)]
theorem rel_dgE {k : Nat → Nat → Int} {v : Nat → Int} (h : RelS k v) (h0 : Int) : ∀ n : Nat, (n : Int) ≤ 3 * v 6 → dgE h0 k n = dgEV h0 v n
  | 0, _ => rfl
  | n + 1, hn => by
    rw [dgE, dgEV, rel_dgE h h0 n (by omega), h.2.2.2.2 (n / 3) (n % 3) (by omega) (by omega), show 27 + (3 * (n / 3) + n % 3) = 27 + n by omega]
theorem rel_dig {k : Nat → Nat → Int} {v : Nat → Int} (h : RelS k v) (hk : SOK k) (tn sc : Int) : dig k tn sc = digV v tn sc := by
  have hm := rel_ok h hk
  have h2 := hm.1
  have h6 := hm.2.2.2.2.2.2.2
  unfold dig digV
  have eB : dgB k tn = dgB (kV v) tn := by
    unfold dgB
    rw [rel_dgA h, show k 0 7 = kV v 0 7 from h.1 7 (by decide), show k 0 8 = kV v 0 8 from h.1 8 (by decide)]
  rw [eB, rel_dgC h _ 28 (Nat.le_refl _), h.1 2 (by decide), h.1 6 (by decide), rel_dgD h _ (v 2).toNat (by omega), rel_dgE h _ (3 * (v 6).toNat) (by omega)]
