/-! the relation of the whole: class and reference behind the same n calls -/
def LI (kn : Nat → Nat → Int) (kv : Nat → Nat → Nat → Int) (sc : Int) (ns : Nat) (tx : Nat → Int) (tn : Nat) (v pa : Nat → Int) (sv : Nat) (n : Nat) : Prop := TOK kn kv sc ns tx tn ∧ POK kn ∧ (∀ j, j < 4 → POK (kv j)) ∧ RelS kn v ∧ RelP kv ns pa sv ∧ (sc = (sv : Int) ∧ sv ≤ 4) ∧ (0 ≤ kn 0 7 ∧ kn 0 7 ≤ 100000000000 * (n : Int)) ∧ (∀ j, j < 4 → 0 ≤ kv j 0 7 ∧ kv j 0 7 ≤ 100000000000 * (n : Int))
theorem LI.next {kn : Nat → Nat → Int} {kv : Nat → Nat → Nat → Int} {sc : Int} {ns : Nat} {tx : Nat → Int} {tn : Nat} {v pa : Nat → Int} {sv : Nat} {n : Nat} (h : LI kn kv sc ns tx tn v pa sv n) : LI kn kv sc ns tx tn v pa sv (n + 1) := by
  obtain ⟨h1, h2, h3, h4, h5, h6, h8, h9⟩ := h
  exact ⟨h1, h2, h3, h4, h5, h6, ⟨h8.1, by omega⟩, fun j hj => ⟨(h9 j hj).1, by have := (h9 j hj).2; omega⟩⟩
theorem LI.save {kn kn' : Nat → Nat → Int} {kv : Nat → Nat → Nat → Int} {sc : Int} {ns : Nat} {tx : Nat → Int} {tn : Nat} {v v' pa : Nat → Int} {sv : Nat} {n : Nat} (h : LI kn kv sc ns tx tn v pa sv n) (hk : SOK kn') (hh : 0 ≤ hnd kn') (hp : POK kn') (hr : RelS kn' v') (h7 : kn 0 7 ≤ kn' 0 7 ∧ kn' 0 7 ≤ kn 0 7 + 100000000000) : LI kn' (svk kn kv ns) (svs sc) (svn ns) tx tn v' (svP v pa sv) (svN sv) (n + 1) := by
  obtain ⟨⟨⟨g1, g2⟩, g3, g4, g5, g6, g7⟩, h2, h3, h4, h5, ⟨rfl, h6⟩, h8, h9⟩ := h
  have hsv : svs ((sv : Nat) : Int) = ((svN sv : Nat) : Int) := by
    show (if 4 < (sv : Int) + 1 then 4 else (sv : Int) + 1) = _
    unfold svN
    split <;> split <;> omega
  have hsv4 : svN sv ≤ 4 := by unfold svN; split <;> omega
  have hs : ∀ j, j < 4 → svk kn kv ns j = if j = ns then cpS kn (kv ns) else kv j := fun j hj => rfl
  refine ⟨⟨⟨hk, hh⟩, fun j hj => ?_, ⟨by rw [hsv]; omega, by rw [hsv]; omega⟩, Nat.mod_lt _ (by decide), g6, g7⟩, hp, fun j hj => ?_, hr, rel_save h4 g1 (fun j hj => (g3 j hj).1) h5 g5 h6, ⟨hsv, hsv4⟩, ⟨by omega, by omega⟩, fun j hj => ?_⟩
  · rw [hs j hj]
    by_cases hj2 : j = ns
    · rw [if_pos hj2]
      exact ⟨SOK_cpS g1, by rw [hnd_cpS g1]; exact g2⟩
    · rw [if_neg hj2]
      exact g3 j hj
  · rw [hs j hj]
    by_cases hj2 : j = ns
    · rw [if_pos hj2]
      exact POK_cp h2
    · rw [if_neg hj2]
      exact h3 j hj
  · rw [hs j hj]
    by_cases hj2 : j = ns
    · rw [if_pos hj2]
      show 0 ≤ kn 0 7 ∧ kn 0 7 ≤ _
      omega
    · rw [if_neg hj2]
      have := h9 j hj
      omega
theorem LI.undo {kn : Nat → Nat → Int} {kv : Nat → Nat → Nat → Int} {sc : Int} {ns : Nat} {tx : Nat → Int} {tn : Nat} {v pa : Nat → Int} {sv : Nat} {n : Nat} (h : LI kn kv sc ns tx tn v pa (sv + 1) n) : LI (cpS (kv ((ns + 3) % 4)) kn) kv (sc - 1) ((ns + 3) % 4) tx tn (cpy 75 (fun j => pa (75 * sv + j)) v) pa sv (n + 1) := by
  obtain ⟨⟨⟨g1, g2⟩, g3, g4, g5, g6, g7⟩, h2, h3, h4, h5, ⟨rfl, h6⟩, h8, h9⟩ := h
  have hm : (ns + 3) % 4 < 4 := Nat.mod_lt _ (by decide)
  obtain ⟨r1, r2⟩ := rel_undo (v := v) (kn := kn) (fun j hj => (g3 j hj).1) h5 g5 (by omega)
  refine ⟨⟨⟨SOK_cpS (g3 _ hm).1, by rw [hnd_cpS (g3 _ hm).1]; exact (g3 _ hm).2⟩, g3, ⟨by omega, by omega⟩, hm, g6, g7⟩, POK_cp (h3 _ hm), h3, r1, r2, ⟨by omega, by omega⟩, ?_, fun j hj => ?_⟩
  · show 0 ≤ kv ((ns + 3) % 4) 0 7 ∧ kv ((ns + 3) % 4) 0 7 ≤ _
    have := h9 _ hm
    omega
  · have := h9 j hj
    omega
theorem LI.app {kn : Nat → Nat → Int} {kv : Nat → Nat → Nat → Int} {sc : Int} {ns : Nat} {tx : Nat → Int} {tn : Nat} {v pa : Nat → Int} {sv : Nat} {n : Nat} (h : LI kn kv sc ns tx tn v pa sv n) {x : Int} (hx : 0 ≤ x ∧ x ≤ 127) (hn : tn < 60) : LI kn kv sc ns (va_up tx tn x) (tn + 1) v pa sv (n + 1) := by
  obtain ⟨⟨g0, g3, g4, g5, g6, g7⟩, h2, h3, h4, h5, h6, h8, h9⟩ := h.next
  refine ⟨⟨g0, g3, g4, g5, by omega, fun i hi => ?_⟩, h2, h3, h4, h5, h6, h8, h9⟩
  · unfold va_up
    split
    · exact hx
    · exact g7 i (by omega)
theorem LI.clr {kn : Nat → Nat → Int} {kv : Nat → Nat → Nat → Int} {sc : Int} {ns : Nat} {tx : Nat → Int} {tn : Nat} {v pa : Nat → Int} {sv : Nat} {n : Nat} (h : LI kn kv sc ns tx tn v pa sv n) : LI kn kv sc ns tx 0 v pa sv (n + 1) := by
  obtain ⟨⟨g0, g3, g4, g5, g6, g7⟩, h2, h3, h4, h5, h6, h8, h9⟩ := h.next
  exact ⟨⟨g0, g3, g4, g5, by omega, fun i hi => absurd hi (Nat.not_lt_zero i)⟩, h2, h3, h4, h5, h6, h8, h9⟩
theorem LI.rck {kn : Nat → Nat → Int} {kv : Nat → Nat → Nat → Int} {sc : Int} {ns : Nat} {tx : Nat → Int} {tn : Nat} {v pa : Nat → Int} {sv : Nat} {n : Nat} (h : LI kn kv sc ns tx tn v pa sv n) : LI (rck kn true) kv sc ns tx tn v pa sv (n + 1) := h.next
theorem LI_0 : LI k0S (fun _ => k0S) 0 0 (fun _ => 0) 0 v0V (fun _ => 0) 0 0 := ⟨TOK_0, POK_k0S, fun _ _ => POK_k0S, rel_0, fun i hi => absurd hi (Nat.not_lt_zero i), ⟨rfl, by decide⟩, by decide +kernel, fun _ _ => (by show 0 ≤ k0S 0 7 ∧ k0S 0 7 ≤ 100000000000 * ((0 : Nat) : Int); decide +kernel)⟩
theorem mup_7 {k : Nat → Nat → Int} (hk : SOK k) (h : POK k) {f n : Int} (hf : 0 ≤ f ∧ f ≤ 1000000) (hn : 0 ≤ n ∧ n ≤ 100000) : k 0 7 ≤ (mup f n k).1 0 7 ∧ (mup f n k).1 0 7 ≤ k 0 7 + 100000000000 := by
  have h1 := (POK_mvs (up := true) (hand := f) 4 (SOK_rck hk true) (show POK (rck k true) from h) (left := n) (by omega)).2
  have h2 := mvs_rng (up := true) (hand := f) 4 (SOK_rck hk true) hn.1
  have h3 : rck k true 0 7 = k 0 7 := rfl
  have h4 : (mup f n k).1 0 7 = (mvs true f 4 (rck k true) n).1 0 7 + f * (n - (mvs true f 4 (rck k true) n).2) := rfl
  have h5 : f * (n - (mvs true f 4 (rck k true) n).2) ≤ 1000000 * 100000 := Int.mul_le_mul hf.2 (by omega) (by omega) (by decide)
  have h6 := Int.mul_nonneg hf.1 (show 0 ≤ n - (mvs true f 4 (rck k true) n).2 by omega)
  omega
theorem mdn_7 {k : Nat → Nat → Int} (hk : SOK k) (hh : 0 ≤ hnd k) (h : POK k) {f n : Int} (hn : 0 ≤ n ∧ n ≤ 100000) : k 0 7 ≤ (mdn f n k).1 0 7 ∧ (mdn f n k).1 0 7 ≤ k 0 7 + 100000000000 := by
  have h0 := mll_rng hh hn.1
  have h1 := (POK_mvs (up := false) (hand := f) 4 (SOK_rck hk false) (show POK (rck k false) from h) (left := mll k n) (by omega)).2
  have h3 : rck k false 0 7 = k 0 7 := rfl
  have h4 : (mdn f n k).1 0 7 = (mvs false f 4 (rck k false) (mll k n)).1 0 7 := rfl
  omega
/-- each call's next state -/
theorem LI.w {kn : Nat → Nat → Int} {kv : Nat → Nat → Nat → Int} {sc : Int} {ns : Nat} {tx : Nat → Int} {tn : Nat} {v pa : Nat → Int} {sv : Nat} {n : Nat} (h : LI kn kv sc ns tx tn v pa sv n) {b w : Int} (hb : 0 ≤ b ∧ b < 4) (hw : 0 ≤ w ∧ w ≤ 50000) : LI (va_up kn 3 (va_up (kn 3) b.toNat w)) (svk kn kv ns) (svs sc) (svn ns) tx tn (va_up v (9 + b.toNat) w) (svP v pa sv) (svN sv) (n + 1) :=
  h.save (SOK_w h.1.1.1 hw) h.1.1.2 h.2.1 (rel_w h.2.2.2.1 h.1.1.1 hb) ⟨Int.le_refl _, Int.le_add_of_nonneg_right (by decide)⟩
theorem LI.f {kn : Nat → Nat → Int} {kv : Nat → Nat → Nat → Int} {sc : Int} {ns : Nat} {tx : Nat → Int} {tn : Nat} {v pa : Nat → Int} {sv : Nat} {n : Nat} (h : LI kn kv sc ns tx tn v pa sv n) {f : Int} (hf : 0 ≤ f ∧ f ≤ 30) : LI (va_up kn 0 (va_up (kn 0) 1 f)) (svk kn kv ns) (svs sc) (svn ns) tx tn (va_up v 1 f) (svP v pa sv) (svN sv) (n + 1) :=
  h.save (SOK_f h.1.1.1 hf) h.1.1.2 h.2.1 (rel_up0 h.2.2.2.1 (by decide) (by decide) (by decide)) ⟨Int.le_refl _, Int.le_add_of_nonneg_right (by decide)⟩
theorem LI.cp {kn kt : Nat → Nat → Int} {kv : Nat → Nat → Nat → Int} {sc : Int} {ns : Nat} {tx : Nat → Int} {tn : Nat} {v v' pa : Nat → Int} {sv : Nat} {n : Nat} (h : LI kn kv sc ns tx tn v pa sv n) (hk : SOK kt) (hh : 0 ≤ hnd kt) (hp : POK kt) (hr : RelS kt v') (h7 : kt 0 7 = kn 0 7) : LI (cpS kt kn) (svk kn kv ns) (svs sc) (svn ns) tx tn v' (svP v pa sv) (svN sv) (n + 1) :=
  h.save (SOK_cpS hk) (by rw [hnd_cpS hk]; exact hh) (POK_cp hp) (rel_cp hr hk) (by have e : cpS kt kn 0 7 = kt 0 7 := rfl; omega)
theorem LI.len {kn kt : Nat → Nat → Int} {kv : Nat → Nat → Nat → Int} {sc : Int} {ns : Nat} {tx : Nat → Int} {tn : Nat} {v pa : Nat → Int} {sv : Nat} {n : Nat} (h : LI kn kv sc ns tx tn v pa sv n) {x : Int} (hx : 1000 ≤ x ∧ x ≤ 300000) (hh : 0 ≤ hnd (kLen kn kt x)) : LI (cpS (kLen kn kt x) kn) (svk kn kv ns) (svs sc) (svn ns) tx tn (va_up v 0 x) (svP v pa sv) (svN sv) (n + 1) :=
  h.cp (SOK_len h.1.1.1 hx) hh (POK_cp (kt := kt) h.2.1) (rel_len h.2.2.2.1 h.1.1.1) rfl
theorem LI.add {kn kt : Nat → Nat → Int} {kv : Nat → Nat → Nat → Int} {sc : Int} {ns : Nat} {tx : Nat → Int} {tn : Nat} {v pa : Nat → Int} {sv : Nat} {n : Nat} (h : LI kn kv sc ns tx tn v pa sv n) {b : Int} (hb : 0 ≤ b ∧ b < 4) (hP : kn 0 2 < 10) (hh : 0 ≤ hnd (kAdd kn kt b)) : LI (cpS (kAdd kn kt b) kn) (svk kn kv ns) (svs sc) (svn ns) tx tn (va_up (va_up v (17 + (v 2).toNat) b) 2 (v 2 + 1)) (svP v pa sv) (svN sv) (n + 1) :=
  h.cp (SOK_add h.1.1.1 hb hP) hh (POK_cp (kt := kt) h.2.1) (rel_add h.2.2.2.1 h.1.1.1 (by rw [← h.2.2.2.1.1 2 (by decide)]; exact hP)) rfl
theorem hnd_take {kn : Nat → Nat → Int} (hk : SOK kn) (hP : 0 < kn 0 2) (hh : 0 ≤ hnd kn) : 0 ≤ hnd (kTake kn) := by
  have h1 := hk.1
  obtain ⟨P, hPe⟩ : ∃ P : Nat, kn 0 2 = (P : Int) + 1 := ⟨(kn 0 2 - 1).toNat, by omega⟩
  have e1 : (kn 0 2).toNat = P + 1 := by omega
  have e2 : (kn 0 2 - 1).toNat = P := by omega
  have hr := hk.2.2.2.1 P (by omega)
  have hb : 0 ≤ kn 1 P ∧ kn 1 P < 4 := by omega
  have h2 := hng_add (f := kn 1) (ht := kn 4) (P := P) (E := kn 0 3) hb
  have e3 : va_up (kn 1) P (kn 1 P) = kn 1 := funext fun j => by unfold va_up; split <;> simp_all
  rw [e3] at h2
  have h3 := hk.2.2.2.2.2.1 (kn 1 P).toNat (by omega)
  have e4 : hnd (kTake kn) = kn 0 0 - hng (kn 1) (kn 0 2 - 1).toNat (kn 0 3) (kn 4) 4 := rfl
  have e5 : hnd kn = kn 0 0 - hng (kn 1) (kn 0 2).toNat (kn 0 3) (kn 4) 4 := rfl
  rw [e2] at e4
  rw [e1] at e5
  omega
theorem LI.take {kn : Nat → Nat → Int} {kv : Nat → Nat → Nat → Int} {sc : Int} {ns : Nat} {tx : Nat → Int} {tn : Nat} {v pa : Nat → Int} {sv : Nat} {n : Nat} (h : LI kn kv sc ns tx tn v pa sv n) (hP : 0 < kn 0 2) : LI (kTake kn) (svk kn kv ns) (svs sc) (svn ns) tx tn (va_up v 2 (v 2 - 1)) (svP v pa sv) (svN sv) (n + 1) :=
  h.save (SOK_take h.1.1.1 hP) (hnd_take h.1.1.1 hP h.1.1.2) h.2.1 (rel_take h.2.2.2.1) ⟨Int.le_refl _, Int.le_add_of_nonneg_right (by decide)⟩
theorem LI.en {kn kt : Nat → Nat → Int} {kv : Nat → Nat → Nat → Int} {sc : Int} {ns : Nat} {tx : Nat → Int} {tn : Nat} {v pa : Nat → Int} {sv : Nat} {n : Nat} (h : LI kn kv sc ns tx tn v pa sv n) {x : Int} (hx : 0 ≤ x ∧ x ≤ 4) (hh : 0 ≤ hnd (kEnd kn kt x)) : LI (cpS (kEnd kn kt x) kn) (svk kn kv ns) (svs sc) (svn ns) tx tn (va_up v 3 x) (svP v pa sv) (svN sv) (n + 1) :=
  h.cp (SOK_end h.1.1.1 hx) hh (POK_cp (kt := kt) h.2.1) (rel_end h.2.2.2.1 h.1.1.1) rfl
theorem LI.up {kn : Nat → Nat → Int} {kv : Nat → Nat → Nat → Int} {sc : Int} {ns : Nat} {tx : Nat → Int} {tn : Nat} {v pa : Nat → Int} {sv : Nat} {n : Nat} (h : LI kn kv sc ns tx tn v pa sv n) {f m : Int} (hf : 0 ≤ f ∧ f ≤ 1000000) (hm : 0 ≤ m ∧ m ≤ 100000) : LI (mup f m kn).1 (svk kn kv ns) (svs sc) (svn ns) tx tn (hauV f m v).1 (svP v pa sv) (svN sv) (n + 1) :=
  h.save (SOK_mup h.1.1.1 hm.1) (hnd_mup h.1.1.2) (POK_mup h.1.1.1 h.2.1 hm) (rel_mup h.2.2.2.1 h.1.1.1 hm.1).1 (mup_7 h.1.1.1 h.2.1 hf hm)
theorem LI.dn {kn : Nat → Nat → Int} {kv : Nat → Nat → Nat → Int} {sc : Int} {ns : Nat} {tx : Nat → Int} {tn : Nat} {v pa : Nat → Int} {sv : Nat} {n : Nat} (h : LI kn kv sc ns tx tn v pa sv n) {f m : Int} (hm : 0 ≤ m ∧ m ≤ 100000) : LI (mdn f m kn).1 (svk kn kv ns) (svs sc) (svn ns) tx tn (letV f m v).1 (svP v pa sv) (svN sv) (n + 1) :=
  h.save (SOK_mdn h.1.1.1 h.1.1.2 hm.1) (hnd_mdn h.1.1.1 h.1.1.2 hm.1) (POK_mdn h.1.1.1 h.1.1.2 h.2.1 hm) (rel_mdn h.2.2.2.1 h.1.1.1 hm.1 h.1.1.2).1 (mdn_7 h.1.1.1 h.1.1.2 h.2.1 hm)
theorem LI.prs {kn kt : Nat → Nat → Int} {kv : Nat → Nat → Nat → Int} {sc : Int} {ns : Nat} {tx : Nat → Int} {tn : Nat} {v pa : Nat → Int} {sv : Nat} {n : Nat} (h : LI kn kv sc ns tx tn v pa sv n) (hF : pFlt tx tn = -1) (hh : 0 ≤ hnd (prs tx tn (cpS kn kt))) {nw : Nat} {rq rq0 : Nat → Int} (hn : (nw, rq) = rdW tx tn 4 (pP tx tn + 2) 0 rq0) : LI (cpS (prs tx tn (cpS kn kt)) kn) (svk kn kv ns) (svs sc) (svn ns) tx tn (prV v tx (pP tx tn) (tx (pP tx tn + 1) - 48) nw rq) (svP v pa sv) (svN sv) (n + 1) :=
  h.cp (SOK_prs (SOK_cpS h.1.1.1) hF) hh (POK_cp (kt := kt) h.2.1) (rel_prs (rel_cp h.2.2.2.1 h.1.1.1) (SOK_cpS h.1.1.1) hn) rfl
theorem LI.cg {kn : Nat → Nat → Int} {kv : Nat → Nat → Nat → Int} {sc : Int} {ns : Nat} {tx : Nat → Int} {tn : Nat} {v w pa : Nat → Int} {sv : Nat} {n : Nat} (h : LI kn kv sc ns tx tn v pa sv n) (e : ∀ j, j < 75 → w j = v j) : LI kn kv sc ns tx tn w pa sv n := ⟨h.1, h.2.1, h.2.2.1, rel_cg h.2.2.2.1 h.1.1.1 e, h.2.2.2.2⟩
