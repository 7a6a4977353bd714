/-! the mathematics that the class and the reference share -/
theorem mulF {t F : Int} (ht : 0 ≤ t) (hF : 0 ≤ F ∧ F ≤ 30) : 0 ≤ t * F ∧ t * F ≤ t * 30 := ⟨Int.mul_nonneg ht hF.1, Int.mul_le_mul_of_nonneg_left hF.2 ht⟩
def b2i (h : Bool) : Int := if h then 1 else 0
theorem b2i_rng (h : Bool) : 0 ≤ b2i h ∧ b2i h ≤ 1 := by cases h <;> decide
/-- how many of the first n are b -/
def cnt (f : Nat → Int) (b : Int) : Nat → Int
  | 0 => 0
  | n + 1 => cnt f b n + (if f n = b then 1 else 0)
theorem cnt_rng (f : Nat → Int) (b : Int) (n : Nat) : 0 ≤ cnt f b n ∧ cnt f b n ≤ n := by
  induction n with
  | zero => exact ⟨Int.le_refl _, Int.le_refl _⟩
  | succ n ih =>
    simp only [cnt]
    split <;> omega
theorem cnt_congr {f f' : Nat → Int} {b : Int} {n : Nat} (h : ∀ i, i < n → f i = f' i) : cnt f b n = cnt f' b n := by
  induction n with
  | zero => rfl
  | succ n ih =>
    simp only [cnt]
    rw [ih (fun i hi => h i (by omega)), h n (by omega)]
/-- the strands of a block -/
def strn (f : Nat → Int) (n : Nat) (E b : Int) : Int := 2 * cnt f b n + (if E = b then 1 else 0)
theorem strn_rng (f : Nat → Int) (n : Nat) (E b : Int) : 0 ≤ strn f n E b ∧ strn f n E b ≤ 2 * n + 1 := by
  have := cnt_rng f b n
  unfold strn
  split <;> omega
theorem strn_congr {f f' : Nat → Int} {n : Nat} {E b : Int} (h : ∀ i, i < n → f i = f' i) : strn f n E b = strn f' n E b := by
  unfold strn
  rw [cnt_congr h]
/-- the force behind one pulley more -/
def beh (F : Int) (h : Bool) (t : Int) : Int := if h then t - t * F / 100 else t + t * F / 100
theorem beh_rng {F : Int} {h : Bool} {t : Int} (hF : 0 ≤ F ∧ F ≤ 30) (ht : 0 ≤ t) : 0 ≤ beh F h t ∧ beh F h t ≤ 2 * t := by
  have := mulF ht hF
  unfold beh
  split <;> omega
theorem beh_mono {F : Int} {h : Bool} {t u : Int} (hF : 0 ≤ F ∧ F ≤ 30) (ht : 0 ≤ t) (hu : t ≤ u) : beh F h t ≤ beh F h u := by
  have h1 : u * F = t * F + (u - t) * F := by rw [← Int.add_mul]; congr 1; omega
  have h2 := mulF (t := u - t) (by omega) hF
  have h3 := mulF ht hF
  unfold beh
  split <;> omega
/-- the force behind n pulleys -/
def fbn (F : Int) (h : Bool) (t : Int) : Nat → Int
  | 0 => t
  | n + 1 => beh F h (fbn F h t n)
theorem fbn_rng {F : Int} {h : Bool} {t : Int} (hF : 0 ≤ F ∧ F ≤ 30) (ht : 0 ≤ t) (n : Nat) : 0 ≤ fbn F h t n ∧ fbn F h t n ≤ (2 : Int) ^ n * t := by
  induction n with
  | zero => simp [fbn]; exact ht
  | succ n ih =>
    have := beh_rng (h := h) hF ih.1
    refine ⟨this.1, Int.le_trans this.2 ?_⟩
    rw [Int.pow_succ, Int.mul_comm _ 2, Int.mul_assoc]
    omega
theorem fbn_le {F : Int} {h : Bool} {t : Int} {n : Nat} (hF : 0 ≤ F ∧ F ≤ 30) (ht : 0 ≤ t ∧ t ≤ 1000000) (hn : n ≤ 22) : 0 ≤ fbn F h t n ∧ fbn F h t n ≤ 4194304000000 := by
  have h1 := fbn_rng (h := h) hF ht.1 n
  have h2 : (2 : Int) ^ n ≤ 2 ^ 22 := by
    rcases Nat.eq_or_lt_of_le hn with rfl | h
    · exact Int.le_refl _
    · exact Int.le_of_lt (Int.pow_lt_pow_of_lt (by decide) h)
  have h3 : (2 : Int) ^ n * t ≤ 2 ^ 22 * t := Int.mul_le_mul_of_nonneg_right h2 ht.1
  have h4 : (2 : Int) ^ 22 = 4194304 := by decide
  rw [h4] at h3
  omega
theorem fbn_mono {F : Int} {h : Bool} {t u : Int} (hF : 0 ≤ F ∧ F ≤ 30) (ht : 0 ≤ t) (hu : t ≤ u) (n : Nat) : fbn F h t n ≤ fbn F h u n := by
  induction n with
  | zero => exact hu
  | succ n ih => exact beh_mono hF (fbn_rng hF ht n).1 ih
/-- what the first n pulleys give to the pull on a block -/
def psum (f : Nat → Int) (F : Int) (h : Bool) (b t : Int) : Nat → Int
  | 0 => 0
  | n + 1 => psum f F h b t n + (if f n = b then fbn F h t (2 * n + 1) + fbn F h t (2 * n + 2) else 0)
theorem psum_le {f : Nat → Int} {F : Int} {h : Bool} {b t : Int} (hF : 0 ≤ F ∧ F ≤ 30) (ht : 0 ≤ t ∧ t ≤ 1000000) : ∀ {n : Nat}, n ≤ 10 → 0 ≤ psum f F h b t n ∧ psum f F h b t n ≤ n * 8388608000000
  | 0, _ => ⟨Int.le_refl _, Int.le_refl _⟩
  | n + 1, hn => by
    have ih := psum_le (f := f) (h := h) (b := b) hF ht (n := n) (by omega)
    have h1 := fbn_le (h := h) (n := 2 * n + 1) hF ht (by omega)
    have h2 := fbn_le (h := h) (n := 2 * n + 2) hF ht (by omega)
    simp only [psum]
    split <;> omega
theorem psum_mono {f : Nat → Int} {F : Int} {h : Bool} {b t u : Int} (hF : 0 ≤ F ∧ F ≤ 30) (ht : 0 ≤ t) (hu : t ≤ u) (n : Nat) : psum f F h b t n ≤ psum f F h b u n := by
  induction n with
  | zero => exact Int.le_refl _
  | succ n ih =>
    have h1 := fbn_mono (h := h) hF ht hu (2 * n + 1)
    have h2 := fbn_mono (h := h) hF ht hu (2 * n + 2)
    simp only [psum]
    split <;> omega
theorem psum_congr {f f' : Nat → Int} {F : Int} {h : Bool} {b t : Int} {n : Nat} (hh : ∀ i, i < n → f i = f' i) : psum f F h b t n = psum f' F h b t n := by
  induction n with
  | zero => rfl
  | succ n ih =>
    simp only [psum]
    rw [ih (fun i hi => hh i (by omega)), hh n (by omega)]
/-- the pull on a block -/
def pul (f : Nat → Int) (F : Int) (h : Bool) (n : Nat) (E b t : Int) : Int := psum f F h b t n + (if E = b then fbn F h t (2 * n + 1) else 0)
theorem pul_le {f : Nat → Int} {F : Int} {h : Bool} {n : Nat} {E b t : Int} (hF : 0 ≤ F ∧ F ≤ 30) (ht : 0 ≤ t ∧ t ≤ 1000000) (hn : n ≤ 10) : 0 ≤ pul f F h n E b t ∧ pul f F h n E b t ≤ 90000000000000 := by
  have h1 := psum_le (f := f) (h := h) (b := b) hF ht hn
  have h2 := fbn_le (h := h) (n := 2 * n + 1) hF ht (by omega)
  unfold pul
  split <;> omega
theorem pul_mono {f : Nat → Int} {F : Int} {h : Bool} {n : Nat} {E b t u : Int} (hF : 0 ≤ F ∧ F ≤ 30) (ht : 0 ≤ t) (hu : t ≤ u) : pul f F h n E b t ≤ pul f F h n E b u := by
  have h1 := psum_mono (f := f) (h := h) (b := b) hF ht hu n
  have h2 := fbn_mono (h := h) hF ht hu (2 * n + 1)
  unfold pul
  split <;> omega
theorem pul_congr {f f' : Nat → Int} {F : Int} {h : Bool} {n : Nat} {E b t : Int} (hh : ∀ i, i < n → f i = f' i) : pul f F h n E b t = pul f' F h n E b t := by
  unfold pul
  rw [psum_congr hh]
/-- r is the least force with which p is at least w -/
def IsL (p : Int → Int) (w r : Int) : Prop := (0 ≤ r ∧ r ≤ 1000000) ∧ w ≤ p r ∧ ∀ f, 0 ≤ f → f < r → p f < w
theorem IsL.one {p : Int → Int} {w r r' : Int} (h : IsL p w r) (h' : IsL p w r') : r = r' := by
  obtain ⟨a1, a2, a3⟩ := h
  obtain ⟨b1, b2, b3⟩ := h'
  rcases Int.lt_trichotomy r r' with h | h | h
  · have := b3 r a1.1 h; omega
  · exact h
  · have := a3 r' b1.1 h; omega
theorem IsL.ex {p : Int → Int} {w : Int} (h : w ≤ p 1000000) : ∃ r, IsL p w r := by
  have key : ∀ n : Nat, n ≤ 1000000 → w ≤ p (n : Int) → ∃ r, IsL p w r := by
    intro n
    induction n using Nat.strongRecOn with
    | ind n ih =>
      intro hn hw
      by_cases hx : ∃ k : Nat, k < n ∧ w ≤ p (k : Int)
      · obtain ⟨k, hk, hwk⟩ := hx
        exact ih k hk (by omega) hwk
      · refine ⟨n, ⟨by omega, by omega⟩, hw, fun f h0 hf => ?_⟩
        have := fun hh => hx ⟨f.toNat, by omega, hh⟩
        rw [Int.toNat_of_nonneg h0] at this
        exact Int.not_le.mp this
  exact key 1000000 (by omega) h

/-- the least force, -1 if there is none -/
noncomputable def lst (p : Int → Int) (w : Int) : Int := @dite Int (∃ r, IsL p w r) (Classical.propDecidable _) (fun h => Classical.choose h) (fun _ => -1)
theorem lst_eq {p : Int → Int} {w r : Int} (h : IsL p w r) : lst p w = r := by
  have hx : ∃ r, IsL p w r := ⟨r, h⟩
  unfold lst
  rw [dif_pos hx]
  exact (Classical.choose_spec hx).one h
theorem lst_none {p : Int → Int} {w : Int} (hm : ∀ a b, 0 ≤ a → a ≤ b → p a ≤ p b) (h : p 1000000 < w) : lst p w = -1 := by
  unfold lst
  rw [dif_neg]
  rintro ⟨r, h1, h2, -⟩
  have := hm r 1000000 h1.1 h1.2
  omega
theorem lst_rng (p : Int → Int) (w : Int) : -1 ≤ lst p w ∧ lst p w ≤ 1000000 := by
  unfold lst
  split
  · next h => have := (Classical.choose_spec h).1; omega
  · decide
/-- the lifting (holding) force of a block: -1 without strands -/
noncomputable def lea (f : Nat → Int) (F : Int) (h : Bool) (n : Nat) (E b w : Int) : Int := if strn f n E b = 0 then -1 else lst (pul f F h n E b) w
theorem lea_rng (f : Nat → Int) (F : Int) (h : Bool) (n : Nat) (E b w : Int) : -1 ≤ lea f F h n E b w ∧ lea f F h n E b w ≤ 1000000 := by
  have := lst_rng (pul f F h n E b) w
  unfold lea
  split <;> omega
theorem lea_congr {f f' : Nat → Int} {F : Int} {h : Bool} {n : Nat} {E b w : Int} (hh : ∀ i, i < n → f i = f' i) : lea f F h n E b w = lea f' F h n E b w := by
  unfold lea
  rw [strn_congr hh, show pul f F h n E b = pul f' F h n E b from funext fun t => pul_congr hh]
/-- copying the first n -/
def cpy (n : Nat) (f h : Nat → Int) : Nat → Int := fun j => if j < n then f j else h j
/-- a method that answers r0 and leaves the world w0 -/
abbrev PE (r0 : Option Value) (w0 : va_W) : Option Value → va_W → Prop := fun r w' => r = r0 ∧ w' = w0
