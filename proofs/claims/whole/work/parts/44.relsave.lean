/-! the relation of the whole: saved states -/
theorem rel_cg {k : Nat → Nat → Int} {v w : Nat → Int} (h : RelS k v) (hk : SOK k) (e : ∀ j, j < 75 → w j = v j) : RelS k w := by
  have hm := rel_ok h hk
  have h2 := hm.1
  have h6 := hm.2.2.2.2.2.2.2
  obtain ⟨r0, r1, r3, r4, r5⟩ := h
  refine ⟨fun j hj => by rw [e j (by omega)]; exact r0 j hj, fun i hi => ?_, fun b hb => ?_, fun b hb => ?_, fun j c hj hc => ?_⟩
  · rw [e 2 (by decide)] at hi
    show k 1 i = w (17 + i)
    rw [e _ (by omega)]
    exact r1 i hi
  · show k 3 b = w (9 + b)
    rw [e _ (by omega)]
    exact r3 b hb
  · show k 4 b = w (13 + b)
    rw [e _ (by omega)]
    exact r4 b hb
  · rw [e 6 (by decide)] at hj
    rw [e _ (by omega)]
    exact r5 j c hj hc
/-- the saved states, the newest first -/
def RelP (kv : Nat → Nat → Nat → Int) (ns : Nat) (pa : Nat → Int) (sv : Nat) : Prop := ∀ i, i < sv → RelS (kv ((ns + 3 - i) % 4)) (fun j => pa (75 * (sv - 1 - i) + j))
theorem rel_save {kn : Nat → Nat → Int} {kv : Nat → Nat → Nat → Int} {ns sv : Nat} {v pa : Nat → Int} (h : RelS kn v) (hk : SOK kn) (hv : ∀ j, j < 4 → SOK (kv j)) (hP : RelP kv ns pa sv) (hns : ns < 4) (hsv : sv ≤ 4) : RelP (svk kn kv ns) (svn ns) (svP v pa sv) (svN sv) := by
  intro i hi
  have hs : svN sv ≤ 4 ∧ svN sv ≤ sv + 1 ∧ (sv = 4 → svN sv = 4) ∧ (sv ≠ 4 → svN sv = sv + 1) := by
    unfold svN
    split <;> omega
  by_cases h0 : i = 0
  · subst h0
    have e1 : (svn ns + 3 - 0) % 4 = ns := by show ((ns + 1) % 4 + 3 - 0) % 4 = ns; omega
    rw [e1]
    have e2 : svk kn kv ns ns = cpS kn (kv ns) := by unfold svk va_up; exact if_pos rfl
    rw [e2]
    refine rel_cg (rel_cp h hk) (SOK_cpS hk) (fun j hj => ?_)
    show svP v pa sv (75 * (svN sv - 1 - 0) + j) = v j
    unfold svP
    by_cases h4 : sv = 4
    · rw [if_pos h4, hs.2.2.1 h4]
      unfold cpB
      rw [if_pos ⟨by omega, by omega⟩, show 75 * (4 - 1 - 0) + j - 225 = j by omega]
    · rw [if_neg h4, hs.2.2.2 h4]
      unfold cpB
      rw [if_pos ⟨by omega, by omega⟩, show 75 * (sv + 1 - 1 - 0) + j - 75 * sv = j by omega]
  · have e1 : (svn ns + 3 - i) % 4 = (ns + 3 - (i - 1)) % 4 := by show ((ns + 1) % 4 + 3 - i) % 4 = _; omega
    rw [e1]
    have e3 : (ns + 3 - (i - 1)) % 4 ≠ ns := by omega
    have e2 : svk kn kv ns ((ns + 3 - (i - 1)) % 4) = kv ((ns + 3 - (i - 1)) % 4) := by unfold svk va_up; exact if_neg e3
    rw [e2]
    by_cases h4 : sv = 4
    · have h9 := hP (i - 1) (by omega)
      refine rel_cg h9 (hv _ (by omega)) (fun j hj => ?_)
      show svP v pa sv (75 * (svN sv - 1 - i) + j) = pa (75 * (sv - 1 - (i - 1)) + j)
      unfold svP
      rw [if_pos h4, hs.2.2.1 h4]
      unfold cpB shf
      rw [if_neg (by omega), if_pos (by omega)]
      congr 1
      omega
    · have h9 := hP (i - 1) (by have := hs.2.2.2 h4; omega)
      refine rel_cg h9 (hv _ (by omega)) (fun j hj => ?_)
      show svP v pa sv (75 * (svN sv - 1 - i) + j) = pa (75 * (sv - 1 - (i - 1)) + j)
      have h7 := hs.2.2.2 h4
      unfold svP
      rw [if_neg h4]
      unfold cpB
      rw [if_neg (by omega)]
      congr 1
      omega
theorem rel_undo {kn : Nat → Nat → Int} {kv : Nat → Nat → Nat → Int} {ns sv : Nat} {v pa : Nat → Int} (hv : ∀ j, j < 4 → SOK (kv j)) (hP : RelP kv ns pa (sv + 1)) (hns : ns < 4) (hsv : sv < 4) : RelS (cpS (kv ((ns + 3) % 4)) kn) (cpy 75 (fun j => pa (75 * sv + j)) v) ∧ RelP kv ((ns + 3) % 4) pa sv := by
  have h0 := hP 0 (by omega)
  have e0 : (ns + 3 - 0) % 4 = (ns + 3) % 4 := rfl
  rw [e0] at h0
  have hk := hv ((ns + 3) % 4) (by omega)
  refine ⟨rel_cg (rel_cp h0 hk) (SOK_cpS hk) (fun j hj => ?_), fun i hi => ?_⟩
  · show cpy 75 (fun j => pa (75 * sv + j)) v j = pa (75 * (sv + 1 - 1 - 0) + j)
    unfold cpy
    rw [if_pos hj, show sv + 1 - 1 - 0 = sv by omega]
  · have h9 := hP (i + 1) (by omega)
    rw [show (ns + 3 - (i + 1)) % 4 = ((ns + 3) % 4 + 3 - i) % 4 by omega, show sv + 1 - 1 - (i + 1) = sv - 1 - i by omega] at h9
    exact h9
