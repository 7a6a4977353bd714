/-! efficiency: both sides ask the same of the work put in -/
theorem effB_iff {put : Int} (h : 0 < put ∧ put < 9007199254740992) : ¬ effB put := by
  have ht : (lI put).toInt = put := lI_toInt (by omega)
  have hc : FP.dcmp (FP.l2d (lI put)) 0 = some .gt := by
    have h1 := Jvm.FP.Core.dcmp_l2d (a := lI put) (b := 0) (by unfold Jvm.FP.Core.Small53; omega) (by unfold Jvm.FP.Core.Small53; decide)
    rw [Jvm.FP.Core.l2d_zero, ht] at h1
    exact h1.trans (congrArg some (Int.compare_eq_gt.mpr h.1))
  unfold effB
  rw [hc]
  decide
theorem eff_eq {put got : Int} (h : 0 ≤ put ∧ put < 9007199254740992) : effF put got = effV put got := by
  unfold effF effV
  by_cases h0 : put = 0
  · subst h0
    rw [if_pos rfl]
    exact if_pos effB_0
  · rw [if_neg h0, if_neg (effB_iff ⟨by omega, h.2⟩)]
