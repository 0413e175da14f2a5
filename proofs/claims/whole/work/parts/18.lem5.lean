theorem scan_le {ln so : Nat} {tp : Nat → Int32} (h : so ≤ ln) (hln : ln ≤ 300) : F_X3_scan_0_5 ln so tp ≤ F_X3_scan_0_6 ln so tp ∧ F_X3_scan_0_6 ln so tp ≤ ln ∧ so ≤ F_X3_scan_0_5 ln so tp ∧ F_X3_scan_0_5 ln so tp = sk (bl tp) ln so := by
  obtain ⟨h1, h2⟩ := sk_le (b := bl tp) h
  have e5 : F_X3_scan_0_5 ln so tp = sk (bl tp) ln so := by
    unfold F_X3_scan_0_5
    split <;> rfl
  rw [e5]
  refine ⟨?_, ?_, h2, rfl⟩
  · unfold F_X3_scan_0_6
    split
    · have hc := (nI_ltI (by omega) (by omega)).mp ‹nI (sk (bl tp) ln so) < nI ln›
      have := (skE_le (tp := tp) (K := F_X3_kindOf (tp (sk (bl tp) ln so))) (ln := ln) (y := sk (bl tp) ln so + 1) hc).2
      omega
    · exact Nat.le_refl _
  · unfold F_X3_scan_0_6
    split
    · have hc := (nI_ltI (by omega) (by omega)).mp ‹nI (sk (bl tp) ln so) < nI ln›
      exact (skE_le hc).1
    · exact h1
theorem wn_in {k n : Nat} (hk : k < n) (hn : n < 2 ^ 31) : ¬ F_X7_within (nI k) 0 (nI n - 1) = 0 := by
  intro h
  rcases wn_0 h with q | q
  · exact nI_pos (by omega) q
  · rw [nI_dec (by omega)] at q
    have := (nI_ltI (by omega) (by omega)).mp q
    omega
theorem kw_nat {kd : Int32} {sa so : Nat} {tp : Nat → Int32} (h : ¬ F_X3_keyword kd sa so tp = (-1)) : F_X3_keyword kd sa so tp = nI (F_X3_keyword kd sa so tp).toNatClampNeg ∧ (F_X3_keyword kd sa so tp).toNatClampNeg < 7 := by
  revert h
  unfold F_X3_keyword
  intro h
  repeat' split
  all_goals first | (refine ⟨?_, ?_⟩ <;> decide) | skip
  all_goals simp_all
