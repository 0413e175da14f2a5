/-- -1, or a place below n -/
def okZ (n : Nat) (z : Int32) : Prop := z = -1 ∨ (z = nI z.toNatClampNeg ∧ z.toNatClampNeg < n)
theorem okZ_nI {n k : Nat} (hk : k < n) (hn : n < 2 ^ 31) : okZ n (nI k) := by
  refine Or.inr ?_
  rw [nI_clamp (by omega)]
  exact ⟨rfl, hk⟩
theorem lawAt_up {fs : Nat → Int32} {day : Int32} {t : Nat} (c : day < fs t) : lawAt fs day (t + 1) = lawAt fs day t := by rw [lawAt, if_pos c]
theorem lawAt_upn {fs : Nat → Int32} {day : Int32} {t : Nat} (c : ¬ day < fs t) : lawAt fs day (t + 1) = nI t := by rw [lawAt, if_neg c]
theorem wn_7 {x : Int32} (h : ¬ F_X8_isIn x 0 7 = 0) (h7 : ¬ x = 7) : x = nI x.toNatClampNeg ∧ x.toNatClampNeg < 7 := by
  have h' : ¬ F_X7_within x 0 (nI 7) = 0 := h
  obtain ⟨h1, h2⟩ := wn_le (by decide) h'
  refine ⟨h1, ?_⟩
  rcases Nat.lt_or_ge x.toNatClampNeg 7 with q | q
  · exact q
  · have e : x.toNatClampNeg = 7 := by omega
    rw [e] at h1
    exact absurd h1 h7
theorem room_m {nb : Nat} (h0 : nb ≤ 300) (c : nI nb + 20 ≤ 300) : nb + 20 ≤ 300 := by
  have e : nI nb + 20 = nI (nb + 20) := nI_add nb 20
  rw [e] at c
  exact (nI_leI (a := nb + 20) (b := 300) (by omega) (by decide)).mp c
