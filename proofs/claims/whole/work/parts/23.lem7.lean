theorem has_ix {nr np : Nat} {row place : Int32} (h1 : nr < 2 ^ 31) (h2 : np < 2 ^ 31) (h : ¬ F_X1_has nr np row place = 0) : (row = nI row.toNatClampNeg ∧ row.toNatClampNeg < nr) ∧ (place = nI place.toNatClampNeg ∧ place.toNatClampNeg < np) := by
  by_cases c1 : F_X7_within row 0 (nI nr - 1) = 0
  · exact absurd (by rw [F_X1_has, if_pos c1]) h
  · by_cases c2 : F_X7_within place 0 (nI np - 1) = 0
    · exact absurd (by rw [F_X1_has, if_neg c1, if_pos c2]) h
    · exact ⟨wn_ix h1 c1, wn_ix h2 c2⟩
theorem has_d {nr np dg : Nat} {place : Int32} (h1 : nr < 2 ^ 31) (h2 : np < 2 ^ 31) (h3 : dg ≤ nr) (h : ¬ F_X1_has nr np (nI dg) place = 0) : dg < nr ∧ (place = nI place.toNatClampNeg ∧ place.toNatClampNeg < np) := by
  obtain ⟨⟨-, a2⟩, b⟩ := has_ix h1 h2 h
  rw [nI_clamp (by omega)] at a2
  exact ⟨a2, b⟩
theorem room_ok {nb : Nat} (h0 : nb ≤ 300) (h : ¬ F_X3_hasRoom nb = 0) : nb + 20 ≤ 300 := by
  by_cases c : 300 < nI nb + 20
  · exact absurd (by rw [F_X3_hasRoom, if_pos c]) h
  · have e : nI nb + 20 = nI (nb + 20) := nI_add nb 20
    rw [e] at c
    have := (not_congr (nI_ltI (a := 300) (b := nb + 20) (by decide) (by omega))).mp c
    omega
theorem full_lt {tk : Nat} (h0 : tk ≤ 10) (h : F_X2_isFull tk = 0) : tk < 10 := by
  by_cases c : nI tk < 10
  · exact (nI_ltI (a := tk) (b := 10) (by omega) (by decide)).mp c
  · rw [F_X2_isFull, if_neg c] at h
    exact absurd h (by decide)
theorem wn_le {x : Int32} {n : Nat} (hn : n < 2 ^ 31) (h : ¬ F_X7_within x 0 (nI n) = 0) : x = nI x.toNatClampNeg ∧ x.toNatClampNeg ≤ n := by
  obtain ⟨h1, h2⟩ := wn_1 h
  obtain ⟨j, hj, rfl⟩ := nI_of h1
  rw [nI_clamp hj]
  refine ⟨rfl, ?_⟩
  rcases Nat.lt_or_ge n j with q | q
  · exact absurd (nI_lt q hj) h2
  · exact q
/-- the places that were dug lie in the ground -/
def okP (fp : Nat → Int32) (dg np : Nat) : Prop := ∀ i, i < dg → fp i = nI (fp i).toNatClampNeg ∧ (fp i).toNatClampNeg < np
theorem dp_ok {fp : Nat → Int32} {dg np : Nat} (hd : dg < 2 ^ 31) (h : okP fp dg np) : ¬ F_X6_dredgePlace dg fp = (-1) → F_X6_dredgePlace dg fp = nI (F_X6_dredgePlace dg fp).toNatClampNeg ∧ (F_X6_dredgePlace dg fp).toNatClampNeg < np := by
  intro hne
  by_cases c : nI dg ≤ 0
  · exact absurd (by rw [F_X6_dredgePlace, if_pos c]) hne
  · have e : F_X6_dredgePlace dg fp = fp (dg - 1) := by rw [F_X6_dredgePlace, if_neg c]
    rw [e]
    exact h _ (by have := npos c; omega)
theorem lay_01 {dg : Nat} {fp fb : Nat → Int32} {row place : Int32} : F_X6_layBack dg fp fb row place = 0 ∨ F_X6_layBack dg fp fb row place = 1 := by
  unfold F_X6_layBack
  split
  · exact Or.inl rfl
  · split
    · split
      · exact Or.inr rfl
      · exact Or.inl rfl
    · exact Or.inl rfl
theorem lay_nar {dg : Nat} {fp fb : Nat → Int32} {row place : Int32} : narrow .boolean (.int (F_X6_layBack dg fp fb row place)) = .int (F_X6_layBack dg fp fb row place) := by
  rcases lay_01 (dg := dg) (fp := fp) (fb := fb) (row := row) (place := place) with h | h <;> rw [h] <;> rfl
