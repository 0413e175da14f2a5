/-- is the token the w-th text -/
def isW (tp : Nat → Int32) (kd : Int32) (sa so w : Nat) : Int32 := if kd = 1 ∧ so - sa = tx_len.getD w 0 ∧ ∀ k, k < tx_len.getD w 0 → tp (sa + k) = F_J1_charAt_3b067 w k then 1 else 0
theorem isW_k {tp : Nat → Int32} {kd : Int32} {sa so w : Nat} (h : ¬ kd = 1) : isW tp kd sa so w = 0 := by rw [isW, if_neg (fun q => h q.1)]
theorem isW_l {tp : Nat → Int32} {kd : Int32} {sa so w : Nat} (hw : w < 7) (h1 : sa ≤ so) (h2 : so ≤ 300) (h : ¬ nI so - nI sa = nI (tx_len.getD w 0)) : isW tp kd sa so w = 0 := by
  rw [isW, if_neg (fun q => h (by rw [pk_sub h1, q.2.1]))]
theorem isW_m {tp : Nat → Int32} {kd : Int32} {sa so w t : Nat} (ht : t < tx_len.getD w 0) (h : ¬ tp (sa + t) = F_J1_charAt_3b067 w t) : isW tp kd sa so w = 0 := by rw [isW, if_neg (fun q => h (q.2.2 t ht))]
theorem isW_y {tp : Nat → Int32} {kd : Int32} {sa so w : Nat} (h0 : kd = 1) (h1 : so - sa = tx_len.getD w 0) (h : ∀ k, k < tx_len.getD w 0 → tp (sa + k) = F_J1_charAt_3b067 w k) : isW tp kd sa so w = 1 := by rw [isW, if_pos ⟨h0, h1, h⟩]
theorem len_eq {so sa w : Nat} (hw : w < 7) (h1 : sa ≤ so) (h2 : so ≤ 300) (h : nI so - nI sa = nI (tx_len.getD w 0)) : so - sa = tx_len.getD w 0 := by
  rw [pk_sub h1] at h
  exact (nI_eq (by omega) (tx_lt hw)).mp h
theorem isW_01 {tp : Nat → Int32} {kd : Int32} {sa so w : Nat} : isW tp kd sa so w = 0 ∨ isW tp kd sa so w = 1 := by
  unfold isW
  split
  · exact Or.inr rfl
  · exact Or.inl rfl
def bl (tp : Nat → Int32) : Nat → Bool := fun k => decide (¬ F_X3_isBlank (tp k) = 0)
def kb (tp : Nat → Int32) (K : Int32) : Nat → Bool := fun k => decide (F_X3_kindOf (tp k) = K)
def skE (tp : Nat → Int32) (K : Int32) (ln y : Nat) : Nat := if K = 1 ∨ K = 2 then sk (kb tp K) ln y else y
theorem skE_no {tp : Nat → Int32} {K : Int32} {ln y : Nat} (h1 : ¬ K = 1) (h2 : ¬ K = 2) : skE tp K ln y = y := by
  rw [skE, if_neg (fun q => q.elim h1 h2)]
theorem skE_end {tp : Nat → Int32} {K : Int32} {ln y : Nat} (h : ln ≤ y) : skE tp K ln y = y := by
  unfold skE
  split
  · exact sk_end h
  · rfl
theorem skE_stop {tp : Nat → Int32} {K : Int32} {ln y : Nat} (h : ¬ F_X3_kindOf (tp y) = K) : skE tp K ln y = y := by
  unfold skE
  split
  · exact sk_stop (decide_eq_false h)
  · rfl
theorem skE_step {tp : Nat → Int32} {K : Int32} {ln y : Nat} (hK : K = 1 ∨ K = 2) (hy : y < ln) (h : F_X3_kindOf (tp y) = K) : skE tp K ln y = skE tp K ln (y + 1) := by
  rw [skE, skE, if_pos hK, if_pos hK]
  exact sk_step hy (decide_eq_true h)
theorem skE_le {tp : Nat → Int32} {K : Int32} {ln y : Nat} (h : y ≤ ln) : skE tp K ln y ≤ ln ∧ y ≤ skE tp K ln y := by
  unfold skE
  split
  · exact sk_le h
  · exact ⟨h, Nat.le_refl _⟩
