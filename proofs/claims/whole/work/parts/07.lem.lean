theorem wn_1 {x a b : Int32} (h : ¬ F_X7_within x a b = 0) : ¬ x < a ∧ ¬ b < x := by
  by_cases h1 : x < a
  · exact absurd (by rw [F_X7_within, if_pos h1]) h
  · by_cases h2 : b < x
    · exact absurd (by rw [F_X7_within, if_neg h1, if_pos h2]) h
    · exact ⟨h1, h2⟩
theorem wn_0 {x a b : Int32} (h : F_X7_within x a b = 0) : x < a ∨ b < x := by
  by_cases h1 : x < a
  · exact Or.inl h1
  · by_cases h2 : b < x
    · exact Or.inr h2
    · rw [F_X7_within, if_neg h1, if_neg h2] at h
      exact absurd h (by decide)
theorem nI_dec {n : Nat} (h : 0 < n) : nI n - 1 = nI (n - 1) := by
  obtain ⟨k, rfl⟩ : ∃ k, n = k + 1 := ⟨n - 1, by omega⟩
  exact nI_pred k
theorem wn_ix {x : Int32} {n : Nat} (hn : n < 2 ^ 31) (h : ¬ F_X7_within x 0 (nI n - 1) = 0) : x = nI x.toNatClampNeg ∧ x.toNatClampNeg < n := by
  obtain ⟨h1, h2⟩ := wn_1 h
  obtain ⟨j, hj, rfl⟩ := nI_of h1
  rw [nI_clamp hj]
  refine ⟨rfl, ?_⟩
  rcases Nat.eq_zero_or_pos n with h0 | h0
  · subst h0
    refine absurd ?_ h2
    have e : nI 0 - 1 = (-1 : Int32) := by decide
    rw [e, Int32.lt_iff_toInt_lt, nI_toInt hj]
    have e2 : (-1 : Int32).toInt = -1 := by decide
    omega
  · rw [nI_dec h0] at h2
    rcases Nat.lt_or_ge j n with q | q
    · exact q
    · exact absurd (nI_lt (by omega) hj) h2
theorem le_go2 {N a t : Nat} (hN : N < 2 ^ 31) (ha : a ≤ N) (h : t ≤ N - a) (c : ¬ nI N ≤ nI (a + t)) : t < N - a := by
  have := le_go (N := N) (t := a + t) hN (by omega) c
  omega
theorem le_ex2 {N a t : Nat} (hN : N < 2 ^ 31) (ha : a ≤ N) (h : t ≤ N - a) (c : nI N ≤ nI (a + t)) : t = N - a := by
  have := le_ex (N := N) (t := a + t) hN (by omega) c
  omega
theorem lt_ex2 {u f t : Nat} (hN : u < 2 ^ 30) (ha : f ≤ u) (h : t ≤ u - f) (c : nI u < nI (f + 1 + t)) : t = u - f := by
  have := (nI_ltI (a := u) (b := f + 1 + t) (by omega) (by omega)).mp c
  omega
theorem lt_go2 {u f t : Nat} (hN : u < 2 ^ 30) (ha : f ≤ u) (h : t ≤ u - f) (c : ¬ nI u < nI (f + 1 + t)) : t < u - f := by
  have := (not_congr (nI_ltI (a := u) (b := f + 1 + t) (by omega) (by omega))).mp c
  omega
theorem dn_eq {n t : Nat} (h : t < n) : nI (n - t) - 1 = nI (n - 1 - t) := by
  rw [nI_dec (by omega)]
  congr 1
  omega
theorem dn_dec {n t : Nat} (h : t < n) : nI (n - 1 - t) + Int32.ofInt (-1) = nI (n - (t + 1)) - 1 := by
  have e : n - 1 - t = n - (t + 1) := by omega
  rw [e, Int32.sub_eq_add_neg]
  rfl
theorem dn_0 : nI 0 - 1 = (-1 : Int32) := by decide
theorem dn_go {n t : Nat} (h : t ≤ n) (c : ¬ nI (n - t) - 1 < 0) : t < n := by
  rcases Nat.lt_or_ge t n with q | q
  · exact q
  · have e : n - t = 0 := by omega
    rw [e] at c
    exact absurd (by decide) c
theorem dn_ex {n t : Nat} (hn : n < 2 ^ 31) (h : t ≤ n) (c : nI (n - t) - 1 < 0) : t = n := by
  rcases Nat.lt_or_ge t n with q | q
  · rw [dn_eq q] at c
    exact absurd c (nI_pos (by omega))
  · omega
/-- down to a bound -/
theorem db_go {n f t : Nat} (hn : n < 2 ^ 31) (hf : f ≤ n) (h : t ≤ n - f) (c : ¬ nI (n - t) - 1 < nI f) : t < n - f := by
  rcases Nat.lt_or_ge t (n - f) with q | q
  · exact q
  · have e : t = n - f := by omega
    have e2 : n - t = f := by omega
    rw [e2] at c
    rcases Nat.eq_zero_or_pos f with z | z
    · subst z
      exact absurd (by decide) c
    · rw [nI_dec z] at c
      exact absurd (nI_lt (by omega) (by omega)) c
theorem db_ex {n f t : Nat} (hn : n < 2 ^ 31) (hf : f ≤ n) (h : t ≤ n - f) (c : nI (n - t) - 1 < nI f) : t = n - f := by
  rcases Nat.lt_or_ge t (n - f) with q | q
  · rw [dn_eq (by omega)] at c
    have := (nI_ltI (a := n - 1 - t) (b := f) (by omega) (by omega)).mp c
    omega
  · omega
theorem npos {d : Nat} (c : ¬ nI d ≤ 0) : 0 < d := by
  rcases Nat.eq_zero_or_pos d with z | z
  · subst z
    exact absurd (by decide) c
  · exact z
theorem nzer {d : Nat} (hd : d < 2 ^ 31) (c : nI d ≤ 0) : d = 0 := by
  rcases Nat.eq_zero_or_pos d with z | z
  · exact z
  · exact absurd c (nI_nle z hd)
theorem lp_inv {σ : Type} {f : Nat → σ → σ} {P : σ → Prop} {n : Nat} (h : ∀ i x, i < n → P x → P (f i x)) {x : σ} (h0 : P x) : ∀ t, t ≤ n → P (lp f t x)
  | 0, _ => h0
  | t + 1, ht => h t _ (by omega) (lp_inv h h0 t (by omega))
theorem mx_pred {q : Nat} (h : q < 2 ^ 31) : (if 0 < nI q - 1 then nI q - 1 else 0) = nI (q - 1) := by
  rcases Nat.eq_zero_or_pos q with z | z
  · subst z
    decide
  · rw [nI_dec z]
    rcases Nat.eq_zero_or_pos (q - 1) with y | y
    · rw [y]
      decide
    · rw [if_pos]
      exact nI_lt (a := 0) y (by omega)
theorem mn_succ {q n : Nat} (h : q < 2 ^ 30) (h0 : 0 < n) (hn : n < 2 ^ 31) : (if nI q + 1 < nI n - 1 then nI q + 1 else nI n - 1) = nI (if q + 1 < n - 1 then q + 1 else n - 1) := by
  rw [nI_dec h0, nI_1]
  by_cases c : q + 1 < n - 1
  · rw [if_pos c, if_pos (nI_lt c (by omega))]
  · rw [if_neg c, if_neg (nI_nlt (by omega) (by omega))]
