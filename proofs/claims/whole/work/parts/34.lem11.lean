theorem sk_at {b : Nat → Bool} {n a : Nat} (h : a ≤ n) : sk b n a = n ∨ b (sk b n a) = false := by
  have key : ∀ (f a : Nat), f = n - a → a ≤ n → adv b n f a = n ∨ b (adv b n f a) = false := by
    intro f
    induction f with
    | zero => intro a h1 h2; exact Or.inl (by show a = n; omega)
    | succ f ih =>
      intro a h1 h2
      by_cases c : a < n ∧ b a = true
      · rw [adv, if_pos c]
        exact ih (a + 1) (by omega) c.1
      · rw [adv, if_neg c]
        rcases Nat.lt_or_ge a n with q | q
        · refine Or.inr ?_
          cases hb : b a with
          | false => rfl
          | true => exact absurd ⟨q, hb⟩ c
        · exact Or.inl (by omega)
  exact key (n - a) a rfl h
theorem sk_idem {b : Nat → Bool} {n a : Nat} (h : a ≤ n) : sk b n (sk b n a) = sk b n a := by
  rcases sk_at (b := b) h with q | q
  · exact sk_end (by omega)
  · exact sk_stop q
/-- the word at a place that is no blank -/
def wAt (d : Nat → Int32) (ln B : Nat) : Int64 := if nI (sk (leM d) ln B) - nI B ≤ 7 then wvM d B (sk (leM d) ln B - B) else 0
theorem wd_eq {ln x : Nat} {d : Nat → Int32} : F_X8_word ln x d = wAt d ln (sk (blM d) ln x) := rfl
theorem wd27 {ln x : Nat} {d : Nat → Int32} : F_X8_word_0_27 ln x d = sk (blM d) ln x := by
  unfold F_X8_word_0_27
  split <;> rfl
theorem wd32 {ln x : Nat} {d : Nat → Int32} : F_X8_word_0_32 ln x d = sk (leM d) ln (sk (blM d) ln x) := by
  unfold F_X8_word_0_32
  split <;> rfl
theorem tk_n {ln x B : Nat} {d : Nat → Int32} {w : Int64} (hx : sk (blM d) ln x = B) (c : F_X8_takes ln x d w = 0) : ¬ wAt d ln B = w := by
  intro q
  rw [F_X8_takes, wd_eq, hx, if_pos q] at c
  exact absurd c (by decide)
theorem tk_y {ln x B : Nat} {d : Nat → Int32} {w : Int64} (hx : sk (blM d) ln x = B) (c : ¬ F_X8_takes ln x d w = 0) : wAt d ln B = w := by
  by_cases q : wAt d ln B = w
  · exact q
  · exact absurd (by rw [F_X8_takes, wd_eq, hx, if_neg q]) c
theorem tk27_n {ln x B : Nat} {d : Nat → Int32} {w : Int64} (hx : sk (blM d) ln x = B) (c : F_X8_takes ln x d w = 0) : F_X8_takes_0_27 ln x d w = B := by
  have h := tk_n hx c
  rw [F_X8_takes_0_27, wd_eq, hx, if_neg h, wd27, hx]
theorem tk27_y {ln x B : Nat} {d : Nat → Int32} {w : Int64} (hx : sk (blM d) ln x = B) (c : ¬ F_X8_takes ln x d w = 0) : F_X8_takes_0_27 ln x d w = sk (leM d) ln B := by
  have h := tk_y hx c
  rw [F_X8_takes_0_27, wd_eq, hx, if_pos h, wd32, hx]
theorem tk27_le {ln x : Nat} {d : Nat → Int32} {w : Int64} (hx : x ≤ ln) : F_X8_takes_0_27 ln x d w ≤ ln := by
  have h1 := (sk_le (b := blM d) hx).1
  by_cases c : F_X8_takes ln x d w = 0
  · rw [tk27_n rfl c]
    exact h1
  · rw [tk27_y rfl c]
    exact (sk_le h1).1
theorem tn27_le {ln x : Nat} {d : Nat → Int32} (hx : x ≤ ln) : F_X8_takesNumber_0_27 ln x d ≤ ln := by
  have h1 := (sk_le (b := blM d) hx).1
  have h2 := (sk_le (b := diM d) h1).1
  unfold F_X8_takesNumber_0_27
  split
  · exact h1
  · split
    · exact h2
    · exact h1
/-- which keyword a packed word is -/
def kwM (w : Int64) : Int32 := if w = 465558725996 then 0 else if w = 1650552427 then 2 else if w = 427020345714 then 3 else if w = 1650549611 then 4 else if w = 32210714461238393 then 5 else if w = 1718185573 then 6 else -1
def poK (d : Nat → Int32) (ln B : Nat) : Nat := if kwM (wAt d ln B) = -1 then B else sk (leM d) ln B
theorem poK_le {d : Nat → Int32} {ln B : Nat} (h : B ≤ ln) : poK d ln B ≤ ln := by
  unfold poK
  split
  · exact h
  · exact (sk_le h).1
theorem poK_n {d : Nat → Int32} {ln B : Nat} {z : Int32} (hk : kwM (wAt d ln B) = z) (h : z = -1) : poK d ln B = B := by rw [poK, hk, if_pos h]
theorem poK_y {d : Nat → Int32} {ln B : Nat} {z : Int32} (hk : kwM (wAt d ln B) = z) (h : ¬ z = -1) : poK d ln B = sk (leM d) ln B := by rw [poK, hk, if_neg h]
theorem kwM_nat {w : Int64} (h : ¬ kwM w = (-1)) : kwM w = nI (kwM w).toNatClampNeg ∧ (kwM w).toNatClampNeg < 7 := by
  revert h
  unfold kwM
  intro h
  repeat' split
  all_goals first | (refine ⟨?_, ?_⟩ <;> decide) | skip
  all_goals simp_all
theorem ten_lt {tk : Nat} (h : tk ≤ 10) (c : ¬ nI tk = 10) : tk < 10 := by
  rcases Nat.lt_or_ge tk 10 with q | q
  · exact q
  · have e : tk = 10 := by omega
    subst e
    exact absurd (by decide) c
