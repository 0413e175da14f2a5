/-- the reference's reading of up to n statements: whether all is right, place, word's end, number, what is told -/
def rdM (ln tk : Nat) (d : Nat → Int32) : Nat → Nat → Nat → Int32 → (Nat → Int32) → Int32 × Nat × Nat × Int32 × (Nat → Int32)
  | 0, po, we, nu, t => if po < ln then (0, po, we, nu, t) else (1, po, we, nu, t)
  | f + 1, po, we, nu, t => if po < ln then (if F_X8_statement ln po d = 0 then (0, F_X8_statement_0_27 ln po d, F_X8_statement_0_32 ln po d, F_X8_statement_0_33 nu ln po d, F_X8_statement_2 ln po d t tk) else rdM ln tk d f (sk (blM d) ln (F_X8_statement_0_27 ln po d)) (F_X8_statement_0_32 ln po d) (F_X8_statement_0_33 nu ln po d) (F_X8_statement_2 ln po d t tk)) else (1, po, we, nu, t)
theorem rdM_end {ln tk : Nat} {d : Nat → Int32} {po we : Nat} {nu : Int32} {t : Nat → Int32} (n : Nat) (h : ln ≤ po) : rdM ln tk d n po we nu t = (1, po, we, nu, t) := by
  cases n with
  | zero => rw [rdM, if_neg (by omega)]
  | succ n => rw [rdM, if_neg (by omega)]
theorem rdM_13 {ln tk : Nat} {d : Nat → Int32} {po we : Nat} {nu : Int32} {t : Nat → Int32} {x : Nat} (hx : x = 12) (h : po < ln) : rdM ln tk d (12 - x) po we nu t = (0, po, we, nu, t) := by
  subst hx
  show rdM ln tk d 0 po we nu t = _
  rw [rdM, if_pos h]
theorem rdM_bad {ln tk : Nat} {d : Nat → Int32} {po we : Nat} {nu : Int32} {t : Nat → Int32} {x : Nat} (hx : x < 12) (h : po < ln) (h2 : F_X8_statement ln po d = 0) : rdM ln tk d (12 - x) po we nu t = (0, F_X8_statement_0_27 ln po d, F_X8_statement_0_32 ln po d, F_X8_statement_0_33 nu ln po d, F_X8_statement_2 ln po d t tk) := by
  obtain ⟨k, hk⟩ : ∃ k, 12 - x = k + 1 := ⟨12 - x - 1, by omega⟩
  rw [hk, rdM, if_pos h, if_pos h2]
theorem rdM_good {ln tk : Nat} {d : Nat → Int32} {po we : Nat} {nu : Int32} {t : Nat → Int32} {x : Nat} (hx : x < 12) (h : po < ln) (h2 : ¬ F_X8_statement ln po d = 0) : rdM ln tk d (12 - x) po we nu t = rdM ln tk d (12 - (x + 1)) (sk (blM d) ln (F_X8_statement_0_27 ln po d)) (F_X8_statement_0_32 ln po d) (F_X8_statement_0_33 nu ln po d) (F_X8_statement_2 ln po d t tk) := by
  obtain ⟨k, hk⟩ : ∃ k, 12 - x = k + 1 := ⟨12 - x - 1, by omega⟩
  have e : 12 - (x + 1) = k := by omega
  rw [hk, e, rdM, if_pos h, if_neg h2]
theorem st27_le {ln po : Nat} {d : Nat → Int32} (h : po ≤ ln) (hln : ln ≤ 300) : F_X8_statement_0_27 ln po d ≤ ln := by
  have h1 := (sk_le (b := blM d) h).1
  have h2 := poK_le (d := d) h1
  have h3 := tn27_le (d := d) h2
  have h4 := tk27_le (d := d) (w := 29807) h3
  have h5 := tn27_le (d := d) h4
  have h6 := (sk_le (b := blM d) h5).1
  have h7 := (sk_le (b := blM d) h3).1
  unfold F_X8_statement_0_27
  split
  · exact h2
  · split
    · exact h3
    · split
      · split
        · exact h4
        · split
          · exact h5
          · split
            · exact h6
            · rename_i c
              split
              · exact lt_ne h6 (by omega) c
              · exact h6
      · split
        · exact h7
        · rename_i c
          split
          · exact lt_ne h7 (by omega) c
          · exact h7
theorem mu0 {m : Nat} {r : Int32} (h : r = 1) (hm : m ≤ 12) : (if (0 : Int32) = 0 then 0 else 14 - (m + 1)) < (if r = 0 then 0 else 14 - m) := by
  subst h
  rw [if_pos rfl, if_neg (by decide)]
  omega
theorem mu1 {m : Nat} {r : Int32} (h : r = 1) (hm : m ≤ 12) : (if (1 : Int32) = 0 then 0 else 14 - (m + 1)) < (if r = 0 then 0 else 14 - m) := by
  subst h
  rw [if_neg (by decide), if_neg (by decide)]
  omega
