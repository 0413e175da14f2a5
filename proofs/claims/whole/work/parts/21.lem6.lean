theorem rs_le {ln : Nat} {kd : Int32} {sa so : Nat} {tp : Nat → Int32} (h0 : sa ≤ so) (h : so ≤ ln) (hln : ln ≤ 300) : F_X3_readStatement_0_5 ln kd sa so tp ≤ F_X3_readStatement_0_6 ln kd sa so tp ∧ F_X3_readStatement_0_6 ln kd sa so tp ≤ ln := by
  obtain ⟨a1, a2, -, -⟩ := scan_le (tp := tp) h hln
  obtain ⟨b1, b2, -, -⟩ := scan_le (tp := tp) a2 hln
  obtain ⟨c1, c2, -, -⟩ := scan_le (tp := tp) b2 hln
  obtain ⟨d1, d2, -, -⟩ := scan_le (tp := tp) c2 hln
  unfold F_X3_readStatement_0_5 F_X3_readStatement_0_6
  split
  · exact ⟨h0, h⟩
  · split
    · exact ⟨a1, a2⟩
    · split
      · split
        · exact ⟨b1, b2⟩
        · split
          · exact ⟨c1, c2⟩
          · split
            · exact ⟨d1, d2⟩
            · exact ⟨d1, d2⟩
      · split
        · exact ⟨b1, b2⟩
        · exact ⟨b1, b2⟩
/-- the reading of up to n statements from so on: the answer, kind, start, stop, terms -/
def rd (ln : Nat) (tp : Nat → Int32) : Nat → Nat → (Nat → Int32) → Int32 × Int32 × Nat × Nat × (Nat → Int32)
  | 0, so, rt => if F_X3_scan_0_4 ln so tp = 0 then (-1, F_X3_scan_0_4 ln so tp, F_X3_scan_0_5 ln so tp, F_X3_scan_0_6 ln so tp, rt) else (nI (F_X3_scan_0_5 ln so tp), F_X3_scan_0_4 ln so tp, F_X3_scan_0_5 ln so tp, F_X3_scan_0_6 ln so tp, rt)
  | f + 1, so, rt => if F_X3_scan_0_4 ln so tp = 0 then (-1, F_X3_scan_0_4 ln so tp, F_X3_scan_0_5 ln so tp, F_X3_scan_0_6 ln so tp, rt) else if F_X3_readStatement ln (F_X3_scan_0_4 ln so tp) (F_X3_scan_0_5 ln so tp) (F_X3_scan_0_6 ln so tp) tp = 0 then (nI (F_X3_readStatement_0_5 ln (F_X3_scan_0_4 ln so tp) (F_X3_scan_0_5 ln so tp) (F_X3_scan_0_6 ln so tp) tp), F_X3_readStatement_0_4 ln (F_X3_scan_0_4 ln so tp) (F_X3_scan_0_5 ln so tp) (F_X3_scan_0_6 ln so tp) tp, F_X3_readStatement_0_5 ln (F_X3_scan_0_4 ln so tp) (F_X3_scan_0_5 ln so tp) (F_X3_scan_0_6 ln so tp) tp, F_X3_readStatement_0_6 ln (F_X3_scan_0_4 ln so tp) (F_X3_scan_0_5 ln so tp) (F_X3_scan_0_6 ln so tp) tp, F_X3_readStatement_2 ln (F_X3_scan_0_4 ln so tp) (F_X3_scan_0_5 ln so tp) (F_X3_scan_0_6 ln so tp) tp rt) else rd ln tp f (F_X3_readStatement_0_6 ln (F_X3_scan_0_4 ln so tp) (F_X3_scan_0_5 ln so tp) (F_X3_scan_0_6 ln so tp) tp) (F_X3_readStatement_2 ln (F_X3_scan_0_4 ln so tp) (F_X3_scan_0_5 ln so tp) (F_X3_scan_0_6 ln so tp) tp rt)
theorem rd_end {ln : Nat} {tp : Nat → Int32} {so : Nat} {rt : Nat → Int32} (n : Nat) (h : F_X3_scan_0_4 ln so tp = 0) : rd ln tp n so rt = (-1, F_X3_scan_0_4 ln so tp, F_X3_scan_0_5 ln so tp, F_X3_scan_0_6 ln so tp, rt) := by
  cases n with
  | zero => rw [rd, if_pos h]
  | succ n => rw [rd, if_pos h]
theorem rd_more {ln : Nat} {tp : Nat → Int32} {so : Nat} {rt : Nat → Int32} (h : ¬ F_X3_scan_0_4 ln so tp = 0) : rd ln tp 0 so rt = (nI (F_X3_scan_0_5 ln so tp), F_X3_scan_0_4 ln so tp, F_X3_scan_0_5 ln so tp, F_X3_scan_0_6 ln so tp, rt) := by
  rw [rd, if_neg h]
theorem rd_bad {ln : Nat} {tp : Nat → Int32} {so : Nat} {rt : Nat → Int32} {n t : Nat} (ht : t < n) (h : ¬ F_X3_scan_0_4 ln so tp = 0) (h2 : F_X3_readStatement ln (F_X3_scan_0_4 ln so tp) (F_X3_scan_0_5 ln so tp) (F_X3_scan_0_6 ln so tp) tp = 0) : rd ln tp (n - t) so rt = (nI (F_X3_readStatement_0_5 ln (F_X3_scan_0_4 ln so tp) (F_X3_scan_0_5 ln so tp) (F_X3_scan_0_6 ln so tp) tp), F_X3_readStatement_0_4 ln (F_X3_scan_0_4 ln so tp) (F_X3_scan_0_5 ln so tp) (F_X3_scan_0_6 ln so tp) tp, F_X3_readStatement_0_5 ln (F_X3_scan_0_4 ln so tp) (F_X3_scan_0_5 ln so tp) (F_X3_scan_0_6 ln so tp) tp, F_X3_readStatement_0_6 ln (F_X3_scan_0_4 ln so tp) (F_X3_scan_0_5 ln so tp) (F_X3_scan_0_6 ln so tp) tp, F_X3_readStatement_2 ln (F_X3_scan_0_4 ln so tp) (F_X3_scan_0_5 ln so tp) (F_X3_scan_0_6 ln so tp) tp rt) := by
  obtain ⟨k, hk⟩ : ∃ k, n - t = k + 1 := ⟨n - t - 1, by omega⟩
  rw [hk, rd, if_neg h, if_pos h2]
theorem rd_good {ln : Nat} {tp : Nat → Int32} {so : Nat} {rt : Nat → Int32} {n t : Nat} (ht : t < n) (h : ¬ F_X3_scan_0_4 ln so tp = 0) (h2 : ¬ F_X3_readStatement ln (F_X3_scan_0_4 ln so tp) (F_X3_scan_0_5 ln so tp) (F_X3_scan_0_6 ln so tp) tp = 0) : rd ln tp (n - t) so rt = rd ln tp (n - (t + 1)) (F_X3_readStatement_0_6 ln (F_X3_scan_0_4 ln so tp) (F_X3_scan_0_5 ln so tp) (F_X3_scan_0_6 ln so tp) tp) (F_X3_readStatement_2 ln (F_X3_scan_0_4 ln so tp) (F_X3_scan_0_5 ln so tp) (F_X3_scan_0_6 ln so tp) tp rt) := by
  obtain ⟨k, hk⟩ : ∃ k, n - t = k + 1 := ⟨n - t - 1, by omega⟩
  have e : n - (t + 1) = k := by omega
  rw [hk, e, rd, if_neg h, if_neg h2]
theorem mn_le {a b : Nat} (hb : b < 2 ^ 31) (h : a ≤ b) : (if nI a < nI b then nI a else nI b) = nI a := by
  by_cases c : a < b
  · rw [if_pos (nI_lt c hb)]
  · have e : a = b := by omega
    subst e
    rw [if_neg (nI_nlt (Nat.le_refl _) hb)]
theorem mx_0 {a : Nat} (hb : a < 2 ^ 31) : (if 0 < nI a then nI a else 0) = nI a := by
  rcases Nat.eq_zero_or_pos a with z | z
  · subst z
    decide
  · rw [if_pos]
    exact nI_lt (a := 0) z hb
