/-! the reference's ends are folds -/
theorem abs_nI {u i : Nat} (hu : u < 2 ^ 30) (hi : i < 2 ^ 30) : (if 0 ≤ nI u - nI i then nI u - nI i else 0 - (nI u - nI i)) = nI ((i - u) + (u - i)) := by
  have e := pk_sub_toInt hu hi
  have e0 : (0 : Int32).toInt = 0 := by decide
  by_cases c : 0 ≤ nI u - nI i
  · rw [if_pos c]
    rw [fa_le] at c
    rw [fa_eq, nI_toInt (by omega)]
    omega
  · rw [if_neg c]
    rw [fa_le] at c
    have e3 : (0 - (nI u - nI i)).toInt = 0 - (nI u - nI i).toInt := by
      rw [fb_subI] <;> omega
    rw [fa_eq, nI_toInt (by omega), e3]
    omega
def ds4 (i j u v : Nat) : Nat := (i - u) + (u - i) + ((j - v) + (v - j))
theorem aw_I {g : Int32} {i j u v : Nat} (hg : IGg g) (hu : u ≤ 20) (hi : i ≤ 20) (hv : v ≤ 20) (hj : j ≤ 20) : (g * ((if 0 ≤ ((nI u) - (nI i)) then ((nI u) - (nI i)) else 0 - ((nI u) - (nI i))) + (if 0 ≤ ((nI v) - (nI j)) then ((nI v) - (nI j)) else 0 - ((nI v) - (nI j))))).toInt = g.toInt * (ds4 i j u v : Nat) ∧ 0 ≤ g.toInt * (ds4 i j u v : Nat) ∧ g.toInt * (ds4 i j u v : Nat) ≤ 100000 := by
  obtain ⟨g1, g2⟩ := hg
  have b1 : 0 ≤ g.toInt * (ds4 i j u v : Nat) := Int.mul_nonneg g1 (Int.natCast_nonneg _)
  have b2 : g.toInt * (ds4 i j u v : Nat) ≤ 1000 * (ds4 i j u v : Nat) := Int.mul_le_mul_of_nonneg_right g2 (Int.natCast_nonneg _)
  have b3 : ds4 i j u v ≤ 100 := by unfold ds4; omega
  refine ⟨?_, b1, by omega⟩
  rw [abs_nI (by omega) (by omega), abs_nI (by omega) (by omega), nI_add]
  have e : (nI (ds4 i j u v)).toInt = (ds4 i j u v : Nat) := nI_toInt (by omega)
  show (g * nI (ds4 i j u v)).toInt = _
  rw [fb_mulI] <;> rw [e] <;> omega
theorem e0_I {g : Int32} {d3 d5 : Nat → Int32} {i j u v : Nat} {z : Int32} (hg : IGg g) (hu : u ≤ 20) (hi : i ≤ 20) (hv : v ≤ 20) (hj : j ≤ 20) (ht : d5 (8 * u + v) = 0 ∨ (0 ≤ (d3 (8 * u + v)).toInt ∧ (d3 (8 * u + v)).toInt ≤ 1000)) : (¬ ¬ d5 (8 * u + v) = 0 ∧ F_X8_end0_L54 g d3 d5 i j u v z = z) ∨ (¬ d5 (8 * u + v) = 0 ∧ (F_X8_end0_L54 g d3 d5 i j u v z).toInt = if z.toInt < (d3 (8 * u + v)).toInt - g.toInt * (ds4 i j u v : Nat) then (d3 (8 * u + v)).toInt - g.toInt * (ds4 i j u v : Nat) else z.toInt) := by
  obtain ⟨e, b1, b2⟩ := aw_I (i := i) (j := j) (u := u) (v := v) hg hu hi hv hj
  unfold F_X8_end0_L54
  generalize (g * ((if 0 ≤ ((nI u) - (nI i)) then ((nI u) - (nI i)) else 0 - ((nI u) - (nI i))) + (if 0 ≤ ((nI v) - (nI j)) then ((nI v) - (nI j)) else 0 - ((nI v) - (nI j))))) = aw at e ⊢
  by_cases c : d5 (8 * u + v) = 0
  · exact Or.inl ⟨fun q => q c, if_pos c⟩
  · have ht' := ht.resolve_left c
    have e2 : (d3 (8 * u + v) - aw).toInt = (d3 (8 * u + v)).toInt - g.toInt * (ds4 i j u v : Nat) := by
      rw [fb_subI] <;> omega
    refine Or.inr ⟨c, ?_⟩
    rw [if_neg c]
    by_cases c2 : z < d3 (8 * u + v) - aw
    · rw [if_pos c2, e2]
      rw [fa_lt, e2] at c2
      rw [if_pos c2]
    · rw [if_neg c2]
      rw [fa_lt, e2] at c2
      rw [if_neg c2]
theorem e1_I {g : Int32} {d3 d5 : Nat → Int32} {i j u v : Nat} {z : Int32} (hg : IGg g) (hu : u ≤ 20) (hi : i ≤ 20) (hv : v ≤ 20) (hj : j ≤ 20) (ht : d5 (8 * u + v) = 0 ∨ (0 ≤ (d3 (8 * u + v)).toInt ∧ (d3 (8 * u + v)).toInt ≤ 1000)) : (¬ ¬ d5 (8 * u + v) = 0 ∧ F_X8_end1_L54 g d3 d5 i j u v z = z) ∨ (¬ d5 (8 * u + v) = 0 ∧ (F_X8_end1_L54 g d3 d5 i j u v z).toInt = if (d3 (8 * u + v)).toInt + g.toInt * (ds4 i j u v : Nat) < z.toInt then (d3 (8 * u + v)).toInt + g.toInt * (ds4 i j u v : Nat) else z.toInt) := by
  obtain ⟨e, b1, b2⟩ := aw_I (i := i) (j := j) (u := u) (v := v) hg hu hi hv hj
  unfold F_X8_end1_L54
  generalize (g * ((if 0 ≤ ((nI u) - (nI i)) then ((nI u) - (nI i)) else 0 - ((nI u) - (nI i))) + (if 0 ≤ ((nI v) - (nI j)) then ((nI v) - (nI j)) else 0 - ((nI v) - (nI j))))) = aw at e ⊢
  by_cases c : d5 (8 * u + v) = 0
  · exact Or.inl ⟨fun q => q c, if_pos c⟩
  · have ht' := ht.resolve_left c
    have e2 : (d3 (8 * u + v) + aw).toInt = (d3 (8 * u + v)).toInt + g.toInt * (ds4 i j u v : Nat) := by
      rw [fb_addI] <;> omega
    refine Or.inr ⟨c, ?_⟩
    rw [if_neg c]
    by_cases c2 : d3 (8 * u + v) + aw < z
    · rw [if_pos c2, e2]
      rw [fa_lt, e2] at c2
      rw [if_pos c2]
    · rw [if_neg c2]
      rw [fa_lt, e2] at c2
      rw [if_neg c2]
theorem fold_mx {S : Nat → Int32} {P : Nat → Prop} {v : Nat → Int} {n : Nat} (hS : ∀ K, K < n → (¬ P K ∧ S (K + 1) = S K) ∨ (P K ∧ (S (K + 1)).toInt = if (S K).toInt < v K then v K else (S K).toInt)) : ∀ m, m ≤ n → (S 0).toInt ≤ (S m).toInt ∧ (∀ K, K < m → P K → v K ≤ (S m).toInt) ∧ ((S m).toInt = (S 0).toInt ∨ ∃ K, K < m ∧ P K ∧ (S m).toInt = v K)
  | 0, _ => ⟨Int.le_refl _, fun K hK => absurd hK (Nat.not_lt_zero K), Or.inl rfl⟩
  | m + 1, h => by
    obtain ⟨i1, i2, i3⟩ := fold_mx hS m (by omega)
    rcases hS m (by omega) with ⟨q1, q2⟩ | ⟨q1, q2⟩
    · rw [q2]
      refine ⟨i1, fun K hK hP => ?_, ?_⟩
      · by_cases c : K = m
        · subst c
          exact absurd hP q1
        · exact i2 K (by omega) hP
      · rcases i3 with i3 | ⟨K, k1, k2, k3⟩
        · exact Or.inl i3
        · exact Or.inr ⟨K, by omega, k2, k3⟩
    · by_cases c : (S m).toInt < v m
      · rw [if_pos c] at q2
        refine ⟨by omega, fun K hK hP => ?_, Or.inr ⟨m, by omega, q1, q2⟩⟩
        by_cases c2 : K = m
        · subst c2
          omega
        · have := i2 K (by omega) hP
          omega
      · rw [if_neg c] at q2
        refine ⟨by omega, fun K hK hP => ?_, ?_⟩
        · by_cases c2 : K = m
          · subst c2
            omega
          · have := i2 K (by omega) hP
            omega
        · rcases i3 with i3 | ⟨K, k1, k2, k3⟩
          · exact Or.inl (by omega)
          · exact Or.inr ⟨K, by omega, k2, by omega⟩
theorem fold_mn {S : Nat → Int32} {P : Nat → Prop} {v : Nat → Int} {n : Nat} (hS : ∀ K, K < n → (¬ P K ∧ S (K + 1) = S K) ∨ (P K ∧ (S (K + 1)).toInt = if v K < (S K).toInt then v K else (S K).toInt)) : ∀ m, m ≤ n → (S m).toInt ≤ (S 0).toInt ∧ (∀ K, K < m → P K → (S m).toInt ≤ v K) ∧ ((S m).toInt = (S 0).toInt ∨ ∃ K, K < m ∧ P K ∧ (S m).toInt = v K)
  | 0, _ => ⟨Int.le_refl _, fun K hK => absurd hK (Nat.not_lt_zero K), Or.inl rfl⟩
  | m + 1, h => by
    obtain ⟨i1, i2, i3⟩ := fold_mn hS m (by omega)
    rcases hS m (by omega) with ⟨q1, q2⟩ | ⟨q1, q2⟩
    · rw [q2]
      refine ⟨i1, fun K hK hP => ?_, ?_⟩
      · by_cases c : K = m
        · subst c
          exact absurd hP q1
        · exact i2 K (by omega) hP
      · rcases i3 with i3 | ⟨K, k1, k2, k3⟩
        · exact Or.inl i3
        · exact Or.inr ⟨K, by omega, k2, k3⟩
    · by_cases c : v m < (S m).toInt
      · rw [if_pos c] at q2
        refine ⟨by omega, fun K hK hP => ?_, Or.inr ⟨m, by omega, q1, q2⟩⟩
        by_cases c2 : K = m
        · subst c2
          omega
        · have := i2 K (by omega) hP
          omega
      · rw [if_neg c] at q2
        refine ⟨by omega, fun K hK hP => ?_, ?_⟩
        · by_cases c2 : K = m
          · subst c2
            omega
          · have := i2 K (by omega) hP
            omega
        · rcases i3 with i3 | ⟨K, k1, k2, k3⟩
          · exact Or.inl (by omega)
          · exact Or.inr ⟨K, by omega, k2, by omega⟩
theorem end0_at {g : Int32} {nr np i j : Nat} {d3 d5 : Nat → Int32} (hg : IGg g) (hnp : 0 < np) (hn2 : np ≤ 8) (hr2 : nr ≤ 20) (hi : i < nr) (hj : j < np) (ht : ∀ u v, u < nr → v < np → d5 (8 * u + v) = 0 ∨ (0 ≤ (d3 (8 * u + v)).toInt ∧ (d3 (8 * u + v)).toInt ≤ 1000)) (h0 : d5 (8 * i + j) = 0) : 0 ≤ (F_X8_end0 g nr np d3 d5 i j).toInt ∧ (∀ u v, u < nr → v < np → ¬ d5 (8 * u + v) = 0 → (d3 (8 * u + v)).toInt - g.toInt * (ds4 i j u v : Nat) ≤ (F_X8_end0 g nr np d3 d5 i j).toInt) ∧ ((F_X8_end0 g nr np d3 d5 i j).toInt = 0 ∨ ∃ u v, u < nr ∧ v < np ∧ ¬ d5 (8 * u + v) = 0 ∧ (F_X8_end0 g nr np d3 d5 i j).toInt = (d3 (8 * u + v)).toInt - g.toInt * (ds4 i j u v : Nat)) := by
  have e : F_X8_end0 g nr np d3 d5 i j = nst (fun u v => F_X8_end0_L54 g d3 d5 i j u v) np 0 (nr * np) := by
    unfold F_X8_end0
    rw [if_pos h0, nst_n _ hnp]
    rfl
  have lt : ∀ K, K < nr * np → K / np < nr := fun K hK => Nat.div_lt_of_lt_mul (by rw [Nat.mul_comm]; exact hK)
  have f := fold_mx (S := nst (fun u v => F_X8_end0_L54 g d3 d5 i j u v) np 0) (P := fun K => ¬ d5 (8 * (K / np) + K % np) = 0) (v := fun K => (d3 (8 * (K / np) + K % np)).toInt - g.toInt * (ds4 i j (K / np) (K % np) : Nat)) (n := nr * np) (fun K hK => by
    have h1 := lt K hK
    have h2 := Nat.mod_lt K hnp
    rw [nst_s _ hnp]
    exact e0_I hg (by omega) (by omega) (by omega) (by omega) (ht _ _ h1 h2)) (nr * np) (Nat.le_refl _)
  rw [← e, nst_0] at f
  obtain ⟨f1, f2, f3⟩ := f
  refine ⟨f1, fun u v hu hv hd => ?_, ?_⟩
  · have := f2 (u * np + v) (ix2 hu hv)
    simp only [(dm hv).1, (dm hv).2] at this
    exact this hd
  · rcases f3 with f3 | ⟨K, k1, k2, k3⟩
    · exact Or.inl f3
    · exact Or.inr ⟨K / np, K % np, lt K k1, Nat.mod_lt K hnp, k2, k3⟩
theorem end1_at {g : Int32} {nr np i j : Nat} {d3 d5 : Nat → Int32} (hg : IGg g) (hnp : 0 < np) (hn2 : np ≤ 8) (hr2 : nr ≤ 20) (hi : i < nr) (hj : j < np) (ht : ∀ u v, u < nr → v < np → d5 (8 * u + v) = 0 ∨ (0 ≤ (d3 (8 * u + v)).toInt ∧ (d3 (8 * u + v)).toInt ≤ 1000)) (h0 : d5 (8 * i + j) = 0) : (F_X8_end1 g nr np d3 d5 i j).toInt ≤ 1000 ∧ (∀ u v, u < nr → v < np → ¬ d5 (8 * u + v) = 0 → (F_X8_end1 g nr np d3 d5 i j).toInt ≤ (d3 (8 * u + v)).toInt + g.toInt * (ds4 i j u v : Nat)) ∧ ((F_X8_end1 g nr np d3 d5 i j).toInt = 1000 ∨ ∃ u v, u < nr ∧ v < np ∧ ¬ d5 (8 * u + v) = 0 ∧ (F_X8_end1 g nr np d3 d5 i j).toInt = (d3 (8 * u + v)).toInt + g.toInt * (ds4 i j u v : Nat)) := by
  have e : F_X8_end1 g nr np d3 d5 i j = nst (fun u v => F_X8_end1_L54 g d3 d5 i j u v) np 1000 (nr * np) := by
    unfold F_X8_end1
    rw [if_pos h0, nst_n _ hnp]
    rfl
  have lt : ∀ K, K < nr * np → K / np < nr := fun K hK => Nat.div_lt_of_lt_mul (by rw [Nat.mul_comm]; exact hK)
  have f := fold_mn (S := nst (fun u v => F_X8_end1_L54 g d3 d5 i j u v) np 1000) (P := fun K => ¬ d5 (8 * (K / np) + K % np) = 0) (v := fun K => (d3 (8 * (K / np) + K % np)).toInt + g.toInt * (ds4 i j (K / np) (K % np) : Nat)) (n := nr * np) (fun K hK => by
    have h1 := lt K hK
    have h2 := Nat.mod_lt K hnp
    rw [nst_s _ hnp]
    exact e1_I hg (by omega) (by omega) (by omega) (by omega) (ht _ _ h1 h2)) (nr * np) (Nat.le_refl _)
  rw [← e, nst_0] at f
  obtain ⟨f1, f2, f3⟩ := f
  refine ⟨f1, fun u v hu hv hd => ?_, ?_⟩
  · have := f2 (u * np + v) (ix2 hu hv)
    simp only [(dm hv).1, (dm hv).2] at this
    exact this hd
  · rcases f3 with f3 | ⟨K, k1, k2, k3⟩
    · exact Or.inl f3
    · exact Or.inr ⟨K / np, K % np, lt K k1, Nat.mod_lt K hnp, k2, k3⟩
theorem open_at {ft : Nat → Int32} {z : P2} : ∀ t x, x < t → ((lp (F_X1_openSpans_L2 ft) t z).1 x = if ft x = (-1) then 0 else ft x) ∧ ((lp (F_X1_openSpans_L2 ft) t z).2 x = if ft x = (-1) then 1000 else ft x)
  | 0, x, h => absurd h (Nat.not_lt_zero x)
  | t + 1, x, h => by
    rw [lp_s]
    unfold F_X1_openSpans_L2
    by_cases c : x = t
    · subst c
      by_cases c2 : ft x = (-1)
      · rw [if_pos c2, if_pos c2, if_pos c2]
        exact ⟨pk_us, pk_us⟩
      · rw [if_neg c2, if_neg c2, if_neg c2]
        exact ⟨pk_us, pk_us⟩
    · have ih := open_at t x (z := z) (ft := ft) (by omega)
      by_cases c2 : ft t = (-1)
      · rw [if_pos c2]
        exact ⟨(pk_un c).trans ih.1, (pk_un c).trans ih.2⟩
      · rw [if_neg c2]
        exact ⟨(pk_un c).trans ih.1, (pk_un c).trans ih.2⟩
theorem close_at {ft : Nat → Int32} {z : P2} : ∀ t x, ((lp (F_X1_closeToldSpans_L2 ft) t z).1 x = if x < t then (if ft x = (-1) then z.1 x else ft x) else z.1 x) ∧ ((lp (F_X1_closeToldSpans_L2 ft) t z).2 x = if x < t then (if ft x = (-1) then z.2 x else ft x) else z.2 x)
  | 0, x => ⟨rfl, rfl⟩
  | t + 1, x => by
    rw [lp_s]
    unfold F_X1_closeToldSpans_L2
    obtain ⟨i1, i2⟩ := close_at t x (z := z) (ft := ft)
    by_cases c : x = t
    · subst c
      rw [if_neg (Nat.lt_irrefl x)] at i1 i2
      by_cases c2 : ft x = (-1)
      · rw [if_pos c2, if_pos (Nat.lt_succ_self x), if_pos c2, if_pos (Nat.lt_succ_self x), if_pos c2]
        exact ⟨i1, i2⟩
      · rw [if_neg c2, if_pos (Nat.lt_succ_self x), if_neg c2, if_pos (Nat.lt_succ_self x), if_neg c2]
        exact ⟨pk_us, pk_us⟩
    · have e : (x < t + 1) = (x < t) := by
        apply propext
        omega
      simp only [e]
      by_cases c2 : ft t = (-1)
      · rw [if_pos c2]
        exact ⟨i1, i2⟩
      · rw [if_neg c2]
        exact ⟨(pk_un c).trans i1, (pk_un c).trans i2⟩
def nar (nr np : Nat) (g : Int32) (ft fl fg : Nat → Int32) : P2 := lp (F_X1_closeToldSpans_L2 ft) (nr * np) (lp (F_X1_sweepUp_L7 nr np g) nr (lp (F_X1_sweepDown_L2 np g) nr (lp (F_X1_openSpans_L2 ft) (nr * np) (fl, fg))))
theorem spans_ok {nr np : Nat} {g : Int32} {ft fl fg d3 d5 : Nat → Int32} (hnp : 0 < np) (hnr : 0 < nr) (hn2 : np ≤ 8) (hr2 : nr ≤ 20) (hg : IGg g) (ht : IGt nr np ft d3 d5) : IGs nr np g (nar nr np g ft fl fg).1 (nar nr np g ft fl fg).2 d3 d5 := by
  have hn : nr * np ≤ 160 := Nat.mul_le_mul hr2 hn2
  have ho := open_at (ft := ft) (z := (fl, fg)) (nr * np)
  have htd : ∀ u v, u < nr → v < np → d5 (8 * u + v) = 0 ∨ (0 ≤ (d3 (8 * u + v)).toInt ∧ (d3 (8 * u + v)).toInt ≤ 1000) := fun u v hu hv => (ht u v hu hv).elim (fun h => Or.inl h.1) (fun h => Or.inr h.2.2)
  have neg1 : ∀ x : Int32, 0 ≤ x.toInt → ¬ x = (-1) := fun x h q => by
    rw [q] at h
    exact absurd h (by decide)
  have hcell : ∀ u v, u < nr → v < np → ((d5 (8 * u + v) = 0 ∧ ft (u * np + v) = (-1) ∧ ((lp (F_X1_openSpans_L2 ft) (nr * np) (fl, fg)).1 (u * np + v)).toInt = 0 ∧ ((lp (F_X1_openSpans_L2 ft) (nr * np) (fl, fg)).2 (u * np + v)).toInt = 1000) ∨ (¬ d5 (8 * u + v) = 0 ∧ ¬ ft (u * np + v) = (-1) ∧ ft (u * np + v) = d3 (8 * u + v) ∧ (lp (F_X1_openSpans_L2 ft) (nr * np) (fl, fg)).1 (u * np + v) = d3 (8 * u + v) ∧ (lp (F_X1_openSpans_L2 ft) (nr * np) (fl, fg)).2 (u * np + v) = d3 (8 * u + v) ∧ 0 ≤ (d3 (8 * u + v)).toInt ∧ (d3 (8 * u + v)).toInt ≤ 1000)) := by
    intro u v hu hv
    obtain ⟨o1, o2⟩ := ho (u * np + v) (ix2 hu hv)
    rcases ht u v hu hv with ⟨q1, q2⟩ | ⟨q1, q2, q3, q4⟩
    · rw [if_pos q2] at o1 o2
      exact Or.inl ⟨q1, q2, by rw [o1]; decide, by rw [o2]; decide⟩
    · have hne : ¬ ft (u * np + v) = (-1) := by
        rw [q2]
        exact neg1 _ q3
      rw [if_neg hne] at o1 o2
      exact Or.inr ⟨by rw [q1]; decide, hne, q2, o1.trans q2, o2.trans q2, q3, q4⟩
  have hrg : rng (nr * np) (lp (F_X1_openSpans_L2 ft) (nr * np) (fl, fg)) := by
    intro x hx
    have hd : x / np * np + x % np = x := Nat.div_add_mod' x np
    have hm := Nat.mod_lt x hnp
    have hl : x / np < nr := Nat.div_lt_of_lt_mul (by rw [Nat.mul_comm]; exact hx)
    have := hcell _ _ hl hm
    rw [hd] at this
    rcases this with ⟨-, -, q1, q2⟩ | ⟨-, -, -, q1, q2, q3, q4⟩
    · omega
    · rw [q1, q2]
      exact ⟨⟨q3, q4⟩, q3, q4⟩
  obtain ⟨s1, r1⟩ := down_ok hnp hn hg hrg
  obtain ⟨s2, r2⟩ := up_ok hnp hnr hn (by omega) (by omega) hg r1
  have A1 := two_A hnp hnr hg.1 (fun x => by have := fb_rng ((lp (F_X1_openSpans_L2 ft) (nr * np) (fl, fg)).1 x); show _ ≤ _; omega) (swA_1 s1) (swA_1 s2)
  have A2 := two_A hnp hnr hg.1 (fun x => by have := fb_rng ((lp (F_X1_openSpans_L2 ft) (nr * np) (fl, fg)).2 x); show - _ ≤ _; omega) (swA_2 s1) (swA_2 s2)
  intro i j hi hj
  have hx := ix2 hi hj
  obtain ⟨c1, c2⟩ := close_at (ft := ft) (z := lp (F_X1_sweepUp_L7 nr np g) nr (lp (F_X1_sweepDown_L2 np g) nr (lp (F_X1_openSpans_L2 ft) (nr * np) (fl, fg)))) (nr * np) (i * np + j)
  rw [if_pos hx] at c1 c2
  unfold nar
  rw [c1, c2]
  rcases hcell i j hi hj with ⟨q1, q2, q3, q4⟩ | ⟨q1, q2, q3, -, -, -, -⟩
  · rw [if_pos q2, if_pos q2]
    obtain ⟨a1, a2⟩ := A1 _ hx
    obtain ⟨b1, b2⟩ := A2 _ hx
    obtain ⟨m1, m2, m3⟩ := end0_at hg hnp hn2 hr2 hi hj htd q1
    obtain ⟨k1, k2, k3⟩ := end1_at hg hnp hn2 hr2 hi hj htd q1
    have dx : ∀ u v, v < np → dst np (i * np + j) (u * np + v) = ds4 i j u v := by
      intro u v hv
      unfold dst ds4
      rw [(dm hv).1, (dm hv).2, (dm hj).1, (dm hj).2]
    have d0 : dst np (i * np + j) (i * np + j) = 0 := by
      unfold dst
      omega
    have z0 : g.toInt * ((0 : Nat) : Int) = 0 := Int.mul_zero _
    have pos : ∀ k : Nat, 0 ≤ g.toInt * (k : Int) := fun k => Int.mul_nonneg hg.1 (Int.natCast_nonneg k)
    constructor
    · rw [fa_eq]
      apply Int.le_antisymm
      · obtain ⟨q, hq, hle⟩ := a2
        have hd : q / np * np + q % np = q := Nat.div_add_mod' q np
        have hm := Nat.mod_lt q hnp
        have hl : q / np < nr := Nat.div_lt_of_lt_mul (by rw [Nat.mul_comm]; exact hq)
        rw [← hd, dx _ _ hm] at hle
        have := pos (ds4 i j (q / np) (q % np))
        rcases hcell _ _ hl hm with ⟨-, -, t3, -⟩ | ⟨t1, -, -, t4, -, -, -⟩
        · rw [t3] at hle
          omega
        · rw [t4] at hle
          have := m2 _ _ hl hm t1
          omega
      · rcases m3 with m3 | ⟨u, v, hu, hv, t1, m3⟩
        · have := a1 _ hx
          rw [d0, q3] at this
          omega
        · have := a1 _ (ix2 hu hv)
          rw [dx u v hv] at this
          rcases hcell u v hu hv with ⟨t2, -, -, -⟩ | ⟨-, -, -, t4, -, -, -⟩
          · exact absurd t2 t1
          · rw [t4] at this
            omega
    · rw [fa_eq]
      apply Int.le_antisymm
      · rcases k3 with k3 | ⟨u, v, hu, hv, t1, k3⟩
        · have := b1 _ hx
          rw [d0, q4] at this
          omega
        · have := b1 _ (ix2 hu hv)
          rw [dx u v hv] at this
          rcases hcell u v hu hv with ⟨t2, -, -, -⟩ | ⟨-, -, -, -, t4, -, -⟩
          · exact absurd t2 t1
          · rw [t4] at this
            omega
      · obtain ⟨q, hq, hle⟩ := b2
        have hd : q / np * np + q % np = q := Nat.div_add_mod' q np
        have hm := Nat.mod_lt q hnp
        have hl : q / np < nr := Nat.div_lt_of_lt_mul (by rw [Nat.mul_comm]; exact hq)
        rw [← hd, dx _ _ hm] at hle
        have := pos (ds4 i j (q / np) (q % np))
        rcases hcell _ _ hl hm with ⟨-, -, -, t3⟩ | ⟨t1, -, -, -, t4, -, -⟩
        · rw [t3] at hle
          omega
        · rw [t4] at hle
          have := k2 _ _ hl hm t1
          omega
  · rw [if_neg q2, if_neg q2]
    unfold F_X8_end0 F_X8_end1
    rw [if_neg q1, if_neg q1]
    exact ⟨q3, q3⟩
