/-- the first of the best of a row from a on, over t more places -/
def bst (f : Nat → Int32) (a : Nat) : Nat → Nat
  | 0 => a
  | t + 1 => if f (a + 1 + t) ≤ f (bst f a t) then bst f a t else a + 1 + t
theorem bst_le (f : Nat → Int32) (a : Nat) : ∀ t, a ≤ bst f a t ∧ bst f a t ≤ a + t
  | 0 => ⟨Nat.le_refl _, Nat.le_refl _⟩
  | t + 1 => by
    have h := bst_le f a t
    rw [bst]
    split <;> omega
theorem bst_cong {f g : Nat → Int32} {a n : Nat} (h : ∀ j, a ≤ j → j ≤ a + n → f j = g j) : ∀ t, t ≤ n → bst f a t = bst g a t
  | 0, _ => rfl
  | t + 1, ht => by
    have e := bst_cong h t (by omega)
    have hb := bst_le g a t
    rw [bst, bst, e, h _ (by omega) (by omega), h _ hb.1 (by omega)]
theorem bo_eq {np i fo : Nat} {su : Nat → Int32} : ∀ t, lp (F_X5_bestOf_L8 np su i fo) t fo = bst (fun j => su (i * np + j)) fo t
  | 0 => rfl
  | t + 1 => by
    rw [lp_s, bo_eq t, bst]
    rfl
theorem bestOf_eq {np i fo u : Nat} {su : Nat → Int32} : F_X5_bestOf np su i fo u = bst (fun j => su (i * np + j)) fo (u - fo) := bo_eq _
theorem ab_2 {t q : Nat} (ht : t < 2 ^ 30) (hq : q < 2 ^ 30) : 2 ≤ (if 0 ≤ nI t - nI q then nI t - nI q else 0 - (nI t - nI q)) ↔ (t + 2 ≤ q ∨ q + 2 ≤ t) := by
  have e := pk_sub_toInt ht hq
  have e2 : (2 : Int32).toInt = 2 := by decide
  have e0 : (0 : Int32).toInt = 0 := by decide
  by_cases c : 0 ≤ nI t - nI q
  · rw [if_pos c]
    rw [fa_le] at c ⊢
    omega
  · rw [if_neg c]
    rw [fa_le] at c
    have e3 : (0 - (nI t - nI q)).toInt = 0 - (nI t - nI q).toInt := by
      rw [fb_subI] <;> omega
    rw [fa_le, e3]
    omega
/-- may the reference's search take the place t -/
def bQ (fo : Int32) (t : Nat) : Prop := fo = (-1) ∨ ¬ 2 ≤ (if 0 ≤ nI t - fo then nI t - fo else 0 - (nI t - fo))
theorem bs_n {d22 : Nat → Int32} {fo : Int32} {i t : Nat} {z : Int32} (h : ¬ bQ fo t) : F_X8_best_L5 d22 fo i t z = z := by
  have h1 : ¬ fo = (-1) := fun q => h (Or.inl q)
  have h2 : 2 ≤ (if 0 ≤ nI t - fo then nI t - fo else 0 - (nI t - fo)) := Decidable.byContradiction (fun q => h (Or.inr q))
  rw [F_X8_best_L5, if_neg h1, if_pos h2]
theorem bs_y {d22 : Nat → Int32} {fo : Int32} {i t : Nat} {z : Int32} (h : bQ fo t) : F_X8_best_L5 d22 fo i t z = if z = (-1) then nI t else if d22 (8 * i + t) ≤ d22 (8 * i + z.toNatClampNeg) then z else nI t := by
  by_cases h1 : fo = (-1)
  · rw [F_X8_best_L5, if_pos h1]
  · rw [F_X8_best_L5, if_neg h1, if_neg (h.resolve_left h1)]
theorem mb_at {d22 : Nat → Int32} {fo : Int32} {i np a u : Nat} (hau : a ≤ u) (hn : np < 2 ^ 30) (hQ : ∀ t, t < np → (bQ fo t ↔ a ≤ t ∧ t ≤ u)) : ∀ t, t ≤ np → lp (F_X8_best_L5 d22 fo i) t (-1) = if t ≤ a then -1 else nI (bst (fun j => d22 (8 * i + j)) a ((if t - 1 < u then t - 1 else u) - a))
  | 0, _ => by rw [if_pos (Nat.zero_le _)]; rfl
  | t + 1, ht => by
    have ih := mb_at (d22 := d22) (i := i) hau hn hQ t (by omega)
    have hq := hQ t (by omega)
    rw [lp_s, ih]
    rcases Nat.lt_trichotomy t a with c | c | c
    · rw [if_pos (by omega), bs_n (fun q => by have := hq.mp q; omega), if_pos (by omega)]
    · subst c
      rw [if_pos (Nat.le_refl _), bs_y (hq.mpr ⟨Nat.le_refl _, hau⟩), if_pos rfl, if_neg (by omega)]
      congr 1
      have e : (if t + 1 - 1 < u then t + 1 - 1 else u) - t = 0 := by split <;> omega
      rw [e]
      rfl
    · rw [if_neg (show ¬ t ≤ a by omega), if_neg (show ¬ t + 1 ≤ a by omega)]
      have hb := bst_le (fun j => d22 (8 * i + j)) a ((if t - 1 < u then t - 1 else u) - a)
      have hb2 : bst (fun j => d22 (8 * i + j)) a ((if t - 1 < u then t - 1 else u) - a) < 2 ^ 31 := by
        have : (if t - 1 < u then t - 1 else u) ≤ t - 1 := by split <;> omega
        omega
      by_cases cu : t ≤ u
      · rw [bs_y (hq.mpr ⟨by omega, cu⟩)]
        have hne : ¬ nI (bst (fun j => d22 (8 * i + j)) a ((if t - 1 < u then t - 1 else u) - a)) = (-1) := by
          intro q
          rw [fa_eq, nI_toInt hb2] at q
          have : (-1 : Int32).toInt = -1 := by decide
          omega
        rw [if_neg hne, nI_clamp hb2]
        have e1 : (if t - 1 < u then t - 1 else u) - a = t - 1 - a := by rw [if_pos (by omega)]
        have e2 : (if t + 1 - 1 < u then t + 1 - 1 else u) - a = (t - 1 - a) + 1 := by split <;> omega
        rw [e1, e2, bst]
        have e3 : a + 1 + (t - 1 - a) = t := by omega
        rw [e3]
        split <;> rfl
      · rw [bs_n (fun q => cu (hq.mp q).2)]
        congr 2
        split <;> split <;> omega
theorem mbest_0 {np i : Nat} {d22 : Nat → Int32} (h0 : 0 < np) (hn : np < 2 ^ 30) : F_X8_best np d22 (-1) i = nI (bst (fun j => d22 (8 * i + j)) 0 (np - 1)) := by
  have h := mb_at (d22 := d22) (fo := -1) (i := i) (np := np) (a := 0) (u := np - 1) (Nat.zero_le _) hn (fun t ht => ⟨fun _ => ⟨Nat.zero_le _, by omega⟩, fun _ => Or.inl rfl⟩) np (Nat.le_refl _)
  rw [F_X8_best, h, if_neg (by omega)]
  congr 2
  split <;> omega
theorem mbest_q {np i q : Nat} {d22 : Nat → Int32} (hq : q < np) (hn : np < 2 ^ 30) : F_X8_best np d22 (nI q) i = nI (bst (fun j => d22 (8 * i + j)) (q - 1) ((if q + 1 < np - 1 then q + 1 else np - 1) - (q - 1))) := by
  have hne : ¬ nI q = (-1) := by
    intro z
    rw [fa_eq, nI_toInt (by omega)] at z
    have : (-1 : Int32).toInt = -1 := by decide
    omega
  have h := mb_at (d22 := d22) (fo := nI q) (i := i) (np := np) (a := q - 1) (u := if q + 1 < np - 1 then q + 1 else np - 1) (by split <;> omega) hn (fun t ht => by
    have hab := ab_2 (t := t) (q := q) (by omega) (by omega)
    constructor
    · intro z
      have z2 := z.resolve_left hne
      rw [hab] at z2
      refine ⟨by omega, ?_⟩
      split <;> omega
    · intro z
      refine Or.inr ?_
      rw [hab]
      have z2 := z.2
      split at z2 <;> omega) np (Nat.le_refl _)
  rw [F_X8_best, h, if_neg (by omega)]
  congr 2
  split <;> split <;> omega
theorem mbest_ok {np i : Nat} {fo : Int32} {d22 : Nat → Int32} (h0 : 0 < np) (hn : np < 2 ^ 30) (h : okZ np fo) : F_X8_best np d22 fo i = nI (F_X8_best np d22 fo i).toNatClampNeg ∧ (F_X8_best np d22 fo i).toNatClampNeg < np := by
  rcases h with h | ⟨h1, h2⟩
  · rw [h, mbest_0 h0 hn]
    have hb := (bst_le (fun j => d22 (8 * i + j)) 0 (np - 1)).2
    rw [nI_clamp (by omega)]
    exact ⟨rfl, by omega⟩
  · rw [h1, mbest_q h2 hn]
    have hb := (bst_le (fun j => d22 (8 * i + j)) (fo.toNatClampNeg - 1) ((if fo.toNatClampNeg + 1 < np - 1 then fo.toNatClampNeg + 1 else np - 1) - (fo.toNatClampNeg - 1))).2
    have hc : (if fo.toNatClampNeg + 1 < np - 1 then fo.toNatClampNeg + 1 else np - 1) ≤ np - 1 := by split <;> omega
    rw [nI_clamp (by omega)]
    exact ⟨rfl, by omega⟩
theorem dm_go {n f t : Nat} (hn : n < 2 ^ 31) (hf : f ≤ n) (h : t ≤ n - f) (c : ¬ nI (n - t) - 1 ≤ nI f - 1) : t < n - f := by
  rcases Nat.lt_or_ge t (n - f) with q | q
  · exact q
  · have e : n - t = f := by omega
    rw [e] at c
    exact absurd (Int32.le_refl _) c
theorem dm_ex {n f t : Nat} (hn : n < 2 ^ 30) (hf : f ≤ n) (h : t ≤ n - f) (c : nI (n - t) - 1 ≤ nI f - 1) : t = n - f := by
  have e1 : (1 : Int32).toInt = 1 := by decide
  have a1 : (nI (n - t) - 1).toInt = ((n - t : Nat) : Int) - 1 := by
    rw [fb_subI] <;> rw [nI_toInt (by omega), e1] <;> omega
  have a2 : (nI f - 1).toInt = (f : Int) - 1 := by
    rw [fb_subI] <;> rw [nI_toInt (by omega), e1] <;> omega
  rw [fa_le, a1, a2] at c
  omega
theorem m_rng {nr dg : Nat} (hd : dg ≤ nr) (hr : nr ≤ 20) : (nI nr - (nI dg - 1) - 2).toInt = (nr : Int) - dg - 1 := by
  have e1 : (1 : Int32).toInt = 1 := by decide
  have e2 : (2 : Int32).toInt = 2 := by decide
  have a1 : (nI dg - 1).toInt = (dg : Int) - 1 := by
    rw [fb_subI] <;> rw [nI_toInt (by omega), e1] <;> omega
  have a2 : (nI nr - (nI dg - 1)).toInt = (nr : Int) - (dg - 1) := by
    rw [fb_subI] <;> rw [nI_toInt (by omega), a1] <;> omega
  rw [fb_subI] <;> rw [a2, e2] <;> omega
theorem mk_ok {nr dg : Nat} {k : Int32} (hd : dg ≤ nr) (hr : nr ≤ 20) (h : ¬ F_X8_isIn k (-1) (nI nr - (nI dg - 1) - 2) = 0) (h2 : ¬ k = (-1)) : k = nI k.toNatClampNeg ∧ k.toNatClampNeg < nr - dg := by
  have h' : ¬ F_X7_within k (-1) (nI nr - (nI dg - 1) - 2) = 0 := h
  obtain ⟨g1, g2⟩ := wn_1 h'
  have e := k_nat g1 h2
  refine ⟨e, ?_⟩
  rw [fa_lt, m_rng hd hr] at g2
  have h3 : k.toInt = k.toNatClampNeg := by
    have h4 : (k.toNatClampNeg : Int) = k.toInt.toNat := rfl
    have h5 := (not_congr (fa_lt _ _)).mp g1
    have e1 : (-1 : Int32).toInt = -1 := by decide
    have h6 : ¬ k.toInt = -1 := fun q => h2 ((fa_eq _ _).mpr (by rw [q, e1]))
    omega
  omega
