theorem stOK_iff {g : Int32} {R R' : Nat → Nat → Prop} {k : Nat} {z y : P2} (h : ∀ q, R k q ↔ R' k q) (hs : stOK g R k z y) : stOK g R' k z y := by
  obtain ⟨a, ⟨b1, b2, b3⟩, c1, c2, c3⟩ := hs
  refine ⟨a, ⟨b1, fun q hq => b2 q ((h q).mpr hq), ?_⟩, c1, fun q hq => c2 q ((h q).mpr hq), ?_⟩
  · rcases b3 with q | ⟨q, hq, e⟩
    · exact Or.inl q
    · exact Or.inr ⟨q, (h q).mp hq, e⟩
  · rcases c3 with q | ⟨q, hq, e⟩
    · exact Or.inl q
    · exact Or.inr ⟨q, (h q).mp hq, e⟩
def RD (np x q : Nat) : Prop := (¬ x < np ∧ q = x - np) ∨ (¬ x % np = 0 ∧ q = x - 1)
def RU (n np x q : Nat) : Prop := (x + np < n ∧ q = x + np) ∨ (¬ (x + 1) % np = 0 ∧ q = x + 1)
theorem nle0 {d : Nat} (hd : d < 2 ^ 31) : nI d ≤ 0 ↔ d = 0 := by
  constructor
  · exact nzer hd
  · intro h
    subst h
    decide
theorem dv0 {K w : Nat} (hw : 0 < w) : K / w = 0 ↔ K < w := by
  rw [Nat.div_eq_zero_iff]
  omega
theorem down_L {np : Nat} {g : Int32} {i j : Nat} {z : P2} : F_X1_sweepDown_L12 np g i j z = nrr g (nI i ≤ 0) (nI j ≤ 0) (i * np + j) (i * np + j - np) (i * np + j - 1) z := rfl
theorem up_L {nr np : Nat} {g : Int32} {i j : Nat} {z : P2} : F_X1_sweepUp_L18 nr np g i j z = nrr g (nI nr - 1 ≤ nI (nr - 1 - i)) (nI np - 1 ≤ nI (np - 1 - j)) ((nr - 1 - i) * np + (np - 1 - j)) ((nr - 1 - i) * np + (np - 1 - j) + np) ((nr - 1 - i) * np + (np - 1 - j) + 1) z := rfl
theorem down_ok {nr np : Nat} {g : Int32} {z : P2} (hnp : 0 < np) (hn : nr * np ≤ 160) (hg : IGg g) (hz : rng (nr * np) z) : swL (nr * np) g (RD np) z (lp (F_X1_sweepDown_L2 np g) nr z) ∧ rng (nr * np) (lp (F_X1_sweepDown_L2 np g) nr z) := by
  have e := nst_n (fun i j => F_X1_sweepDown_L12 np g i j) hnp z nr
  have h := sw_run (n := nr * np) (g := g) (c := fun K => K) (R := RD np) (f := fun K z => F_X1_sweepDown_L12 np g (K / np) (K % np) z) (nst (fun i j => F_X1_sweepDown_L12 np g i j) np z) (fun _ _ _ _ h => h) (fun x hx => ⟨x, hx, rfl⟩) (fun K q hK hq => by
    rcases hq with ⟨h1, h2⟩ | ⟨h1, h2⟩
    · exact ⟨q, by omega, rfl⟩
    · refine ⟨q, ?_, rfl⟩
      rcases Nat.eq_zero_or_pos K with y | y
      · subst y
        exact absurd (Nat.zero_mod np) h1
      · omega) (fun K => nst_s _ hnp z K) (by rw [nst_0]; exact hz) (fun K y hK hy => by
    have hm := Nat.mod_lt K hnp
    have hd : K / np * np + K % np = K := Nat.div_add_mod' K np
    have hq : K / np ≤ K := Nat.div_le_self _ _
    rw [down_L, hd]
    have a1 : nI (K / np) ≤ 0 ↔ K < np := (nle0 (by omega)).trans (dv0 hnp)
    have a2 : nI (K % np) ≤ 0 ↔ K % np = 0 := nle0 (by omega)
    have hk0 : ¬ nI (K % np) ≤ 0 → 0 < K := fun q => by
      rcases Nat.eq_zero_or_pos K with y | y
      · subst y
        exact absurd (a2.mpr (Nat.zero_mod np)) q
      · exact y
    obtain ⟨r1, r2⟩ := nrr_ok (b1 := nI (K / np) ≤ 0) (b2 := nI (K % np) ≤ 0) (k := K) (q1 := K - np) (q2 := K - 1) hg hy hK (fun q => by rw [a1] at q; omega) (fun q => by have := hk0 q; omega)
    refine ⟨stOK_iff (fun q => ?_) r1, r2⟩
    unfold RD
    rw [a1, a2])
  rw [e, nst_0] at h
  exact h
theorem up_ok {nr np : Nat} {g : Int32} {z : P2} (hnp : 0 < np) (hnr : 0 < nr) (hn : nr * np ≤ 160) (hr : nr ≤ 160) (hp : np ≤ 160) (hg : IGg g) (hz : rng (nr * np) z) : swL (nr * np) g (RU (nr * np) np) z (lp (F_X1_sweepUp_L7 nr np g) nr z) ∧ rng (nr * np) (lp (F_X1_sweepUp_L7 nr np g) nr z) := by
  have e := nst_n (fun i j => F_X1_sweepUp_L18 nr np g i j) hnp z nr
  have cell : ∀ K, K < nr * np → K / np < nr ∧ (nr - 1 - K / np) * np + (np - 1 - K % np) = nr * np - 1 - K ∧ (K < np ↔ K / np = 0) := by
    intro K hK
    have hm := Nat.mod_lt K hnp
    have hd : K / np * np + K % np = K := Nat.div_add_mod' K np
    have hl : K / np < nr := Nat.div_lt_of_lt_mul (by rw [Nat.mul_comm]; exact hK)
    refine ⟨hl, ?_, (dv0 hnp).symm⟩
    have h1 : (nr - 1 - K / np) * np + (K / np + 1) * np = nr * np := by
      rw [← Nat.add_mul]
      congr 1
      omega
    rw [Nat.succ_mul] at h1
    omega
  have h := sw_run (n := nr * np) (g := g) (c := fun K => nr * np - 1 - K) (R := RU (nr * np) np) (f := fun K z => F_X1_sweepUp_L18 nr np g (K / np) (K % np) z) (nst (fun i j => F_X1_sweepUp_L18 nr np g i j) np z) (fun K K' h1 h2 h => by have h' : nr * np - 1 - K = nr * np - 1 - K' := h; omega) (fun x hx => ⟨nr * np - 1 - x, by omega, by show nr * np - 1 - (nr * np - 1 - x) = x; omega⟩) (fun K q hK hq => by
    rcases hq with ⟨h1, h2⟩ | ⟨h1, h2⟩
    · exact ⟨nr * np - 1 - q, by omega, by show q = nr * np - 1 - (nr * np - 1 - q); omega⟩
    · have hK0 : 0 < K := by
        rcases Nat.eq_zero_or_pos K with y | y
        · subst y
          exfalso
          apply h1
          have e9 : nr * np - 1 - 0 + 1 = nr * np := by omega
          rw [e9]
          exact Nat.mul_mod_left nr np
        · exact y
      exact ⟨nr * np - 1 - q, by omega, by show q = nr * np - 1 - (nr * np - 1 - q); omega⟩) (fun K => nst_s _ hnp z K) (by rw [nst_0]; exact hz) (fun K y hK hy => by
    obtain ⟨hl, hc, h0⟩ := cell K hK
    have hm := Nat.mod_lt K hnp
    have hd : K / np * np + K % np = K := Nat.div_add_mod' K np
    rw [up_L, hc]
    have a1 : nI nr - 1 ≤ nI (nr - 1 - K / np) ↔ K < np := by
      have hi : ∀ i, i < nr → (nI nr - 1 ≤ nI (nr - 1 - i) ↔ i = 0) := by
        intro i hi
        rw [nI_dec hnr, nI_leI (by omega) (by omega)]
        omega
      rw [hi _ hl, h0]
    have a2 : nI np - 1 ≤ nI (np - 1 - K % np) ↔ K % np = 0 := by
      rw [nI_dec hnp, nI_leI (by omega) (by omega)]
      omega
    have a3 : (nr * np - 1 - K + 1) % np = 0 ↔ K % np = 0 := by
      have e1 : nr * np - 1 - K + 1 = nr * np - K := by omega
      rw [e1]
      have h1 : (nr - K / np) * np + K / np * np = nr * np := by
        rw [← Nat.add_mul]
        congr 1
        omega
      constructor
      · intro q
        have q2 : np ∣ nr * np - K := Nat.dvd_of_mod_eq_zero q
        have q3 : np ∣ nr * np - (nr * np - K) := Nat.dvd_sub (Nat.dvd_mul_left np nr) q2
        have e2 : nr * np - (nr * np - K) = K := by omega
        rw [e2] at q3
        exact Nat.mod_eq_zero_of_dvd q3
      · intro q
        have q2 : np ∣ K := Nat.dvd_of_mod_eq_zero q
        exact Nat.mod_eq_zero_of_dvd (Nat.dvd_sub (Nat.dvd_mul_left np nr) q2)
    have hlast : ¬ K % np = 0 → 0 < K := fun q => by
      rcases Nat.eq_zero_or_pos K with y | y
      · subst y
        exact absurd (Nat.zero_mod np) q
      · exact y
    obtain ⟨r1, r2⟩ := nrr_ok (b1 := nI nr - 1 ≤ nI (nr - 1 - K / np)) (b2 := nI np - 1 ≤ nI (np - 1 - K % np)) (k := nr * np - 1 - K) (q1 := nr * np - 1 - K + np) (q2 := nr * np - 1 - K + 1) hg hy (by omega) (fun q => by rw [a1] at q; omega) (fun q => by rw [a2] at q; have := hlast q; omega)
    refine ⟨stOK_iff (fun q => ?_) r1, r2⟩
    unfold RU
    rw [a1, a2, a3]
    constructor
    · rintro (⟨h1, h2⟩ | h)
      · exact Or.inl ⟨by omega, h2⟩
      · exact Or.inr h
    · rintro (⟨h1, h2⟩ | h)
      · exact Or.inl ⟨by omega, h2⟩
      · exact Or.inr h)
  rw [e, nst_0] at h
  exact h
