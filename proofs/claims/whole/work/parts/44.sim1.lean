/-! the two sides' cells, held against each other -/
def IGd (nr np : Nat) (fd d2 : Nat → Int32) : Prop := ∀ i j, i < nr → j < np → fd (i * np + j) = d2 (8 * i + j) ∧ 1 ≤ (d2 (8 * i + j)).toInt ∧ (d2 (8 * i + j)).toInt ≤ 9
def IGt (nr np : Nat) (ft d3 d5 : Nat → Int32) : Prop := ∀ i j, i < nr → j < np → (d5 (8 * i + j) = 0 ∧ ft (i * np + j) = -1) ∨ (d5 (8 * i + j) = 1 ∧ ft (i * np + j) = d3 (8 * i + j) ∧ 0 ≤ (d3 (8 * i + j)).toInt ∧ (d3 (8 * i + j)).toInt ≤ 1000)
def IGs (nr np : Nat) (g : Int32) (fl fg d3 d5 : Nat → Int32) : Prop := ∀ i j, i < nr → j < np → fl (i * np + j) = F_X8_end0 g nr np d3 d5 i j ∧ fg (i * np + j) = F_X8_end1 g nr np d3 d5 i j
def IGg (g : Int32) : Prop := 0 ≤ g.toInt ∧ g.toInt ≤ 1000
def IL (tk : Nat) (fm fs d30 d31 : Nat → Int32) : Prop := (∀ k, k < 7 * tk → fm k = d30 k ∧ 0 ≤ (fm k).toInt ∧ (fm k).toInt ≤ 9999) ∧ ∀ k, k < tk → fs k = d31 k
def IE (nb : Nat) (tp d23 : Nat → Int32) : Prop := ∀ k, k < nb → d23 k = (tp k).toInt8.toInt32 ∧ 0 ≤ (tp k).toInt ∧ (tp k).toInt < 256
def IMo (mo : Nat → Int32) (dg : Nat) : Prop := ∀ k, k < 21 → 0 ≤ (mo k).toInt ∧ (mo k).toInt ≤ 9000 * dg
def ITd (td : Int32) : Prop := 0 ≤ td.toInt ∧ td.toInt ≤ 600
def IPa (pac : Int32) : Prop := 0 ≤ pac.toInt ∧ pac.toInt ≤ 9
/-- the place k of the reference's rows was dug -/
def dK (dg : Nat) (fp : Nat → Int32) (k : Nat) : Prop := k / 8 < dg ∧ fp (k / 8) = nI (k % 8)
def IT (nr np dg : Nat) (lb mp : Int32) (fp fy fb fn d4 d6 d7 d8 : Nat → Int32) : Prop :=
  okP fp dg np ∧ mp = F_X6_dredgePlace dg fp ∧ (∀ k, k < 160 → (dK dg fp k ∧ d6 k = 1 ∧ d7 k = fb (k / 8) ∧ d8 k = fn (k / 8) ∧ d4 k = fy (k / 8)) ∨ (¬ dK dg fp k ∧ d6 k = 0 ∧ d7 k = 0 ∧ d8 k = 0)) ∧ (∀ i, i < dg → (fb i = 0 ∨ fb i = 1) ∧ (fn i = 0 ∨ fn i = 1) ∧ 0 ≤ (fy i).toInt ∧ (fy i).toInt ≤ 600) ∧ (∀ i, dg ≤ i → i < nr → fb i = 0 ∧ fn i = 0) ∧ lb = lp (F_X8_count_L115 d7) 160 0
theorem lawAt_cong {fs gs : Nat → Int32} {day : Int32} : ∀ {n : Nat}, (∀ k, k < n → fs k = gs k) → lawAt fs day n = lawAt gs day n
  | 0, _ => rfl
  | n + 1, h => by rw [lawAt, lawAt, h n (Nat.lt_succ_self n), lawAt_cong (fun k hk => h k (Nat.lt_succ_of_lt hk))]
theorem us_eq : ∀ w, w < 7 → F_X2_usual (nI w) = F_X8_plain (nI w) := by decide
theorem wn_lit6 : ∀ w, w < 7 → ¬ F_X7_within (nI w) 0 6 = 0 := by decide
theorem term_eq {tk : Nat} {fm fs d30 d31 : Nat → Int32} {day what : Int32} {wt : Nat} (h : IL tk fm fs d30 d31) (htk : tk ≤ 10) (hw : what = nI wt) (hwt : wt < 7) : F_X2_term tk fm fs day what = F_X8_tellsOn tk d30 d31 day wt := by
  subst hw
  unfold F_X2_term F_X8_tellsOn
  rw [inF_eq, ← lawAt_cong h.2]
  by_cases c : lawAt fs day tk = (-1)
  · rw [if_pos c, if_pos c]
    exact us_eq wt hwt
  · rw [if_neg c, if_neg c, if_neg (wn_lit6 wt hwt), nI_clamp (by omega)]
    obtain ⟨-, h2⟩ := lawAt_nat (by omega) c
    rw [Nat.mul_comm (lawAt fs day tk).toNatClampNeg 7]
    exact (h.1 _ (by omega)).1
theorem mud_eq {tk : Nat} {fm fs d30 d31 : Nat → Int32} {td drt : Int32} (h : IL tk fm fs d30 d31) (htk : tk ≤ 10) : F_X7_isMuddy td drt tk fm fs = 0 ↔ drt ≤ F_X8_tellsOn tk d30 d31 td 3 := by
  have e3 : F_X2_term tk fm fs td 3 = F_X8_tellsOn tk d30 d31 td 3 := term_eq h htk (wt := 3) rfl (by decide)
  rw [F_X7_isMuddy, e3]
  by_cases c : drt ≤ F_X8_tellsOn tk d30 d31 td 3
  · rw [if_pos c]
    exact ⟨fun _ => c, fun _ => rfl⟩
  · rw [if_neg c]
    exact ⟨fun q => absurd q (by decide), fun q => absurd q c⟩
theorem sim_let {tk : Nat} {fm fs d30 d31 : Nat → Int32} {td fi hgt drt much : Int32} (h : IL tk fm fs d30 d31) (htk : tk ≤ 10) : F_X7_let td hgt drt tk fm fs much = F_X8_let td hgt drt tk d30 d31 much ∧ F_X7_let_1_0 td hgt drt tk fm fs much = F_X8_let_0_15 td hgt drt tk d30 d31 much ∧ F_X7_let_0_8 td fi hgt drt tk fm fs much = F_X8_let_0_20 td hgt drt fi tk d30 d31 much := by
  have e6 : F_X2_term tk fm fs td 6 = F_X8_tellsOn tk d30 d31 td 6 := term_eq h htk (wt := 6) rfl (by decide)
  have em := mud_eq (td := td) (drt := drt) h htk
  unfold F_X7_let F_X8_let F_X7_let_1_0 F_X8_let_0_15 F_X7_let_0_8 F_X8_let_0_20
  rw [isIn_eq, e6]
  by_cases c1 : F_X7_within much 1 hgt = 0
  · simp only [if_pos c1]
    exact ⟨trivial, trivial, trivial⟩
  · simp only [if_neg c1]
    by_cases c2 : F_X7_isMuddy td drt tk fm fs = 0
    · have c3 := em.mp c2
      simp only [if_pos c2, if_pos c3]
      exact ⟨trivial, trivial, trivial⟩
    · have c3 := fun q => c2 (em.mpr q)
      simp only [if_neg c2, if_neg c3]
      exact ⟨trivial, trivial, trivial⟩
theorem wn_7_6 {what : Int32} (h : F_X7_within what 0 7 = 0) : F_X7_within what 0 6 = 0 := by
  by_cases c : F_X7_within what 0 6 = 0
  · exact c
  · obtain ⟨h1, h2⟩ := wn_1 c
    rcases wn_0 h with q | q
    · exact absurd q h1
    · refine absurd ?_ h2
      rw [fa_lt] at q ⊢
      have e6 : (6 : Int32).toInt = 6 := by decide
      have e7 : (7 : Int32).toInt = 7 := by decide
      omega
theorem sim_tells {tk : Nat} {fm fs d30 d31 : Nat → Int32} {day what : Int32} (h : IL tk fm fs d30 d31) (htk : tk ≤ 10) : F_X7_tells tk fm fs day what = F_X8_tells tk d30 d31 day what := by
  unfold F_X7_tells F_X8_tells
  rw [isIn_eq]
  by_cases c1 : F_X7_within day 0 600 = 0
  · rw [if_pos c1, if_pos c1]
  · rw [if_neg c1, if_neg c1]
    by_cases c2 : F_X7_within what 0 7 = 0
    · rw [if_pos c2]
      have c3 := wn_7_6 c2
      have c7 : ¬ what = 7 := by
        intro q
        rw [q] at c2
        exact absurd c2 (by decide)
      rw [if_neg c7, F_X2_term, F_X2_usual, if_pos c3]
      by_cases c4 : lawAt fs day tk = (-1)
      · rw [if_pos c4]
      · rw [if_neg c4, if_pos c3]
    · rw [if_neg c2]
      by_cases c7 : what = 7
      · rw [if_pos c7, if_pos c7, inF_eq, lawAt_cong h.2]
      · rw [if_neg c7, if_neg c7]
        obtain ⟨h1, h2⟩ := wn_7 (x := what) (by rw [isIn_eq]; exact c2) c7
        exact term_eq h htk h1 h2
