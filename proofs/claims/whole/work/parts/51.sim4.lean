/-! the calls, held against each other: days, soil laid back, the tape -/
theorem lp_add {σ : Type} (f : Nat → σ → σ) (a : Nat) (x : σ) : ∀ b, lp f (a + b) x = lp (fun j => f (a + j)) b (lp f a x)
  | 0 => rfl
  | b + 1 => by
    show lp f (a + b + 1) x = _
    rw [lp_s, lp_s, lp_add f a x b]
theorem lp_id {σ : Type} {f : Nat → σ → σ} {n : Nat} (h : ∀ j y, j < n → f j y = y) (x : σ) : ∀ t, t ≤ n → lp f t x = x
  | 0, _ => rfl
  | t + 1, ht => by rw [lp_s, lp_id h x t (by omega), h t x (by omega)]
theorem lp_one {σ : Type} {f : Nat → σ → σ} {n q : Nat} (hq : q < n) (h : ∀ j y, j < n → j ≠ q → f j y = y) (x : σ) : lp f n x = f q x := by
  have e1 : n = q + (n - q) := by omega
  rw [e1, lp_add]
  rw [lp_id (n := q) (fun j y hj => h j y (by omega) (by omega)) x q (Nat.le_refl _)]
  obtain ⟨k, hk⟩ : ∃ k, n - q = 1 + k := ⟨n - q - 1, by omega⟩
  rw [hk, lp_add]
  rw [lp_id (n := k) (fun j y hj => h _ y (by omega) (by omega)) _ k (Nat.le_refl _)]
  rfl
theorem fine_run {dg tk : Nat} {np : Nat} {td fi T4 T6 : Int32} {fp fy fb fn d4 d6 d7 d8 d30 d31 : Nat → Int32} (hok : okP fp dg np) (h8 : np ≤ 8) (hd : dg ≤ 20) (hT4 : F_X8_tellsOn tk d30 d31 td 4 = T4) (hT6 : F_X8_tellsOn tk d30 d31 td 6 = T6) (b4 : 0 ≤ T4.toInt ∧ T4.toInt ≤ 9999) (htd : ITd td)
    (a3 : ∀ k, k < 160 → (dK dg fp k ∧ d6 k = 1 ∧ d7 k = fb (k / 8) ∧ d8 k = fn (k / 8) ∧ d4 k = fy (k / 8)) ∨ (¬ dK dg fp k ∧ d6 k = 0 ∧ d7 k = 0 ∧ d8 k = 0))
    (a4 : ∀ i, i < dg → (fb i = 0 ∨ fb i = 1) ∧ (fn i = 0 ∨ fn i = 1) ∧ 0 ≤ (fy i).toInt ∧ (fy i).toInt ≤ 600) :
    ∀ r, r ≤ dg → (lp (F_X8_day_L62 td tk d4 d6 d7 d30 d31) (8 * r) (fi, d8)).1 = fi + (lp (F_X6_fineAll_L4 fy fb (td - T4)) r (0, fn)).1 * T6 ∧ (∀ k, k < 160 → (dK dg fp k → (lp (F_X8_day_L62 td tk d4 d6 d7 d30 d31) (8 * r) (fi, d8)).2 k = (lp (F_X6_fineAll_L4 fy fb (td - T4)) r (0, fn)).2 (k / 8)) ∧ (¬ dK dg fp k → (lp (F_X8_day_L62 td tk d4 d6 d7 d30 d31) (8 * r) (fi, d8)).2 k = 0)) ∧ (∀ i, r ≤ i → (lp (F_X6_fineAll_L4 fy fb (td - T4)) r (0, fn)).2 i = fn i) ∧ (∀ i, i < dg → (lp (F_X6_fineAll_L4 fy fb (td - T4)) r (0, fn)).2 i = 0 ∨ (lp (F_X6_fineAll_L4 fy fb (td - T4)) r (0, fn)).2 i = 1) := by
  intro r
  induction r with
  | zero =>
    intro _
    refine ⟨?_, ?_, fun i _ => rfl, fun i hi => (a4 i hi).2.1⟩
    · show fi = fi + 0 * T6
      rw [Int32.zero_mul, Int32.add_zero]
    · intro k hk
      rcases a3 k hk with ⟨h1, -, -, h2, -⟩ | ⟨h1, -, -, h2⟩
      · exact ⟨fun _ => h2, fun q => absurd h1 q⟩
      · exact ⟨fun q => absurd q h1, fun _ => h2⟩
  | succ r ih =>
    intro hr'
    obtain ⟨i1, i2, i3, i4⟩ := ih (by omega)
    have hrd : r < dg := by omega
    obtain ⟨eq0, lq⟩ := hok r hrd
    have e8 : 8 * (r + 1) = 8 * r + 8 := by omega
    have hone : lp (F_X8_day_L62 td tk d4 d6 d7 d30 d31) (8 * (r + 1)) (fi, d8) = F_X8_day_L62 td tk d4 d6 d7 d30 d31 (8 * r + (fp r).toNatClampNeg) (lp (F_X8_day_L62 td tk d4 d6 d7 d30 d31) (8 * r) (fi, d8)) := by
      rw [e8, lp_add, lp_one (q := (fp r).toNatClampNeg) (by omega)]
      intro j y hj hne
      have hnd : ¬ dK dg fp (8 * r + j) := by
        rw [dK_iff hj]
        intro h
        have := h.2
        rw [eq0, nI_eq (by omega) (by omega)] at this
        omega
      rcases a3 (8 * r + j) (by omega) with ⟨h1, -⟩ | ⟨-, h1, -⟩
      · exact absurd h1 hnd
      · show F_X8_day_L62 td tk d4 d6 d7 d30 d31 (8 * r + j) y = y
        unfold F_X8_day_L62
        rw [if_pos h1]
    rw [hone, lp_s]
    have hk0 : 8 * r + (fp r).toNatClampNeg < 160 := by omega
    have hdk : dK dg fp (8 * r + (fp r).toNatClampNeg) := by
      rw [dK_iff (by omega)]
      exact ⟨hrd, eq0⟩
    have ek : (8 * r + (fp r).toNatClampNeg) / 8 = r := by omega
    obtain ⟨s1, s2, s3, s4⟩ : d6 (8 * r + (fp r).toNatClampNeg) = 1 ∧ d7 (8 * r + (fp r).toNatClampNeg) = fb r ∧ d8 (8 * r + (fp r).toNatClampNeg) = fn r ∧ d4 (8 * r + (fp r).toNatClampNeg) = fy r := by
      rcases a3 _ hk0 with ⟨-, h1, h2, h3, h4⟩ | ⟨h1, -⟩
      · rw [ek] at h2 h3 h4
        exact ⟨h1, h2, h3, h4⟩
      · exact absurd hdk h1
    have s5 := (i2 _ hk0).1 hdk
    rw [ek] at s5
    have f6 : ¬ d6 (8 * r + (fp r).toNatClampNeg) = 0 := by rw [s1]; decide
    have hinj : ∀ k, dK dg fp k → k / 8 = r → k = 8 * r + (fp r).toNatClampNeg := by
      intro k h1 h2
      have h3 := h1.2
      rw [h2, eq0, nI_eq (by omega) (by omega)] at h3
      omega
    generalize (fp r).toNatClampNeg = q at *
    generalize lp (F_X8_day_L62 td tk d4 d6 d7 d30 d31) (8 * r) (fi, d8) = Y at *
    generalize lp (F_X6_fineAll_L4 fy fb (td - T4)) r (0, fn) = X at *
    obtain ⟨-, -, y1, y2⟩ := a4 r hrd
    have esub : (td - T4).toInt = td.toInt - T4.toInt := by
      have h1 := htd.1
      have h2 := htd.2
      rw [fb_subI] <;> omega
    have esub2 : (td - fy r).toInt = td.toInt - (fy r).toInt := by
      have h1 := htd.1
      have h2 := htd.2
      rw [fb_subI] <;> omega
    have hcond : td - T4 ≤ fy r ↔ ¬ T4 < td - fy r := by
      rw [fa_le, fa_lt, esub, esub2]
      omega
    have keep : Y.1 = fi + X.1 * T6 ∧ (∀ k, k < 160 → (dK dg fp k → Y.2 k = X.2 (k / 8)) ∧ (¬ dK dg fp k → Y.2 k = 0)) ∧ (∀ i, r + 1 ≤ i → X.2 i = fn i) ∧ (∀ i, i < dg → X.2 i = 0 ∨ X.2 i = 1) := ⟨i1, i2, fun i hi => i3 i (by omega), i4⟩
    unfold F_X8_day_L62 F_X6_fineAll_L4
    rw [if_neg f6, s2, s5, s4, hT4, hT6]
    by_cases c1 : td - T4 ≤ fy r
    · rw [if_pos c1, if_neg (hcond.mp c1)]
      by_cases c2 : fb r = 0
      · rw [if_pos c2]
        by_cases c3 : X.2 r = 0
        · rw [if_pos c3]
          exact keep
        · rw [if_neg c3]
          exact keep
      · rw [if_neg c2]
        exact keep
    · rw [if_neg c1]
      by_cases c2 : fb r = 0
      · rw [if_pos c2, if_pos c2]
        by_cases c3 : X.2 r = 0
        · have c4 : T4 < td - fy r := by
            by_cases c5 : T4 < td - fy r
            · exact c5
            · exact absurd (hcond.mpr c5) c1
          rw [if_pos c3, if_pos c3, if_pos c4]
          refine ⟨?_, ?_, ?_, ?_⟩
          · show Y.1 + T6 = fi + (X.1 + 1) * T6
            rw [i1, Int32.add_mul, Int32.one_mul, Int32.add_assoc]
          · intro k hk
            show (dK dg fp k → upd Y.2 (8 * r + q) 1 k = upd X.2 r 1 (k / 8)) ∧ (¬ dK dg fp k → upd Y.2 (8 * r + q) 1 k = 0)
            refine ⟨fun h1 => ?_, fun h1 => ?_⟩
            · by_cases c5 : k / 8 = r
              · rw [hinj k h1 c5, ek, pk_us, pk_us]
              · rw [pk_un c5, pk_un (fun q9 => c5 (by rw [q9]; exact ek))]
                exact (i2 k hk).1 h1
            · rw [pk_un (fun q9 => h1 (by rw [q9]; exact hdk))]
              exact (i2 k hk).2 h1
          · intro i hi
            show upd X.2 r 1 i = fn i
            rw [pk_un (by omega)]
            exact i3 i (by omega)
          · intro i hi
            show upd X.2 r 1 i = 0 ∨ upd X.2 r 1 i = 1
            by_cases c5 : i = r
            · rw [c5, pk_us]
              exact Or.inr rfl
            · rw [pk_un c5]
              exact i4 i hi
        · rw [if_neg c3, if_neg c3]
          exact keep
      · rw [if_neg c2, if_neg c2]
        exact keep
theorem sim_day {nr np dg tk : Nat} {lb mp td fi hgt drt hrs water : Int32} {fp fy fb fn d4 d6 d7 d8 fm fs d30 d31 : Nat → Int32} (h : IT nr np dg lb mp fp fy fb fn d4 d6 d7 d8) (hr2 : nr ≤ 20) (h8 : np ≤ 8) (hdg : dg ≤ nr) (hl : IL tk fm fs d30 d31) (htk : tk ≤ 10) (htd : ITd td) :
    F_X7_day td water = F_X8_day td water ∧ F_X7_day_0_7 td water = F_X8_day_0_11 td water ∧ F_X7_day_0_8 td fi dg fy fb fn tk fm fs water = F_X8_day_0_20 td fi tk d4 d6 d7 d8 d30 d31 water ∧ F_X7_day_6_0 td hgt water = F_X8_day_0_15 td hgt water ∧ F_X7_day_6_1 td drt water = F_X8_day_0_16 td drt water ∧ F_X7_day_6_2 td hrs water = F_X8_day_0_14 td hrs water ∧ ITd (F_X8_day_0_11 td water) ∧ IT nr np dg lb mp fp fy fb (F_X7_day_5 td dg fy fb fn tk fm fs water) d4 d6 d7 (F_X8_day_4 td fi tk d4 d6 d7 d8 d30 d31 water) := by
  unfold F_X7_day F_X8_day F_X7_day_0_7 F_X8_day_0_11 F_X7_day_0_8 F_X8_day_0_20 F_X7_day_6_0 F_X8_day_0_15 F_X7_day_6_1 F_X8_day_0_16 F_X7_day_6_2 F_X8_day_0_14 F_X7_day_5 F_X8_day_4
  rw [isIn_eq]
  by_cases c1 : F_X7_within water 0 200 = 0
  · simp only [if_pos c1]
    exact ⟨trivial, trivial, trivial, trivial, trivial, trivial, htd, h⟩
  · simp only [if_neg c1]
    have e600 : (600 : Int32).toInt = 600 := by decide
    by_cases c2 : td = 600
    · have c3 : ¬ td < 600 := by
        rw [c2]
        decide
      simp only [if_pos c2, if_neg c3]
      exact ⟨trivial, trivial, trivial, trivial, trivial, trivial, htd, h⟩
    · have c3 : td < 600 := by
        rw [fa_lt, e600]
        have := htd.2
        have : ¬ td.toInt = 600 := fun q => c2 (by rw [fa_eq, e600]; exact q)
        omega
      simp only [if_neg c2, if_pos c3]
      have t4 : F_X2_term tk fm fs td 4 = F_X8_tellsOn tk d30 d31 td 4 := term_eq hl htk (wt := 4) rfl (by decide)
      have t6 : F_X2_term tk fm fs td 6 = F_X8_tellsOn tk d30 d31 td 6 := term_eq hl htk (wt := 6) rfl (by decide)
      have b4 := term_bd hl htk (day := td) (wt := 4) (by decide)
      rw [show nI 4 = (4 : Int32) from rfl, t4] at b4
      obtain ⟨a1, a2, a3, a4, a5, a6⟩ := h
      obtain ⟨r1, r2, r3, r4⟩ := fine_run (fi := fi) a1 h8 (by omega) rfl rfl b4 htd a3 a4 dg (Nat.le_refl _)
      have e160 : lp (F_X8_day_L62 td tk d4 d6 d7 d30 d31) 160 (fi, d8) = lp (F_X8_day_L62 td tk d4 d6 d7 d30 d31) (8 * dg) (fi, d8) := by
        have e1 : 160 = 8 * dg + (160 - 8 * dg) := by omega
        rw [e1, lp_add, lp_id (n := 160 - 8 * dg) _ _ _ (Nat.le_refl _)]
        intro j y hj
        show F_X8_day_L62 td tk d4 d6 d7 d30 d31 (8 * dg + j) y = y
        rcases a3 (8 * dg + j) (by omega) with ⟨h1, -⟩ | ⟨-, h1, -⟩
        · have := h1.1
          omega
        · unfold F_X8_day_L62
          rw [if_pos h1]
      rw [t4, t6, e160]
      refine ⟨trivial, trivial, r1.symm, trivial, trivial, trivial, ?_, a1, a2, ?_, ?_, ?_, a6⟩
      · have h1 := htd.1
        have e2 : (1 : Int32).toInt = 1 := by decide
        rw [fa_lt, e600] at c3
        have e1 : (td + 1).toInt = td.toInt + 1 := by
          rw [fb_addI] <;> rw [e2] <;> omega
        exact ⟨by omega, by omega⟩
      · intro k hk
        rcases a3 k hk with ⟨h1, h2, h3, h4, h5⟩ | ⟨h1, h2, h3, h4⟩
        · exact Or.inl ⟨h1, h2, h3, (r2 k hk).1 h1, h5⟩
        · exact Or.inr ⟨h1, h2, h3, (r2 k hk).2 h1⟩
      · intro i hi
        exact ⟨(a4 i hi).1, r4 i hi, (a4 i hi).2.2⟩
      · intro i h1 h2
        exact ⟨(a5 i h1 h2).1, (r3 i h1).trans (a5 i h1 h2).2⟩
theorem cnt_upd {d : Nat → Int32} {k : Nat} (h0 : d k = 0) : ∀ n, lp (F_X8_count_L115 (upd d k 1)) n 0 = if k < n then lp (F_X8_count_L115 d) n 0 + 1 else lp (F_X8_count_L115 d) n 0
  | 0 => rfl
  | n + 1 => by
    rw [lp_s, lp_s, cnt_upd h0 n]
    unfold F_X8_count_L115
    by_cases c1 : k = n
    · subst c1
      rw [if_neg (Nat.lt_irrefl k), if_pos (Nat.lt_succ_self k), pk_us, h0]
      have e1 : F_X8_one 1 = 1 := by decide
      have e0 : F_X8_one 0 = 0 := by decide
      rw [e1, e0, Int32.add_zero]
    · rw [pk_un (Ne.symm c1)]
      by_cases c2 : k < n
      · rw [if_pos c2, if_pos (by omega), Int32.add_assoc, Int32.add_assoc, Int32.add_comm 1]
      · rw [if_neg c2, if_neg (by omega)]
theorem sim_back {nr np dg : Nat} {lb mp : Int32} {fp fy fb fn d4 d6 d7 d8 : Nat → Int32} {row place : Int32} (h : IT nr np dg lb mp fp fy fb fn d4 d6 d7 d8) (hr2 : nr ≤ 20) (h8 : np ≤ 8) (hdg : dg ≤ nr) : F_X6_layBack dg fp fb row place = F_X8_back nr np dg d6 d7 row place ∧ IT nr np dg (F_X6_layBack_0_5 dg lb fp fb row place) mp fp fy (F_X6_layBack_3 dg fp fb row place) fn d4 d6 (F_X8_back_2 nr np dg d6 d7 row place) d8 := by
  have h' := h
  obtain ⟨a1, a2, a3, a4, a5, a6⟩ := h'
  unfold F_X6_layBack F_X8_back F_X6_layBack_0_5 F_X6_layBack_3 F_X8_back_2
  rw [sqr_eq]
  by_cases c0 : F_X6_isDug dg fp row place = 0
  · simp only [if_pos c0]
    by_cases c1 : F_X1_has nr np row place = 0
    · simp only [if_pos c1]
      exact ⟨trivial, h⟩
    · simp only [if_neg c1]
      obtain ⟨⟨e1, l1⟩, e2, l2⟩ := has_1 (by omega) (by omega) c1
      have hd := d6_iff h (r := row.toNatClampNeg) (j := place.toNatClampNeg) (by omega) (by omega) (by omega)
      rw [← e1, ← e2] at hd
      simp only [if_pos (hd.mpr c0)]
      exact ⟨trivial, h⟩
  · simp only [if_neg c0]
    have hrow : row = nI row.toNatClampNeg ∧ row.toNatClampNeg < dg := by
      by_cases c1 : F_X7_within row 0 (nI dg - 1) = 0
      · exact absurd (by unfold F_X6_isDug; rw [if_pos c1]) c0
      · exact wn_ix (by omega) c1
    obtain ⟨e1, l1⟩ := hrow
    have hpl : fp row.toNatClampNeg = place := by
      by_cases c1 : fp row.toNatClampNeg = place
      · exact c1
      · refine absurd ?_ c0
        rw [e1, dug_iff (by omega) (by omega)]
        exact fun q => c1 q.2
    obtain ⟨e2, l2⟩ := a1 _ l1
    rw [hpl] at e2 l2
    have c1 : ¬ F_X1_has nr np row place = 0 := by
      rw [e1, e2]
      exact has_in (by omega) l2 (by omega) (by omega)
    have hd := d6_iff h (r := row.toNatClampNeg) (j := place.toNatClampNeg) (by omega) (by omega) (by omega)
    rw [← e1, ← e2] at hd
    have c2 : ¬ d6 (8 * row.toNatClampNeg + place.toNatClampNeg) = 0 := fun q => c0 (hd.mp q)
    simp only [if_neg c1, if_neg c2]
    have hk0 : 8 * row.toNatClampNeg + place.toNatClampNeg < 160 := by omega
    have ek : (8 * row.toNatClampNeg + place.toNatClampNeg) / 8 = row.toNatClampNeg := by omega
    have hdk : dK dg fp (8 * row.toNatClampNeg + place.toNatClampNeg) := by
      rw [dK_iff (by omega)]
      exact ⟨l1, by rw [hpl]; exact e2⟩
    have e7 : d7 (8 * row.toNatClampNeg + place.toNatClampNeg) = fb row.toNatClampNeg := by
      rcases a3 _ hk0 with ⟨-, -, h2, -⟩ | ⟨h1, -⟩
      · rw [ek] at h2
        exact h2
      · exact absurd hdk h1
    rw [e7]
    by_cases c3 : fb row.toNatClampNeg = 0
    · simp only [if_pos c3]
      have hc : 3 ≤ F_X6_dredgeRow dg - row ↔ row ≤ nI dg - 1 - 3 := by
        rw [dr_eq (by omega), e1, nI_dec (by omega)]
        have e3 : (3 : Int32) = nI 3 := rfl
        rw [e3, fa_le, fa_le, pk_sub_toInt (by omega) (by omega), pk_sub_toInt (by omega) (by omega), nI_toInt (by omega), nI_toInt (by omega)]
        omega
      by_cases c4 : 3 ≤ F_X6_dredgeRow dg - row
      · simp only [if_pos c4, if_pos (hc.mp c4)]
        refine ⟨trivial, a1, a2, ?_, ?_, ?_, ?_⟩
        · intro k hk
          by_cases c5 : k = 8 * row.toNatClampNeg + place.toNatClampNeg
          · rw [c5, ek, pk_us, pk_us]
            rcases a3 _ hk0 with ⟨h1, h2, -, h4⟩ | ⟨h1, -⟩
            · rw [ek] at h4
              exact Or.inl ⟨h1, h2, rfl, h4⟩
            · exact absurd hdk h1
          · rw [pk_un c5]
            rcases a3 k hk with ⟨h1, h2, h3, h4⟩ | h1
            · have hne : k / 8 ≠ row.toNatClampNeg := by
                intro q
                have h5 := h1.2
                rw [q, hpl, e2, nI_eq (by omega) (by omega)] at h5
                omega
              rw [pk_un hne]
              exact Or.inl ⟨h1, h2, h3, h4⟩
            · exact Or.inr h1
        · intro i hi
          by_cases c5 : i = row.toNatClampNeg
          · rw [c5, pk_us]
            have := a4 _ l1
            exact ⟨Or.inr rfl, this.2⟩
          · rw [pk_un c5]
            exact a4 i hi
        · intro i hi1 hi2
          rw [pk_un (by omega)]
          exact a5 i hi1 hi2
        · rw [cnt_upd (by rw [e7]; exact c3), if_pos hk0, a6]
      · simp only [if_neg c4, if_neg (fun q => c4 (hc.mpr q))]
        exact ⟨trivial, h⟩
    · simp only [if_neg c3]
      exact ⟨trivial, h⟩
theorem sim_count {nr np dg tk nb : Nat} {g lb mp td fi hgt drt hrs wh gn what : Int32} {fp fy fb fn d4 d6 d7 d8 fl fg d3 d5 : Nat → Int32} (h : IT nr np dg lb mp fp fy fb fn d4 d6 d7 d8) (hnp : 0 < np) (hr2 : nr ≤ 20) (hdg : dg ≤ nr) (hs : IGs nr np g fl fg d3 d5) : F_X7_count td fi nr np fl fg dg lb fp hgt drt hrs wh gn tk nb what = F_X8_count g td mp hrs hgt drt wh gn fi nr np nb tk dg d3 d5 d7 what := by
  unfold F_X7_count F_X8_count
  rw [dr_eq (by omega), sim_quarrels hnp hs, ← h.2.1, ← h.2.2.2.2.2]
theorem by_eq (f s' : Int32) (k : Nat) (hk : k = 0 ∨ k = 8 ∨ k = 16 ∨ k = 24) (hs1 : ((s' &&& 31).toBitVec.smod 32).toNat = k) (hs2 : ((s'.toUInt32 &&& Int32.toUInt32 31).toBitVec % 32).toNat = k) : vp_nar .byte ((f >>> (s' &&& 31)).toInt8.toInt32) = ((f.toUInt32 >>> (s'.toUInt32 &&& Int32.toUInt32 31)).toInt32 &&& 255).toInt8.toInt32 ∧ 0 ≤ ((f.toUInt32 >>> (s'.toUInt32 &&& Int32.toUInt32 31)).toInt32 &&& 255).toInt ∧ ((f.toUInt32 >>> (s'.toUInt32 &&& Int32.toUInt32 31)).toInt32 &&& 255).toInt < 256 := by
  have e1 := pk_shr f (s' &&& 31) k hs1
  have e2 := pk_ushr f s' k hs2
  have e3 := pk_and ((f.toUInt32 >>> (s'.toUInt32 &&& Int32.toUInt32 31)).toInt32) (m := 255) 8 (by decide)
  rw [e2] at e3
  rw [pk_vb, e3]
  have e4 : (nI (f.toBitVec.toNat / 2 ^ k % 2 ^ 8)).toInt = ((f.toBitVec.toNat / 2 ^ k % 2 ^ 8 : Nat) : Int) := nI_toInt (by omega)
  refine ⟨congrArg Int8.toInt32 ?_, by omega, by omega⟩
  apply Int8.toInt_inj.mp
  rw [Int32.toInt_toInt8, Int32.toInt_toInt8, e1, e4, Int.shiftRight_eq_div_pow]
  have e5 : f.toInt = if 2 * f.toBitVec.toNat < 2 ^ 32 then (f.toBitVec.toNat : Int) else (f.toBitVec.toNat : Int) - 2 ^ 32 := BitVec.toInt_eq_toNat_cond _
  have e6 : f.toInt / ((2 ^ k : Nat) : Int) % ((2 ^ 8 : Nat) : Int) = ((f.toBitVec.toNat / 2 ^ k % 2 ^ 8 : Nat) : Int) % ((2 ^ 8 : Nat) : Int) := by
    rw [e5]
    generalize f.toBitVec.toNat = n
    rcases hk with rfl | rfl | rfl | rfl
    · split <;> omega
    · split <;> omega
    · split <;> omega
    · split <;> omega
  unfold Int.bmod
  rw [e6]
theorem ie1 {nb : Nat} {tp d23 : Nat → Int32} (f s' : Int32) (k : Nat) (hk : k = 0 ∨ k = 8 ∨ k = 16 ∨ k = 24) (hs1 : ((s' &&& 31).toBitVec.smod 32).toNat = k) (hs2 : ((s'.toUInt32 &&& Int32.toUInt32 31).toBitVec % 32).toNat = k) (h : IE nb tp d23) : IE (nb + 1) (upd tp nb ((f.toUInt32 >>> (s'.toUInt32 &&& Int32.toUInt32 31)).toInt32 &&& 255)) (upd d23 nb (vp_nar .byte ((f >>> (s' &&& 31)).toInt8.toInt32))) := by
  intro j hj
  by_cases c1 : j = nb
  · rw [c1, pk_us, pk_us]
    exact by_eq f s' k hk hs1 hs2
  · rw [pk_un c1, pk_un c1]
    exact h j (by omega)
theorem ie4 {nb : Nat} {tp d23 : Nat → Int32} (f : Int32) (h : IE nb tp d23) : IE (nb + 1 + 1 + 1 + 1) (upd (upd (upd (upd tp nb (((f.toUInt32 >>> (Int32.toUInt32 24 &&& Int32.toUInt32 31)).toInt32) &&& 255)) (nb + 1) (((f.toUInt32 >>> (Int32.toUInt32 16 &&& Int32.toUInt32 31)).toInt32) &&& 255)) (nb + 1 + 1) (((f.toUInt32 >>> (Int32.toUInt32 8 &&& Int32.toUInt32 31)).toInt32) &&& 255)) (nb + 1 + 1 + 1) (((f.toUInt32 >>> (Int32.toUInt32 0 &&& Int32.toUInt32 31)).toInt32) &&& 255)) (upd (upd (upd (upd d23 nb (vp_nar .byte ((f >>> (24 &&& 31)).toInt8.toInt32))) (nb + 1) (vp_nar .byte ((f >>> (16 &&& 31)).toInt8.toInt32))) (nb + 1 + 1) (vp_nar .byte ((f >>> (8 &&& 31)).toInt8.toInt32))) (nb + 1 + 1 + 1) (vp_nar .byte ((f >>> (0 &&& 31)).toInt8.toInt32))) :=
  ie1 f 0 0 (by decide) (by decide) (by decide) (ie1 f 8 8 (by decide) (by decide) (by decide) (ie1 f 16 16 (by decide) (by decide) (by decide) (ie1 f 24 24 (by decide) (by decide) (by decide) h)))
theorem sim_feed {nb : Nat} {tp d23 : Nat → Int32} {f1 f2 f3 f4 f5 : Int32} (hnb : nb ≤ 300) (h : IE nb tp d23) : F_X7_feed nb = F_X8_feed nb ∧ F_X7_feed_1_2 nb = F_X8_feed_0_25 nb ∧ F_X8_feed_0_25 nb ≤ 300 ∧ IE (F_X8_feed_0_25 nb) (F_X7_feed_2 nb tp f1 f2 f3 f4 f5) (F_X8_feed_1 nb d23 f1 f2 f3 f4 f5) := by
  have e20 : nI nb + 20 = nI (nb + 20) := nI_add nb 20
  have e300 : (300 : Int32) = nI 300 := rfl
  have hh : F_X3_hasRoom nb = 0 ↔ ¬ nI nb + 20 ≤ 300 := by
    unfold F_X3_hasRoom
    by_cases c1 : nI nb + 20 ≤ 300
    · rw [if_neg (Int32.not_lt.mpr c1)]
      exact ⟨fun q => absurd q (by decide), fun q => absurd c1 q⟩
    · rw [if_pos (fa_of_nle c1)]
      exact ⟨fun _ => c1, fun _ => rfl⟩
  unfold F_X7_feed F_X8_feed F_X7_feed_1_2 F_X8_feed_0_25 F_X7_feed_2 F_X8_feed_1
  by_cases c1 : nI nb + 20 ≤ 300
  · have c2 : ¬ F_X3_hasRoom nb = 0 := fun q => hh.mp q c1
    simp only [if_pos c1, if_neg c2]
    rw [e20, e300, nI_leI (by omega) (by omega)] at c1
    exact ⟨trivial, trivial, by omega, ie4 f5 (ie4 f4 (ie4 f3 (ie4 f2 (ie4 f1 h))))⟩
  · simp only [if_neg c1, if_pos (hh.mpr c1)]
    exact ⟨trivial, trivial, hnb, h⟩
