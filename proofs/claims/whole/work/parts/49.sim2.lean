/-! the calls, held against each other: ground -/
theorem sqr_eq : F_X8_isSquare = F_X1_has := rfl
theorem on_eq : F_X8_one = F_X7_oneIf := rfl
theorem has_1 {nr np : Nat} {row place : Int32} (hnr : nr < 2 ^ 31) (hnp : np < 2 ^ 31) (h : ¬ F_X1_has nr np row place = 0) : (row = nI row.toNatClampNeg ∧ row.toNatClampNeg < nr) ∧ (place = nI place.toNatClampNeg ∧ place.toNatClampNeg < np) := by
  unfold F_X1_has at h
  by_cases c1 : F_X7_within row 0 (nI nr - 1) = 0
  · rw [if_pos c1] at h
    exact absurd rfl h
  · by_cases c2 : F_X7_within place 0 (nI np - 1) = 0
    · rw [if_neg c1, if_pos c2] at h
      exact absurd rfl h
    · exact ⟨wn_ix hnr c1, wn_ix hnp c2⟩
theorem wn_nI {r n : Nat} (hr1 : r < 2 ^ 31) (hn : n < 2 ^ 31) (h : r < n) : ¬ F_X7_within (nI r) 0 (nI n - 1) = 0 := by
  unfold F_X7_within
  rw [if_neg (nI_pos hr1), nI_dec (by omega), if_neg (nI_nlt (by omega) (by omega))]
  decide
theorem wn_dg {r n : Nat} (hr1 : r < 2 ^ 31) (hn : n < 2 ^ 31) : F_X7_within (nI r) 0 (nI n - 1) = 0 ↔ ¬ r < n := by
  constructor
  · intro h q
    exact wn_nI hr1 hn q h
  · intro h
    by_cases c1 : F_X7_within (nI r) 0 (nI n - 1) = 0
    · exact c1
    · have := (wn_ix hn c1).2
      rw [nI_clamp hr1] at this
      exact absurd this h
theorem dug_iff {dg r : Nat} {fp : Nat → Int32} {place : Int32} (hr1 : r < 2 ^ 31) (hn : dg < 2 ^ 31) : F_X6_isDug dg fp (nI r) place = 0 ↔ ¬ (r < dg ∧ fp r = place) := by
  unfold F_X6_isDug
  rw [nI_clamp hr1]
  by_cases c1 : F_X7_within (nI r) 0 (nI dg - 1) = 0
  · rw [if_pos c1]
    exact ⟨fun _ q => (wn_dg hr1 hn).mp c1 q.1, fun _ => rfl⟩
  · rw [if_neg c1]
    have hl : r < dg := by
      by_cases c2 : r < dg
      · exact c2
      · exact absurd ((wn_dg hr1 hn).mpr c2) c1
    by_cases c2 : fp r = place
    · rw [if_pos c2]
      exact ⟨fun q => absurd q (by decide), fun q => absurd ⟨hl, c2⟩ q⟩
    · rw [if_neg c2]
      exact ⟨fun _ q => c2 q.2, fun _ => rfl⟩
theorem dK_iff {dg r j : Nat} {fp : Nat → Int32} (hj : j < 8) : dK dg fp (8 * r + j) ↔ (r < dg ∧ fp r = nI j) := by
  unfold dK
  have e1 : (8 * r + j) / 8 = r := by omega
  have e2 : (8 * r + j) % 8 = j := by omega
  rw [e1, e2]
theorem d6_iff {nr np dg r j : Nat} {lb mp : Int32} {fp fy fb fn d4 d6 d7 d8 : Nat → Int32} (h : IT nr np dg lb mp fp fy fb fn d4 d6 d7 d8) (hr1 : r < 20) (hj : j < 8) (hdg : dg < 2 ^ 31) : d6 (8 * r + j) = 0 ↔ F_X6_isDug dg fp (nI r) (nI j) = 0 := by
  rw [dug_iff (by omega) hdg, ← dK_iff hj]
  rcases h.2.2.1 (8 * r + j) (by omega) with ⟨h1, h2, -⟩ | ⟨h1, h2, -⟩
  · rw [h2]
    exact ⟨fun q => absurd q (by decide), fun q => absurd h1 q⟩
  · exact ⟨fun _ => h1, fun _ => h2⟩
theorem up2 {np i j r q : Nat} {f h : Nat → Int32} {v w : Int32} (hj : j < np) (hq : q < np) (h8 : np ≤ 8) : (i = r ∧ j = q ∧ upd f (r * np + q) v (i * np + j) = v ∧ upd h (8 * r + q) w (8 * i + j) = w) ∨ (upd f (r * np + q) v (i * np + j) = f (i * np + j) ∧ upd h (8 * r + q) w (8 * i + j) = h (8 * i + j)) := by
  by_cases c1 : i = r
  · by_cases c2 : j = q
    · subst c1
      subst c2
      exact Or.inl ⟨rfl, rfl, pk_us, pk_us⟩
    · refine Or.inr ⟨pk_un (fun q => ?_), pk_un (fun q => ?_)⟩
      · subst c1
        omega
      · omega
  · refine Or.inr ⟨pk_un (fun q3 => ?_), pk_un (fun q3 => ?_)⟩
    · have e1 := (dm hj (i := i)).1
      rw [q3, (dm hq).1] at e1
      exact c1 e1.symm
    · omega
theorem up8 {np i j r q : Nat} {h : Nat → Int32} {w : Int32} (hj : j < np) (hq : q < np) (h8 : np ≤ 8) : (i = r ∧ j = q ∧ upd h (8 * r + q) w (8 * i + j) = w) ∨ (¬ (i = r ∧ j = q) ∧ upd h (8 * r + q) w (8 * i + j) = h (8 * i + j)) := by
  by_cases c1 : i = r ∧ j = q
  · obtain ⟨rfl, rfl⟩ := c1
    exact Or.inl ⟨rfl, rfl, pk_us⟩
  · exact Or.inr ⟨c1, pk_un (fun q3 => by omega)⟩
theorem IGd_upd {nr np r q : Nat} {fd d2 : Nat → Int32} {v : Int32} (h : IGd nr np fd d2) (hq : q < np) (h8 : np ≤ 8) (hv : 1 ≤ v.toInt ∧ v.toInt ≤ 9) : IGd nr np (upd fd (r * np + q) v) (upd d2 (8 * r + q) v) := by
  intro i j hi hj
  rcases up2 (f := fd) (h := d2) (v := v) (w := v) (i := i) (r := r) hj hq h8 with ⟨-, -, e1, e2⟩ | ⟨e1, e2⟩
  · rw [e1, e2]
    exact ⟨rfl, hv⟩
  · rw [e1, e2]
    exact h i j hi hj
theorem IGt_upd {nr np r q : Nat} {ft d3 d5 : Nat → Int32} {v : Int32} (h : IGt nr np ft d3 d5) (hq : q < np) (h8 : np ≤ 8) (hv : 0 ≤ v.toInt ∧ v.toInt ≤ 1000) : IGt nr np (upd ft (r * np + q) v) (upd d3 (8 * r + q) v) (upd d5 (8 * r + q) 1) := by
  intro i j hi hj
  rcases up2 (f := ft) (h := d3) (v := v) (w := v) (i := i) (r := r) hj hq h8 with ⟨rfl, rfl, e1, e2⟩ | ⟨e1, e2⟩
  · rw [e1, e2, pk_us]
    exact Or.inr ⟨rfl, rfl, hv⟩
  · rw [e1, e2]
    rcases up8 (h := d5) (w := 1) (i := i) (r := r) hj hq h8 with ⟨rfl, rfl, e3⟩ | ⟨-, e3⟩
    · rw [e3]
      have e4 : v = ft (i * np + j) := pk_us.symm.trans e1
      have e5 : v = d3 (8 * i + j) := pk_us.symm.trans e2
      rw [← e4, ← e5]
      exact Or.inr ⟨rfl, rfl, hv⟩
    · rw [e3]
      exact h i j hi hj
theorem wn_I {x : Int32} {a b : Nat} (hb1 : b < 2 ^ 31) (ha1 : a < 2 ^ 31) (h : ¬ F_X7_within x (nI a) (nI b) = 0) : (a : Int) ≤ x.toInt ∧ x.toInt ≤ b := by
  obtain ⟨h1, h2⟩ := wn_1 h
  rw [fa_lt, nI_toInt ha1] at h1
  rw [fa_lt, nI_toInt hb1] at h2
  omega
theorem undug_eq {nr np dg : Nat} {lb mp : Int32} {fp fy fb fn d4 d6 d7 d8 : Nat → Int32} {row place : Int32} (h : IT nr np dg lb mp fp fy fb fn d4 d6 d7 d8) (hr2 : nr ≤ 20) (h8 : np ≤ 8) (hdg : dg ≤ nr) : (F_X1_has nr np row place = 0 ∧ F_X7_isUndug nr np dg fp row place = 0) ∨ (¬ F_X1_has nr np row place = 0 ∧ ((d6 (8 * row.toNatClampNeg + place.toNatClampNeg) = 0 ∧ ¬ F_X7_isUndug nr np dg fp row place = 0) ∨ (¬ d6 (8 * row.toNatClampNeg + place.toNatClampNeg) = 0 ∧ F_X7_isUndug nr np dg fp row place = 0))) := by
  unfold F_X7_isUndug
  by_cases c1 : F_X1_has nr np row place = 0
  · exact Or.inl ⟨c1, by rw [if_pos c1]⟩
  · refine Or.inr ⟨c1, ?_⟩
    obtain ⟨⟨e1, l1⟩, e2, l2⟩ := has_1 (by omega) (by omega) c1
    have hd := d6_iff h (r := row.toNatClampNeg) (j := place.toNatClampNeg) (by omega) (by omega) (by omega)
    rw [← e1, ← e2] at hd
    rw [if_neg c1]
    by_cases c2 : F_X6_isDug dg fp row place = 0
    · exact Or.inl ⟨hd.mpr c2, by rw [if_pos c2]; decide⟩
    · exact Or.inr ⟨fun q => c2 (hd.mp q), by rw [if_neg c2]⟩
theorem sim_depth {nr np dg : Nat} {lb mp : Int32} {fp fy fb fn d4 d6 d7 d8 fd d2 : Nat → Int32} {row place depth : Int32} (h : IT nr np dg lb mp fp fy fb fn d4 d6 d7 d8) (hr2 : nr ≤ 20) (h8 : np ≤ 8) (hdg : dg ≤ nr) (hd : IGd nr np fd d2) : F_X7_depth nr np dg fp row place depth = F_X8_depth nr np d6 row place depth ∧ IGd nr np (F_X7_depth_2 nr np fd dg fp row place depth) (F_X8_depth_1 nr np d2 d6 row place depth) := by
  unfold F_X7_depth F_X8_depth F_X7_depth_2 F_X8_depth_1
  rw [sqr_eq, isIn_eq]
  rcases undug_eq (row := row) (place := place) h hr2 h8 hdg with ⟨a1, a2⟩ | ⟨a1, ⟨a2, a3⟩ | ⟨a2, a3⟩⟩
  · simp only [if_pos a1, if_pos a2]
    exact ⟨trivial, hd⟩
  · obtain ⟨⟨e1, l1⟩, e2, l2⟩ := has_1 (by omega) (by omega) a1
    simp only [if_neg a1, if_pos a2, if_neg a3]
    by_cases c3 : F_X7_within depth 1 9 = 0
    · simp only [if_pos c3]
      exact ⟨trivial, hd⟩
    · simp only [if_neg c3]
      have := wn_I (a := 1) (b := 9) (by omega) (by omega) c3
      exact ⟨trivial, IGd_upd hd l2 h8 (by omega)⟩
  · simp only [if_neg a1, if_neg a2, if_pos a3]
    exact ⟨trivial, hd⟩
theorem grade_4 {nr np : Nat} {ft fl fg : Nat → Int32} {gnew : Int32} : F_X7_grade_4 nr np ft fl fg gnew = if F_X7_within gnew 0 200 = 0 then (if gnew = 1000 then (nar nr np gnew ft fl fg).1 else fl) else (nar nr np gnew ft fl fg).1 := rfl
theorem grade_5 {nr np : Nat} {ft fl fg : Nat → Int32} {gnew : Int32} : F_X7_grade_5 nr np ft fl fg gnew = if F_X7_within gnew 0 200 = 0 then (if gnew = 1000 then (nar nr np gnew ft fl fg).2 else fg) else (nar nr np gnew ft fl fg).2 := rfl
theorem sim_grade {nr np : Nat} {g gnew : Int32} {ft fl fg d3 d5 : Nat → Int32} (hnp : 0 < np) (hnr : 0 < nr) (hr2 : nr ≤ 20) (h8 : np ≤ 8) (hg : IGg g) (ht : IGt nr np ft d3 d5) (hs : IGs nr np g fl fg d3 d5) : F_X7_grade gnew = F_X8_grade gnew ∧ F_X7_grade_1_6 g gnew = F_X8_grade_0_9 g gnew ∧ IGg (F_X8_grade_0_9 g gnew) ∧ IGs nr np (F_X8_grade_0_9 g gnew) (F_X7_grade_4 nr np ft fl fg gnew) (F_X7_grade_5 nr np ft fl fg gnew) d3 d5 := by
  refine ⟨rfl, rfl, ?_⟩
  rw [grade_4, grade_5]
  unfold F_X8_grade_0_9
  rw [isIn_eq]
  by_cases c1 : F_X7_within gnew 0 200 = 0
  · simp only [if_pos c1]
    by_cases c2 : gnew = 1000
    · have hg2 : IGg gnew := by rw [c2]; unfold IGg; decide
      simp only [if_pos c2]
      exact ⟨hg2, spans_ok hnp hnr h8 hr2 hg2 ht⟩
    · simp only [if_neg c2]
      exact ⟨hg, hs⟩
  · have := wn_I (a := 0) (b := 200) (by omega) (by omega) c1
    have hg2 : IGg gnew := ⟨by omega, by omega⟩
    simp only [if_neg c1]
    exact ⟨hg2, spans_ok hnp hnr h8 hr2 hg2 ht⟩
theorem bore_4 {nr np dg : Nat} {g : Int32} {ft fl fg fp : Nat → Int32} {row place tin : Int32} : F_X7_bore_4 nr np g ft fl fg dg fp row place tin = if F_X7_isUndug nr np dg fp row place = 0 then fl else if F_X7_within tin 0 1000 = 0 then fl else (nar nr np g (upd ft (row.toNatClampNeg * np + place.toNatClampNeg) tin) fl fg).1 := rfl
theorem bore_5 {nr np dg : Nat} {g : Int32} {ft fl fg fp : Nat → Int32} {row place tin : Int32} : F_X7_bore_5 nr np g ft fl fg dg fp row place tin = if F_X7_isUndug nr np dg fp row place = 0 then fg else if F_X7_within tin 0 1000 = 0 then fg else (nar nr np g (upd ft (row.toNatClampNeg * np + place.toNatClampNeg) tin) fl fg).2 := rfl
theorem sim_bore {nr np dg : Nat} {lb mp g : Int32} {fp fy fb fn d4 d6 d7 d8 ft fl fg d3 d5 : Nat → Int32} {row place tin : Int32} (h : IT nr np dg lb mp fp fy fb fn d4 d6 d7 d8) (hnp : 0 < np) (hnr : 0 < nr) (hr2 : nr ≤ 20) (h8 : np ≤ 8) (hdg : dg ≤ nr) (hg : IGg g) (ht : IGt nr np ft d3 d5) (hs : IGs nr np g fl fg d3 d5) : F_X7_bore nr np dg fp row place tin = F_X8_bore nr np d6 row place tin ∧ IGt nr np (F_X7_bore_3 nr np ft dg fp row place tin) (F_X8_bore_1 nr np d3 d6 row place tin) (F_X8_bore_2 nr np d5 d6 row place tin) ∧ IGs nr np g (F_X7_bore_4 nr np g ft fl fg dg fp row place tin) (F_X7_bore_5 nr np g ft fl fg dg fp row place tin) (F_X8_bore_1 nr np d3 d6 row place tin) (F_X8_bore_2 nr np d5 d6 row place tin) := by
  rw [bore_4, bore_5]
  unfold F_X7_bore F_X8_bore F_X7_bore_3 F_X8_bore_1 F_X8_bore_2
  rw [sqr_eq, isIn_eq]
  rcases undug_eq (row := row) (place := place) h hr2 h8 hdg with ⟨a1, a2⟩ | ⟨a1, ⟨a2, a3⟩ | ⟨a2, a3⟩⟩
  · simp only [if_pos a1, if_pos a2]
    exact ⟨trivial, ht, hs⟩
  · obtain ⟨⟨e1, l1⟩, e2, l2⟩ := has_1 (by omega) (by omega) a1
    simp only [if_neg a1, if_pos a2, if_neg a3]
    by_cases c3 : F_X7_within tin 0 1000 = 0
    · simp only [if_pos c3]
      exact ⟨trivial, ht, hs⟩
    · simp only [if_neg c3]
      have := wn_I (a := 0) (b := 1000) (by omega) (by omega) c3
      have ht2 := IGt_upd ht (r := row.toNatClampNeg) (q := place.toNatClampNeg) (v := tin) l2 h8 (by omega)
      exact ⟨trivial, ht2, spans_ok hnp hnr h8 hr2 hg ht2⟩
  · simp only [if_neg a1, if_neg a2, if_pos a3]
    exact ⟨trivial, ht, hs⟩
theorem told_iff {nr np i j : Nat} {ft d3 d5 : Nat → Int32} (ht : IGt nr np ft d3 d5) (hi : i < nr) (hj : j < np) : F_X1_isTold np ft i j = 0 ↔ d5 (8 * i + j) = 0 := by
  unfold F_X1_isTold
  rcases ht i j hi hj with ⟨h1, h2⟩ | ⟨h1, h2, h3, -⟩
  · rw [if_pos h2]
    exact ⟨fun _ => h1, fun _ => rfl⟩
  · have hne : ¬ ft (i * np + j) = (-1) := by
      rw [h2]
      intro q
      rw [q] at h3
      exact absurd h3 (by decide)
    rw [if_neg hne, h1]
theorem one_iff {x y : Int32} (h : x = 0 ↔ y = 0) : F_X7_oneIf x = F_X7_oneIf y := by
  unfold F_X7_oneIf
  by_cases c1 : x = 0
  · rw [if_pos c1, if_pos (h.mp c1)]
  · rw [if_neg c1, if_neg (fun q => c1 (h.mpr q))]
theorem qu_eq {nr np i j : Nat} {g : Int32} {fl fg d3 d5 : Nat → Int32} (hs : IGs nr np g fl fg d3 d5) (hi : i < nr) (hj : j < np) : F_X1_quarrelsAt np fl fg i j = F_X8_quarrels g nr np d3 d5 i j := by
  unfold F_X1_quarrelsAt F_X8_quarrels
  obtain ⟨e1, e2⟩ := hs i j hi hj
  rw [e1, e2]
theorem sim_square {nr np dg : Nat} {lb mp g : Int32} {fp fy fb fn d4 d6 d7 d8 fd d2 ft fl fg d3 d5 : Nat → Int32} {row place what : Int32} (h : IT nr np dg lb mp fp fy fb fn d4 d6 d7 d8) (hr2 : nr ≤ 20) (h8 : np ≤ 8) (hdg : dg ≤ nr) (hd : IGd nr np fd d2) (ht : IGt nr np ft d3 d5) (hs : IGs nr np g fl fg d3 d5) : F_X7_square nr np fd ft fl fg dg fp fb row place what = F_X8_square g nr np d2 d3 d5 d6 d7 row place what := by
  unfold F_X7_square F_X8_square
  rw [sqr_eq, on_eq]
  by_cases c1 : F_X1_has nr np row place = 0
  · rw [if_pos c1, if_pos c1]
  · rw [if_neg c1, if_neg c1]
    obtain ⟨⟨e1, l1⟩, e2, l2⟩ := has_1 (by omega) (by omega) c1
    obtain ⟨s1, s2⟩ := hs _ _ l1 l2
    have hd6 := d6_iff h (r := row.toNatClampNeg) (j := place.toNatClampNeg) (by omega) (by omega) (by omega)
    rw [← e1, ← e2] at hd6
    have e7 : F_X6_isLaidBack dg fp fb row place = 0 ↔ d7 (8 * row.toNatClampNeg + place.toNatClampNeg) = 0 := by
      unfold F_X6_isLaidBack
      rcases h.2.2.1 (8 * row.toNatClampNeg + place.toNatClampNeg) (by omega) with ⟨-, h2, h3, -⟩ | ⟨-, h2, h3, -⟩
      · have hne : ¬ F_X6_isDug dg fp row place = 0 := fun q => by
          have := hd6.mpr q
          rw [h2] at this
          exact absurd this (by decide)
        have e9 : (8 * row.toNatClampNeg + place.toNatClampNeg) / 8 = row.toNatClampNeg := by omega
        rw [e9] at h3
        rw [if_neg hne, h3]
        by_cases c2 : fb row.toNatClampNeg = 0
        · rw [if_pos c2]
          exact ⟨fun _ => c2, fun _ => rfl⟩
        · rw [if_neg c2]
          exact ⟨fun q => absurd q (by decide), fun q => absurd q c2⟩
      · rw [if_pos (hd6.mp h2)]
        exact ⟨fun _ => h3, fun _ => rfl⟩
    rw [(hd _ _ l1 l2).1, s1, s2, qu_eq hs l1 l2, one_iff hd6.symm, one_iff e7, one_iff (told_iff ht l1 l2)]
theorem sim_cost {pr c2 : Int32} : F_X7_cost c2 = F_X8_cost c2 ∧ F_X7_cost_1_3 pr c2 = F_X8_cost_0_10 pr c2 := ⟨rfl, rfl⟩
theorem sim_jig {pac speed : Int32} (h : IPa pac) : F_X7_jig speed = F_X8_jig speed ∧ F_X7_jig_1_3 pac speed = F_X8_jig_0_17 pac speed ∧ IPa (F_X8_jig_0_17 pac speed) := by
  refine ⟨rfl, rfl, ?_⟩
  unfold F_X8_jig_0_17
  rw [isIn_eq]
  by_cases c1 : F_X7_within speed 0 9 = 0
  · rw [if_pos c1]
    exact h
  · rw [if_neg c1]
    have := wn_I (a := 0) (b := 9) (by omega) (by omega) c1
    exact ⟨by omega, by omega⟩
theorem lp_cong {σ : Type} {f h : Nat → σ → σ} {n : Nat} (hfh : ∀ i y, i < n → f i y = h i y) (y : σ) : ∀ t, t ≤ n → lp f t y = lp h t y
  | 0, _ => rfl
  | t + 1, ht => by rw [lp_s, lp_s, lp_cong hfh y t (by omega), hfh t _ (by omega)]
theorem sim_next {nr np dg : Nat} {g : Int32} {ft fl fg d3 d5 : Nat → Int32} (hdg : dg ≤ nr) (ht : IGt nr np ft d3 d5) (hs : IGs nr np g fl fg d3 d5) : (lp (F_X1_widestFrom_L7 np ft fl fg dg) (nr - dg) ((-1), 0)).1 = (lp (F_X8_next_L11 g nr np dg d3 d5) (nr - dg) ((-1), 0)).1 := by
  rw [lp_cong (fun i y hi => ?_) _ (nr - dg) (Nat.le_refl _)]
  have hin : ∀ j (y : Int32 × Int32), j < np → F_X1_widestFrom_L19 np ft fl fg dg i j y = F_X8_next_L22 g nr np dg d3 d5 i j y := by
    intro j y hj
    unfold F_X1_widestFrom_L19 F_X8_next_L22
    obtain ⟨e1, e2⟩ := hs (dg + i) j (by omega) hj
    have et := told_iff ht (i := dg + i) (j := j) (by omega) hj
    rw [e1, e2]
    by_cases c1 : F_X1_isTold np ft (dg + i) j = 0
    · rw [if_pos c1, if_pos (et.mp c1)]
      by_cases c2 : y.1 = (-1)
      · rw [if_pos c2, if_pos c2]
      · rw [if_neg c2, if_neg c2]
        by_cases c3 : F_X8_end1 g nr np d3 d5 (dg + i) j - F_X8_end0 g nr np d3 d5 (dg + i) j ≤ y.2
        · rw [if_pos c3, if_neg (Int32.not_lt.mpr c3)]
        · rw [if_neg c3, if_pos (fa_of_nle c3)]
    · rw [if_neg c1, if_neg (fun q => c1 (et.mpr q))]
  unfold F_X1_widestFrom_L7 F_X8_next_L11
  rw [lp_cong (fun j y hj => hin j y hj) _ np (Nat.le_refl _)]
theorem sim_quarrels {nr np : Nat} {g : Int32} {fl fg d3 d5 : Nat → Int32} (hnp : 0 < np) (hs : IGs nr np g fl fg d3 d5) : lp (F_X1_quarrels_L4 fl fg) (nr * np) 0 = lp (F_X8_count_L144 g nr np d3 d5) nr 0 := by
  have e := nst_n (fun u v => F_X8_count_L155 g nr np d3 d5 u v) hnp (0 : Int32) nr
  have key : ∀ K, K ≤ nr * np → lp (F_X1_quarrels_L4 fl fg) K 0 = nst (fun u v => F_X8_count_L155 g nr np d3 d5 u v) np 0 K := by
    intro K
    induction K with
    | zero => intro _; rw [nst_0]; rfl
    | succ K ih =>
      intro hK
      have hd : K / np * np + K % np = K := Nat.div_add_mod' K np
      have hm := Nat.mod_lt K hnp
      have hl : K / np < nr := Nat.div_lt_of_lt_mul (by rw [Nat.mul_comm]; exact hK)
      rw [lp_s, nst_s _ hnp, ih (by omega)]
      show F_X1_quarrels_L4 fl fg K _ = F_X8_count_L155 g nr np d3 d5 (K / np) (K % np) _
      unfold F_X1_quarrels_L4 F_X8_count_L155
      rw [← qu_eq hs hl hm]
      unfold F_X1_quarrelsAt
      rw [hd]
      by_cases c1 : fl K ≤ fg K
      · rw [if_pos c1, if_pos c1]
        exact (Int32.add_zero _).symm
      · rw [if_neg c1, if_neg c1]
        rfl
  rw [key _ (Nat.le_refl _), e]
  rfl
theorem term_bd {tk : Nat} {fm fs d30 d31 : Nat → Int32} {day : Int32} {wt : Nat} (h : IL tk fm fs d30 d31) (htk : tk ≤ 10) (hwt : wt < 7) : 0 ≤ (F_X2_term tk fm fs day (nI wt)).toInt ∧ (F_X2_term tk fm fs day (nI wt)).toInt ≤ 9999 := by
  unfold F_X2_term
  have hu : ∀ w, w < 7 → 0 ≤ (F_X2_usual (nI w)).toInt ∧ (F_X2_usual (nI w)).toInt ≤ 9999 := by decide
  by_cases c1 : lawAt fs day tk = (-1)
  · rw [if_pos c1]
    exact hu wt hwt
  · rw [if_neg c1, if_neg (wn_lit6 wt hwt), nI_clamp (by omega)]
    obtain ⟨-, h2⟩ := lawAt_nat (by omega) c1
    have hk : (lawAt fs day tk).toNatClampNeg * 7 + wt < 7 * tk := by omega
    exact (h.1 _ hk).2
theorem mn_day : ∀ w, w < 21 → nI w * 30 + 30 - 1 = 30 * nI w + 29 := by decide
theorem sim_month {tk dg : Nat} {mo d21 fm fs d30 d31 : Nat → Int32} {month what : Int32} (h : IL tk fm fs d30 d31) (htk : tk ≤ 10) (hm : IMo mo dg) (hdg : dg ≤ 20) (he : ∀ k, k < 21 → d21 k = mo k) : F_X7_month mo tk fm fs month what = F_X8_month tk d21 d30 d31 month what := by
  unfold F_X7_month F_X8_month
  rw [isIn_eq]
  by_cases c1 : F_X7_within month 0 20 = 0
  · rw [if_pos c1, if_pos c1]
  · rw [if_neg c1, if_neg c1]
    have c2 : ¬ F_X7_within month 0 (nI 21 - 1) = 0 := c1
    obtain ⟨e1, l1⟩ := wn_ix (by omega) c2
    have e3 : F_X0_inMonth mo month = mo month.toNatClampNeg := by
      unfold F_X0_inMonth
      rw [if_neg c2]
    rw [e3, he _ l1]
    have ed : month * 30 + 30 - 1 = 30 * month + 29 := by
      rw [e1]
      exact mn_day _ l1
    rw [ed]
    have e5 : F_X2_term tk fm fs (30 * month + 29) 5 = F_X8_tellsOn tk d30 d31 (30 * month + 29) 5 := term_eq h htk (wt := 5) rfl (by decide)
    have b5 := term_bd h htk (day := 30 * month + 29) (wt := 5) (by decide)
    have b6 := hm _ l1
    rw [show nI 5 = (5 : Int32) from rfl, e5] at b5
    rw [e5]
    generalize F_X8_tellsOn tk d30 d31 (30 * month + 29) 5 = y at b5 ⊢
    generalize mo month.toNatClampNeg = x at b6 ⊢
    obtain ⟨a, ha, rfl⟩ := nI_of (x := x) (by rw [fa_lt, show (0 : Int32).toInt = 0 from by decide]; omega)
    obtain ⟨b, hb', rfl⟩ := nI_of (x := y) (by rw [fa_lt, show (0 : Int32).toInt = 0 from by decide]; omega)
    rw [nI_toInt ha] at b6
    rw [nI_toInt hb'] at b5
    have hab : a * b ≤ 180000 * 9999 := Nat.mul_le_mul (by omega) (by omega)
    have e7 : ((nI a).toInt64 * (nI b).toInt64 / 1000).toInt32 = nI a * nI b / 1000 := by
      rw [nI_l ha, nI_l hb', lN_mul, pk_mul]
      have e8 : (1000 : Int64) = lN 1000 := rfl
      have e9 : (1000 : Int32) = nI 1000 := rfl
      rw [e8, e9, pk_lDiv (by omega) (by omega) (by omega), pk_div (by omega) (by omega) (by omega), lN_i]
    rw [e7]
