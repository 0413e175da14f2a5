/-! the paths are the reference's -/
def agr (np nr lo : Nat) (su d22 : Nat → Int32) : Prop := ∀ i j, lo ≤ i → i < nr → j < np → su (i * np + j) = d22 (8 * i + j)
theorem bb_eq {np nr lo i q : Nat} {su d22 : Nat → Int32} (h : agr np nr lo su d22) (h1 : lo ≤ i) (h2 : i < nr) (hq : q < np) (h8 : np ≤ 8) : F_X8_best np d22 (nI q) i = nI (F_X5_bestBeside np su i q) ∧ F_X5_bestBeside np su i q < np := by
  unfold F_X5_bestBeside
  rw [bestOf_eq, mbest_q hq (by omega)]
  have hc : (if q + 1 < np - 1 then q + 1 else np - 1) ≤ np - 1 := by split <;> omega
  have hc2 : q - 1 ≤ (if q + 1 < np - 1 then q + 1 else np - 1) := by split <;> omega
  have hb := (bst_le (fun j => su (i * np + j)) (q - 1) ((if q + 1 < np - 1 then q + 1 else np - 1) - (q - 1))).2
  refine ⟨?_, by omega⟩
  rw [bst_cong (f := fun j => d22 (8 * i + j)) (g := fun j => su (i * np + j)) (n := (if q + 1 < np - 1 then q + 1 else np - 1) - (q - 1)) (fun j hj1 hj2 => (h i j h1 h2 (by omega)).symm) _ (Nat.le_refl _)]
theorem b0_eq {np nr lo i : Nat} {su d22 : Nat → Int32} (h : agr np nr lo su d22) (h1 : lo ≤ i) (h2 : i < nr) (hnp : 0 < np) (h8 : np ≤ 8) : F_X8_best np d22 (-1) i = nI (F_X5_bestOf np su i 0 (np - 1)) ∧ F_X5_bestOf np su i 0 (np - 1) < np := by
  rw [bestOf_eq, mbest_0 hnp (by omega)]
  have hb := (bst_le (fun j => su (i * np + j)) 0 (np - 1 - 0)).2
  refine ⟨?_, by omega⟩
  rw [bst_cong (f := fun j => d22 (8 * i + j)) (g := fun j => su (i * np + j)) (n := np - 1) (fun j hj1 hj2 => (h i j h1 h2 (by omega)).symm) _ (Nat.le_refl _)]
  rfl
theorem tin_eq {nr np i j : Nat} {g way : Int32} {fl fg d3 d5 : Nat → Int32} (hs : IGs nr np g fl fg d3 d5) (hi : i < nr) (hj : j < np) : F_X5_tinBy np fl fg way i j = F_X8_tinBy g nr np d3 d5 way i j := by
  unfold F_X5_tinBy F_X8_tinBy
  obtain ⟨e1, e2⟩ := hs i j hi hj
  rw [e1, e2]
theorem row_ok {nr np t : Nat} {g pr way : Int32} {fd d2 fl fg d3 d5 S D : Nat → Int32} (hd : IGd nr np fd d2) (hs : IGs nr np g fl fg d3 d5) (h8 : np ≤ 8) (hr2 : nr ≤ 20) (ht : t < nr) (hag : agr np nr (nr - t) S D) : ∀ v, v ≤ np → agr np nr (nr - t) (lp (F_X5_weigh_L17 pr nr np fd fl fg way t) v S) (lp (F_X8_path_L62 g pr nr np d2 d3 d5 way t) v D) ∧ ∀ j, j < v → (lp (F_X5_weigh_L17 pr nr np fd fl fg way t) v S) ((nr - 1 - t) * np + j) = (lp (F_X8_path_L62 g pr nr np d2 d3 d5 way t) v D) (8 * (nr - 1 - t) + j) := by
  intro v
  induction v with
  | zero => intro _; exact ⟨hag, fun j hj => absurd hj (Nat.not_lt_zero j)⟩
  | succ v ih =>
    intro hv
    obtain ⟨i1, i2⟩ := ih (by omega)
    rw [lp_s, lp_s]
    generalize lp (F_X5_weigh_L17 pr nr np fd fl fg way t) v S = S' at *
    generalize lp (F_X8_path_L62 g pr nr np d2 d3 d5 way t) v D = D' at *
    have fin : ∀ x : Int32, agr np nr (nr - t) (upd S' ((nr - 1 - t) * np + v) x) (upd D' (8 * (nr - 1 - t) + v) x) ∧ ∀ j, j < v + 1 → upd S' ((nr - 1 - t) * np + v) x ((nr - 1 - t) * np + j) = upd D' (8 * (nr - 1 - t) + v) x (8 * (nr - 1 - t) + j) := by
      intro x
      refine ⟨fun i j h1 h2 h3 => ?_, fun j hj => ?_⟩
      · rcases up2 (f := S') (h := D') (v := x) (w := x) (i := i) (j := j) (r := nr - 1 - t) (q := v) h3 (by omega) h8 with ⟨h4, -⟩ | ⟨h4, h5⟩
        · omega
        · rw [h4, h5]
          exact i1 i j h1 h2 h3
      · rcases up2 (f := S') (h := D') (v := x) (w := x) (i := nr - 1 - t) (j := j) (r := nr - 1 - t) (q := v) (by omega) (by omega) h8 with ⟨-, -, h4, h5⟩ | ⟨h4, h5⟩
        · rw [h4, h5]
        · by_cases c1 : j = v
          · rw [c1, pk_us, pk_us]
          · rw [h4, h5]
            exact i2 j (by omega)
    unfold F_X5_weigh_L17 F_X8_path_L62
    have hi : nr - 1 - t < nr := by omega
    have hj : v < np := by omega
    rw [(hd _ _ hi hj).1, tin_eq hs hi hj]
    have c1 : nI nr - 1 ≤ nI (nr - 1 - t) ↔ t = 0 := by
      rw [nI_dec (by omega), nI_leI (by omega) (by omega)]
      omega
    have c2 : nI (nr - 1 - t) = nI nr - 1 ↔ t = 0 := by
      rw [nI_dec (by omega), nI_eq (by omega) (by omega)]
      omega
    by_cases c3 : t = 0
    · rw [if_pos (c1.mpr c3), if_pos (c2.mpr c3), Int32.add_zero]
      exact fin _
    · rw [if_neg (fun q => c3 (c1.mp q)), if_neg (fun q => c3 (c2.mp q))]
      obtain ⟨b1, b2⟩ := bb_eq (i := nr - 1 - t + 1) (q := v) i1 (by omega) (by omega) hj h8
      rw [b1, nI_clamp (by omega), i1 _ _ (by omega) (by omega) b2]
      have e9 : 8 * (nr - 1 - t) + 8 = 8 * (nr - 1 - t + 1) := by omega
      rw [e9]
      exact fin _
theorem weigh_ok {nr np dg : Nat} {g pr way : Int32} {fd d2 fl fg d3 d5 su d22 : Nat → Int32} (hd : IGd nr np fd d2) (hs : IGs nr np g fl fg d3 d5) (h8 : np ≤ 8) (hr2 : nr ≤ 20) : ∀ t, t ≤ nr → agr np nr (nr - t) (lp (F_X5_weigh_L8 pr nr np fd fl fg way) t su) (lp (F_X8_path_L51 g pr nr np d2 d3 d5 way) t d22) := by
  intro t
  induction t with
  | zero => intro _ i j h1 h2; omega
  | succ t ih =>
    intro ht
    rw [lp_s, lp_s]
    unfold F_X5_weigh_L8 F_X8_path_L51
    obtain ⟨r1, r2⟩ := row_ok (pr := pr) (way := way) hd hs h8 hr2 (by omega) (ih (by omega)) np (Nat.le_refl _)
    intro i j h1 h2 h3
    by_cases c1 : i = nr - 1 - t
    · subst c1
      exact r2 j h3
    · exact r1 i j (by omega) h2 h3
theorem sim_path {nr np dg : Nat} {g pr mp way k : Int32} {fd d2 fl fg fp d3 d5 su d22 : Nat → Int32} (hok : okP fp dg np) (hmp : mp = F_X6_dredgePlace dg fp) (hd : IGd nr np fd d2) (hs : IGs nr np g fl fg d3 d5) (hnp : 0 < np) (h8 : np ≤ 8) (hr2 : nr ≤ 20) (hdg : dg ≤ nr) : F_X7_path nr np fd fl fg dg fp pr su way k = F_X8_path g pr mp nr np dg d2 d3 d5 d22 way k := by
  subst hmp
  have hw : agr np nr dg (F_X5_weigh_1 pr su nr np fd fl fg way dg) (lp (F_X8_path_L51 g pr nr np d2 d3 d5 way) (nr - dg) d22) := by
    have := weigh_ok (dg := dg) (pr := pr) (way := way) (su := su) (d22 := d22) hd hs h8 hr2 (nr - dg) (by omega)
    have e1 : nr - (nr - dg) = dg := by omega
    rw [e1] at this
    exact this
  unfold F_X7_path F_X8_path
  have hstep : F_X8_path_L203 g pr nr np dg d2 d3 d5 d22 way = fun t z => F_X8_best np (lp (F_X8_path_L51 g pr nr np d2 d3 d5 way) (nr - dg) d22) z (dg + (1 + t)) := rfl
  have hstep2 : F_X7_path_L96 nr np fd fl fg dg pr su way = fun t z => F_X5_bestBeside np (F_X5_weigh_1 pr su nr np fd fl fg way dg) (dg + (1 + t)) z := rfl
  rw [isIn_eq, hstep, hstep2]
  generalize F_X5_weigh_1 pr su nr np fd fl fg way dg = S at *
  generalize lp (F_X8_path_L51 g pr nr np d2 d3 d5 way) (nr - dg) d22 = D at *
  by_cases c1 : F_X7_within way 0 2 = 0
  · rw [if_pos c1, if_pos c1]
  · rw [if_neg c1, if_neg c1]
    have hsub := pk_sub_toInt (a := nr) (b := dg) (by omega) (by omega)
    have z0 : (0 : Int32).toInt = 0 := by decide
    have zm : (-1 : Int32).toInt = -1 := by decide
    by_cases c2 : dg = nr
    · rw [if_pos (by rw [fa_le, hsub, z0]; omega), if_pos (by rw [c2])]
    · rw [if_neg (by rw [fa_le, hsub, z0]; omega)]
      have hlt : dg < nr := by omega
      have n2' : ¬ nI dg - 1 = nI nr - 1 := by
        intro q
        rw [nI_dec (n := nr) (by omega)] at q
        rcases Nat.eq_zero_or_pos dg with h0 | h0
        · rw [h0, dn_0] at q
          exact nm1 (by omega) q.symm
        · rw [nI_dec h0, nI_eq (by omega) (by omega)] at q
          omega
      rw [if_neg n2']
      have hst : ∃ st, F_X8_best np D (F_X6_dredgePlace dg fp) dg = nI st ∧ st < np ∧ F_X5_startPlace np S (F_X6_dredgePlace dg fp) dg ((F_X6_dredgePlace dg fp).toNatClampNeg) = st := by
        unfold F_X5_startPlace
        rcases Nat.eq_zero_or_pos dg with h0 | h0
        · have e1 : F_X6_dredgePlace dg fp = (-1) := by rw [h0]; rfl
          rw [e1, if_pos rfl]
          obtain ⟨b1, b2⟩ := b0_eq (i := dg) hw (Nat.le_refl _) hlt hnp h8
          exact ⟨_, b1, b2, rfl⟩
        · rw [dp_s h0 (by omega)]
          obtain ⟨e1, l1⟩ := hok (dg - 1) (by omega)
          have hne : ¬ fp (dg - 1) = (-1) := by
            rw [e1]
            exact nm1 (by omega)
          rw [if_neg hne]
          obtain ⟨b1, b2⟩ := bb_eq (i := dg) (q := (fp (dg - 1)).toNatClampNeg) hw (Nat.le_refl _) hlt l1 h8
          rw [← e1] at b1
          exact ⟨_, b1, b2, rfl⟩
      obtain ⟨st, s1, s2, s3⟩ := hst
      rw [s1, s3]
      by_cases c3 : F_X7_within k (-1) (nI nr - (nI dg - 1) - 2) = 0
      · rw [if_pos c3]
        rcases wn_0 c3 with q | q
        · rw [if_pos q]
        · have q2 : ¬ k < nI nr - nI dg := by
            rw [fa_lt, hsub]
            rw [fa_lt, m_rng hdg hr2] at q
            omega
          rw [if_neg q2]
          split <;> rfl
      · rw [if_neg c3]
        obtain ⟨q1, q2⟩ := wn_1 c3
        have q3 : k < nI nr - nI dg := by
          rw [fa_lt, hsub]
          rw [fa_lt, m_rng hdg hr2] at q2
          omega
        rw [if_neg q1, if_pos q3]
        by_cases c4 : k = (-1)
        · rw [if_pos c4, if_pos c4, nI_clamp (by omega)]
          exact hw dg st (Nat.le_refl _) hlt s2
        · rw [if_neg c4, if_neg c4]
          obtain ⟨k1, k2⟩ := mk_ok hdg hr2 c3 c4
          have key : ∀ t, t ≤ k.toNatClampNeg → lp (fun t z => F_X8_best np D z (dg + (1 + t))) t (nI st) = nI (lp (fun t z => F_X5_bestBeside np S (dg + (1 + t)) z) t st) ∧ lp (fun t z => F_X5_bestBeside np S (dg + (1 + t)) z) t st < np := by
            intro t
            induction t with
            | zero => intro _; exact ⟨rfl, s2⟩
            | succ t ih =>
              intro ht
              obtain ⟨j1, j2⟩ := ih (by omega)
              rw [lp_s, lp_s, j1]
              exact bb_eq (i := dg + (1 + t)) hw (by omega) (by omega) j2 h8
          exact (key _ (Nat.le_refl _)).1.symm
