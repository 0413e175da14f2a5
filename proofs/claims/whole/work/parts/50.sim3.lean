/-! the calls, held against each other: the dredge -/
theorem has_nI {nr np dg : Nat} {place : Int32} (hr2 : nr ≤ 20) (hdg : dg ≤ nr) : F_X1_has nr np (nI dg) place = 0 ↔ (dg = nr ∨ F_X7_within place 0 (nI np - 1) = 0) := by
  unfold F_X1_has
  by_cases c1 : F_X7_within (nI dg) 0 (nI nr - 1) = 0
  · rw [if_pos c1]
    have := (wn_dg (by omega) (by omega)).mp c1
    exact ⟨fun _ => Or.inl (by omega), fun _ => rfl⟩
  · rw [if_neg c1]
    have hlt : dg < nr := by
      by_cases c2 : dg < nr
      · exact c2
      · exact absurd ((wn_dg (by omega) (by omega)).mpr c2) c1
    by_cases c2 : F_X7_within place 0 (nI np - 1) = 0
    · rw [if_pos c2]
      exact ⟨fun _ => Or.inr c2, fun _ => rfl⟩
    · rw [if_neg c2]
      refine ⟨fun q => absurd q (by decide), fun q => ?_⟩
      rcases q with q | q
      · omega
      · exact absurd q c2
theorem dp_0 {fp : Nat → Int32} : F_X6_dredgePlace 0 fp = (-1) := rfl
theorem dp_s {dg : Nat} {fp : Nat → Int32} (h0 : 0 < dg) (h1 : dg < 2 ^ 31) : F_X6_dredgePlace dg fp = fp (dg - 1) := by
  unfold F_X6_dredgePlace
  rw [if_neg (nI_nle h0 h1)]
theorem dr_s {dg : Nat} (h0 : 0 < dg) (h1 : dg < 2 ^ 31) : F_X6_dredgeRow dg = nI (dg - 1) := by
  unfold F_X6_dredgeRow
  rw [if_neg (nI_nle h0 h1), nI_dec h0]
theorem dr_eq {dg : Nat} (h1 : dg < 2 ^ 31) : F_X6_dredgeRow dg = nI dg - 1 := by
  unfold F_X6_dredgeRow
  by_cases c1 : nI dg ≤ 0
  · rw [if_pos c1, nzer h1 c1]
    decide
  · rw [if_neg c1]
theorem nm1 {k : Nat} (hk : k < 2 ^ 31) : ¬ nI k = (-1) := by
  intro q
  have e1 := nI_toInt hk
  rw [q] at e1
  have e2 : (-1 : Int32).toInt = -1 := by decide
  omega
theorem has_in {nr np r q : Nat} (hr1 : r < nr) (hq : q < np) (hnr : nr < 2 ^ 31) (hnp : np < 2 ^ 31) : ¬ F_X1_has nr np (nI r) (nI q) = 0 := by
  unfold F_X1_has
  rw [if_neg (wn_nI (by omega) hnr hr1), if_neg (wn_nI (by omega) hnp hq)]
  decide
theorem sim_bars {nr np dg tk : Nat} {mp td hgt drt hrs : Int32} {fd fp fm fs d2 d30 d31 : Nat → Int32} {place : Int32} (hok : okP fp dg np) (hmp : mp = F_X6_dredgePlace dg fp) (hr2 : nr ≤ 20) (h8 : np ≤ 8) (hdg : dg ≤ nr) (hd : IGd nr np fd d2) (hl : IL tk fm fs d30 d31) (htk : tk ≤ 10) : F_X7_bars td nr np fd dg fp hgt drt hrs tk fm fs place = F_X8_bars td mp hrs hgt drt nr np tk dg d2 d30 d31 place ∧ (F_X7_bars td nr np fd dg fp hgt drt hrs tk fm fs place = 0 → dg < nr ∧ place = nI place.toNatClampNeg ∧ place.toNatClampNeg < np) := by
  subst hmp
  have hh := has_nI (np := np) (place := place) hr2 hdg
  have t0 : F_X2_term tk fm fs td 0 = F_X8_tellsOn tk d30 d31 td 0 := term_eq hl htk (wt := 0) rfl (by decide)
  have t1 : F_X2_term tk fm fs td 1 = F_X8_tellsOn tk d30 d31 td 1 := term_eq hl htk (wt := 1) rfl (by decide)
  have t2 : F_X2_term tk fm fs td 2 = F_X8_tellsOn tk d30 d31 td 2 := term_eq hl htk (wt := 2) rfl (by decide)
  have b2 := term_bd hl htk (day := td) (wt := 2) (by decide)
  rw [show nI 2 = (2 : Int32) from rfl, t2] at b2
  have em := mud_eq (td := td) (drt := drt) hl htk
  unfold F_X7_bars F_X8_bars
  rw [isIn_eq, t0, t1, t2]
  by_cases c1 : F_X7_within place 0 (nI np - 1) = 0
  · rw [if_pos (hh.mpr (Or.inr c1)), if_pos c1]
    exact ⟨rfl, fun q => absurd q (by decide)⟩
  · rw [if_neg c1]
    obtain ⟨ep, lp'⟩ := wn_ix (by omega) c1
    by_cases c2 : dg = nr
    · rw [if_pos (hh.mpr (Or.inl c2)), if_pos (by rw [c2])]
      exact ⟨rfl, fun q => absurd q (by decide)⟩
    · have hlt : dg < nr := by omega
      have n1' : ¬ F_X1_has nr np (nI dg) place = 0 := fun q => (hh.mp q).elim c2 c1
      have n2' : ¬ nI dg - 1 = nI nr - 1 := by
        intro q
        rw [nI_dec (n := nr) (by omega)] at q
        rcases Nat.eq_zero_or_pos dg with h0 | h0
        · rw [h0, dn_0] at q
          exact nm1 (by omega) q.symm
        · rw [nI_dec h0, nI_eq (by omega) (by omega)] at q
          omega
      rw [if_neg n1', if_neg n2']
      have ed := (hd dg place.toNatClampNeg hlt lp').1
      rw [ed]
      generalize d2 (8 * dg + place.toNatClampNeg) = dp at *
      rcases Nat.eq_zero_or_pos dg with h0 | h0
      · have r1 : ¬ F_X6_reaches dg fp place = 0 := by
          rw [h0]
          unfold F_X6_reaches
          rw [if_pos nI_0]
          decide
        have m1 : nI dg - 1 = (-1) := by rw [h0]; exact dn_0
        have bk : F_X7_bankAhead nr np fd dg fp dp = 0 := by
          unfold F_X7_bankAhead
          rw [if_pos]
          rw [h0]
          rfl
        have bk2 : (0 : Int32) ≤ F_X8_tellsOn tk d30 d31 td 2 := by
          rw [fa_le, show (0 : Int32).toInt = 0 from by decide]
          exact b2.1
        rw [if_neg r1, if_pos m1, bk]
        by_cases c3 : F_X7_within hgt (F_X8_tellsOn tk d30 d31 td 0) (F_X8_tellsOn tk d30 d31 td 1) = 0
        · rw [if_pos c3, if_pos c3]
          exact ⟨rfl, fun q => absurd q (by decide)⟩
        · rw [if_neg c3, if_neg c3, if_pos m1, if_pos bk2]
          by_cases c4 : 2 * dp ≤ hrs
          · rw [if_pos c4, if_pos c4]
            by_cases c5 : F_X7_isMuddy td drt tk fm fs = 0
            · rw [if_pos c5, if_pos (em.mp c5)]
              exact ⟨rfl, fun _ => ⟨hlt, ep, lp'⟩⟩
            · rw [if_neg c5, if_neg (fun q => c5 (em.mpr q))]
              exact ⟨rfl, fun q => absurd q (by decide)⟩
          · rw [if_neg c4, if_neg c4]
            exact ⟨rfl, fun q => absurd q (by decide)⟩
      · have m1 : ¬ nI dg - 1 = (-1) := by rw [nI_dec h0]; exact nm1 (by omega)
        obtain ⟨eq1, lq⟩ := hok (dg - 1) (by omega)
        have edp := dp_s (fp := fp) h0 (by omega)
        have edr := dr_s h0 (by omega)
        rw [edp]
        have hr : F_X6_reaches dg fp place = 0 ↔ ¬ (if 0 ≤ place - fp (dg - 1) then place - fp (dg - 1) else 0 - (place - fp (dg - 1))) ≤ 1 := by
          unfold F_X6_reaches
          rw [if_neg (nI_ne0 h0 (by omega)), edp]
          by_cases c3 : (if 0 ≤ place - fp (dg - 1) then place - fp (dg - 1) else 0 - (place - fp (dg - 1))) ≤ 1
          · rw [if_neg (Int32.not_lt.mpr c3)]
            exact ⟨fun q => absurd q (by decide), fun q => absurd c3 q⟩
          · rw [if_pos (fa_of_nle c3)]
            exact ⟨fun _ => c3, fun _ => rfl⟩
        rw [if_neg m1]
        by_cases c3 : (if 0 ≤ place - fp (dg - 1) then place - fp (dg - 1) else 0 - (place - fp (dg - 1))) ≤ 1
        · rw [if_neg (fun q => hr.mp q c3), if_pos c3]
          have bk : F_X7_bankAhead nr np fd dg fp dp = (if 0 ≤ dp - d2 (8 * (dg - 1) + (fp (dg - 1)).toNatClampNeg) then dp - d2 (8 * (dg - 1) + (fp (dg - 1)).toNatClampNeg) else 0 - (dp - d2 (8 * (dg - 1) + (fp (dg - 1)).toNatClampNeg))) := by
            unfold F_X7_bankAhead
            rw [edp, edr, nI_clamp (by omega), (hd (dg - 1) _ (by omega) lq).1, if_neg]
            rw [eq1]
            exact has_in (by omega) lq (by omega) (by omega)
          rw [bk]
          by_cases c4 : F_X7_within hgt (F_X8_tellsOn tk d30 d31 td 0) (F_X8_tellsOn tk d30 d31 td 1) = 0
          · rw [if_pos c4, if_pos c4]
            exact ⟨rfl, fun q => absurd q (by decide)⟩
          · rw [if_neg c4, if_neg c4, if_neg m1]
            generalize (if 0 ≤ dp - d2 (8 * (dg - 1) + (fp (dg - 1)).toNatClampNeg) then dp - d2 (8 * (dg - 1) + (fp (dg - 1)).toNatClampNeg) else 0 - (dp - d2 (8 * (dg - 1) + (fp (dg - 1)).toNatClampNeg))) = bank
            by_cases c5 : bank ≤ F_X8_tellsOn tk d30 d31 td 2
            · rw [if_pos c5, if_pos c5]
              by_cases c6 : 2 * dp ≤ hrs
              · rw [if_pos c6, if_pos c6]
                by_cases c7 : F_X7_isMuddy td drt tk fm fs = 0
                · rw [if_pos c7, if_pos (em.mp c7)]
                  exact ⟨rfl, fun _ => ⟨hlt, ep, lp'⟩⟩
                · rw [if_neg c7, if_neg (fun q => c7 (em.mpr q))]
                  exact ⟨rfl, fun q => absurd q (by decide)⟩
              · rw [if_neg c6, if_neg c6]
                exact ⟨rfl, fun q => absurd q (by decide)⟩
            · rw [if_neg c5, if_neg c5]
              exact ⟨rfl, fun q => absurd q (by decide)⟩
        · rw [if_pos (hr.mpr c3), if_neg c3]
          exact ⟨rfl, fun q => absurd q (by decide)⟩
theorem td_30 {td : Int32} (h : ITd td) : td / 30 = nI (td / 30).toNatClampNeg ∧ (td / 30).toNatClampNeg < 21 := by
  obtain ⟨h1, h2⟩ := h
  obtain ⟨a, ha, rfl⟩ := nI_of (x := td) (by rw [fa_lt, show (0 : Int32).toInt = 0 from by decide]; omega)
  rw [nI_toInt ha] at h2
  have e1 : nI a / 30 = nI (a / 30) := pk_div (d := 30) ha (by omega) (by omega)
  rw [e1, nI_clamp (by omega)]
  exact ⟨rfl, by omega⟩
theorem rest_bd {dp tin pac : Int32} (h1 : 1 ≤ dp.toInt ∧ dp.toInt ≤ 9) (h2 : 0 ≤ tin.toInt ∧ tin.toInt ≤ 1000) (h3 : IPa pac) : 0 ≤ (dp * tin - dp * tin * (pac * pac / 2) / 100).toInt ∧ (dp * tin - dp * tin * (pac * pac / 2) / 100).toInt ≤ 9000 := by
  have z0 : (0 : Int32).toInt = 0 := by decide
  obtain ⟨a, ha, rfl⟩ := nI_of (x := dp) (by rw [fa_lt, z0]; omega)
  obtain ⟨b, hb', rfl⟩ := nI_of (x := tin) (by rw [fa_lt, z0]; omega)
  obtain ⟨k, hk, rfl⟩ := nI_of (x := pac) (by rw [fa_lt, z0]; have := h3.1; omega)
  have h3' := h3.2
  rw [nI_toInt ha] at h1
  rw [nI_toInt hb'] at h2
  rw [nI_toInt hk] at h3'
  have hab : a * b ≤ 9 * 1000 := Nat.mul_le_mul (by omega) (by omega)
  have hkk : k * k ≤ 9 * 9 := Nat.mul_le_mul (by omega) (by omega)
  have hk2 : k * k / 2 ≤ 40 := by omega
  have hx : a * b * (k * k / 2) ≤ a * b * 40 := Nat.mul_le_mul_left _ hk2
  have e2 : nI (k * k) / 2 = nI (k * k / 2) := pk_div (d := 2) (by omega) (by omega) (by omega)
  have e3 : nI (a * b * (k * k / 2)) / 100 = nI (a * b * (k * k / 2) / 100) := pk_div (d := 100) (by omega) (by omega) (by omega)
  rw [pk_mul, pk_mul, e2, pk_mul, e3, pk_sub (by omega), nI_toInt (by omega)]
  omega
theorem mo_upd {mo : Nat → Int32} {dg k : Nat} {v : Int32} (h : IMo mo dg) (hdg : dg ≤ 20) (hv : 0 ≤ v.toInt ∧ v.toInt ≤ 9000) : IMo (upd mo k (mo k + v)) (dg + 1) := by
  intro j hj
  have hj' := h j hj
  by_cases c1 : j = k
  · subst c1
    rw [pk_us, fb_addI (by omega) (by omega)]
    omega
  · rw [pk_un c1]
    omega
theorem IT_dig {nr np dg q : Nat} {lb mp td : Int32} {fp fy fb fn d4 d6 d7 d8 : Nat → Int32} (h : IT nr np dg lb mp fp fy fb fn d4 d6 d7 d8) (hr2 : nr ≤ 20) (h8 : np ≤ 8) (hlt : dg < nr) (hq : q < np) (htd : ITd td) : IT nr np (dg + 1) lb (nI q) (upd fp dg (nI q)) (upd fy dg td) fb fn (upd d4 (8 * dg + q) td) (upd d6 (8 * dg + q) 1) d7 d8 := by
  obtain ⟨a1, a2, a3, a4, a5, a6⟩ := h
  refine ⟨?_, ?_, ?_, ?_, fun i h1 h2 => a5 i (by omega) h2, a6⟩
  · intro i hi
    by_cases c1 : i = dg
    · subst c1
      rw [pk_us, nI_clamp (by omega)]
      exact ⟨rfl, hq⟩
    · rw [pk_un c1]
      exact a1 i (by omega)
  · rw [dp_s (by omega) (by omega), Nat.add_sub_cancel, pk_us]
  · intro k hk
    have hold := a3 k hk
    unfold dK at hold ⊢
    by_cases c1 : k = 8 * dg + q
    · have e1 : k / 8 = dg := by omega
      have e2 : k % 8 = q := by omega
      rcases hold with ⟨h1, -⟩ | ⟨-, h2, h3, h4⟩
      · omega
      · obtain ⟨f1, f2⟩ := a5 dg (Nat.le_refl _) hlt
        rw [e1, e2, h3, h4, f1, f2, pk_us, pk_us, c1, pk_us, pk_us]
        exact Or.inl ⟨⟨by omega, rfl⟩, rfl, rfl, rfl, rfl⟩
    · rw [pk_un c1, pk_un c1]
      by_cases c2 : k / 8 = dg
      · rcases hold with ⟨h1, -⟩ | ⟨-, h2, h3, h4⟩
        · omega
        · refine Or.inr ⟨fun h5 => ?_, h2, h3, h4⟩
          have h6 := h5.2
          rw [c2, pk_us, nI_eq (by omega) (by omega)] at h6
          omega
      · rw [pk_un c2, pk_un c2]
        rcases hold with ⟨h1, h2⟩ | ⟨h1, h2⟩
        · exact Or.inl ⟨⟨by omega, h1.2⟩, h2⟩
        · exact Or.inr ⟨fun h5 => h1 ⟨by omega, h5.2⟩, h2⟩
  · intro i hi
    by_cases c1 : i = dg
    · subst c1
      obtain ⟨f1, f2⟩ := a5 i (Nat.le_refl _) hlt
      rw [pk_us]
      exact ⟨Or.inl f1, Or.inl f2, htd.1, htd.2⟩
    · rw [pk_un c1]
      exact a4 i (by omega)
theorem dig_4 {td hgt drt hrs g place tin : Int32} {nr np dg tk : Nat} {fd ft fl fg fp fm fs : Nat → Int32} : F_X7_dig_4 td nr np g fd ft fl fg dg fp hgt drt hrs tk fm fs place tin = if F_X7_within tin 0 1000 = 0 then fl else if F_X7_bars td nr np fd dg fp hgt drt hrs tk fm fs place = 0 then (nar nr np g (upd ft (dg * np + place.toNatClampNeg) tin) fl fg).1 else fl := rfl
theorem dig_5 {td hgt drt hrs g place tin : Int32} {nr np dg tk : Nat} {fd ft fl fg fp fm fs : Nat → Int32} : F_X7_dig_5 td nr np g fd ft fl fg dg fp hgt drt hrs tk fm fs place tin = if F_X7_within tin 0 1000 = 0 then fg else if F_X7_bars td nr np fd dg fp hgt drt hrs tk fm fs place = 0 then (nar nr np g (upd ft (dg * np + place.toNatClampNeg) tin) fl fg).2 else fg := rfl
theorem sim_dig {nr np dg tk : Nat} {g lb mp td hgt drt hrs wh gn pac place tin : Int32} {fd ft fl fg fp fy fb fn fm fs mo d2 d3 d4 d5 d6 d7 d8 d21 d30 d31 : Nat → Int32} (h : IT nr np dg lb mp fp fy fb fn d4 d6 d7 d8) (hnp : 0 < np) (hr2 : nr ≤ 20) (h8 : np ≤ 8) (hdg : dg ≤ nr) (hd : IGd nr np fd d2) (ht : IGt nr np ft d3 d5) (hs : IGs nr np g fl fg d3 d5) (hg : IGg g) (hl : IL tk fm fs d30 d31) (htk : tk ≤ 10) (htd : ITd td) (hpa : IPa pac) (hmo : IMo mo dg) (hme : ∀ k, k < 21 → d21 k = mo k) :
    F_X7_dig td nr np fd dg fp hgt drt hrs tk fm fs pac place tin = F_X8_dig td mp hrs hgt drt pac nr np tk dg d2 d30 d31 place tin ∧
    F_X7_dig_6_4 td nr np fd dg fp hgt drt hrs tk fm fs place tin = F_X8_dig_0_12 td mp hrs hgt drt nr np tk dg d2 d30 d31 place tin ∧
    F_X7_dig_11_2 td nr np fd dg fp hgt drt hrs tk fm fs place tin = F_X8_dig_0_14 td mp hrs hgt drt nr np tk dg d2 d30 d31 place tin ∧
    F_X7_dig_11_1 td nr np fd dg fp hgt drt hrs tk fm fs place tin = F_X8_dig_0_16 td mp hrs hgt drt nr np tk dg d2 d30 d31 place tin ∧
    F_X7_dig_15_1 td nr np fd dg fp hgt drt hrs tk fm fs wh pac place tin = F_X8_dig_0_18 td mp hrs hgt drt pac wh nr np tk dg d2 d30 d31 place tin ∧
    F_X7_dig_15_2 td nr np fd dg fp hgt drt hrs tk fm fs gn pac place tin = F_X8_dig_0_19 td mp hrs hgt drt pac gn nr np tk dg d2 d30 d31 place tin ∧
    F_X8_dig_0_12 td mp hrs hgt drt nr np tk dg d2 d30 d31 place tin ≤ nr ∧
    IGt nr np (F_X7_dig_3 td nr np fd ft dg fp hgt drt hrs tk fm fs place tin) (F_X8_dig_2 td mp hrs hgt drt nr np tk dg d2 d3 d30 d31 place tin) (F_X8_dig_4 td mp hrs hgt drt nr np tk dg d2 d5 d30 d31 place tin) ∧
    IGs nr np g (F_X7_dig_4 td nr np g fd ft fl fg dg fp hgt drt hrs tk fm fs place tin) (F_X7_dig_5 td nr np g fd ft fl fg dg fp hgt drt hrs tk fm fs place tin) (F_X8_dig_2 td mp hrs hgt drt nr np tk dg d2 d3 d30 d31 place tin) (F_X8_dig_4 td mp hrs hgt drt nr np tk dg d2 d5 d30 d31 place tin) ∧
    IT nr np (F_X8_dig_0_12 td mp hrs hgt drt nr np tk dg d2 d30 d31 place tin) lb (F_X8_dig_0_13 td mp hrs hgt drt nr np tk dg d2 d30 d31 place tin) (F_X7_dig_7 td nr np fd dg fp hgt drt hrs tk fm fs place tin) (F_X7_dig_8 td nr np fd dg fp fy hgt drt hrs tk fm fs place tin) fb fn (F_X8_dig_3 td mp hrs hgt drt nr np tk dg d2 d4 d30 d31 place tin) (F_X8_dig_5 td mp hrs hgt drt nr np tk dg d2 d6 d30 d31 place tin) d7 d8 ∧
    IMo (F_X7_dig_16 td nr np fd dg fp hgt drt hrs tk fm fs pac mo place tin) (F_X8_dig_0_12 td mp hrs hgt drt nr np tk dg d2 d30 d31 place tin) ∧
    (∀ k, k < 21 → F_X8_dig_6 td mp hrs hgt drt pac nr np tk dg d2 d21 d30 d31 place tin k = F_X7_dig_16 td nr np fd dg fp hgt drt hrs tk fm fs pac mo place tin k) := by
  obtain ⟨eb, b0⟩ := sim_bars (td := td) (hgt := hgt) (drt := drt) (hrs := hrs) (place := place) h.1 h.2.1 hr2 h8 hdg hd hl htk
  rw [dig_4, dig_5]
  unfold F_X7_dig F_X8_dig F_X7_dig_6_4 F_X8_dig_0_12 F_X7_dig_11_2 F_X8_dig_0_14 F_X7_dig_11_1 F_X8_dig_0_16 F_X7_dig_15_1 F_X8_dig_0_18 F_X7_dig_15_2 F_X8_dig_0_19 F_X7_dig_3 F_X8_dig_2 F_X8_dig_4 F_X8_dig_0_13 F_X7_dig_7 F_X7_dig_8 F_X8_dig_3 F_X8_dig_5 F_X7_dig_16 F_X8_dig_6
  rw [isIn_eq, ← eb]
  by_cases c1 : F_X7_within tin 0 1000 = 0
  · simp only [if_pos c1]
    exact ⟨trivial, trivial, trivial, trivial, trivial, trivial, hdg, ht, hs, h, hmo, hme⟩
  · simp only [if_neg c1]
    by_cases c2 : F_X7_bars td nr np fd dg fp hgt drt hrs tk fm fs place = 0
    · simp only [if_pos c2]
      obtain ⟨hlt, ep, lq⟩ := b0 c2
      obtain ⟨ed, ed1, ed2⟩ := hd dg _ hlt lq
      have bt := wn_I (a := 0) (b := 1000) (by omega) (by omega) c1
      have ht2 := IGt_upd ht (r := dg) (q := place.toNatClampNeg) (v := tin) lq h8 (by omega)
      have hit := IT_dig (td := td) h hr2 h8 hlt lq htd
      rw [← ep] at hit
      obtain ⟨m1, m2⟩ := td_30 htd
      have bm : ¬ F_X7_within (td / 30) 0 (nI 21 - 1) = 0 := by
        rw [m1]
        exact wn_nI (by omega) (by omega) m2
      have rb := rest_bd (dp := d2 (8 * dg + place.toNatClampNeg)) (tin := tin) (pac := pac) ⟨ed1, ed2⟩ (by omega) hpa
      rw [ed]
      refine ⟨rfl, trivial, rfl, rfl, rfl, rfl, by omega, ht2, spans_ok hnp (by omega) h8 hr2 hg ht2, hit, ?_, ?_⟩
      · unfold F_X0_fill_1
        rw [if_neg bm]
        exact mo_upd hmo (by omega) rb
      · intro k hk
        unfold F_X0_fill_1
        rw [if_neg bm]
        by_cases c3 : k = (td / 30).toNatClampNeg
        · rw [c3, pk_us, pk_us, hme _ m2]
        · rw [pk_un c3, pk_un c3]
          exact hme k hk
    · simp only [if_neg c2]
      exact ⟨trivial, trivial, trivial, trivial, trivial, trivial, hdg, ht, hs, h, hmo, hme⟩
