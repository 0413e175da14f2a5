/-! a law is read as the reference reads it -/
def RLt (tk : Nat) (rt t : Nat → Int32) : Prop := ∀ w, w < 7 → rt w = t (7 * tk + w) ∧ 0 ≤ (rt w).toInt ∧ (rt w).toInt ≤ 9999
theorem RLt_upd {tk w : Nat} {rt t : Nat → Int32} {v : Int32} (h : RLt tk rt t) (hv1 : 0 ≤ v.toInt) (hv2 : v.toInt ≤ 9999) : RLt tk (upd rt w v) (upd t (7 * tk + w) v) := by
  intro j hj
  by_cases c1 : j = w
  · rw [c1, pk_us, pk_us]
    exact ⟨rfl, hv1, hv2⟩
  · rw [pk_un c1, pk_un (by omega)]
    exact h j hj
theorem let_E {ln x : Nat} {tp d : Nat → Int32} (h : rel8 ln tp d) (hxl : x ≤ ln) (hln : ln ≤ 300) (hne : ¬ wAt d ln (sk (blM d) ln x) = lN 0) : F_X3_scan_0_6 ln x tp = sk (leM d) ln (sk (blM d) ln x) := by
  obtain ⟨t1, t2⟩ := tok h hxl hln
  have hB := (sk_le (b := blM d) hxl).1
  generalize sk (blM d) ln x = B at *
  rcases t2 with ⟨c1, c2, c3⟩ | ⟨c1, c2, c3⟩
  · exact absurd (wAt_0 (sk_end (by omega)) (by omega)) hne
  · obtain ⟨h1, h2, h3⟩ := h B c1
    obtain ⟨-, q1, -, -, -⟩ := ch_all h1 h2 h3
    rcases c3 with ⟨-, g1⟩ | ⟨g0, -⟩ | ⟨g0, -⟩
    · exact g1
    · refine absurd (wAt_0 (sk_stop (decide_eq_false (fun q => ?_))) (by omega)) hne
      rw [c2, q1.mp q] at g0
      exact absurd g0 (by decide)
    · refine absurd (wAt_0 (sk_stop (decide_eq_false (fun q => ?_))) (by omega)) hne
      rw [c2, q1.mp q] at g0
      exact absurd rfl g0
theorem st_low {ln B tk : Nat} {d t : Nat → Int32} : ∀ k, k < 7 * tk → F_X8_statement_2 ln B d t tk k = t k := by
  intro k hk
  unfold F_X8_statement_2
  repeat' split
  all_goals first | rfl | (rw [pk_un (by omega)]; done) | (rw [pk_un (by omega), pk_un (by omega)]; done)
theorem st_sim {ln so tk : Nat} {tp d rt t : Nat → Int32} (h : rel8 ln tp d) (hso : so ≤ ln) (hln : ln ≤ 300) (hR : RLt tk rt t) :
    (F_X3_readStatement ln (F_X3_scan_0_4 ln so tp) (F_X3_scan_0_5 ln so tp) (F_X3_scan_0_6 ln so tp) tp = 0 ∧ F_X8_statement ln (sk (blM d) ln so) d = 0 ∧ F_X3_readStatement_0_5 ln (F_X3_scan_0_4 ln so tp) (F_X3_scan_0_5 ln so tp) (F_X3_scan_0_6 ln so tp) tp = F_X8_statement_0_27 ln (sk (blM d) ln so) d) ∨
    (¬ F_X3_readStatement ln (F_X3_scan_0_4 ln so tp) (F_X3_scan_0_5 ln so tp) (F_X3_scan_0_6 ln so tp) tp = 0 ∧ ¬ F_X8_statement ln (sk (blM d) ln so) d = 0 ∧ F_X3_readStatement_0_6 ln (F_X3_scan_0_4 ln so tp) (F_X3_scan_0_5 ln so tp) (F_X3_scan_0_6 ln so tp) tp = F_X8_statement_0_27 ln (sk (blM d) ln so) d ∧ RLt tk (F_X3_readStatement_2 ln (F_X3_scan_0_4 ln so tp) (F_X3_scan_0_5 ln so tp) (F_X3_scan_0_6 ln so tp) tp rt) (F_X8_statement_2 ln (sk (blM d) ln so) d t tk)) := by
  have ek := kw_eq h hso hln
  have hBB : sk (blM d) ln (sk (blM d) ln so) = sk (blM d) ln so := sk_idem hso
  obtain ⟨t1, -⟩ := tok h hso hln
  have hEl := (scan_le (tp := tp) hso hln).2.1
  have hLE := let_E h hso hln
  unfold F_X3_readStatement F_X8_statement F_X3_readStatement_0_5 F_X8_statement_0_27 F_X3_readStatement_0_6 F_X3_readStatement_2 F_X8_statement_2
  rw [ek, hBB]
  by_cases c1 : kwM (wAt d ln (sk (blM d) ln so)) = (-1)
  · left
    simp only [if_pos c1]
    rw [poK_n rfl c1]
    exact ⟨trivial, trivial, t1⟩
  · have hne : ¬ wAt d ln (sk (blM d) ln so) = lN 0 := fun q => c1 (by rw [q]; decide)
    have hpo : poK d ln (sk (blM d) ln so) = F_X3_scan_0_6 ln so tp := (poK_y rfl c1).trans (hLE hne).symm
    obtain ⟨kn1, kn2⟩ := kwM_nat c1
    simp only [if_neg c1]
    rw [hpo]
    generalize F_X3_scan_0_6 ln so tp = E at *
    generalize kwM (wAt d ln (sk (blM d) ln so)) = kw at *
    rcases num_sim (x := E) h hEl hln with ⟨n1, n2, n3⟩ | ⟨n1, n2, n3, n4, n5, v1, v2⟩
    · left
      simp only [if_pos n1, if_pos n2]
      exact ⟨trivial, trivial, n3.symm⟩
    · simp only [if_neg n1, if_neg n2]
      rw [n3, n5]
      generalize nuM d (sk (blM d) ln E) (sk (diM d) ln (sk (blM d) ln E) - sk (blM d) ln E) = V at *
      have hR2 := RLt_upd (w := kw.toNatClampNeg) hR v1 v2
      generalize F_X3_scan_0_6 ln E tp = Z at *
      by_cases c2 : kw = 0
      · simp only [if_pos c2]
        have w0 := word_iff h n4 hln (w := 0) (by decide)
        rw [show lN (pv (rvb.getD 0 [])) = (29807 : Int64) from rfl] at w0
        obtain ⟨g1, -⟩ := tok h n4 hln
        have hE2l := (scan_le (tp := tp) n4 hln).2.1
        have hLE2 := let_E h n4 hln
        by_cases c3 : wAt d ln (sk (blM d) ln Z) = 29807
        · have tk1 : ¬ F_X8_takes ln Z d 29807 = 0 := by
            unfold F_X8_takes
            rw [wd_eq, if_pos c3]
            decide
          have tk2 : F_X8_takes_0_27 ln Z d 29807 = F_X3_scan_0_6 ln Z tp := by
            unfold F_X8_takes_0_27
            rw [wd_eq, if_pos c3, wd32]
            exact (hLE2 (fun q => by rw [c3] at q; exact absurd q (by decide))).symm
          have iw : ¬ isW tp (F_X3_scan_0_4 ln Z tp) (F_X3_scan_0_5 ln Z tp) (F_X3_scan_0_6 ln Z tp) 0 = 0 := fun q => w0.mp q c3
          simp only [if_neg tk1]
          rw [tk2]
          simp only [if_neg iw]
          generalize F_X3_scan_0_6 ln Z tp = E2 at *
          rcases num_sim (x := E2) h hE2l hln with ⟨m1, m2, m3⟩ | ⟨m1, m2, m3, m4, m5, u1, u2⟩
          · left
            simp only [if_pos m1, if_pos m2]
            exact ⟨trivial, trivial, m3.symm⟩
          · simp only [if_neg m1, if_neg m2]
            rw [m3, m5]
            generalize nuM d (sk (blM d) ln E2) (sk (diM d) ln (sk (blM d) ln E2) - sk (blM d) ln E2) = V2 at *
            generalize F_X3_scan_0_6 ln E2 tp = Z2 at *
            obtain ⟨g2, -⟩ := tok h m4 hln
            rcases semi_sim h m4 hln with ⟨s1, s2, s3, s4⟩ | ⟨s1, s2 | ⟨s2, s3⟩⟩
            · right
              simp only [if_pos s1, if_neg s2, if_pos s3]
              exact ⟨by decide, by decide, s4, RLt_upd (w := 1) hR2 u1 u2⟩
            · left
              simp only [if_neg s1, if_pos s2]
              exact ⟨trivial, trivial, g2⟩
            · left
              simp only [if_neg s1, if_neg s2, if_neg s3]
              exact ⟨trivial, trivial, g2⟩
        · left
          have tk1 : F_X8_takes ln Z d 29807 = 0 := by
            unfold F_X8_takes
            rw [wd_eq, if_neg c3]
          have tk2 : F_X8_takes_0_27 ln Z d 29807 = sk (blM d) ln Z := by
            unfold F_X8_takes_0_27
            rw [wd_eq, if_neg c3, wd27]
          simp only [if_pos tk1, if_pos (w0.mpr c3)]
          exact ⟨trivial, trivial, g1.trans tk2.symm⟩
      · simp only [if_neg c2]
        obtain ⟨g2, -⟩ := tok h n4 hln
        rcases semi_sim h n4 hln with ⟨s1, s2, s3, s4⟩ | ⟨s1, s2 | ⟨s2, s3⟩⟩
        · right
          simp only [if_pos s1, if_neg s2, if_pos s3]
          exact ⟨by decide, by decide, s4, hR2⟩
        · left
          simp only [if_neg s1, if_pos s2]
          exact ⟨trivial, trivial, g2⟩
        · left
          simp only [if_neg s1, if_neg s2, if_neg s3]
          exact ⟨trivial, trivial, g2⟩
theorem rd_sim {ln tk : Nat} {tp d : Nat → Int32} (h : rel8 ln tp d) (hln : ln ≤ 300) : ∀ (n so we : Nat) (nu : Int32) (rt t : Nat → Int32), so ≤ ln → RLt tk rt t → (((rd ln tp n so rt).1 = (-1) ∧ ¬ (rdM ln tk d n (sk (blM d) ln so) we nu t).1 = 0 ∧ RLt tk (rd ln tp n so rt).2.2.2.2 (rdM ln tk d n (sk (blM d) ln so) we nu t).2.2.2.2) ∨ ((rdM ln tk d n (sk (blM d) ln so) we nu t).1 = 0 ∧ (rd ln tp n so rt).1 = nI (rdM ln tk d n (sk (blM d) ln so) we nu t).2.1 ∧ (rdM ln tk d n (sk (blM d) ln so) we nu t).2.1 ≤ ln)) ∧ ∀ k, k < 7 * tk → (rdM ln tk d n (sk (blM d) ln so) we nu t).2.2.2.2 k = t k := by
  intro n
  induction n with
  | zero =>
    intro so we nu rt t hso hR
    obtain ⟨t1, t2⟩ := tok h hso hln
    rw [rd, rdM, t1]
    rcases t2 with ⟨c1, c2, -⟩ | ⟨c1, c2, -⟩
    · rw [if_pos c2, if_neg (by omega)]
      exact ⟨Or.inl ⟨rfl, (by decide : ¬ (1 : Int32) = 0), hR⟩, fun k _ => rfl⟩
    · rw [if_neg (by rw [c2]; exact kd_all.2.2.2), if_pos c1]
      exact ⟨Or.inr ⟨rfl, rfl, by show sk (blM d) ln so ≤ ln; omega⟩, fun k _ => rfl⟩
  | succ n ih =>
    intro so we nu rt t hso hR
    obtain ⟨t1, t2⟩ := tok h hso hln
    rw [rd, rdM]
    rcases t2 with ⟨c1, c2, -⟩ | ⟨c1, c2, -⟩
    · rw [if_pos c2, if_neg (by omega)]
      exact ⟨Or.inl ⟨rfl, (by decide : ¬ (1 : Int32) = 0), hR⟩, fun k _ => rfl⟩
    · rw [if_neg (by rw [c2]; exact kd_all.2.2.2), if_pos c1]
      rcases st_sim h hso hln hR with ⟨s1, s2, s3⟩ | ⟨s1, s2, s3, s4⟩
      · rw [if_pos s1, if_pos s2]
        refine ⟨Or.inr ⟨rfl, ?_, st27_le (by omega) hln⟩, st_low⟩
        show nI _ = nI _
        rw [s3]
      · rw [if_neg s1, if_neg s2, s3]
        have hle := st27_le (d := d) (ln := ln) (po := sk (blM d) ln so) (by omega) hln
        obtain ⟨i1, i2⟩ := ih (F_X8_statement_0_27 ln (sk (blM d) ln so) d) (F_X8_statement_0_32 ln (sk (blM d) ln so) d) (F_X8_statement_0_33 nu ln (sk (blM d) ln so) d) _ _ hle s4
        exact ⟨i1, fun k hk => (i2 k hk).trans (st_low k hk)⟩
theorem cp_at {d23 d24 : Nat → Int32} : ∀ n k, k < n → lp (F_X8_law_L29 d23) n d24 k = (d23 k).toInt8.toInt32
  | 0, k, hk => absurd hk (Nat.not_lt_zero k)
  | n + 1, k, hk => by
    rw [lp_s]
    unfold F_X8_law_L29
    by_cases c1 : k = n
    · rw [c1, pk_us, vp_nar_byte]
    · rw [pk_un c1]
      exact cp_at n k (by omega)
theorem rt_at {rt : Nat → Int32} : ∀ n k, k < n → lp F_X3_read_L28 n rt k = F_X2_usual (nI k)
  | 0, k, hk => absurd hk (Nat.not_lt_zero k)
  | n + 1, k, hk => by
    rw [lp_s]
    unfold F_X3_read_L28
    by_cases c1 : k = n
    · rw [c1, pk_us]
    · rw [pk_un c1]
      exact rt_at n k (by omega)
theorem pl_at {tk : Nat} {d30 : Nat → Int32} : ∀ n, (∀ k, k < n → lp (F_X8_law_L69 tk) n d30 (7 * tk + k) = F_X8_plain (nI k)) ∧ ∀ k, k < 7 * tk → lp (F_X8_law_L69 tk) n d30 k = d30 k
  | 0 => ⟨fun k hk => absurd hk (Nat.not_lt_zero k), fun k _ => rfl⟩
  | n + 1 => by
    obtain ⟨i1, i2⟩ := pl_at (tk := tk) (d30 := d30) n
    rw [lp_s]
    unfold F_X8_law_L69
    refine ⟨fun k hk => ?_, fun k hk => ?_⟩
    · by_cases c1 : k = n
      · rw [c1, pk_us]
      · rw [pk_un (by omega)]
        exact i1 k (by omega)
    · rw [pk_un (by omega)]
      exact i2 k hk
theorem take_at {tk : Nat} {rt fm : Nat → Int32} : ∀ n, n ≤ 7 → (∀ k, k < n → lp (F_X2_take_L17 tk rt) n fm (tk * 7 + k) = rt k) ∧ ∀ k, k < tk * 7 → lp (F_X2_take_L17 tk rt) n fm k = fm k
  | 0, _ => ⟨fun k hk => absurd hk (Nat.not_lt_zero k), fun k _ => rfl⟩
  | n + 1, hn => by
    obtain ⟨i1, i2⟩ := take_at (tk := tk) (rt := rt) (fm := fm) n (by omega)
    rw [lp_s]
    unfold F_X2_take_L17
    refine ⟨fun k hk => ?_, fun k hk => ?_⟩
    · by_cases c1 : k = n
      · rw [c1, pk_us]
        unfold F_X3_termRead
        rw [if_neg (wn_nI (by omega) (by omega) (by omega)), nI_clamp (by omega)]
      · rw [pk_un (by omega)]
        exact i1 k (by omega)
    · rw [pk_un (by omega)]
      exact i2 k hk
theorem sim_law {tk nb we : Nat} {lf td q33 nq : Int32} {tp rt fm fs d23 d24 d30 d31 : Nat → Int32} (hl : IL tk fm fs d30 d31) (he : IE nb tp d23) (htk : tk ≤ 10) (hnb : nb ≤ 300) :
    F_X7_law tk nb tp rt nq = F_X8_law q33 nb tk we d23 d24 d30 nq ∧
    F_X7_law_0_9 lf tk nb tp rt nq = F_X8_law_0_28 lf q33 nb tk we d23 d24 d30 nq ∧
    F_X7_law_1_2 tk nb tp rt nq = F_X8_law_0_29 q33 nb tk we d23 d24 d30 nq ∧
    F_X7_law_4_2 tk nb tp rt nq = F_X8_law_0_25 q33 nb tk we d23 d24 d30 nq ∧
    F_X8_law_0_29 q33 nb tk we d23 d24 d30 nq ≤ 10 ∧ F_X8_law_0_25 q33 nb tk we d23 d24 d30 nq ≤ 300 ∧
    IL (F_X8_law_0_29 q33 nb tk we d23 d24 d30 nq) (F_X7_law_2 tk fm nb tp rt nq) (F_X7_law_3 td tk fs nb tp rt nq) (F_X8_law_3 q33 nb tk we d23 d24 d30 nq) (F_X8_law_4 td q33 nb tk we d23 d24 d30 d31 nq) ∧
    IE (F_X8_law_0_25 q33 nb tk we d23 d24 d30 nq) tp d23 := by
  unfold F_X7_law F_X8_law F_X7_law_0_9 F_X8_law_0_28 F_X7_law_1_2 F_X8_law_0_29 F_X7_law_4_2 F_X8_law_0_25 F_X7_law_2 F_X7_law_3 F_X8_law_3 F_X8_law_4
  rw [isIn_eq]
  by_cases c1 : F_X7_within nq 0 (nI nb) = 0
  · simp only [if_pos c1]
    exact ⟨trivial, trivial, trivial, trivial, htk, hnb, hl, he⟩
  · simp only [if_neg c1]
    have hfull : F_X2_isFull tk = 0 ↔ ¬ nI tk = 10 := by
      unfold F_X2_isFull
      have e10 : (10 : Int32) = nI 10 := rfl
      rw [e10]
      by_cases c2 : nI tk < nI 10
      · rw [if_pos c2]
        have := (nI_ltI (by omega) (by omega)).mp c2
        exact ⟨fun _ => by rw [nI_eq (by omega) (by omega)]; omega, fun _ => rfl⟩
      · rw [if_neg c2]
        have h9 : tk = 10 := by
          rcases Nat.lt_or_ge tk 10 with q | q
          · exact absurd (nI_lt q (by omega)) c2
          · omega
        exact ⟨fun q => absurd q (by decide), fun q => absurd (by rw [h9]) q⟩
    by_cases c2 : nI tk = 10
    · have c3 : ¬ F_X2_isFull tk = 0 := fun q => hfull.mp q c2
      simp only [if_pos c2, if_neg c3]
      exact ⟨trivial, trivial, trivial, trivial, htk, hnb, hl, he⟩
    · simp only [if_neg c2, if_pos (hfull.mpr c2)]
      have htk9 : tk < 10 := ten_lt htk c2
      have hnn : nq.toNatClampNeg ≤ nb := by
        have h9 := wn_I (a := 0) (b := nb) (by omega) (by omega) c1
        have h8 : (nq.toNatClampNeg : Int) = nq.toInt.toNat := rfl
        omega
      have hrel : rel8 nq.toNatClampNeg tp (lp (F_X8_law_L29 d23) nq.toNatClampNeg d24) := by
        intro k hk
        obtain ⟨h1, h2⟩ := he k (by omega)
        rw [cp_at _ k hk, h1, fb_byte_twice]
        exact ⟨rfl, h2⟩
      have hu : ∀ w, w < 7 → 0 ≤ (F_X2_usual (nI w)).toInt ∧ (F_X2_usual (nI w)).toInt ≤ 9999 := by decide
      have hR0 : RLt tk (lp F_X3_read_L28 7 rt) (lp (F_X8_law_L69 tk) 7 d30) := by
        intro w hw
        rw [rt_at 7 w hw, (pl_at 7).1 w hw]
        exact ⟨us_eq w hw, hu w hw⟩
      have hsim := rd_sim (tk := tk) hrel (by omega) 12 0 we q33 _ _ (Nat.zero_le _) hR0
      have eL : rdM nq.toNatClampNeg tk (lp (F_X8_law_L29 d23) nq.toNatClampNeg d24) 12 (sk (blM (lp (F_X8_law_L29 d23) nq.toNatClampNeg d24)) nq.toNatClampNeg 0) we q33 (lp (F_X8_law_L69 tk) 7 d30) = lawM nq.toNatClampNeg tk we q33 d23 d24 d30 := rfl
      rw [eL] at hsim
      generalize lawM nq.toNatClampNeg tk we q33 d23 d24 d30 = M at *
      generalize rd nq.toNatClampNeg tp 12 0 (lp F_X3_read_L28 7 rt) = X at *
      obtain ⟨g1, g2⟩ := hsim
      have low : ∀ k, k < 7 * tk → M.2.2.2.2 k = d30 k := fun k hk => (g2 k hk).trans ((pl_at 7).2 k hk)
      have hE0 : IE 0 tp d23 := fun k hk => absurd hk (Nat.not_lt_zero k)
      rcases g1 with ⟨x1, x2, x3⟩ | ⟨x1, x2, x3⟩
      · simp only [if_pos x1, if_neg x2]
        refine ⟨(nI_pred tk).symm, x1, trivial, trivial, by omega, by omega, ⟨fun k hk => ?_, fun k hk => ?_⟩, hE0⟩
        · obtain ⟨a1, a2⟩ := take_at (tk := tk) (rt := X.2.2.2.2) (fm := fm) 7 (Nat.le_refl _)
          by_cases c4 : k < 7 * tk
          · rw [a2 k (by omega), low k c4]
            exact hl.1 k c4
          · have e9 : k = tk * 7 + (k - 7 * tk) := by omega
            have e8 : k = 7 * tk + (k - 7 * tk) := by omega
            obtain ⟨b1, b2⟩ := x3 (k - 7 * tk) (by omega)
            have e7 := a1 (k - 7 * tk) (by omega)
            rw [← e9] at e7
            rw [← e8] at b1
            rw [e7]
            exact ⟨b1, b2⟩
        · by_cases c4 : k = tk
          · rw [c4, pk_us, pk_us]
          · rw [pk_un c4, pk_un c4]
            exact hl.2 k (by omega)
      · have x4 : ¬ X.1 = (-1) := by
          rw [x2]
          exact nm1 (by omega)
        simp only [if_neg x4, if_pos x1]
        refine ⟨trivial, x2, trivial, trivial, htk, by omega, ⟨fun k hk => ?_, hl.2⟩, hE0⟩
        rw [low k hk]
        exact hl.1 k hk
