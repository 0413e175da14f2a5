/-! words, numbers and statements of a law -/
def rvb : List (List Nat) := [[111, 116], [108, 101, 118, 101, 108], [107, 110, 97, 98], [114, 97, 101, 108, 99], [107, 99, 97, 98], [121, 116, 108, 97, 121, 111, 114], [101, 110, 105, 102]]
theorem rvb_in : ∀ w, w < 7 → ∀ x ∈ rvb.getD w [], 0 < x ∧ x < 256 := by decide
theorem rvb_len : ∀ w, w < 7 → (rvb.getD w []).length = tx_len.getD w 0 ∧ 0 < pv (rvb.getD w []) ∧ pv (rvb.getD w []) < 2 ^ 63 := by decide
theorem rvb_at : ∀ w, w < 7 → ∀ k, k < tx_len.getD w 0 → F_J1_charAt_3b067 w k = nI ((rvb.getD w []).getD (tx_len.getD w 0 - 1 - k) 0) ∧ (rvb.getD w []).getD (tx_len.getD w 0 - 1 - k) 0 < 256 := by decide
theorem wAt_0 {d : Nat → Int32} {ln B : Nat} (h : sk (leM d) ln B = B) (hb1 : B < 2 ^ 31) : wAt d ln B = lN 0 := by
  unfold wAt
  rw [h, pk_sub (Nat.le_refl _), Nat.sub_self, if_pos (by decide)]
  rfl
theorem word_iff {ln x w : Nat} {tp d : Nat → Int32} (h : rel8 ln tp d) (hxl : x ≤ ln) (hln : ln ≤ 300) (hw : w < 7) : isW tp (F_X3_scan_0_4 ln x tp) (F_X3_scan_0_5 ln x tp) (F_X3_scan_0_6 ln x tp) w = 0 ↔ ¬ wAt d ln (sk (blM d) ln x) = lN (pv (rvb.getD w [])) := by
  obtain ⟨l1, l2, l3⟩ := rvb_len w hw
  have no : ∀ B, sk (leM d) ln B = B → B < 2 ^ 31 → ¬ wAt d ln B = lN (pv (rvb.getD w [])) := by
    intro B h1 h2
    rw [wAt_0 h1 h2, pk_lEQ (by omega) l3]
    omega
  obtain ⟨t1, t2⟩ := tok h hxl hln
  rw [t1]
  have hB := (sk_le (b := blM d) hxl).1
  generalize sk (blM d) ln x = B at *
  rcases t2 with ⟨c1, c2, -⟩ | ⟨c1, c2, c3⟩
  · rw [c2]
    have h1 : isW tp 0 B (F_X3_scan_0_6 ln x tp) w = 0 := isW_k (by decide)
    exact ⟨fun _ => no B (sk_end (by omega)) (by omega), fun _ => h1⟩
  · obtain ⟨h1, h2, h3⟩ := h B c1
    obtain ⟨-, q1, -, -, -⟩ := ch_all h1 h2 h3
    by_cases c4 : F_X3_kindOf (tp B) = 1
    · have c5 : F_X3_scan_0_6 ln x tp = sk (leM d) ln B := by
        rcases c3 with ⟨-, g1⟩ | ⟨g0, -⟩ | ⟨g0, -⟩
        · exact g1
        · rw [c2, c4] at g0
          exact absurd g0 (by decide)
        · rw [c2, c4] at g0
          exact absurd rfl g0
      rw [c2, c4, c5]
      obtain ⟨u1, u2⟩ := sk_le (b := leM d) (n := ln) (a := B) (by omega)
      have hall : ∀ k, B ≤ k → k < sk (leM d) ln B → d k = tp k ∧ 97 ≤ (d k).toInt ∧ (d k).toInt ≤ 122 := by
        intro k k1 k2
        have k3 := of_decide_eq_true (sk_all (b := leM d) k k1 k2)
        obtain ⟨g1, g2, g3⟩ := h k (by omega)
        obtain ⟨-, r1, -, -, r5⟩ := ch_all g1 g2 g3
        have r6 := kd_all.1.mp (r1.mp k3)
        have r7 := r5 (by omega)
        rw [r7]
        exact ⟨rfl, r6⟩
      unfold wAt isW
      generalize sk (leM d) ln B = E at *
      have hbb : ∀ k, k < E - B → 0 < (d (B + k)).toInt.toNat ∧ (d (B + k)).toInt.toNat < 256 := fun k hk => by
        have := (hall (B + k) (by omega) (by omega)).2
        omega
      have pvl := pk_val (rvb.getD w []) (E - B) (fun k => (d (B + k)).toInt.toNat) (rvb_in w hw) hbb
      have t8 := tx_8 hw
      have key : (E - B = tx_len.getD w 0 ∧ ∀ k, k < tx_len.getD w 0 → tp (B + k) = F_J1_charAt_3b067 w k) ↔ pkN (fun k => (d (B + k)).toInt.toNat) (E - B) = pv (rvb.getD w []) := by
        rw [pvl, l1]
        constructor
        · rintro ⟨g1, g2⟩
          refine ⟨g1, fun k hk => ?_⟩
          obtain ⟨g3, g4⟩ := rvb_at w hw k (by omega)
          show (d (B + k)).toInt.toNat = _
          rw [(hall (B + k) (by omega) (by omega)).1, g2 k (by omega), g3, nI_toInt (by omega), g1, Int.toNat_natCast]
        · rintro ⟨g1, g2⟩
          refine ⟨g1, fun k hk => ?_⟩
          obtain ⟨g3, g4⟩ := rvb_at w hw k hk
          have g5 : (d (B + k)).toInt.toNat = _ := g2 k (by omega)
          obtain ⟨g6, g7, g8⟩ := hall (B + k) (by omega) (by omega)
          rw [← g6, g3, fa_eq, nI_toInt (by omega)]
          rw [g1] at g5
          omega
      by_cases c6 : E - B ≤ 7
      · have c7 : nI E - nI B ≤ 7 := by
          rw [pk_sub u2]
          exact (nI_leI (b := 7) (by omega) (by omega)).mpr c6
        have e7 : wvM d B (E - B) = lN (pkN (fun k => (d (B + k)).toInt.toNat) (E - B)) := by
          rw [wvM, if_pos c6]
          exact pkW_eq _ c6 (fun k hk => by
            have := (hall (B + k) (by omega) (by omega)).2
            omega)
        have hl := pkN_lt (b := fun k => (d (B + k)).toInt.toNat) (E - B) (fun k hk => (hbb k hk).2)
        have h256 : 256 ^ (E - B) ≤ 256 ^ 7 := Nat.pow_le_pow_right (by omega) c6
        rw [if_pos c7, e7, pk_lEQ (by omega) l3, ← key]
        by_cases c8 : E - B = tx_len.getD w 0 ∧ ∀ k, k < tx_len.getD w 0 → tp (B + k) = F_J1_charAt_3b067 w k
        · rw [if_pos ⟨rfl, c8⟩]
          exact ⟨fun q => absurd q (by decide), fun q => absurd c8 q⟩
        · rw [if_neg (fun q => c8 q.2)]
          exact ⟨fun _ => c8, fun _ => rfl⟩
      · have c7 : ¬ nI E - nI B ≤ 7 := by
          rw [pk_sub u2]
          exact fun q => c6 ((nI_leI (b := 7) (by omega) (by omega)).mp q)
        rw [if_neg c7, if_neg (fun q => by have := q.2.1; omega)]
        refine ⟨fun _ q => ?_, fun _ => rfl⟩
        have q2 : lN 0 = lN (pv (rvb.getD w [])) := q
        rw [pk_lEQ (by omega) l3] at q2
        omega
    · rw [c2]
      have h1' : isW tp (F_X3_kindOf (tp B)) B (F_X3_scan_0_6 ln x tp) w = 0 := isW_k c4
      have h2' : sk (leM d) ln B = B := sk_stop (decide_eq_false (fun q => c4 (q1.mp q)))
      exact ⟨fun _ => no B h2' (by omega), fun _ => h1'⟩
theorem kw_eq {ln x : Nat} {tp d : Nat → Int32} (h : rel8 ln tp d) (hxl : x ≤ ln) (hln : ln ≤ 300) : F_X3_keyword (F_X3_scan_0_4 ln x tp) (F_X3_scan_0_5 ln x tp) (F_X3_scan_0_6 ln x tp) tp = kwM (wAt d ln (sk (blM d) ln x)) := by
  have w1 := word_iff h hxl hln (w := 1) (by decide)
  have w2 := word_iff h hxl hln (w := 2) (by decide)
  have w3 := word_iff h hxl hln (w := 3) (by decide)
  have w4 := word_iff h hxl hln (w := 4) (by decide)
  have w5 := word_iff h hxl hln (w := 5) (by decide)
  have w6 := word_iff h hxl hln (w := 6) (by decide)
  rw [show lN (pv (rvb.getD 1 [])) = (465558725996 : Int64) from rfl] at w1
  rw [show lN (pv (rvb.getD 2 [])) = (1650552427 : Int64) from rfl] at w2
  rw [show lN (pv (rvb.getD 3 [])) = (427020345714 : Int64) from rfl] at w3
  rw [show lN (pv (rvb.getD 4 [])) = (1650549611 : Int64) from rfl] at w4
  rw [show lN (pv (rvb.getD 5 [])) = (32210714461238393 : Int64) from rfl] at w5
  rw [show lN (pv (rvb.getD 6 [])) = (1718185573 : Int64) from rfl] at w6
  unfold F_X3_keyword kwM
  generalize wAt d ln (sk (blM d) ln x) = v at *
  by_cases c1 : v = 465558725996
  · rw [if_neg (fun q => w1.mp q c1), if_pos c1]
  · rw [if_pos (w1.mpr c1), if_neg c1]
    by_cases c2 : v = 1650552427
    · rw [if_neg (fun q => w2.mp q c2), if_pos c2]
    · rw [if_pos (w2.mpr c2), if_neg c2]
      by_cases c3 : v = 427020345714
      · rw [if_neg (fun q => w3.mp q c3), if_pos c3]
      · rw [if_pos (w3.mpr c3), if_neg c3]
        by_cases c4 : v = 1650549611
        · rw [if_neg (fun q => w4.mp q c4), if_pos c4]
        · rw [if_pos (w4.mpr c4), if_neg c4]
          by_cases c5 : v = 32210714461238393
          · rw [if_neg (fun q => w5.mp q c5), if_pos c5]
          · rw [if_pos (w5.mpr c5), if_neg c5]
            by_cases c6 : v = 1718185573
            · rw [if_neg (fun q => w6.mp q c6), if_pos c6]
            · rw [if_pos (w6.mpr c6), if_neg c6]
theorem num_eq {ln B E : Nat} {tp d : Nat → Int32} {x : Nat} (h5 : F_X3_scan_0_5 ln x tp = B) (h : ∀ k, k < E - B → d (B + k) = tp (B + k) ∧ 48 ≤ (tp (B + k)).toInt ∧ (tp (B + k)).toInt ≤ 57) : ∀ t, t ≤ E - B → t ≤ 4 → lp (F_X3_readNumber_L49 ln x tp) t 0 = nuM d B t ∧ 0 ≤ (nuM d B t).toInt ∧ (nuM d B t).toInt < 10 ^ t
  | 0, _, _ => ⟨rfl, by rw [nuM]; decide, by rw [nuM]; decide⟩
  | t + 1, h1, h2 => by
    obtain ⟨i1, i2, i3⟩ := num_eq h5 h t (by omega) (by omega)
    obtain ⟨g1, g2, g3⟩ := h t (by omega)
    rw [lp_s, i1, nuM, if_pos (by omega)]
    unfold F_X3_readNumber_L49
    rw [h5, g1]
    have h10 : (10 : Int) ^ t ≤ 1000 := by
      have e1 : t = 0 ∨ t = 1 ∨ t = 2 ∨ t = 3 := by omega
      rcases e1 with rfl | rfl | rfl | rfl <;> decide
    have e10 : (10 : Int32).toInt = 10 := by decide
    have e48 : (48 : Int32).toInt = 48 := by decide
    have m1 : (10 * nuM d B t).toInt = 10 * (nuM d B t).toInt := by
      rw [fb_mulI] <;> rw [e10] <;> omega
    have m2 : (10 * nuM d B t + tp (B + t)).toInt = 10 * (nuM d B t).toInt + (tp (B + t)).toInt := by
      rw [fb_addI] <;> rw [m1] <;> omega
    have m3 : (10 * nuM d B t + tp (B + t) - 48).toInt = 10 * (nuM d B t).toInt + (tp (B + t)).toInt - 48 := by
      rw [fb_subI] <;> rw [m2, e48] <;> omega
    refine ⟨rfl, ?_, ?_⟩
    · rw [m3]
      omega
    · rw [m3, Int.pow_succ]
      omega
theorem num_sim {ln x : Nat} {tp d : Nat → Int32} (h : rel8 ln tp d) (hxl : x ≤ ln) (hln : ln ≤ 300) :
    (F_X3_readNumber ln x tp = 0 ∧ F_X8_takesNumber ln x d = 0 ∧ F_X8_takesNumber_0_27 ln x d = F_X3_scan_0_5 ln x tp) ∨
    (¬ F_X3_readNumber ln x tp = 0 ∧ ¬ F_X8_takesNumber ln x d = 0 ∧ F_X8_takesNumber_0_27 ln x d = F_X3_scan_0_6 ln x tp ∧ F_X3_scan_0_6 ln x tp ≤ ln ∧ (∀ rt wt, F_X3_readNumber_2 ln x tp rt wt = upd rt wt (nuM d (sk (blM d) ln x) (sk (diM d) ln (sk (blM d) ln x) - sk (blM d) ln x))) ∧ 0 ≤ (nuM d (sk (blM d) ln x) (sk (diM d) ln (sk (blM d) ln x) - sk (blM d) ln x)).toInt ∧ (nuM d (sk (blM d) ln x) (sk (diM d) ln (sk (blM d) ln x) - sk (blM d) ln x)).toInt ≤ 9999) := by
  obtain ⟨t1, t2⟩ := tok h hxl hln
  have hB := (sk_le (b := blM d) hxl).1
  unfold F_X3_readNumber F_X8_takesNumber F_X8_takesNumber_0_27 F_X3_readNumber_2
  rw [t1]
  generalize hBx : sk (blM d) ln x = B at *
  rcases t2 with ⟨c1, c2, c3⟩ | ⟨c1, c2, c3⟩
  · left
    rw [c2, if_neg (by decide), if_pos (by rw [sk_end (by omega)]), if_pos (by rw [sk_end (by omega)])]
    exact ⟨rfl, rfl, rfl⟩
  · obtain ⟨h1, h2, h3⟩ := h B c1
    obtain ⟨-, -, q2, -, -⟩ := ch_all h1 h2 h3
    by_cases c4 : F_X3_kindOf (tp B) = 2
    · have c5 : F_X3_scan_0_6 ln x tp = sk (diM d) ln B := by
        rcases c3 with ⟨g0, -⟩ | ⟨-, g1⟩ | ⟨-, g0, -⟩
        · rw [c2, c4] at g0
          exact absurd g0 (by decide)
        · exact g1
        · rw [c2, c4] at g0
          exact absurd rfl g0
      have hst := sk_step (b := diM d) c1 (decide_eq_true (q2.mpr c4))
      obtain ⟨u1, u2⟩ := sk_le (b := diM d) (n := ln) (a := B + 1) (by omega)
      rw [← hst] at u1 u2
      have hall : ∀ k, B ≤ k → k < sk (diM d) ln B → d k = tp k ∧ 48 ≤ (tp k).toInt ∧ (tp k).toInt ≤ 57 := by
        intro k k1 k2
        have k3 := of_decide_eq_true (sk_all (b := diM d) k k1 k2)
        obtain ⟨g1, g2, g3⟩ := h k (by omega)
        obtain ⟨-, -, r1, -, r5⟩ := ch_all g1 g2 g3
        have r6 := kd_all.2.1.mp (r1.mp k3)
        exact ⟨r5 (by omega), r6⟩
      have hne := num_eq (ln := ln) (x := x) (B := B) (E := sk (diM d) ln B) (tp := tp) (d := d) t1 (fun k hk => hall (B + k) (by omega) (by omega))
      rw [c2, c4, c5]
      generalize sk (diM d) ln B = E at *
      have ne1 : ¬ nI E = nI B := by
        rw [nI_eq (by omega) (by omega)]
        omega
      rw [if_pos rfl, if_neg ne1, if_neg ne1, pk_sub (by omega)]
      by_cases c6 : E - B ≤ 4
      · have c7 : nI (E - B) ≤ 4 := (nI_leI (b := 4) (by omega) (by omega)).mpr c6
        right
        rw [if_neg (Int32.not_lt.mpr c7), if_pos c7, if_pos c7]
        obtain ⟨v1, v2, v3⟩ := hne (E - B) (Nat.le_refl _) c6
        have h10 : (10 : Int) ^ (E - B) ≤ 10000 := by
          have e1 : E - B = 0 ∨ E - B = 1 ∨ E - B = 2 ∨ E - B = 3 ∨ E - B = 4 := by omega
          rcases e1 with e1 | e1 | e1 | e1 | e1 <;> rw [e1] <;> decide
        refine ⟨by decide, by decide, rfl, u1, fun rt wt => ?_, v2, by omega⟩
        rw [if_pos rfl, if_neg (Int32.not_lt.mpr c7), v1]
      · have c7 : ¬ nI (E - B) ≤ 4 := fun q => c6 ((nI_leI (b := 4) (by omega) (by omega)).mp q)
        left
        rw [if_pos (fa_of_nle c7), if_neg c7, if_neg c7]
        exact ⟨rfl, rfl, rfl⟩
    · have h2' : sk (diM d) ln B = B := sk_stop (decide_eq_false (fun q => c4 (q2.mp q)))
      left
      rw [c2, if_neg c4, h2', if_pos rfl, if_pos rfl]
      exact ⟨rfl, rfl, rfl⟩
theorem semi_sim {ln x : Nat} {tp d : Nat → Int32} (h : rel8 ln tp d) (hxl : x ≤ ln) (hln : ln ≤ 300) : (F_X3_scan_0_4 ln x tp = 3 ∧ ¬ nI (sk (blM d) ln x) = nI ln ∧ d (sk (blM d) ln x) = 59 ∧ F_X3_scan_0_6 ln x tp = sk (blM d) ln x + 1) ∨ (¬ F_X3_scan_0_4 ln x tp = 3 ∧ (nI (sk (blM d) ln x) = nI ln ∨ (¬ nI (sk (blM d) ln x) = nI ln ∧ ¬ d (sk (blM d) ln x) = 59))) := by
  obtain ⟨t1, t2⟩ := tok h hxl hln
  generalize sk (blM d) ln x = B at *
  rcases t2 with ⟨c1, c2, c3⟩ | ⟨c1, c2, c3⟩
  · right
    rw [c2, c1]
    exact ⟨by decide, Or.inl rfl⟩
  · obtain ⟨h1, h2, h3⟩ := h B c1
    obtain ⟨-, -, -, q3, -⟩ := ch_all h1 h2 h3
    have ne1 : ¬ nI B = nI ln := by
      rw [nI_eq (by omega) (by omega)]
      omega
    by_cases c4 : F_X3_kindOf (tp B) = 3
    · left
      refine ⟨c2.trans c4, ne1, q3.mpr c4, ?_⟩
      rcases c3 with ⟨g0, -⟩ | ⟨g0, -⟩ | ⟨-, -, -, g1⟩
      · rw [c2, c4] at g0
        exact absurd g0 (by decide)
      · rw [c2, c4] at g0
        exact absurd g0 (by decide)
      · exact g1
    · right
      rw [c2]
      exact ⟨c4, Or.inr ⟨ne1, fun q => c4 (q3.mp q)⟩⟩
