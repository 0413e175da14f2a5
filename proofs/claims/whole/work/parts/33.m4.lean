set_option maxHeartbeats 4000000 in
set_option maxRecDepth 100000 in
theorem c_X8_blanks (l : Launch) {D : va_G} {cI cZ cB : ClassId} {au : Nat} {kA kV : Nat → Nat} {z0 : Nat} (sz : Nat) (mA : Nat) (m2 : Nat) (m3 : Nat) (m4 : Nat) (m5 : Nat) (m6 : Nat) (m7 : Nat) (m8 : Nat) (m21 : Nat) (m22 : Nat) (m23 : Nat) (m24 : Nat) (m30 : Nat) (m31 : Nat) (q9 : Int32) (q10 : Int32) (q11 : Int32) (q13 : Int32) (q14 : Int32) (q15 : Int32) (q16 : Int32) (q17 : Int32) (q18 : Int32) (q19 : Int32) (q20 : Int32) (q28 : Int32) (q33 : Int32) (nr : Nat) (np : Nat) (nb : Nat) (ln : Nat) (po : Nat) (tk : Nat) (we : Nat) (dg : Nat) (d24 : Nat → Int32) (h20 : nr ≤ 20) (h2r : 2 ≤ nr) (h2p : 2 ≤ np) (h8 : np ≤ 8) (hpo : po ≤ ln) (hln : ln ≤ 300) : Met l yX8_blanks wsX8_blanks ({ frames := 0, cells := 0, slots := 0, locals := 0 }) (va_Pc [.ref mA] (PRE D cI cZ cB au kA kV z0 sz [(mA, .inr (8, .int (nI nr) :: .int (nI np) :: .ref m2 :: .ref m3 :: .ref m4 :: .ref m5 :: .ref m6 :: .ref m7 :: .ref m8 :: .int q9 :: .int q10 :: .int q11 :: .int ((nI dg) - 1) :: .int q13 :: .int q14 :: .int q15 :: .int q16 :: .int q17 :: .int q18 :: .int q19 :: .int q20 :: .ref m21 :: .ref m22 :: .ref m23 :: .ref m24 :: .int (nI nb) :: .int (nI ln) :: .int (nI po) :: .int q28 :: .int (nI tk) :: .ref m30 :: .ref m31 :: .int (nI we) :: .int q33 :: [])), (m24, .inl (cB, 300, .inl d24))])) (QV D [(mA, .inr (8, .int (nI nr) :: .int (nI np) :: .ref m2 :: .ref m3 :: .ref m4 :: .ref m5 :: .ref m6 :: .ref m7 :: .ref m8 :: .int q9 :: .int q10 :: .int q11 :: .int ((nI dg) - 1) :: .int q13 :: .int q14 :: .int q15 :: .int q16 :: .int q17 :: .int q18 :: .int q19 :: .int q20 :: .ref m21 :: .ref m22 :: .ref m23 :: .ref m24 :: .int (nI nb) :: .int (nI ln) :: .int (nI po) :: .int q28 :: .int (nI tk) :: .ref m30 :: .ref m31 :: .int (nI we) :: .int q33 :: [])), (m24, .inl (cB, 300, .inl d24))] sz [(mA, .inr (8, .int (nI nr) :: .int (nI np) :: .ref m2 :: .ref m3 :: .ref m4 :: .ref m5 :: .ref m6 :: .ref m7 :: .ref m8 :: .int q9 :: .int q10 :: .int q11 :: .int ((nI dg) - 1) :: .int q13 :: .int q14 :: .int q15 :: .int q16 :: .int q17 :: .int q18 :: .int q19 :: .int q20 :: .ref m21 :: .ref m22 :: .ref m23 :: .ref m24 :: .int (nI nb) :: .int (nI ln) :: .int (nI (sk (blM d24) ln po)) :: .int q28 :: .int (nI tk) :: .ref m30 :: .ref m31 :: .int (nI we) :: .int q33 :: [])), (m24, .inl (cB, 300, .inl d24))]) 0 0 (va_A [(mA, .inr (8, .int (nI nr) :: .int (nI np) :: .ref m2 :: .ref m3 :: .ref m4 :: .ref m5 :: .ref m6 :: .ref m7 :: .ref m8 :: .int q9 :: .int q10 :: .int q11 :: .int ((nI dg) - 1) :: .int q13 :: .int q14 :: .int q15 :: .int q16 :: .int q17 :: .int q18 :: .int q19 :: .int q20 :: .ref m21 :: .ref m22 :: .ref m23 :: .ref m24 :: .int (nI nb) :: .int (nI ln) :: .int (nI po) :: .int q28 :: .int (nI tk) :: .ref m30 :: .ref m31 :: .int (nI we) :: .int q33 :: [])), (m24, .inl (cB, 300, .inl d24))] sz) := by
  refine Met.ofW (cc := cX8_blanks) (maxL := 1) (ret := none) (by decide) rfl ?_
  intro p e s m args below meth c s₁ B hml hv
  obtain ⟨rfl, hsz, hz, hP, hD0, hB⟩ := hv
  have hx := B.exec
  have hb := B.bytes
  have hr := B.returns
  have hts := atoms_spec (ws := wsX8_blanks) B.pre
  have hown : s.vm.findClass RX8 = some m.cls := findClass_of_methodNamed B.named
  have hlocks := B.notSynchronized
  subst hsz
  have hD := hD0.self (sz := s.heap.size)
  have hA0 := va_A0 hD0 hz
  unfold QV
  generalize hAe : va_A [(mA, .inr (8, .int (nI nr) :: .int (nI np) :: .ref m2 :: .ref m3 :: .ref m4 :: .ref m5 :: .ref m6 :: .ref m7 :: .ref m8 :: .int q9 :: .int q10 :: .int q11 :: .int ((nI dg) - 1) :: .int q13 :: .int q14 :: .int q15 :: .int q16 :: .int q17 :: .int q18 :: .int q19 :: .int q20 :: .ref m21 :: .ref m22 :: .ref m23 :: .ref m24 :: .int (nI nb) :: .int (nI ln) :: .int (nI po) :: .int q28 :: .int (nI tk) :: .ref m30 :: .ref m31 :: .int (nI we) :: .int q33 :: [])), (m24, .inl (cB, 300, .inl d24))] s.heap.size = A at hD hA0 ⊢
  have hA : ∀ q : Nat, s.heap.size ≤ q → A q := fun q h => by rw [← hAe]; exact Or.inr h
  have hS : va_S A s.heap s.heap [] := va_S.rf
  have hiX8 : ∀ w ∈ wsX80, w ∈ wsX8_blanks := fun w h => List.mem_cons_of_mem _ (List.mem_append_right _ h)
  have hl := lv_entry ([.ref mA]) (n := 1) (Nat.le_of_ble_eq_true rfl)
  rw [lg_entry_eq]
  generalize (lg_sl ([.ref mA]) ++ List.replicate (1 - (lg_sl ([.ref mA])).length) Slot.unset).toArray = ls at hl ⊢
  have hl : lv_has ls 1 [(0, .ref mA)] := hl
  refine joinM (nL := 1) (A := A) (D := D) (pc2 := 52) (st2 := []) [(mA, .inr (8, .int (nI nr) :: .int (nI np) :: .ref m2 :: .ref m3 :: .ref m4 :: .ref m5 :: .ref m6 :: .ref m7 :: .ref m8 :: .int q9 :: .int q10 :: .int q11 :: .int ((nI dg) - 1) :: .int q13 :: .int q14 :: .int q15 :: .int q16 :: .int q17 :: .int q18 :: .int q19 :: .int q20 :: .ref m21 :: .ref m22 :: .ref m23 :: .ref m24 :: .int (nI nb) :: .int (nI ln) :: .int (nI (sk (blM d24) ln po)) :: .int q28 :: .int (nI tk) :: .ref m30 :: .ref m31 :: .int (nI we) :: .int q33 :: [])), (m24, .inl (cB, 300, .inl d24))] [(0, .ref mA)] ?_ ?_
  · intro H locs ls hP hD hS hl
    exact W.vret hx hb hr (fun t ht hW => ⟨⟨(), rfl, trivial, by rw [ht]; exact hP, hD⟩, hS.F ht⟩) hS.2.2 dX8_blanks_52
  · intro J_52
    refine lpM (σ := Nat) (fun x => x ≤ ln ∧ sk (blM d24) ln po = sk (blM d24) ln x) (fun x => ln - x) (fun x => [(mA, .inr (8, .int (nI nr) :: .int (nI np) :: .ref m2 :: .ref m3 :: .ref m4 :: .ref m5 :: .ref m6 :: .ref m7 :: .ref m8 :: .int q9 :: .int q10 :: .int q11 :: .int ((nI dg) - 1) :: .int q13 :: .int q14 :: .int q15 :: .int q16 :: .int q17 :: .int q18 :: .int q19 :: .int q20 :: .ref m21 :: .ref m22 :: .ref m23 :: .ref m24 :: .int (nI nb) :: .int (nI ln) :: .int (nI x) :: .int q28 :: .int (nI tk) :: .ref m30 :: .ref m31 :: .int (nI we) :: .int q33 :: [])), (m24, .inl (cB, 300, .inl d24))]) (fun x => [(0, .ref mA)]) po ⟨hpo, rfl⟩ hP hD hS (lv_sub hl [0] rfl) ?_
    intro x ⟨hq1, hq2⟩ ih_x H locs ls hP hD hS hl
    have hP : va_P D vwCl [(mA, .inr (8, .int (nI nr) :: .int (nI np) :: .ref m2 :: .ref m3 :: .ref m4 :: .ref m5 :: .ref m6 :: .ref m7 :: .ref m8 :: .int q9 :: .int q10 :: .int q11 :: .int ((nI dg) - 1) :: .int q13 :: .int q14 :: .int q15 :: .int q16 :: .int q17 :: .int q18 :: .int q19 :: .int q20 :: .ref m21 :: .ref m22 :: .ref m23 :: .ref m24 :: .int (nI nb) :: .int (nI ln) :: .int (nI x) :: .int q28 :: .int (nI tk) :: .ref m30 :: .ref m31 :: .int (nI we) :: .int q33 :: [])), (m24, .inl (cB, 300, .inl d24))] H := hP
    have hD : va_D A [(mA, .inr (8, .int (nI nr) :: .int (nI np) :: .ref m2 :: .ref m3 :: .ref m4 :: .ref m5 :: .ref m6 :: .ref m7 :: .ref m8 :: .int q9 :: .int q10 :: .int q11 :: .int ((nI dg) - 1) :: .int q13 :: .int q14 :: .int q15 :: .int q16 :: .int q17 :: .int q18 :: .int q19 :: .int q20 :: .ref m21 :: .ref m22 :: .ref m23 :: .ref m24 :: .int (nI nb) :: .int (nI ln) :: .int (nI x) :: .int q28 :: .int (nI tk) :: .ref m30 :: .ref m31 :: .int (nI we) :: .int q33 :: [])), (m24, .inl (cB, 300, .inl d24))] := hD
    have hl : lv_has ls 1 [(0, .ref mA)] := hl
    refine lv_aload_n hx hb dX8_blanks_0 rfl (lv_at hl 0 rfl) ?_
    refine va_get (D := D) (ci := 8) (v := .int (nI x)) (C := RX8) (T := TX8) (N := 34) hx hb hts hiX8 hown hB.1 hP 0 rfl rfl 27 (by decide) (hts _ (List.mem_of_getElem? (i := 1) rfl)) (fun _ h9 => h9) rfl dX8_blanks_1 ?_
    refine lv_aload_n hx hb dX8_blanks_4 rfl (lv_at hl 0 rfl) ?_
    refine va_get (D := D) (ci := 8) (v := .int (nI ln)) (C := RX8) (T := TX8) (N := 34) hx hb hts hiX8 hown hB.1 hP 0 rfl rfl 26 (by decide) (hts _ (List.mem_of_getElem? (i := 2) rfl)) (fun _ h9 => h9) rfl dX8_blanks_5 ?_
    refine lv_icmp_ge (tgt := 52) hx hb dX8_blanks_8 (by decide) (fun c_1 => ?_) (fun c_1 => ?_)
    · have e52 : sk (blM d24) ln po = x := hq2.trans (sk_end (by have := le_ex (by omega) hq1 c_1; omega))
      subst e52
      exact J_52 _ _ _ hP hD hS (lv_sub hl [0] rfl)
    · have hlt := le_go (by omega) hq1 c_1
      refine lv_aload_n hx hb dX8_blanks_11 rfl (lv_at hl 0 rfl) ?_
      refine va_get (D := D) (ci := 8) (v := .ref m24) (C := RX8) (T := TX8) (N := 34) hx hb hts hiX8 hown hB.1 hP 0 rfl rfl 24 (by decide) (hts _ (List.mem_of_getElem? (i := 3) rfl)) (fun _ h9 => h9) rfl dX8_blanks_12 ?_
      refine lv_aload_n hx hb dX8_blanks_15 rfl (lv_at hl 0 rfl) ?_
      refine va_get (D := D) (ci := 8) (v := .int (nI x)) (C := RX8) (T := TX8) (N := 34) hx hb hts hiX8 hown hB.1 hP 0 rfl rfl 27 (by decide) (hts _ (List.mem_of_getElem? (i := 1) rfl)) (fun _ h9 => h9) rfl dX8_blanks_16 ?_
      refine ra_b hx hb hB.1 hP 1 rfl x rfl (by omega) (by decide) dX8_blanks_19 ?_
      refine lv_bipush (v := 32) hx hb dX8_blanks_20 (by decide) ?_
      refine lv_icmp_eq (tgt := 39) hx hb dX8_blanks_22 (by decide) (fun c_2 => ?_) (fun c_2 => ?_)
      · have hbl : blM d24 x = true := decide_eq_true (Or.inl c_2)
        refine lv_aload_n hx hb dX8_blanks_39 rfl (lv_at hl 0 rfl) ?_
        refine lv_dup hx hb dX8_blanks_40 rfl ?_
        refine va_get (D := D) (ci := 8) (v := .int (nI x)) (C := RX8) (T := TX8) (N := 34) hx hb hts hiX8 hown hB.1 hP 0 rfl rfl 27 (by decide) (hts _ (List.mem_of_getElem? (i := 1) rfl)) (fun _ h9 => h9) rfl dX8_blanks_41 ?_
        refine lv_iconst (v := 1) hx hb dX8_blanks_44 (by decide) ?_
        refine lv_iadd hx hb dX8_blanks_45 ?_
        rw [show (nI x) + 1 = nI (x + 1) from (nx_add rfl rfl)]
        refine pf (w2 := [(mA, .inr (8, .int (nI nr) :: .int (nI np) :: .ref m2 :: .ref m3 :: .ref m4 :: .ref m5 :: .ref m6 :: .ref m7 :: .ref m8 :: .int q9 :: .int q10 :: .int q11 :: .int ((nI dg) - 1) :: .int q13 :: .int q14 :: .int q15 :: .int q16 :: .int q17 :: .int q18 :: .int q19 :: .int q20 :: .ref m21 :: .ref m22 :: .ref m23 :: .ref m24 :: .int (nI nb) :: .int (nI ln) :: .int (nI (x + 1)) :: .int q28 :: .int (nI tk) :: .ref m30 :: .ref m31 :: .int (nI we) :: .int q33 :: [])), (m24, .inl (cB, 300, .inl d24))]) (ci := 8) (C := RX8) (T := TX8) (N := 34) hx hb hts hiX8 tyX8 tyX8_ok nmX8 hown hB.1 hP hD hS 0 rfl rfl 27 (by decide) (hts _ (List.mem_of_getElem? (i := 1) rfl)) rfl rfl rfl rfl (Nat.le_of_ble_eq_true rfl) rfl dX8_blanks_46 (fun H locs hP hD hS => ?_)
        refine lv_goto (tgt := 0) hx hb dX8_blanks_49 (by decide) ?_
        exact ih_x (x + 1) ⟨by omega, hq2.trans (sk_step hlt hbl)⟩ (by omega) _ _ _ hP hD hS (lv_sub hl [0] rfl)
      · have hn32 := c_2
        refine lv_aload_n hx hb dX8_blanks_25 rfl (lv_at hl 0 rfl) ?_
        refine va_get (D := D) (ci := 8) (v := .ref m24) (C := RX8) (T := TX8) (N := 34) hx hb hts hiX8 hown hB.1 hP 0 rfl rfl 24 (by decide) (hts _ (List.mem_of_getElem? (i := 3) rfl)) (fun _ h9 => h9) rfl dX8_blanks_26 ?_
        refine lv_aload_n hx hb dX8_blanks_29 rfl (lv_at hl 0 rfl) ?_
        refine va_get (D := D) (ci := 8) (v := .int (nI x)) (C := RX8) (T := TX8) (N := 34) hx hb hts hiX8 hown hB.1 hP 0 rfl rfl 27 (by decide) (hts _ (List.mem_of_getElem? (i := 1) rfl)) (fun _ h9 => h9) rfl dX8_blanks_30 ?_
        refine ra_b hx hb hB.1 hP 1 rfl x rfl (by omega) (by decide) dX8_blanks_33 ?_
        refine lv_bipush (v := 10) hx hb dX8_blanks_34 (by decide) ?_
        refine lv_icmp_ne (tgt := 52) hx hb dX8_blanks_36 (by decide) (fun c_3 => ?_) (fun c_3 => ?_)
        · have e52 : sk (blM d24) ln po = x := hq2.trans (sk_stop (decide_eq_false (fun q => q.elim hn32 c_3)))
          subst e52
          exact J_52 _ _ _ hP hD hS (lv_sub hl [0] rfl)
        · have hbl : blM d24 x = true := decide_eq_true (Or.inr c_3)
          refine lv_aload_n hx hb dX8_blanks_39 rfl (lv_at hl 0 rfl) ?_
          refine lv_dup hx hb dX8_blanks_40 rfl ?_
          refine va_get (D := D) (ci := 8) (v := .int (nI x)) (C := RX8) (T := TX8) (N := 34) hx hb hts hiX8 hown hB.1 hP 0 rfl rfl 27 (by decide) (hts _ (List.mem_of_getElem? (i := 1) rfl)) (fun _ h9 => h9) rfl dX8_blanks_41 ?_
          refine lv_iconst (v := 1) hx hb dX8_blanks_44 (by decide) ?_
          refine lv_iadd hx hb dX8_blanks_45 ?_
          rw [show (nI x) + 1 = nI (x + 1) from (nx_add rfl rfl)]
          refine pf (w2 := [(mA, .inr (8, .int (nI nr) :: .int (nI np) :: .ref m2 :: .ref m3 :: .ref m4 :: .ref m5 :: .ref m6 :: .ref m7 :: .ref m8 :: .int q9 :: .int q10 :: .int q11 :: .int ((nI dg) - 1) :: .int q13 :: .int q14 :: .int q15 :: .int q16 :: .int q17 :: .int q18 :: .int q19 :: .int q20 :: .ref m21 :: .ref m22 :: .ref m23 :: .ref m24 :: .int (nI nb) :: .int (nI ln) :: .int (nI (x + 1)) :: .int q28 :: .int (nI tk) :: .ref m30 :: .ref m31 :: .int (nI we) :: .int q33 :: [])), (m24, .inl (cB, 300, .inl d24))]) (ci := 8) (C := RX8) (T := TX8) (N := 34) hx hb hts hiX8 tyX8 tyX8_ok nmX8 hown hB.1 hP hD hS 0 rfl rfl 27 (by decide) (hts _ (List.mem_of_getElem? (i := 1) rfl)) rfl rfl rfl rfl (Nat.le_of_ble_eq_true rfl) rfl dX8_blanks_46 (fun H locs hP hD hS => ?_)
          refine lv_goto (tgt := 0) hx hb dX8_blanks_49 (by decide) ?_
          exact ih_x (x + 1) ⟨by omega, hq2.trans (sk_step hlt hbl)⟩ (by omega) _ _ _ hP hD hS (lv_sub hl [0] rfl)

def F_X8_word (ln : Nat) (po : Nat) (d24 : Nat → Int32) : Int64 :=
  if ((nI (sk (leM d24) ln (sk (blM d24) ln po))) - (nI (sk (blM d24) ln po))) ≤ 7 then wvM d24 (sk (blM d24) ln po) (sk (leM d24) ln (sk (blM d24) ln po) - sk (blM d24) ln po) else
  0
def F_X8_word_0_27 (ln : Nat) (po : Nat) (d24 : Nat → Int32) : Nat :=
  if ((nI (sk (leM d24) ln (sk (blM d24) ln po))) - (nI (sk (blM d24) ln po))) ≤ 7 then (sk (blM d24) ln po) else
  (sk (blM d24) ln po)
def F_X8_word_0_32 (ln : Nat) (po : Nat) (d24 : Nat → Int32) : Nat :=
  if ((nI (sk (leM d24) ln (sk (blM d24) ln po))) - (nI (sk (blM d24) ln po))) ≤ 7 then sk (leM d24) ln (sk (blM d24) ln po) else
  sk (leM d24) ln (sk (blM d24) ln po)
set_option maxHeartbeats 4000000 in
set_option maxRecDepth 100000 in
theorem c_X8_word (l : Launch) {D : va_G} {cI cZ cB : ClassId} {au : Nat} {kA kV : Nat → Nat} {z0 : Nat} (sz : Nat) (mA : Nat) (m2 : Nat) (m3 : Nat) (m4 : Nat) (m5 : Nat) (m6 : Nat) (m7 : Nat) (m8 : Nat) (m21 : Nat) (m22 : Nat) (m23 : Nat) (m24 : Nat) (m30 : Nat) (m31 : Nat) (q9 : Int32) (q10 : Int32) (q11 : Int32) (q13 : Int32) (q14 : Int32) (q15 : Int32) (q16 : Int32) (q17 : Int32) (q18 : Int32) (q19 : Int32) (q20 : Int32) (q28 : Int32) (q33 : Int32) (nr : Nat) (np : Nat) (nb : Nat) (ln : Nat) (po : Nat) (tk : Nat) (we : Nat) (dg : Nat) (d24 : Nat → Int32) (h20 : nr ≤ 20) (h2r : 2 ≤ nr) (h2p : 2 ≤ np) (h8 : np ≤ 8) (hpo : po ≤ ln) (hln : ln ≤ 300) : Met l yX8_word wsX8_word ({ frames := 1, cells := 0, slots := 0, locals := 20 }) (va_Pc [.ref mA] (PRE D cI cZ cB au kA kV z0 sz [(mA, .inr (8, .int (nI nr) :: .int (nI np) :: .ref m2 :: .ref m3 :: .ref m4 :: .ref m5 :: .ref m6 :: .ref m7 :: .ref m8 :: .int q9 :: .int q10 :: .int q11 :: .int ((nI dg) - 1) :: .int q13 :: .int q14 :: .int q15 :: .int q16 :: .int q17 :: .int q18 :: .int q19 :: .int q20 :: .ref m21 :: .ref m22 :: .ref m23 :: .ref m24 :: .int (nI nb) :: .int (nI ln) :: .int (nI po) :: .int q28 :: .int (nI tk) :: .ref m30 :: .ref m31 :: .int (nI we) :: .int q33 :: [])), (m24, .inl (cB, 300, .inl d24))])) (QL D [(mA, .inr (8, .int (nI nr) :: .int (nI np) :: .ref m2 :: .ref m3 :: .ref m4 :: .ref m5 :: .ref m6 :: .ref m7 :: .ref m8 :: .int q9 :: .int q10 :: .int q11 :: .int ((nI dg) - 1) :: .int q13 :: .int q14 :: .int q15 :: .int q16 :: .int q17 :: .int q18 :: .int q19 :: .int q20 :: .ref m21 :: .ref m22 :: .ref m23 :: .ref m24 :: .int (nI nb) :: .int (nI ln) :: .int (nI po) :: .int q28 :: .int (nI tk) :: .ref m30 :: .ref m31 :: .int (nI we) :: .int q33 :: [])), (m24, .inl (cB, 300, .inl d24))] sz (F_X8_word ln po d24) [(mA, .inr (8, .int (nI nr) :: .int (nI np) :: .ref m2 :: .ref m3 :: .ref m4 :: .ref m5 :: .ref m6 :: .ref m7 :: .ref m8 :: .int q9 :: .int q10 :: .int q11 :: .int ((nI dg) - 1) :: .int q13 :: .int q14 :: .int q15 :: .int q16 :: .int q17 :: .int q18 :: .int q19 :: .int q20 :: .ref m21 :: .ref m22 :: .ref m23 :: .ref m24 :: .int (nI nb) :: .int (nI ln) :: .int (nI (F_X8_word_0_27 ln po d24)) :: .int q28 :: .int (nI tk) :: .ref m30 :: .ref m31 :: .int (nI (F_X8_word_0_32 ln po d24)) :: .int q33 :: [])), (m24, .inl (cB, 300, .inl d24))]) 0 0 (va_A [(mA, .inr (8, .int (nI nr) :: .int (nI np) :: .ref m2 :: .ref m3 :: .ref m4 :: .ref m5 :: .ref m6 :: .ref m7 :: .ref m8 :: .int q9 :: .int q10 :: .int q11 :: .int ((nI dg) - 1) :: .int q13 :: .int q14 :: .int q15 :: .int q16 :: .int q17 :: .int q18 :: .int q19 :: .int q20 :: .ref m21 :: .ref m22 :: .ref m23 :: .ref m24 :: .int (nI nb) :: .int (nI ln) :: .int (nI po) :: .int q28 :: .int (nI tk) :: .ref m30 :: .ref m31 :: .int (nI we) :: .int q33 :: [])), (m24, .inl (cB, 300, .inl d24))] sz) := by
  refine Met.ofW (cc := cX8_word) (maxL := 3) (ret := (some .long)) (by decide) rfl ?_
  intro p e s m args below meth c s₁ B hml hv
  obtain ⟨rfl, hsz, hz, hP, hD0, hB⟩ := hv
  have hx := B.exec
  have hb := B.bytes
  have hr := B.returns
  have hts := atoms_spec (ws := wsX8_word) B.pre
  have hown : s.vm.findClass RX8 = some m.cls := findClass_of_methodNamed B.named
  have hlocks := B.notSynchronized
  subst hsz
  have hD := hD0.self (sz := s.heap.size)
  have hA0 := va_A0 hD0 hz
  unfold QL
  generalize hAe : va_A [(mA, .inr (8, .int (nI nr) :: .int (nI np) :: .ref m2 :: .ref m3 :: .ref m4 :: .ref m5 :: .ref m6 :: .ref m7 :: .ref m8 :: .int q9 :: .int q10 :: .int q11 :: .int ((nI dg) - 1) :: .int q13 :: .int q14 :: .int q15 :: .int q16 :: .int q17 :: .int q18 :: .int q19 :: .int q20 :: .ref m21 :: .ref m22 :: .ref m23 :: .ref m24 :: .int (nI nb) :: .int (nI ln) :: .int (nI po) :: .int q28 :: .int (nI tk) :: .ref m30 :: .ref m31 :: .int (nI we) :: .int q33 :: [])), (m24, .inl (cB, 300, .inl d24))] s.heap.size = A at hD hA0 ⊢
  have hA : ∀ q : Nat, s.heap.size ≤ q → A q := fun q h => by rw [← hAe]; exact Or.inr h
  have hS : va_S A s.heap s.heap [] := va_S.rf
  have hiX8 : ∀ w ∈ wsX80, w ∈ wsX8_word := fun w h => List.mem_cons_of_mem _ (List.mem_append_right _ h)
  have hl := lv_entry ([.ref mA]) (n := 3) (Nat.le_of_ble_eq_true rfl)
  rw [lg_entry_eq]
  generalize (lg_sl ([.ref mA]) ++ List.replicate (3 - (lg_sl ([.ref mA])).length) Slot.unset).toArray = ls at hl ⊢
  have hl : lv_has ls 3 [(0, .ref mA)] := hl
  refine lv_aload_n hx hb dX8_word_0 rfl (lv_at hl 0 rfl) ?_
  refine k_v (w2 := [(mA, .inr (8, .int (nI nr) :: .int (nI np) :: .ref m2 :: .ref m3 :: .ref m4 :: .ref m5 :: .ref m6 :: .ref m7 :: .ref m8 :: .int q9 :: .int q10 :: .int q11 :: .int ((nI dg) - 1) :: .int q13 :: .int q14 :: .int q15 :: .int q16 :: .int q17 :: .int q18 :: .int q19 :: .int q20 :: .ref m21 :: .ref m22 :: .ref m23 :: .ref m24 :: .int (nI nb) :: .int (nI ln) :: .int (nI (sk (blM d24) ln po)) :: .int q28 :: .int (nI tk) :: .ref m30 :: .ref m31 :: .int (nI we) :: .int q33 :: [])), (m24, .inl (cB, 300, .inl d24))]) (va_runV (As := []) (rest := []) ⟨hx, hb, hml, hown, hts⟩ (c_X8_blanks l _ mA m2 m3 m4 m5 m6 m7 m8 m21 m22 m23 m24 m30 m31 q9 q10 q11 q13 q14 q15 q16 q17 q18 q19 q20 q28 q33 nr np nb ln po tk we dg d24 h20 h2r h2p h8 hpo hln) (cwV 0 hts gX8_word_X8_blanks rfl rfl rfl (by decide +kernel) ⟨Nat.le_of_ble_eq_true rfl, Nat.le_of_ble_eq_true rfl⟩) (pre_V (ci := 8) (q0 := 0) hB hz hA0 hP hD hS [0, 1] rfl rfl rfl rfl rfl) rfl rfl hl.1 rfl (lv_room (Nat.le_of_ble_eq_true rfl)) dX8_word_1 ⟨Nat.zero_le _, Nat.zero_le _⟩) hP hD hS hA [0, 1] [] [0, 1] rfl rfl rfl rfl rfl (fun H locs hP hD hS => ?_)
  obtain ⟨hBl, hBp⟩ := sk_le (b := blM d24) hpo
  refine lv_aload_n hx hb dX8_word_4 rfl (lv_at hl 0 rfl) ?_
  refine lv_aload_n hx hb dX8_word_5 rfl (lv_at hl 0 rfl) ?_
  refine va_get (D := D) (ci := 8) (v := .int (nI (sk (blM d24) ln po))) (C := RX8) (T := TX8) (N := 34) hx hb hts hiX8 hown hB.1 hP 0 rfl rfl 27 (by decide) (hts _ (List.mem_of_getElem? (i := 1) rfl)) (fun _ h9 => h9) rfl dX8_word_6 ?_
  refine pf (w2 := [(mA, .inr (8, .int (nI nr) :: .int (nI np) :: .ref m2 :: .ref m3 :: .ref m4 :: .ref m5 :: .ref m6 :: .ref m7 :: .ref m8 :: .int q9 :: .int q10 :: .int q11 :: .int ((nI dg) - 1) :: .int q13 :: .int q14 :: .int q15 :: .int q16 :: .int q17 :: .int q18 :: .int q19 :: .int q20 :: .ref m21 :: .ref m22 :: .ref m23 :: .ref m24 :: .int (nI nb) :: .int (nI ln) :: .int (nI (sk (blM d24) ln po)) :: .int q28 :: .int (nI tk) :: .ref m30 :: .ref m31 :: .int (nI (sk (blM d24) ln po)) :: .int q33 :: [])), (m24, .inl (cB, 300, .inl d24))]) (ci := 8) (C := RX8) (T := TX8) (N := 34) hx hb hts hiX8 tyX8 tyX8_ok nmX8 hown hB.1 hP hD hS 0 rfl rfl 32 (by decide) (hts _ (List.mem_of_getElem? (i := 2) rfl)) rfl rfl rfl rfl (Nat.le_of_ble_eq_true rfl) rfl dX8_word_9 (fun H locs hP hD hS => ?_)
  refine lv_lconst (v := 0) hx hb dX8_word_12 (by decide) ?_
  refine lv_lstore_n (lv' := [(1, .long 0), (0, .ref mA)]) hx hb dX8_word_13 rfl hl (by decide) rfl (fun ls hl => ?_)
  refine joinM (nL := 3) (A := A) (D := D) (pc2 := 100) (st2 := []) [(mA, .inr (8, .int (nI nr) :: .int (nI np) :: .ref m2 :: .ref m3 :: .ref m4 :: .ref m5 :: .ref m6 :: .ref m7 :: .ref m8 :: .int q9 :: .int q10 :: .int q11 :: .int ((nI dg) - 1) :: .int q13 :: .int q14 :: .int q15 :: .int q16 :: .int q17 :: .int q18 :: .int q19 :: .int q20 :: .ref m21 :: .ref m22 :: .ref m23 :: .ref m24 :: .int (nI nb) :: .int (nI ln) :: .int (nI (sk (blM d24) ln po)) :: .int q28 :: .int (nI tk) :: .ref m30 :: .ref m31 :: .int (nI (sk (leM d24) ln (sk (blM d24) ln po))) :: .int q33 :: [])), (m24, .inl (cB, 300, .inl d24))] [(1, .long (wvM d24 (sk (blM d24) ln po) (sk (leM d24) ln (sk (blM d24) ln po) - sk (blM d24) ln po))), (0, .ref mA)] ?_ ?_
  · intro H locs ls hP hD hS hl
    refine lv_aload_n hx hb dX8_word_100 rfl (lv_at hl 1 rfl) ?_
    refine va_get (D := D) (ci := 8) (v := .int (nI (sk (leM d24) ln (sk (blM d24) ln po)))) (C := RX8) (T := TX8) (N := 34) hx hb hts hiX8 hown hB.1 hP 0 rfl rfl 32 (by decide) (hts _ (List.mem_of_getElem? (i := 2) rfl)) (fun _ h9 => h9) rfl dX8_word_101 ?_
    refine lv_aload_n hx hb dX8_word_104 rfl (lv_at hl 1 rfl) ?_
    refine va_get (D := D) (ci := 8) (v := .int (nI (sk (blM d24) ln po))) (C := RX8) (T := TX8) (N := 34) hx hb hts hiX8 hown hB.1 hP 0 rfl rfl 27 (by decide) (hts _ (List.mem_of_getElem? (i := 1) rfl)) (fun _ h9 => h9) rfl dX8_word_105 ?_
    refine lv_isub hx hb dX8_word_108 ?_
    refine lv_bipush (v := 7) hx hb dX8_word_109 (by decide) ?_
    refine lv_icmp_le (tgt := 118) hx hb dX8_word_111 (by decide) (fun c_1 => ?_) (fun c_1 => ?_)
    · refine lv_lload_n hx hb dX8_word_118 rfl (lv_at hl 0 rfl) ?_
      have er : F_X8_word ln po d24 = wvM d24 (sk (blM d24) ln po) (sk (leM d24) ln (sk (blM d24) ln po) - sk (blM d24) ln po) := by rw [F_X8_word, if_pos c_1]
      have e0_27 : nI (F_X8_word_0_27 ln po d24) = nI (sk (blM d24) ln po) := by rw [F_X8_word_0_27, if_pos c_1]
      have e0_32 : nI (F_X8_word_0_32 ln po d24) = nI (sk (leM d24) ln (sk (blM d24) ln po)) := by rw [F_X8_word_0_32, if_pos c_1]
      exact W.lret hx hb hr (fun t ht hW => ⟨⟨_, (), rfl, er.symm, by rw [ht, e0_27, e0_32]; exact hP, by rw [e0_27, e0_32]; exact hD⟩, hS.F ht⟩) hS.2.2 dX8_word_119
    · refine lv_lconst (v := 0) hx hb dX8_word_114 (by decide) ?_
      refine lv_goto (tgt := 119) hx hb dX8_word_115 (by decide) ?_
      have er : F_X8_word ln po d24 = 0 := by rw [F_X8_word, if_neg c_1]
      have e0_27 : nI (F_X8_word_0_27 ln po d24) = nI (sk (blM d24) ln po) := by rw [F_X8_word_0_27, if_neg c_1]
      have e0_32 : nI (F_X8_word_0_32 ln po d24) = nI (sk (leM d24) ln (sk (blM d24) ln po)) := by rw [F_X8_word_0_32, if_neg c_1]
      exact W.lret hx hb hr (fun t ht hW => ⟨⟨_, (), rfl, er.symm, by rw [ht, e0_27, e0_32]; exact hP, by rw [e0_27, e0_32]; exact hD⟩, hS.F ht⟩) hS.2.2 dX8_word_119
  · intro J_100
    refine lpM (σ := Nat × Int64) (fun x => x.1 ≤ ln ∧ sk (blM d24) ln po ≤ x.1 ∧ sk (leM d24) ln (sk (blM d24) ln po) = sk (leM d24) ln x.1 ∧ x.2 = wvM d24 (sk (blM d24) ln po) (x.1 - sk (blM d24) ln po)) (fun x => ln - x.1) (fun x => [(mA, .inr (8, .int (nI nr) :: .int (nI np) :: .ref m2 :: .ref m3 :: .ref m4 :: .ref m5 :: .ref m6 :: .ref m7 :: .ref m8 :: .int q9 :: .int q10 :: .int q11 :: .int ((nI dg) - 1) :: .int q13 :: .int q14 :: .int q15 :: .int q16 :: .int q17 :: .int q18 :: .int q19 :: .int q20 :: .ref m21 :: .ref m22 :: .ref m23 :: .ref m24 :: .int (nI nb) :: .int (nI ln) :: .int (nI (sk (blM d24) ln po)) :: .int q28 :: .int (nI tk) :: .ref m30 :: .ref m31 :: .int (nI x.1) :: .int q33 :: [])), (m24, .inl (cB, 300, .inl d24))]) (fun x => [(1, .long x.2), (0, .ref mA)]) (sk (blM d24) ln po, 0) ⟨hBl, Nat.le_refl _, rfl, wv_0.symm⟩ hP hD hS (lv_sub hl [0, 1] rfl) ?_
    intro x ⟨hq1, hq2, hq3, hq4⟩ ih_x H locs ls hP hD hS hl
    have hP : va_P D vwCl [(mA, .inr (8, .int (nI nr) :: .int (nI np) :: .ref m2 :: .ref m3 :: .ref m4 :: .ref m5 :: .ref m6 :: .ref m7 :: .ref m8 :: .int q9 :: .int q10 :: .int q11 :: .int ((nI dg) - 1) :: .int q13 :: .int q14 :: .int q15 :: .int q16 :: .int q17 :: .int q18 :: .int q19 :: .int q20 :: .ref m21 :: .ref m22 :: .ref m23 :: .ref m24 :: .int (nI nb) :: .int (nI ln) :: .int (nI (sk (blM d24) ln po)) :: .int q28 :: .int (nI tk) :: .ref m30 :: .ref m31 :: .int (nI x.1) :: .int q33 :: [])), (m24, .inl (cB, 300, .inl d24))] H := hP
    have hD : va_D A [(mA, .inr (8, .int (nI nr) :: .int (nI np) :: .ref m2 :: .ref m3 :: .ref m4 :: .ref m5 :: .ref m6 :: .ref m7 :: .ref m8 :: .int q9 :: .int q10 :: .int q11 :: .int ((nI dg) - 1) :: .int q13 :: .int q14 :: .int q15 :: .int q16 :: .int q17 :: .int q18 :: .int q19 :: .int q20 :: .ref m21 :: .ref m22 :: .ref m23 :: .ref m24 :: .int (nI nb) :: .int (nI ln) :: .int (nI (sk (blM d24) ln po)) :: .int q28 :: .int (nI tk) :: .ref m30 :: .ref m31 :: .int (nI x.1) :: .int q33 :: [])), (m24, .inl (cB, 300, .inl d24))] := hD
    have hl : lv_has ls 3 [(1, .long x.2), (0, .ref mA)] := hl
    refine lv_aload_n hx hb dX8_word_14 rfl (lv_at hl 1 rfl) ?_
    refine va_get (D := D) (ci := 8) (v := .int (nI x.1)) (C := RX8) (T := TX8) (N := 34) hx hb hts hiX8 hown hB.1 hP 0 rfl rfl 32 (by decide) (hts _ (List.mem_of_getElem? (i := 2) rfl)) (fun _ h9 => h9) rfl dX8_word_15 ?_
    refine lv_aload_n hx hb dX8_word_18 rfl (lv_at hl 1 rfl) ?_
    refine va_get (D := D) (ci := 8) (v := .int (nI ln)) (C := RX8) (T := TX8) (N := 34) hx hb hts hiX8 hown hB.1 hP 0 rfl rfl 26 (by decide) (hts _ (List.mem_of_getElem? (i := 3) rfl)) (fun _ h9 => h9) rfl dX8_word_19 ?_
    refine lv_icmp_ge (tgt := 100) hx hb dX8_word_22 (by decide) (fun c_2 => ?_) (fun c_2 => ?_)
    · have e100 : sk (leM d24) ln (sk (blM d24) ln po) = x.1 := hq3.trans (sk_end (by have := le_ex (by omega) hq1 c_2; omega))
      rw [hq4, ← e100] at hl
      rw [← e100] at hP hD
      exact J_100 _ _ _ hP hD hS (lv_sub hl [0, 1] rfl)
    · have hlt := le_go (by omega) hq1 c_2
      refine lv_aload_n hx hb dX8_word_25 rfl (lv_at hl 1 rfl) ?_
      refine va_get (D := D) (ci := 8) (v := .ref m24) (C := RX8) (T := TX8) (N := 34) hx hb hts hiX8 hown hB.1 hP 0 rfl rfl 24 (by decide) (hts _ (List.mem_of_getElem? (i := 4) rfl)) (fun _ h9 => h9) rfl dX8_word_26 ?_
      refine lv_aload_n hx hb dX8_word_29 rfl (lv_at hl 1 rfl) ?_
      refine va_get (D := D) (ci := 8) (v := .int (nI x.1)) (C := RX8) (T := TX8) (N := 34) hx hb hts hiX8 hown hB.1 hP 0 rfl rfl 32 (by decide) (hts _ (List.mem_of_getElem? (i := 2) rfl)) (fun _ h9 => h9) rfl dX8_word_30 ?_
      refine ra_b hx hb hB.1 hP 1 rfl x.1 rfl (by omega) (by decide) dX8_word_33 ?_
      refine lv_bipush (v := 97) hx hb dX8_word_34 (by decide) ?_
      refine lv_icmp_lt (tgt := 100) hx hb dX8_word_36 (by decide) (fun c_3 => ?_) (fun c_3 => ?_)
      · have e100 : sk (leM d24) ln (sk (blM d24) ln po) = x.1 := hq3.trans (sk_stop (decide_eq_false (fun q => q.1 c_3)))
        rw [hq4, ← e100] at hl
        rw [← e100] at hP hD
        exact J_100 _ _ _ hP hD hS (lv_sub hl [0, 1] rfl)
      · have h97 := c_3
        refine lv_aload_n hx hb dX8_word_39 rfl (lv_at hl 1 rfl) ?_
        refine va_get (D := D) (ci := 8) (v := .ref m24) (C := RX8) (T := TX8) (N := 34) hx hb hts hiX8 hown hB.1 hP 0 rfl rfl 24 (by decide) (hts _ (List.mem_of_getElem? (i := 4) rfl)) (fun _ h9 => h9) rfl dX8_word_40 ?_
        refine lv_aload_n hx hb dX8_word_43 rfl (lv_at hl 1 rfl) ?_
        refine va_get (D := D) (ci := 8) (v := .int (nI x.1)) (C := RX8) (T := TX8) (N := 34) hx hb hts hiX8 hown hB.1 hP 0 rfl rfl 32 (by decide) (hts _ (List.mem_of_getElem? (i := 2) rfl)) (fun _ h9 => h9) rfl dX8_word_44 ?_
        refine ra_b hx hb hB.1 hP 1 rfl x.1 rfl (by omega) (by decide) dX8_word_47 ?_
        refine lv_bipush (v := 122) hx hb dX8_word_48 (by decide) ?_
        refine lv_icmp_gt (tgt := 100) hx hb dX8_word_50 (by decide) (fun c_4 => ?_) (fun c_4 => ?_)
        · have e100 : sk (leM d24) ln (sk (blM d24) ln po) = x.1 := hq3.trans (sk_stop (decide_eq_false (fun q => q.2 c_4)))
          rw [hq4, ← e100] at hl
          rw [← e100] at hP hD
          exact J_100 _ _ _ hP hD hS (lv_sub hl [0, 1] rfl)
        · have hle : leM d24 x.1 = true := decide_eq_true ⟨h97, c_4⟩
          refine lv_aload_n hx hb dX8_word_53 rfl (lv_at hl 1 rfl) ?_
          refine va_get (D := D) (ci := 8) (v := .int (nI x.1)) (C := RX8) (T := TX8) (N := 34) hx hb hts hiX8 hown hB.1 hP 0 rfl rfl 32 (by decide) (hts _ (List.mem_of_getElem? (i := 2) rfl)) (fun _ h9 => h9) rfl dX8_word_54 ?_
          refine lv_aload_n hx hb dX8_word_57 rfl (lv_at hl 1 rfl) ?_
          refine va_get (D := D) (ci := 8) (v := .int (nI (sk (blM d24) ln po))) (C := RX8) (T := TX8) (N := 34) hx hb hts hiX8 hown hB.1 hP 0 rfl rfl 27 (by decide) (hts _ (List.mem_of_getElem? (i := 1) rfl)) (fun _ h9 => h9) rfl dX8_word_58 ?_
          refine lv_isub hx hb dX8_word_61 ?_
          refine lv_bipush (v := 7) hx hb dX8_word_62 (by decide) ?_
          refine lv_icmp_ge (tgt := 85) hx hb dX8_word_64 (by decide) (fun c_5 => ?_) (fun c_5 => ?_)
          · have hnw : (0 : Int64) = wvM d24 (sk (blM d24) ln po) (x.1 + 1 - sk (blM d24) ln po) := (wv_z (by have := (le7 hq2 (by omega)).mp c_5; omega)).symm
            refine lv_lconst (v := 0) hx hb dX8_word_85 (by decide) ?_
            refine lv_lstore_n (lv' := [(1, .long 0), (0, .ref mA)]) hx hb dX8_word_86 rfl hl (by decide) rfl (fun ls hl => ?_)
            refine lv_aload_n hx hb dX8_word_87 rfl (lv_at hl 1 rfl) ?_
            refine lv_dup hx hb dX8_word_88 rfl ?_
            refine va_get (D := D) (ci := 8) (v := .int (nI x.1)) (C := RX8) (T := TX8) (N := 34) hx hb hts hiX8 hown hB.1 hP 0 rfl rfl 32 (by decide) (hts _ (List.mem_of_getElem? (i := 2) rfl)) (fun _ h9 => h9) rfl dX8_word_89 ?_
            refine lv_iconst (v := 1) hx hb dX8_word_92 (by decide) ?_
            refine lv_iadd hx hb dX8_word_93 ?_
            rw [show (nI x.1) + 1 = nI (x.1 + 1) from (nx_add rfl rfl)]
            refine pf (w2 := [(mA, .inr (8, .int (nI nr) :: .int (nI np) :: .ref m2 :: .ref m3 :: .ref m4 :: .ref m5 :: .ref m6 :: .ref m7 :: .ref m8 :: .int q9 :: .int q10 :: .int q11 :: .int ((nI dg) - 1) :: .int q13 :: .int q14 :: .int q15 :: .int q16 :: .int q17 :: .int q18 :: .int q19 :: .int q20 :: .ref m21 :: .ref m22 :: .ref m23 :: .ref m24 :: .int (nI nb) :: .int (nI ln) :: .int (nI (sk (blM d24) ln po)) :: .int q28 :: .int (nI tk) :: .ref m30 :: .ref m31 :: .int (nI (x.1 + 1)) :: .int q33 :: [])), (m24, .inl (cB, 300, .inl d24))]) (ci := 8) (C := RX8) (T := TX8) (N := 34) hx hb hts hiX8 tyX8 tyX8_ok nmX8 hown hB.1 hP hD hS 0 rfl rfl 32 (by decide) (hts _ (List.mem_of_getElem? (i := 2) rfl)) rfl rfl rfl rfl (Nat.le_of_ble_eq_true rfl) rfl dX8_word_94 (fun H locs hP hD hS => ?_)
            refine lv_goto (tgt := 14) hx hb dX8_word_97 (by decide) ?_
            exact ih_x (x.1 + 1, 0) ⟨hlt, by show _ ≤ x.1 + 1; omega, hq3.trans (sk_step hlt hle), hnw⟩ (show ln - (x.1 + 1) < ln - x.1 by omega) _ _ _ hP hD hS (lv_sub hl [0, 1] rfl)
          · have hnw : x.2 <<< (Int32.toInt64 8 &&& 63) ||| (d24 x.1).toInt64 = wvM d24 (sk (blM d24) ln po) (x.1 + 1 - sk (blM d24) ln po) := by rw [hq4]; exact (wv_s hq2 (by have := (not_congr (le7 hq2 (by omega))).mp c_5; omega)).symm
            refine lv_lload_n hx hb dX8_word_67 rfl (lv_at hl 0 rfl) ?_
            refine lv_bipush (v := 8) hx hb dX8_word_68 (by decide) ?_
            refine lv_lshl hx hb dX8_word_70 rfl ?_
            refine lv_aload_n hx hb dX8_word_71 rfl (lv_at hl 1 rfl) ?_
            refine va_get (D := D) (ci := 8) (v := .ref m24) (C := RX8) (T := TX8) (N := 34) hx hb hts hiX8 hown hB.1 hP 0 rfl rfl 24 (by decide) (hts _ (List.mem_of_getElem? (i := 4) rfl)) (fun _ h9 => h9) rfl dX8_word_72 ?_
            refine lv_aload_n hx hb dX8_word_75 rfl (lv_at hl 1 rfl) ?_
            refine va_get (D := D) (ci := 8) (v := .int (nI x.1)) (C := RX8) (T := TX8) (N := 34) hx hb hts hiX8 hown hB.1 hP 0 rfl rfl 32 (by decide) (hts _ (List.mem_of_getElem? (i := 2) rfl)) (fun _ h9 => h9) rfl dX8_word_76 ?_
            refine ra_b hx hb hB.1 hP 1 rfl x.1 rfl (by omega) (by decide) dX8_word_79 ?_
            refine lv_i2l hx hb dX8_word_80 rfl ?_
            refine lv_lor hx hb dX8_word_81 ?_
            refine lv_goto (tgt := 86) hx hb dX8_word_82 (by decide) ?_
            refine lv_lstore_n (lv' := [(1, .long ((x.2 <<< (Int32.toInt64 8 &&& 63)) ||| ((d24 x.1).toInt64))), (0, .ref mA)]) hx hb dX8_word_86 rfl hl (by decide) rfl (fun ls hl => ?_)
            refine lv_aload_n hx hb dX8_word_87 rfl (lv_at hl 1 rfl) ?_
            refine lv_dup hx hb dX8_word_88 rfl ?_
            refine va_get (D := D) (ci := 8) (v := .int (nI x.1)) (C := RX8) (T := TX8) (N := 34) hx hb hts hiX8 hown hB.1 hP 0 rfl rfl 32 (by decide) (hts _ (List.mem_of_getElem? (i := 2) rfl)) (fun _ h9 => h9) rfl dX8_word_89 ?_
            refine lv_iconst (v := 1) hx hb dX8_word_92 (by decide) ?_
            refine lv_iadd hx hb dX8_word_93 ?_
            rw [show (nI x.1) + 1 = nI (x.1 + 1) from (nx_add rfl rfl)]
            refine pf (w2 := [(mA, .inr (8, .int (nI nr) :: .int (nI np) :: .ref m2 :: .ref m3 :: .ref m4 :: .ref m5 :: .ref m6 :: .ref m7 :: .ref m8 :: .int q9 :: .int q10 :: .int q11 :: .int ((nI dg) - 1) :: .int q13 :: .int q14 :: .int q15 :: .int q16 :: .int q17 :: .int q18 :: .int q19 :: .int q20 :: .ref m21 :: .ref m22 :: .ref m23 :: .ref m24 :: .int (nI nb) :: .int (nI ln) :: .int (nI (sk (blM d24) ln po)) :: .int q28 :: .int (nI tk) :: .ref m30 :: .ref m31 :: .int (nI (x.1 + 1)) :: .int q33 :: [])), (m24, .inl (cB, 300, .inl d24))]) (ci := 8) (C := RX8) (T := TX8) (N := 34) hx hb hts hiX8 tyX8 tyX8_ok nmX8 hown hB.1 hP hD hS 0 rfl rfl 32 (by decide) (hts _ (List.mem_of_getElem? (i := 2) rfl)) rfl rfl rfl rfl (Nat.le_of_ble_eq_true rfl) rfl dX8_word_94 (fun H locs hP hD hS => ?_)
            refine lv_goto (tgt := 14) hx hb dX8_word_97 (by decide) ?_
            exact ih_x (x.1 + 1, (x.2 <<< (Int32.toInt64 8 &&& 63)) ||| ((d24 x.1).toInt64)) ⟨hlt, by show _ ≤ x.1 + 1; omega, hq3.trans (sk_step hlt hle), hnw⟩ (show ln - (x.1 + 1) < ln - x.1 by omega) _ _ _ hP hD hS (lv_sub hl [0, 1] rfl)

def F_X8_takes (ln : Nat) (po : Nat) (d24 : Nat → Int32) (w1 : Int64) : Int32 :=
  if (F_X8_word ln po d24) = w1 then 1 else
  0
def F_X8_takes_0_27 (ln : Nat) (po : Nat) (d24 : Nat → Int32) (w1 : Int64) : Nat :=
  if (F_X8_word ln po d24) = w1 then F_X8_word_0_32 ln po d24 else
  F_X8_word_0_27 ln po d24
set_option maxHeartbeats 4000000 in
set_option maxRecDepth 100000 in
theorem c_X8_takes (l : Launch) {D : va_G} {cI cZ cB : ClassId} {au : Nat} {kA kV : Nat → Nat} {z0 : Nat} (sz : Nat) (mA : Nat) (m2 : Nat) (m3 : Nat) (m4 : Nat) (m5 : Nat) (m6 : Nat) (m7 : Nat) (m8 : Nat) (m21 : Nat) (m22 : Nat) (m23 : Nat) (m24 : Nat) (m30 : Nat) (m31 : Nat) (q9 : Int32) (q10 : Int32) (q11 : Int32) (q13 : Int32) (q14 : Int32) (q15 : Int32) (q16 : Int32) (q17 : Int32) (q18 : Int32) (q19 : Int32) (q20 : Int32) (q28 : Int32) (q33 : Int32) (nr : Nat) (np : Nat) (nb : Nat) (ln : Nat) (po : Nat) (tk : Nat) (we : Nat) (dg : Nat) (d24 : Nat → Int32) (w1 : Int64) (h20 : nr ≤ 20) (h2r : 2 ≤ nr) (h2p : 2 ≤ np) (h8 : np ≤ 8) (hpo : po ≤ ln) (hln : ln ≤ 300) : Met l yX8_takes wsX8_takes ({ frames := 2, cells := 0, slots := 0, locals := 42 }) (va_Pc [.ref mA, .long w1] (PRE D cI cZ cB au kA kV z0 sz [(mA, .inr (8, .int (nI nr) :: .int (nI np) :: .ref m2 :: .ref m3 :: .ref m4 :: .ref m5 :: .ref m6 :: .ref m7 :: .ref m8 :: .int q9 :: .int q10 :: .int q11 :: .int ((nI dg) - 1) :: .int q13 :: .int q14 :: .int q15 :: .int q16 :: .int q17 :: .int q18 :: .int q19 :: .int q20 :: .ref m21 :: .ref m22 :: .ref m23 :: .ref m24 :: .int (nI nb) :: .int (nI ln) :: .int (nI po) :: .int q28 :: .int (nI tk) :: .ref m30 :: .ref m31 :: .int (nI we) :: .int q33 :: [])), (m24, .inl (cB, 300, .inl d24))])) (QI D [(mA, .inr (8, .int (nI nr) :: .int (nI np) :: .ref m2 :: .ref m3 :: .ref m4 :: .ref m5 :: .ref m6 :: .ref m7 :: .ref m8 :: .int q9 :: .int q10 :: .int q11 :: .int ((nI dg) - 1) :: .int q13 :: .int q14 :: .int q15 :: .int q16 :: .int q17 :: .int q18 :: .int q19 :: .int q20 :: .ref m21 :: .ref m22 :: .ref m23 :: .ref m24 :: .int (nI nb) :: .int (nI ln) :: .int (nI po) :: .int q28 :: .int (nI tk) :: .ref m30 :: .ref m31 :: .int (nI we) :: .int q33 :: [])), (m24, .inl (cB, 300, .inl d24))] sz (F_X8_takes ln po d24 w1) [(mA, .inr (8, .int (nI nr) :: .int (nI np) :: .ref m2 :: .ref m3 :: .ref m4 :: .ref m5 :: .ref m6 :: .ref m7 :: .ref m8 :: .int q9 :: .int q10 :: .int q11 :: .int ((nI dg) - 1) :: .int q13 :: .int q14 :: .int q15 :: .int q16 :: .int q17 :: .int q18 :: .int q19 :: .int q20 :: .ref m21 :: .ref m22 :: .ref m23 :: .ref m24 :: .int (nI nb) :: .int (nI ln) :: .int (nI (F_X8_takes_0_27 ln po d24 w1)) :: .int q28 :: .int (nI tk) :: .ref m30 :: .ref m31 :: .int (nI (F_X8_word_0_32 ln po d24)) :: .int q33 :: [])), (m24, .inl (cB, 300, .inl d24))]) 0 0 (va_A [(mA, .inr (8, .int (nI nr) :: .int (nI np) :: .ref m2 :: .ref m3 :: .ref m4 :: .ref m5 :: .ref m6 :: .ref m7 :: .ref m8 :: .int q9 :: .int q10 :: .int q11 :: .int ((nI dg) - 1) :: .int q13 :: .int q14 :: .int q15 :: .int q16 :: .int q17 :: .int q18 :: .int q19 :: .int q20 :: .ref m21 :: .ref m22 :: .ref m23 :: .ref m24 :: .int (nI nb) :: .int (nI ln) :: .int (nI po) :: .int q28 :: .int (nI tk) :: .ref m30 :: .ref m31 :: .int (nI we) :: .int q33 :: [])), (m24, .inl (cB, 300, .inl d24))] sz) := by
  refine Met.ofW (cc := cX8_takes) (maxL := 3) (ret := (some .boolean)) (by decide) rfl ?_
  intro p e s m args below meth c s₁ B hml hv
  obtain ⟨rfl, hsz, hz, hP, hD0, hB⟩ := hv
  have hx := B.exec
  have hb := B.bytes
  have hr := B.returns
  have hts := atoms_spec (ws := wsX8_takes) B.pre
  have hown : s.vm.findClass RX8 = some m.cls := findClass_of_methodNamed B.named
  have hlocks := B.notSynchronized
  subst hsz
  have hD := hD0.self (sz := s.heap.size)
  have hA0 := va_A0 hD0 hz
  unfold QI
  generalize hAe : va_A [(mA, .inr (8, .int (nI nr) :: .int (nI np) :: .ref m2 :: .ref m3 :: .ref m4 :: .ref m5 :: .ref m6 :: .ref m7 :: .ref m8 :: .int q9 :: .int q10 :: .int q11 :: .int ((nI dg) - 1) :: .int q13 :: .int q14 :: .int q15 :: .int q16 :: .int q17 :: .int q18 :: .int q19 :: .int q20 :: .ref m21 :: .ref m22 :: .ref m23 :: .ref m24 :: .int (nI nb) :: .int (nI ln) :: .int (nI po) :: .int q28 :: .int (nI tk) :: .ref m30 :: .ref m31 :: .int (nI we) :: .int q33 :: [])), (m24, .inl (cB, 300, .inl d24))] s.heap.size = A at hD hA0 ⊢
  have hA : ∀ q : Nat, s.heap.size ≤ q → A q := fun q h => by rw [← hAe]; exact Or.inr h
  have hS : va_S A s.heap s.heap [] := va_S.rf
  have hiX8 : ∀ w ∈ wsX80, w ∈ wsX8_takes := fun w h => List.mem_cons_of_mem _ (List.mem_append_right _ h)
  have hl := lv_entry ([.ref mA, .long w1]) (n := 3) (Nat.le_of_ble_eq_true rfl)
  rw [lg_entry_eq]
  generalize (lg_sl ([.ref mA, .long w1]) ++ List.replicate (3 - (lg_sl ([.ref mA, .long w1])).length) Slot.unset).toArray = ls at hl ⊢
  have hl : lv_has ls 3 [(0, .ref mA), (1, .long w1)] := hl
  refine lv_aload_n hx hb dX8_takes_0 rfl (lv_at hl 0 rfl) ?_
  refine k_l (w2 := [(mA, .inr (8, .int (nI nr) :: .int (nI np) :: .ref m2 :: .ref m3 :: .ref m4 :: .ref m5 :: .ref m6 :: .ref m7 :: .ref m8 :: .int q9 :: .int q10 :: .int q11 :: .int ((nI dg) - 1) :: .int q13 :: .int q14 :: .int q15 :: .int q16 :: .int q17 :: .int q18 :: .int q19 :: .int q20 :: .ref m21 :: .ref m22 :: .ref m23 :: .ref m24 :: .int (nI nb) :: .int (nI ln) :: .int (nI (F_X8_word_0_27 ln po d24)) :: .int q28 :: .int (nI tk) :: .ref m30 :: .ref m31 :: .int (nI (F_X8_word_0_32 ln po d24)) :: .int q33 :: [])), (m24, .inl (cB, 300, .inl d24))]) (va_runV (As := []) (rest := []) ⟨hx, hb, hml, hown, hts⟩ (c_X8_word l _ mA m2 m3 m4 m5 m6 m7 m8 m21 m22 m23 m24 m30 m31 q9 q10 q11 q13 q14 q15 q16 q17 q18 q19 q20 q28 q33 nr np nb ln po tk we dg d24 h20 h2r h2p h8 hpo hln) (cwV 0 hts gX8_takes_X8_word rfl rfl rfl (by decide +kernel) ⟨Nat.le_of_ble_eq_true rfl, Nat.le_of_ble_eq_true rfl⟩) (pre_V (ci := 8) (q0 := 0) hB hz hA0 hP hD hS [0, 1] rfl rfl rfl rfl rfl) rfl rfl hl.1 rfl (lv_room (Nat.le_of_ble_eq_true rfl)) dX8_takes_1 ⟨Nat.zero_le _, Nat.zero_le _⟩) hP hD hS hA [0, 1] [] [0, 1] rfl rfl rfl rfl rfl (fun H locs hP hD hS => ?_)
  refine lv_lload_n hx hb dX8_takes_4 rfl (lv_at hl 1 rfl) ?_
  refine lcmp_eq (tgt := 11) hx hb dX8_takes_5 dX8_takes_6 (by decide) (fun c_1 => ?_) (fun c_1 => ?_)
  · refine lv_aload_n hx hb dX8_takes_11 rfl (lv_at hl 0 rfl) ?_
    refine lv_aload_n hx hb dX8_takes_12 rfl (lv_at hl 0 rfl) ?_
    refine va_get (D := D) (ci := 8) (v := .int (nI (F_X8_word_0_32 ln po d24))) (C := RX8) (T := TX8) (N := 34) hx hb hts hiX8 hown hB.1 hP 0 rfl rfl 32 (by decide) (hts _ (List.mem_of_getElem? (i := 1) rfl)) (fun _ h9 => h9) rfl dX8_takes_13 ?_
    refine pf (w2 := [(mA, .inr (8, .int (nI nr) :: .int (nI np) :: .ref m2 :: .ref m3 :: .ref m4 :: .ref m5 :: .ref m6 :: .ref m7 :: .ref m8 :: .int q9 :: .int q10 :: .int q11 :: .int ((nI dg) - 1) :: .int q13 :: .int q14 :: .int q15 :: .int q16 :: .int q17 :: .int q18 :: .int q19 :: .int q20 :: .ref m21 :: .ref m22 :: .ref m23 :: .ref m24 :: .int (nI nb) :: .int (nI ln) :: .int (nI (F_X8_word_0_32 ln po d24)) :: .int q28 :: .int (nI tk) :: .ref m30 :: .ref m31 :: .int (nI (F_X8_word_0_32 ln po d24)) :: .int q33 :: [])), (m24, .inl (cB, 300, .inl d24))]) (ci := 8) (C := RX8) (T := TX8) (N := 34) hx hb hts hiX8 tyX8 tyX8_ok nmX8 hown hB.1 hP hD hS 0 rfl rfl 27 (by decide) (hts _ (List.mem_of_getElem? (i := 2) rfl)) rfl rfl rfl rfl (Nat.le_of_ble_eq_true rfl) rfl dX8_takes_16 (fun H locs hP hD hS => ?_)
    refine lv_iconst (v := 1) hx hb dX8_takes_19 (by decide) ?_
    have er : F_X8_takes ln po d24 w1 = 1 := by rw [F_X8_takes, if_pos c_1]
    have e0_27 : nI (F_X8_takes_0_27 ln po d24 w1) = nI (F_X8_word_0_32 ln po d24) := by rw [F_X8_takes_0_27, if_pos c_1]
    exact W.zret hx hb hr rfl (fun t ht hW => ⟨⟨_, (), rfl, er.symm, by rw [ht, e0_27]; exact hP, by rw [e0_27]; exact hD⟩, hS.F ht⟩) hS.2.2 dX8_takes_20
  · refine lv_iconst (v := 0) hx hb dX8_takes_9 (by decide) ?_
    have er : F_X8_takes ln po d24 w1 = 0 := by rw [F_X8_takes, if_neg c_1]
    have e0_27 : nI (F_X8_takes_0_27 ln po d24 w1) = nI (F_X8_word_0_27 ln po d24) := by rw [F_X8_takes_0_27, if_neg c_1]
    exact W.zret hx hb hr rfl (fun t ht hW => ⟨⟨_, (), rfl, er.symm, by rw [ht, e0_27]; exact hP, by rw [e0_27]; exact hD⟩, hS.F ht⟩) hS.2.2 dX8_takes_10

def F_X8_takesNumber (ln : Nat) (po : Nat) (d24 : Nat → Int32) : Int32 :=
  if (nI (sk (diM d24) ln (sk (blM d24) ln po))) = (nI (sk (blM d24) ln po)) then 0 else
  if ((nI (sk (diM d24) ln (sk (blM d24) ln po))) - (nI (sk (blM d24) ln po))) ≤ 4 then 1 else
  0
def F_X8_takesNumber_0_27 (ln : Nat) (po : Nat) (d24 : Nat → Int32) : Nat :=
  if (nI (sk (diM d24) ln (sk (blM d24) ln po))) = (nI (sk (blM d24) ln po)) then (sk (blM d24) ln po) else
  if ((nI (sk (diM d24) ln (sk (blM d24) ln po))) - (nI (sk (blM d24) ln po))) ≤ 4 then sk (diM d24) ln (sk (blM d24) ln po) else
  (sk (blM d24) ln po)
set_option maxHeartbeats 4000000 in
set_option maxRecDepth 100000 in
theorem c_X8_takesNumber (l : Launch) {D : va_G} {cI cZ cB : ClassId} {au : Nat} {kA kV : Nat → Nat} {z0 : Nat} (sz : Nat) (mA : Nat) (m2 : Nat) (m3 : Nat) (m4 : Nat) (m5 : Nat) (m6 : Nat) (m7 : Nat) (m8 : Nat) (m21 : Nat) (m22 : Nat) (m23 : Nat) (m24 : Nat) (m30 : Nat) (m31 : Nat) (q9 : Int32) (q10 : Int32) (q11 : Int32) (q13 : Int32) (q14 : Int32) (q15 : Int32) (q16 : Int32) (q17 : Int32) (q18 : Int32) (q19 : Int32) (q20 : Int32) (q28 : Int32) (q33 : Int32) (nr : Nat) (np : Nat) (nb : Nat) (ln : Nat) (po : Nat) (tk : Nat) (we : Nat) (dg : Nat) (d24 : Nat → Int32) (h20 : nr ≤ 20) (h2r : 2 ≤ nr) (h2p : 2 ≤ np) (h8 : np ≤ 8) (hpo : po ≤ ln) (hln : ln ≤ 300) : Met l yX8_takesNumber wsX8_takesNumber ({ frames := 1, cells := 0, slots := 0, locals := 20 }) (va_Pc [.ref mA] (PRE D cI cZ cB au kA kV z0 sz [(mA, .inr (8, .int (nI nr) :: .int (nI np) :: .ref m2 :: .ref m3 :: .ref m4 :: .ref m5 :: .ref m6 :: .ref m7 :: .ref m8 :: .int q9 :: .int q10 :: .int q11 :: .int ((nI dg) - 1) :: .int q13 :: .int q14 :: .int q15 :: .int q16 :: .int q17 :: .int q18 :: .int q19 :: .int q20 :: .ref m21 :: .ref m22 :: .ref m23 :: .ref m24 :: .int (nI nb) :: .int (nI ln) :: .int (nI po) :: .int q28 :: .int (nI tk) :: .ref m30 :: .ref m31 :: .int (nI we) :: .int q33 :: [])), (m24, .inl (cB, 300, .inl d24))])) (QI D [(mA, .inr (8, .int (nI nr) :: .int (nI np) :: .ref m2 :: .ref m3 :: .ref m4 :: .ref m5 :: .ref m6 :: .ref m7 :: .ref m8 :: .int q9 :: .int q10 :: .int q11 :: .int ((nI dg) - 1) :: .int q13 :: .int q14 :: .int q15 :: .int q16 :: .int q17 :: .int q18 :: .int q19 :: .int q20 :: .ref m21 :: .ref m22 :: .ref m23 :: .ref m24 :: .int (nI nb) :: .int (nI ln) :: .int (nI po) :: .int q28 :: .int (nI tk) :: .ref m30 :: .ref m31 :: .int (nI we) :: .int q33 :: [])), (m24, .inl (cB, 300, .inl d24))] sz (F_X8_takesNumber ln po d24) [(mA, .inr (8, .int (nI nr) :: .int (nI np) :: .ref m2 :: .ref m3 :: .ref m4 :: .ref m5 :: .ref m6 :: .ref m7 :: .ref m8 :: .int q9 :: .int q10 :: .int q11 :: .int ((nI dg) - 1) :: .int q13 :: .int q14 :: .int q15 :: .int q16 :: .int q17 :: .int q18 :: .int q19 :: .int q20 :: .ref m21 :: .ref m22 :: .ref m23 :: .ref m24 :: .int (nI nb) :: .int (nI ln) :: .int (nI (F_X8_takesNumber_0_27 ln po d24)) :: .int q28 :: .int (nI tk) :: .ref m30 :: .ref m31 :: .int (nI we) :: .int (nuM d24 (sk (blM d24) ln po) (sk (diM d24) ln (sk (blM d24) ln po) - sk (blM d24) ln po)) :: [])), (m24, .inl (cB, 300, .inl d24))]) 0 0 (va_A [(mA, .inr (8, .int (nI nr) :: .int (nI np) :: .ref m2 :: .ref m3 :: .ref m4 :: .ref m5 :: .ref m6 :: .ref m7 :: .ref m8 :: .int q9 :: .int q10 :: .int q11 :: .int ((nI dg) - 1) :: .int q13 :: .int q14 :: .int q15 :: .int q16 :: .int q17 :: .int q18 :: .int q19 :: .int q20 :: .ref m21 :: .ref m22 :: .ref m23 :: .ref m24 :: .int (nI nb) :: .int (nI ln) :: .int (nI po) :: .int q28 :: .int (nI tk) :: .ref m30 :: .ref m31 :: .int (nI we) :: .int q33 :: [])), (m24, .inl (cB, 300, .inl d24))] sz) := by
  refine Met.ofW (cc := cX8_takesNumber) (maxL := 2) (ret := (some .boolean)) (by decide) rfl ?_
  intro p e s m args below meth c s₁ B hml hv
  obtain ⟨rfl, hsz, hz, hP, hD0, hB⟩ := hv
  have hx := B.exec
  have hb := B.bytes
  have hr := B.returns
  have hts := atoms_spec (ws := wsX8_takesNumber) B.pre
  have hown : s.vm.findClass RX8 = some m.cls := findClass_of_methodNamed B.named
  have hlocks := B.notSynchronized
  subst hsz
  have hD := hD0.self (sz := s.heap.size)
  have hA0 := va_A0 hD0 hz
  unfold QI
  generalize hAe : va_A [(mA, .inr (8, .int (nI nr) :: .int (nI np) :: .ref m2 :: .ref m3 :: .ref m4 :: .ref m5 :: .ref m6 :: .ref m7 :: .ref m8 :: .int q9 :: .int q10 :: .int q11 :: .int ((nI dg) - 1) :: .int q13 :: .int q14 :: .int q15 :: .int q16 :: .int q17 :: .int q18 :: .int q19 :: .int q20 :: .ref m21 :: .ref m22 :: .ref m23 :: .ref m24 :: .int (nI nb) :: .int (nI ln) :: .int (nI po) :: .int q28 :: .int (nI tk) :: .ref m30 :: .ref m31 :: .int (nI we) :: .int q33 :: [])), (m24, .inl (cB, 300, .inl d24))] s.heap.size = A at hD hA0 ⊢
  have hA : ∀ q : Nat, s.heap.size ≤ q → A q := fun q h => by rw [← hAe]; exact Or.inr h
  have hS : va_S A s.heap s.heap [] := va_S.rf
  have hiX8 : ∀ w ∈ wsX80, w ∈ wsX8_takesNumber := fun w h => List.mem_cons_of_mem _ (List.mem_append_right _ h)
  have hl := lv_entry ([.ref mA]) (n := 2) (Nat.le_of_ble_eq_true rfl)
  rw [lg_entry_eq]
  generalize (lg_sl ([.ref mA]) ++ List.replicate (2 - (lg_sl ([.ref mA])).length) Slot.unset).toArray = ls at hl ⊢
  have hl : lv_has ls 2 [(0, .ref mA)] := hl
  refine lv_aload_n hx hb dX8_takesNumber_0 rfl (lv_at hl 0 rfl) ?_
  refine k_v (w2 := [(mA, .inr (8, .int (nI nr) :: .int (nI np) :: .ref m2 :: .ref m3 :: .ref m4 :: .ref m5 :: .ref m6 :: .ref m7 :: .ref m8 :: .int q9 :: .int q10 :: .int q11 :: .int ((nI dg) - 1) :: .int q13 :: .int q14 :: .int q15 :: .int q16 :: .int q17 :: .int q18 :: .int q19 :: .int q20 :: .ref m21 :: .ref m22 :: .ref m23 :: .ref m24 :: .int (nI nb) :: .int (nI ln) :: .int (nI (sk (blM d24) ln po)) :: .int q28 :: .int (nI tk) :: .ref m30 :: .ref m31 :: .int (nI we) :: .int q33 :: [])), (m24, .inl (cB, 300, .inl d24))]) (va_runV (As := []) (rest := []) ⟨hx, hb, hml, hown, hts⟩ (c_X8_blanks l _ mA m2 m3 m4 m5 m6 m7 m8 m21 m22 m23 m24 m30 m31 q9 q10 q11 q13 q14 q15 q16 q17 q18 q19 q20 q28 q33 nr np nb ln po tk we dg d24 h20 h2r h2p h8 hpo hln) (cwV 0 hts gX8_takesNumber_X8_blanks rfl rfl rfl (by decide +kernel) ⟨Nat.le_of_ble_eq_true rfl, Nat.le_of_ble_eq_true rfl⟩) (pre_V (ci := 8) (q0 := 0) hB hz hA0 hP hD hS [0, 1] rfl rfl rfl rfl rfl) rfl rfl hl.1 rfl (lv_room (Nat.le_of_ble_eq_true rfl)) dX8_takesNumber_1 ⟨Nat.zero_le _, Nat.zero_le _⟩) hP hD hS hA [0, 1] [] [0, 1] rfl rfl rfl rfl rfl (fun H locs hP hD hS => ?_)
  obtain ⟨hBl, hBp⟩ := sk_le (b := blM d24) hpo
  refine lv_aload_n hx hb dX8_takesNumber_4 rfl (lv_at hl 0 rfl) ?_
  refine va_get (D := D) (ci := 8) (v := .int (nI (sk (blM d24) ln po))) (C := RX8) (T := TX8) (N := 34) hx hb hts hiX8 hown hB.1 hP 0 rfl rfl 27 (by decide) (hts _ (List.mem_of_getElem? (i := 1) rfl)) (fun _ h9 => h9) rfl dX8_takesNumber_5 ?_
  refine lv_istore_n (lv' := [(1, .int (nI (sk (blM d24) ln po))), (0, .ref mA)]) hx hb dX8_takesNumber_8 rfl hl (by decide) rfl (fun ls hl => ?_)
  refine lv_aload_n hx hb dX8_takesNumber_9 rfl (lv_at hl 1 rfl) ?_
  refine lv_iconst (v := 0) hx hb dX8_takesNumber_10 (by decide) ?_
  refine pf (w2 := [(mA, .inr (8, .int (nI nr) :: .int (nI np) :: .ref m2 :: .ref m3 :: .ref m4 :: .ref m5 :: .ref m6 :: .ref m7 :: .ref m8 :: .int q9 :: .int q10 :: .int q11 :: .int ((nI dg) - 1) :: .int q13 :: .int q14 :: .int q15 :: .int q16 :: .int q17 :: .int q18 :: .int q19 :: .int q20 :: .ref m21 :: .ref m22 :: .ref m23 :: .ref m24 :: .int (nI nb) :: .int (nI ln) :: .int (nI (sk (blM d24) ln po)) :: .int q28 :: .int (nI tk) :: .ref m30 :: .ref m31 :: .int (nI we) :: .int 0 :: [])), (m24, .inl (cB, 300, .inl d24))]) (ci := 8) (C := RX8) (T := TX8) (N := 34) hx hb hts hiX8 tyX8 tyX8_ok nmX8 hown hB.1 hP hD hS 0 rfl rfl 33 (by decide) (hts _ (List.mem_of_getElem? (i := 2) rfl)) rfl rfl rfl rfl (Nat.le_of_ble_eq_true rfl) rfl dX8_takesNumber_11 (fun H locs hP hD hS => ?_)
  refine joinM (nL := 2) (A := A) (D := D) (pc2 := 81) (st2 := []) [(mA, .inr (8, .int (nI nr) :: .int (nI np) :: .ref m2 :: .ref m3 :: .ref m4 :: .ref m5 :: .ref m6 :: .ref m7 :: .ref m8 :: .int q9 :: .int q10 :: .int q11 :: .int ((nI dg) - 1) :: .int q13 :: .int q14 :: .int q15 :: .int q16 :: .int q17 :: .int q18 :: .int q19 :: .int q20 :: .ref m21 :: .ref m22 :: .ref m23 :: .ref m24 :: .int (nI nb) :: .int (nI ln) :: .int (nI (sk (blM d24) ln po)) :: .int q28 :: .int (nI tk) :: .ref m30 :: .ref m31 :: .int (nI we) :: .int (nuM d24 (sk (blM d24) ln po) (sk (diM d24) ln (sk (blM d24) ln po) - sk (blM d24) ln po)) :: [])), (m24, .inl (cB, 300, .inl d24))] [(1, .int (nI (sk (diM d24) ln (sk (blM d24) ln po)))), (0, .ref mA)] ?_ ?_
  · intro H locs ls hP hD hS hl
    refine lv_iload_n hx hb dX8_takesNumber_81 rfl (lv_at hl 0 rfl) ?_
    refine lv_aload_n hx hb dX8_takesNumber_82 rfl (lv_at hl 1 rfl) ?_
    refine va_get (D := D) (ci := 8) (v := .int (nI (sk (blM d24) ln po))) (C := RX8) (T := TX8) (N := 34) hx hb hts hiX8 hown hB.1 hP 0 rfl rfl 27 (by decide) (hts _ (List.mem_of_getElem? (i := 1) rfl)) (fun _ h9 => h9) rfl dX8_takesNumber_83 ?_
    refine lv_icmp_eq (tgt := 99) hx hb dX8_takesNumber_86 (by decide) (fun c_1 => ?_) (fun c_1 => ?_)
    · refine lv_iconst (v := 0) hx hb dX8_takesNumber_99 (by decide) ?_
      have er : F_X8_takesNumber ln po d24 = 0 := by rw [F_X8_takesNumber, if_pos c_1]
      have e0_27 : nI (F_X8_takesNumber_0_27 ln po d24) = nI (sk (blM d24) ln po) := by rw [F_X8_takesNumber_0_27, if_pos c_1]
      exact W.zret hx hb hr rfl (fun t ht hW => ⟨⟨_, (), rfl, er.symm, by rw [ht, e0_27]; exact hP, by rw [e0_27]; exact hD⟩, hS.F ht⟩) hS.2.2 dX8_takesNumber_100
    · refine lv_iload_n hx hb dX8_takesNumber_89 rfl (lv_at hl 0 rfl) ?_
      refine lv_aload_n hx hb dX8_takesNumber_90 rfl (lv_at hl 1 rfl) ?_
      refine va_get (D := D) (ci := 8) (v := .int (nI (sk (blM d24) ln po))) (C := RX8) (T := TX8) (N := 34) hx hb hts hiX8 hown hB.1 hP 0 rfl rfl 27 (by decide) (hts _ (List.mem_of_getElem? (i := 1) rfl)) (fun _ h9 => h9) rfl dX8_takesNumber_91 ?_
      refine lv_isub hx hb dX8_takesNumber_94 ?_
      refine lv_iconst (v := 4) hx hb dX8_takesNumber_95 (by decide) ?_
      refine lv_icmp_le (tgt := 101) hx hb dX8_takesNumber_96 (by decide) (fun c_2 => ?_) (fun c_2 => ?_)
      · refine lv_aload_n hx hb dX8_takesNumber_101 rfl (lv_at hl 1 rfl) ?_
        refine lv_iload_n hx hb dX8_takesNumber_102 rfl (lv_at hl 0 rfl) ?_
        refine pf (w2 := [(mA, .inr (8, .int (nI nr) :: .int (nI np) :: .ref m2 :: .ref m3 :: .ref m4 :: .ref m5 :: .ref m6 :: .ref m7 :: .ref m8 :: .int q9 :: .int q10 :: .int q11 :: .int ((nI dg) - 1) :: .int q13 :: .int q14 :: .int q15 :: .int q16 :: .int q17 :: .int q18 :: .int q19 :: .int q20 :: .ref m21 :: .ref m22 :: .ref m23 :: .ref m24 :: .int (nI nb) :: .int (nI ln) :: .int (nI (sk (diM d24) ln (sk (blM d24) ln po))) :: .int q28 :: .int (nI tk) :: .ref m30 :: .ref m31 :: .int (nI we) :: .int (nuM d24 (sk (blM d24) ln po) (sk (diM d24) ln (sk (blM d24) ln po) - sk (blM d24) ln po)) :: [])), (m24, .inl (cB, 300, .inl d24))]) (ci := 8) (C := RX8) (T := TX8) (N := 34) hx hb hts hiX8 tyX8 tyX8_ok nmX8 hown hB.1 hP hD hS 0 rfl rfl 27 (by decide) (hts _ (List.mem_of_getElem? (i := 1) rfl)) rfl rfl rfl rfl (Nat.le_of_ble_eq_true rfl) rfl dX8_takesNumber_103 (fun H locs hP hD hS => ?_)
        refine lv_iconst (v := 1) hx hb dX8_takesNumber_106 (by decide) ?_
        have er : F_X8_takesNumber ln po d24 = 1 := by rw [F_X8_takesNumber, if_neg c_1, if_pos c_2]
        have e0_27 : nI (F_X8_takesNumber_0_27 ln po d24) = nI (sk (diM d24) ln (sk (blM d24) ln po)) := by rw [F_X8_takesNumber_0_27, if_neg c_1, if_pos c_2]
        exact W.zret hx hb hr rfl (fun t ht hW => ⟨⟨_, (), rfl, er.symm, by rw [ht, e0_27]; exact hP, by rw [e0_27]; exact hD⟩, hS.F ht⟩) hS.2.2 dX8_takesNumber_107
      · refine lv_iconst (v := 0) hx hb dX8_takesNumber_99 (by decide) ?_
        have er : F_X8_takesNumber ln po d24 = 0 := by rw [F_X8_takesNumber, if_neg c_1, if_neg c_2]
        have e0_27 : nI (F_X8_takesNumber_0_27 ln po d24) = nI (sk (blM d24) ln po) := by rw [F_X8_takesNumber_0_27, if_neg c_1, if_neg c_2]
        exact W.zret hx hb hr rfl (fun t ht hW => ⟨⟨_, (), rfl, er.symm, by rw [ht, e0_27]; exact hP, by rw [e0_27]; exact hD⟩, hS.F ht⟩) hS.2.2 dX8_takesNumber_100
  · intro J_81
    refine lpM (σ := Nat × Int32) (fun x => x.1 ≤ ln ∧ sk (blM d24) ln po ≤ x.1 ∧ sk (diM d24) ln (sk (blM d24) ln po) = sk (diM d24) ln x.1 ∧ x.2 = nuM d24 (sk (blM d24) ln po) (x.1 - sk (blM d24) ln po)) (fun x => ln - x.1) (fun x => [(mA, .inr (8, .int (nI nr) :: .int (nI np) :: .ref m2 :: .ref m3 :: .ref m4 :: .ref m5 :: .ref m6 :: .ref m7 :: .ref m8 :: .int q9 :: .int q10 :: .int q11 :: .int ((nI dg) - 1) :: .int q13 :: .int q14 :: .int q15 :: .int q16 :: .int q17 :: .int q18 :: .int q19 :: .int q20 :: .ref m21 :: .ref m22 :: .ref m23 :: .ref m24 :: .int (nI nb) :: .int (nI ln) :: .int (nI (sk (blM d24) ln po)) :: .int q28 :: .int (nI tk) :: .ref m30 :: .ref m31 :: .int (nI we) :: .int x.2 :: [])), (m24, .inl (cB, 300, .inl d24))]) (fun x => [(1, .int (nI x.1)), (0, .ref mA)]) (sk (blM d24) ln po, 0) ⟨hBl, Nat.le_refl _, rfl, nu_0.symm⟩ hP hD hS (lv_sub hl [0, 1] rfl) ?_
    intro x ⟨hq1, hq2, hq3, hq4⟩ ih_x H locs ls hP hD hS hl
    have hP : va_P D vwCl [(mA, .inr (8, .int (nI nr) :: .int (nI np) :: .ref m2 :: .ref m3 :: .ref m4 :: .ref m5 :: .ref m6 :: .ref m7 :: .ref m8 :: .int q9 :: .int q10 :: .int q11 :: .int ((nI dg) - 1) :: .int q13 :: .int q14 :: .int q15 :: .int q16 :: .int q17 :: .int q18 :: .int q19 :: .int q20 :: .ref m21 :: .ref m22 :: .ref m23 :: .ref m24 :: .int (nI nb) :: .int (nI ln) :: .int (nI (sk (blM d24) ln po)) :: .int q28 :: .int (nI tk) :: .ref m30 :: .ref m31 :: .int (nI we) :: .int x.2 :: [])), (m24, .inl (cB, 300, .inl d24))] H := hP
    have hD : va_D A [(mA, .inr (8, .int (nI nr) :: .int (nI np) :: .ref m2 :: .ref m3 :: .ref m4 :: .ref m5 :: .ref m6 :: .ref m7 :: .ref m8 :: .int q9 :: .int q10 :: .int q11 :: .int ((nI dg) - 1) :: .int q13 :: .int q14 :: .int q15 :: .int q16 :: .int q17 :: .int q18 :: .int q19 :: .int q20 :: .ref m21 :: .ref m22 :: .ref m23 :: .ref m24 :: .int (nI nb) :: .int (nI ln) :: .int (nI (sk (blM d24) ln po)) :: .int q28 :: .int (nI tk) :: .ref m30 :: .ref m31 :: .int (nI we) :: .int x.2 :: [])), (m24, .inl (cB, 300, .inl d24))] := hD
    have hl : lv_has ls 2 [(1, .int (nI x.1)), (0, .ref mA)] := hl
    refine lv_iload_n hx hb dX8_takesNumber_14 rfl (lv_at hl 0 rfl) ?_
    refine lv_aload_n hx hb dX8_takesNumber_15 rfl (lv_at hl 1 rfl) ?_
    refine va_get (D := D) (ci := 8) (v := .int (nI ln)) (C := RX8) (T := TX8) (N := 34) hx hb hts hiX8 hown hB.1 hP 0 rfl rfl 26 (by decide) (hts _ (List.mem_of_getElem? (i := 3) rfl)) (fun _ h9 => h9) rfl dX8_takesNumber_16 ?_
    refine lv_icmp_ge (tgt := 81) hx hb dX8_takesNumber_19 (by decide) (fun c_3 => ?_) (fun c_3 => ?_)
    · have e81 : sk (diM d24) ln (sk (blM d24) ln po) = x.1 := hq3.trans (sk_end (by have := le_ex (by omega) hq1 c_3; omega))
      rw [← e81] at hl
      rw [hq4, ← e81] at hP hD
      exact J_81 _ _ _ hP hD hS (lv_sub hl [0, 1] rfl)
    · have hlt := le_go (by omega) hq1 c_3
      refine lv_aload_n hx hb dX8_takesNumber_22 rfl (lv_at hl 1 rfl) ?_
      refine va_get (D := D) (ci := 8) (v := .ref m24) (C := RX8) (T := TX8) (N := 34) hx hb hts hiX8 hown hB.1 hP 0 rfl rfl 24 (by decide) (hts _ (List.mem_of_getElem? (i := 4) rfl)) (fun _ h9 => h9) rfl dX8_takesNumber_23 ?_
      refine lv_iload_n hx hb dX8_takesNumber_26 rfl (lv_at hl 0 rfl) ?_
      refine ra_b hx hb hB.1 hP 1 rfl x.1 rfl (by omega) (by decide) dX8_takesNumber_27 ?_
      refine lv_bipush (v := 48) hx hb dX8_takesNumber_28 (by decide) ?_
      refine lv_icmp_lt (tgt := 81) hx hb dX8_takesNumber_30 (by decide) (fun c_4 => ?_) (fun c_4 => ?_)
      · have e81 : sk (diM d24) ln (sk (blM d24) ln po) = x.1 := hq3.trans (sk_stop (decide_eq_false (fun q => q.1 c_4)))
        rw [← e81] at hl
        rw [hq4, ← e81] at hP hD
        exact J_81 _ _ _ hP hD hS (lv_sub hl [0, 1] rfl)
      · have h97 := c_4
        refine lv_aload_n hx hb dX8_takesNumber_33 rfl (lv_at hl 1 rfl) ?_
        refine va_get (D := D) (ci := 8) (v := .ref m24) (C := RX8) (T := TX8) (N := 34) hx hb hts hiX8 hown hB.1 hP 0 rfl rfl 24 (by decide) (hts _ (List.mem_of_getElem? (i := 4) rfl)) (fun _ h9 => h9) rfl dX8_takesNumber_34 ?_
        refine lv_iload_n hx hb dX8_takesNumber_37 rfl (lv_at hl 0 rfl) ?_
        refine ra_b hx hb hB.1 hP 1 rfl x.1 rfl (by omega) (by decide) dX8_takesNumber_38 ?_
        refine lv_bipush (v := 57) hx hb dX8_takesNumber_39 (by decide) ?_
        refine lv_icmp_gt (tgt := 81) hx hb dX8_takesNumber_41 (by decide) (fun c_5 => ?_) (fun c_5 => ?_)
        · have e81 : sk (diM d24) ln (sk (blM d24) ln po) = x.1 := hq3.trans (sk_stop (decide_eq_false (fun q => q.2 c_5)))
          rw [← e81] at hl
          rw [hq4, ← e81] at hP hD
          exact J_81 _ _ _ hP hD hS (lv_sub hl [0, 1] rfl)
        · have hle : diM d24 x.1 = true := decide_eq_true ⟨h97, c_5⟩
          refine lv_iload_n hx hb dX8_takesNumber_44 rfl (lv_at hl 0 rfl) ?_
          refine lv_aload_n hx hb dX8_takesNumber_45 rfl (lv_at hl 1 rfl) ?_
          refine va_get (D := D) (ci := 8) (v := .int (nI (sk (blM d24) ln po))) (C := RX8) (T := TX8) (N := 34) hx hb hts hiX8 hown hB.1 hP 0 rfl rfl 27 (by decide) (hts _ (List.mem_of_getElem? (i := 1) rfl)) (fun _ h9 => h9) rfl dX8_takesNumber_46 ?_
          refine lv_isub hx hb dX8_takesNumber_49 ?_
          refine lv_iconst (v := 4) hx hb dX8_takesNumber_50 (by decide) ?_
          refine lv_icmp_ge (tgt := 75) hx hb dX8_takesNumber_51 (by decide) (fun c_6 => ?_) (fun c_6 => ?_)
          · have hnw : x.2 = nuM d24 (sk (blM d24) ln po) (x.1 + 1 - sk (blM d24) ln po) := by rw [hq4]; exact (nu_z hq2 (by have := (le4 hq2 (by omega)).mp c_6; omega)).symm
            refine lv_iinc (v := nI (x.1 + 1)) (lv' := [(1, .int (nI (x.1 + 1))), (0, .ref mA)]) hx hb dX8_takesNumber_75 hl (k := 0) rfl (nI_1 _) (by decide) rfl (fun ls hl => ?_)
            refine lv_goto (tgt := 14) hx hb dX8_takesNumber_78 (by decide) ?_
            exact ih_x (x.1 + 1, x.2) ⟨hlt, by show _ ≤ x.1 + 1; omega, hq3.trans (sk_step hlt hle), hnw⟩ (show ln - (x.1 + 1) < ln - x.1 by omega) _ _ _ hP hD hS (lv_sub hl [0, 1] rfl)
          · have hnw : 10 * x.2 + d24 x.1 - 48 = nuM d24 (sk (blM d24) ln po) (x.1 + 1 - sk (blM d24) ln po) := by rw [hq4]; exact (nu_s hq2 (by have := (not_congr (le4 hq2 (by omega))).mp c_6; omega)).symm
            refine lv_aload_n hx hb dX8_takesNumber_54 rfl (lv_at hl 1 rfl) ?_
            refine lv_bipush (v := 10) hx hb dX8_takesNumber_55 (by decide) ?_
            refine lv_aload_n hx hb dX8_takesNumber_57 rfl (lv_at hl 1 rfl) ?_
            refine va_get (D := D) (ci := 8) (v := .int x.2) (C := RX8) (T := TX8) (N := 34) hx hb hts hiX8 hown hB.1 hP 0 rfl rfl 33 (by decide) (hts _ (List.mem_of_getElem? (i := 2) rfl)) (fun _ h9 => h9) rfl dX8_takesNumber_58 ?_
            refine lv_imul hx hb dX8_takesNumber_61 ?_
            refine lv_aload_n hx hb dX8_takesNumber_62 rfl (lv_at hl 1 rfl) ?_
            refine va_get (D := D) (ci := 8) (v := .ref m24) (C := RX8) (T := TX8) (N := 34) hx hb hts hiX8 hown hB.1 hP 0 rfl rfl 24 (by decide) (hts _ (List.mem_of_getElem? (i := 4) rfl)) (fun _ h9 => h9) rfl dX8_takesNumber_63 ?_
            refine lv_iload_n hx hb dX8_takesNumber_66 rfl (lv_at hl 0 rfl) ?_
            refine ra_b hx hb hB.1 hP 1 rfl x.1 rfl (by omega) (by decide) dX8_takesNumber_67 ?_
            refine lv_iadd hx hb dX8_takesNumber_68 ?_
            refine lv_bipush (v := 48) hx hb dX8_takesNumber_69 (by decide) ?_
            refine lv_isub hx hb dX8_takesNumber_71 ?_
            refine pf (w2 := [(mA, .inr (8, .int (nI nr) :: .int (nI np) :: .ref m2 :: .ref m3 :: .ref m4 :: .ref m5 :: .ref m6 :: .ref m7 :: .ref m8 :: .int q9 :: .int q10 :: .int q11 :: .int ((nI dg) - 1) :: .int q13 :: .int q14 :: .int q15 :: .int q16 :: .int q17 :: .int q18 :: .int q19 :: .int q20 :: .ref m21 :: .ref m22 :: .ref m23 :: .ref m24 :: .int (nI nb) :: .int (nI ln) :: .int (nI (sk (blM d24) ln po)) :: .int q28 :: .int (nI tk) :: .ref m30 :: .ref m31 :: .int (nI we) :: .int (((10 * x.2) + (d24 x.1)) - 48) :: [])), (m24, .inl (cB, 300, .inl d24))]) (ci := 8) (C := RX8) (T := TX8) (N := 34) hx hb hts hiX8 tyX8 tyX8_ok nmX8 hown hB.1 hP hD hS 0 rfl rfl 33 (by decide) (hts _ (List.mem_of_getElem? (i := 2) rfl)) rfl rfl rfl rfl (Nat.le_of_ble_eq_true rfl) rfl dX8_takesNumber_72 (fun H locs hP hD hS => ?_)
            refine lv_iinc (v := nI (x.1 + 1)) (lv' := [(1, .int (nI (x.1 + 1))), (0, .ref mA)]) hx hb dX8_takesNumber_75 hl (k := 0) rfl (nI_1 _) (by decide) rfl (fun ls hl => ?_)
            refine lv_goto (tgt := 14) hx hb dX8_takesNumber_78 (by decide) ?_
            exact ih_x (x.1 + 1, ((10 * x.2) + (d24 x.1)) - 48) ⟨hlt, by show _ ≤ x.1 + 1; omega, hq3.trans (sk_step hlt hle), hnw⟩ (show ln - (x.1 + 1) < ln - x.1 by omega) _ _ _ hP hD hS (lv_sub hl [0, 1] rfl)
