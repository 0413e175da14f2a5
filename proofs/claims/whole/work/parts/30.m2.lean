def F_X8_best_L5 (d22 : Nat → Int32) (fo : Int32) (i : Nat) (t : Nat) (s_ : Int32) : Int32 :=
    if fo = (-1) then (if s_ = (-1) then (nI t) else
    if (d22 ((8 * i) + t)) ≤ (d22 ((8 * i) + s_.toNatClampNeg)) then (s_) else
    nI t) else
    if 2 ≤ (if 0 ≤ ((nI t) - fo) then ((nI t) - fo) else 0 - ((nI t) - fo)) then (s_) else
    if s_ = (-1) then (nI t) else
    if (d22 ((8 * i) + t)) ≤ (d22 ((8 * i) + s_.toNatClampNeg)) then (s_) else
    nI t
def F_X8_best (np : Nat) (d22 : Nat → Int32) (fo : Int32) (i : Nat) : Int32 :=
  (lp (F_X8_best_L5 d22 fo i) np (-1))
set_option maxHeartbeats 4000000 in
set_option maxRecDepth 100000 in
theorem c_X8_best (l : Launch) {D : va_G} {cI cZ cB : ClassId} {au : Nat} {kA kV : Nat → Nat} {z0 : Nat} (sz : Nat) (mA : Nat) (m2 : Nat) (m3 : Nat) (m4 : Nat) (m5 : Nat) (m6 : Nat) (m7 : Nat) (m8 : Nat) (m21 : Nat) (m22 : Nat) (m23 : Nat) (m24 : Nat) (m30 : Nat) (m31 : Nat) (q9 : Int32) (q10 : Int32) (q11 : Int32) (q13 : Int32) (q14 : Int32) (q15 : Int32) (q16 : Int32) (q17 : Int32) (q18 : Int32) (q19 : Int32) (q20 : Int32) (q28 : Int32) (q33 : Int32) (nr : Nat) (np : Nat) (nb : Nat) (ln : Nat) (po : Nat) (tk : Nat) (we : Nat) (dg : Nat) (d22 : Nat → Int32) (row : Int32) (fo : Int32) (i : Nat) (h20 : nr ≤ 20) (h2r : 2 ≤ nr) (h2p : 2 ≤ np) (h8 : np ≤ 8) (e_i : row = nI i) (hi : i < nr) : Met l yX8_best wsX8_best ({ frames := 1, cells := 0, slots := 0, locals := 21 }) (va_Pc [.ref mA, .int row, .int fo] (PRE D cI cZ cB au kA kV z0 sz [(mA, .inr (8, .int (nI nr) :: .int (nI np) :: .ref m2 :: .ref m3 :: .ref m4 :: .ref m5 :: .ref m6 :: .ref m7 :: .ref m8 :: .int q9 :: .int q10 :: .int q11 :: .int ((nI dg) - 1) :: .int q13 :: .int q14 :: .int q15 :: .int q16 :: .int q17 :: .int q18 :: .int q19 :: .int q20 :: .ref m21 :: .ref m22 :: .ref m23 :: .ref m24 :: .int (nI nb) :: .int (nI ln) :: .int (nI po) :: .int q28 :: .int (nI tk) :: .ref m30 :: .ref m31 :: .int (nI we) :: .int q33 :: [])), (m22, .inl (cI, 160, .inl d22))])) (QI D [(mA, .inr (8, .int (nI nr) :: .int (nI np) :: .ref m2 :: .ref m3 :: .ref m4 :: .ref m5 :: .ref m6 :: .ref m7 :: .ref m8 :: .int q9 :: .int q10 :: .int q11 :: .int ((nI dg) - 1) :: .int q13 :: .int q14 :: .int q15 :: .int q16 :: .int q17 :: .int q18 :: .int q19 :: .int q20 :: .ref m21 :: .ref m22 :: .ref m23 :: .ref m24 :: .int (nI nb) :: .int (nI ln) :: .int (nI po) :: .int q28 :: .int (nI tk) :: .ref m30 :: .ref m31 :: .int (nI we) :: .int q33 :: [])), (m22, .inl (cI, 160, .inl d22))] sz (F_X8_best np d22 fo i) [(mA, .inr (8, .int (nI nr) :: .int (nI np) :: .ref m2 :: .ref m3 :: .ref m4 :: .ref m5 :: .ref m6 :: .ref m7 :: .ref m8 :: .int q9 :: .int q10 :: .int q11 :: .int ((nI dg) - 1) :: .int q13 :: .int q14 :: .int q15 :: .int q16 :: .int q17 :: .int q18 :: .int q19 :: .int q20 :: .ref m21 :: .ref m22 :: .ref m23 :: .ref m24 :: .int (nI nb) :: .int (nI ln) :: .int (nI po) :: .int q28 :: .int (nI tk) :: .ref m30 :: .ref m31 :: .int (nI we) :: .int q33 :: [])), (m22, .inl (cI, 160, .inl d22))]) 0 0 (va_A [(mA, .inr (8, .int (nI nr) :: .int (nI np) :: .ref m2 :: .ref m3 :: .ref m4 :: .ref m5 :: .ref m6 :: .ref m7 :: .ref m8 :: .int q9 :: .int q10 :: .int q11 :: .int ((nI dg) - 1) :: .int q13 :: .int q14 :: .int q15 :: .int q16 :: .int q17 :: .int q18 :: .int q19 :: .int q20 :: .ref m21 :: .ref m22 :: .ref m23 :: .ref m24 :: .int (nI nb) :: .int (nI ln) :: .int (nI po) :: .int q28 :: .int (nI tk) :: .ref m30 :: .ref m31 :: .int (nI we) :: .int q33 :: [])), (m22, .inl (cI, 160, .inl d22))] sz) := by
  subst e_i
  refine Met.ofW (cc := cX8_best) (maxL := 5) (ret := (some .int)) (by decide) rfl ?_
  intro p e s m args below meth c s₁ B hml hv
  obtain ⟨rfl, hsz, hz, hP, hD0, hB⟩ := hv
  have hx := B.exec
  have hb := B.bytes
  have hr := B.returns
  have hts := atoms_spec (ws := wsX8_best) B.pre
  have hown : s.vm.findClass RX8 = some m.cls := findClass_of_methodNamed B.named
  have hlocks := B.notSynchronized
  subst hsz
  have hD := hD0.self (sz := s.heap.size)
  have hA0 := va_A0 hD0 hz
  unfold QI
  generalize hAe : va_A [(mA, .inr (8, .int (nI nr) :: .int (nI np) :: .ref m2 :: .ref m3 :: .ref m4 :: .ref m5 :: .ref m6 :: .ref m7 :: .ref m8 :: .int q9 :: .int q10 :: .int q11 :: .int ((nI dg) - 1) :: .int q13 :: .int q14 :: .int q15 :: .int q16 :: .int q17 :: .int q18 :: .int q19 :: .int q20 :: .ref m21 :: .ref m22 :: .ref m23 :: .ref m24 :: .int (nI nb) :: .int (nI ln) :: .int (nI po) :: .int q28 :: .int (nI tk) :: .ref m30 :: .ref m31 :: .int (nI we) :: .int q33 :: [])), (m22, .inl (cI, 160, .inl d22))] s.heap.size = A at hD hA0 ⊢
  have hA : ∀ q : Nat, s.heap.size ≤ q → A q := fun q h => by rw [← hAe]; exact Or.inr h
  have hS : va_S A s.heap s.heap [] := va_S.rf
  have hiX8 : ∀ w ∈ wsX80, w ∈ wsX8_best := fun w h => List.mem_cons_of_mem _ (List.mem_append_right _ h)
  have hl := lv_entry ([.ref mA, .int (nI i), .int fo]) (n := 5) (Nat.le_of_ble_eq_true rfl)
  rw [lg_entry_eq]
  generalize (lg_sl ([.ref mA, .int (nI i), .int fo]) ++ List.replicate (5 - (lg_sl ([.ref mA, .int (nI i), .int fo])).length) Slot.unset).toArray = ls at hl ⊢
  have hl : lv_has ls 5 [(0, .ref mA), (1, .int (nI i)), (2, .int fo)] := hl
  refine lv_iconst (v := (-1)) hx hb dX8_best_0 (by decide) ?_
  refine lv_istore_n (lv' := [(3, .int (-1)), (0, .ref mA), (1, .int (nI i)), (2, .int fo)]) hx hb dX8_best_1 rfl hl (by decide) rfl (fun ls hl => ?_)
  refine lv_iconst (v := 0) hx hb dX8_best_2 (by decide) ?_
  refine lv_istore (lv' := [(4, .int 0), (3, .int (-1)), (0, .ref mA), (1, .int (nI i)), (2, .int fo)]) hx hb dX8_best_3 hl (by decide) rfl (fun ls hl => ?_)
  refine lpM (σ := Nat) (fun t => t ≤ np) (fun t => np - t) (fun t => [(mA, .inr (8, .int (nI nr) :: .int (nI np) :: .ref m2 :: .ref m3 :: .ref m4 :: .ref m5 :: .ref m6 :: .ref m7 :: .ref m8 :: .int q9 :: .int q10 :: .int q11 :: .int ((nI dg) - 1) :: .int q13 :: .int q14 :: .int q15 :: .int q16 :: .int q17 :: .int q18 :: .int q19 :: .int q20 :: .ref m21 :: .ref m22 :: .ref m23 :: .ref m24 :: .int (nI nb) :: .int (nI ln) :: .int (nI po) :: .int q28 :: .int (nI tk) :: .ref m30 :: .ref m31 :: .int (nI we) :: .int q33 :: [])), (m22, .inl (cI, 160, .inl d22))]) (fun t => [(4, .int (nI t)), (3, .int (lp (F_X8_best_L5 d22 fo i) t (-1))), (0, .ref mA), (1, .int (nI i)), (2, .int fo)]) 0 (Nat.zero_le _) hP hD hS (lv_sub hl [0, 1, 2, 3, 4] rfl) ?_
  intro t h_t ih_t H locs ls hP hD hS hl
  have hP : va_P D vwCl [(mA, .inr (8, .int (nI nr) :: .int (nI np) :: .ref m2 :: .ref m3 :: .ref m4 :: .ref m5 :: .ref m6 :: .ref m7 :: .ref m8 :: .int q9 :: .int q10 :: .int q11 :: .int ((nI dg) - 1) :: .int q13 :: .int q14 :: .int q15 :: .int q16 :: .int q17 :: .int q18 :: .int q19 :: .int q20 :: .ref m21 :: .ref m22 :: .ref m23 :: .ref m24 :: .int (nI nb) :: .int (nI ln) :: .int (nI po) :: .int q28 :: .int (nI tk) :: .ref m30 :: .ref m31 :: .int (nI we) :: .int q33 :: [])), (m22, .inl (cI, 160, .inl d22))] H := hP
  have hD : va_D A [(mA, .inr (8, .int (nI nr) :: .int (nI np) :: .ref m2 :: .ref m3 :: .ref m4 :: .ref m5 :: .ref m6 :: .ref m7 :: .ref m8 :: .int q9 :: .int q10 :: .int q11 :: .int ((nI dg) - 1) :: .int q13 :: .int q14 :: .int q15 :: .int q16 :: .int q17 :: .int q18 :: .int q19 :: .int q20 :: .ref m21 :: .ref m22 :: .ref m23 :: .ref m24 :: .int (nI nb) :: .int (nI ln) :: .int (nI po) :: .int q28 :: .int (nI tk) :: .ref m30 :: .ref m31 :: .int (nI we) :: .int q33 :: [])), (m22, .inl (cI, 160, .inl d22))] := hD
  have hl : lv_has ls 5 [(4, .int (nI t)), (3, .int (lp (F_X8_best_L5 d22 fo i) t (-1))), (0, .ref mA), (1, .int (nI i)), (2, .int fo)] := hl
  generalize hs_t : lp (F_X8_best_L5 d22 fo i) t (-1) = sv1 at hl
  have hbz : okZ np sv1 := by rw [← hs_t]; exact lp_inv (P := okZ np) (n := np) (fun k z hk hz => by unfold F_X8_best_L5; (repeat' split) <;> first | exact hz | exact okZ_nI hk (by omega)) (Or.inl rfl) t h_t
  refine lv_iload hx hb dX8_best_5 (lv_at hl 0 rfl) ?_
  refine lv_aload_n hx hb dX8_best_7 rfl (lv_at hl 2 rfl) ?_
  refine va_get (D := D) (ci := 8) (v := .int (nI np)) (C := RX8) (T := TX8) (N := 34) hx hb hts hiX8 hown hB.1 hP 0 rfl rfl 1 (by decide) (hts _ (List.mem_of_getElem? (i := 1) rfl)) (fun _ h9 => h9) rfl dX8_best_8 ?_
  refine lv_icmp_ge (tgt := 70) hx hb dX8_best_11 (by decide) (fun c_2 => ?_) (fun c_2 => ?_)
  · have hx_t : np = t := Eq.symm (le_ex (by omega) h_t c_2)
    subst hx_t
    subst hs_t
    refine lv_iload_n hx hb dX8_best_70 rfl (lv_at hl 1 rfl) ?_
    have er : F_X8_best np d22 fo i = (lp (F_X8_best_L5 d22 fo i) np (-1)) := by rw [F_X8_best]
    exact W.iret hx hb hr (fun t ht hW => ⟨⟨_, (), rfl, er.symm, by rw [ht]; exact hP, hD⟩, hS.F ht⟩) hS.2.2 dX8_best_71
  · have hlt_t : t < np := le_go (by omega) h_t c_2
    refine lv_iload_n hx hb dX8_best_14 rfl (lv_at hl 4 rfl) ?_
    refine lv_iconst (v := (-1)) hx hb dX8_best_15 (by decide) ?_
    refine lv_icmp_eq (tgt := 30) hx hb dX8_best_16 (by decide) (fun c_3 => ?_) (fun c_3 => ?_)
    · refine lv_iload_n hx hb dX8_best_30 rfl (lv_at hl 1 rfl) ?_
      refine lv_iconst (v := (-1)) hx hb dX8_best_31 (by decide) ?_
      refine lv_icmp_eq (tgt := 61) hx hb dX8_best_32 (by decide) (fun c_4 => ?_) (fun c_4 => ?_)
      · refine lv_iload hx hb dX8_best_61 (lv_at hl 0 rfl) ?_
        refine lv_istore_n (lv' := [(3, .int (nI t)), (4, .int (nI t)), (0, .ref mA), (1, .int (nI i)), (2, .int fo)]) hx hb dX8_best_63 rfl hl (by decide) rfl (fun ls hl => ?_)
        refine lv_iinc (v := nI (t + 1)) (lv' := [(4, .int (nI (t + 1))), (3, .int (nI t)), (0, .ref mA), (1, .int (nI i)), (2, .int fo)]) hx hb dX8_best_64 hl (k := 1) rfl (nI_1 _) (by decide) rfl (fun ls hl => ?_)
        refine lv_goto (tgt := 5) hx hb dX8_best_67 (by decide) ?_
        have e_step : F_X8_best_L5 d22 fo i t sv1 = nI t := by rw [F_X8_best_L5, if_pos c_3, if_pos c_4]
        have hP2 : va_P D vwCl [(mA, .inr (8, .int (nI nr) :: .int (nI np) :: .ref m2 :: .ref m3 :: .ref m4 :: .ref m5 :: .ref m6 :: .ref m7 :: .ref m8 :: .int q9 :: .int q10 :: .int q11 :: .int ((nI dg) - 1) :: .int q13 :: .int q14 :: .int q15 :: .int q16 :: .int q17 :: .int q18 :: .int q19 :: .int q20 :: .ref m21 :: .ref m22 :: .ref m23 :: .ref m24 :: .int (nI nb) :: .int (nI ln) :: .int (nI po) :: .int q28 :: .int (nI tk) :: .ref m30 :: .ref m31 :: .int (nI we) :: .int q33 :: [])), (m22, .inl (cI, 160, .inl d22))] H := hP
        have hD2 : va_D A [(mA, .inr (8, .int (nI nr) :: .int (nI np) :: .ref m2 :: .ref m3 :: .ref m4 :: .ref m5 :: .ref m6 :: .ref m7 :: .ref m8 :: .int q9 :: .int q10 :: .int q11 :: .int ((nI dg) - 1) :: .int q13 :: .int q14 :: .int q15 :: .int q16 :: .int q17 :: .int q18 :: .int q19 :: .int q20 :: .ref m21 :: .ref m22 :: .ref m23 :: .ref m24 :: .int (nI nb) :: .int (nI ln) :: .int (nI po) :: .int q28 :: .int (nI tk) :: .ref m30 :: .ref m31 :: .int (nI we) :: .int q33 :: [])), (m22, .inl (cI, 160, .inl d22))] := hD
        have hl2 : lv_has ls 5 [(4, .int (nI (t + 1))), (3, .int (F_X8_best_L5 d22 fo i t sv1)), (0, .ref mA), (1, .int (nI i)), (2, .int fo)] := by rw [e_step]; exact lv_sub hl [0, 1, 2, 3, 4] rfl
        subst hs_t
        exact ih_t (t + 1) (by omega) (by omega) _ _ _ hP2 hD2 hS hl2
      · obtain ⟨hb1, hb2⟩ := hbz.resolve_left c_4
        refine lv_aload_n hx hb dX8_best_35 rfl (lv_at hl 2 rfl) ?_
        refine va_get (D := D) (ci := 8) (v := .ref m22) (C := RX8) (T := TX8) (N := 34) hx hb hts hiX8 hown hB.1 hP 0 rfl rfl 22 (by decide) (hts _ (List.mem_of_getElem? (i := 6) rfl)) (fun _ h9 => h9) rfl dX8_best_36 ?_
        refine lv_bipush (v := 8) hx hb dX8_best_39 (by decide) ?_
        refine lv_iload_n hx hb dX8_best_41 rfl (lv_at hl 3 rfl) ?_
        refine lv_imul hx hb dX8_best_42 ?_
        refine lv_iload hx hb dX8_best_43 (lv_at hl 0 rfl) ?_
        refine lv_iadd hx hb dX8_best_45 ?_
        refine ra_i hx hb hB.1 hP 1 rfl ((8 * i) + t) (nx_add (nx_mul rfl rfl) rfl) (by omega) (by decide) dX8_best_46 ?_
        refine lv_aload_n hx hb dX8_best_47 rfl (lv_at hl 2 rfl) ?_
        refine va_get (D := D) (ci := 8) (v := .ref m22) (C := RX8) (T := TX8) (N := 34) hx hb hts hiX8 hown hB.1 hP 0 rfl rfl 22 (by decide) (hts _ (List.mem_of_getElem? (i := 6) rfl)) (fun _ h9 => h9) rfl dX8_best_48 ?_
        refine lv_bipush (v := 8) hx hb dX8_best_51 (by decide) ?_
        refine lv_iload_n hx hb dX8_best_53 rfl (lv_at hl 3 rfl) ?_
        refine lv_imul hx hb dX8_best_54 ?_
        refine lv_iload_n hx hb dX8_best_55 rfl (lv_at hl 1 rfl) ?_
        refine lv_iadd hx hb dX8_best_56 ?_
        refine ra_i hx hb hB.1 hP 1 rfl ((8 * i) + sv1.toNatClampNeg) (nx_add (nx_mul rfl rfl) hb1) (by omega) (by decide) dX8_best_57 ?_
        refine lv_icmp_le (tgt := 64) hx hb dX8_best_58 (by decide) (fun c_5 => ?_) (fun c_5 => ?_)
        · refine lv_iinc (v := nI (t + 1)) (lv' := [(4, .int (nI (t + 1))), (3, .int sv1), (0, .ref mA), (1, .int (nI i)), (2, .int fo)]) hx hb dX8_best_64 hl (k := 0) rfl (nI_1 _) (by decide) rfl (fun ls hl => ?_)
          refine lv_goto (tgt := 5) hx hb dX8_best_67 (by decide) ?_
          have e_step : F_X8_best_L5 d22 fo i t sv1 = sv1 := by rw [F_X8_best_L5, if_pos c_3, if_neg c_4, if_pos c_5]
          have hP2 : va_P D vwCl [(mA, .inr (8, .int (nI nr) :: .int (nI np) :: .ref m2 :: .ref m3 :: .ref m4 :: .ref m5 :: .ref m6 :: .ref m7 :: .ref m8 :: .int q9 :: .int q10 :: .int q11 :: .int ((nI dg) - 1) :: .int q13 :: .int q14 :: .int q15 :: .int q16 :: .int q17 :: .int q18 :: .int q19 :: .int q20 :: .ref m21 :: .ref m22 :: .ref m23 :: .ref m24 :: .int (nI nb) :: .int (nI ln) :: .int (nI po) :: .int q28 :: .int (nI tk) :: .ref m30 :: .ref m31 :: .int (nI we) :: .int q33 :: [])), (m22, .inl (cI, 160, .inl d22))] H := hP
          have hD2 : va_D A [(mA, .inr (8, .int (nI nr) :: .int (nI np) :: .ref m2 :: .ref m3 :: .ref m4 :: .ref m5 :: .ref m6 :: .ref m7 :: .ref m8 :: .int q9 :: .int q10 :: .int q11 :: .int ((nI dg) - 1) :: .int q13 :: .int q14 :: .int q15 :: .int q16 :: .int q17 :: .int q18 :: .int q19 :: .int q20 :: .ref m21 :: .ref m22 :: .ref m23 :: .ref m24 :: .int (nI nb) :: .int (nI ln) :: .int (nI po) :: .int q28 :: .int (nI tk) :: .ref m30 :: .ref m31 :: .int (nI we) :: .int q33 :: [])), (m22, .inl (cI, 160, .inl d22))] := hD
          have hl2 : lv_has ls 5 [(4, .int (nI (t + 1))), (3, .int (F_X8_best_L5 d22 fo i t sv1)), (0, .ref mA), (1, .int (nI i)), (2, .int fo)] := by rw [e_step]; exact lv_sub hl [0, 1, 2, 3, 4] rfl
          subst hs_t
          exact ih_t (t + 1) (by omega) (by omega) _ _ _ hP2 hD2 hS hl2
        · refine lv_iload hx hb dX8_best_61 (lv_at hl 0 rfl) ?_
          refine lv_istore_n (lv' := [(3, .int (nI t)), (4, .int (nI t)), (0, .ref mA), (1, .int (nI i)), (2, .int fo)]) hx hb dX8_best_63 rfl hl (by decide) rfl (fun ls hl => ?_)
          refine lv_iinc (v := nI (t + 1)) (lv' := [(4, .int (nI (t + 1))), (3, .int (nI t)), (0, .ref mA), (1, .int (nI i)), (2, .int fo)]) hx hb dX8_best_64 hl (k := 1) rfl (nI_1 _) (by decide) rfl (fun ls hl => ?_)
          refine lv_goto (tgt := 5) hx hb dX8_best_67 (by decide) ?_
          have e_step : F_X8_best_L5 d22 fo i t sv1 = nI t := by rw [F_X8_best_L5, if_pos c_3, if_neg c_4, if_neg c_5]
          have hP2 : va_P D vwCl [(mA, .inr (8, .int (nI nr) :: .int (nI np) :: .ref m2 :: .ref m3 :: .ref m4 :: .ref m5 :: .ref m6 :: .ref m7 :: .ref m8 :: .int q9 :: .int q10 :: .int q11 :: .int ((nI dg) - 1) :: .int q13 :: .int q14 :: .int q15 :: .int q16 :: .int q17 :: .int q18 :: .int q19 :: .int q20 :: .ref m21 :: .ref m22 :: .ref m23 :: .ref m24 :: .int (nI nb) :: .int (nI ln) :: .int (nI po) :: .int q28 :: .int (nI tk) :: .ref m30 :: .ref m31 :: .int (nI we) :: .int q33 :: [])), (m22, .inl (cI, 160, .inl d22))] H := hP
          have hD2 : va_D A [(mA, .inr (8, .int (nI nr) :: .int (nI np) :: .ref m2 :: .ref m3 :: .ref m4 :: .ref m5 :: .ref m6 :: .ref m7 :: .ref m8 :: .int q9 :: .int q10 :: .int q11 :: .int ((nI dg) - 1) :: .int q13 :: .int q14 :: .int q15 :: .int q16 :: .int q17 :: .int q18 :: .int q19 :: .int q20 :: .ref m21 :: .ref m22 :: .ref m23 :: .ref m24 :: .int (nI nb) :: .int (nI ln) :: .int (nI po) :: .int q28 :: .int (nI tk) :: .ref m30 :: .ref m31 :: .int (nI we) :: .int q33 :: [])), (m22, .inl (cI, 160, .inl d22))] := hD
          have hl2 : lv_has ls 5 [(4, .int (nI (t + 1))), (3, .int (F_X8_best_L5 d22 fo i t sv1)), (0, .ref mA), (1, .int (nI i)), (2, .int fo)] := by rw [e_step]; exact lv_sub hl [0, 1, 2, 3, 4] rfl
          subst hs_t
          exact ih_t (t + 1) (by omega) (by omega) _ _ _ hP2 hD2 hS hl2
    · refine lv_iload hx hb dX8_best_19 (lv_at hl 0 rfl) ?_
      refine lv_iload_n hx hb dX8_best_21 rfl (lv_at hl 4 rfl) ?_
      refine lv_isub hx hb dX8_best_22 ?_
      refine va_mabs hx hb (hml.trans hl.1.symm) hown (hts _ (List.mem_of_getElem? (i := 2) rfl)) (hts _ (List.mem_of_getElem? (i := 3) rfl)) (hts _ (List.mem_of_getElem? (i := 4) rfl)) (hts _ (List.mem_of_getElem? (i := 5) rfl)) (Nat.le_of_ble_eq_true rfl) (Nat.le_of_ble_eq_true rfl) (Nat.zero_le _) (Nat.zero_le _) dX8_best_23 ?_
      refine lv_iconst (v := 2) hx hb dX8_best_26 (by decide) ?_
      refine lv_icmp_ge (tgt := 64) hx hb dX8_best_27 (by decide) (fun c_6 => ?_) (fun c_6 => ?_)
      · refine lv_iinc (v := nI (t + 1)) (lv' := [(4, .int (nI (t + 1))), (3, .int sv1), (0, .ref mA), (1, .int (nI i)), (2, .int fo)]) hx hb dX8_best_64 hl (k := 0) rfl (nI_1 _) (by decide) rfl (fun ls hl => ?_)
        refine lv_goto (tgt := 5) hx hb dX8_best_67 (by decide) ?_
        have e_step : F_X8_best_L5 d22 fo i t sv1 = sv1 := by rw [F_X8_best_L5, if_neg c_3, if_pos c_6]
        have hP2 : va_P D vwCl [(mA, .inr (8, .int (nI nr) :: .int (nI np) :: .ref m2 :: .ref m3 :: .ref m4 :: .ref m5 :: .ref m6 :: .ref m7 :: .ref m8 :: .int q9 :: .int q10 :: .int q11 :: .int ((nI dg) - 1) :: .int q13 :: .int q14 :: .int q15 :: .int q16 :: .int q17 :: .int q18 :: .int q19 :: .int q20 :: .ref m21 :: .ref m22 :: .ref m23 :: .ref m24 :: .int (nI nb) :: .int (nI ln) :: .int (nI po) :: .int q28 :: .int (nI tk) :: .ref m30 :: .ref m31 :: .int (nI we) :: .int q33 :: [])), (m22, .inl (cI, 160, .inl d22))] H := hP
        have hD2 : va_D A [(mA, .inr (8, .int (nI nr) :: .int (nI np) :: .ref m2 :: .ref m3 :: .ref m4 :: .ref m5 :: .ref m6 :: .ref m7 :: .ref m8 :: .int q9 :: .int q10 :: .int q11 :: .int ((nI dg) - 1) :: .int q13 :: .int q14 :: .int q15 :: .int q16 :: .int q17 :: .int q18 :: .int q19 :: .int q20 :: .ref m21 :: .ref m22 :: .ref m23 :: .ref m24 :: .int (nI nb) :: .int (nI ln) :: .int (nI po) :: .int q28 :: .int (nI tk) :: .ref m30 :: .ref m31 :: .int (nI we) :: .int q33 :: [])), (m22, .inl (cI, 160, .inl d22))] := hD
        have hl2 : lv_has ls 5 [(4, .int (nI (t + 1))), (3, .int (F_X8_best_L5 d22 fo i t sv1)), (0, .ref mA), (1, .int (nI i)), (2, .int fo)] := by rw [e_step]; exact lv_sub hl [0, 1, 2, 3, 4] rfl
        subst hs_t
        exact ih_t (t + 1) (by omega) (by omega) _ _ _ hP2 hD2 hS hl2
      · refine lv_iload_n hx hb dX8_best_30 rfl (lv_at hl 1 rfl) ?_
        refine lv_iconst (v := (-1)) hx hb dX8_best_31 (by decide) ?_
        refine lv_icmp_eq (tgt := 61) hx hb dX8_best_32 (by decide) (fun c_7 => ?_) (fun c_7 => ?_)
        · refine lv_iload hx hb dX8_best_61 (lv_at hl 0 rfl) ?_
          refine lv_istore_n (lv' := [(3, .int (nI t)), (4, .int (nI t)), (0, .ref mA), (1, .int (nI i)), (2, .int fo)]) hx hb dX8_best_63 rfl hl (by decide) rfl (fun ls hl => ?_)
          refine lv_iinc (v := nI (t + 1)) (lv' := [(4, .int (nI (t + 1))), (3, .int (nI t)), (0, .ref mA), (1, .int (nI i)), (2, .int fo)]) hx hb dX8_best_64 hl (k := 1) rfl (nI_1 _) (by decide) rfl (fun ls hl => ?_)
          refine lv_goto (tgt := 5) hx hb dX8_best_67 (by decide) ?_
          have e_step : F_X8_best_L5 d22 fo i t sv1 = nI t := by rw [F_X8_best_L5, if_neg c_3, if_neg c_6, if_pos c_7]
          have hP2 : va_P D vwCl [(mA, .inr (8, .int (nI nr) :: .int (nI np) :: .ref m2 :: .ref m3 :: .ref m4 :: .ref m5 :: .ref m6 :: .ref m7 :: .ref m8 :: .int q9 :: .int q10 :: .int q11 :: .int ((nI dg) - 1) :: .int q13 :: .int q14 :: .int q15 :: .int q16 :: .int q17 :: .int q18 :: .int q19 :: .int q20 :: .ref m21 :: .ref m22 :: .ref m23 :: .ref m24 :: .int (nI nb) :: .int (nI ln) :: .int (nI po) :: .int q28 :: .int (nI tk) :: .ref m30 :: .ref m31 :: .int (nI we) :: .int q33 :: [])), (m22, .inl (cI, 160, .inl d22))] H := hP
          have hD2 : va_D A [(mA, .inr (8, .int (nI nr) :: .int (nI np) :: .ref m2 :: .ref m3 :: .ref m4 :: .ref m5 :: .ref m6 :: .ref m7 :: .ref m8 :: .int q9 :: .int q10 :: .int q11 :: .int ((nI dg) - 1) :: .int q13 :: .int q14 :: .int q15 :: .int q16 :: .int q17 :: .int q18 :: .int q19 :: .int q20 :: .ref m21 :: .ref m22 :: .ref m23 :: .ref m24 :: .int (nI nb) :: .int (nI ln) :: .int (nI po) :: .int q28 :: .int (nI tk) :: .ref m30 :: .ref m31 :: .int (nI we) :: .int q33 :: [])), (m22, .inl (cI, 160, .inl d22))] := hD
          have hl2 : lv_has ls 5 [(4, .int (nI (t + 1))), (3, .int (F_X8_best_L5 d22 fo i t sv1)), (0, .ref mA), (1, .int (nI i)), (2, .int fo)] := by rw [e_step]; exact lv_sub hl [0, 1, 2, 3, 4] rfl
          subst hs_t
          exact ih_t (t + 1) (by omega) (by omega) _ _ _ hP2 hD2 hS hl2
        · obtain ⟨hb1, hb2⟩ := hbz.resolve_left c_7
          refine lv_aload_n hx hb dX8_best_35 rfl (lv_at hl 2 rfl) ?_
          refine va_get (D := D) (ci := 8) (v := .ref m22) (C := RX8) (T := TX8) (N := 34) hx hb hts hiX8 hown hB.1 hP 0 rfl rfl 22 (by decide) (hts _ (List.mem_of_getElem? (i := 6) rfl)) (fun _ h9 => h9) rfl dX8_best_36 ?_
          refine lv_bipush (v := 8) hx hb dX8_best_39 (by decide) ?_
          refine lv_iload_n hx hb dX8_best_41 rfl (lv_at hl 3 rfl) ?_
          refine lv_imul hx hb dX8_best_42 ?_
          refine lv_iload hx hb dX8_best_43 (lv_at hl 0 rfl) ?_
          refine lv_iadd hx hb dX8_best_45 ?_
          refine ra_i hx hb hB.1 hP 1 rfl ((8 * i) + t) (nx_add (nx_mul rfl rfl) rfl) (by omega) (by decide) dX8_best_46 ?_
          refine lv_aload_n hx hb dX8_best_47 rfl (lv_at hl 2 rfl) ?_
          refine va_get (D := D) (ci := 8) (v := .ref m22) (C := RX8) (T := TX8) (N := 34) hx hb hts hiX8 hown hB.1 hP 0 rfl rfl 22 (by decide) (hts _ (List.mem_of_getElem? (i := 6) rfl)) (fun _ h9 => h9) rfl dX8_best_48 ?_
          refine lv_bipush (v := 8) hx hb dX8_best_51 (by decide) ?_
          refine lv_iload_n hx hb dX8_best_53 rfl (lv_at hl 3 rfl) ?_
          refine lv_imul hx hb dX8_best_54 ?_
          refine lv_iload_n hx hb dX8_best_55 rfl (lv_at hl 1 rfl) ?_
          refine lv_iadd hx hb dX8_best_56 ?_
          refine ra_i hx hb hB.1 hP 1 rfl ((8 * i) + sv1.toNatClampNeg) (nx_add (nx_mul rfl rfl) hb1) (by omega) (by decide) dX8_best_57 ?_
          refine lv_icmp_le (tgt := 64) hx hb dX8_best_58 (by decide) (fun c_8 => ?_) (fun c_8 => ?_)
          · refine lv_iinc (v := nI (t + 1)) (lv' := [(4, .int (nI (t + 1))), (3, .int sv1), (0, .ref mA), (1, .int (nI i)), (2, .int fo)]) hx hb dX8_best_64 hl (k := 0) rfl (nI_1 _) (by decide) rfl (fun ls hl => ?_)
            refine lv_goto (tgt := 5) hx hb dX8_best_67 (by decide) ?_
            have e_step : F_X8_best_L5 d22 fo i t sv1 = sv1 := by rw [F_X8_best_L5, if_neg c_3, if_neg c_6, if_neg c_7, if_pos c_8]
            have hP2 : va_P D vwCl [(mA, .inr (8, .int (nI nr) :: .int (nI np) :: .ref m2 :: .ref m3 :: .ref m4 :: .ref m5 :: .ref m6 :: .ref m7 :: .ref m8 :: .int q9 :: .int q10 :: .int q11 :: .int ((nI dg) - 1) :: .int q13 :: .int q14 :: .int q15 :: .int q16 :: .int q17 :: .int q18 :: .int q19 :: .int q20 :: .ref m21 :: .ref m22 :: .ref m23 :: .ref m24 :: .int (nI nb) :: .int (nI ln) :: .int (nI po) :: .int q28 :: .int (nI tk) :: .ref m30 :: .ref m31 :: .int (nI we) :: .int q33 :: [])), (m22, .inl (cI, 160, .inl d22))] H := hP
            have hD2 : va_D A [(mA, .inr (8, .int (nI nr) :: .int (nI np) :: .ref m2 :: .ref m3 :: .ref m4 :: .ref m5 :: .ref m6 :: .ref m7 :: .ref m8 :: .int q9 :: .int q10 :: .int q11 :: .int ((nI dg) - 1) :: .int q13 :: .int q14 :: .int q15 :: .int q16 :: .int q17 :: .int q18 :: .int q19 :: .int q20 :: .ref m21 :: .ref m22 :: .ref m23 :: .ref m24 :: .int (nI nb) :: .int (nI ln) :: .int (nI po) :: .int q28 :: .int (nI tk) :: .ref m30 :: .ref m31 :: .int (nI we) :: .int q33 :: [])), (m22, .inl (cI, 160, .inl d22))] := hD
            have hl2 : lv_has ls 5 [(4, .int (nI (t + 1))), (3, .int (F_X8_best_L5 d22 fo i t sv1)), (0, .ref mA), (1, .int (nI i)), (2, .int fo)] := by rw [e_step]; exact lv_sub hl [0, 1, 2, 3, 4] rfl
            subst hs_t
            exact ih_t (t + 1) (by omega) (by omega) _ _ _ hP2 hD2 hS hl2
          · refine lv_iload hx hb dX8_best_61 (lv_at hl 0 rfl) ?_
            refine lv_istore_n (lv' := [(3, .int (nI t)), (4, .int (nI t)), (0, .ref mA), (1, .int (nI i)), (2, .int fo)]) hx hb dX8_best_63 rfl hl (by decide) rfl (fun ls hl => ?_)
            refine lv_iinc (v := nI (t + 1)) (lv' := [(4, .int (nI (t + 1))), (3, .int (nI t)), (0, .ref mA), (1, .int (nI i)), (2, .int fo)]) hx hb dX8_best_64 hl (k := 1) rfl (nI_1 _) (by decide) rfl (fun ls hl => ?_)
            refine lv_goto (tgt := 5) hx hb dX8_best_67 (by decide) ?_
            have e_step : F_X8_best_L5 d22 fo i t sv1 = nI t := by rw [F_X8_best_L5, if_neg c_3, if_neg c_6, if_neg c_7, if_neg c_8]
            have hP2 : va_P D vwCl [(mA, .inr (8, .int (nI nr) :: .int (nI np) :: .ref m2 :: .ref m3 :: .ref m4 :: .ref m5 :: .ref m6 :: .ref m7 :: .ref m8 :: .int q9 :: .int q10 :: .int q11 :: .int ((nI dg) - 1) :: .int q13 :: .int q14 :: .int q15 :: .int q16 :: .int q17 :: .int q18 :: .int q19 :: .int q20 :: .ref m21 :: .ref m22 :: .ref m23 :: .ref m24 :: .int (nI nb) :: .int (nI ln) :: .int (nI po) :: .int q28 :: .int (nI tk) :: .ref m30 :: .ref m31 :: .int (nI we) :: .int q33 :: [])), (m22, .inl (cI, 160, .inl d22))] H := hP
            have hD2 : va_D A [(mA, .inr (8, .int (nI nr) :: .int (nI np) :: .ref m2 :: .ref m3 :: .ref m4 :: .ref m5 :: .ref m6 :: .ref m7 :: .ref m8 :: .int q9 :: .int q10 :: .int q11 :: .int ((nI dg) - 1) :: .int q13 :: .int q14 :: .int q15 :: .int q16 :: .int q17 :: .int q18 :: .int q19 :: .int q20 :: .ref m21 :: .ref m22 :: .ref m23 :: .ref m24 :: .int (nI nb) :: .int (nI ln) :: .int (nI po) :: .int q28 :: .int (nI tk) :: .ref m30 :: .ref m31 :: .int (nI we) :: .int q33 :: [])), (m22, .inl (cI, 160, .inl d22))] := hD
            have hl2 : lv_has ls 5 [(4, .int (nI (t + 1))), (3, .int (F_X8_best_L5 d22 fo i t sv1)), (0, .ref mA), (1, .int (nI i)), (2, .int fo)] := by rw [e_step]; exact lv_sub hl [0, 1, 2, 3, 4] rfl
            subst hs_t
            exact ih_t (t + 1) (by omega) (by omega) _ _ _ hP2 hD2 hS hl2

def F_X8_inForce_L4 (d31 : Nat → Int32) (day : Int32) (t : Nat) (s_ : Int32) : Int32 :=
    if day < (d31 t) then (s_) else
    nI t
def F_X8_inForce (tk : Nat) (d31 : Nat → Int32) (day : Int32) : Int32 :=
  (lp (F_X8_inForce_L4 d31 day) tk (-1))
set_option maxHeartbeats 4000000 in
set_option maxRecDepth 100000 in
theorem c_X8_inForce (l : Launch) {D : va_G} {cI cZ cB : ClassId} {au : Nat} {kA kV : Nat → Nat} {z0 : Nat} (sz : Nat) (mA : Nat) (m2 : Nat) (m3 : Nat) (m4 : Nat) (m5 : Nat) (m6 : Nat) (m7 : Nat) (m8 : Nat) (m21 : Nat) (m22 : Nat) (m23 : Nat) (m24 : Nat) (m30 : Nat) (m31 : Nat) (q9 : Int32) (q10 : Int32) (q11 : Int32) (q13 : Int32) (q14 : Int32) (q15 : Int32) (q16 : Int32) (q17 : Int32) (q18 : Int32) (q19 : Int32) (q20 : Int32) (q28 : Int32) (q33 : Int32) (nr : Nat) (np : Nat) (nb : Nat) (ln : Nat) (po : Nat) (tk : Nat) (we : Nat) (dg : Nat) (d31 : Nat → Int32) (day : Int32) (h20 : nr ≤ 20) (h2r : 2 ≤ nr) (h2p : 2 ≤ np) (h8 : np ≤ 8) (htk : tk ≤ 10) : Met l yX8_inForce wsX8_inForce ({ frames := 0, cells := 0, slots := 0, locals := 0 }) (va_Pc [.ref mA, .int day] (PRE D cI cZ cB au kA kV z0 sz [(mA, .inr (8, .int (nI nr) :: .int (nI np) :: .ref m2 :: .ref m3 :: .ref m4 :: .ref m5 :: .ref m6 :: .ref m7 :: .ref m8 :: .int q9 :: .int q10 :: .int q11 :: .int ((nI dg) - 1) :: .int q13 :: .int q14 :: .int q15 :: .int q16 :: .int q17 :: .int q18 :: .int q19 :: .int q20 :: .ref m21 :: .ref m22 :: .ref m23 :: .ref m24 :: .int (nI nb) :: .int (nI ln) :: .int (nI po) :: .int q28 :: .int (nI tk) :: .ref m30 :: .ref m31 :: .int (nI we) :: .int q33 :: [])), (m31, .inl (cI, 11, .inl d31))])) (QI D [(mA, .inr (8, .int (nI nr) :: .int (nI np) :: .ref m2 :: .ref m3 :: .ref m4 :: .ref m5 :: .ref m6 :: .ref m7 :: .ref m8 :: .int q9 :: .int q10 :: .int q11 :: .int ((nI dg) - 1) :: .int q13 :: .int q14 :: .int q15 :: .int q16 :: .int q17 :: .int q18 :: .int q19 :: .int q20 :: .ref m21 :: .ref m22 :: .ref m23 :: .ref m24 :: .int (nI nb) :: .int (nI ln) :: .int (nI po) :: .int q28 :: .int (nI tk) :: .ref m30 :: .ref m31 :: .int (nI we) :: .int q33 :: [])), (m31, .inl (cI, 11, .inl d31))] sz (F_X8_inForce tk d31 day) [(mA, .inr (8, .int (nI nr) :: .int (nI np) :: .ref m2 :: .ref m3 :: .ref m4 :: .ref m5 :: .ref m6 :: .ref m7 :: .ref m8 :: .int q9 :: .int q10 :: .int q11 :: .int ((nI dg) - 1) :: .int q13 :: .int q14 :: .int q15 :: .int q16 :: .int q17 :: .int q18 :: .int q19 :: .int q20 :: .ref m21 :: .ref m22 :: .ref m23 :: .ref m24 :: .int (nI nb) :: .int (nI ln) :: .int (nI po) :: .int q28 :: .int (nI tk) :: .ref m30 :: .ref m31 :: .int (nI we) :: .int q33 :: [])), (m31, .inl (cI, 11, .inl d31))]) 0 0 (va_A [(mA, .inr (8, .int (nI nr) :: .int (nI np) :: .ref m2 :: .ref m3 :: .ref m4 :: .ref m5 :: .ref m6 :: .ref m7 :: .ref m8 :: .int q9 :: .int q10 :: .int q11 :: .int ((nI dg) - 1) :: .int q13 :: .int q14 :: .int q15 :: .int q16 :: .int q17 :: .int q18 :: .int q19 :: .int q20 :: .ref m21 :: .ref m22 :: .ref m23 :: .ref m24 :: .int (nI nb) :: .int (nI ln) :: .int (nI po) :: .int q28 :: .int (nI tk) :: .ref m30 :: .ref m31 :: .int (nI we) :: .int q33 :: [])), (m31, .inl (cI, 11, .inl d31))] sz) := by
  refine Met.ofW (cc := cX8_inForce) (maxL := 4) (ret := (some .int)) (by decide) rfl ?_
  intro p e s m args below meth c s₁ B hml hv
  obtain ⟨rfl, hsz, hz, hP, hD0, hB⟩ := hv
  have hx := B.exec
  have hb := B.bytes
  have hr := B.returns
  have hts := atoms_spec (ws := wsX8_inForce) B.pre
  have hown : s.vm.findClass RX8 = some m.cls := findClass_of_methodNamed B.named
  have hlocks := B.notSynchronized
  subst hsz
  have hD := hD0.self (sz := s.heap.size)
  have hA0 := va_A0 hD0 hz
  unfold QI
  generalize hAe : va_A [(mA, .inr (8, .int (nI nr) :: .int (nI np) :: .ref m2 :: .ref m3 :: .ref m4 :: .ref m5 :: .ref m6 :: .ref m7 :: .ref m8 :: .int q9 :: .int q10 :: .int q11 :: .int ((nI dg) - 1) :: .int q13 :: .int q14 :: .int q15 :: .int q16 :: .int q17 :: .int q18 :: .int q19 :: .int q20 :: .ref m21 :: .ref m22 :: .ref m23 :: .ref m24 :: .int (nI nb) :: .int (nI ln) :: .int (nI po) :: .int q28 :: .int (nI tk) :: .ref m30 :: .ref m31 :: .int (nI we) :: .int q33 :: [])), (m31, .inl (cI, 11, .inl d31))] s.heap.size = A at hD hA0 ⊢
  have hA : ∀ q : Nat, s.heap.size ≤ q → A q := fun q h => by rw [← hAe]; exact Or.inr h
  have hS : va_S A s.heap s.heap [] := va_S.rf
  have hiX8 : ∀ w ∈ wsX80, w ∈ wsX8_inForce := fun w h => List.mem_cons_of_mem _ (List.mem_append_right _ h)
  have hl := lv_entry ([.ref mA, .int day]) (n := 4) (Nat.le_of_ble_eq_true rfl)
  rw [lg_entry_eq]
  generalize (lg_sl ([.ref mA, .int day]) ++ List.replicate (4 - (lg_sl ([.ref mA, .int day])).length) Slot.unset).toArray = ls at hl ⊢
  have hl : lv_has ls 4 [(0, .ref mA), (1, .int day)] := hl
  refine lv_iconst (v := (-1)) hx hb dX8_inForce_0 (by decide) ?_
  refine lv_istore_n (lv' := [(2, .int (-1)), (0, .ref mA), (1, .int day)]) hx hb dX8_inForce_1 rfl hl (by decide) rfl (fun ls hl => ?_)
  refine lv_iconst (v := 0) hx hb dX8_inForce_2 (by decide) ?_
  refine lv_istore_n (lv' := [(3, .int 0), (2, .int (-1)), (0, .ref mA), (1, .int day)]) hx hb dX8_inForce_3 rfl hl (by decide) rfl (fun ls hl => ?_)
  refine lpM (σ := Nat) (fun t => t ≤ tk) (fun t => tk - t) (fun t => [(mA, .inr (8, .int (nI nr) :: .int (nI np) :: .ref m2 :: .ref m3 :: .ref m4 :: .ref m5 :: .ref m6 :: .ref m7 :: .ref m8 :: .int q9 :: .int q10 :: .int q11 :: .int ((nI dg) - 1) :: .int q13 :: .int q14 :: .int q15 :: .int q16 :: .int q17 :: .int q18 :: .int q19 :: .int q20 :: .ref m21 :: .ref m22 :: .ref m23 :: .ref m24 :: .int (nI nb) :: .int (nI ln) :: .int (nI po) :: .int q28 :: .int (nI tk) :: .ref m30 :: .ref m31 :: .int (nI we) :: .int q33 :: [])), (m31, .inl (cI, 11, .inl d31))]) (fun t => [(3, .int (nI t)), (2, .int (lp (F_X8_inForce_L4 d31 day) t (-1))), (0, .ref mA), (1, .int day)]) 0 (Nat.zero_le _) hP hD hS (lv_sub hl [0, 1, 2, 3] rfl) ?_
  intro t h_t ih_t H locs ls hP hD hS hl
  have hP : va_P D vwCl [(mA, .inr (8, .int (nI nr) :: .int (nI np) :: .ref m2 :: .ref m3 :: .ref m4 :: .ref m5 :: .ref m6 :: .ref m7 :: .ref m8 :: .int q9 :: .int q10 :: .int q11 :: .int ((nI dg) - 1) :: .int q13 :: .int q14 :: .int q15 :: .int q16 :: .int q17 :: .int q18 :: .int q19 :: .int q20 :: .ref m21 :: .ref m22 :: .ref m23 :: .ref m24 :: .int (nI nb) :: .int (nI ln) :: .int (nI po) :: .int q28 :: .int (nI tk) :: .ref m30 :: .ref m31 :: .int (nI we) :: .int q33 :: [])), (m31, .inl (cI, 11, .inl d31))] H := hP
  have hD : va_D A [(mA, .inr (8, .int (nI nr) :: .int (nI np) :: .ref m2 :: .ref m3 :: .ref m4 :: .ref m5 :: .ref m6 :: .ref m7 :: .ref m8 :: .int q9 :: .int q10 :: .int q11 :: .int ((nI dg) - 1) :: .int q13 :: .int q14 :: .int q15 :: .int q16 :: .int q17 :: .int q18 :: .int q19 :: .int q20 :: .ref m21 :: .ref m22 :: .ref m23 :: .ref m24 :: .int (nI nb) :: .int (nI ln) :: .int (nI po) :: .int q28 :: .int (nI tk) :: .ref m30 :: .ref m31 :: .int (nI we) :: .int q33 :: [])), (m31, .inl (cI, 11, .inl d31))] := hD
  have hl : lv_has ls 4 [(3, .int (nI t)), (2, .int (lp (F_X8_inForce_L4 d31 day) t (-1))), (0, .ref mA), (1, .int day)] := hl
  generalize hs_t : lp (F_X8_inForce_L4 d31 day) t (-1) = sv1 at hl
  refine lv_iload_n hx hb dX8_inForce_4 rfl (lv_at hl 0 rfl) ?_
  refine lv_aload_n hx hb dX8_inForce_5 rfl (lv_at hl 2 rfl) ?_
  refine va_get (D := D) (ci := 8) (v := .int (nI tk)) (C := RX8) (T := TX8) (N := 34) hx hb hts hiX8 hown hB.1 hP 0 rfl rfl 29 (by decide) (hts _ (List.mem_of_getElem? (i := 1) rfl)) (fun _ h9 => h9) rfl dX8_inForce_6 ?_
  refine lv_icmp_ge (tgt := 30) hx hb dX8_inForce_9 (by decide) (fun c_2 => ?_) (fun c_2 => ?_)
  · have hx_t : tk = t := Eq.symm (le_ex (by omega) h_t c_2)
    subst hx_t
    subst hs_t
    refine lv_iload_n hx hb dX8_inForce_30 rfl (lv_at hl 1 rfl) ?_
    have er : F_X8_inForce tk d31 day = (lp (F_X8_inForce_L4 d31 day) tk (-1)) := by rw [F_X8_inForce]
    exact W.iret hx hb hr (fun t ht hW => ⟨⟨_, (), rfl, er.symm, by rw [ht]; exact hP, hD⟩, hS.F ht⟩) hS.2.2 dX8_inForce_31
  · have hlt_t : t < tk := le_go (by omega) h_t c_2
    refine lv_aload_n hx hb dX8_inForce_12 rfl (lv_at hl 2 rfl) ?_
    refine va_get (D := D) (ci := 8) (v := .ref m31) (C := RX8) (T := TX8) (N := 34) hx hb hts hiX8 hown hB.1 hP 0 rfl rfl 31 (by decide) (hts _ (List.mem_of_getElem? (i := 2) rfl)) (fun _ h9 => h9) rfl dX8_inForce_13 ?_
    refine lv_iload_n hx hb dX8_inForce_16 rfl (lv_at hl 0 rfl) ?_
    refine ra_i hx hb hB.1 hP 1 rfl t rfl (by omega) (by decide) dX8_inForce_17 ?_
    refine lv_iload_n hx hb dX8_inForce_18 rfl (lv_at hl 3 rfl) ?_
    refine lv_icmp_gt (tgt := 24) hx hb dX8_inForce_19 (by decide) (fun c_3 => ?_) (fun c_3 => ?_)
    · refine lv_iinc (v := nI (t + 1)) (lv' := [(3, .int (nI (t + 1))), (2, .int sv1), (0, .ref mA), (1, .int day)]) hx hb dX8_inForce_24 hl (k := 0) rfl (nI_1 _) (by decide) rfl (fun ls hl => ?_)
      refine lv_goto (tgt := 4) hx hb dX8_inForce_27 (by decide) ?_
      have e_step : F_X8_inForce_L4 d31 day t sv1 = sv1 := by rw [F_X8_inForce_L4, if_pos c_3]
      have hP2 : va_P D vwCl [(mA, .inr (8, .int (nI nr) :: .int (nI np) :: .ref m2 :: .ref m3 :: .ref m4 :: .ref m5 :: .ref m6 :: .ref m7 :: .ref m8 :: .int q9 :: .int q10 :: .int q11 :: .int ((nI dg) - 1) :: .int q13 :: .int q14 :: .int q15 :: .int q16 :: .int q17 :: .int q18 :: .int q19 :: .int q20 :: .ref m21 :: .ref m22 :: .ref m23 :: .ref m24 :: .int (nI nb) :: .int (nI ln) :: .int (nI po) :: .int q28 :: .int (nI tk) :: .ref m30 :: .ref m31 :: .int (nI we) :: .int q33 :: [])), (m31, .inl (cI, 11, .inl d31))] H := hP
      have hD2 : va_D A [(mA, .inr (8, .int (nI nr) :: .int (nI np) :: .ref m2 :: .ref m3 :: .ref m4 :: .ref m5 :: .ref m6 :: .ref m7 :: .ref m8 :: .int q9 :: .int q10 :: .int q11 :: .int ((nI dg) - 1) :: .int q13 :: .int q14 :: .int q15 :: .int q16 :: .int q17 :: .int q18 :: .int q19 :: .int q20 :: .ref m21 :: .ref m22 :: .ref m23 :: .ref m24 :: .int (nI nb) :: .int (nI ln) :: .int (nI po) :: .int q28 :: .int (nI tk) :: .ref m30 :: .ref m31 :: .int (nI we) :: .int q33 :: [])), (m31, .inl (cI, 11, .inl d31))] := hD
      have hl2 : lv_has ls 4 [(3, .int (nI (t + 1))), (2, .int (F_X8_inForce_L4 d31 day t sv1)), (0, .ref mA), (1, .int day)] := by rw [e_step]; exact lv_sub hl [0, 1, 2, 3] rfl
      subst hs_t
      exact ih_t (t + 1) (by omega) (by omega) _ _ _ hP2 hD2 hS hl2
    · refine lv_iload_n hx hb dX8_inForce_22 rfl (lv_at hl 0 rfl) ?_
      refine lv_istore_n (lv' := [(2, .int (nI t)), (3, .int (nI t)), (0, .ref mA), (1, .int day)]) hx hb dX8_inForce_23 rfl hl (by decide) rfl (fun ls hl => ?_)
      refine lv_iinc (v := nI (t + 1)) (lv' := [(3, .int (nI (t + 1))), (2, .int (nI t)), (0, .ref mA), (1, .int day)]) hx hb dX8_inForce_24 hl (k := 1) rfl (nI_1 _) (by decide) rfl (fun ls hl => ?_)
      refine lv_goto (tgt := 4) hx hb dX8_inForce_27 (by decide) ?_
      have e_step : F_X8_inForce_L4 d31 day t sv1 = nI t := by rw [F_X8_inForce_L4, if_neg c_3]
      have hP2 : va_P D vwCl [(mA, .inr (8, .int (nI nr) :: .int (nI np) :: .ref m2 :: .ref m3 :: .ref m4 :: .ref m5 :: .ref m6 :: .ref m7 :: .ref m8 :: .int q9 :: .int q10 :: .int q11 :: .int ((nI dg) - 1) :: .int q13 :: .int q14 :: .int q15 :: .int q16 :: .int q17 :: .int q18 :: .int q19 :: .int q20 :: .ref m21 :: .ref m22 :: .ref m23 :: .ref m24 :: .int (nI nb) :: .int (nI ln) :: .int (nI po) :: .int q28 :: .int (nI tk) :: .ref m30 :: .ref m31 :: .int (nI we) :: .int q33 :: [])), (m31, .inl (cI, 11, .inl d31))] H := hP
      have hD2 : va_D A [(mA, .inr (8, .int (nI nr) :: .int (nI np) :: .ref m2 :: .ref m3 :: .ref m4 :: .ref m5 :: .ref m6 :: .ref m7 :: .ref m8 :: .int q9 :: .int q10 :: .int q11 :: .int ((nI dg) - 1) :: .int q13 :: .int q14 :: .int q15 :: .int q16 :: .int q17 :: .int q18 :: .int q19 :: .int q20 :: .ref m21 :: .ref m22 :: .ref m23 :: .ref m24 :: .int (nI nb) :: .int (nI ln) :: .int (nI po) :: .int q28 :: .int (nI tk) :: .ref m30 :: .ref m31 :: .int (nI we) :: .int q33 :: [])), (m31, .inl (cI, 11, .inl d31))] := hD
      have hl2 : lv_has ls 4 [(3, .int (nI (t + 1))), (2, .int (F_X8_inForce_L4 d31 day t sv1)), (0, .ref mA), (1, .int day)] := by rw [e_step]; exact lv_sub hl [0, 1, 2, 3] rfl
      subst hs_t
      exact ih_t (t + 1) (by omega) (by omega) _ _ _ hP2 hD2 hS hl2

theorem mIn_eq {d31 : Nat → Int32} {day : Int32} : ∀ t : Nat, lp (F_X8_inForce_L4 d31 day) t (-1) = lawAt d31 day t
  | 0 => rfl
  | t + 1 => by
    rw [lp_s, mIn_eq t]
    by_cases c : day < d31 t
    · rw [F_X8_inForce_L4, if_pos c, lawAt_up c]
    · rw [F_X8_inForce_L4, if_neg c, lawAt_upn c]
theorem inF_eq {tk : Nat} {d31 : Nat → Int32} {day : Int32} : F_X8_inForce tk d31 day = lawAt d31 day tk := mIn_eq tk
def F_X8_tellsOn (tk : Nat) (d30 : Nat → Int32) (d31 : Nat → Int32) (day : Int32) (wt : Nat) : Int32 :=
  if (F_X8_inForce tk d31 day) = (-1) then F_X8_plain (nI wt) else
  d30 ((7 * ((F_X8_inForce tk d31 day).toNatClampNeg)) + wt)
set_option maxHeartbeats 4000000 in
set_option maxRecDepth 100000 in
theorem c_X8_tellsOn (l : Launch) {D : va_G} {cI cZ cB : ClassId} {au : Nat} {kA kV : Nat → Nat} {z0 : Nat} (sz : Nat) (mA : Nat) (m2 : Nat) (m3 : Nat) (m4 : Nat) (m5 : Nat) (m6 : Nat) (m7 : Nat) (m8 : Nat) (m21 : Nat) (m22 : Nat) (m23 : Nat) (m24 : Nat) (m30 : Nat) (m31 : Nat) (q9 : Int32) (q10 : Int32) (q11 : Int32) (q13 : Int32) (q14 : Int32) (q15 : Int32) (q16 : Int32) (q17 : Int32) (q18 : Int32) (q19 : Int32) (q20 : Int32) (q28 : Int32) (q33 : Int32) (nr : Nat) (np : Nat) (nb : Nat) (ln : Nat) (po : Nat) (tk : Nat) (we : Nat) (dg : Nat) (d30 : Nat → Int32) (d31 : Nat → Int32) (day : Int32) (what : Int32) (wt : Nat) (h20 : nr ≤ 20) (h2r : 2 ≤ nr) (h2p : 2 ≤ np) (h8 : np ≤ 8) (htk : tk ≤ 10) (e_wt : what = nI wt) (hwt : wt < 7) : Met l yX8_tellsOn wsX8_tellsOn ({ frames := 1, cells := 0, slots := 0, locals := 23 }) (va_Pc [.ref mA, .int day, .int what] (PRE D cI cZ cB au kA kV z0 sz [(mA, .inr (8, .int (nI nr) :: .int (nI np) :: .ref m2 :: .ref m3 :: .ref m4 :: .ref m5 :: .ref m6 :: .ref m7 :: .ref m8 :: .int q9 :: .int q10 :: .int q11 :: .int ((nI dg) - 1) :: .int q13 :: .int q14 :: .int q15 :: .int q16 :: .int q17 :: .int q18 :: .int q19 :: .int q20 :: .ref m21 :: .ref m22 :: .ref m23 :: .ref m24 :: .int (nI nb) :: .int (nI ln) :: .int (nI po) :: .int q28 :: .int (nI tk) :: .ref m30 :: .ref m31 :: .int (nI we) :: .int q33 :: [])), (m30, .inl (cI, 77, .inl d30)), (m31, .inl (cI, 11, .inl d31))])) (QI D [(mA, .inr (8, .int (nI nr) :: .int (nI np) :: .ref m2 :: .ref m3 :: .ref m4 :: .ref m5 :: .ref m6 :: .ref m7 :: .ref m8 :: .int q9 :: .int q10 :: .int q11 :: .int ((nI dg) - 1) :: .int q13 :: .int q14 :: .int q15 :: .int q16 :: .int q17 :: .int q18 :: .int q19 :: .int q20 :: .ref m21 :: .ref m22 :: .ref m23 :: .ref m24 :: .int (nI nb) :: .int (nI ln) :: .int (nI po) :: .int q28 :: .int (nI tk) :: .ref m30 :: .ref m31 :: .int (nI we) :: .int q33 :: [])), (m30, .inl (cI, 77, .inl d30)), (m31, .inl (cI, 11, .inl d31))] sz (F_X8_tellsOn tk d30 d31 day wt) [(mA, .inr (8, .int (nI nr) :: .int (nI np) :: .ref m2 :: .ref m3 :: .ref m4 :: .ref m5 :: .ref m6 :: .ref m7 :: .ref m8 :: .int q9 :: .int q10 :: .int q11 :: .int ((nI dg) - 1) :: .int q13 :: .int q14 :: .int q15 :: .int q16 :: .int q17 :: .int q18 :: .int q19 :: .int q20 :: .ref m21 :: .ref m22 :: .ref m23 :: .ref m24 :: .int (nI nb) :: .int (nI ln) :: .int (nI po) :: .int q28 :: .int (nI tk) :: .ref m30 :: .ref m31 :: .int (nI we) :: .int q33 :: [])), (m30, .inl (cI, 77, .inl d30)), (m31, .inl (cI, 11, .inl d31))]) 0 0 (va_A [(mA, .inr (8, .int (nI nr) :: .int (nI np) :: .ref m2 :: .ref m3 :: .ref m4 :: .ref m5 :: .ref m6 :: .ref m7 :: .ref m8 :: .int q9 :: .int q10 :: .int q11 :: .int ((nI dg) - 1) :: .int q13 :: .int q14 :: .int q15 :: .int q16 :: .int q17 :: .int q18 :: .int q19 :: .int q20 :: .ref m21 :: .ref m22 :: .ref m23 :: .ref m24 :: .int (nI nb) :: .int (nI ln) :: .int (nI po) :: .int q28 :: .int (nI tk) :: .ref m30 :: .ref m31 :: .int (nI we) :: .int q33 :: [])), (m30, .inl (cI, 77, .inl d30)), (m31, .inl (cI, 11, .inl d31))] sz) := by
  subst e_wt
  refine Met.ofW (cc := cX8_tellsOn) (maxL := 4) (ret := (some .int)) (by decide) rfl ?_
  intro p e s m args below meth c s₁ B hml hv
  obtain ⟨rfl, hsz, hz, hP, hD0, hB⟩ := hv
  have hx := B.exec
  have hb := B.bytes
  have hr := B.returns
  have hts := atoms_spec (ws := wsX8_tellsOn) B.pre
  have hown : s.vm.findClass RX8 = some m.cls := findClass_of_methodNamed B.named
  have hlocks := B.notSynchronized
  subst hsz
  have hD := hD0.self (sz := s.heap.size)
  have hA0 := va_A0 hD0 hz
  unfold QI
  generalize hAe : va_A [(mA, .inr (8, .int (nI nr) :: .int (nI np) :: .ref m2 :: .ref m3 :: .ref m4 :: .ref m5 :: .ref m6 :: .ref m7 :: .ref m8 :: .int q9 :: .int q10 :: .int q11 :: .int ((nI dg) - 1) :: .int q13 :: .int q14 :: .int q15 :: .int q16 :: .int q17 :: .int q18 :: .int q19 :: .int q20 :: .ref m21 :: .ref m22 :: .ref m23 :: .ref m24 :: .int (nI nb) :: .int (nI ln) :: .int (nI po) :: .int q28 :: .int (nI tk) :: .ref m30 :: .ref m31 :: .int (nI we) :: .int q33 :: [])), (m30, .inl (cI, 77, .inl d30)), (m31, .inl (cI, 11, .inl d31))] s.heap.size = A at hD hA0 ⊢
  have hA : ∀ q : Nat, s.heap.size ≤ q → A q := fun q h => by rw [← hAe]; exact Or.inr h
  have hS : va_S A s.heap s.heap [] := va_S.rf
  have hiX8 : ∀ w ∈ wsX80, w ∈ wsX8_tellsOn := fun w h => List.mem_cons_of_mem _ (List.mem_append_right _ h)
  have hl := lv_entry ([.ref mA, .int day, .int (nI wt)]) (n := 4) (Nat.le_of_ble_eq_true rfl)
  rw [lg_entry_eq]
  generalize (lg_sl ([.ref mA, .int day, .int (nI wt)]) ++ List.replicate (4 - (lg_sl ([.ref mA, .int day, .int (nI wt)])).length) Slot.unset).toArray = ls at hl ⊢
  have hl : lv_has ls 4 [(0, .ref mA), (1, .int day), (2, .int (nI wt))] := hl
  refine lv_aload_n hx hb dX8_tellsOn_0 rfl (lv_at hl 0 rfl) ?_
  refine lv_iload_n hx hb dX8_tellsOn_1 rfl (lv_at hl 1 rfl) ?_
  refine k_i (w2 := [(mA, .inr (8, .int (nI nr) :: .int (nI np) :: .ref m2 :: .ref m3 :: .ref m4 :: .ref m5 :: .ref m6 :: .ref m7 :: .ref m8 :: .int q9 :: .int q10 :: .int q11 :: .int ((nI dg) - 1) :: .int q13 :: .int q14 :: .int q15 :: .int q16 :: .int q17 :: .int q18 :: .int q19 :: .int q20 :: .ref m21 :: .ref m22 :: .ref m23 :: .ref m24 :: .int (nI nb) :: .int (nI ln) :: .int (nI po) :: .int q28 :: .int (nI tk) :: .ref m30 :: .ref m31 :: .int (nI we) :: .int q33 :: [])), (m30, .inl (cI, 77, .inl d30)), (m31, .inl (cI, 11, .inl d31))]) (va_runV (As := [.int day]) (rest := []) ⟨hx, hb, hml, hown, hts⟩ (c_X8_inForce l _ mA m2 m3 m4 m5 m6 m7 m8 m21 m22 m23 m24 m30 m31 q9 q10 q11 q13 q14 q15 q16 q17 q18 q19 q20 q28 q33 nr np nb ln po tk we dg d31 day h20 h2r h2p h8 htk) (cwV 1 hts gX8_tellsOn_X8_inForce rfl rfl rfl (by decide +kernel) ⟨Nat.le_of_ble_eq_true rfl, Nat.le_of_ble_eq_true rfl⟩) (pre_V (ci := 8) (q0 := 0) hB hz hA0 hP hD hS [0, 2] rfl rfl rfl rfl rfl) rfl rfl hl.1 rfl (lv_room (Nat.le_of_ble_eq_true rfl)) dX8_tellsOn_2 ⟨Nat.zero_le _, Nat.zero_le _⟩) hP hD hS hA [0, 2] [1] [1, 0, 2] rfl rfl rfl rfl rfl (fun H locs hP hD hS => ?_)
  refine lv_istore_n (lv' := [(3, .int (F_X8_inForce tk d31 day)), (0, .ref mA), (1, .int day), (2, .int (nI wt))]) hx hb dX8_tellsOn_5 rfl hl (by decide) rfl (fun ls hl => ?_)
  refine lv_iload_n hx hb dX8_tellsOn_6 rfl (lv_at hl 0 rfl) ?_
  refine lv_iconst (v := (-1)) hx hb dX8_tellsOn_7 (by decide) ?_
  refine lv_icmp_ne (tgt := 18) hx hb dX8_tellsOn_8 (by decide) (fun c_1 => ?_) (fun c_1 => ?_)
  · obtain ⟨hn1, hn2⟩ := lawAt_nat (n := tk) (by omega) (by rw [← inF_eq]; exact c_1)
    rw [← inF_eq] at hn1 hn2
    refine lv_aload_n hx hb dX8_tellsOn_18 rfl (lv_at hl 1 rfl) ?_
    refine va_get (D := D) (ci := 8) (v := .ref m30) (C := RX8) (T := TX8) (N := 34) hx hb hts hiX8 hown hB.1 hP 0 rfl rfl 30 (by decide) (hts _ (List.mem_of_getElem? (i := 1) rfl)) (fun _ h9 => h9) rfl dX8_tellsOn_19 ?_
    refine lv_bipush (v := 7) hx hb dX8_tellsOn_22 (by decide) ?_
    refine lv_iload_n hx hb dX8_tellsOn_24 rfl (lv_at hl 0 rfl) ?_
    refine lv_imul hx hb dX8_tellsOn_25 ?_
    refine lv_iload_n hx hb dX8_tellsOn_26 rfl (lv_at hl 3 rfl) ?_
    refine lv_iadd hx hb dX8_tellsOn_27 ?_
    refine ra_i hx hb hB.1 hP 1 rfl ((7 * ((F_X8_inForce tk d31 day).toNatClampNeg)) + wt) (nx_add (nx_mul rfl hn1) rfl) (by omega) (by decide) dX8_tellsOn_28 ?_
    have er : F_X8_tellsOn tk d30 d31 day wt = d30 ((7 * ((F_X8_inForce tk d31 day).toNatClampNeg)) + wt) := by rw [F_X8_tellsOn, if_neg c_1]
    exact W.iret hx hb hr (fun t ht hW => ⟨⟨_, (), rfl, er.symm, by rw [ht]; exact hP, hD⟩, hS.F ht⟩) hS.2.2 dX8_tellsOn_29
  · refine lv_iload_n hx hb dX8_tellsOn_11 rfl (lv_at hl 3 rfl) ?_
    refine k_i (w2 := [(mA, .inr (8, .int (nI nr) :: .int (nI np) :: .ref m2 :: .ref m3 :: .ref m4 :: .ref m5 :: .ref m6 :: .ref m7 :: .ref m8 :: .int q9 :: .int q10 :: .int q11 :: .int ((nI dg) - 1) :: .int q13 :: .int q14 :: .int q15 :: .int q16 :: .int q17 :: .int q18 :: .int q19 :: .int q20 :: .ref m21 :: .ref m22 :: .ref m23 :: .ref m24 :: .int (nI nb) :: .int (nI ln) :: .int (nI po) :: .int q28 :: .int (nI tk) :: .ref m30 :: .ref m31 :: .int (nI we) :: .int q33 :: [])), (m30, .inl (cI, 77, .inl d30)), (m31, .inl (cI, 11, .inl d31))]) (va_runS (As := [.int (nI wt)]) (rest := []) ⟨hx, hb, hml, hown, hts⟩ (c_X8_plain l _ (nI wt)) (va_cwS 1 hts gX8_tellsOn_X8_plain rfl rfl rfl (by decide +kernel) ⟨Nat.le_of_ble_eq_true rfl, Nat.le_of_ble_eq_true rfl⟩) (pre_S hB hz hA0 hP hD hS [] rfl rfl) rfl rfl hl.1 rfl (lv_room (Nat.le_of_ble_eq_true rfl)) dX8_tellsOn_12 ⟨Nat.zero_le _, Nat.zero_le _⟩) hP hD hS hA [] [0, 1, 2] [0, 1, 2] rfl rfl rfl rfl rfl (fun H locs hP hD hS => ?_)
    refine lv_goto (tgt := 29) hx hb dX8_tellsOn_15 (by decide) ?_
    have er : F_X8_tellsOn tk d30 d31 day wt = F_X8_plain (nI wt) := by rw [F_X8_tellsOn, if_pos c_1]
    exact W.iret hx hb hr (fun t ht hW => ⟨⟨_, (), rfl, er.symm, by rw [ht]; exact hP, hD⟩, hS.F ht⟩) hS.2.2 dX8_tellsOn_29

set_option maxHeartbeats 4000000 in
set_option maxRecDepth 100000 in
theorem c_X8_now (l : Launch) {D : va_G} {cI cZ cB : ClassId} {au : Nat} {kA kV : Nat → Nat} {z0 : Nat} (sz : Nat) (mA : Nat) (m2 : Nat) (m3 : Nat) (m4 : Nat) (m5 : Nat) (m6 : Nat) (m7 : Nat) (m8 : Nat) (m21 : Nat) (m22 : Nat) (m23 : Nat) (m24 : Nat) (m30 : Nat) (m31 : Nat) (q9 : Int32) (q10 : Int32) (q11 : Int32) (q13 : Int32) (q14 : Int32) (q15 : Int32) (q16 : Int32) (q17 : Int32) (q18 : Int32) (q19 : Int32) (q20 : Int32) (q28 : Int32) (q33 : Int32) (nr : Nat) (np : Nat) (nb : Nat) (ln : Nat) (po : Nat) (tk : Nat) (we : Nat) (dg : Nat) (d30 : Nat → Int32) (d31 : Nat → Int32) (what : Int32) (wt : Nat) (h20 : nr ≤ 20) (h2r : 2 ≤ nr) (h2p : 2 ≤ np) (h8 : np ≤ 8) (htk : tk ≤ 10) (e_wt : what = nI wt) (hwt : wt < 7) : Met l yX8_now wsX8_now ({ frames := 2, cells := 0, slots := 0, locals := 46 }) (va_Pc [.ref mA, .int what] (PRE D cI cZ cB au kA kV z0 sz [(mA, .inr (8, .int (nI nr) :: .int (nI np) :: .ref m2 :: .ref m3 :: .ref m4 :: .ref m5 :: .ref m6 :: .ref m7 :: .ref m8 :: .int q9 :: .int q10 :: .int q11 :: .int ((nI dg) - 1) :: .int q13 :: .int q14 :: .int q15 :: .int q16 :: .int q17 :: .int q18 :: .int q19 :: .int q20 :: .ref m21 :: .ref m22 :: .ref m23 :: .ref m24 :: .int (nI nb) :: .int (nI ln) :: .int (nI po) :: .int q28 :: .int (nI tk) :: .ref m30 :: .ref m31 :: .int (nI we) :: .int q33 :: [])), (m30, .inl (cI, 77, .inl d30)), (m31, .inl (cI, 11, .inl d31))])) (QI D [(mA, .inr (8, .int (nI nr) :: .int (nI np) :: .ref m2 :: .ref m3 :: .ref m4 :: .ref m5 :: .ref m6 :: .ref m7 :: .ref m8 :: .int q9 :: .int q10 :: .int q11 :: .int ((nI dg) - 1) :: .int q13 :: .int q14 :: .int q15 :: .int q16 :: .int q17 :: .int q18 :: .int q19 :: .int q20 :: .ref m21 :: .ref m22 :: .ref m23 :: .ref m24 :: .int (nI nb) :: .int (nI ln) :: .int (nI po) :: .int q28 :: .int (nI tk) :: .ref m30 :: .ref m31 :: .int (nI we) :: .int q33 :: [])), (m30, .inl (cI, 77, .inl d30)), (m31, .inl (cI, 11, .inl d31))] sz (F_X8_tellsOn tk d30 d31 q11 wt) [(mA, .inr (8, .int (nI nr) :: .int (nI np) :: .ref m2 :: .ref m3 :: .ref m4 :: .ref m5 :: .ref m6 :: .ref m7 :: .ref m8 :: .int q9 :: .int q10 :: .int q11 :: .int ((nI dg) - 1) :: .int q13 :: .int q14 :: .int q15 :: .int q16 :: .int q17 :: .int q18 :: .int q19 :: .int q20 :: .ref m21 :: .ref m22 :: .ref m23 :: .ref m24 :: .int (nI nb) :: .int (nI ln) :: .int (nI po) :: .int q28 :: .int (nI tk) :: .ref m30 :: .ref m31 :: .int (nI we) :: .int q33 :: [])), (m30, .inl (cI, 77, .inl d30)), (m31, .inl (cI, 11, .inl d31))]) 0 0 (va_A [(mA, .inr (8, .int (nI nr) :: .int (nI np) :: .ref m2 :: .ref m3 :: .ref m4 :: .ref m5 :: .ref m6 :: .ref m7 :: .ref m8 :: .int q9 :: .int q10 :: .int q11 :: .int ((nI dg) - 1) :: .int q13 :: .int q14 :: .int q15 :: .int q16 :: .int q17 :: .int q18 :: .int q19 :: .int q20 :: .ref m21 :: .ref m22 :: .ref m23 :: .ref m24 :: .int (nI nb) :: .int (nI ln) :: .int (nI po) :: .int q28 :: .int (nI tk) :: .ref m30 :: .ref m31 :: .int (nI we) :: .int q33 :: [])), (m30, .inl (cI, 77, .inl d30)), (m31, .inl (cI, 11, .inl d31))] sz) := by
  subst e_wt
  refine Met.ofW (cc := cX8_now) (maxL := 2) (ret := (some .int)) (by decide) rfl ?_
  intro p e s m args below meth c s₁ B hml hv
  obtain ⟨rfl, hsz, hz, hP, hD0, hB⟩ := hv
  have hx := B.exec
  have hb := B.bytes
  have hr := B.returns
  have hts := atoms_spec (ws := wsX8_now) B.pre
  have hown : s.vm.findClass RX8 = some m.cls := findClass_of_methodNamed B.named
  have hlocks := B.notSynchronized
  subst hsz
  have hD := hD0.self (sz := s.heap.size)
  have hA0 := va_A0 hD0 hz
  unfold QI
  generalize hAe : va_A [(mA, .inr (8, .int (nI nr) :: .int (nI np) :: .ref m2 :: .ref m3 :: .ref m4 :: .ref m5 :: .ref m6 :: .ref m7 :: .ref m8 :: .int q9 :: .int q10 :: .int q11 :: .int ((nI dg) - 1) :: .int q13 :: .int q14 :: .int q15 :: .int q16 :: .int q17 :: .int q18 :: .int q19 :: .int q20 :: .ref m21 :: .ref m22 :: .ref m23 :: .ref m24 :: .int (nI nb) :: .int (nI ln) :: .int (nI po) :: .int q28 :: .int (nI tk) :: .ref m30 :: .ref m31 :: .int (nI we) :: .int q33 :: [])), (m30, .inl (cI, 77, .inl d30)), (m31, .inl (cI, 11, .inl d31))] s.heap.size = A at hD hA0 ⊢
  have hA : ∀ q : Nat, s.heap.size ≤ q → A q := fun q h => by rw [← hAe]; exact Or.inr h
  have hS : va_S A s.heap s.heap [] := va_S.rf
  have hiX8 : ∀ w ∈ wsX80, w ∈ wsX8_now := fun w h => List.mem_cons_of_mem _ (List.mem_append_right _ h)
  have hl := lv_entry ([.ref mA, .int (nI wt)]) (n := 2) (Nat.le_of_ble_eq_true rfl)
  rw [lg_entry_eq]
  generalize (lg_sl ([.ref mA, .int (nI wt)]) ++ List.replicate (2 - (lg_sl ([.ref mA, .int (nI wt)])).length) Slot.unset).toArray = ls at hl ⊢
  have hl : lv_has ls 2 [(0, .ref mA), (1, .int (nI wt))] := hl
  refine lv_aload_n hx hb dX8_now_0 rfl (lv_at hl 0 rfl) ?_
  refine lv_aload_n hx hb dX8_now_1 rfl (lv_at hl 0 rfl) ?_
  refine va_get (D := D) (ci := 8) (v := .int q11) (C := RX8) (T := TX8) (N := 34) hx hb hts hiX8 hown hB.1 hP 0 rfl rfl 11 (by decide) (hts _ (List.mem_of_getElem? (i := 1) rfl)) (fun _ h9 => h9) rfl dX8_now_2 ?_
  refine lv_iload_n hx hb dX8_now_5 rfl (lv_at hl 1 rfl) ?_
  refine k_i (w2 := [(mA, .inr (8, .int (nI nr) :: .int (nI np) :: .ref m2 :: .ref m3 :: .ref m4 :: .ref m5 :: .ref m6 :: .ref m7 :: .ref m8 :: .int q9 :: .int q10 :: .int q11 :: .int ((nI dg) - 1) :: .int q13 :: .int q14 :: .int q15 :: .int q16 :: .int q17 :: .int q18 :: .int q19 :: .int q20 :: .ref m21 :: .ref m22 :: .ref m23 :: .ref m24 :: .int (nI nb) :: .int (nI ln) :: .int (nI po) :: .int q28 :: .int (nI tk) :: .ref m30 :: .ref m31 :: .int (nI we) :: .int q33 :: [])), (m30, .inl (cI, 77, .inl d30)), (m31, .inl (cI, 11, .inl d31))]) (va_runV (As := [.int q11, .int (nI wt)]) (rest := []) ⟨hx, hb, hml, hown, hts⟩ (c_X8_tellsOn l _ mA m2 m3 m4 m5 m6 m7 m8 m21 m22 m23 m24 m30 m31 q9 q10 q11 q13 q14 q15 q16 q17 q18 q19 q20 q28 q33 nr np nb ln po tk we dg d30 d31 q11 (nI wt) wt h20 h2r h2p h8 htk rfl hwt) (cwV 2 hts gX8_now_X8_tellsOn rfl rfl rfl (by decide +kernel) ⟨Nat.le_of_ble_eq_true rfl, Nat.le_of_ble_eq_true rfl⟩) (pre_V (ci := 8) (q0 := 0) hB hz hA0 hP hD hS [0, 1, 2] rfl rfl rfl rfl rfl) rfl rfl hl.1 rfl (lv_room (Nat.le_of_ble_eq_true rfl)) dX8_now_6 ⟨Nat.zero_le _, Nat.zero_le _⟩) hP hD hS hA [0, 1, 2] [] [0, 1, 2] rfl rfl rfl rfl rfl (fun H locs hP hD hS => ?_)
  exact W.iret hx hb hr (fun t ht hW => ⟨⟨_, (), rfl, rfl, by rw [ht]; exact hP, hD⟩, hS.F ht⟩) hS.2.2 dX8_now_9

def F_X8_tells (tk : Nat) (d30 : Nat → Int32) (d31 : Nat → Int32) (day : Int32) (what : Int32) : Int32 :=
  if (F_X8_isIn day 0 600) = 0 then (-1) else
  if (F_X8_isIn what 0 7) = 0 then (-1) else
  if what = 7 then F_X8_inForce tk d31 day else
  F_X8_tellsOn tk d30 d31 day what.toNatClampNeg
set_option maxHeartbeats 4000000 in
set_option maxRecDepth 100000 in
theorem c_X8_tells (l : Launch) {D : va_G} {cI cZ cB : ClassId} {au : Nat} {kA kV : Nat → Nat} {z0 : Nat} (sz : Nat) (mA : Nat) (m2 : Nat) (m3 : Nat) (m4 : Nat) (m5 : Nat) (m6 : Nat) (m7 : Nat) (m8 : Nat) (m21 : Nat) (m22 : Nat) (m23 : Nat) (m24 : Nat) (m30 : Nat) (m31 : Nat) (q9 : Int32) (q10 : Int32) (q11 : Int32) (q13 : Int32) (q14 : Int32) (q15 : Int32) (q16 : Int32) (q17 : Int32) (q18 : Int32) (q19 : Int32) (q20 : Int32) (q28 : Int32) (q33 : Int32) (nr : Nat) (np : Nat) (nb : Nat) (ln : Nat) (po : Nat) (tk : Nat) (we : Nat) (dg : Nat) (d30 : Nat → Int32) (d31 : Nat → Int32) (day : Int32) (what : Int32) (h20 : nr ≤ 20) (h2r : 2 ≤ nr) (h2p : 2 ≤ np) (h8 : np ≤ 8) (htk : tk ≤ 10) : Met l yX8_tells wsX8_tells ({ frames := 2, cells := 0, slots := 0, locals := 46 }) (va_Pc [.ref mA, .int day, .int what] (PRE D cI cZ cB au kA kV z0 sz [(mA, .inr (8, .int (nI nr) :: .int (nI np) :: .ref m2 :: .ref m3 :: .ref m4 :: .ref m5 :: .ref m6 :: .ref m7 :: .ref m8 :: .int q9 :: .int q10 :: .int q11 :: .int ((nI dg) - 1) :: .int q13 :: .int q14 :: .int q15 :: .int q16 :: .int q17 :: .int q18 :: .int q19 :: .int q20 :: .ref m21 :: .ref m22 :: .ref m23 :: .ref m24 :: .int (nI nb) :: .int (nI ln) :: .int (nI po) :: .int q28 :: .int (nI tk) :: .ref m30 :: .ref m31 :: .int (nI we) :: .int q33 :: [])), (m30, .inl (cI, 77, .inl d30)), (m31, .inl (cI, 11, .inl d31))])) (QI D [(mA, .inr (8, .int (nI nr) :: .int (nI np) :: .ref m2 :: .ref m3 :: .ref m4 :: .ref m5 :: .ref m6 :: .ref m7 :: .ref m8 :: .int q9 :: .int q10 :: .int q11 :: .int ((nI dg) - 1) :: .int q13 :: .int q14 :: .int q15 :: .int q16 :: .int q17 :: .int q18 :: .int q19 :: .int q20 :: .ref m21 :: .ref m22 :: .ref m23 :: .ref m24 :: .int (nI nb) :: .int (nI ln) :: .int (nI po) :: .int q28 :: .int (nI tk) :: .ref m30 :: .ref m31 :: .int (nI we) :: .int q33 :: [])), (m30, .inl (cI, 77, .inl d30)), (m31, .inl (cI, 11, .inl d31))] sz (F_X8_tells tk d30 d31 day what) [(mA, .inr (8, .int (nI nr) :: .int (nI np) :: .ref m2 :: .ref m3 :: .ref m4 :: .ref m5 :: .ref m6 :: .ref m7 :: .ref m8 :: .int q9 :: .int q10 :: .int q11 :: .int ((nI dg) - 1) :: .int q13 :: .int q14 :: .int q15 :: .int q16 :: .int q17 :: .int q18 :: .int q19 :: .int q20 :: .ref m21 :: .ref m22 :: .ref m23 :: .ref m24 :: .int (nI nb) :: .int (nI ln) :: .int (nI po) :: .int q28 :: .int (nI tk) :: .ref m30 :: .ref m31 :: .int (nI we) :: .int q33 :: [])), (m30, .inl (cI, 77, .inl d30)), (m31, .inl (cI, 11, .inl d31))]) 0 0 (va_A [(mA, .inr (8, .int (nI nr) :: .int (nI np) :: .ref m2 :: .ref m3 :: .ref m4 :: .ref m5 :: .ref m6 :: .ref m7 :: .ref m8 :: .int q9 :: .int q10 :: .int q11 :: .int ((nI dg) - 1) :: .int q13 :: .int q14 :: .int q15 :: .int q16 :: .int q17 :: .int q18 :: .int q19 :: .int q20 :: .ref m21 :: .ref m22 :: .ref m23 :: .ref m24 :: .int (nI nb) :: .int (nI ln) :: .int (nI po) :: .int q28 :: .int (nI tk) :: .ref m30 :: .ref m31 :: .int (nI we) :: .int q33 :: [])), (m30, .inl (cI, 77, .inl d30)), (m31, .inl (cI, 11, .inl d31))] sz) := by
  refine Met.ofW (cc := cX8_tells) (maxL := 3) (ret := (some .int)) (by decide) rfl ?_
  intro p e s m args below meth c s₁ B hml hv
  obtain ⟨rfl, hsz, hz, hP, hD0, hB⟩ := hv
  have hx := B.exec
  have hb := B.bytes
  have hr := B.returns
  have hts := atoms_spec (ws := wsX8_tells) B.pre
  have hown : s.vm.findClass RX8 = some m.cls := findClass_of_methodNamed B.named
  have hlocks := B.notSynchronized
  subst hsz
  have hD := hD0.self (sz := s.heap.size)
  have hA0 := va_A0 hD0 hz
  unfold QI
  generalize hAe : va_A [(mA, .inr (8, .int (nI nr) :: .int (nI np) :: .ref m2 :: .ref m3 :: .ref m4 :: .ref m5 :: .ref m6 :: .ref m7 :: .ref m8 :: .int q9 :: .int q10 :: .int q11 :: .int ((nI dg) - 1) :: .int q13 :: .int q14 :: .int q15 :: .int q16 :: .int q17 :: .int q18 :: .int q19 :: .int q20 :: .ref m21 :: .ref m22 :: .ref m23 :: .ref m24 :: .int (nI nb) :: .int (nI ln) :: .int (nI po) :: .int q28 :: .int (nI tk) :: .ref m30 :: .ref m31 :: .int (nI we) :: .int q33 :: [])), (m30, .inl (cI, 77, .inl d30)), (m31, .inl (cI, 11, .inl d31))] s.heap.size = A at hD hA0 ⊢
  have hA : ∀ q : Nat, s.heap.size ≤ q → A q := fun q h => by rw [← hAe]; exact Or.inr h
  have hS : va_S A s.heap s.heap [] := va_S.rf
  have hl := lv_entry ([.ref mA, .int day, .int what]) (n := 3) (Nat.le_of_ble_eq_true rfl)
  rw [lg_entry_eq]
  generalize (lg_sl ([.ref mA, .int day, .int what]) ++ List.replicate (3 - (lg_sl ([.ref mA, .int day, .int what])).length) Slot.unset).toArray = ls at hl ⊢
  have hl : lv_has ls 3 [(0, .ref mA), (1, .int day), (2, .int what)] := hl
  refine lv_iload_n hx hb dX8_tells_0 rfl (lv_at hl 1 rfl) ?_
  refine lv_iconst (v := 0) hx hb dX8_tells_1 (by decide) ?_
  refine lv_sipush (v := 600) hx hb dX8_tells_2 (by decide) ?_
  refine k_i (w2 := [(mA, .inr (8, .int (nI nr) :: .int (nI np) :: .ref m2 :: .ref m3 :: .ref m4 :: .ref m5 :: .ref m6 :: .ref m7 :: .ref m8 :: .int q9 :: .int q10 :: .int q11 :: .int ((nI dg) - 1) :: .int q13 :: .int q14 :: .int q15 :: .int q16 :: .int q17 :: .int q18 :: .int q19 :: .int q20 :: .ref m21 :: .ref m22 :: .ref m23 :: .ref m24 :: .int (nI nb) :: .int (nI ln) :: .int (nI po) :: .int q28 :: .int (nI tk) :: .ref m30 :: .ref m31 :: .int (nI we) :: .int q33 :: [])), (m30, .inl (cI, 77, .inl d30)), (m31, .inl (cI, 11, .inl d31))]) (va_runS (As := [.int day, .int 0, .int 600]) (rest := []) ⟨hx, hb, hml, hown, hts⟩ (c_X8_isIn l _ day 0 600) (va_cwS 3 hts gX8_tells_X8_isIn rfl rfl rfl (by decide +kernel) ⟨Nat.le_of_ble_eq_true rfl, Nat.le_of_ble_eq_true rfl⟩) (pre_S hB hz hA0 hP hD hS [] rfl rfl) rfl rfl hl.1 rfl (lv_room (Nat.le_of_ble_eq_true rfl)) dX8_tells_5 ⟨Nat.zero_le _, Nat.zero_le _⟩) hP hD hS hA [] [0, 1, 2] [0, 1, 2] rfl rfl rfl rfl rfl (fun H locs hP hD hS => ?_)
  refine lv_if_eq (tgt := 21) hx hb dX8_tells_8 (by decide) (fun c_1 => ?_) (fun c_1 => ?_)
  · refine lv_iconst (v := (-1)) hx hb dX8_tells_21 (by decide) ?_
    refine lv_goto (tgt := 45) hx hb dX8_tells_22 (by decide) ?_
    have er : F_X8_tells tk d30 d31 day what = (-1) := by rw [F_X8_tells, if_pos c_1]
    exact W.iret hx hb hr (fun t ht hW => ⟨⟨_, (), rfl, er.symm, by rw [ht]; exact hP, hD⟩, hS.F ht⟩) hS.2.2 dX8_tells_45
  · refine lv_iload_n hx hb dX8_tells_11 rfl (lv_at hl 2 rfl) ?_
    refine lv_iconst (v := 0) hx hb dX8_tells_12 (by decide) ?_
    refine lv_bipush (v := 7) hx hb dX8_tells_13 (by decide) ?_
    refine k_i (w2 := [(mA, .inr (8, .int (nI nr) :: .int (nI np) :: .ref m2 :: .ref m3 :: .ref m4 :: .ref m5 :: .ref m6 :: .ref m7 :: .ref m8 :: .int q9 :: .int q10 :: .int q11 :: .int ((nI dg) - 1) :: .int q13 :: .int q14 :: .int q15 :: .int q16 :: .int q17 :: .int q18 :: .int q19 :: .int q20 :: .ref m21 :: .ref m22 :: .ref m23 :: .ref m24 :: .int (nI nb) :: .int (nI ln) :: .int (nI po) :: .int q28 :: .int (nI tk) :: .ref m30 :: .ref m31 :: .int (nI we) :: .int q33 :: [])), (m30, .inl (cI, 77, .inl d30)), (m31, .inl (cI, 11, .inl d31))]) (va_runS (As := [.int what, .int 0, .int 7]) (rest := []) ⟨hx, hb, hml, hown, hts⟩ (c_X8_isIn l _ what 0 7) (va_cwS 3 hts gX8_tells_X8_isIn rfl rfl rfl (by decide +kernel) ⟨Nat.le_of_ble_eq_true rfl, Nat.le_of_ble_eq_true rfl⟩) (pre_S hB hz hA0 hP hD hS [] rfl rfl) rfl rfl hl.1 rfl (lv_room (Nat.le_of_ble_eq_true rfl)) dX8_tells_15 ⟨Nat.zero_le _, Nat.zero_le _⟩) hP hD hS hA [] [0, 1, 2] [0, 1, 2] rfl rfl rfl rfl rfl (fun H locs hP hD hS => ?_)
    refine lv_if_ne (tgt := 25) hx hb dX8_tells_18 (by decide) (fun c_2 => ?_) (fun c_2 => ?_)
    · have hw7 := c_2
      refine lv_iload_n hx hb dX8_tells_25 rfl (lv_at hl 2 rfl) ?_
      refine lv_bipush (v := 7) hx hb dX8_tells_26 (by decide) ?_
      refine lv_icmp_ne (tgt := 39) hx hb dX8_tells_28 (by decide) (fun c_3 => ?_) (fun c_3 => ?_)
      · obtain ⟨hm1, hm2⟩ := wn_7 hw7 c_3
        refine lv_aload_n hx hb dX8_tells_39 rfl (lv_at hl 0 rfl) ?_
        refine lv_iload_n hx hb dX8_tells_40 rfl (lv_at hl 1 rfl) ?_
        refine lv_iload_n hx hb dX8_tells_41 rfl (lv_at hl 2 rfl) ?_
        refine k_i (w2 := [(mA, .inr (8, .int (nI nr) :: .int (nI np) :: .ref m2 :: .ref m3 :: .ref m4 :: .ref m5 :: .ref m6 :: .ref m7 :: .ref m8 :: .int q9 :: .int q10 :: .int q11 :: .int ((nI dg) - 1) :: .int q13 :: .int q14 :: .int q15 :: .int q16 :: .int q17 :: .int q18 :: .int q19 :: .int q20 :: .ref m21 :: .ref m22 :: .ref m23 :: .ref m24 :: .int (nI nb) :: .int (nI ln) :: .int (nI po) :: .int q28 :: .int (nI tk) :: .ref m30 :: .ref m31 :: .int (nI we) :: .int q33 :: [])), (m30, .inl (cI, 77, .inl d30)), (m31, .inl (cI, 11, .inl d31))]) (va_runV (As := [.int day, .int what]) (rest := []) ⟨hx, hb, hml, hown, hts⟩ (c_X8_tellsOn l _ mA m2 m3 m4 m5 m6 m7 m8 m21 m22 m23 m24 m30 m31 q9 q10 q11 q13 q14 q15 q16 q17 q18 q19 q20 q28 q33 nr np nb ln po tk we dg d30 d31 day what what.toNatClampNeg h20 h2r h2p h8 htk hm1 hm2) (cwV 2 hts gX8_tells_X8_tellsOn rfl rfl rfl (by decide +kernel) ⟨Nat.le_of_ble_eq_true rfl, Nat.le_of_ble_eq_true rfl⟩) (pre_V (ci := 8) (q0 := 0) hB hz hA0 hP hD hS [0, 1, 2] rfl rfl rfl rfl rfl) rfl rfl hl.1 rfl (lv_room (Nat.le_of_ble_eq_true rfl)) dX8_tells_42 ⟨Nat.zero_le _, Nat.zero_le _⟩) hP hD hS hA [0, 1, 2] [] [0, 1, 2] rfl rfl rfl rfl rfl (fun H locs hP hD hS => ?_)
        have er : F_X8_tells tk d30 d31 day what = F_X8_tellsOn tk d30 d31 day what.toNatClampNeg := by rw [F_X8_tells, if_neg c_1, if_neg c_2, if_neg c_3]
        exact W.iret hx hb hr (fun t ht hW => ⟨⟨_, (), rfl, er.symm, by rw [ht]; exact hP, hD⟩, hS.F ht⟩) hS.2.2 dX8_tells_45
      · refine lv_aload_n hx hb dX8_tells_31 rfl (lv_at hl 0 rfl) ?_
        refine lv_iload_n hx hb dX8_tells_32 rfl (lv_at hl 1 rfl) ?_
        refine k_i (w2 := [(mA, .inr (8, .int (nI nr) :: .int (nI np) :: .ref m2 :: .ref m3 :: .ref m4 :: .ref m5 :: .ref m6 :: .ref m7 :: .ref m8 :: .int q9 :: .int q10 :: .int q11 :: .int ((nI dg) - 1) :: .int q13 :: .int q14 :: .int q15 :: .int q16 :: .int q17 :: .int q18 :: .int q19 :: .int q20 :: .ref m21 :: .ref m22 :: .ref m23 :: .ref m24 :: .int (nI nb) :: .int (nI ln) :: .int (nI po) :: .int q28 :: .int (nI tk) :: .ref m30 :: .ref m31 :: .int (nI we) :: .int q33 :: [])), (m30, .inl (cI, 77, .inl d30)), (m31, .inl (cI, 11, .inl d31))]) (va_runV (As := [.int day]) (rest := []) ⟨hx, hb, hml, hown, hts⟩ (c_X8_inForce l _ mA m2 m3 m4 m5 m6 m7 m8 m21 m22 m23 m24 m30 m31 q9 q10 q11 q13 q14 q15 q16 q17 q18 q19 q20 q28 q33 nr np nb ln po tk we dg d31 day h20 h2r h2p h8 htk) (cwV 1 hts gX8_tells_X8_inForce rfl rfl rfl (by decide +kernel) ⟨Nat.le_of_ble_eq_true rfl, Nat.le_of_ble_eq_true rfl⟩) (pre_V (ci := 8) (q0 := 0) hB hz hA0 hP hD hS [0, 2] rfl rfl rfl rfl rfl) rfl rfl hl.1 rfl (lv_room (Nat.le_of_ble_eq_true rfl)) dX8_tells_33 ⟨Nat.zero_le _, Nat.zero_le _⟩) hP hD hS hA [0, 2] [1] [1, 0, 2] rfl rfl rfl rfl rfl (fun H locs hP hD hS => ?_)
        refine lv_goto (tgt := 45) hx hb dX8_tells_36 (by decide) ?_
        have er : F_X8_tells tk d30 d31 day what = F_X8_inForce tk d31 day := by rw [F_X8_tells, if_neg c_1, if_neg c_2, if_pos c_3]
        exact W.iret hx hb hr (fun t ht hW => ⟨⟨_, (), rfl, er.symm, by rw [ht]; exact hP, hD⟩, hS.F ht⟩) hS.2.2 dX8_tells_45
    · refine lv_iconst (v := (-1)) hx hb dX8_tells_21 (by decide) ?_
      refine lv_goto (tgt := 45) hx hb dX8_tells_22 (by decide) ?_
      have er : F_X8_tells tk d30 d31 day what = (-1) := by rw [F_X8_tells, if_neg c_1, if_pos c_2]
      exact W.iret hx hb hr (fun t ht hW => ⟨⟨_, (), rfl, er.symm, by rw [ht]; exact hP, hD⟩, hS.F ht⟩) hS.2.2 dX8_tells_45

def F_X8_let (q11 : Int32) (q15 : Int32) (q16 : Int32) (tk : Nat) (d30 : Nat → Int32) (d31 : Nat → Int32) (much : Int32) : Int32 :=
  if (F_X8_isIn much 1 q15) = 0 then (-1) else
  if q16 ≤ (F_X8_tellsOn tk d30 d31 q11 3) then (q15 - much) else
  (q15 - much)
def F_X8_let_0_15 (q11 : Int32) (q15 : Int32) (q16 : Int32) (tk : Nat) (d30 : Nat → Int32) (d31 : Nat → Int32) (much : Int32) : Int32 :=
  if (F_X8_isIn much 1 q15) = 0 then q15 else
  if q16 ≤ (F_X8_tellsOn tk d30 d31 q11 3) then (q15 - much) else
  (q15 - much)
def F_X8_let_0_20 (q11 : Int32) (q15 : Int32) (q16 : Int32) (q20 : Int32) (tk : Nat) (d30 : Nat → Int32) (d31 : Nat → Int32) (much : Int32) : Int32 :=
  if (F_X8_isIn much 1 q15) = 0 then q20 else
  if q16 ≤ (F_X8_tellsOn tk d30 d31 q11 3) then q20 else
  q20 + (F_X8_tellsOn tk d30 d31 q11 6)
set_option maxHeartbeats 4000000 in
set_option maxRecDepth 100000 in
theorem c_X8_let (l : Launch) {D : va_G} {cI cZ cB : ClassId} {au : Nat} {kA kV : Nat → Nat} {z0 : Nat} (sz : Nat) (mA : Nat) (m2 : Nat) (m3 : Nat) (m4 : Nat) (m5 : Nat) (m6 : Nat) (m7 : Nat) (m8 : Nat) (m21 : Nat) (m22 : Nat) (m23 : Nat) (m24 : Nat) (m30 : Nat) (m31 : Nat) (q9 : Int32) (q10 : Int32) (q11 : Int32) (q13 : Int32) (q14 : Int32) (q15 : Int32) (q16 : Int32) (q17 : Int32) (q18 : Int32) (q19 : Int32) (q20 : Int32) (q28 : Int32) (q33 : Int32) (nr : Nat) (np : Nat) (nb : Nat) (ln : Nat) (po : Nat) (tk : Nat) (we : Nat) (dg : Nat) (d30 : Nat → Int32) (d31 : Nat → Int32) (much : Int32) (h20 : nr ≤ 20) (h2r : 2 ≤ nr) (h2p : 2 ≤ np) (h8 : np ≤ 8) (htk : tk ≤ 10) : Met l yX8_let wsX8_let ({ frames := 3, cells := 0, slots := 0, locals := 67 }) (va_Pc [.ref mA, .int much] (PRE D cI cZ cB au kA kV z0 sz [(mA, .inr (8, .int (nI nr) :: .int (nI np) :: .ref m2 :: .ref m3 :: .ref m4 :: .ref m5 :: .ref m6 :: .ref m7 :: .ref m8 :: .int q9 :: .int q10 :: .int q11 :: .int ((nI dg) - 1) :: .int q13 :: .int q14 :: .int q15 :: .int q16 :: .int q17 :: .int q18 :: .int q19 :: .int q20 :: .ref m21 :: .ref m22 :: .ref m23 :: .ref m24 :: .int (nI nb) :: .int (nI ln) :: .int (nI po) :: .int q28 :: .int (nI tk) :: .ref m30 :: .ref m31 :: .int (nI we) :: .int q33 :: [])), (m30, .inl (cI, 77, .inl d30)), (m31, .inl (cI, 11, .inl d31))])) (QI D [(mA, .inr (8, .int (nI nr) :: .int (nI np) :: .ref m2 :: .ref m3 :: .ref m4 :: .ref m5 :: .ref m6 :: .ref m7 :: .ref m8 :: .int q9 :: .int q10 :: .int q11 :: .int ((nI dg) - 1) :: .int q13 :: .int q14 :: .int q15 :: .int q16 :: .int q17 :: .int q18 :: .int q19 :: .int q20 :: .ref m21 :: .ref m22 :: .ref m23 :: .ref m24 :: .int (nI nb) :: .int (nI ln) :: .int (nI po) :: .int q28 :: .int (nI tk) :: .ref m30 :: .ref m31 :: .int (nI we) :: .int q33 :: [])), (m30, .inl (cI, 77, .inl d30)), (m31, .inl (cI, 11, .inl d31))] sz (F_X8_let q11 q15 q16 tk d30 d31 much) [(mA, .inr (8, .int (nI nr) :: .int (nI np) :: .ref m2 :: .ref m3 :: .ref m4 :: .ref m5 :: .ref m6 :: .ref m7 :: .ref m8 :: .int q9 :: .int q10 :: .int q11 :: .int ((nI dg) - 1) :: .int q13 :: .int q14 :: .int (F_X8_let_0_15 q11 q15 q16 tk d30 d31 much) :: .int q16 :: .int q17 :: .int q18 :: .int q19 :: .int (F_X8_let_0_20 q11 q15 q16 q20 tk d30 d31 much) :: .ref m21 :: .ref m22 :: .ref m23 :: .ref m24 :: .int (nI nb) :: .int (nI ln) :: .int (nI po) :: .int q28 :: .int (nI tk) :: .ref m30 :: .ref m31 :: .int (nI we) :: .int q33 :: [])), (m30, .inl (cI, 77, .inl d30)), (m31, .inl (cI, 11, .inl d31))]) 0 0 (va_A [(mA, .inr (8, .int (nI nr) :: .int (nI np) :: .ref m2 :: .ref m3 :: .ref m4 :: .ref m5 :: .ref m6 :: .ref m7 :: .ref m8 :: .int q9 :: .int q10 :: .int q11 :: .int ((nI dg) - 1) :: .int q13 :: .int q14 :: .int q15 :: .int q16 :: .int q17 :: .int q18 :: .int q19 :: .int q20 :: .ref m21 :: .ref m22 :: .ref m23 :: .ref m24 :: .int (nI nb) :: .int (nI ln) :: .int (nI po) :: .int q28 :: .int (nI tk) :: .ref m30 :: .ref m31 :: .int (nI we) :: .int q33 :: [])), (m30, .inl (cI, 77, .inl d30)), (m31, .inl (cI, 11, .inl d31))] sz) := by
  refine Met.ofW (cc := cX8_let) (maxL := 2) (ret := (some .int)) (by decide) rfl ?_
  intro p e s m args below meth c s₁ B hml hv
  obtain ⟨rfl, hsz, hz, hP, hD0, hB⟩ := hv
  have hx := B.exec
  have hb := B.bytes
  have hr := B.returns
  have hts := atoms_spec (ws := wsX8_let) B.pre
  have hown : s.vm.findClass RX8 = some m.cls := findClass_of_methodNamed B.named
  have hlocks := B.notSynchronized
  subst hsz
  have hD := hD0.self (sz := s.heap.size)
  have hA0 := va_A0 hD0 hz
  unfold QI
  generalize hAe : va_A [(mA, .inr (8, .int (nI nr) :: .int (nI np) :: .ref m2 :: .ref m3 :: .ref m4 :: .ref m5 :: .ref m6 :: .ref m7 :: .ref m8 :: .int q9 :: .int q10 :: .int q11 :: .int ((nI dg) - 1) :: .int q13 :: .int q14 :: .int q15 :: .int q16 :: .int q17 :: .int q18 :: .int q19 :: .int q20 :: .ref m21 :: .ref m22 :: .ref m23 :: .ref m24 :: .int (nI nb) :: .int (nI ln) :: .int (nI po) :: .int q28 :: .int (nI tk) :: .ref m30 :: .ref m31 :: .int (nI we) :: .int q33 :: [])), (m30, .inl (cI, 77, .inl d30)), (m31, .inl (cI, 11, .inl d31))] s.heap.size = A at hD hA0 ⊢
  have hA : ∀ q : Nat, s.heap.size ≤ q → A q := fun q h => by rw [← hAe]; exact Or.inr h
  have hS : va_S A s.heap s.heap [] := va_S.rf
  have hiX8 : ∀ w ∈ wsX80, w ∈ wsX8_let := fun w h => List.mem_cons_of_mem _ (List.mem_append_right _ h)
  have hl := lv_entry ([.ref mA, .int much]) (n := 2) (Nat.le_of_ble_eq_true rfl)
  rw [lg_entry_eq]
  generalize (lg_sl ([.ref mA, .int much]) ++ List.replicate (2 - (lg_sl ([.ref mA, .int much])).length) Slot.unset).toArray = ls at hl ⊢
  have hl : lv_has ls 2 [(0, .ref mA), (1, .int much)] := hl
  refine lv_iload_n hx hb dX8_let_0 rfl (lv_at hl 1 rfl) ?_
  refine lv_iconst (v := 1) hx hb dX8_let_1 (by decide) ?_
  refine lv_aload_n hx hb dX8_let_2 rfl (lv_at hl 0 rfl) ?_
  refine va_get (D := D) (ci := 8) (v := .int q15) (C := RX8) (T := TX8) (N := 34) hx hb hts hiX8 hown hB.1 hP 0 rfl rfl 15 (by decide) (hts _ (List.mem_of_getElem? (i := 1) rfl)) (fun _ h9 => h9) rfl dX8_let_3 ?_
  refine k_i (w2 := [(mA, .inr (8, .int (nI nr) :: .int (nI np) :: .ref m2 :: .ref m3 :: .ref m4 :: .ref m5 :: .ref m6 :: .ref m7 :: .ref m8 :: .int q9 :: .int q10 :: .int q11 :: .int ((nI dg) - 1) :: .int q13 :: .int q14 :: .int q15 :: .int q16 :: .int q17 :: .int q18 :: .int q19 :: .int q20 :: .ref m21 :: .ref m22 :: .ref m23 :: .ref m24 :: .int (nI nb) :: .int (nI ln) :: .int (nI po) :: .int q28 :: .int (nI tk) :: .ref m30 :: .ref m31 :: .int (nI we) :: .int q33 :: [])), (m30, .inl (cI, 77, .inl d30)), (m31, .inl (cI, 11, .inl d31))]) (va_runS (As := [.int much, .int 1, .int q15]) (rest := []) ⟨hx, hb, hml, hown, hts⟩ (c_X8_isIn l _ much 1 q15) (va_cwS 3 hts gX8_let_X8_isIn rfl rfl rfl (by decide +kernel) ⟨Nat.le_of_ble_eq_true rfl, Nat.le_of_ble_eq_true rfl⟩) (pre_S hB hz hA0 hP hD hS [] rfl rfl) rfl rfl hl.1 rfl (lv_room (Nat.le_of_ble_eq_true rfl)) dX8_let_6 ⟨Nat.zero_le _, Nat.zero_le _⟩) hP hD hS hA [] [0, 1, 2] [0, 1, 2] rfl rfl rfl rfl rfl (fun H locs hP hD hS => ?_)
  refine lv_if_ne (tgt := 14) hx hb dX8_let_9 (by decide) (fun c_1 => ?_) (fun c_1 => ?_)
  · refine lv_aload_n hx hb dX8_let_14 rfl (lv_at hl 0 rfl) ?_
    refine lv_dup hx hb dX8_let_15 rfl ?_
    refine va_get (D := D) (ci := 8) (v := .int q15) (C := RX8) (T := TX8) (N := 34) hx hb hts hiX8 hown hB.1 hP 0 rfl rfl 15 (by decide) (hts _ (List.mem_of_getElem? (i := 1) rfl)) (fun _ h9 => h9) rfl dX8_let_16 ?_
    refine lv_iload_n hx hb dX8_let_19 rfl (lv_at hl 1 rfl) ?_
    refine lv_isub hx hb dX8_let_20 ?_
    refine pf (w2 := [(mA, .inr (8, .int (nI nr) :: .int (nI np) :: .ref m2 :: .ref m3 :: .ref m4 :: .ref m5 :: .ref m6 :: .ref m7 :: .ref m8 :: .int q9 :: .int q10 :: .int q11 :: .int ((nI dg) - 1) :: .int q13 :: .int q14 :: .int (q15 - much) :: .int q16 :: .int q17 :: .int q18 :: .int q19 :: .int q20 :: .ref m21 :: .ref m22 :: .ref m23 :: .ref m24 :: .int (nI nb) :: .int (nI ln) :: .int (nI po) :: .int q28 :: .int (nI tk) :: .ref m30 :: .ref m31 :: .int (nI we) :: .int q33 :: [])), (m30, .inl (cI, 77, .inl d30)), (m31, .inl (cI, 11, .inl d31))]) (ci := 8) (C := RX8) (T := TX8) (N := 34) hx hb hts hiX8 tyX8 tyX8_ok nmX8 hown hB.1 hP hD hS 0 rfl rfl 15 (by decide) (hts _ (List.mem_of_getElem? (i := 1) rfl)) rfl rfl rfl rfl (Nat.le_of_ble_eq_true rfl) rfl dX8_let_21 (fun H locs hP hD hS => ?_)
    refine lv_aload_n hx hb dX8_let_24 rfl (lv_at hl 0 rfl) ?_
    refine va_get (D := D) (ci := 8) (v := .int q16) (C := RX8) (T := TX8) (N := 34) hx hb hts hiX8 hown hB.1 hP 0 rfl rfl 16 (by decide) (hts _ (List.mem_of_getElem? (i := 2) rfl)) (fun _ h9 => h9) rfl dX8_let_25 ?_
    refine lv_aload_n hx hb dX8_let_28 rfl (lv_at hl 0 rfl) ?_
    refine lv_iconst (v := 3) hx hb dX8_let_29 (by decide) ?_
    refine k_i (w2 := [(mA, .inr (8, .int (nI nr) :: .int (nI np) :: .ref m2 :: .ref m3 :: .ref m4 :: .ref m5 :: .ref m6 :: .ref m7 :: .ref m8 :: .int q9 :: .int q10 :: .int q11 :: .int ((nI dg) - 1) :: .int q13 :: .int q14 :: .int (q15 - much) :: .int q16 :: .int q17 :: .int q18 :: .int q19 :: .int q20 :: .ref m21 :: .ref m22 :: .ref m23 :: .ref m24 :: .int (nI nb) :: .int (nI ln) :: .int (nI po) :: .int q28 :: .int (nI tk) :: .ref m30 :: .ref m31 :: .int (nI we) :: .int q33 :: [])), (m30, .inl (cI, 77, .inl d30)), (m31, .inl (cI, 11, .inl d31))]) (va_runV (As := [.int 3]) (rest := [.int q16]) ⟨hx, hb, hml, hown, hts⟩ (c_X8_now l _ mA m2 m3 m4 m5 m6 m7 m8 m21 m22 m23 m24 m30 m31 q9 q10 q11 q13 q14 (q15 - much) q16 q17 q18 q19 q20 q28 q33 nr np nb ln po tk we dg d30 d31 3 3 h20 h2r h2p h8 htk rfl (by decide)) (cwV 1 hts gX8_let_X8_now rfl rfl rfl (by decide +kernel) ⟨Nat.le_of_ble_eq_true rfl, Nat.le_of_ble_eq_true rfl⟩) (pre_V (ci := 8) (q0 := 0) hB hz hA0 hP hD hS [0, 1, 2] rfl rfl rfl rfl rfl) rfl rfl hl.1 rfl (lv_room (Nat.le_of_ble_eq_true rfl)) dX8_let_30 ⟨Nat.zero_le _, Nat.zero_le _⟩) hP hD hS hA [0, 1, 2] [] [0, 1, 2] rfl rfl rfl rfl rfl (fun H locs hP hD hS => ?_)
    refine lv_icmp_le (tgt := 51) hx hb dX8_let_33 (by decide) (fun c_2 => ?_) (fun c_2 => ?_)
    · refine lv_aload_n hx hb dX8_let_51 rfl (lv_at hl 0 rfl) ?_
      refine va_get (D := D) (ci := 8) (v := .int (q15 - much)) (C := RX8) (T := TX8) (N := 34) hx hb hts hiX8 hown hB.1 hP 0 rfl rfl 15 (by decide) (hts _ (List.mem_of_getElem? (i := 1) rfl)) (fun _ h9 => h9) rfl dX8_let_52 ?_
      have er : F_X8_let q11 q15 q16 tk d30 d31 much = (q15 - much) := by rw [F_X8_let, if_neg c_1, if_pos c_2]
      have e0_15 : F_X8_let_0_15 q11 q15 q16 tk d30 d31 much = (q15 - much) := by rw [F_X8_let_0_15, if_neg c_1, if_pos c_2]
      have e0_20 : F_X8_let_0_20 q11 q15 q16 q20 tk d30 d31 much = q20 := by rw [F_X8_let_0_20, if_neg c_1, if_pos c_2]
      exact W.iret hx hb hr (fun t ht hW => ⟨⟨_, (), rfl, er.symm, by rw [ht, e0_15, e0_20]; exact hP, by rw [e0_15, e0_20]; exact hD⟩, hS.F ht⟩) hS.2.2 dX8_let_55
    · refine lv_aload_n hx hb dX8_let_36 rfl (lv_at hl 0 rfl) ?_
      refine lv_dup hx hb dX8_let_37 rfl ?_
      refine va_get (D := D) (ci := 8) (v := .int q20) (C := RX8) (T := TX8) (N := 34) hx hb hts hiX8 hown hB.1 hP 0 rfl rfl 20 (by decide) (hts _ (List.mem_of_getElem? (i := 3) rfl)) (fun _ h9 => h9) rfl dX8_let_38 ?_
      refine lv_aload_n hx hb dX8_let_41 rfl (lv_at hl 0 rfl) ?_
      refine lv_bipush (v := 6) hx hb dX8_let_42 (by decide) ?_
      refine k_i (w2 := [(mA, .inr (8, .int (nI nr) :: .int (nI np) :: .ref m2 :: .ref m3 :: .ref m4 :: .ref m5 :: .ref m6 :: .ref m7 :: .ref m8 :: .int q9 :: .int q10 :: .int q11 :: .int ((nI dg) - 1) :: .int q13 :: .int q14 :: .int (q15 - much) :: .int q16 :: .int q17 :: .int q18 :: .int q19 :: .int q20 :: .ref m21 :: .ref m22 :: .ref m23 :: .ref m24 :: .int (nI nb) :: .int (nI ln) :: .int (nI po) :: .int q28 :: .int (nI tk) :: .ref m30 :: .ref m31 :: .int (nI we) :: .int q33 :: [])), (m30, .inl (cI, 77, .inl d30)), (m31, .inl (cI, 11, .inl d31))]) (va_runV (As := [.int 6]) (rest := [.int q20, .ref mA]) ⟨hx, hb, hml, hown, hts⟩ (c_X8_now l _ mA m2 m3 m4 m5 m6 m7 m8 m21 m22 m23 m24 m30 m31 q9 q10 q11 q13 q14 (q15 - much) q16 q17 q18 q19 q20 q28 q33 nr np nb ln po tk we dg d30 d31 6 6 h20 h2r h2p h8 htk rfl (by decide)) (cwV 1 hts gX8_let_X8_now rfl rfl rfl (by decide +kernel) ⟨Nat.le_of_ble_eq_true rfl, Nat.le_of_ble_eq_true rfl⟩) (pre_V (ci := 8) (q0 := 0) hB hz hA0 hP hD hS [0, 1, 2] rfl rfl rfl rfl rfl) rfl rfl hl.1 rfl (lv_room (Nat.le_of_ble_eq_true rfl)) dX8_let_44 ⟨Nat.zero_le _, Nat.zero_le _⟩) hP hD hS hA [0, 1, 2] [] [0, 1, 2] rfl rfl rfl rfl rfl (fun H locs hP hD hS => ?_)
      refine lv_iadd hx hb dX8_let_47 ?_
      refine pf (w2 := [(mA, .inr (8, .int (nI nr) :: .int (nI np) :: .ref m2 :: .ref m3 :: .ref m4 :: .ref m5 :: .ref m6 :: .ref m7 :: .ref m8 :: .int q9 :: .int q10 :: .int q11 :: .int ((nI dg) - 1) :: .int q13 :: .int q14 :: .int (q15 - much) :: .int q16 :: .int q17 :: .int q18 :: .int q19 :: .int (q20 + (F_X8_tellsOn tk d30 d31 q11 6)) :: .ref m21 :: .ref m22 :: .ref m23 :: .ref m24 :: .int (nI nb) :: .int (nI ln) :: .int (nI po) :: .int q28 :: .int (nI tk) :: .ref m30 :: .ref m31 :: .int (nI we) :: .int q33 :: [])), (m30, .inl (cI, 77, .inl d30)), (m31, .inl (cI, 11, .inl d31))]) (ci := 8) (C := RX8) (T := TX8) (N := 34) hx hb hts hiX8 tyX8 tyX8_ok nmX8 hown hB.1 hP hD hS 0 rfl rfl 20 (by decide) (hts _ (List.mem_of_getElem? (i := 3) rfl)) rfl rfl rfl rfl (Nat.le_of_ble_eq_true rfl) rfl dX8_let_48 (fun H locs hP hD hS => ?_)
      refine lv_aload_n hx hb dX8_let_51 rfl (lv_at hl 0 rfl) ?_
      refine va_get (D := D) (ci := 8) (v := .int (q15 - much)) (C := RX8) (T := TX8) (N := 34) hx hb hts hiX8 hown hB.1 hP 0 rfl rfl 15 (by decide) (hts _ (List.mem_of_getElem? (i := 1) rfl)) (fun _ h9 => h9) rfl dX8_let_52 ?_
      have er : F_X8_let q11 q15 q16 tk d30 d31 much = (q15 - much) := by rw [F_X8_let, if_neg c_1, if_neg c_2]
      have e0_15 : F_X8_let_0_15 q11 q15 q16 tk d30 d31 much = (q15 - much) := by rw [F_X8_let_0_15, if_neg c_1, if_neg c_2]
      have e0_20 : F_X8_let_0_20 q11 q15 q16 q20 tk d30 d31 much = q20 + (F_X8_tellsOn tk d30 d31 q11 6) := by rw [F_X8_let_0_20, if_neg c_1, if_neg c_2]
      exact W.iret hx hb hr (fun t ht hW => ⟨⟨_, (), rfl, er.symm, by rw [ht, e0_15, e0_20]; exact hP, by rw [e0_15, e0_20]; exact hD⟩, hS.F ht⟩) hS.2.2 dX8_let_55
  · refine lv_iconst (v := (-1)) hx hb dX8_let_12 (by decide) ?_
    have er : F_X8_let q11 q15 q16 tk d30 d31 much = (-1) := by rw [F_X8_let, if_pos c_1]
    have e0_15 : F_X8_let_0_15 q11 q15 q16 tk d30 d31 much = q15 := by rw [F_X8_let_0_15, if_pos c_1]
    have e0_20 : F_X8_let_0_20 q11 q15 q16 q20 tk d30 d31 much = q20 := by rw [F_X8_let_0_20, if_pos c_1]
    exact W.iret hx hb hr (fun t ht hW => ⟨⟨_, (), rfl, er.symm, by rw [ht, e0_15, e0_20]; exact hP, by rw [e0_15, e0_20]; exact hD⟩, hS.F ht⟩) hS.2.2 dX8_let_13

def F_X8_back (nr : Nat) (np : Nat) (dg : Nat) (d6 : Nat → Int32) (d7 : Nat → Int32) (row : Int32) (place : Int32) : Int32 :=
  if (F_X8_isSquare nr np row place) = 0 then 0 else
  if (d6 ((8 * row.toNatClampNeg) + place.toNatClampNeg)) = 0 then 0 else
  if (d7 ((8 * row.toNatClampNeg) + place.toNatClampNeg)) = 0 then (if row ≤ (((nI dg) - 1) - 3) then 1 else
    0) else
  0
def F_X8_back_2 (nr : Nat) (np : Nat) (dg : Nat) (d6 : Nat → Int32) (d7 : Nat → Int32) (row : Int32) (place : Int32) : Nat → Int32 :=
  if (F_X8_isSquare nr np row place) = 0 then d7 else
  if (d6 ((8 * row.toNatClampNeg) + place.toNatClampNeg)) = 0 then d7 else
  if (d7 ((8 * row.toNatClampNeg) + place.toNatClampNeg)) = 0 then (if row ≤ (((nI dg) - 1) - 3) then upd d7 ((8 * row.toNatClampNeg) + place.toNatClampNeg) 1 else
    d7) else
  d7
set_option maxHeartbeats 4000000 in
set_option maxRecDepth 100000 in
theorem c_X8_back (l : Launch) {D : va_G} {cI cZ cB : ClassId} {au : Nat} {kA kV : Nat → Nat} {z0 : Nat} (sz : Nat) (mA : Nat) (m2 : Nat) (m3 : Nat) (m4 : Nat) (m5 : Nat) (m6 : Nat) (m7 : Nat) (m8 : Nat) (m21 : Nat) (m22 : Nat) (m23 : Nat) (m24 : Nat) (m30 : Nat) (m31 : Nat) (q9 : Int32) (q10 : Int32) (q11 : Int32) (q13 : Int32) (q14 : Int32) (q15 : Int32) (q16 : Int32) (q17 : Int32) (q18 : Int32) (q19 : Int32) (q20 : Int32) (q28 : Int32) (q33 : Int32) (nr : Nat) (np : Nat) (nb : Nat) (ln : Nat) (po : Nat) (tk : Nat) (we : Nat) (dg : Nat) (d6 : Nat → Int32) (d7 : Nat → Int32) (row : Int32) (place : Int32) (h20 : nr ≤ 20) (h2r : 2 ≤ nr) (h2p : 2 ≤ np) (h8 : np ≤ 8) : Met l yX8_back wsX8_back ({ frames := 2, cells := 0, slots := 0, locals := 44 }) (va_Pc [.ref mA, .int row, .int place] (PRE D cI cZ cB au kA kV z0 sz [(mA, .inr (8, .int (nI nr) :: .int (nI np) :: .ref m2 :: .ref m3 :: .ref m4 :: .ref m5 :: .ref m6 :: .ref m7 :: .ref m8 :: .int q9 :: .int q10 :: .int q11 :: .int ((nI dg) - 1) :: .int q13 :: .int q14 :: .int q15 :: .int q16 :: .int q17 :: .int q18 :: .int q19 :: .int q20 :: .ref m21 :: .ref m22 :: .ref m23 :: .ref m24 :: .int (nI nb) :: .int (nI ln) :: .int (nI po) :: .int q28 :: .int (nI tk) :: .ref m30 :: .ref m31 :: .int (nI we) :: .int q33 :: [])), (m6, .inl (cZ, 160, .inl d6)), (m7, .inl (cZ, 160, .inl d7))])) (QI D [(mA, .inr (8, .int (nI nr) :: .int (nI np) :: .ref m2 :: .ref m3 :: .ref m4 :: .ref m5 :: .ref m6 :: .ref m7 :: .ref m8 :: .int q9 :: .int q10 :: .int q11 :: .int ((nI dg) - 1) :: .int q13 :: .int q14 :: .int q15 :: .int q16 :: .int q17 :: .int q18 :: .int q19 :: .int q20 :: .ref m21 :: .ref m22 :: .ref m23 :: .ref m24 :: .int (nI nb) :: .int (nI ln) :: .int (nI po) :: .int q28 :: .int (nI tk) :: .ref m30 :: .ref m31 :: .int (nI we) :: .int q33 :: [])), (m6, .inl (cZ, 160, .inl d6)), (m7, .inl (cZ, 160, .inl d7))] sz (F_X8_back nr np dg d6 d7 row place) [(mA, .inr (8, .int (nI nr) :: .int (nI np) :: .ref m2 :: .ref m3 :: .ref m4 :: .ref m5 :: .ref m6 :: .ref m7 :: .ref m8 :: .int q9 :: .int q10 :: .int q11 :: .int ((nI dg) - 1) :: .int q13 :: .int q14 :: .int q15 :: .int q16 :: .int q17 :: .int q18 :: .int q19 :: .int q20 :: .ref m21 :: .ref m22 :: .ref m23 :: .ref m24 :: .int (nI nb) :: .int (nI ln) :: .int (nI po) :: .int q28 :: .int (nI tk) :: .ref m30 :: .ref m31 :: .int (nI we) :: .int q33 :: [])), (m6, .inl (cZ, 160, .inl d6)), (m7, .inl (cZ, 160, .inl (F_X8_back_2 nr np dg d6 d7 row place)))]) 0 0 (va_A [(mA, .inr (8, .int (nI nr) :: .int (nI np) :: .ref m2 :: .ref m3 :: .ref m4 :: .ref m5 :: .ref m6 :: .ref m7 :: .ref m8 :: .int q9 :: .int q10 :: .int q11 :: .int ((nI dg) - 1) :: .int q13 :: .int q14 :: .int q15 :: .int q16 :: .int q17 :: .int q18 :: .int q19 :: .int q20 :: .ref m21 :: .ref m22 :: .ref m23 :: .ref m24 :: .int (nI nb) :: .int (nI ln) :: .int (nI po) :: .int q28 :: .int (nI tk) :: .ref m30 :: .ref m31 :: .int (nI we) :: .int q33 :: [])), (m6, .inl (cZ, 160, .inl d6)), (m7, .inl (cZ, 160, .inl d7))] sz) := by
  refine Met.ofW (cc := cX8_back) (maxL := 3) (ret := (some .boolean)) (by decide) rfl ?_
  intro p e s m args below meth c s₁ B hml hv
  obtain ⟨rfl, hsz, hz, hP, hD0, hB⟩ := hv
  have hx := B.exec
  have hb := B.bytes
  have hr := B.returns
  have hts := atoms_spec (ws := wsX8_back) B.pre
  have hown : s.vm.findClass RX8 = some m.cls := findClass_of_methodNamed B.named
  have hlocks := B.notSynchronized
  subst hsz
  have hD := hD0.self (sz := s.heap.size)
  have hA0 := va_A0 hD0 hz
  unfold QI
  generalize hAe : va_A [(mA, .inr (8, .int (nI nr) :: .int (nI np) :: .ref m2 :: .ref m3 :: .ref m4 :: .ref m5 :: .ref m6 :: .ref m7 :: .ref m8 :: .int q9 :: .int q10 :: .int q11 :: .int ((nI dg) - 1) :: .int q13 :: .int q14 :: .int q15 :: .int q16 :: .int q17 :: .int q18 :: .int q19 :: .int q20 :: .ref m21 :: .ref m22 :: .ref m23 :: .ref m24 :: .int (nI nb) :: .int (nI ln) :: .int (nI po) :: .int q28 :: .int (nI tk) :: .ref m30 :: .ref m31 :: .int (nI we) :: .int q33 :: [])), (m6, .inl (cZ, 160, .inl d6)), (m7, .inl (cZ, 160, .inl d7))] s.heap.size = A at hD hA0 ⊢
  have hA : ∀ q : Nat, s.heap.size ≤ q → A q := fun q h => by rw [← hAe]; exact Or.inr h
  have hS : va_S A s.heap s.heap [] := va_S.rf
  have hiX8 : ∀ w ∈ wsX80, w ∈ wsX8_back := fun w h => List.mem_cons_of_mem _ (List.mem_append_right _ h)
  have hl := lv_entry ([.ref mA, .int row, .int place]) (n := 3) (Nat.le_of_ble_eq_true rfl)
  rw [lg_entry_eq]
  generalize (lg_sl ([.ref mA, .int row, .int place]) ++ List.replicate (3 - (lg_sl ([.ref mA, .int row, .int place])).length) Slot.unset).toArray = ls at hl ⊢
  have hl : lv_has ls 3 [(0, .ref mA), (1, .int row), (2, .int place)] := hl
  refine lv_aload_n hx hb dX8_back_0 rfl (lv_at hl 0 rfl) ?_
  refine lv_iload_n hx hb dX8_back_1 rfl (lv_at hl 1 rfl) ?_
  refine lv_iload_n hx hb dX8_back_2 rfl (lv_at hl 2 rfl) ?_
  refine k_i (w2 := [(mA, .inr (8, .int (nI nr) :: .int (nI np) :: .ref m2 :: .ref m3 :: .ref m4 :: .ref m5 :: .ref m6 :: .ref m7 :: .ref m8 :: .int q9 :: .int q10 :: .int q11 :: .int ((nI dg) - 1) :: .int q13 :: .int q14 :: .int q15 :: .int q16 :: .int q17 :: .int q18 :: .int q19 :: .int q20 :: .ref m21 :: .ref m22 :: .ref m23 :: .ref m24 :: .int (nI nb) :: .int (nI ln) :: .int (nI po) :: .int q28 :: .int (nI tk) :: .ref m30 :: .ref m31 :: .int (nI we) :: .int q33 :: [])), (m6, .inl (cZ, 160, .inl d6)), (m7, .inl (cZ, 160, .inl d7))]) (va_runV (As := [.int row, .int place]) (rest := []) ⟨hx, hb, hml, hown, hts⟩ (c_X8_isSquare l _ mA m2 m3 m4 m5 m6 m7 m8 m21 m22 m23 m24 m30 m31 q9 q10 q11 q13 q14 q15 q16 q17 q18 q19 q20 q28 q33 nr np nb ln po tk we dg row place h20 h2r h2p h8) (cwV 2 hts gX8_back_X8_isSquare rfl rfl rfl (by decide +kernel) ⟨Nat.le_of_ble_eq_true rfl, Nat.le_of_ble_eq_true rfl⟩) (pre_V (ci := 8) (q0 := 0) hB hz hA0 hP hD hS [0] rfl rfl rfl rfl rfl) rfl rfl hl.1 rfl (lv_room (Nat.le_of_ble_eq_true rfl)) dX8_back_3 ⟨Nat.zero_le _, Nat.zero_le _⟩) hP hD hS hA [0] [1, 2] [2, 0, 1] rfl rfl rfl rfl rfl (fun H locs hP hD hS => ?_)
  refine lv_if_eq (tgt := 47) hx hb dX8_back_6 (by decide) (fun c_1 => ?_) (fun c_1 => ?_)
  · refine lv_iconst (v := 0) hx hb dX8_back_47 (by decide) ?_
    have er : F_X8_back nr np dg d6 d7 row place = 0 := by rw [F_X8_back, if_pos c_1]
    have e2 : F_X8_back_2 nr np dg d6 d7 row place = d7 := by rw [F_X8_back_2, if_pos c_1]
    exact W.zret hx hb hr rfl (fun t ht hW => ⟨⟨_, (), rfl, er.symm, by rw [ht, e2]; exact hP, by rw [e2]; exact hD⟩, hS.F ht⟩) hS.2.2 dX8_back_48
  · obtain ⟨⟨hr1, hr2⟩, hp1, hp2⟩ := has_ix (nr := nr) (np := np) (by omega) (by omega) (by rw [← sq_eq]; exact c_1)
    refine lv_aload_n hx hb dX8_back_9 rfl (lv_at hl 0 rfl) ?_
    refine va_get (D := D) (ci := 8) (v := .ref m6) (C := RX8) (T := TX8) (N := 34) hx hb hts hiX8 hown hB.1 hP 0 rfl rfl 6 (by decide) (hts _ (List.mem_of_getElem? (i := 1) rfl)) (fun _ h9 => h9) rfl dX8_back_10 ?_
    refine lv_bipush (v := 8) hx hb dX8_back_13 (by decide) ?_
    refine lv_iload_n hx hb dX8_back_15 rfl (lv_at hl 1 rfl) ?_
    refine lv_imul hx hb dX8_back_16 ?_
    refine lv_iload_n hx hb dX8_back_17 rfl (lv_at hl 2 rfl) ?_
    refine lv_iadd hx hb dX8_back_18 ?_
    refine ra_z hx hb hB.1 hP 1 rfl ((8 * row.toNatClampNeg) + place.toNatClampNeg) (nx_add (nx_mul rfl hr1) hp1) (by omega) (by decide) dX8_back_19 ?_
    refine lv_if_eq (tgt := 47) hx hb dX8_back_20 (by decide) (fun c_2 => ?_) (fun c_2 => ?_)
    · refine lv_iconst (v := 0) hx hb dX8_back_47 (by decide) ?_
      have er : F_X8_back nr np dg d6 d7 row place = 0 := by rw [F_X8_back, if_neg c_1, if_pos c_2]
      have e2 : F_X8_back_2 nr np dg d6 d7 row place = d7 := by rw [F_X8_back_2, if_neg c_1, if_pos c_2]
      exact W.zret hx hb hr rfl (fun t ht hW => ⟨⟨_, (), rfl, er.symm, by rw [ht, e2]; exact hP, by rw [e2]; exact hD⟩, hS.F ht⟩) hS.2.2 dX8_back_48
    · refine lv_aload_n hx hb dX8_back_23 rfl (lv_at hl 0 rfl) ?_
      refine va_get (D := D) (ci := 8) (v := .ref m7) (C := RX8) (T := TX8) (N := 34) hx hb hts hiX8 hown hB.1 hP 0 rfl rfl 7 (by decide) (hts _ (List.mem_of_getElem? (i := 2) rfl)) (fun _ h9 => h9) rfl dX8_back_24 ?_
      refine lv_bipush (v := 8) hx hb dX8_back_27 (by decide) ?_
      refine lv_iload_n hx hb dX8_back_29 rfl (lv_at hl 1 rfl) ?_
      refine lv_imul hx hb dX8_back_30 ?_
      refine lv_iload_n hx hb dX8_back_31 rfl (lv_at hl 2 rfl) ?_
      refine lv_iadd hx hb dX8_back_32 ?_
      refine ra_z hx hb hB.1 hP 2 rfl ((8 * row.toNatClampNeg) + place.toNatClampNeg) (nx_add (nx_mul rfl hr1) hp1) (by omega) (by decide) dX8_back_33 ?_
      refine lv_if_ne (tgt := 47) hx hb dX8_back_34 (by decide) (fun c_3 => ?_) (fun c_3 => ?_)
      · refine lv_iconst (v := 0) hx hb dX8_back_47 (by decide) ?_
        have er : F_X8_back nr np dg d6 d7 row place = 0 := by rw [F_X8_back, if_neg c_1, if_neg c_2, if_neg c_3]
        have e2 : F_X8_back_2 nr np dg d6 d7 row place = d7 := by rw [F_X8_back_2, if_neg c_1, if_neg c_2, if_neg c_3]
        exact W.zret hx hb hr rfl (fun t ht hW => ⟨⟨_, (), rfl, er.symm, by rw [ht, e2]; exact hP, by rw [e2]; exact hD⟩, hS.F ht⟩) hS.2.2 dX8_back_48
      · refine lv_iload_n hx hb dX8_back_37 rfl (lv_at hl 1 rfl) ?_
        refine lv_aload_n hx hb dX8_back_38 rfl (lv_at hl 0 rfl) ?_
        refine va_get (D := D) (ci := 8) (v := .int ((nI dg) - 1)) (C := RX8) (T := TX8) (N := 34) hx hb hts hiX8 hown hB.1 hP 0 rfl rfl 12 (by decide) (hts _ (List.mem_of_getElem? (i := 3) rfl)) (fun _ h9 => h9) rfl dX8_back_39 ?_
        refine lv_iconst (v := 3) hx hb dX8_back_42 (by decide) ?_
        refine lv_isub hx hb dX8_back_43 ?_
        refine lv_icmp_le (tgt := 49) hx hb dX8_back_44 (by decide) (fun c_4 => ?_) (fun c_4 => ?_)
        · refine lv_aload_n hx hb dX8_back_49 rfl (lv_at hl 0 rfl) ?_
          refine va_get (D := D) (ci := 8) (v := .ref m7) (C := RX8) (T := TX8) (N := 34) hx hb hts hiX8 hown hB.1 hP 0 rfl rfl 7 (by decide) (hts _ (List.mem_of_getElem? (i := 2) rfl)) (fun _ h9 => h9) rfl dX8_back_50 ?_
          refine lv_bipush (v := 8) hx hb dX8_back_53 (by decide) ?_
          refine lv_iload_n hx hb dX8_back_55 rfl (lv_at hl 1 rfl) ?_
          refine lv_imul hx hb dX8_back_56 ?_
          refine lv_iload_n hx hb dX8_back_57 rfl (lv_at hl 2 rfl) ?_
          refine lv_iadd hx hb dX8_back_58 ?_
          refine lv_iconst (v := 1) hx hb dX8_back_59 (by decide) ?_
          refine wa_z (w2 := [(mA, .inr (8, .int (nI nr) :: .int (nI np) :: .ref m2 :: .ref m3 :: .ref m4 :: .ref m5 :: .ref m6 :: .ref m7 :: .ref m8 :: .int q9 :: .int q10 :: .int q11 :: .int ((nI dg) - 1) :: .int q13 :: .int q14 :: .int q15 :: .int q16 :: .int q17 :: .int q18 :: .int q19 :: .int q20 :: .ref m21 :: .ref m22 :: .ref m23 :: .ref m24 :: .int (nI nb) :: .int (nI ln) :: .int (nI po) :: .int q28 :: .int (nI tk) :: .ref m30 :: .ref m31 :: .int (nI we) :: .int q33 :: [])), (m6, .inl (cZ, 160, .inl d6)), (m7, .inl (cZ, 160, .inl (upd d7 ((8 * row.toNatClampNeg) + place.toNatClampNeg) 1)))]) hx hb hB.1 hP hD hS 2 rfl ((8 * row.toNatClampNeg) + place.toNatClampNeg) (nx_add (nx_mul rfl hr1) hp1) (by omega) (by decide) rfl dX8_back_60 rfl (fun H locs hP hD hS => ?_)
          refine lv_iconst (v := 1) hx hb dX8_back_61 (by decide) ?_
          have er : F_X8_back nr np dg d6 d7 row place = 1 := by rw [F_X8_back, if_neg c_1, if_neg c_2, if_pos c_3, if_pos c_4]
          have e2 : F_X8_back_2 nr np dg d6 d7 row place = upd d7 ((8 * row.toNatClampNeg) + place.toNatClampNeg) 1 := by rw [F_X8_back_2, if_neg c_1, if_neg c_2, if_pos c_3, if_pos c_4]
          exact W.zret hx hb hr rfl (fun t ht hW => ⟨⟨_, (), rfl, er.symm, by rw [ht, e2]; exact hP, by rw [e2]; exact hD⟩, hS.F ht⟩) hS.2.2 dX8_back_62
        · refine lv_iconst (v := 0) hx hb dX8_back_47 (by decide) ?_
          have er : F_X8_back nr np dg d6 d7 row place = 0 := by rw [F_X8_back, if_neg c_1, if_neg c_2, if_pos c_3, if_neg c_4]
          have e2 : F_X8_back_2 nr np dg d6 d7 row place = d7 := by rw [F_X8_back_2, if_neg c_1, if_neg c_2, if_pos c_3, if_neg c_4]
          exact W.zret hx hb hr rfl (fun t ht hW => ⟨⟨_, (), rfl, er.symm, by rw [ht, e2]; exact hP, by rw [e2]; exact hD⟩, hS.F ht⟩) hS.2.2 dX8_back_48

def F_X8_day_L62 (q11 : Int32) (tk : Nat) (d4 : Nat → Int32) (d6 : Nat → Int32) (d7 : Nat → Int32) (d30 : Nat → Int32) (d31 : Nat → Int32) (t : Nat) (s_ : Int32 × (Nat → Int32)) : Int32 × (Nat → Int32) :=
    if (d6 t) = 0 then ((s_.1, s_.2)) else
    if (d7 t) = 0 then (if (s_.2 t) = 0 then (if (F_X8_tellsOn tk d30 d31 q11 4) < (q11 - (d4 t)) then ((s_.1 + (F_X8_tellsOn tk d30 d31 q11 6), upd s_.2 t 1)) else
    (s_.1, s_.2)) else
    (s_.1, s_.2)) else
    (s_.1, s_.2)
def F_X8_day (q11 : Int32) (water : Int32) : Int32 :=
  if (F_X8_isIn water 0 200) = 0 then (-1) else
  if q11 = 600 then (-1) else
  q11 + 1
def F_X8_day_0_11 (q11 : Int32) (water : Int32) : Int32 :=
  if (F_X8_isIn water 0 200) = 0 then q11 else
  if q11 = 600 then q11 else
  q11 + 1
def F_X8_day_0_14 (q11 : Int32) (q14 : Int32) (water : Int32) : Int32 :=
  if (F_X8_isIn water 0 200) = 0 then q14 else
  if q11 = 600 then q14 else
  20
def F_X8_day_0_15 (q11 : Int32) (q15 : Int32) (water : Int32) : Int32 :=
  if (F_X8_isIn water 0 200) = 0 then q15 else
  if q11 = 600 then q15 else
  (if 0 < (if ((q15 + water) - 3) < 1000 then ((q15 + water) - 3) else 1000) then (if ((q15 + water) - 3) < 1000 then ((q15 + water) - 3) else 1000) else 0)
def F_X8_day_0_16 (q11 : Int32) (q16 : Int32) (water : Int32) : Int32 :=
  if (F_X8_isIn water 0 200) = 0 then q16 else
  if q11 = 600 then q16 else
  (if 0 < (q16 - 10) then (q16 - 10) else 0)
def F_X8_day_0_20 (q11 : Int32) (q20 : Int32) (tk : Nat) (d4 : Nat → Int32) (d6 : Nat → Int32) (d7 : Nat → Int32) (d8 : Nat → Int32) (d30 : Nat → Int32) (d31 : Nat → Int32) (water : Int32) : Int32 :=
  if (F_X8_isIn water 0 200) = 0 then q20 else
  if q11 = 600 then q20 else
  (lp (F_X8_day_L62 q11 tk d4 d6 d7 d30 d31) 160 (q20, d8)).1
def F_X8_day_4 (q11 : Int32) (q20 : Int32) (tk : Nat) (d4 : Nat → Int32) (d6 : Nat → Int32) (d7 : Nat → Int32) (d8 : Nat → Int32) (d30 : Nat → Int32) (d31 : Nat → Int32) (water : Int32) : Nat → Int32 :=
  if (F_X8_isIn water 0 200) = 0 then d8 else
  if q11 = 600 then d8 else
  (lp (F_X8_day_L62 q11 tk d4 d6 d7 d30 d31) 160 (q20, d8)).2
set_option maxHeartbeats 4000000 in
set_option maxRecDepth 100000 in
theorem c_X8_day (l : Launch) {D : va_G} {cI cZ cB : ClassId} {au : Nat} {kA kV : Nat → Nat} {z0 : Nat} (sz : Nat) (mA : Nat) (m2 : Nat) (m3 : Nat) (m4 : Nat) (m5 : Nat) (m6 : Nat) (m7 : Nat) (m8 : Nat) (m21 : Nat) (m22 : Nat) (m23 : Nat) (m24 : Nat) (m30 : Nat) (m31 : Nat) (q9 : Int32) (q10 : Int32) (q11 : Int32) (q13 : Int32) (q14 : Int32) (q15 : Int32) (q16 : Int32) (q17 : Int32) (q18 : Int32) (q19 : Int32) (q20 : Int32) (q28 : Int32) (q33 : Int32) (nr : Nat) (np : Nat) (nb : Nat) (ln : Nat) (po : Nat) (tk : Nat) (we : Nat) (dg : Nat) (d4 : Nat → Int32) (d6 : Nat → Int32) (d7 : Nat → Int32) (d8 : Nat → Int32) (d30 : Nat → Int32) (d31 : Nat → Int32) (water : Int32) (h20 : nr ≤ 20) (h2r : 2 ≤ nr) (h2p : 2 ≤ np) (h8 : np ≤ 8) (htk : tk ≤ 10) : Met l yX8_day wsX8_day ({ frames := 3, cells := 0, slots := 0, locals := 67 }) (va_Pc [.ref mA, .int water] (PRE D cI cZ cB au kA kV z0 sz [(mA, .inr (8, .int (nI nr) :: .int (nI np) :: .ref m2 :: .ref m3 :: .ref m4 :: .ref m5 :: .ref m6 :: .ref m7 :: .ref m8 :: .int q9 :: .int q10 :: .int q11 :: .int ((nI dg) - 1) :: .int q13 :: .int q14 :: .int q15 :: .int q16 :: .int q17 :: .int q18 :: .int q19 :: .int q20 :: .ref m21 :: .ref m22 :: .ref m23 :: .ref m24 :: .int (nI nb) :: .int (nI ln) :: .int (nI po) :: .int q28 :: .int (nI tk) :: .ref m30 :: .ref m31 :: .int (nI we) :: .int q33 :: [])), (m4, .inl (cI, 160, .inl d4)), (m6, .inl (cZ, 160, .inl d6)), (m7, .inl (cZ, 160, .inl d7)), (m8, .inl (cZ, 160, .inl d8)), (m30, .inl (cI, 77, .inl d30)), (m31, .inl (cI, 11, .inl d31))])) (QI D [(mA, .inr (8, .int (nI nr) :: .int (nI np) :: .ref m2 :: .ref m3 :: .ref m4 :: .ref m5 :: .ref m6 :: .ref m7 :: .ref m8 :: .int q9 :: .int q10 :: .int q11 :: .int ((nI dg) - 1) :: .int q13 :: .int q14 :: .int q15 :: .int q16 :: .int q17 :: .int q18 :: .int q19 :: .int q20 :: .ref m21 :: .ref m22 :: .ref m23 :: .ref m24 :: .int (nI nb) :: .int (nI ln) :: .int (nI po) :: .int q28 :: .int (nI tk) :: .ref m30 :: .ref m31 :: .int (nI we) :: .int q33 :: [])), (m4, .inl (cI, 160, .inl d4)), (m6, .inl (cZ, 160, .inl d6)), (m7, .inl (cZ, 160, .inl d7)), (m8, .inl (cZ, 160, .inl d8)), (m30, .inl (cI, 77, .inl d30)), (m31, .inl (cI, 11, .inl d31))] sz (F_X8_day q11 water) [(mA, .inr (8, .int (nI nr) :: .int (nI np) :: .ref m2 :: .ref m3 :: .ref m4 :: .ref m5 :: .ref m6 :: .ref m7 :: .ref m8 :: .int q9 :: .int q10 :: .int (F_X8_day_0_11 q11 water) :: .int ((nI dg) - 1) :: .int q13 :: .int (F_X8_day_0_14 q11 q14 water) :: .int (F_X8_day_0_15 q11 q15 water) :: .int (F_X8_day_0_16 q11 q16 water) :: .int q17 :: .int q18 :: .int q19 :: .int (F_X8_day_0_20 q11 q20 tk d4 d6 d7 d8 d30 d31 water) :: .ref m21 :: .ref m22 :: .ref m23 :: .ref m24 :: .int (nI nb) :: .int (nI ln) :: .int (nI po) :: .int q28 :: .int (nI tk) :: .ref m30 :: .ref m31 :: .int (nI we) :: .int q33 :: [])), (m4, .inl (cI, 160, .inl d4)), (m6, .inl (cZ, 160, .inl d6)), (m7, .inl (cZ, 160, .inl d7)), (m8, .inl (cZ, 160, .inl (F_X8_day_4 q11 q20 tk d4 d6 d7 d8 d30 d31 water))), (m30, .inl (cI, 77, .inl d30)), (m31, .inl (cI, 11, .inl d31))]) 0 0 (va_A [(mA, .inr (8, .int (nI nr) :: .int (nI np) :: .ref m2 :: .ref m3 :: .ref m4 :: .ref m5 :: .ref m6 :: .ref m7 :: .ref m8 :: .int q9 :: .int q10 :: .int q11 :: .int ((nI dg) - 1) :: .int q13 :: .int q14 :: .int q15 :: .int q16 :: .int q17 :: .int q18 :: .int q19 :: .int q20 :: .ref m21 :: .ref m22 :: .ref m23 :: .ref m24 :: .int (nI nb) :: .int (nI ln) :: .int (nI po) :: .int q28 :: .int (nI tk) :: .ref m30 :: .ref m31 :: .int (nI we) :: .int q33 :: [])), (m4, .inl (cI, 160, .inl d4)), (m6, .inl (cZ, 160, .inl d6)), (m7, .inl (cZ, 160, .inl d7)), (m8, .inl (cZ, 160, .inl d8)), (m30, .inl (cI, 77, .inl d30)), (m31, .inl (cI, 11, .inl d31))] sz) := by
  refine Met.ofW (cc := cX8_day) (maxL := 3) (ret := (some .int)) (by decide) rfl ?_
  intro p e s m args below meth c s₁ B hml hv
  obtain ⟨rfl, hsz, hz, hP, hD0, hB⟩ := hv
  have hx := B.exec
  have hb := B.bytes
  have hr := B.returns
  have hts := atoms_spec (ws := wsX8_day) B.pre
  have hown : s.vm.findClass RX8 = some m.cls := findClass_of_methodNamed B.named
  have hlocks := B.notSynchronized
  subst hsz
  have hD := hD0.self (sz := s.heap.size)
  have hA0 := va_A0 hD0 hz
  unfold QI
  generalize hAe : va_A [(mA, .inr (8, .int (nI nr) :: .int (nI np) :: .ref m2 :: .ref m3 :: .ref m4 :: .ref m5 :: .ref m6 :: .ref m7 :: .ref m8 :: .int q9 :: .int q10 :: .int q11 :: .int ((nI dg) - 1) :: .int q13 :: .int q14 :: .int q15 :: .int q16 :: .int q17 :: .int q18 :: .int q19 :: .int q20 :: .ref m21 :: .ref m22 :: .ref m23 :: .ref m24 :: .int (nI nb) :: .int (nI ln) :: .int (nI po) :: .int q28 :: .int (nI tk) :: .ref m30 :: .ref m31 :: .int (nI we) :: .int q33 :: [])), (m4, .inl (cI, 160, .inl d4)), (m6, .inl (cZ, 160, .inl d6)), (m7, .inl (cZ, 160, .inl d7)), (m8, .inl (cZ, 160, .inl d8)), (m30, .inl (cI, 77, .inl d30)), (m31, .inl (cI, 11, .inl d31))] s.heap.size = A at hD hA0 ⊢
  have hA : ∀ q : Nat, s.heap.size ≤ q → A q := fun q h => by rw [← hAe]; exact Or.inr h
  have hS : va_S A s.heap s.heap [] := va_S.rf
  have hiX8 : ∀ w ∈ wsX80, w ∈ wsX8_day := fun w h => List.mem_cons_of_mem _ (List.mem_append_right _ h)
  have hl := lv_entry ([.ref mA, .int water]) (n := 3) (Nat.le_of_ble_eq_true rfl)
  rw [lg_entry_eq]
  generalize (lg_sl ([.ref mA, .int water]) ++ List.replicate (3 - (lg_sl ([.ref mA, .int water])).length) Slot.unset).toArray = ls at hl ⊢
  have hl : lv_has ls 3 [(0, .ref mA), (1, .int water)] := hl
  refine lv_iload_n hx hb dX8_day_0 rfl (lv_at hl 1 rfl) ?_
  refine lv_iconst (v := 0) hx hb dX8_day_1 (by decide) ?_
  refine lv_sipush (v := 200) hx hb dX8_day_2 (by decide) ?_
  refine k_i (w2 := [(mA, .inr (8, .int (nI nr) :: .int (nI np) :: .ref m2 :: .ref m3 :: .ref m4 :: .ref m5 :: .ref m6 :: .ref m7 :: .ref m8 :: .int q9 :: .int q10 :: .int q11 :: .int ((nI dg) - 1) :: .int q13 :: .int q14 :: .int q15 :: .int q16 :: .int q17 :: .int q18 :: .int q19 :: .int q20 :: .ref m21 :: .ref m22 :: .ref m23 :: .ref m24 :: .int (nI nb) :: .int (nI ln) :: .int (nI po) :: .int q28 :: .int (nI tk) :: .ref m30 :: .ref m31 :: .int (nI we) :: .int q33 :: [])), (m4, .inl (cI, 160, .inl d4)), (m6, .inl (cZ, 160, .inl d6)), (m7, .inl (cZ, 160, .inl d7)), (m8, .inl (cZ, 160, .inl d8)), (m30, .inl (cI, 77, .inl d30)), (m31, .inl (cI, 11, .inl d31))]) (va_runS (As := [.int water, .int 0, .int 200]) (rest := []) ⟨hx, hb, hml, hown, hts⟩ (c_X8_isIn l _ water 0 200) (va_cwS 3 hts gX8_day_X8_isIn rfl rfl rfl (by decide +kernel) ⟨Nat.le_of_ble_eq_true rfl, Nat.le_of_ble_eq_true rfl⟩) (pre_S hB hz hA0 hP hD hS [] rfl rfl) rfl rfl hl.1 rfl (lv_room (Nat.le_of_ble_eq_true rfl)) dX8_day_5 ⟨Nat.zero_le _, Nat.zero_le _⟩) hP hD hS hA [] [0, 1, 2, 3, 4, 5, 6] [0, 1, 2, 3, 4, 5, 6] rfl rfl rfl rfl rfl (fun H locs hP hD hS => ?_)
  refine lv_if_eq (tgt := 21) hx hb dX8_day_8 (by decide) (fun c_1 => ?_) (fun c_1 => ?_)
  · refine lv_iconst (v := (-1)) hx hb dX8_day_21 (by decide) ?_
    have er : F_X8_day q11 water = (-1) := by rw [F_X8_day, if_pos c_1]
    have e0_11 : F_X8_day_0_11 q11 water = q11 := by rw [F_X8_day_0_11, if_pos c_1]
    have e0_14 : F_X8_day_0_14 q11 q14 water = q14 := by rw [F_X8_day_0_14, if_pos c_1]
    have e0_15 : F_X8_day_0_15 q11 q15 water = q15 := by rw [F_X8_day_0_15, if_pos c_1]
    have e0_16 : F_X8_day_0_16 q11 q16 water = q16 := by rw [F_X8_day_0_16, if_pos c_1]
    have e0_20 : F_X8_day_0_20 q11 q20 tk d4 d6 d7 d8 d30 d31 water = q20 := by rw [F_X8_day_0_20, if_pos c_1]
    have e4 : F_X8_day_4 q11 q20 tk d4 d6 d7 d8 d30 d31 water = d8 := by rw [F_X8_day_4, if_pos c_1]
    exact W.iret hx hb hr (fun t ht hW => ⟨⟨_, (), rfl, er.symm, by rw [ht, e0_11, e0_14, e0_15, e0_16, e0_20, e4]; exact hP, by rw [e0_11, e0_14, e0_15, e0_16, e0_20, e4]; exact hD⟩, hS.F ht⟩) hS.2.2 dX8_day_22
  · refine lv_aload_n hx hb dX8_day_11 rfl (lv_at hl 0 rfl) ?_
    refine va_get (D := D) (ci := 8) (v := .int q11) (C := RX8) (T := TX8) (N := 34) hx hb hts hiX8 hown hB.1 hP 0 rfl rfl 11 (by decide) (hts _ (List.mem_of_getElem? (i := 1) rfl)) (fun _ h9 => h9) rfl dX8_day_12 ?_
    refine lv_sipush (v := 600) hx hb dX8_day_15 (by decide) ?_
    refine lv_icmp_ne (tgt := 23) hx hb dX8_day_18 (by decide) (fun c_2 => ?_) (fun c_2 => ?_)
    · refine lv_aload_n hx hb dX8_day_23 rfl (lv_at hl 0 rfl) ?_
      refine lv_iconst (v := 0) hx hb dX8_day_24 (by decide) ?_
      refine lv_sipush (v := 1000) hx hb dX8_day_25 (by decide) ?_
      refine lv_aload_n hx hb dX8_day_28 rfl (lv_at hl 0 rfl) ?_
      refine va_get (D := D) (ci := 8) (v := .int q15) (C := RX8) (T := TX8) (N := 34) hx hb hts hiX8 hown hB.1 hP 0 rfl rfl 15 (by decide) (hts _ (List.mem_of_getElem? (i := 2) rfl)) (fun _ h9 => h9) rfl dX8_day_29 ?_
      refine lv_iload_n hx hb dX8_day_32 rfl (lv_at hl 1 rfl) ?_
      refine lv_iadd hx hb dX8_day_33 ?_
      refine lv_iconst (v := 3) hx hb dX8_day_34 (by decide) ?_
      refine lv_isub hx hb dX8_day_35 ?_
      refine va_mmin hx hb (hml.trans hl.1.symm) hown (hts _ (List.mem_of_getElem? (i := 3) rfl)) (hts _ (List.mem_of_getElem? (i := 4) rfl)) (hts _ (List.mem_of_getElem? (i := 5) rfl)) (hts _ (List.mem_of_getElem? (i := 6) rfl)) (Nat.le_of_ble_eq_true rfl) (Nat.le_of_ble_eq_true rfl) (Nat.zero_le _) (Nat.zero_le _) dX8_day_36 ?_
      refine va_mmax hx hb (hml.trans hl.1.symm) hown (hts _ (List.mem_of_getElem? (i := 7) rfl)) (hts _ (List.mem_of_getElem? (i := 8) rfl)) (hts _ (List.mem_of_getElem? (i := 5) rfl)) (hts _ (List.mem_of_getElem? (i := 9) rfl)) (Nat.le_of_ble_eq_true rfl) (Nat.le_of_ble_eq_true rfl) (Nat.zero_le _) (Nat.zero_le _) dX8_day_39 ?_
      refine pf (w2 := [(mA, .inr (8, .int (nI nr) :: .int (nI np) :: .ref m2 :: .ref m3 :: .ref m4 :: .ref m5 :: .ref m6 :: .ref m7 :: .ref m8 :: .int q9 :: .int q10 :: .int q11 :: .int ((nI dg) - 1) :: .int q13 :: .int q14 :: .int (if 0 < (if ((q15 + water) - 3) < 1000 then ((q15 + water) - 3) else 1000) then (if ((q15 + water) - 3) < 1000 then ((q15 + water) - 3) else 1000) else 0) :: .int q16 :: .int q17 :: .int q18 :: .int q19 :: .int q20 :: .ref m21 :: .ref m22 :: .ref m23 :: .ref m24 :: .int (nI nb) :: .int (nI ln) :: .int (nI po) :: .int q28 :: .int (nI tk) :: .ref m30 :: .ref m31 :: .int (nI we) :: .int q33 :: [])), (m4, .inl (cI, 160, .inl d4)), (m6, .inl (cZ, 160, .inl d6)), (m7, .inl (cZ, 160, .inl d7)), (m8, .inl (cZ, 160, .inl d8)), (m30, .inl (cI, 77, .inl d30)), (m31, .inl (cI, 11, .inl d31))]) (ci := 8) (C := RX8) (T := TX8) (N := 34) hx hb hts hiX8 tyX8 tyX8_ok nmX8 hown hB.1 hP hD hS 0 rfl rfl 15 (by decide) (hts _ (List.mem_of_getElem? (i := 2) rfl)) rfl rfl rfl rfl (Nat.le_of_ble_eq_true rfl) rfl dX8_day_42 (fun H locs hP hD hS => ?_)
      refine lv_aload_n hx hb dX8_day_45 rfl (lv_at hl 0 rfl) ?_
      refine lv_iconst (v := 0) hx hb dX8_day_46 (by decide) ?_
      refine lv_aload_n hx hb dX8_day_47 rfl (lv_at hl 0 rfl) ?_
      refine va_get (D := D) (ci := 8) (v := .int q16) (C := RX8) (T := TX8) (N := 34) hx hb hts hiX8 hown hB.1 hP 0 rfl rfl 16 (by decide) (hts _ (List.mem_of_getElem? (i := 10) rfl)) (fun _ h9 => h9) rfl dX8_day_48 ?_
      refine lv_bipush (v := 10) hx hb dX8_day_51 (by decide) ?_
      refine lv_isub hx hb dX8_day_53 ?_
      refine va_mmax hx hb (hml.trans hl.1.symm) hown (hts _ (List.mem_of_getElem? (i := 7) rfl)) (hts _ (List.mem_of_getElem? (i := 8) rfl)) (hts _ (List.mem_of_getElem? (i := 5) rfl)) (hts _ (List.mem_of_getElem? (i := 9) rfl)) (Nat.le_of_ble_eq_true rfl) (Nat.le_of_ble_eq_true rfl) (Nat.zero_le _) (Nat.zero_le _) dX8_day_54 ?_
      refine pf (w2 := [(mA, .inr (8, .int (nI nr) :: .int (nI np) :: .ref m2 :: .ref m3 :: .ref m4 :: .ref m5 :: .ref m6 :: .ref m7 :: .ref m8 :: .int q9 :: .int q10 :: .int q11 :: .int ((nI dg) - 1) :: .int q13 :: .int q14 :: .int (if 0 < (if ((q15 + water) - 3) < 1000 then ((q15 + water) - 3) else 1000) then (if ((q15 + water) - 3) < 1000 then ((q15 + water) - 3) else 1000) else 0) :: .int (if 0 < (q16 - 10) then (q16 - 10) else 0) :: .int q17 :: .int q18 :: .int q19 :: .int q20 :: .ref m21 :: .ref m22 :: .ref m23 :: .ref m24 :: .int (nI nb) :: .int (nI ln) :: .int (nI po) :: .int q28 :: .int (nI tk) :: .ref m30 :: .ref m31 :: .int (nI we) :: .int q33 :: [])), (m4, .inl (cI, 160, .inl d4)), (m6, .inl (cZ, 160, .inl d6)), (m7, .inl (cZ, 160, .inl d7)), (m8, .inl (cZ, 160, .inl d8)), (m30, .inl (cI, 77, .inl d30)), (m31, .inl (cI, 11, .inl d31))]) (ci := 8) (C := RX8) (T := TX8) (N := 34) hx hb hts hiX8 tyX8 tyX8_ok nmX8 hown hB.1 hP hD hS 0 rfl rfl 16 (by decide) (hts _ (List.mem_of_getElem? (i := 10) rfl)) rfl rfl rfl rfl (Nat.le_of_ble_eq_true rfl) rfl dX8_day_57 (fun H locs hP hD hS => ?_)
      refine lv_iconst (v := 0) hx hb dX8_day_60 (by decide) ?_
      refine lv_istore_n (lv' := [(2, .int 0), (0, .ref mA), (1, .int water)]) hx hb dX8_day_61 rfl hl (by decide) rfl (fun ls hl => ?_)
      refine lpM (σ := Nat) (fun t => t ≤ 160) (fun t => 160 - t) (fun t => [(mA, .inr (8, .int (nI nr) :: .int (nI np) :: .ref m2 :: .ref m3 :: .ref m4 :: .ref m5 :: .ref m6 :: .ref m7 :: .ref m8 :: .int q9 :: .int q10 :: .int q11 :: .int ((nI dg) - 1) :: .int q13 :: .int q14 :: .int (if 0 < (if ((q15 + water) - 3) < 1000 then ((q15 + water) - 3) else 1000) then (if ((q15 + water) - 3) < 1000 then ((q15 + water) - 3) else 1000) else 0) :: .int (if 0 < (q16 - 10) then (q16 - 10) else 0) :: .int q17 :: .int q18 :: .int q19 :: .int (lp (F_X8_day_L62 q11 tk d4 d6 d7 d30 d31) t (q20, d8)).1 :: .ref m21 :: .ref m22 :: .ref m23 :: .ref m24 :: .int (nI nb) :: .int (nI ln) :: .int (nI po) :: .int q28 :: .int (nI tk) :: .ref m30 :: .ref m31 :: .int (nI we) :: .int q33 :: [])), (m4, .inl (cI, 160, .inl d4)), (m6, .inl (cZ, 160, .inl d6)), (m7, .inl (cZ, 160, .inl d7)), (m8, .inl (cZ, 160, .inl (lp (F_X8_day_L62 q11 tk d4 d6 d7 d30 d31) t (q20, d8)).2)), (m30, .inl (cI, 77, .inl d30)), (m31, .inl (cI, 11, .inl d31))]) (fun t => [(2, .int (nI t)), (0, .ref mA), (1, .int water)]) 0 (Nat.zero_le _) hP hD hS (lv_sub hl [0, 1, 2] rfl) ?_
      intro t h_t ih_t H locs ls hP hD hS hl
      have hP : va_P D vwCl [(mA, .inr (8, .int (nI nr) :: .int (nI np) :: .ref m2 :: .ref m3 :: .ref m4 :: .ref m5 :: .ref m6 :: .ref m7 :: .ref m8 :: .int q9 :: .int q10 :: .int q11 :: .int ((nI dg) - 1) :: .int q13 :: .int q14 :: .int (if 0 < (if ((q15 + water) - 3) < 1000 then ((q15 + water) - 3) else 1000) then (if ((q15 + water) - 3) < 1000 then ((q15 + water) - 3) else 1000) else 0) :: .int (if 0 < (q16 - 10) then (q16 - 10) else 0) :: .int q17 :: .int q18 :: .int q19 :: .int (lp (F_X8_day_L62 q11 tk d4 d6 d7 d30 d31) t (q20, d8)).1 :: .ref m21 :: .ref m22 :: .ref m23 :: .ref m24 :: .int (nI nb) :: .int (nI ln) :: .int (nI po) :: .int q28 :: .int (nI tk) :: .ref m30 :: .ref m31 :: .int (nI we) :: .int q33 :: [])), (m4, .inl (cI, 160, .inl d4)), (m6, .inl (cZ, 160, .inl d6)), (m7, .inl (cZ, 160, .inl d7)), (m8, .inl (cZ, 160, .inl (lp (F_X8_day_L62 q11 tk d4 d6 d7 d30 d31) t (q20, d8)).2)), (m30, .inl (cI, 77, .inl d30)), (m31, .inl (cI, 11, .inl d31))] H := hP
      have hD : va_D A [(mA, .inr (8, .int (nI nr) :: .int (nI np) :: .ref m2 :: .ref m3 :: .ref m4 :: .ref m5 :: .ref m6 :: .ref m7 :: .ref m8 :: .int q9 :: .int q10 :: .int q11 :: .int ((nI dg) - 1) :: .int q13 :: .int q14 :: .int (if 0 < (if ((q15 + water) - 3) < 1000 then ((q15 + water) - 3) else 1000) then (if ((q15 + water) - 3) < 1000 then ((q15 + water) - 3) else 1000) else 0) :: .int (if 0 < (q16 - 10) then (q16 - 10) else 0) :: .int q17 :: .int q18 :: .int q19 :: .int (lp (F_X8_day_L62 q11 tk d4 d6 d7 d30 d31) t (q20, d8)).1 :: .ref m21 :: .ref m22 :: .ref m23 :: .ref m24 :: .int (nI nb) :: .int (nI ln) :: .int (nI po) :: .int q28 :: .int (nI tk) :: .ref m30 :: .ref m31 :: .int (nI we) :: .int q33 :: [])), (m4, .inl (cI, 160, .inl d4)), (m6, .inl (cZ, 160, .inl d6)), (m7, .inl (cZ, 160, .inl d7)), (m8, .inl (cZ, 160, .inl (lp (F_X8_day_L62 q11 tk d4 d6 d7 d30 d31) t (q20, d8)).2)), (m30, .inl (cI, 77, .inl d30)), (m31, .inl (cI, 11, .inl d31))] := hD
      have hl : lv_has ls 3 [(2, .int (nI t)), (0, .ref mA), (1, .int water)] := hl
      generalize hs_t : lp (F_X8_day_L62 q11 tk d4 d6 d7 d30 d31) t (q20, d8) = sv3 at hP hD 
      refine lv_iload_n hx hb dX8_day_62 rfl (lv_at hl 0 rfl) ?_
      refine lv_sipush (v := 160) hx hb dX8_day_63 (by decide) ?_
      refine lv_icmp_ge (tgt := 146) hx hb dX8_day_66 (by decide) (fun c_4 => ?_) (fun c_4 => ?_)
      · have hx_t : 160 = t := Eq.symm (le_ex (N := 160) (by decide) h_t c_4)
        subst hx_t
        subst hs_t
        refine lv_aload_n hx hb dX8_day_146 rfl (lv_at hl 1 rfl) ?_
        refine lv_bipush (v := 20) hx hb dX8_day_147 (by decide) ?_
        refine pf (w2 := [(mA, .inr (8, .int (nI nr) :: .int (nI np) :: .ref m2 :: .ref m3 :: .ref m4 :: .ref m5 :: .ref m6 :: .ref m7 :: .ref m8 :: .int q9 :: .int q10 :: .int q11 :: .int ((nI dg) - 1) :: .int q13 :: .int 20 :: .int (if 0 < (if ((q15 + water) - 3) < 1000 then ((q15 + water) - 3) else 1000) then (if ((q15 + water) - 3) < 1000 then ((q15 + water) - 3) else 1000) else 0) :: .int (if 0 < (q16 - 10) then (q16 - 10) else 0) :: .int q17 :: .int q18 :: .int q19 :: .int (lp (F_X8_day_L62 q11 tk d4 d6 d7 d30 d31) 160 (q20, d8)).1 :: .ref m21 :: .ref m22 :: .ref m23 :: .ref m24 :: .int (nI nb) :: .int (nI ln) :: .int (nI po) :: .int q28 :: .int (nI tk) :: .ref m30 :: .ref m31 :: .int (nI we) :: .int q33 :: [])), (m4, .inl (cI, 160, .inl d4)), (m6, .inl (cZ, 160, .inl d6)), (m7, .inl (cZ, 160, .inl d7)), (m8, .inl (cZ, 160, .inl (lp (F_X8_day_L62 q11 tk d4 d6 d7 d30 d31) 160 (q20, d8)).2)), (m30, .inl (cI, 77, .inl d30)), (m31, .inl (cI, 11, .inl d31))]) (ci := 8) (C := RX8) (T := TX8) (N := 34) hx hb hts hiX8 tyX8 tyX8_ok nmX8 hown hB.1 hP hD hS 0 rfl rfl 14 (by decide) (hts _ (List.mem_of_getElem? (i := 16) rfl)) rfl rfl rfl rfl (Nat.le_of_ble_eq_true rfl) rfl dX8_day_149 (fun H locs hP hD hS => ?_)
        refine lv_aload_n hx hb dX8_day_152 rfl (lv_at hl 1 rfl) ?_
        refine lv_dup hx hb dX8_day_153 rfl ?_
        refine va_get (D := D) (ci := 8) (v := .int q11) (C := RX8) (T := TX8) (N := 34) hx hb hts hiX8 hown hB.1 hP 0 rfl rfl 11 (by decide) (hts _ (List.mem_of_getElem? (i := 1) rfl)) (fun _ h9 => h9) rfl dX8_day_154 ?_
        refine lv_iconst (v := 1) hx hb dX8_day_157 (by decide) ?_
        refine lv_iadd hx hb dX8_day_158 ?_
        refine pf (w2 := [(mA, .inr (8, .int (nI nr) :: .int (nI np) :: .ref m2 :: .ref m3 :: .ref m4 :: .ref m5 :: .ref m6 :: .ref m7 :: .ref m8 :: .int q9 :: .int q10 :: .int (q11 + 1) :: .int ((nI dg) - 1) :: .int q13 :: .int 20 :: .int (if 0 < (if ((q15 + water) - 3) < 1000 then ((q15 + water) - 3) else 1000) then (if ((q15 + water) - 3) < 1000 then ((q15 + water) - 3) else 1000) else 0) :: .int (if 0 < (q16 - 10) then (q16 - 10) else 0) :: .int q17 :: .int q18 :: .int q19 :: .int (lp (F_X8_day_L62 q11 tk d4 d6 d7 d30 d31) 160 (q20, d8)).1 :: .ref m21 :: .ref m22 :: .ref m23 :: .ref m24 :: .int (nI nb) :: .int (nI ln) :: .int (nI po) :: .int q28 :: .int (nI tk) :: .ref m30 :: .ref m31 :: .int (nI we) :: .int q33 :: [])), (m4, .inl (cI, 160, .inl d4)), (m6, .inl (cZ, 160, .inl d6)), (m7, .inl (cZ, 160, .inl d7)), (m8, .inl (cZ, 160, .inl (lp (F_X8_day_L62 q11 tk d4 d6 d7 d30 d31) 160 (q20, d8)).2)), (m30, .inl (cI, 77, .inl d30)), (m31, .inl (cI, 11, .inl d31))]) (ci := 8) (C := RX8) (T := TX8) (N := 34) hx hb hts hiX8 tyX8 tyX8_ok nmX8 hown hB.1 hP hD hS 0 rfl rfl 11 (by decide) (hts _ (List.mem_of_getElem? (i := 1) rfl)) rfl rfl rfl rfl (Nat.le_of_ble_eq_true rfl) rfl dX8_day_159 (fun H locs hP hD hS => ?_)
        refine lv_aload_n hx hb dX8_day_162 rfl (lv_at hl 1 rfl) ?_
        refine va_get (D := D) (ci := 8) (v := .int (q11 + 1)) (C := RX8) (T := TX8) (N := 34) hx hb hts hiX8 hown hB.1 hP 0 rfl rfl 11 (by decide) (hts _ (List.mem_of_getElem? (i := 1) rfl)) (fun _ h9 => h9) rfl dX8_day_163 ?_
        have er : F_X8_day q11 water = q11 + 1 := by rw [F_X8_day, if_neg c_1, if_neg c_2]
        have e0_11 : F_X8_day_0_11 q11 water = q11 + 1 := by rw [F_X8_day_0_11, if_neg c_1, if_neg c_2]
        have e0_14 : F_X8_day_0_14 q11 q14 water = 20 := by rw [F_X8_day_0_14, if_neg c_1, if_neg c_2]
        have e0_15 : F_X8_day_0_15 q11 q15 water = (if 0 < (if ((q15 + water) - 3) < 1000 then ((q15 + water) - 3) else 1000) then (if ((q15 + water) - 3) < 1000 then ((q15 + water) - 3) else 1000) else 0) := by rw [F_X8_day_0_15, if_neg c_1, if_neg c_2]
        have e0_16 : F_X8_day_0_16 q11 q16 water = (if 0 < (q16 - 10) then (q16 - 10) else 0) := by rw [F_X8_day_0_16, if_neg c_1, if_neg c_2]
        have e0_20 : F_X8_day_0_20 q11 q20 tk d4 d6 d7 d8 d30 d31 water = (lp (F_X8_day_L62 q11 tk d4 d6 d7 d30 d31) 160 (q20, d8)).1 := by rw [F_X8_day_0_20, if_neg c_1, if_neg c_2]
        have e4 : F_X8_day_4 q11 q20 tk d4 d6 d7 d8 d30 d31 water = (lp (F_X8_day_L62 q11 tk d4 d6 d7 d30 d31) 160 (q20, d8)).2 := by rw [F_X8_day_4, if_neg c_1, if_neg c_2]
        exact W.iret hx hb hr (fun t ht hW => ⟨⟨_, (), rfl, er.symm, by rw [ht, e0_11, e0_14, e0_15, e0_16, e0_20, e4]; exact hP, by rw [e0_11, e0_14, e0_15, e0_16, e0_20, e4]; exact hD⟩, hS.F ht⟩) hS.2.2 dX8_day_166
      · have hlt_t : t < 160 := le_go (N := 160) (by decide) h_t c_4
        refine lv_aload_n hx hb dX8_day_69 rfl (lv_at hl 1 rfl) ?_
        refine va_get (D := D) (ci := 8) (v := .ref m6) (C := RX8) (T := TX8) (N := 34) hx hb hts hiX8 hown hB.1 hP 0 rfl rfl 6 (by decide) (hts _ (List.mem_of_getElem? (i := 11) rfl)) (fun _ h9 => h9) rfl dX8_day_70 ?_
        refine lv_iload_n hx hb dX8_day_73 rfl (lv_at hl 0 rfl) ?_
        refine ra_z hx hb hB.1 hP 2 rfl t rfl (by omega) (by decide) dX8_day_74 ?_
        refine lv_if_eq (tgt := 140) hx hb dX8_day_75 (by decide) (fun c_5 => ?_) (fun c_5 => ?_)
        · refine lv_iinc (v := nI (t + 1)) (lv' := [(2, .int (nI (t + 1))), (0, .ref mA), (1, .int water)]) hx hb dX8_day_140 hl (k := 0) rfl (nI_1 _) (by decide) rfl (fun ls hl => ?_)
          refine lv_goto (tgt := 62) hx hb dX8_day_143 (by decide) ?_
          have e_step : F_X8_day_L62 q11 tk d4 d6 d7 d30 d31 t sv3 = (sv3.1, sv3.2) := by rw [F_X8_day_L62, if_pos c_5]
          have hP2 : va_P D vwCl [(mA, .inr (8, .int (nI nr) :: .int (nI np) :: .ref m2 :: .ref m3 :: .ref m4 :: .ref m5 :: .ref m6 :: .ref m7 :: .ref m8 :: .int q9 :: .int q10 :: .int q11 :: .int ((nI dg) - 1) :: .int q13 :: .int q14 :: .int (if 0 < (if ((q15 + water) - 3) < 1000 then ((q15 + water) - 3) else 1000) then (if ((q15 + water) - 3) < 1000 then ((q15 + water) - 3) else 1000) else 0) :: .int (if 0 < (q16 - 10) then (q16 - 10) else 0) :: .int q17 :: .int q18 :: .int q19 :: .int (F_X8_day_L62 q11 tk d4 d6 d7 d30 d31 t sv3).1 :: .ref m21 :: .ref m22 :: .ref m23 :: .ref m24 :: .int (nI nb) :: .int (nI ln) :: .int (nI po) :: .int q28 :: .int (nI tk) :: .ref m30 :: .ref m31 :: .int (nI we) :: .int q33 :: [])), (m4, .inl (cI, 160, .inl d4)), (m6, .inl (cZ, 160, .inl d6)), (m7, .inl (cZ, 160, .inl d7)), (m8, .inl (cZ, 160, .inl (F_X8_day_L62 q11 tk d4 d6 d7 d30 d31 t sv3).2)), (m30, .inl (cI, 77, .inl d30)), (m31, .inl (cI, 11, .inl d31))] H := by rw [e_step]; exact hP
          have hD2 : va_D A [(mA, .inr (8, .int (nI nr) :: .int (nI np) :: .ref m2 :: .ref m3 :: .ref m4 :: .ref m5 :: .ref m6 :: .ref m7 :: .ref m8 :: .int q9 :: .int q10 :: .int q11 :: .int ((nI dg) - 1) :: .int q13 :: .int q14 :: .int (if 0 < (if ((q15 + water) - 3) < 1000 then ((q15 + water) - 3) else 1000) then (if ((q15 + water) - 3) < 1000 then ((q15 + water) - 3) else 1000) else 0) :: .int (if 0 < (q16 - 10) then (q16 - 10) else 0) :: .int q17 :: .int q18 :: .int q19 :: .int (F_X8_day_L62 q11 tk d4 d6 d7 d30 d31 t sv3).1 :: .ref m21 :: .ref m22 :: .ref m23 :: .ref m24 :: .int (nI nb) :: .int (nI ln) :: .int (nI po) :: .int q28 :: .int (nI tk) :: .ref m30 :: .ref m31 :: .int (nI we) :: .int q33 :: [])), (m4, .inl (cI, 160, .inl d4)), (m6, .inl (cZ, 160, .inl d6)), (m7, .inl (cZ, 160, .inl d7)), (m8, .inl (cZ, 160, .inl (F_X8_day_L62 q11 tk d4 d6 d7 d30 d31 t sv3).2)), (m30, .inl (cI, 77, .inl d30)), (m31, .inl (cI, 11, .inl d31))] := by rw [e_step]; exact hD
          have hl2 : lv_has ls 3 [(2, .int (nI (t + 1))), (0, .ref mA), (1, .int water)] := lv_sub hl [0, 1, 2] rfl
          subst hs_t
          exact ih_t (t + 1) (by omega) (by omega) _ _ _ hP2 hD2 hS hl2
        · refine lv_aload_n hx hb dX8_day_78 rfl (lv_at hl 1 rfl) ?_
          refine va_get (D := D) (ci := 8) (v := .ref m7) (C := RX8) (T := TX8) (N := 34) hx hb hts hiX8 hown hB.1 hP 0 rfl rfl 7 (by decide) (hts _ (List.mem_of_getElem? (i := 12) rfl)) (fun _ h9 => h9) rfl dX8_day_79 ?_
          refine lv_iload_n hx hb dX8_day_82 rfl (lv_at hl 0 rfl) ?_
          refine ra_z hx hb hB.1 hP 3 rfl t rfl (by omega) (by decide) dX8_day_83 ?_
          refine lv_if_ne (tgt := 140) hx hb dX8_day_84 (by decide) (fun c_6 => ?_) (fun c_6 => ?_)
          · refine lv_iinc (v := nI (t + 1)) (lv' := [(2, .int (nI (t + 1))), (0, .ref mA), (1, .int water)]) hx hb dX8_day_140 hl (k := 0) rfl (nI_1 _) (by decide) rfl (fun ls hl => ?_)
            refine lv_goto (tgt := 62) hx hb dX8_day_143 (by decide) ?_
            have e_step : F_X8_day_L62 q11 tk d4 d6 d7 d30 d31 t sv3 = (sv3.1, sv3.2) := by rw [F_X8_day_L62, if_neg c_5, if_neg c_6]
            have hP2 : va_P D vwCl [(mA, .inr (8, .int (nI nr) :: .int (nI np) :: .ref m2 :: .ref m3 :: .ref m4 :: .ref m5 :: .ref m6 :: .ref m7 :: .ref m8 :: .int q9 :: .int q10 :: .int q11 :: .int ((nI dg) - 1) :: .int q13 :: .int q14 :: .int (if 0 < (if ((q15 + water) - 3) < 1000 then ((q15 + water) - 3) else 1000) then (if ((q15 + water) - 3) < 1000 then ((q15 + water) - 3) else 1000) else 0) :: .int (if 0 < (q16 - 10) then (q16 - 10) else 0) :: .int q17 :: .int q18 :: .int q19 :: .int (F_X8_day_L62 q11 tk d4 d6 d7 d30 d31 t sv3).1 :: .ref m21 :: .ref m22 :: .ref m23 :: .ref m24 :: .int (nI nb) :: .int (nI ln) :: .int (nI po) :: .int q28 :: .int (nI tk) :: .ref m30 :: .ref m31 :: .int (nI we) :: .int q33 :: [])), (m4, .inl (cI, 160, .inl d4)), (m6, .inl (cZ, 160, .inl d6)), (m7, .inl (cZ, 160, .inl d7)), (m8, .inl (cZ, 160, .inl (F_X8_day_L62 q11 tk d4 d6 d7 d30 d31 t sv3).2)), (m30, .inl (cI, 77, .inl d30)), (m31, .inl (cI, 11, .inl d31))] H := by rw [e_step]; exact hP
            have hD2 : va_D A [(mA, .inr (8, .int (nI nr) :: .int (nI np) :: .ref m2 :: .ref m3 :: .ref m4 :: .ref m5 :: .ref m6 :: .ref m7 :: .ref m8 :: .int q9 :: .int q10 :: .int q11 :: .int ((nI dg) - 1) :: .int q13 :: .int q14 :: .int (if 0 < (if ((q15 + water) - 3) < 1000 then ((q15 + water) - 3) else 1000) then (if ((q15 + water) - 3) < 1000 then ((q15 + water) - 3) else 1000) else 0) :: .int (if 0 < (q16 - 10) then (q16 - 10) else 0) :: .int q17 :: .int q18 :: .int q19 :: .int (F_X8_day_L62 q11 tk d4 d6 d7 d30 d31 t sv3).1 :: .ref m21 :: .ref m22 :: .ref m23 :: .ref m24 :: .int (nI nb) :: .int (nI ln) :: .int (nI po) :: .int q28 :: .int (nI tk) :: .ref m30 :: .ref m31 :: .int (nI we) :: .int q33 :: [])), (m4, .inl (cI, 160, .inl d4)), (m6, .inl (cZ, 160, .inl d6)), (m7, .inl (cZ, 160, .inl d7)), (m8, .inl (cZ, 160, .inl (F_X8_day_L62 q11 tk d4 d6 d7 d30 d31 t sv3).2)), (m30, .inl (cI, 77, .inl d30)), (m31, .inl (cI, 11, .inl d31))] := by rw [e_step]; exact hD
            have hl2 : lv_has ls 3 [(2, .int (nI (t + 1))), (0, .ref mA), (1, .int water)] := lv_sub hl [0, 1, 2] rfl
            subst hs_t
            exact ih_t (t + 1) (by omega) (by omega) _ _ _ hP2 hD2 hS hl2
          · refine lv_aload_n hx hb dX8_day_87 rfl (lv_at hl 1 rfl) ?_
            refine va_get (D := D) (ci := 8) (v := .ref m8) (C := RX8) (T := TX8) (N := 34) hx hb hts hiX8 hown hB.1 hP 0 rfl rfl 8 (by decide) (hts _ (List.mem_of_getElem? (i := 13) rfl)) (fun _ h9 => h9) rfl dX8_day_88 ?_
            refine lv_iload_n hx hb dX8_day_91 rfl (lv_at hl 0 rfl) ?_
            refine ra_z hx hb hB.1 hP 4 rfl t rfl (by omega) (by decide) dX8_day_92 ?_
            refine lv_if_ne (tgt := 140) hx hb dX8_day_93 (by decide) (fun c_7 => ?_) (fun c_7 => ?_)
            · refine lv_iinc (v := nI (t + 1)) (lv' := [(2, .int (nI (t + 1))), (0, .ref mA), (1, .int water)]) hx hb dX8_day_140 hl (k := 0) rfl (nI_1 _) (by decide) rfl (fun ls hl => ?_)
              refine lv_goto (tgt := 62) hx hb dX8_day_143 (by decide) ?_
              have e_step : F_X8_day_L62 q11 tk d4 d6 d7 d30 d31 t sv3 = (sv3.1, sv3.2) := by rw [F_X8_day_L62, if_neg c_5, if_pos c_6, if_neg c_7]
              have hP2 : va_P D vwCl [(mA, .inr (8, .int (nI nr) :: .int (nI np) :: .ref m2 :: .ref m3 :: .ref m4 :: .ref m5 :: .ref m6 :: .ref m7 :: .ref m8 :: .int q9 :: .int q10 :: .int q11 :: .int ((nI dg) - 1) :: .int q13 :: .int q14 :: .int (if 0 < (if ((q15 + water) - 3) < 1000 then ((q15 + water) - 3) else 1000) then (if ((q15 + water) - 3) < 1000 then ((q15 + water) - 3) else 1000) else 0) :: .int (if 0 < (q16 - 10) then (q16 - 10) else 0) :: .int q17 :: .int q18 :: .int q19 :: .int (F_X8_day_L62 q11 tk d4 d6 d7 d30 d31 t sv3).1 :: .ref m21 :: .ref m22 :: .ref m23 :: .ref m24 :: .int (nI nb) :: .int (nI ln) :: .int (nI po) :: .int q28 :: .int (nI tk) :: .ref m30 :: .ref m31 :: .int (nI we) :: .int q33 :: [])), (m4, .inl (cI, 160, .inl d4)), (m6, .inl (cZ, 160, .inl d6)), (m7, .inl (cZ, 160, .inl d7)), (m8, .inl (cZ, 160, .inl (F_X8_day_L62 q11 tk d4 d6 d7 d30 d31 t sv3).2)), (m30, .inl (cI, 77, .inl d30)), (m31, .inl (cI, 11, .inl d31))] H := by rw [e_step]; exact hP
              have hD2 : va_D A [(mA, .inr (8, .int (nI nr) :: .int (nI np) :: .ref m2 :: .ref m3 :: .ref m4 :: .ref m5 :: .ref m6 :: .ref m7 :: .ref m8 :: .int q9 :: .int q10 :: .int q11 :: .int ((nI dg) - 1) :: .int q13 :: .int q14 :: .int (if 0 < (if ((q15 + water) - 3) < 1000 then ((q15 + water) - 3) else 1000) then (if ((q15 + water) - 3) < 1000 then ((q15 + water) - 3) else 1000) else 0) :: .int (if 0 < (q16 - 10) then (q16 - 10) else 0) :: .int q17 :: .int q18 :: .int q19 :: .int (F_X8_day_L62 q11 tk d4 d6 d7 d30 d31 t sv3).1 :: .ref m21 :: .ref m22 :: .ref m23 :: .ref m24 :: .int (nI nb) :: .int (nI ln) :: .int (nI po) :: .int q28 :: .int (nI tk) :: .ref m30 :: .ref m31 :: .int (nI we) :: .int q33 :: [])), (m4, .inl (cI, 160, .inl d4)), (m6, .inl (cZ, 160, .inl d6)), (m7, .inl (cZ, 160, .inl d7)), (m8, .inl (cZ, 160, .inl (F_X8_day_L62 q11 tk d4 d6 d7 d30 d31 t sv3).2)), (m30, .inl (cI, 77, .inl d30)), (m31, .inl (cI, 11, .inl d31))] := by rw [e_step]; exact hD
              have hl2 : lv_has ls 3 [(2, .int (nI (t + 1))), (0, .ref mA), (1, .int water)] := lv_sub hl [0, 1, 2] rfl
              subst hs_t
              exact ih_t (t + 1) (by omega) (by omega) _ _ _ hP2 hD2 hS hl2
            · refine lv_aload_n hx hb dX8_day_96 rfl (lv_at hl 1 rfl) ?_
              refine va_get (D := D) (ci := 8) (v := .int q11) (C := RX8) (T := TX8) (N := 34) hx hb hts hiX8 hown hB.1 hP 0 rfl rfl 11 (by decide) (hts _ (List.mem_of_getElem? (i := 1) rfl)) (fun _ h9 => h9) rfl dX8_day_97 ?_
              refine lv_aload_n hx hb dX8_day_100 rfl (lv_at hl 1 rfl) ?_
              refine va_get (D := D) (ci := 8) (v := .ref m4) (C := RX8) (T := TX8) (N := 34) hx hb hts hiX8 hown hB.1 hP 0 rfl rfl 4 (by decide) (hts _ (List.mem_of_getElem? (i := 14) rfl)) (fun _ h9 => h9) rfl dX8_day_101 ?_
              refine lv_iload_n hx hb dX8_day_104 rfl (lv_at hl 0 rfl) ?_
              refine ra_i hx hb hB.1 hP 1 rfl t rfl (by omega) (by decide) dX8_day_105 ?_
              refine lv_isub hx hb dX8_day_106 ?_
              refine lv_aload_n hx hb dX8_day_107 rfl (lv_at hl 1 rfl) ?_
              refine lv_iconst (v := 4) hx hb dX8_day_108 (by decide) ?_
              refine k_i (w2 := [(mA, .inr (8, .int (nI nr) :: .int (nI np) :: .ref m2 :: .ref m3 :: .ref m4 :: .ref m5 :: .ref m6 :: .ref m7 :: .ref m8 :: .int q9 :: .int q10 :: .int q11 :: .int ((nI dg) - 1) :: .int q13 :: .int q14 :: .int (if 0 < (if ((q15 + water) - 3) < 1000 then ((q15 + water) - 3) else 1000) then (if ((q15 + water) - 3) < 1000 then ((q15 + water) - 3) else 1000) else 0) :: .int (if 0 < (q16 - 10) then (q16 - 10) else 0) :: .int q17 :: .int q18 :: .int q19 :: .int sv3.1 :: .ref m21 :: .ref m22 :: .ref m23 :: .ref m24 :: .int (nI nb) :: .int (nI ln) :: .int (nI po) :: .int q28 :: .int (nI tk) :: .ref m30 :: .ref m31 :: .int (nI we) :: .int q33 :: [])), (m4, .inl (cI, 160, .inl d4)), (m6, .inl (cZ, 160, .inl d6)), (m7, .inl (cZ, 160, .inl d7)), (m8, .inl (cZ, 160, .inl sv3.2)), (m30, .inl (cI, 77, .inl d30)), (m31, .inl (cI, 11, .inl d31))]) (va_runV (As := [.int 4]) (rest := [.int (q11 - (d4 t))]) ⟨hx, hb, hml, hown, hts⟩ (c_X8_now l _ mA m2 m3 m4 m5 m6 m7 m8 m21 m22 m23 m24 m30 m31 q9 q10 q11 q13 q14 (if 0 < (if ((q15 + water) - 3) < 1000 then ((q15 + water) - 3) else 1000) then (if ((q15 + water) - 3) < 1000 then ((q15 + water) - 3) else 1000) else 0) (if 0 < (q16 - 10) then (q16 - 10) else 0) q17 q18 q19 sv3.1 q28 q33 nr np nb ln po tk we dg d30 d31 4 4 h20 h2r h2p h8 htk rfl (by decide)) (cwV 1 hts gX8_day_X8_now rfl rfl rfl (by decide +kernel) ⟨Nat.le_of_ble_eq_true rfl, Nat.le_of_ble_eq_true rfl⟩) (pre_V (ci := 8) (q0 := 0) hB hz hA0 hP hD hS [0, 5, 6] rfl rfl rfl rfl rfl) rfl rfl hl.1 rfl (lv_room (Nat.le_of_ble_eq_true rfl)) dX8_day_109 ⟨Nat.zero_le _, Nat.zero_le _⟩) hP hD hS hA [0, 5, 6] [1, 2, 3, 4] [4, 0, 1, 2, 3, 5, 6] rfl rfl rfl rfl rfl (fun H locs hP hD hS => ?_)
              refine lv_icmp_gt (tgt := 118) hx hb dX8_day_112 (by decide) (fun c_8 => ?_) (fun c_8 => ?_)
              · refine lv_aload_n hx hb dX8_day_118 rfl (lv_at hl 1 rfl) ?_
                refine va_get (D := D) (ci := 8) (v := .ref m8) (C := RX8) (T := TX8) (N := 34) hx hb hts hiX8 hown hB.1 hP 0 rfl rfl 8 (by decide) (hts _ (List.mem_of_getElem? (i := 13) rfl)) (fun _ h9 => h9) rfl dX8_day_119 ?_
                refine lv_iload_n hx hb dX8_day_122 rfl (lv_at hl 0 rfl) ?_
                refine lv_iconst (v := 1) hx hb dX8_day_123 (by decide) ?_
                refine wa_z (w2 := [(mA, .inr (8, .int (nI nr) :: .int (nI np) :: .ref m2 :: .ref m3 :: .ref m4 :: .ref m5 :: .ref m6 :: .ref m7 :: .ref m8 :: .int q9 :: .int q10 :: .int q11 :: .int ((nI dg) - 1) :: .int q13 :: .int q14 :: .int (if 0 < (if ((q15 + water) - 3) < 1000 then ((q15 + water) - 3) else 1000) then (if ((q15 + water) - 3) < 1000 then ((q15 + water) - 3) else 1000) else 0) :: .int (if 0 < (q16 - 10) then (q16 - 10) else 0) :: .int q17 :: .int q18 :: .int q19 :: .int sv3.1 :: .ref m21 :: .ref m22 :: .ref m23 :: .ref m24 :: .int (nI nb) :: .int (nI ln) :: .int (nI po) :: .int q28 :: .int (nI tk) :: .ref m30 :: .ref m31 :: .int (nI we) :: .int q33 :: [])), (m4, .inl (cI, 160, .inl d4)), (m6, .inl (cZ, 160, .inl d6)), (m7, .inl (cZ, 160, .inl d7)), (m8, .inl (cZ, 160, .inl (upd sv3.2 t 1))), (m30, .inl (cI, 77, .inl d30)), (m31, .inl (cI, 11, .inl d31))]) hx hb hB.1 hP hD hS 4 rfl t rfl (by omega) (by decide) rfl dX8_day_124 rfl (fun H locs hP hD hS => ?_)
                refine lv_aload_n hx hb dX8_day_125 rfl (lv_at hl 1 rfl) ?_
                refine lv_dup hx hb dX8_day_126 rfl ?_
                refine va_get (D := D) (ci := 8) (v := .int sv3.1) (C := RX8) (T := TX8) (N := 34) hx hb hts hiX8 hown hB.1 hP 0 rfl rfl 20 (by decide) (hts _ (List.mem_of_getElem? (i := 15) rfl)) (fun _ h9 => h9) rfl dX8_day_127 ?_
                refine lv_aload_n hx hb dX8_day_130 rfl (lv_at hl 1 rfl) ?_
                refine lv_bipush (v := 6) hx hb dX8_day_131 (by decide) ?_
                refine k_i (w2 := [(mA, .inr (8, .int (nI nr) :: .int (nI np) :: .ref m2 :: .ref m3 :: .ref m4 :: .ref m5 :: .ref m6 :: .ref m7 :: .ref m8 :: .int q9 :: .int q10 :: .int q11 :: .int ((nI dg) - 1) :: .int q13 :: .int q14 :: .int (if 0 < (if ((q15 + water) - 3) < 1000 then ((q15 + water) - 3) else 1000) then (if ((q15 + water) - 3) < 1000 then ((q15 + water) - 3) else 1000) else 0) :: .int (if 0 < (q16 - 10) then (q16 - 10) else 0) :: .int q17 :: .int q18 :: .int q19 :: .int sv3.1 :: .ref m21 :: .ref m22 :: .ref m23 :: .ref m24 :: .int (nI nb) :: .int (nI ln) :: .int (nI po) :: .int q28 :: .int (nI tk) :: .ref m30 :: .ref m31 :: .int (nI we) :: .int q33 :: [])), (m4, .inl (cI, 160, .inl d4)), (m6, .inl (cZ, 160, .inl d6)), (m7, .inl (cZ, 160, .inl d7)), (m8, .inl (cZ, 160, .inl (upd sv3.2 t 1))), (m30, .inl (cI, 77, .inl d30)), (m31, .inl (cI, 11, .inl d31))]) (va_runV (As := [.int 6]) (rest := [.int sv3.1, .ref mA]) ⟨hx, hb, hml, hown, hts⟩ (c_X8_now l _ mA m2 m3 m4 m5 m6 m7 m8 m21 m22 m23 m24 m30 m31 q9 q10 q11 q13 q14 (if 0 < (if ((q15 + water) - 3) < 1000 then ((q15 + water) - 3) else 1000) then (if ((q15 + water) - 3) < 1000 then ((q15 + water) - 3) else 1000) else 0) (if 0 < (q16 - 10) then (q16 - 10) else 0) q17 q18 q19 sv3.1 q28 q33 nr np nb ln po tk we dg d30 d31 6 6 h20 h2r h2p h8 htk rfl (by decide)) (cwV 1 hts gX8_day_X8_now rfl rfl rfl (by decide +kernel) ⟨Nat.le_of_ble_eq_true rfl, Nat.le_of_ble_eq_true rfl⟩) (pre_V (ci := 8) (q0 := 0) hB hz hA0 hP hD hS [0, 5, 6] rfl rfl rfl rfl rfl) rfl rfl hl.1 rfl (lv_room (Nat.le_of_ble_eq_true rfl)) dX8_day_133 ⟨Nat.zero_le _, Nat.zero_le _⟩) hP hD hS hA [0, 5, 6] [1, 2, 3, 4] [4, 0, 1, 2, 3, 5, 6] rfl rfl rfl rfl rfl (fun H locs hP hD hS => ?_)
                refine lv_iadd hx hb dX8_day_136 ?_
                refine pf (w2 := [(mA, .inr (8, .int (nI nr) :: .int (nI np) :: .ref m2 :: .ref m3 :: .ref m4 :: .ref m5 :: .ref m6 :: .ref m7 :: .ref m8 :: .int q9 :: .int q10 :: .int q11 :: .int ((nI dg) - 1) :: .int q13 :: .int q14 :: .int (if 0 < (if ((q15 + water) - 3) < 1000 then ((q15 + water) - 3) else 1000) then (if ((q15 + water) - 3) < 1000 then ((q15 + water) - 3) else 1000) else 0) :: .int (if 0 < (q16 - 10) then (q16 - 10) else 0) :: .int q17 :: .int q18 :: .int q19 :: .int (sv3.1 + (F_X8_tellsOn tk d30 d31 q11 6)) :: .ref m21 :: .ref m22 :: .ref m23 :: .ref m24 :: .int (nI nb) :: .int (nI ln) :: .int (nI po) :: .int q28 :: .int (nI tk) :: .ref m30 :: .ref m31 :: .int (nI we) :: .int q33 :: [])), (m4, .inl (cI, 160, .inl d4)), (m6, .inl (cZ, 160, .inl d6)), (m7, .inl (cZ, 160, .inl d7)), (m8, .inl (cZ, 160, .inl (upd sv3.2 t 1))), (m30, .inl (cI, 77, .inl d30)), (m31, .inl (cI, 11, .inl d31))]) (ci := 8) (C := RX8) (T := TX8) (N := 34) hx hb hts hiX8 tyX8 tyX8_ok nmX8 hown hB.1 hP hD hS 0 rfl rfl 20 (by decide) (hts _ (List.mem_of_getElem? (i := 15) rfl)) rfl rfl rfl rfl (Nat.le_of_ble_eq_true rfl) rfl dX8_day_137 (fun H locs hP hD hS => ?_)
                refine lv_iinc (v := nI (t + 1)) (lv' := [(2, .int (nI (t + 1))), (0, .ref mA), (1, .int water)]) hx hb dX8_day_140 hl (k := 0) rfl (nI_1 _) (by decide) rfl (fun ls hl => ?_)
                refine lv_goto (tgt := 62) hx hb dX8_day_143 (by decide) ?_
                have e_step : F_X8_day_L62 q11 tk d4 d6 d7 d30 d31 t sv3 = (sv3.1 + (F_X8_tellsOn tk d30 d31 q11 6), upd sv3.2 t 1) := by rw [F_X8_day_L62, if_neg c_5, if_pos c_6, if_pos c_7, if_pos c_8]
                have hP2 : va_P D vwCl [(mA, .inr (8, .int (nI nr) :: .int (nI np) :: .ref m2 :: .ref m3 :: .ref m4 :: .ref m5 :: .ref m6 :: .ref m7 :: .ref m8 :: .int q9 :: .int q10 :: .int q11 :: .int ((nI dg) - 1) :: .int q13 :: .int q14 :: .int (if 0 < (if ((q15 + water) - 3) < 1000 then ((q15 + water) - 3) else 1000) then (if ((q15 + water) - 3) < 1000 then ((q15 + water) - 3) else 1000) else 0) :: .int (if 0 < (q16 - 10) then (q16 - 10) else 0) :: .int q17 :: .int q18 :: .int q19 :: .int (F_X8_day_L62 q11 tk d4 d6 d7 d30 d31 t sv3).1 :: .ref m21 :: .ref m22 :: .ref m23 :: .ref m24 :: .int (nI nb) :: .int (nI ln) :: .int (nI po) :: .int q28 :: .int (nI tk) :: .ref m30 :: .ref m31 :: .int (nI we) :: .int q33 :: [])), (m4, .inl (cI, 160, .inl d4)), (m6, .inl (cZ, 160, .inl d6)), (m7, .inl (cZ, 160, .inl d7)), (m8, .inl (cZ, 160, .inl (F_X8_day_L62 q11 tk d4 d6 d7 d30 d31 t sv3).2)), (m30, .inl (cI, 77, .inl d30)), (m31, .inl (cI, 11, .inl d31))] H := by rw [e_step]; exact hP
                have hD2 : va_D A [(mA, .inr (8, .int (nI nr) :: .int (nI np) :: .ref m2 :: .ref m3 :: .ref m4 :: .ref m5 :: .ref m6 :: .ref m7 :: .ref m8 :: .int q9 :: .int q10 :: .int q11 :: .int ((nI dg) - 1) :: .int q13 :: .int q14 :: .int (if 0 < (if ((q15 + water) - 3) < 1000 then ((q15 + water) - 3) else 1000) then (if ((q15 + water) - 3) < 1000 then ((q15 + water) - 3) else 1000) else 0) :: .int (if 0 < (q16 - 10) then (q16 - 10) else 0) :: .int q17 :: .int q18 :: .int q19 :: .int (F_X8_day_L62 q11 tk d4 d6 d7 d30 d31 t sv3).1 :: .ref m21 :: .ref m22 :: .ref m23 :: .ref m24 :: .int (nI nb) :: .int (nI ln) :: .int (nI po) :: .int q28 :: .int (nI tk) :: .ref m30 :: .ref m31 :: .int (nI we) :: .int q33 :: [])), (m4, .inl (cI, 160, .inl d4)), (m6, .inl (cZ, 160, .inl d6)), (m7, .inl (cZ, 160, .inl d7)), (m8, .inl (cZ, 160, .inl (F_X8_day_L62 q11 tk d4 d6 d7 d30 d31 t sv3).2)), (m30, .inl (cI, 77, .inl d30)), (m31, .inl (cI, 11, .inl d31))] := by rw [e_step]; exact hD
                have hl2 : lv_has ls 3 [(2, .int (nI (t + 1))), (0, .ref mA), (1, .int water)] := lv_sub hl [0, 1, 2] rfl
                subst hs_t
                exact ih_t (t + 1) (by omega) (by omega) _ _ _ hP2 hD2 hS hl2
              · refine lv_goto (tgt := 140) hx hb dX8_day_115 (by decide) ?_
                refine lv_iinc (v := nI (t + 1)) (lv' := [(2, .int (nI (t + 1))), (0, .ref mA), (1, .int water)]) hx hb dX8_day_140 hl (k := 0) rfl (nI_1 _) (by decide) rfl (fun ls hl => ?_)
                refine lv_goto (tgt := 62) hx hb dX8_day_143 (by decide) ?_
                have e_step : F_X8_day_L62 q11 tk d4 d6 d7 d30 d31 t sv3 = (sv3.1, sv3.2) := by rw [F_X8_day_L62, if_neg c_5, if_pos c_6, if_pos c_7, if_neg c_8]
                have hP2 : va_P D vwCl [(mA, .inr (8, .int (nI nr) :: .int (nI np) :: .ref m2 :: .ref m3 :: .ref m4 :: .ref m5 :: .ref m6 :: .ref m7 :: .ref m8 :: .int q9 :: .int q10 :: .int q11 :: .int ((nI dg) - 1) :: .int q13 :: .int q14 :: .int (if 0 < (if ((q15 + water) - 3) < 1000 then ((q15 + water) - 3) else 1000) then (if ((q15 + water) - 3) < 1000 then ((q15 + water) - 3) else 1000) else 0) :: .int (if 0 < (q16 - 10) then (q16 - 10) else 0) :: .int q17 :: .int q18 :: .int q19 :: .int (F_X8_day_L62 q11 tk d4 d6 d7 d30 d31 t sv3).1 :: .ref m21 :: .ref m22 :: .ref m23 :: .ref m24 :: .int (nI nb) :: .int (nI ln) :: .int (nI po) :: .int q28 :: .int (nI tk) :: .ref m30 :: .ref m31 :: .int (nI we) :: .int q33 :: [])), (m4, .inl (cI, 160, .inl d4)), (m6, .inl (cZ, 160, .inl d6)), (m7, .inl (cZ, 160, .inl d7)), (m8, .inl (cZ, 160, .inl (F_X8_day_L62 q11 tk d4 d6 d7 d30 d31 t sv3).2)), (m30, .inl (cI, 77, .inl d30)), (m31, .inl (cI, 11, .inl d31))] H := by rw [e_step]; exact hP
                have hD2 : va_D A [(mA, .inr (8, .int (nI nr) :: .int (nI np) :: .ref m2 :: .ref m3 :: .ref m4 :: .ref m5 :: .ref m6 :: .ref m7 :: .ref m8 :: .int q9 :: .int q10 :: .int q11 :: .int ((nI dg) - 1) :: .int q13 :: .int q14 :: .int (if 0 < (if ((q15 + water) - 3) < 1000 then ((q15 + water) - 3) else 1000) then (if ((q15 + water) - 3) < 1000 then ((q15 + water) - 3) else 1000) else 0) :: .int (if 0 < (q16 - 10) then (q16 - 10) else 0) :: .int q17 :: .int q18 :: .int q19 :: .int (F_X8_day_L62 q11 tk d4 d6 d7 d30 d31 t sv3).1 :: .ref m21 :: .ref m22 :: .ref m23 :: .ref m24 :: .int (nI nb) :: .int (nI ln) :: .int (nI po) :: .int q28 :: .int (nI tk) :: .ref m30 :: .ref m31 :: .int (nI we) :: .int q33 :: [])), (m4, .inl (cI, 160, .inl d4)), (m6, .inl (cZ, 160, .inl d6)), (m7, .inl (cZ, 160, .inl d7)), (m8, .inl (cZ, 160, .inl (F_X8_day_L62 q11 tk d4 d6 d7 d30 d31 t sv3).2)), (m30, .inl (cI, 77, .inl d30)), (m31, .inl (cI, 11, .inl d31))] := by rw [e_step]; exact hD
                have hl2 : lv_has ls 3 [(2, .int (nI (t + 1))), (0, .ref mA), (1, .int water)] := lv_sub hl [0, 1, 2] rfl
                subst hs_t
                exact ih_t (t + 1) (by omega) (by omega) _ _ _ hP2 hD2 hS hl2
    · refine lv_iconst (v := (-1)) hx hb dX8_day_21 (by decide) ?_
      have er : F_X8_day q11 water = (-1) := by rw [F_X8_day, if_neg c_1, if_pos c_2]
      have e0_11 : F_X8_day_0_11 q11 water = q11 := by rw [F_X8_day_0_11, if_neg c_1, if_pos c_2]
      have e0_14 : F_X8_day_0_14 q11 q14 water = q14 := by rw [F_X8_day_0_14, if_neg c_1, if_pos c_2]
      have e0_15 : F_X8_day_0_15 q11 q15 water = q15 := by rw [F_X8_day_0_15, if_neg c_1, if_pos c_2]
      have e0_16 : F_X8_day_0_16 q11 q16 water = q16 := by rw [F_X8_day_0_16, if_neg c_1, if_pos c_2]
      have e0_20 : F_X8_day_0_20 q11 q20 tk d4 d6 d7 d8 d30 d31 water = q20 := by rw [F_X8_day_0_20, if_neg c_1, if_pos c_2]
      have e4 : F_X8_day_4 q11 q20 tk d4 d6 d7 d8 d30 d31 water = d8 := by rw [F_X8_day_4, if_neg c_1, if_pos c_2]
      exact W.iret hx hb hr (fun t ht hW => ⟨⟨_, (), rfl, er.symm, by rw [ht, e0_11, e0_14, e0_15, e0_16, e0_20, e4]; exact hP, by rw [e0_11, e0_14, e0_15, e0_16, e0_20, e4]; exact hD⟩, hS.F ht⟩) hS.2.2 dX8_day_22

set_option maxHeartbeats 4000000 in
set_option maxRecDepth 100000 in
theorem c_X8_four (l : Launch) {D : va_G} {cI cZ cB : ClassId} {au : Nat} {kA kV : Nat → Nat} {z0 : Nat} (sz : Nat) (mA : Nat) (m2 : Nat) (m3 : Nat) (m4 : Nat) (m5 : Nat) (m6 : Nat) (m7 : Nat) (m8 : Nat) (m21 : Nat) (m22 : Nat) (m23 : Nat) (m24 : Nat) (m30 : Nat) (m31 : Nat) (q9 : Int32) (q10 : Int32) (q11 : Int32) (q13 : Int32) (q14 : Int32) (q15 : Int32) (q16 : Int32) (q17 : Int32) (q18 : Int32) (q19 : Int32) (q20 : Int32) (q28 : Int32) (q33 : Int32) (nr : Nat) (np : Nat) (nb : Nat) (ln : Nat) (po : Nat) (tk : Nat) (we : Nat) (dg : Nat) (d23 : Nat → Int32) (nu : Int32) (h20 : nr ≤ 20) (h2r : 2 ≤ nr) (h2p : 2 ≤ np) (h8 : np ≤ 8) (hnb : nb + 4 ≤ 300) : Met l yX8_four wsX8_four ({ frames := 0, cells := 0, slots := 0, locals := 0 }) (va_Pc [.ref mA, .int nu] (PRE D cI cZ cB au kA kV z0 sz [(mA, .inr (8, .int (nI nr) :: .int (nI np) :: .ref m2 :: .ref m3 :: .ref m4 :: .ref m5 :: .ref m6 :: .ref m7 :: .ref m8 :: .int q9 :: .int q10 :: .int q11 :: .int ((nI dg) - 1) :: .int q13 :: .int q14 :: .int q15 :: .int q16 :: .int q17 :: .int q18 :: .int q19 :: .int q20 :: .ref m21 :: .ref m22 :: .ref m23 :: .ref m24 :: .int (nI nb) :: .int (nI ln) :: .int (nI po) :: .int q28 :: .int (nI tk) :: .ref m30 :: .ref m31 :: .int (nI we) :: .int q33 :: [])), (m23, .inl (cB, 300, .inl d23))])) (QV D [(mA, .inr (8, .int (nI nr) :: .int (nI np) :: .ref m2 :: .ref m3 :: .ref m4 :: .ref m5 :: .ref m6 :: .ref m7 :: .ref m8 :: .int q9 :: .int q10 :: .int q11 :: .int ((nI dg) - 1) :: .int q13 :: .int q14 :: .int q15 :: .int q16 :: .int q17 :: .int q18 :: .int q19 :: .int q20 :: .ref m21 :: .ref m22 :: .ref m23 :: .ref m24 :: .int (nI nb) :: .int (nI ln) :: .int (nI po) :: .int q28 :: .int (nI tk) :: .ref m30 :: .ref m31 :: .int (nI we) :: .int q33 :: [])), (m23, .inl (cB, 300, .inl d23))] sz [(mA, .inr (8, .int (nI nr) :: .int (nI np) :: .ref m2 :: .ref m3 :: .ref m4 :: .ref m5 :: .ref m6 :: .ref m7 :: .ref m8 :: .int q9 :: .int q10 :: .int q11 :: .int ((nI dg) - 1) :: .int q13 :: .int q14 :: .int q15 :: .int q16 :: .int q17 :: .int q18 :: .int q19 :: .int q20 :: .ref m21 :: .ref m22 :: .ref m23 :: .ref m24 :: .int (nI ((((nb + 1) + 1) + 1) + 1)) :: .int (nI ln) :: .int (nI po) :: .int q28 :: .int (nI tk) :: .ref m30 :: .ref m31 :: .int (nI we) :: .int q33 :: [])), (m23, .inl (cB, 300, .inl (upd (upd (upd (upd d23 nb (vp_nar .byte ((nu >>> (24 &&& 31)).toInt8.toInt32))) (nb + 1) (vp_nar .byte ((nu >>> (16 &&& 31)).toInt8.toInt32))) ((nb + 1) + 1) (vp_nar .byte ((nu >>> (8 &&& 31)).toInt8.toInt32))) (((nb + 1) + 1) + 1) (vp_nar .byte ((nu >>> (0 &&& 31)).toInt8.toInt32)))))]) 0 0 (va_A [(mA, .inr (8, .int (nI nr) :: .int (nI np) :: .ref m2 :: .ref m3 :: .ref m4 :: .ref m5 :: .ref m6 :: .ref m7 :: .ref m8 :: .int q9 :: .int q10 :: .int q11 :: .int ((nI dg) - 1) :: .int q13 :: .int q14 :: .int q15 :: .int q16 :: .int q17 :: .int q18 :: .int q19 :: .int q20 :: .ref m21 :: .ref m22 :: .ref m23 :: .ref m24 :: .int (nI nb) :: .int (nI ln) :: .int (nI po) :: .int q28 :: .int (nI tk) :: .ref m30 :: .ref m31 :: .int (nI we) :: .int q33 :: [])), (m23, .inl (cB, 300, .inl d23))] sz) := by
  refine Met.ofW (cc := cX8_four) (maxL := 3) (ret := none) (by decide) rfl ?_
  intro p e s m args below meth c s₁ B hml hv
  obtain ⟨rfl, hsz, hz, hP, hD0, hB⟩ := hv
  have hx := B.exec
  have hb := B.bytes
  have hr := B.returns
  have hts := atoms_spec (ws := wsX8_four) B.pre
  have hown : s.vm.findClass RX8 = some m.cls := findClass_of_methodNamed B.named
  have hlocks := B.notSynchronized
  subst hsz
  have hD := hD0.self (sz := s.heap.size)
  have hA0 := va_A0 hD0 hz
  unfold QV
  generalize hAe : va_A [(mA, .inr (8, .int (nI nr) :: .int (nI np) :: .ref m2 :: .ref m3 :: .ref m4 :: .ref m5 :: .ref m6 :: .ref m7 :: .ref m8 :: .int q9 :: .int q10 :: .int q11 :: .int ((nI dg) - 1) :: .int q13 :: .int q14 :: .int q15 :: .int q16 :: .int q17 :: .int q18 :: .int q19 :: .int q20 :: .ref m21 :: .ref m22 :: .ref m23 :: .ref m24 :: .int (nI nb) :: .int (nI ln) :: .int (nI po) :: .int q28 :: .int (nI tk) :: .ref m30 :: .ref m31 :: .int (nI we) :: .int q33 :: [])), (m23, .inl (cB, 300, .inl d23))] s.heap.size = A at hD hA0 ⊢
  have hA : ∀ q : Nat, s.heap.size ≤ q → A q := fun q h => by rw [← hAe]; exact Or.inr h
  have hS : va_S A s.heap s.heap [] := va_S.rf
  have hiX8 : ∀ w ∈ wsX80, w ∈ wsX8_four := fun w h => List.mem_cons_of_mem _ (List.mem_append_right _ h)
  have hl := lv_entry ([.ref mA, .int nu]) (n := 3) (Nat.le_of_ble_eq_true rfl)
  rw [lg_entry_eq]
  generalize (lg_sl ([.ref mA, .int nu]) ++ List.replicate (3 - (lg_sl ([.ref mA, .int nu])).length) Slot.unset).toArray = ls at hl ⊢
  have hl : lv_has ls 3 [(0, .ref mA), (1, .int nu)] := hl
  refine lv_bipush (v := 24) hx hb dX8_four_0 (by decide) ?_
  refine lv_istore_n (lv' := [(2, .int 24), (0, .ref mA), (1, .int nu)]) hx hb dX8_four_2 rfl hl (by decide) rfl (fun ls hl => ?_)
  refine lv_iload_n hx hb dX8_four_3 rfl (lv_at hl 0 rfl) ?_
  refine lv_if_lt (tgt := 36) hx hb dX8_four_4 (by decide) (fun c_1 => ?_) (fun c_1 => ?_)
  · exact absurd c_1 (by decide)
  · refine lv_aload_n hx hb dX8_four_7 rfl (lv_at hl 1 rfl) ?_
    refine va_get (D := D) (ci := 8) (v := .ref m23) (C := RX8) (T := TX8) (N := 34) hx hb hts hiX8 hown hB.1 hP 0 rfl rfl 23 (by decide) (hts _ (List.mem_of_getElem? (i := 1) rfl)) (fun _ h9 => h9) rfl dX8_four_8 ?_
    refine lv_aload_n hx hb dX8_four_11 rfl (lv_at hl 1 rfl) ?_
    refine va_get (D := D) (ci := 8) (v := .int (nI nb)) (C := RX8) (T := TX8) (N := 34) hx hb hts hiX8 hown hB.1 hP 0 rfl rfl 25 (by decide) (hts _ (List.mem_of_getElem? (i := 2) rfl)) (fun _ h9 => h9) rfl dX8_four_12 ?_
    refine lv_iload_n hx hb dX8_four_15 rfl (lv_at hl 2 rfl) ?_
    refine lv_iload_n hx hb dX8_four_16 rfl (lv_at hl 0 rfl) ?_
    refine lv_ishr hx hb dX8_four_17 ?_
    refine lv_i2b hx hb dX8_four_18 rfl ?_
    refine wa_b (w2 := [(mA, .inr (8, .int (nI nr) :: .int (nI np) :: .ref m2 :: .ref m3 :: .ref m4 :: .ref m5 :: .ref m6 :: .ref m7 :: .ref m8 :: .int q9 :: .int q10 :: .int q11 :: .int ((nI dg) - 1) :: .int q13 :: .int q14 :: .int q15 :: .int q16 :: .int q17 :: .int q18 :: .int q19 :: .int q20 :: .ref m21 :: .ref m22 :: .ref m23 :: .ref m24 :: .int (nI nb) :: .int (nI ln) :: .int (nI po) :: .int q28 :: .int (nI tk) :: .ref m30 :: .ref m31 :: .int (nI we) :: .int q33 :: [])), (m23, .inl (cB, 300, .inl (upd d23 nb (vp_nar .byte ((nu >>> (24 &&& 31)).toInt8.toInt32)))))]) hx hb hB.1 hP hD hS 1 rfl nb rfl (by omega) (by decide) dX8_four_19 rfl (fun H locs hP hD hS => ?_)
    refine lv_aload_n hx hb dX8_four_20 rfl (lv_at hl 1 rfl) ?_
    refine lv_dup hx hb dX8_four_21 rfl ?_
    refine va_get (D := D) (ci := 8) (v := .int (nI nb)) (C := RX8) (T := TX8) (N := 34) hx hb hts hiX8 hown hB.1 hP 0 rfl rfl 25 (by decide) (hts _ (List.mem_of_getElem? (i := 2) rfl)) (fun _ h9 => h9) rfl dX8_four_22 ?_
    refine lv_iconst (v := 1) hx hb dX8_four_25 (by decide) ?_
    refine lv_iadd hx hb dX8_four_26 ?_
    rw [show (nI nb) + 1 = nI (nb + 1) from (nx_add rfl rfl)]
    refine pf (w2 := [(mA, .inr (8, .int (nI nr) :: .int (nI np) :: .ref m2 :: .ref m3 :: .ref m4 :: .ref m5 :: .ref m6 :: .ref m7 :: .ref m8 :: .int q9 :: .int q10 :: .int q11 :: .int ((nI dg) - 1) :: .int q13 :: .int q14 :: .int q15 :: .int q16 :: .int q17 :: .int q18 :: .int q19 :: .int q20 :: .ref m21 :: .ref m22 :: .ref m23 :: .ref m24 :: .int (nI (nb + 1)) :: .int (nI ln) :: .int (nI po) :: .int q28 :: .int (nI tk) :: .ref m30 :: .ref m31 :: .int (nI we) :: .int q33 :: [])), (m23, .inl (cB, 300, .inl (upd d23 nb (vp_nar .byte ((nu >>> (24 &&& 31)).toInt8.toInt32)))))]) (ci := 8) (C := RX8) (T := TX8) (N := 34) hx hb hts hiX8 tyX8 tyX8_ok nmX8 hown hB.1 hP hD hS 0 rfl rfl 25 (by decide) (hts _ (List.mem_of_getElem? (i := 2) rfl)) rfl rfl rfl rfl (Nat.le_of_ble_eq_true rfl) rfl dX8_four_27 (fun H locs hP hD hS => ?_)
    refine lv_iinc (v := 16) (lv' := [(2, .int 16), (0, .ref mA), (1, .int nu)]) hx hb dX8_four_30 hl (k := 0) rfl (by decide) (by decide) rfl (fun ls hl => ?_)
    refine lv_goto (tgt := 3) hx hb dX8_four_33 (by decide) ?_
    refine lv_iload_n hx hb dX8_four_3 rfl (lv_at hl 0 rfl) ?_
    refine lv_if_lt (tgt := 36) hx hb dX8_four_4 (by decide) (fun c_2 => ?_) (fun c_2 => ?_)
    · exact absurd c_2 (by decide)
    · refine lv_aload_n hx hb dX8_four_7 rfl (lv_at hl 1 rfl) ?_
      refine va_get (D := D) (ci := 8) (v := .ref m23) (C := RX8) (T := TX8) (N := 34) hx hb hts hiX8 hown hB.1 hP 0 rfl rfl 23 (by decide) (hts _ (List.mem_of_getElem? (i := 1) rfl)) (fun _ h9 => h9) rfl dX8_four_8 ?_
      refine lv_aload_n hx hb dX8_four_11 rfl (lv_at hl 1 rfl) ?_
      refine va_get (D := D) (ci := 8) (v := .int (nI (nb + 1))) (C := RX8) (T := TX8) (N := 34) hx hb hts hiX8 hown hB.1 hP 0 rfl rfl 25 (by decide) (hts _ (List.mem_of_getElem? (i := 2) rfl)) (fun _ h9 => h9) rfl dX8_four_12 ?_
      refine lv_iload_n hx hb dX8_four_15 rfl (lv_at hl 2 rfl) ?_
      refine lv_iload_n hx hb dX8_four_16 rfl (lv_at hl 0 rfl) ?_
      refine lv_ishr hx hb dX8_four_17 ?_
      refine lv_i2b hx hb dX8_four_18 rfl ?_
      refine wa_b (w2 := [(mA, .inr (8, .int (nI nr) :: .int (nI np) :: .ref m2 :: .ref m3 :: .ref m4 :: .ref m5 :: .ref m6 :: .ref m7 :: .ref m8 :: .int q9 :: .int q10 :: .int q11 :: .int ((nI dg) - 1) :: .int q13 :: .int q14 :: .int q15 :: .int q16 :: .int q17 :: .int q18 :: .int q19 :: .int q20 :: .ref m21 :: .ref m22 :: .ref m23 :: .ref m24 :: .int (nI (nb + 1)) :: .int (nI ln) :: .int (nI po) :: .int q28 :: .int (nI tk) :: .ref m30 :: .ref m31 :: .int (nI we) :: .int q33 :: [])), (m23, .inl (cB, 300, .inl (upd (upd d23 nb (vp_nar .byte ((nu >>> (24 &&& 31)).toInt8.toInt32))) (nb + 1) (vp_nar .byte ((nu >>> (16 &&& 31)).toInt8.toInt32)))))]) hx hb hB.1 hP hD hS 1 rfl (nb + 1) rfl (by omega) (by decide) dX8_four_19 rfl (fun H locs hP hD hS => ?_)
      refine lv_aload_n hx hb dX8_four_20 rfl (lv_at hl 1 rfl) ?_
      refine lv_dup hx hb dX8_four_21 rfl ?_
      refine va_get (D := D) (ci := 8) (v := .int (nI (nb + 1))) (C := RX8) (T := TX8) (N := 34) hx hb hts hiX8 hown hB.1 hP 0 rfl rfl 25 (by decide) (hts _ (List.mem_of_getElem? (i := 2) rfl)) (fun _ h9 => h9) rfl dX8_four_22 ?_
      refine lv_iconst (v := 1) hx hb dX8_four_25 (by decide) ?_
      refine lv_iadd hx hb dX8_four_26 ?_
      rw [show (nI (nb + 1)) + 1 = nI ((nb + 1) + 1) from (nx_add rfl rfl)]
      refine pf (w2 := [(mA, .inr (8, .int (nI nr) :: .int (nI np) :: .ref m2 :: .ref m3 :: .ref m4 :: .ref m5 :: .ref m6 :: .ref m7 :: .ref m8 :: .int q9 :: .int q10 :: .int q11 :: .int ((nI dg) - 1) :: .int q13 :: .int q14 :: .int q15 :: .int q16 :: .int q17 :: .int q18 :: .int q19 :: .int q20 :: .ref m21 :: .ref m22 :: .ref m23 :: .ref m24 :: .int (nI ((nb + 1) + 1)) :: .int (nI ln) :: .int (nI po) :: .int q28 :: .int (nI tk) :: .ref m30 :: .ref m31 :: .int (nI we) :: .int q33 :: [])), (m23, .inl (cB, 300, .inl (upd (upd d23 nb (vp_nar .byte ((nu >>> (24 &&& 31)).toInt8.toInt32))) (nb + 1) (vp_nar .byte ((nu >>> (16 &&& 31)).toInt8.toInt32)))))]) (ci := 8) (C := RX8) (T := TX8) (N := 34) hx hb hts hiX8 tyX8 tyX8_ok nmX8 hown hB.1 hP hD hS 0 rfl rfl 25 (by decide) (hts _ (List.mem_of_getElem? (i := 2) rfl)) rfl rfl rfl rfl (Nat.le_of_ble_eq_true rfl) rfl dX8_four_27 (fun H locs hP hD hS => ?_)
      refine lv_iinc (v := 8) (lv' := [(2, .int 8), (0, .ref mA), (1, .int nu)]) hx hb dX8_four_30 hl (k := 0) rfl (by decide) (by decide) rfl (fun ls hl => ?_)
      refine lv_goto (tgt := 3) hx hb dX8_four_33 (by decide) ?_
      refine lv_iload_n hx hb dX8_four_3 rfl (lv_at hl 0 rfl) ?_
      refine lv_if_lt (tgt := 36) hx hb dX8_four_4 (by decide) (fun c_3 => ?_) (fun c_3 => ?_)
      · exact absurd c_3 (by decide)
      · refine lv_aload_n hx hb dX8_four_7 rfl (lv_at hl 1 rfl) ?_
        refine va_get (D := D) (ci := 8) (v := .ref m23) (C := RX8) (T := TX8) (N := 34) hx hb hts hiX8 hown hB.1 hP 0 rfl rfl 23 (by decide) (hts _ (List.mem_of_getElem? (i := 1) rfl)) (fun _ h9 => h9) rfl dX8_four_8 ?_
        refine lv_aload_n hx hb dX8_four_11 rfl (lv_at hl 1 rfl) ?_
        refine va_get (D := D) (ci := 8) (v := .int (nI ((nb + 1) + 1))) (C := RX8) (T := TX8) (N := 34) hx hb hts hiX8 hown hB.1 hP 0 rfl rfl 25 (by decide) (hts _ (List.mem_of_getElem? (i := 2) rfl)) (fun _ h9 => h9) rfl dX8_four_12 ?_
        refine lv_iload_n hx hb dX8_four_15 rfl (lv_at hl 2 rfl) ?_
        refine lv_iload_n hx hb dX8_four_16 rfl (lv_at hl 0 rfl) ?_
        refine lv_ishr hx hb dX8_four_17 ?_
        refine lv_i2b hx hb dX8_four_18 rfl ?_
        refine wa_b (w2 := [(mA, .inr (8, .int (nI nr) :: .int (nI np) :: .ref m2 :: .ref m3 :: .ref m4 :: .ref m5 :: .ref m6 :: .ref m7 :: .ref m8 :: .int q9 :: .int q10 :: .int q11 :: .int ((nI dg) - 1) :: .int q13 :: .int q14 :: .int q15 :: .int q16 :: .int q17 :: .int q18 :: .int q19 :: .int q20 :: .ref m21 :: .ref m22 :: .ref m23 :: .ref m24 :: .int (nI ((nb + 1) + 1)) :: .int (nI ln) :: .int (nI po) :: .int q28 :: .int (nI tk) :: .ref m30 :: .ref m31 :: .int (nI we) :: .int q33 :: [])), (m23, .inl (cB, 300, .inl (upd (upd (upd d23 nb (vp_nar .byte ((nu >>> (24 &&& 31)).toInt8.toInt32))) (nb + 1) (vp_nar .byte ((nu >>> (16 &&& 31)).toInt8.toInt32))) ((nb + 1) + 1) (vp_nar .byte ((nu >>> (8 &&& 31)).toInt8.toInt32)))))]) hx hb hB.1 hP hD hS 1 rfl ((nb + 1) + 1) rfl (by omega) (by decide) dX8_four_19 rfl (fun H locs hP hD hS => ?_)
        refine lv_aload_n hx hb dX8_four_20 rfl (lv_at hl 1 rfl) ?_
        refine lv_dup hx hb dX8_four_21 rfl ?_
        refine va_get (D := D) (ci := 8) (v := .int (nI ((nb + 1) + 1))) (C := RX8) (T := TX8) (N := 34) hx hb hts hiX8 hown hB.1 hP 0 rfl rfl 25 (by decide) (hts _ (List.mem_of_getElem? (i := 2) rfl)) (fun _ h9 => h9) rfl dX8_four_22 ?_
        refine lv_iconst (v := 1) hx hb dX8_four_25 (by decide) ?_
        refine lv_iadd hx hb dX8_four_26 ?_
        rw [show (nI ((nb + 1) + 1)) + 1 = nI (((nb + 1) + 1) + 1) from (nx_add rfl rfl)]
        refine pf (w2 := [(mA, .inr (8, .int (nI nr) :: .int (nI np) :: .ref m2 :: .ref m3 :: .ref m4 :: .ref m5 :: .ref m6 :: .ref m7 :: .ref m8 :: .int q9 :: .int q10 :: .int q11 :: .int ((nI dg) - 1) :: .int q13 :: .int q14 :: .int q15 :: .int q16 :: .int q17 :: .int q18 :: .int q19 :: .int q20 :: .ref m21 :: .ref m22 :: .ref m23 :: .ref m24 :: .int (nI (((nb + 1) + 1) + 1)) :: .int (nI ln) :: .int (nI po) :: .int q28 :: .int (nI tk) :: .ref m30 :: .ref m31 :: .int (nI we) :: .int q33 :: [])), (m23, .inl (cB, 300, .inl (upd (upd (upd d23 nb (vp_nar .byte ((nu >>> (24 &&& 31)).toInt8.toInt32))) (nb + 1) (vp_nar .byte ((nu >>> (16 &&& 31)).toInt8.toInt32))) ((nb + 1) + 1) (vp_nar .byte ((nu >>> (8 &&& 31)).toInt8.toInt32)))))]) (ci := 8) (C := RX8) (T := TX8) (N := 34) hx hb hts hiX8 tyX8 tyX8_ok nmX8 hown hB.1 hP hD hS 0 rfl rfl 25 (by decide) (hts _ (List.mem_of_getElem? (i := 2) rfl)) rfl rfl rfl rfl (Nat.le_of_ble_eq_true rfl) rfl dX8_four_27 (fun H locs hP hD hS => ?_)
        refine lv_iinc (v := 0) (lv' := [(2, .int 0), (0, .ref mA), (1, .int nu)]) hx hb dX8_four_30 hl (k := 0) rfl (by decide) (by decide) rfl (fun ls hl => ?_)
        refine lv_goto (tgt := 3) hx hb dX8_four_33 (by decide) ?_
        refine lv_iload_n hx hb dX8_four_3 rfl (lv_at hl 0 rfl) ?_
        refine lv_if_lt (tgt := 36) hx hb dX8_four_4 (by decide) (fun c_4 => ?_) (fun c_4 => ?_)
        · exact absurd c_4 (by decide)
        · refine lv_aload_n hx hb dX8_four_7 rfl (lv_at hl 1 rfl) ?_
          refine va_get (D := D) (ci := 8) (v := .ref m23) (C := RX8) (T := TX8) (N := 34) hx hb hts hiX8 hown hB.1 hP 0 rfl rfl 23 (by decide) (hts _ (List.mem_of_getElem? (i := 1) rfl)) (fun _ h9 => h9) rfl dX8_four_8 ?_
          refine lv_aload_n hx hb dX8_four_11 rfl (lv_at hl 1 rfl) ?_
          refine va_get (D := D) (ci := 8) (v := .int (nI (((nb + 1) + 1) + 1))) (C := RX8) (T := TX8) (N := 34) hx hb hts hiX8 hown hB.1 hP 0 rfl rfl 25 (by decide) (hts _ (List.mem_of_getElem? (i := 2) rfl)) (fun _ h9 => h9) rfl dX8_four_12 ?_
          refine lv_iload_n hx hb dX8_four_15 rfl (lv_at hl 2 rfl) ?_
          refine lv_iload_n hx hb dX8_four_16 rfl (lv_at hl 0 rfl) ?_
          refine lv_ishr hx hb dX8_four_17 ?_
          refine lv_i2b hx hb dX8_four_18 rfl ?_
          refine wa_b (w2 := [(mA, .inr (8, .int (nI nr) :: .int (nI np) :: .ref m2 :: .ref m3 :: .ref m4 :: .ref m5 :: .ref m6 :: .ref m7 :: .ref m8 :: .int q9 :: .int q10 :: .int q11 :: .int ((nI dg) - 1) :: .int q13 :: .int q14 :: .int q15 :: .int q16 :: .int q17 :: .int q18 :: .int q19 :: .int q20 :: .ref m21 :: .ref m22 :: .ref m23 :: .ref m24 :: .int (nI (((nb + 1) + 1) + 1)) :: .int (nI ln) :: .int (nI po) :: .int q28 :: .int (nI tk) :: .ref m30 :: .ref m31 :: .int (nI we) :: .int q33 :: [])), (m23, .inl (cB, 300, .inl (upd (upd (upd (upd d23 nb (vp_nar .byte ((nu >>> (24 &&& 31)).toInt8.toInt32))) (nb + 1) (vp_nar .byte ((nu >>> (16 &&& 31)).toInt8.toInt32))) ((nb + 1) + 1) (vp_nar .byte ((nu >>> (8 &&& 31)).toInt8.toInt32))) (((nb + 1) + 1) + 1) (vp_nar .byte ((nu >>> (0 &&& 31)).toInt8.toInt32)))))]) hx hb hB.1 hP hD hS 1 rfl (((nb + 1) + 1) + 1) rfl (by omega) (by decide) dX8_four_19 rfl (fun H locs hP hD hS => ?_)
          refine lv_aload_n hx hb dX8_four_20 rfl (lv_at hl 1 rfl) ?_
          refine lv_dup hx hb dX8_four_21 rfl ?_
          refine va_get (D := D) (ci := 8) (v := .int (nI (((nb + 1) + 1) + 1))) (C := RX8) (T := TX8) (N := 34) hx hb hts hiX8 hown hB.1 hP 0 rfl rfl 25 (by decide) (hts _ (List.mem_of_getElem? (i := 2) rfl)) (fun _ h9 => h9) rfl dX8_four_22 ?_
          refine lv_iconst (v := 1) hx hb dX8_four_25 (by decide) ?_
          refine lv_iadd hx hb dX8_four_26 ?_
          rw [show (nI (((nb + 1) + 1) + 1)) + 1 = nI ((((nb + 1) + 1) + 1) + 1) from (nx_add rfl rfl)]
          refine pf (w2 := [(mA, .inr (8, .int (nI nr) :: .int (nI np) :: .ref m2 :: .ref m3 :: .ref m4 :: .ref m5 :: .ref m6 :: .ref m7 :: .ref m8 :: .int q9 :: .int q10 :: .int q11 :: .int ((nI dg) - 1) :: .int q13 :: .int q14 :: .int q15 :: .int q16 :: .int q17 :: .int q18 :: .int q19 :: .int q20 :: .ref m21 :: .ref m22 :: .ref m23 :: .ref m24 :: .int (nI ((((nb + 1) + 1) + 1) + 1)) :: .int (nI ln) :: .int (nI po) :: .int q28 :: .int (nI tk) :: .ref m30 :: .ref m31 :: .int (nI we) :: .int q33 :: [])), (m23, .inl (cB, 300, .inl (upd (upd (upd (upd d23 nb (vp_nar .byte ((nu >>> (24 &&& 31)).toInt8.toInt32))) (nb + 1) (vp_nar .byte ((nu >>> (16 &&& 31)).toInt8.toInt32))) ((nb + 1) + 1) (vp_nar .byte ((nu >>> (8 &&& 31)).toInt8.toInt32))) (((nb + 1) + 1) + 1) (vp_nar .byte ((nu >>> (0 &&& 31)).toInt8.toInt32)))))]) (ci := 8) (C := RX8) (T := TX8) (N := 34) hx hb hts hiX8 tyX8 tyX8_ok nmX8 hown hB.1 hP hD hS 0 rfl rfl 25 (by decide) (hts _ (List.mem_of_getElem? (i := 2) rfl)) rfl rfl rfl rfl (Nat.le_of_ble_eq_true rfl) rfl dX8_four_27 (fun H locs hP hD hS => ?_)
          refine lv_iinc (v := (-8)) (lv' := [(2, .int (-8)), (0, .ref mA), (1, .int nu)]) hx hb dX8_four_30 hl (k := 0) rfl (by decide) (by decide) rfl (fun ls hl => ?_)
          refine lv_goto (tgt := 3) hx hb dX8_four_33 (by decide) ?_
          refine lv_iload_n hx hb dX8_four_3 rfl (lv_at hl 0 rfl) ?_
          refine lv_if_lt (tgt := 36) hx hb dX8_four_4 (by decide) (fun c_5 => ?_) (fun c_5 => ?_)
          · exact W.vret hx hb hr (fun t ht hW => ⟨⟨(), rfl, trivial, by rw [ht]; exact hP, hD⟩, hS.F ht⟩) hS.2.2 dX8_four_36
          · exact absurd c_5 (by decide)

def F_X8_feed (nb : Nat) : Int32 :=
  if ((nI nb) + 20) ≤ 300 then nI ((((((((((((((((((((nb + 1) + 1) + 1) + 1) + 1) + 1) + 1) + 1) + 1) + 1) + 1) + 1) + 1) + 1) + 1) + 1) + 1) + 1) + 1) + 1) else
  (-1)
def F_X8_feed_0_25 (nb : Nat) : Nat :=
  if ((nI nb) + 20) ≤ 300 then ((((((((((((((((((((nb + 1) + 1) + 1) + 1) + 1) + 1) + 1) + 1) + 1) + 1) + 1) + 1) + 1) + 1) + 1) + 1) + 1) + 1) + 1) + 1) else
  nb
def F_X8_feed_1 (nb : Nat) (d23 : Nat → Int32) (f1 : Int32) (f2 : Int32) (f3 : Int32) (f4 : Int32) (f5 : Int32) : Nat → Int32 :=
  if ((nI nb) + 20) ≤ 300 then upd (upd (upd (upd (upd (upd (upd (upd (upd (upd (upd (upd (upd (upd (upd (upd (upd (upd (upd (upd d23 nb (vp_nar .byte ((f1 >>> (24 &&& 31)).toInt8.toInt32))) (nb + 1) (vp_nar .byte ((f1 >>> (16 &&& 31)).toInt8.toInt32))) ((nb + 1) + 1) (vp_nar .byte ((f1 >>> (8 &&& 31)).toInt8.toInt32))) (((nb + 1) + 1) + 1) (vp_nar .byte ((f1 >>> (0 &&& 31)).toInt8.toInt32))) ((((nb + 1) + 1) + 1) + 1) (vp_nar .byte ((f2 >>> (24 &&& 31)).toInt8.toInt32))) (((((nb + 1) + 1) + 1) + 1) + 1) (vp_nar .byte ((f2 >>> (16 &&& 31)).toInt8.toInt32))) ((((((nb + 1) + 1) + 1) + 1) + 1) + 1) (vp_nar .byte ((f2 >>> (8 &&& 31)).toInt8.toInt32))) (((((((nb + 1) + 1) + 1) + 1) + 1) + 1) + 1) (vp_nar .byte ((f2 >>> (0 &&& 31)).toInt8.toInt32))) ((((((((nb + 1) + 1) + 1) + 1) + 1) + 1) + 1) + 1) (vp_nar .byte ((f3 >>> (24 &&& 31)).toInt8.toInt32))) (((((((((nb + 1) + 1) + 1) + 1) + 1) + 1) + 1) + 1) + 1) (vp_nar .byte ((f3 >>> (16 &&& 31)).toInt8.toInt32))) ((((((((((nb + 1) + 1) + 1) + 1) + 1) + 1) + 1) + 1) + 1) + 1) (vp_nar .byte ((f3 >>> (8 &&& 31)).toInt8.toInt32))) (((((((((((nb + 1) + 1) + 1) + 1) + 1) + 1) + 1) + 1) + 1) + 1) + 1) (vp_nar .byte ((f3 >>> (0 &&& 31)).toInt8.toInt32))) ((((((((((((nb + 1) + 1) + 1) + 1) + 1) + 1) + 1) + 1) + 1) + 1) + 1) + 1) (vp_nar .byte ((f4 >>> (24 &&& 31)).toInt8.toInt32))) (((((((((((((nb + 1) + 1) + 1) + 1) + 1) + 1) + 1) + 1) + 1) + 1) + 1) + 1) + 1) (vp_nar .byte ((f4 >>> (16 &&& 31)).toInt8.toInt32))) ((((((((((((((nb + 1) + 1) + 1) + 1) + 1) + 1) + 1) + 1) + 1) + 1) + 1) + 1) + 1) + 1) (vp_nar .byte ((f4 >>> (8 &&& 31)).toInt8.toInt32))) (((((((((((((((nb + 1) + 1) + 1) + 1) + 1) + 1) + 1) + 1) + 1) + 1) + 1) + 1) + 1) + 1) + 1) (vp_nar .byte ((f4 >>> (0 &&& 31)).toInt8.toInt32))) ((((((((((((((((nb + 1) + 1) + 1) + 1) + 1) + 1) + 1) + 1) + 1) + 1) + 1) + 1) + 1) + 1) + 1) + 1) (vp_nar .byte ((f5 >>> (24 &&& 31)).toInt8.toInt32))) (((((((((((((((((nb + 1) + 1) + 1) + 1) + 1) + 1) + 1) + 1) + 1) + 1) + 1) + 1) + 1) + 1) + 1) + 1) + 1) (vp_nar .byte ((f5 >>> (16 &&& 31)).toInt8.toInt32))) ((((((((((((((((((nb + 1) + 1) + 1) + 1) + 1) + 1) + 1) + 1) + 1) + 1) + 1) + 1) + 1) + 1) + 1) + 1) + 1) + 1) (vp_nar .byte ((f5 >>> (8 &&& 31)).toInt8.toInt32))) (((((((((((((((((((nb + 1) + 1) + 1) + 1) + 1) + 1) + 1) + 1) + 1) + 1) + 1) + 1) + 1) + 1) + 1) + 1) + 1) + 1) + 1) (vp_nar .byte ((f5 >>> (0 &&& 31)).toInt8.toInt32)) else
  d23
set_option maxHeartbeats 4000000 in
set_option maxRecDepth 100000 in
theorem c_X8_feed (l : Launch) {D : va_G} {cI cZ cB : ClassId} {au : Nat} {kA kV : Nat → Nat} {z0 : Nat} (sz : Nat) (mA : Nat) (m2 : Nat) (m3 : Nat) (m4 : Nat) (m5 : Nat) (m6 : Nat) (m7 : Nat) (m8 : Nat) (m21 : Nat) (m22 : Nat) (m23 : Nat) (m24 : Nat) (m30 : Nat) (m31 : Nat) (q9 : Int32) (q10 : Int32) (q11 : Int32) (q13 : Int32) (q14 : Int32) (q15 : Int32) (q16 : Int32) (q17 : Int32) (q18 : Int32) (q19 : Int32) (q20 : Int32) (q28 : Int32) (q33 : Int32) (nr : Nat) (np : Nat) (nb : Nat) (ln : Nat) (po : Nat) (tk : Nat) (we : Nat) (dg : Nat) (d23 : Nat → Int32) (f1 : Int32) (f2 : Int32) (f3 : Int32) (f4 : Int32) (f5 : Int32) (h20 : nr ≤ 20) (h2r : 2 ≤ nr) (h2p : 2 ≤ np) (h8 : np ≤ 8) (hnb : nb ≤ 300) : Met l yX8_feed wsX8_feed ({ frames := 1, cells := 0, slots := 0, locals := 22 }) (va_Pc [.ref mA, .int f1, .int f2, .int f3, .int f4, .int f5] (PRE D cI cZ cB au kA kV z0 sz [(mA, .inr (8, .int (nI nr) :: .int (nI np) :: .ref m2 :: .ref m3 :: .ref m4 :: .ref m5 :: .ref m6 :: .ref m7 :: .ref m8 :: .int q9 :: .int q10 :: .int q11 :: .int ((nI dg) - 1) :: .int q13 :: .int q14 :: .int q15 :: .int q16 :: .int q17 :: .int q18 :: .int q19 :: .int q20 :: .ref m21 :: .ref m22 :: .ref m23 :: .ref m24 :: .int (nI nb) :: .int (nI ln) :: .int (nI po) :: .int q28 :: .int (nI tk) :: .ref m30 :: .ref m31 :: .int (nI we) :: .int q33 :: [])), (m23, .inl (cB, 300, .inl d23))])) (QI D [(mA, .inr (8, .int (nI nr) :: .int (nI np) :: .ref m2 :: .ref m3 :: .ref m4 :: .ref m5 :: .ref m6 :: .ref m7 :: .ref m8 :: .int q9 :: .int q10 :: .int q11 :: .int ((nI dg) - 1) :: .int q13 :: .int q14 :: .int q15 :: .int q16 :: .int q17 :: .int q18 :: .int q19 :: .int q20 :: .ref m21 :: .ref m22 :: .ref m23 :: .ref m24 :: .int (nI nb) :: .int (nI ln) :: .int (nI po) :: .int q28 :: .int (nI tk) :: .ref m30 :: .ref m31 :: .int (nI we) :: .int q33 :: [])), (m23, .inl (cB, 300, .inl d23))] sz (F_X8_feed nb) [(mA, .inr (8, .int (nI nr) :: .int (nI np) :: .ref m2 :: .ref m3 :: .ref m4 :: .ref m5 :: .ref m6 :: .ref m7 :: .ref m8 :: .int q9 :: .int q10 :: .int q11 :: .int ((nI dg) - 1) :: .int q13 :: .int q14 :: .int q15 :: .int q16 :: .int q17 :: .int q18 :: .int q19 :: .int q20 :: .ref m21 :: .ref m22 :: .ref m23 :: .ref m24 :: .int (nI (F_X8_feed_0_25 nb)) :: .int (nI ln) :: .int (nI po) :: .int q28 :: .int (nI tk) :: .ref m30 :: .ref m31 :: .int (nI we) :: .int q33 :: [])), (m23, .inl (cB, 300, .inl (F_X8_feed_1 nb d23 f1 f2 f3 f4 f5)))]) 0 0 (va_A [(mA, .inr (8, .int (nI nr) :: .int (nI np) :: .ref m2 :: .ref m3 :: .ref m4 :: .ref m5 :: .ref m6 :: .ref m7 :: .ref m8 :: .int q9 :: .int q10 :: .int q11 :: .int ((nI dg) - 1) :: .int q13 :: .int q14 :: .int q15 :: .int q16 :: .int q17 :: .int q18 :: .int q19 :: .int q20 :: .ref m21 :: .ref m22 :: .ref m23 :: .ref m24 :: .int (nI nb) :: .int (nI ln) :: .int (nI po) :: .int q28 :: .int (nI tk) :: .ref m30 :: .ref m31 :: .int (nI we) :: .int q33 :: [])), (m23, .inl (cB, 300, .inl d23))] sz) := by
  refine Met.ofW (cc := cX8_feed) (maxL := 6) (ret := (some .int)) (by decide) rfl ?_
  intro p e s m args below meth c s₁ B hml hv
  obtain ⟨rfl, hsz, hz, hP, hD0, hB⟩ := hv
  have hx := B.exec
  have hb := B.bytes
  have hr := B.returns
  have hts := atoms_spec (ws := wsX8_feed) B.pre
  have hown : s.vm.findClass RX8 = some m.cls := findClass_of_methodNamed B.named
  have hlocks := B.notSynchronized
  subst hsz
  have hD := hD0.self (sz := s.heap.size)
  have hA0 := va_A0 hD0 hz
  unfold QI
  generalize hAe : va_A [(mA, .inr (8, .int (nI nr) :: .int (nI np) :: .ref m2 :: .ref m3 :: .ref m4 :: .ref m5 :: .ref m6 :: .ref m7 :: .ref m8 :: .int q9 :: .int q10 :: .int q11 :: .int ((nI dg) - 1) :: .int q13 :: .int q14 :: .int q15 :: .int q16 :: .int q17 :: .int q18 :: .int q19 :: .int q20 :: .ref m21 :: .ref m22 :: .ref m23 :: .ref m24 :: .int (nI nb) :: .int (nI ln) :: .int (nI po) :: .int q28 :: .int (nI tk) :: .ref m30 :: .ref m31 :: .int (nI we) :: .int q33 :: [])), (m23, .inl (cB, 300, .inl d23))] s.heap.size = A at hD hA0 ⊢
  have hA : ∀ q : Nat, s.heap.size ≤ q → A q := fun q h => by rw [← hAe]; exact Or.inr h
  have hS : va_S A s.heap s.heap [] := va_S.rf
  have hiX8 : ∀ w ∈ wsX80, w ∈ wsX8_feed := fun w h => List.mem_cons_of_mem _ (List.mem_append_right _ h)
  have hl := lv_entry ([.ref mA, .int f1, .int f2, .int f3, .int f4, .int f5]) (n := 6) (Nat.le_of_ble_eq_true rfl)
  rw [lg_entry_eq]
  generalize (lg_sl ([.ref mA, .int f1, .int f2, .int f3, .int f4, .int f5]) ++ List.replicate (6 - (lg_sl ([.ref mA, .int f1, .int f2, .int f3, .int f4, .int f5])).length) Slot.unset).toArray = ls at hl ⊢
  have hl : lv_has ls 6 [(0, .ref mA), (1, .int f1), (2, .int f2), (3, .int f3), (4, .int f4), (5, .int f5)] := hl
  refine lv_aload_n hx hb dX8_feed_0 rfl (lv_at hl 0 rfl) ?_
  refine va_get (D := D) (ci := 8) (v := .int (nI nb)) (C := RX8) (T := TX8) (N := 34) hx hb hts hiX8 hown hB.1 hP 0 rfl rfl 25 (by decide) (hts _ (List.mem_of_getElem? (i := 1) rfl)) (fun _ h9 => h9) rfl dX8_feed_1 ?_
  refine lv_bipush (v := 20) hx hb dX8_feed_4 (by decide) ?_
  refine lv_iadd hx hb dX8_feed_6 ?_
  refine lv_sipush (v := 300) hx hb dX8_feed_7 (by decide) ?_
  refine lv_icmp_le (tgt := 15) hx hb dX8_feed_10 (by decide) (fun c_1 => ?_) (fun c_1 => ?_)
  · have hro := room_m hnb c_1
    refine lv_aload_n hx hb dX8_feed_15 rfl (lv_at hl 0 rfl) ?_
    refine lv_iload_n hx hb dX8_feed_16 rfl (lv_at hl 1 rfl) ?_
    refine k_v (w2 := [(mA, .inr (8, .int (nI nr) :: .int (nI np) :: .ref m2 :: .ref m3 :: .ref m4 :: .ref m5 :: .ref m6 :: .ref m7 :: .ref m8 :: .int q9 :: .int q10 :: .int q11 :: .int ((nI dg) - 1) :: .int q13 :: .int q14 :: .int q15 :: .int q16 :: .int q17 :: .int q18 :: .int q19 :: .int q20 :: .ref m21 :: .ref m22 :: .ref m23 :: .ref m24 :: .int (nI ((((nb + 1) + 1) + 1) + 1)) :: .int (nI ln) :: .int (nI po) :: .int q28 :: .int (nI tk) :: .ref m30 :: .ref m31 :: .int (nI we) :: .int q33 :: [])), (m23, .inl (cB, 300, .inl (upd (upd (upd (upd d23 nb (vp_nar .byte ((f1 >>> (24 &&& 31)).toInt8.toInt32))) (nb + 1) (vp_nar .byte ((f1 >>> (16 &&& 31)).toInt8.toInt32))) ((nb + 1) + 1) (vp_nar .byte ((f1 >>> (8 &&& 31)).toInt8.toInt32))) (((nb + 1) + 1) + 1) (vp_nar .byte ((f1 >>> (0 &&& 31)).toInt8.toInt32)))))]) (va_runV (As := [.int f1]) (rest := []) ⟨hx, hb, hml, hown, hts⟩ (c_X8_four l _ mA m2 m3 m4 m5 m6 m7 m8 m21 m22 m23 m24 m30 m31 q9 q10 q11 q13 q14 q15 q16 q17 q18 q19 q20 q28 q33 nr np nb ln po tk we dg d23 f1 h20 h2r h2p h8 (by omega)) (cwV 1 hts gX8_feed_X8_four rfl rfl rfl (by decide +kernel) ⟨Nat.le_of_ble_eq_true rfl, Nat.le_of_ble_eq_true rfl⟩) (pre_V (ci := 8) (q0 := 0) hB hz hA0 hP hD hS [0, 1] rfl rfl rfl rfl rfl) rfl rfl hl.1 rfl (lv_room (Nat.le_of_ble_eq_true rfl)) dX8_feed_17 ⟨Nat.zero_le _, Nat.zero_le _⟩) hP hD hS hA [0, 1] [] [0, 1] rfl rfl rfl rfl rfl (fun H locs hP hD hS => ?_)
    refine lv_aload_n hx hb dX8_feed_20 rfl (lv_at hl 0 rfl) ?_
    refine lv_iload_n hx hb dX8_feed_21 rfl (lv_at hl 2 rfl) ?_
    refine k_v (w2 := [(mA, .inr (8, .int (nI nr) :: .int (nI np) :: .ref m2 :: .ref m3 :: .ref m4 :: .ref m5 :: .ref m6 :: .ref m7 :: .ref m8 :: .int q9 :: .int q10 :: .int q11 :: .int ((nI dg) - 1) :: .int q13 :: .int q14 :: .int q15 :: .int q16 :: .int q17 :: .int q18 :: .int q19 :: .int q20 :: .ref m21 :: .ref m22 :: .ref m23 :: .ref m24 :: .int (nI ((((((((nb + 1) + 1) + 1) + 1) + 1) + 1) + 1) + 1)) :: .int (nI ln) :: .int (nI po) :: .int q28 :: .int (nI tk) :: .ref m30 :: .ref m31 :: .int (nI we) :: .int q33 :: [])), (m23, .inl (cB, 300, .inl (upd (upd (upd (upd (upd (upd (upd (upd d23 nb (vp_nar .byte ((f1 >>> (24 &&& 31)).toInt8.toInt32))) (nb + 1) (vp_nar .byte ((f1 >>> (16 &&& 31)).toInt8.toInt32))) ((nb + 1) + 1) (vp_nar .byte ((f1 >>> (8 &&& 31)).toInt8.toInt32))) (((nb + 1) + 1) + 1) (vp_nar .byte ((f1 >>> (0 &&& 31)).toInt8.toInt32))) ((((nb + 1) + 1) + 1) + 1) (vp_nar .byte ((f2 >>> (24 &&& 31)).toInt8.toInt32))) (((((nb + 1) + 1) + 1) + 1) + 1) (vp_nar .byte ((f2 >>> (16 &&& 31)).toInt8.toInt32))) ((((((nb + 1) + 1) + 1) + 1) + 1) + 1) (vp_nar .byte ((f2 >>> (8 &&& 31)).toInt8.toInt32))) (((((((nb + 1) + 1) + 1) + 1) + 1) + 1) + 1) (vp_nar .byte ((f2 >>> (0 &&& 31)).toInt8.toInt32)))))]) (va_runV (As := [.int f2]) (rest := []) ⟨hx, hb, hml, hown, hts⟩ (c_X8_four l _ mA m2 m3 m4 m5 m6 m7 m8 m21 m22 m23 m24 m30 m31 q9 q10 q11 q13 q14 q15 q16 q17 q18 q19 q20 q28 q33 nr np ((((nb + 1) + 1) + 1) + 1) ln po tk we dg (upd (upd (upd (upd d23 nb (vp_nar .byte ((f1 >>> (24 &&& 31)).toInt8.toInt32))) (nb + 1) (vp_nar .byte ((f1 >>> (16 &&& 31)).toInt8.toInt32))) ((nb + 1) + 1) (vp_nar .byte ((f1 >>> (8 &&& 31)).toInt8.toInt32))) (((nb + 1) + 1) + 1) (vp_nar .byte ((f1 >>> (0 &&& 31)).toInt8.toInt32))) f2 h20 h2r h2p h8 (by omega)) (cwV 1 hts gX8_feed_X8_four rfl rfl rfl (by decide +kernel) ⟨Nat.le_of_ble_eq_true rfl, Nat.le_of_ble_eq_true rfl⟩) (pre_V (ci := 8) (q0 := 0) hB hz hA0 hP hD hS [0, 1] rfl rfl rfl rfl rfl) rfl rfl hl.1 rfl (lv_room (Nat.le_of_ble_eq_true rfl)) dX8_feed_22 ⟨Nat.zero_le _, Nat.zero_le _⟩) hP hD hS hA [0, 1] [] [0, 1] rfl rfl rfl rfl rfl (fun H locs hP hD hS => ?_)
    refine lv_aload_n hx hb dX8_feed_25 rfl (lv_at hl 0 rfl) ?_
    refine lv_iload_n hx hb dX8_feed_26 rfl (lv_at hl 3 rfl) ?_
    refine k_v (w2 := [(mA, .inr (8, .int (nI nr) :: .int (nI np) :: .ref m2 :: .ref m3 :: .ref m4 :: .ref m5 :: .ref m6 :: .ref m7 :: .ref m8 :: .int q9 :: .int q10 :: .int q11 :: .int ((nI dg) - 1) :: .int q13 :: .int q14 :: .int q15 :: .int q16 :: .int q17 :: .int q18 :: .int q19 :: .int q20 :: .ref m21 :: .ref m22 :: .ref m23 :: .ref m24 :: .int (nI ((((((((((((nb + 1) + 1) + 1) + 1) + 1) + 1) + 1) + 1) + 1) + 1) + 1) + 1)) :: .int (nI ln) :: .int (nI po) :: .int q28 :: .int (nI tk) :: .ref m30 :: .ref m31 :: .int (nI we) :: .int q33 :: [])), (m23, .inl (cB, 300, .inl (upd (upd (upd (upd (upd (upd (upd (upd (upd (upd (upd (upd d23 nb (vp_nar .byte ((f1 >>> (24 &&& 31)).toInt8.toInt32))) (nb + 1) (vp_nar .byte ((f1 >>> (16 &&& 31)).toInt8.toInt32))) ((nb + 1) + 1) (vp_nar .byte ((f1 >>> (8 &&& 31)).toInt8.toInt32))) (((nb + 1) + 1) + 1) (vp_nar .byte ((f1 >>> (0 &&& 31)).toInt8.toInt32))) ((((nb + 1) + 1) + 1) + 1) (vp_nar .byte ((f2 >>> (24 &&& 31)).toInt8.toInt32))) (((((nb + 1) + 1) + 1) + 1) + 1) (vp_nar .byte ((f2 >>> (16 &&& 31)).toInt8.toInt32))) ((((((nb + 1) + 1) + 1) + 1) + 1) + 1) (vp_nar .byte ((f2 >>> (8 &&& 31)).toInt8.toInt32))) (((((((nb + 1) + 1) + 1) + 1) + 1) + 1) + 1) (vp_nar .byte ((f2 >>> (0 &&& 31)).toInt8.toInt32))) ((((((((nb + 1) + 1) + 1) + 1) + 1) + 1) + 1) + 1) (vp_nar .byte ((f3 >>> (24 &&& 31)).toInt8.toInt32))) (((((((((nb + 1) + 1) + 1) + 1) + 1) + 1) + 1) + 1) + 1) (vp_nar .byte ((f3 >>> (16 &&& 31)).toInt8.toInt32))) ((((((((((nb + 1) + 1) + 1) + 1) + 1) + 1) + 1) + 1) + 1) + 1) (vp_nar .byte ((f3 >>> (8 &&& 31)).toInt8.toInt32))) (((((((((((nb + 1) + 1) + 1) + 1) + 1) + 1) + 1) + 1) + 1) + 1) + 1) (vp_nar .byte ((f3 >>> (0 &&& 31)).toInt8.toInt32)))))]) (va_runV (As := [.int f3]) (rest := []) ⟨hx, hb, hml, hown, hts⟩ (c_X8_four l _ mA m2 m3 m4 m5 m6 m7 m8 m21 m22 m23 m24 m30 m31 q9 q10 q11 q13 q14 q15 q16 q17 q18 q19 q20 q28 q33 nr np ((((((((nb + 1) + 1) + 1) + 1) + 1) + 1) + 1) + 1) ln po tk we dg (upd (upd (upd (upd (upd (upd (upd (upd d23 nb (vp_nar .byte ((f1 >>> (24 &&& 31)).toInt8.toInt32))) (nb + 1) (vp_nar .byte ((f1 >>> (16 &&& 31)).toInt8.toInt32))) ((nb + 1) + 1) (vp_nar .byte ((f1 >>> (8 &&& 31)).toInt8.toInt32))) (((nb + 1) + 1) + 1) (vp_nar .byte ((f1 >>> (0 &&& 31)).toInt8.toInt32))) ((((nb + 1) + 1) + 1) + 1) (vp_nar .byte ((f2 >>> (24 &&& 31)).toInt8.toInt32))) (((((nb + 1) + 1) + 1) + 1) + 1) (vp_nar .byte ((f2 >>> (16 &&& 31)).toInt8.toInt32))) ((((((nb + 1) + 1) + 1) + 1) + 1) + 1) (vp_nar .byte ((f2 >>> (8 &&& 31)).toInt8.toInt32))) (((((((nb + 1) + 1) + 1) + 1) + 1) + 1) + 1) (vp_nar .byte ((f2 >>> (0 &&& 31)).toInt8.toInt32))) f3 h20 h2r h2p h8 (by omega)) (cwV 1 hts gX8_feed_X8_four rfl rfl rfl (by decide +kernel) ⟨Nat.le_of_ble_eq_true rfl, Nat.le_of_ble_eq_true rfl⟩) (pre_V (ci := 8) (q0 := 0) hB hz hA0 hP hD hS [0, 1] rfl rfl rfl rfl rfl) rfl rfl hl.1 rfl (lv_room (Nat.le_of_ble_eq_true rfl)) dX8_feed_27 ⟨Nat.zero_le _, Nat.zero_le _⟩) hP hD hS hA [0, 1] [] [0, 1] rfl rfl rfl rfl rfl (fun H locs hP hD hS => ?_)
    refine lv_aload_n hx hb dX8_feed_30 rfl (lv_at hl 0 rfl) ?_
    refine lv_iload hx hb dX8_feed_31 (lv_at hl 4 rfl) ?_
    refine k_v (w2 := [(mA, .inr (8, .int (nI nr) :: .int (nI np) :: .ref m2 :: .ref m3 :: .ref m4 :: .ref m5 :: .ref m6 :: .ref m7 :: .ref m8 :: .int q9 :: .int q10 :: .int q11 :: .int ((nI dg) - 1) :: .int q13 :: .int q14 :: .int q15 :: .int q16 :: .int q17 :: .int q18 :: .int q19 :: .int q20 :: .ref m21 :: .ref m22 :: .ref m23 :: .ref m24 :: .int (nI ((((((((((((((((nb + 1) + 1) + 1) + 1) + 1) + 1) + 1) + 1) + 1) + 1) + 1) + 1) + 1) + 1) + 1) + 1)) :: .int (nI ln) :: .int (nI po) :: .int q28 :: .int (nI tk) :: .ref m30 :: .ref m31 :: .int (nI we) :: .int q33 :: [])), (m23, .inl (cB, 300, .inl (upd (upd (upd (upd (upd (upd (upd (upd (upd (upd (upd (upd (upd (upd (upd (upd d23 nb (vp_nar .byte ((f1 >>> (24 &&& 31)).toInt8.toInt32))) (nb + 1) (vp_nar .byte ((f1 >>> (16 &&& 31)).toInt8.toInt32))) ((nb + 1) + 1) (vp_nar .byte ((f1 >>> (8 &&& 31)).toInt8.toInt32))) (((nb + 1) + 1) + 1) (vp_nar .byte ((f1 >>> (0 &&& 31)).toInt8.toInt32))) ((((nb + 1) + 1) + 1) + 1) (vp_nar .byte ((f2 >>> (24 &&& 31)).toInt8.toInt32))) (((((nb + 1) + 1) + 1) + 1) + 1) (vp_nar .byte ((f2 >>> (16 &&& 31)).toInt8.toInt32))) ((((((nb + 1) + 1) + 1) + 1) + 1) + 1) (vp_nar .byte ((f2 >>> (8 &&& 31)).toInt8.toInt32))) (((((((nb + 1) + 1) + 1) + 1) + 1) + 1) + 1) (vp_nar .byte ((f2 >>> (0 &&& 31)).toInt8.toInt32))) ((((((((nb + 1) + 1) + 1) + 1) + 1) + 1) + 1) + 1) (vp_nar .byte ((f3 >>> (24 &&& 31)).toInt8.toInt32))) (((((((((nb + 1) + 1) + 1) + 1) + 1) + 1) + 1) + 1) + 1) (vp_nar .byte ((f3 >>> (16 &&& 31)).toInt8.toInt32))) ((((((((((nb + 1) + 1) + 1) + 1) + 1) + 1) + 1) + 1) + 1) + 1) (vp_nar .byte ((f3 >>> (8 &&& 31)).toInt8.toInt32))) (((((((((((nb + 1) + 1) + 1) + 1) + 1) + 1) + 1) + 1) + 1) + 1) + 1) (vp_nar .byte ((f3 >>> (0 &&& 31)).toInt8.toInt32))) ((((((((((((nb + 1) + 1) + 1) + 1) + 1) + 1) + 1) + 1) + 1) + 1) + 1) + 1) (vp_nar .byte ((f4 >>> (24 &&& 31)).toInt8.toInt32))) (((((((((((((nb + 1) + 1) + 1) + 1) + 1) + 1) + 1) + 1) + 1) + 1) + 1) + 1) + 1) (vp_nar .byte ((f4 >>> (16 &&& 31)).toInt8.toInt32))) ((((((((((((((nb + 1) + 1) + 1) + 1) + 1) + 1) + 1) + 1) + 1) + 1) + 1) + 1) + 1) + 1) (vp_nar .byte ((f4 >>> (8 &&& 31)).toInt8.toInt32))) (((((((((((((((nb + 1) + 1) + 1) + 1) + 1) + 1) + 1) + 1) + 1) + 1) + 1) + 1) + 1) + 1) + 1) (vp_nar .byte ((f4 >>> (0 &&& 31)).toInt8.toInt32)))))]) (va_runV (As := [.int f4]) (rest := []) ⟨hx, hb, hml, hown, hts⟩ (c_X8_four l _ mA m2 m3 m4 m5 m6 m7 m8 m21 m22 m23 m24 m30 m31 q9 q10 q11 q13 q14 q15 q16 q17 q18 q19 q20 q28 q33 nr np ((((((((((((nb + 1) + 1) + 1) + 1) + 1) + 1) + 1) + 1) + 1) + 1) + 1) + 1) ln po tk we dg (upd (upd (upd (upd (upd (upd (upd (upd (upd (upd (upd (upd d23 nb (vp_nar .byte ((f1 >>> (24 &&& 31)).toInt8.toInt32))) (nb + 1) (vp_nar .byte ((f1 >>> (16 &&& 31)).toInt8.toInt32))) ((nb + 1) + 1) (vp_nar .byte ((f1 >>> (8 &&& 31)).toInt8.toInt32))) (((nb + 1) + 1) + 1) (vp_nar .byte ((f1 >>> (0 &&& 31)).toInt8.toInt32))) ((((nb + 1) + 1) + 1) + 1) (vp_nar .byte ((f2 >>> (24 &&& 31)).toInt8.toInt32))) (((((nb + 1) + 1) + 1) + 1) + 1) (vp_nar .byte ((f2 >>> (16 &&& 31)).toInt8.toInt32))) ((((((nb + 1) + 1) + 1) + 1) + 1) + 1) (vp_nar .byte ((f2 >>> (8 &&& 31)).toInt8.toInt32))) (((((((nb + 1) + 1) + 1) + 1) + 1) + 1) + 1) (vp_nar .byte ((f2 >>> (0 &&& 31)).toInt8.toInt32))) ((((((((nb + 1) + 1) + 1) + 1) + 1) + 1) + 1) + 1) (vp_nar .byte ((f3 >>> (24 &&& 31)).toInt8.toInt32))) (((((((((nb + 1) + 1) + 1) + 1) + 1) + 1) + 1) + 1) + 1) (vp_nar .byte ((f3 >>> (16 &&& 31)).toInt8.toInt32))) ((((((((((nb + 1) + 1) + 1) + 1) + 1) + 1) + 1) + 1) + 1) + 1) (vp_nar .byte ((f3 >>> (8 &&& 31)).toInt8.toInt32))) (((((((((((nb + 1) + 1) + 1) + 1) + 1) + 1) + 1) + 1) + 1) + 1) + 1) (vp_nar .byte ((f3 >>> (0 &&& 31)).toInt8.toInt32))) f4 h20 h2r h2p h8 (by omega)) (cwV 1 hts gX8_feed_X8_four rfl rfl rfl (by decide +kernel) ⟨Nat.le_of_ble_eq_true rfl, Nat.le_of_ble_eq_true rfl⟩) (pre_V (ci := 8) (q0 := 0) hB hz hA0 hP hD hS [0, 1] rfl rfl rfl rfl rfl) rfl rfl hl.1 rfl (lv_room (Nat.le_of_ble_eq_true rfl)) dX8_feed_33 ⟨Nat.zero_le _, Nat.zero_le _⟩) hP hD hS hA [0, 1] [] [0, 1] rfl rfl rfl rfl rfl (fun H locs hP hD hS => ?_)
    refine lv_aload_n hx hb dX8_feed_36 rfl (lv_at hl 0 rfl) ?_
    refine lv_iload hx hb dX8_feed_37 (lv_at hl 5 rfl) ?_
    refine k_v (w2 := [(mA, .inr (8, .int (nI nr) :: .int (nI np) :: .ref m2 :: .ref m3 :: .ref m4 :: .ref m5 :: .ref m6 :: .ref m7 :: .ref m8 :: .int q9 :: .int q10 :: .int q11 :: .int ((nI dg) - 1) :: .int q13 :: .int q14 :: .int q15 :: .int q16 :: .int q17 :: .int q18 :: .int q19 :: .int q20 :: .ref m21 :: .ref m22 :: .ref m23 :: .ref m24 :: .int (nI ((((((((((((((((((((nb + 1) + 1) + 1) + 1) + 1) + 1) + 1) + 1) + 1) + 1) + 1) + 1) + 1) + 1) + 1) + 1) + 1) + 1) + 1) + 1)) :: .int (nI ln) :: .int (nI po) :: .int q28 :: .int (nI tk) :: .ref m30 :: .ref m31 :: .int (nI we) :: .int q33 :: [])), (m23, .inl (cB, 300, .inl (upd (upd (upd (upd (upd (upd (upd (upd (upd (upd (upd (upd (upd (upd (upd (upd (upd (upd (upd (upd d23 nb (vp_nar .byte ((f1 >>> (24 &&& 31)).toInt8.toInt32))) (nb + 1) (vp_nar .byte ((f1 >>> (16 &&& 31)).toInt8.toInt32))) ((nb + 1) + 1) (vp_nar .byte ((f1 >>> (8 &&& 31)).toInt8.toInt32))) (((nb + 1) + 1) + 1) (vp_nar .byte ((f1 >>> (0 &&& 31)).toInt8.toInt32))) ((((nb + 1) + 1) + 1) + 1) (vp_nar .byte ((f2 >>> (24 &&& 31)).toInt8.toInt32))) (((((nb + 1) + 1) + 1) + 1) + 1) (vp_nar .byte ((f2 >>> (16 &&& 31)).toInt8.toInt32))) ((((((nb + 1) + 1) + 1) + 1) + 1) + 1) (vp_nar .byte ((f2 >>> (8 &&& 31)).toInt8.toInt32))) (((((((nb + 1) + 1) + 1) + 1) + 1) + 1) + 1) (vp_nar .byte ((f2 >>> (0 &&& 31)).toInt8.toInt32))) ((((((((nb + 1) + 1) + 1) + 1) + 1) + 1) + 1) + 1) (vp_nar .byte ((f3 >>> (24 &&& 31)).toInt8.toInt32))) (((((((((nb + 1) + 1) + 1) + 1) + 1) + 1) + 1) + 1) + 1) (vp_nar .byte ((f3 >>> (16 &&& 31)).toInt8.toInt32))) ((((((((((nb + 1) + 1) + 1) + 1) + 1) + 1) + 1) + 1) + 1) + 1) (vp_nar .byte ((f3 >>> (8 &&& 31)).toInt8.toInt32))) (((((((((((nb + 1) + 1) + 1) + 1) + 1) + 1) + 1) + 1) + 1) + 1) + 1) (vp_nar .byte ((f3 >>> (0 &&& 31)).toInt8.toInt32))) ((((((((((((nb + 1) + 1) + 1) + 1) + 1) + 1) + 1) + 1) + 1) + 1) + 1) + 1) (vp_nar .byte ((f4 >>> (24 &&& 31)).toInt8.toInt32))) (((((((((((((nb + 1) + 1) + 1) + 1) + 1) + 1) + 1) + 1) + 1) + 1) + 1) + 1) + 1) (vp_nar .byte ((f4 >>> (16 &&& 31)).toInt8.toInt32))) ((((((((((((((nb + 1) + 1) + 1) + 1) + 1) + 1) + 1) + 1) + 1) + 1) + 1) + 1) + 1) + 1) (vp_nar .byte ((f4 >>> (8 &&& 31)).toInt8.toInt32))) (((((((((((((((nb + 1) + 1) + 1) + 1) + 1) + 1) + 1) + 1) + 1) + 1) + 1) + 1) + 1) + 1) + 1) (vp_nar .byte ((f4 >>> (0 &&& 31)).toInt8.toInt32))) ((((((((((((((((nb + 1) + 1) + 1) + 1) + 1) + 1) + 1) + 1) + 1) + 1) + 1) + 1) + 1) + 1) + 1) + 1) (vp_nar .byte ((f5 >>> (24 &&& 31)).toInt8.toInt32))) (((((((((((((((((nb + 1) + 1) + 1) + 1) + 1) + 1) + 1) + 1) + 1) + 1) + 1) + 1) + 1) + 1) + 1) + 1) + 1) (vp_nar .byte ((f5 >>> (16 &&& 31)).toInt8.toInt32))) ((((((((((((((((((nb + 1) + 1) + 1) + 1) + 1) + 1) + 1) + 1) + 1) + 1) + 1) + 1) + 1) + 1) + 1) + 1) + 1) + 1) (vp_nar .byte ((f5 >>> (8 &&& 31)).toInt8.toInt32))) (((((((((((((((((((nb + 1) + 1) + 1) + 1) + 1) + 1) + 1) + 1) + 1) + 1) + 1) + 1) + 1) + 1) + 1) + 1) + 1) + 1) + 1) (vp_nar .byte ((f5 >>> (0 &&& 31)).toInt8.toInt32)))))]) (va_runV (As := [.int f5]) (rest := []) ⟨hx, hb, hml, hown, hts⟩ (c_X8_four l _ mA m2 m3 m4 m5 m6 m7 m8 m21 m22 m23 m24 m30 m31 q9 q10 q11 q13 q14 q15 q16 q17 q18 q19 q20 q28 q33 nr np ((((((((((((((((nb + 1) + 1) + 1) + 1) + 1) + 1) + 1) + 1) + 1) + 1) + 1) + 1) + 1) + 1) + 1) + 1) ln po tk we dg (upd (upd (upd (upd (upd (upd (upd (upd (upd (upd (upd (upd (upd (upd (upd (upd d23 nb (vp_nar .byte ((f1 >>> (24 &&& 31)).toInt8.toInt32))) (nb + 1) (vp_nar .byte ((f1 >>> (16 &&& 31)).toInt8.toInt32))) ((nb + 1) + 1) (vp_nar .byte ((f1 >>> (8 &&& 31)).toInt8.toInt32))) (((nb + 1) + 1) + 1) (vp_nar .byte ((f1 >>> (0 &&& 31)).toInt8.toInt32))) ((((nb + 1) + 1) + 1) + 1) (vp_nar .byte ((f2 >>> (24 &&& 31)).toInt8.toInt32))) (((((nb + 1) + 1) + 1) + 1) + 1) (vp_nar .byte ((f2 >>> (16 &&& 31)).toInt8.toInt32))) ((((((nb + 1) + 1) + 1) + 1) + 1) + 1) (vp_nar .byte ((f2 >>> (8 &&& 31)).toInt8.toInt32))) (((((((nb + 1) + 1) + 1) + 1) + 1) + 1) + 1) (vp_nar .byte ((f2 >>> (0 &&& 31)).toInt8.toInt32))) ((((((((nb + 1) + 1) + 1) + 1) + 1) + 1) + 1) + 1) (vp_nar .byte ((f3 >>> (24 &&& 31)).toInt8.toInt32))) (((((((((nb + 1) + 1) + 1) + 1) + 1) + 1) + 1) + 1) + 1) (vp_nar .byte ((f3 >>> (16 &&& 31)).toInt8.toInt32))) ((((((((((nb + 1) + 1) + 1) + 1) + 1) + 1) + 1) + 1) + 1) + 1) (vp_nar .byte ((f3 >>> (8 &&& 31)).toInt8.toInt32))) (((((((((((nb + 1) + 1) + 1) + 1) + 1) + 1) + 1) + 1) + 1) + 1) + 1) (vp_nar .byte ((f3 >>> (0 &&& 31)).toInt8.toInt32))) ((((((((((((nb + 1) + 1) + 1) + 1) + 1) + 1) + 1) + 1) + 1) + 1) + 1) + 1) (vp_nar .byte ((f4 >>> (24 &&& 31)).toInt8.toInt32))) (((((((((((((nb + 1) + 1) + 1) + 1) + 1) + 1) + 1) + 1) + 1) + 1) + 1) + 1) + 1) (vp_nar .byte ((f4 >>> (16 &&& 31)).toInt8.toInt32))) ((((((((((((((nb + 1) + 1) + 1) + 1) + 1) + 1) + 1) + 1) + 1) + 1) + 1) + 1) + 1) + 1) (vp_nar .byte ((f4 >>> (8 &&& 31)).toInt8.toInt32))) (((((((((((((((nb + 1) + 1) + 1) + 1) + 1) + 1) + 1) + 1) + 1) + 1) + 1) + 1) + 1) + 1) + 1) (vp_nar .byte ((f4 >>> (0 &&& 31)).toInt8.toInt32))) f5 h20 h2r h2p h8 (by omega)) (cwV 1 hts gX8_feed_X8_four rfl rfl rfl (by decide +kernel) ⟨Nat.le_of_ble_eq_true rfl, Nat.le_of_ble_eq_true rfl⟩) (pre_V (ci := 8) (q0 := 0) hB hz hA0 hP hD hS [0, 1] rfl rfl rfl rfl rfl) rfl rfl hl.1 rfl (lv_room (Nat.le_of_ble_eq_true rfl)) dX8_feed_39 ⟨Nat.zero_le _, Nat.zero_le _⟩) hP hD hS hA [0, 1] [] [0, 1] rfl rfl rfl rfl rfl (fun H locs hP hD hS => ?_)
    refine lv_aload_n hx hb dX8_feed_42 rfl (lv_at hl 0 rfl) ?_
    refine va_get (D := D) (ci := 8) (v := .int (nI ((((((((((((((((((((nb + 1) + 1) + 1) + 1) + 1) + 1) + 1) + 1) + 1) + 1) + 1) + 1) + 1) + 1) + 1) + 1) + 1) + 1) + 1) + 1))) (C := RX8) (T := TX8) (N := 34) hx hb hts hiX8 hown hB.1 hP 0 rfl rfl 25 (by decide) (hts _ (List.mem_of_getElem? (i := 1) rfl)) (fun _ h9 => h9) rfl dX8_feed_43 ?_
    have er : F_X8_feed nb = nI ((((((((((((((((((((nb + 1) + 1) + 1) + 1) + 1) + 1) + 1) + 1) + 1) + 1) + 1) + 1) + 1) + 1) + 1) + 1) + 1) + 1) + 1) + 1) := by rw [F_X8_feed, if_pos c_1]
    have e0_25 : nI (F_X8_feed_0_25 nb) = nI ((((((((((((((((((((nb + 1) + 1) + 1) + 1) + 1) + 1) + 1) + 1) + 1) + 1) + 1) + 1) + 1) + 1) + 1) + 1) + 1) + 1) + 1) + 1) := by rw [F_X8_feed_0_25, if_pos c_1]
    have e1 : F_X8_feed_1 nb d23 f1 f2 f3 f4 f5 = upd (upd (upd (upd (upd (upd (upd (upd (upd (upd (upd (upd (upd (upd (upd (upd (upd (upd (upd (upd d23 nb (vp_nar .byte ((f1 >>> (24 &&& 31)).toInt8.toInt32))) (nb + 1) (vp_nar .byte ((f1 >>> (16 &&& 31)).toInt8.toInt32))) ((nb + 1) + 1) (vp_nar .byte ((f1 >>> (8 &&& 31)).toInt8.toInt32))) (((nb + 1) + 1) + 1) (vp_nar .byte ((f1 >>> (0 &&& 31)).toInt8.toInt32))) ((((nb + 1) + 1) + 1) + 1) (vp_nar .byte ((f2 >>> (24 &&& 31)).toInt8.toInt32))) (((((nb + 1) + 1) + 1) + 1) + 1) (vp_nar .byte ((f2 >>> (16 &&& 31)).toInt8.toInt32))) ((((((nb + 1) + 1) + 1) + 1) + 1) + 1) (vp_nar .byte ((f2 >>> (8 &&& 31)).toInt8.toInt32))) (((((((nb + 1) + 1) + 1) + 1) + 1) + 1) + 1) (vp_nar .byte ((f2 >>> (0 &&& 31)).toInt8.toInt32))) ((((((((nb + 1) + 1) + 1) + 1) + 1) + 1) + 1) + 1) (vp_nar .byte ((f3 >>> (24 &&& 31)).toInt8.toInt32))) (((((((((nb + 1) + 1) + 1) + 1) + 1) + 1) + 1) + 1) + 1) (vp_nar .byte ((f3 >>> (16 &&& 31)).toInt8.toInt32))) ((((((((((nb + 1) + 1) + 1) + 1) + 1) + 1) + 1) + 1) + 1) + 1) (vp_nar .byte ((f3 >>> (8 &&& 31)).toInt8.toInt32))) (((((((((((nb + 1) + 1) + 1) + 1) + 1) + 1) + 1) + 1) + 1) + 1) + 1) (vp_nar .byte ((f3 >>> (0 &&& 31)).toInt8.toInt32))) ((((((((((((nb + 1) + 1) + 1) + 1) + 1) + 1) + 1) + 1) + 1) + 1) + 1) + 1) (vp_nar .byte ((f4 >>> (24 &&& 31)).toInt8.toInt32))) (((((((((((((nb + 1) + 1) + 1) + 1) + 1) + 1) + 1) + 1) + 1) + 1) + 1) + 1) + 1) (vp_nar .byte ((f4 >>> (16 &&& 31)).toInt8.toInt32))) ((((((((((((((nb + 1) + 1) + 1) + 1) + 1) + 1) + 1) + 1) + 1) + 1) + 1) + 1) + 1) + 1) (vp_nar .byte ((f4 >>> (8 &&& 31)).toInt8.toInt32))) (((((((((((((((nb + 1) + 1) + 1) + 1) + 1) + 1) + 1) + 1) + 1) + 1) + 1) + 1) + 1) + 1) + 1) (vp_nar .byte ((f4 >>> (0 &&& 31)).toInt8.toInt32))) ((((((((((((((((nb + 1) + 1) + 1) + 1) + 1) + 1) + 1) + 1) + 1) + 1) + 1) + 1) + 1) + 1) + 1) + 1) (vp_nar .byte ((f5 >>> (24 &&& 31)).toInt8.toInt32))) (((((((((((((((((nb + 1) + 1) + 1) + 1) + 1) + 1) + 1) + 1) + 1) + 1) + 1) + 1) + 1) + 1) + 1) + 1) + 1) (vp_nar .byte ((f5 >>> (16 &&& 31)).toInt8.toInt32))) ((((((((((((((((((nb + 1) + 1) + 1) + 1) + 1) + 1) + 1) + 1) + 1) + 1) + 1) + 1) + 1) + 1) + 1) + 1) + 1) + 1) (vp_nar .byte ((f5 >>> (8 &&& 31)).toInt8.toInt32))) (((((((((((((((((((nb + 1) + 1) + 1) + 1) + 1) + 1) + 1) + 1) + 1) + 1) + 1) + 1) + 1) + 1) + 1) + 1) + 1) + 1) + 1) (vp_nar .byte ((f5 >>> (0 &&& 31)).toInt8.toInt32)) := by rw [F_X8_feed_1, if_pos c_1]
    exact W.iret hx hb hr (fun t ht hW => ⟨⟨_, (), rfl, er.symm, by rw [ht, e0_25, e1]; exact hP, by rw [e0_25, e1]; exact hD⟩, hS.F ht⟩) hS.2.2 dX8_feed_46
  · refine lv_iconst (v := (-1)) hx hb dX8_feed_13 (by decide) ?_
    have er : F_X8_feed nb = (-1) := by rw [F_X8_feed, if_neg c_1]
    have e0_25 : nI (F_X8_feed_0_25 nb) = nI nb := by rw [F_X8_feed_0_25, if_neg c_1]
    have e1 : F_X8_feed_1 nb d23 f1 f2 f3 f4 f5 = d23 := by rw [F_X8_feed_1, if_neg c_1]
    exact W.iret hx hb hr (fun t ht hW => ⟨⟨_, (), rfl, er.symm, by rw [ht, e0_25, e1]; exact hP, by rw [e0_25, e1]; exact hD⟩, hS.F ht⟩) hS.2.2 dX8_feed_14
