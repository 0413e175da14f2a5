def F_X8_next_L22 (q9 : Int32) (nr : Nat) (np : Nat) (dg : Nat) (d3 : Nat → Int32) (d5 : Nat → Int32) (u : Nat) (v : Nat) (s_ : Int32 × Int32) : Int32 × Int32 :=
    if (d5 ((8 * (dg + u)) + v)) = 0 then (if s_.1 = (-1) then (((8 * (nI (dg + u))) + (nI v), (F_X8_end1 q9 nr np d3 d5 (dg + u) v) - (F_X8_end0 q9 nr np d3 d5 (dg + u) v))) else
    if s_.2 < ((F_X8_end1 q9 nr np d3 d5 (dg + u) v) - (F_X8_end0 q9 nr np d3 d5 (dg + u) v)) then (((8 * (nI (dg + u))) + (nI v), (F_X8_end1 q9 nr np d3 d5 (dg + u) v) - (F_X8_end0 q9 nr np d3 d5 (dg + u) v))) else
    (s_.1, s_.2)) else
    (s_.1, s_.2)
def F_X8_next_L11 (q9 : Int32) (nr : Nat) (np : Nat) (dg : Nat) (d3 : Nat → Int32) (d5 : Nat → Int32) (u : Nat) (s_ : Int32 × Int32) : Int32 × Int32 :=
    ((lp (F_X8_next_L22 q9 nr np dg d3 d5 u) np (s_.1, s_.2)).1, (lp (F_X8_next_L22 q9 nr np dg d3 d5 u) np (s_.1, s_.2)).2)
set_option maxHeartbeats 4000000 in
set_option maxRecDepth 100000 in
theorem c_X8_next (l : Launch) {D : va_G} {cI cZ cB : ClassId} {au : Nat} {kA kV : Nat → Nat} {z0 : Nat} (sz : Nat) (mA : Nat) (m2 : Nat) (m3 : Nat) (m4 : Nat) (m5 : Nat) (m6 : Nat) (m7 : Nat) (m8 : Nat) (m21 : Nat) (m22 : Nat) (m23 : Nat) (m24 : Nat) (m30 : Nat) (m31 : Nat) (q9 : Int32) (q10 : Int32) (q11 : Int32) (q13 : Int32) (q14 : Int32) (q15 : Int32) (q16 : Int32) (q17 : Int32) (q18 : Int32) (q19 : Int32) (q20 : Int32) (q28 : Int32) (q33 : Int32) (nr : Nat) (np : Nat) (nb : Nat) (ln : Nat) (po : Nat) (tk : Nat) (we : Nat) (dg : Nat) (d3 : Nat → Int32) (d5 : Nat → Int32) (h20 : nr ≤ 20) (h2r : 2 ≤ nr) (h2p : 2 ≤ np) (h8 : np ≤ 8) (hdg : dg ≤ nr) : Met l yX8_next wsX8_next ({ frames := 2, cells := 0, slots := 0, locals := 49 }) (va_Pc [.ref mA] (PRE D cI cZ cB au kA kV z0 sz [(mA, .inr (8, .int (nI nr) :: .int (nI np) :: .ref m2 :: .ref m3 :: .ref m4 :: .ref m5 :: .ref m6 :: .ref m7 :: .ref m8 :: .int q9 :: .int q10 :: .int q11 :: .int ((nI dg) - 1) :: .int q13 :: .int q14 :: .int q15 :: .int q16 :: .int q17 :: .int q18 :: .int q19 :: .int q20 :: .ref m21 :: .ref m22 :: .ref m23 :: .ref m24 :: .int (nI nb) :: .int (nI ln) :: .int (nI po) :: .int q28 :: .int (nI tk) :: .ref m30 :: .ref m31 :: .int (nI we) :: .int q33 :: [])), (m3, .inl (cI, 160, .inl d3)), (m5, .inl (cZ, 160, .inl d5))])) (QI D [(mA, .inr (8, .int (nI nr) :: .int (nI np) :: .ref m2 :: .ref m3 :: .ref m4 :: .ref m5 :: .ref m6 :: .ref m7 :: .ref m8 :: .int q9 :: .int q10 :: .int q11 :: .int ((nI dg) - 1) :: .int q13 :: .int q14 :: .int q15 :: .int q16 :: .int q17 :: .int q18 :: .int q19 :: .int q20 :: .ref m21 :: .ref m22 :: .ref m23 :: .ref m24 :: .int (nI nb) :: .int (nI ln) :: .int (nI po) :: .int q28 :: .int (nI tk) :: .ref m30 :: .ref m31 :: .int (nI we) :: .int q33 :: [])), (m3, .inl (cI, 160, .inl d3)), (m5, .inl (cZ, 160, .inl d5))] sz (lp (F_X8_next_L11 q9 nr np dg d3 d5) (nr - dg) ((-1), 0)).1 [(mA, .inr (8, .int (nI nr) :: .int (nI np) :: .ref m2 :: .ref m3 :: .ref m4 :: .ref m5 :: .ref m6 :: .ref m7 :: .ref m8 :: .int q9 :: .int q10 :: .int q11 :: .int ((nI dg) - 1) :: .int q13 :: .int q14 :: .int q15 :: .int q16 :: .int q17 :: .int q18 :: .int q19 :: .int q20 :: .ref m21 :: .ref m22 :: .ref m23 :: .ref m24 :: .int (nI nb) :: .int (nI ln) :: .int (nI po) :: .int q28 :: .int (nI tk) :: .ref m30 :: .ref m31 :: .int (nI we) :: .int q33 :: [])), (m3, .inl (cI, 160, .inl d3)), (m5, .inl (cZ, 160, .inl d5))]) 0 0 (va_A [(mA, .inr (8, .int (nI nr) :: .int (nI np) :: .ref m2 :: .ref m3 :: .ref m4 :: .ref m5 :: .ref m6 :: .ref m7 :: .ref m8 :: .int q9 :: .int q10 :: .int q11 :: .int ((nI dg) - 1) :: .int q13 :: .int q14 :: .int q15 :: .int q16 :: .int q17 :: .int q18 :: .int q19 :: .int q20 :: .ref m21 :: .ref m22 :: .ref m23 :: .ref m24 :: .int (nI nb) :: .int (nI ln) :: .int (nI po) :: .int q28 :: .int (nI tk) :: .ref m30 :: .ref m31 :: .int (nI we) :: .int q33 :: [])), (m3, .inl (cI, 160, .inl d3)), (m5, .inl (cZ, 160, .inl d5))] sz) := by
  refine Met.ofW (cc := cX8_next) (maxL := 6) (ret := (some .int)) (by decide) rfl ?_
  intro p e s m args below meth c s₁ B hml hv
  obtain ⟨rfl, hsz, hz, hP, hD0, hB⟩ := hv
  have hx := B.exec
  have hb := B.bytes
  have hr := B.returns
  have hts := atoms_spec (ws := wsX8_next) B.pre
  have hown : s.vm.findClass RX8 = some m.cls := findClass_of_methodNamed B.named
  have hlocks := B.notSynchronized
  subst hsz
  have hD := hD0.self (sz := s.heap.size)
  have hA0 := va_A0 hD0 hz
  unfold QI
  generalize hAe : va_A [(mA, .inr (8, .int (nI nr) :: .int (nI np) :: .ref m2 :: .ref m3 :: .ref m4 :: .ref m5 :: .ref m6 :: .ref m7 :: .ref m8 :: .int q9 :: .int q10 :: .int q11 :: .int ((nI dg) - 1) :: .int q13 :: .int q14 :: .int q15 :: .int q16 :: .int q17 :: .int q18 :: .int q19 :: .int q20 :: .ref m21 :: .ref m22 :: .ref m23 :: .ref m24 :: .int (nI nb) :: .int (nI ln) :: .int (nI po) :: .int q28 :: .int (nI tk) :: .ref m30 :: .ref m31 :: .int (nI we) :: .int q33 :: [])), (m3, .inl (cI, 160, .inl d3)), (m5, .inl (cZ, 160, .inl d5))] s.heap.size = A at hD hA0 ⊢
  have hA : ∀ q : Nat, s.heap.size ≤ q → A q := fun q h => by rw [← hAe]; exact Or.inr h
  have hS : va_S A s.heap s.heap [] := va_S.rf
  have hiX8 : ∀ w ∈ wsX80, w ∈ wsX8_next := fun w h => List.mem_cons_of_mem _ (List.mem_append_right _ h)
  have hl := lv_entry ([.ref mA]) (n := 6) (Nat.le_of_ble_eq_true rfl)
  rw [lg_entry_eq]
  generalize (lg_sl ([.ref mA]) ++ List.replicate (6 - (lg_sl ([.ref mA])).length) Slot.unset).toArray = ls at hl ⊢
  have hl : lv_has ls 6 [(0, .ref mA)] := hl
  refine lv_iconst (v := (-1)) hx hb dX8_next_0 (by decide) ?_
  refine lv_istore_n (lv' := [(1, .int (-1)), (0, .ref mA)]) hx hb dX8_next_1 rfl hl (by decide) rfl (fun ls hl => ?_)
  refine lv_iconst (v := 0) hx hb dX8_next_2 (by decide) ?_
  refine lv_istore_n (lv' := [(2, .int 0), (1, .int (-1)), (0, .ref mA)]) hx hb dX8_next_3 rfl hl (by decide) rfl (fun ls hl => ?_)
  refine lv_aload_n hx hb dX8_next_4 rfl (lv_at hl 2 rfl) ?_
  refine va_get (D := D) (ci := 8) (v := .int ((nI dg) - 1)) (C := RX8) (T := TX8) (N := 34) hx hb hts hiX8 hown hB.1 hP 0 rfl rfl 12 (by decide) (hts _ (List.mem_of_getElem? (i := 1) rfl)) (fun _ h9 => h9) rfl dX8_next_5 ?_
  refine lv_iconst (v := 1) hx hb dX8_next_8 (by decide) ?_
  refine lv_iadd hx hb dX8_next_9 ?_
  rw [m1p1]
  refine lv_istore_n (lv' := [(3, .int (nI dg)), (2, .int 0), (1, .int (-1)), (0, .ref mA)]) hx hb dX8_next_10 rfl hl (by decide) rfl (fun ls hl => ?_)
  refine lpM (σ := Nat) (fun u => u ≤ nr - dg) (fun u => (nr - dg) - u) (fun u => [(mA, .inr (8, .int (nI nr) :: .int (nI np) :: .ref m2 :: .ref m3 :: .ref m4 :: .ref m5 :: .ref m6 :: .ref m7 :: .ref m8 :: .int q9 :: .int q10 :: .int q11 :: .int ((nI dg) - 1) :: .int q13 :: .int q14 :: .int q15 :: .int q16 :: .int q17 :: .int q18 :: .int q19 :: .int q20 :: .ref m21 :: .ref m22 :: .ref m23 :: .ref m24 :: .int (nI nb) :: .int (nI ln) :: .int (nI po) :: .int q28 :: .int (nI tk) :: .ref m30 :: .ref m31 :: .int (nI we) :: .int q33 :: [])), (m3, .inl (cI, 160, .inl d3)), (m5, .inl (cZ, 160, .inl d5))]) (fun u => [(3, .int (nI (dg + u))), (2, .int (lp (F_X8_next_L11 q9 nr np dg d3 d5) u ((-1), 0)).2), (1, .int (lp (F_X8_next_L11 q9 nr np dg d3 d5) u ((-1), 0)).1), (0, .ref mA)]) 0 (Nat.zero_le _) hP hD hS (lv_sub hl [0, 1, 2, 3] rfl) ?_
  intro u h_u ih_u H locs ls hP hD hS hl
  have hP : va_P D vwCl [(mA, .inr (8, .int (nI nr) :: .int (nI np) :: .ref m2 :: .ref m3 :: .ref m4 :: .ref m5 :: .ref m6 :: .ref m7 :: .ref m8 :: .int q9 :: .int q10 :: .int q11 :: .int ((nI dg) - 1) :: .int q13 :: .int q14 :: .int q15 :: .int q16 :: .int q17 :: .int q18 :: .int q19 :: .int q20 :: .ref m21 :: .ref m22 :: .ref m23 :: .ref m24 :: .int (nI nb) :: .int (nI ln) :: .int (nI po) :: .int q28 :: .int (nI tk) :: .ref m30 :: .ref m31 :: .int (nI we) :: .int q33 :: [])), (m3, .inl (cI, 160, .inl d3)), (m5, .inl (cZ, 160, .inl d5))] H := hP
  have hD : va_D A [(mA, .inr (8, .int (nI nr) :: .int (nI np) :: .ref m2 :: .ref m3 :: .ref m4 :: .ref m5 :: .ref m6 :: .ref m7 :: .ref m8 :: .int q9 :: .int q10 :: .int q11 :: .int ((nI dg) - 1) :: .int q13 :: .int q14 :: .int q15 :: .int q16 :: .int q17 :: .int q18 :: .int q19 :: .int q20 :: .ref m21 :: .ref m22 :: .ref m23 :: .ref m24 :: .int (nI nb) :: .int (nI ln) :: .int (nI po) :: .int q28 :: .int (nI tk) :: .ref m30 :: .ref m31 :: .int (nI we) :: .int q33 :: [])), (m3, .inl (cI, 160, .inl d3)), (m5, .inl (cZ, 160, .inl d5))] := hD
  have hl : lv_has ls 6 [(3, .int (nI (dg + u))), (2, .int (lp (F_X8_next_L11 q9 nr np dg d3 d5) u ((-1), 0)).2), (1, .int (lp (F_X8_next_L11 q9 nr np dg d3 d5) u ((-1), 0)).1), (0, .ref mA)] := hl
  generalize hs_u : lp (F_X8_next_L11 q9 nr np dg d3 d5) u ((-1), 0) = sv1 at hl
  refine lv_iload_n hx hb dX8_next_11 rfl (lv_at hl 0 rfl) ?_
  refine lv_aload_n hx hb dX8_next_12 rfl (lv_at hl 3 rfl) ?_
  refine va_get (D := D) (ci := 8) (v := .int (nI nr)) (C := RX8) (T := TX8) (N := 34) hx hb hts hiX8 hown hB.1 hP 0 rfl rfl 0 (by decide) (hts _ (List.mem_of_getElem? (i := 2) rfl)) (fun _ h9 => h9) rfl dX8_next_13 ?_
  refine lv_icmp_ge (tgt := 102) hx hb dX8_next_16 (by decide) (fun c_2 => ?_) (fun c_2 => ?_)
  · have hx_u : nr - dg = u := Eq.symm (le_ex2 (by omega) hdg h_u c_2)
    subst hx_u
    subst hs_u
    refine lv_iload_n hx hb dX8_next_102 rfl (lv_at hl 2 rfl) ?_
    exact W.iret hx hb hr (fun t ht hW => ⟨⟨_, (), rfl, rfl, by rw [ht]; exact hP, hD⟩, hS.F ht⟩) hS.2.2 dX8_next_103
  · have hlt_u : u < nr - dg := le_go2 (by omega) hdg h_u c_2
    refine lv_iconst (v := 0) hx hb dX8_next_19 (by decide) ?_
    refine lv_istore (lv' := [(4, .int 0), (3, .int (nI (dg + u))), (2, .int sv1.2), (1, .int sv1.1), (0, .ref mA)]) hx hb dX8_next_20 hl (by decide) rfl (fun ls hl => ?_)
    refine lpM (σ := Nat) (fun v => v ≤ np) (fun v => np - v) (fun v => [(mA, .inr (8, .int (nI nr) :: .int (nI np) :: .ref m2 :: .ref m3 :: .ref m4 :: .ref m5 :: .ref m6 :: .ref m7 :: .ref m8 :: .int q9 :: .int q10 :: .int q11 :: .int ((nI dg) - 1) :: .int q13 :: .int q14 :: .int q15 :: .int q16 :: .int q17 :: .int q18 :: .int q19 :: .int q20 :: .ref m21 :: .ref m22 :: .ref m23 :: .ref m24 :: .int (nI nb) :: .int (nI ln) :: .int (nI po) :: .int q28 :: .int (nI tk) :: .ref m30 :: .ref m31 :: .int (nI we) :: .int q33 :: [])), (m3, .inl (cI, 160, .inl d3)), (m5, .inl (cZ, 160, .inl d5))]) (fun v => [(4, .int (nI v)), (3, .int (nI (dg + u))), (2, .int (lp (F_X8_next_L22 q9 nr np dg d3 d5 u) v (sv1.1, sv1.2)).2), (1, .int (lp (F_X8_next_L22 q9 nr np dg d3 d5 u) v (sv1.1, sv1.2)).1), (0, .ref mA)]) 0 (Nat.zero_le _) hP hD hS (lv_sub hl [0, 1, 2, 3, 4] rfl) ?_
    intro v h_v ih_v H locs ls hP hD hS hl
    have hP : va_P D vwCl [(mA, .inr (8, .int (nI nr) :: .int (nI np) :: .ref m2 :: .ref m3 :: .ref m4 :: .ref m5 :: .ref m6 :: .ref m7 :: .ref m8 :: .int q9 :: .int q10 :: .int q11 :: .int ((nI dg) - 1) :: .int q13 :: .int q14 :: .int q15 :: .int q16 :: .int q17 :: .int q18 :: .int q19 :: .int q20 :: .ref m21 :: .ref m22 :: .ref m23 :: .ref m24 :: .int (nI nb) :: .int (nI ln) :: .int (nI po) :: .int q28 :: .int (nI tk) :: .ref m30 :: .ref m31 :: .int (nI we) :: .int q33 :: [])), (m3, .inl (cI, 160, .inl d3)), (m5, .inl (cZ, 160, .inl d5))] H := hP
    have hD : va_D A [(mA, .inr (8, .int (nI nr) :: .int (nI np) :: .ref m2 :: .ref m3 :: .ref m4 :: .ref m5 :: .ref m6 :: .ref m7 :: .ref m8 :: .int q9 :: .int q10 :: .int q11 :: .int ((nI dg) - 1) :: .int q13 :: .int q14 :: .int q15 :: .int q16 :: .int q17 :: .int q18 :: .int q19 :: .int q20 :: .ref m21 :: .ref m22 :: .ref m23 :: .ref m24 :: .int (nI nb) :: .int (nI ln) :: .int (nI po) :: .int q28 :: .int (nI tk) :: .ref m30 :: .ref m31 :: .int (nI we) :: .int q33 :: [])), (m3, .inl (cI, 160, .inl d3)), (m5, .inl (cZ, 160, .inl d5))] := hD
    have hl : lv_has ls 6 [(4, .int (nI v)), (3, .int (nI (dg + u))), (2, .int (lp (F_X8_next_L22 q9 nr np dg d3 d5 u) v (sv1.1, sv1.2)).2), (1, .int (lp (F_X8_next_L22 q9 nr np dg d3 d5 u) v (sv1.1, sv1.2)).1), (0, .ref mA)] := hl
    generalize hs_v : lp (F_X8_next_L22 q9 nr np dg d3 d5 u) v (sv1.1, sv1.2) = sv3 at hl
    refine lv_iload hx hb dX8_next_22 (lv_at hl 0 rfl) ?_
    refine lv_aload_n hx hb dX8_next_24 rfl (lv_at hl 4 rfl) ?_
    refine va_get (D := D) (ci := 8) (v := .int (nI np)) (C := RX8) (T := TX8) (N := 34) hx hb hts hiX8 hown hB.1 hP 0 rfl rfl 1 (by decide) (hts _ (List.mem_of_getElem? (i := 3) rfl)) (fun _ h9 => h9) rfl dX8_next_25 ?_
    refine lv_icmp_ge (tgt := 96) hx hb dX8_next_28 (by decide) (fun c_4 => ?_) (fun c_4 => ?_)
    · have hx_v : np = v := Eq.symm (le_ex (by omega) h_v c_4)
      subst hx_v
      subst hs_v
      refine lv_iinc (v := nI (dg + (u + 1))) (lv' := [(3, .int (nI (dg + (u + 1)))), (4, .int (nI np)), (2, .int (lp (F_X8_next_L22 q9 nr np dg d3 d5 u) np (sv1.1, sv1.2)).2), (1, .int (lp (F_X8_next_L22 q9 nr np dg d3 d5 u) np (sv1.1, sv1.2)).1), (0, .ref mA)]) hx hb dX8_next_96 hl (k := 1) rfl (nI_1 (dg + u)) (by decide) rfl (fun ls hl => ?_)
      refine lv_goto (tgt := 11) hx hb dX8_next_99 (by decide) ?_
      have e_step : F_X8_next_L11 q9 nr np dg d3 d5 u sv1 = ((lp (F_X8_next_L22 q9 nr np dg d3 d5 u) np (sv1.1, sv1.2)).1, (lp (F_X8_next_L22 q9 nr np dg d3 d5 u) np (sv1.1, sv1.2)).2) := by rw [F_X8_next_L11]
      have hP2 : va_P D vwCl [(mA, .inr (8, .int (nI nr) :: .int (nI np) :: .ref m2 :: .ref m3 :: .ref m4 :: .ref m5 :: .ref m6 :: .ref m7 :: .ref m8 :: .int q9 :: .int q10 :: .int q11 :: .int ((nI dg) - 1) :: .int q13 :: .int q14 :: .int q15 :: .int q16 :: .int q17 :: .int q18 :: .int q19 :: .int q20 :: .ref m21 :: .ref m22 :: .ref m23 :: .ref m24 :: .int (nI nb) :: .int (nI ln) :: .int (nI po) :: .int q28 :: .int (nI tk) :: .ref m30 :: .ref m31 :: .int (nI we) :: .int q33 :: [])), (m3, .inl (cI, 160, .inl d3)), (m5, .inl (cZ, 160, .inl d5))] H := hP
      have hD2 : va_D A [(mA, .inr (8, .int (nI nr) :: .int (nI np) :: .ref m2 :: .ref m3 :: .ref m4 :: .ref m5 :: .ref m6 :: .ref m7 :: .ref m8 :: .int q9 :: .int q10 :: .int q11 :: .int ((nI dg) - 1) :: .int q13 :: .int q14 :: .int q15 :: .int q16 :: .int q17 :: .int q18 :: .int q19 :: .int q20 :: .ref m21 :: .ref m22 :: .ref m23 :: .ref m24 :: .int (nI nb) :: .int (nI ln) :: .int (nI po) :: .int q28 :: .int (nI tk) :: .ref m30 :: .ref m31 :: .int (nI we) :: .int q33 :: [])), (m3, .inl (cI, 160, .inl d3)), (m5, .inl (cZ, 160, .inl d5))] := hD
      have hl2 : lv_has ls 6 [(3, .int (nI (dg + (u + 1)))), (2, .int (F_X8_next_L11 q9 nr np dg d3 d5 u sv1).2), (1, .int (F_X8_next_L11 q9 nr np dg d3 d5 u sv1).1), (0, .ref mA)] := by rw [e_step]; exact lv_sub hl [0, 2, 3, 4] rfl
      subst hs_u
      exact ih_u (u + 1) (by omega) (by omega) _ _ _ hP2 hD2 hS hl2
    · have hlt_v : v < np := le_go (by omega) h_v c_4
      refine lv_aload_n hx hb dX8_next_31 rfl (lv_at hl 4 rfl) ?_
      refine lv_iload_n hx hb dX8_next_32 rfl (lv_at hl 1 rfl) ?_
      refine lv_iload hx hb dX8_next_33 (lv_at hl 0 rfl) ?_
      refine lv_iconst (v := 1) hx hb dX8_next_35 (by decide) ?_
      refine k_i (w2 := [(mA, .inr (8, .int (nI nr) :: .int (nI np) :: .ref m2 :: .ref m3 :: .ref m4 :: .ref m5 :: .ref m6 :: .ref m7 :: .ref m8 :: .int q9 :: .int q10 :: .int q11 :: .int ((nI dg) - 1) :: .int q13 :: .int q14 :: .int q15 :: .int q16 :: .int q17 :: .int q18 :: .int q19 :: .int q20 :: .ref m21 :: .ref m22 :: .ref m23 :: .ref m24 :: .int (nI nb) :: .int (nI ln) :: .int (nI po) :: .int q28 :: .int (nI tk) :: .ref m30 :: .ref m31 :: .int (nI we) :: .int q33 :: [])), (m3, .inl (cI, 160, .inl d3)), (m5, .inl (cZ, 160, .inl d5))]) (va_runV (As := [.int (nI (dg + u)), .int (nI v), .int 1]) (rest := []) ⟨hx, hb, hml, hown, hts⟩ (c_X8_end1 l _ mA m2 m3 m4 m5 m6 m7 m8 m21 m22 m23 m24 m30 m31 q9 q10 q11 q13 q14 q15 q16 q17 q18 q19 q20 q28 q33 nr np nb ln po tk we dg d3 d5 (nI (dg + u)) (nI v) (dg + u) v h20 h2r h2p h8 rfl rfl (by omega) hlt_v) (cwV 3 hts gX8_next_X8_end rfl rfl rfl (by decide +kernel) ⟨Nat.le_of_ble_eq_true rfl, Nat.le_of_ble_eq_true rfl⟩) (pre_V (ci := 8) (q0 := 0) hB hz hA0 hP hD hS [0, 1, 2] rfl rfl rfl rfl rfl) rfl rfl hl.1 rfl (lv_room (Nat.le_of_ble_eq_true rfl)) dX8_next_36 ⟨Nat.zero_le _, Nat.zero_le _⟩) hP hD hS hA [0, 1, 2] [] [0, 1, 2] rfl rfl rfl rfl rfl (fun H locs hP hD hS => ?_)
      refine lv_aload_n hx hb dX8_next_39 rfl (lv_at hl 4 rfl) ?_
      refine lv_iload_n hx hb dX8_next_40 rfl (lv_at hl 1 rfl) ?_
      refine lv_iload hx hb dX8_next_41 (lv_at hl 0 rfl) ?_
      refine lv_iconst (v := 0) hx hb dX8_next_43 (by decide) ?_
      refine k_i (w2 := [(mA, .inr (8, .int (nI nr) :: .int (nI np) :: .ref m2 :: .ref m3 :: .ref m4 :: .ref m5 :: .ref m6 :: .ref m7 :: .ref m8 :: .int q9 :: .int q10 :: .int q11 :: .int ((nI dg) - 1) :: .int q13 :: .int q14 :: .int q15 :: .int q16 :: .int q17 :: .int q18 :: .int q19 :: .int q20 :: .ref m21 :: .ref m22 :: .ref m23 :: .ref m24 :: .int (nI nb) :: .int (nI ln) :: .int (nI po) :: .int q28 :: .int (nI tk) :: .ref m30 :: .ref m31 :: .int (nI we) :: .int q33 :: [])), (m3, .inl (cI, 160, .inl d3)), (m5, .inl (cZ, 160, .inl d5))]) (va_runV (As := [.int (nI (dg + u)), .int (nI v), .int 0]) (rest := [.int (F_X8_end1 q9 nr np d3 d5 (dg + u) v)]) ⟨hx, hb, hml, hown, hts⟩ (c_X8_end0 l _ mA m2 m3 m4 m5 m6 m7 m8 m21 m22 m23 m24 m30 m31 q9 q10 q11 q13 q14 q15 q16 q17 q18 q19 q20 q28 q33 nr np nb ln po tk we dg d3 d5 (nI (dg + u)) (nI v) (dg + u) v h20 h2r h2p h8 rfl rfl (by omega) hlt_v) (cwV 3 hts gX8_next_X8_end rfl rfl rfl (by decide +kernel) ⟨Nat.le_of_ble_eq_true rfl, Nat.le_of_ble_eq_true rfl⟩) (pre_V (ci := 8) (q0 := 0) hB hz hA0 hP hD hS [0, 1, 2] rfl rfl rfl rfl rfl) rfl rfl hl.1 rfl (lv_room (Nat.le_of_ble_eq_true rfl)) dX8_next_44 ⟨Nat.zero_le _, Nat.zero_le _⟩) hP hD hS hA [0, 1, 2] [] [0, 1, 2] rfl rfl rfl rfl rfl (fun H locs hP hD hS => ?_)
      refine lv_isub hx hb dX8_next_47 ?_
      refine lv_istore (lv' := [(5, .int ((F_X8_end1 q9 nr np d3 d5 (dg + u) v) - (F_X8_end0 q9 nr np d3 d5 (dg + u) v))), (4, .int (nI v)), (3, .int (nI (dg + u))), (2, .int sv3.2), (1, .int sv3.1), (0, .ref mA)]) hx hb dX8_next_48 hl (by decide) rfl (fun ls hl => ?_)
      refine lv_aload_n hx hb dX8_next_50 rfl (lv_at hl 5 rfl) ?_
      refine va_get (D := D) (ci := 8) (v := .ref m5) (C := RX8) (T := TX8) (N := 34) hx hb hts hiX8 hown hB.1 hP 0 rfl rfl 5 (by decide) (hts _ (List.mem_of_getElem? (i := 4) rfl)) (fun _ h9 => h9) rfl dX8_next_51 ?_
      refine lv_bipush (v := 8) hx hb dX8_next_54 (by decide) ?_
      refine lv_iload_n hx hb dX8_next_56 rfl (lv_at hl 2 rfl) ?_
      refine lv_imul hx hb dX8_next_57 ?_
      refine lv_iload hx hb dX8_next_58 (lv_at hl 1 rfl) ?_
      refine lv_iadd hx hb dX8_next_60 ?_
      refine ra_z hx hb hB.1 hP 2 rfl ((8 * (dg + u)) + v) (nx_add (nx_mul rfl rfl) rfl) (by omega) (by decide) dX8_next_61 ?_
      refine lv_if_ne (tgt := 90) hx hb dX8_next_62 (by decide) (fun c_5 => ?_) (fun c_5 => ?_)
      · refine lv_iinc (v := nI (v + 1)) (lv' := [(4, .int (nI (v + 1))), (5, .int ((F_X8_end1 q9 nr np d3 d5 (dg + u) v) - (F_X8_end0 q9 nr np d3 d5 (dg + u) v))), (3, .int (nI (dg + u))), (2, .int sv3.2), (1, .int sv3.1), (0, .ref mA)]) hx hb dX8_next_90 hl (k := 1) rfl (nI_1 _) (by decide) rfl (fun ls hl => ?_)
        refine lv_goto (tgt := 22) hx hb dX8_next_93 (by decide) ?_
        have e_step : F_X8_next_L22 q9 nr np dg d3 d5 u v sv3 = (sv3.1, sv3.2) := by rw [F_X8_next_L22, if_neg c_5]
        have hP2 : va_P D vwCl [(mA, .inr (8, .int (nI nr) :: .int (nI np) :: .ref m2 :: .ref m3 :: .ref m4 :: .ref m5 :: .ref m6 :: .ref m7 :: .ref m8 :: .int q9 :: .int q10 :: .int q11 :: .int ((nI dg) - 1) :: .int q13 :: .int q14 :: .int q15 :: .int q16 :: .int q17 :: .int q18 :: .int q19 :: .int q20 :: .ref m21 :: .ref m22 :: .ref m23 :: .ref m24 :: .int (nI nb) :: .int (nI ln) :: .int (nI po) :: .int q28 :: .int (nI tk) :: .ref m30 :: .ref m31 :: .int (nI we) :: .int q33 :: [])), (m3, .inl (cI, 160, .inl d3)), (m5, .inl (cZ, 160, .inl d5))] H := hP
        have hD2 : va_D A [(mA, .inr (8, .int (nI nr) :: .int (nI np) :: .ref m2 :: .ref m3 :: .ref m4 :: .ref m5 :: .ref m6 :: .ref m7 :: .ref m8 :: .int q9 :: .int q10 :: .int q11 :: .int ((nI dg) - 1) :: .int q13 :: .int q14 :: .int q15 :: .int q16 :: .int q17 :: .int q18 :: .int q19 :: .int q20 :: .ref m21 :: .ref m22 :: .ref m23 :: .ref m24 :: .int (nI nb) :: .int (nI ln) :: .int (nI po) :: .int q28 :: .int (nI tk) :: .ref m30 :: .ref m31 :: .int (nI we) :: .int q33 :: [])), (m3, .inl (cI, 160, .inl d3)), (m5, .inl (cZ, 160, .inl d5))] := hD
        have hl2 : lv_has ls 6 [(4, .int (nI (v + 1))), (3, .int (nI (dg + u))), (2, .int (F_X8_next_L22 q9 nr np dg d3 d5 u v sv3).2), (1, .int (F_X8_next_L22 q9 nr np dg d3 d5 u v sv3).1), (0, .ref mA)] := by rw [e_step]; exact lv_sub hl [0, 2, 3, 4, 5] rfl
        subst hs_v
        exact ih_v (v + 1) (by omega) (by omega) _ _ _ hP2 hD2 hS hl2
      · refine lv_iload_n hx hb dX8_next_65 rfl (lv_at hl 4 rfl) ?_
        refine lv_iconst (v := (-1)) hx hb dX8_next_66 (by decide) ?_
        refine lv_icmp_eq (tgt := 79) hx hb dX8_next_67 (by decide) (fun c_6 => ?_) (fun c_6 => ?_)
        · refine lv_bipush (v := 8) hx hb dX8_next_79 (by decide) ?_
          refine lv_iload_n hx hb dX8_next_81 rfl (lv_at hl 2 rfl) ?_
          refine lv_imul hx hb dX8_next_82 ?_
          refine lv_iload hx hb dX8_next_83 (lv_at hl 1 rfl) ?_
          refine lv_iadd hx hb dX8_next_85 ?_
          refine lv_istore_n (lv' := [(1, .int ((8 * (nI (dg + u))) + (nI v))), (5, .int ((F_X8_end1 q9 nr np d3 d5 (dg + u) v) - (F_X8_end0 q9 nr np d3 d5 (dg + u) v))), (4, .int (nI v)), (3, .int (nI (dg + u))), (2, .int sv3.2), (0, .ref mA)]) hx hb dX8_next_86 rfl hl (by decide) rfl (fun ls hl => ?_)
          refine lv_iload hx hb dX8_next_87 (lv_at hl 1 rfl) ?_
          refine lv_istore_n (lv' := [(2, .int ((F_X8_end1 q9 nr np d3 d5 (dg + u) v) - (F_X8_end0 q9 nr np d3 d5 (dg + u) v))), (1, .int ((8 * (nI (dg + u))) + (nI v))), (5, .int ((F_X8_end1 q9 nr np d3 d5 (dg + u) v) - (F_X8_end0 q9 nr np d3 d5 (dg + u) v))), (4, .int (nI v)), (3, .int (nI (dg + u))), (0, .ref mA)]) hx hb dX8_next_89 rfl hl (by decide) rfl (fun ls hl => ?_)
          refine lv_iinc (v := nI (v + 1)) (lv' := [(4, .int (nI (v + 1))), (2, .int ((F_X8_end1 q9 nr np d3 d5 (dg + u) v) - (F_X8_end0 q9 nr np d3 d5 (dg + u) v))), (1, .int ((8 * (nI (dg + u))) + (nI v))), (5, .int ((F_X8_end1 q9 nr np d3 d5 (dg + u) v) - (F_X8_end0 q9 nr np d3 d5 (dg + u) v))), (3, .int (nI (dg + u))), (0, .ref mA)]) hx hb dX8_next_90 hl (k := 3) rfl (nI_1 _) (by decide) rfl (fun ls hl => ?_)
          refine lv_goto (tgt := 22) hx hb dX8_next_93 (by decide) ?_
          have e_step : F_X8_next_L22 q9 nr np dg d3 d5 u v sv3 = ((8 * (nI (dg + u))) + (nI v), (F_X8_end1 q9 nr np d3 d5 (dg + u) v) - (F_X8_end0 q9 nr np d3 d5 (dg + u) v)) := by rw [F_X8_next_L22, if_pos c_5, if_pos c_6]
          have hP2 : va_P D vwCl [(mA, .inr (8, .int (nI nr) :: .int (nI np) :: .ref m2 :: .ref m3 :: .ref m4 :: .ref m5 :: .ref m6 :: .ref m7 :: .ref m8 :: .int q9 :: .int q10 :: .int q11 :: .int ((nI dg) - 1) :: .int q13 :: .int q14 :: .int q15 :: .int q16 :: .int q17 :: .int q18 :: .int q19 :: .int q20 :: .ref m21 :: .ref m22 :: .ref m23 :: .ref m24 :: .int (nI nb) :: .int (nI ln) :: .int (nI po) :: .int q28 :: .int (nI tk) :: .ref m30 :: .ref m31 :: .int (nI we) :: .int q33 :: [])), (m3, .inl (cI, 160, .inl d3)), (m5, .inl (cZ, 160, .inl d5))] H := hP
          have hD2 : va_D A [(mA, .inr (8, .int (nI nr) :: .int (nI np) :: .ref m2 :: .ref m3 :: .ref m4 :: .ref m5 :: .ref m6 :: .ref m7 :: .ref m8 :: .int q9 :: .int q10 :: .int q11 :: .int ((nI dg) - 1) :: .int q13 :: .int q14 :: .int q15 :: .int q16 :: .int q17 :: .int q18 :: .int q19 :: .int q20 :: .ref m21 :: .ref m22 :: .ref m23 :: .ref m24 :: .int (nI nb) :: .int (nI ln) :: .int (nI po) :: .int q28 :: .int (nI tk) :: .ref m30 :: .ref m31 :: .int (nI we) :: .int q33 :: [])), (m3, .inl (cI, 160, .inl d3)), (m5, .inl (cZ, 160, .inl d5))] := hD
          have hl2 : lv_has ls 6 [(4, .int (nI (v + 1))), (3, .int (nI (dg + u))), (2, .int (F_X8_next_L22 q9 nr np dg d3 d5 u v sv3).2), (1, .int (F_X8_next_L22 q9 nr np dg d3 d5 u v sv3).1), (0, .ref mA)] := by rw [e_step]; exact lv_sub hl [0, 4, 1, 2, 5] rfl
          subst hs_v
          exact ih_v (v + 1) (by omega) (by omega) _ _ _ hP2 hD2 hS hl2
        · refine lv_iload hx hb dX8_next_70 (lv_at hl 0 rfl) ?_
          refine lv_iload_n hx hb dX8_next_72 rfl (lv_at hl 3 rfl) ?_
          refine lv_icmp_gt (tgt := 79) hx hb dX8_next_73 (by decide) (fun c_7 => ?_) (fun c_7 => ?_)
          · refine lv_bipush (v := 8) hx hb dX8_next_79 (by decide) ?_
            refine lv_iload_n hx hb dX8_next_81 rfl (lv_at hl 2 rfl) ?_
            refine lv_imul hx hb dX8_next_82 ?_
            refine lv_iload hx hb dX8_next_83 (lv_at hl 1 rfl) ?_
            refine lv_iadd hx hb dX8_next_85 ?_
            refine lv_istore_n (lv' := [(1, .int ((8 * (nI (dg + u))) + (nI v))), (5, .int ((F_X8_end1 q9 nr np d3 d5 (dg + u) v) - (F_X8_end0 q9 nr np d3 d5 (dg + u) v))), (4, .int (nI v)), (3, .int (nI (dg + u))), (2, .int sv3.2), (0, .ref mA)]) hx hb dX8_next_86 rfl hl (by decide) rfl (fun ls hl => ?_)
            refine lv_iload hx hb dX8_next_87 (lv_at hl 1 rfl) ?_
            refine lv_istore_n (lv' := [(2, .int ((F_X8_end1 q9 nr np d3 d5 (dg + u) v) - (F_X8_end0 q9 nr np d3 d5 (dg + u) v))), (1, .int ((8 * (nI (dg + u))) + (nI v))), (5, .int ((F_X8_end1 q9 nr np d3 d5 (dg + u) v) - (F_X8_end0 q9 nr np d3 d5 (dg + u) v))), (4, .int (nI v)), (3, .int (nI (dg + u))), (0, .ref mA)]) hx hb dX8_next_89 rfl hl (by decide) rfl (fun ls hl => ?_)
            refine lv_iinc (v := nI (v + 1)) (lv' := [(4, .int (nI (v + 1))), (2, .int ((F_X8_end1 q9 nr np d3 d5 (dg + u) v) - (F_X8_end0 q9 nr np d3 d5 (dg + u) v))), (1, .int ((8 * (nI (dg + u))) + (nI v))), (5, .int ((F_X8_end1 q9 nr np d3 d5 (dg + u) v) - (F_X8_end0 q9 nr np d3 d5 (dg + u) v))), (3, .int (nI (dg + u))), (0, .ref mA)]) hx hb dX8_next_90 hl (k := 3) rfl (nI_1 _) (by decide) rfl (fun ls hl => ?_)
            refine lv_goto (tgt := 22) hx hb dX8_next_93 (by decide) ?_
            have e_step : F_X8_next_L22 q9 nr np dg d3 d5 u v sv3 = ((8 * (nI (dg + u))) + (nI v), (F_X8_end1 q9 nr np d3 d5 (dg + u) v) - (F_X8_end0 q9 nr np d3 d5 (dg + u) v)) := by rw [F_X8_next_L22, if_pos c_5, if_neg c_6, if_pos c_7]
            have hP2 : va_P D vwCl [(mA, .inr (8, .int (nI nr) :: .int (nI np) :: .ref m2 :: .ref m3 :: .ref m4 :: .ref m5 :: .ref m6 :: .ref m7 :: .ref m8 :: .int q9 :: .int q10 :: .int q11 :: .int ((nI dg) - 1) :: .int q13 :: .int q14 :: .int q15 :: .int q16 :: .int q17 :: .int q18 :: .int q19 :: .int q20 :: .ref m21 :: .ref m22 :: .ref m23 :: .ref m24 :: .int (nI nb) :: .int (nI ln) :: .int (nI po) :: .int q28 :: .int (nI tk) :: .ref m30 :: .ref m31 :: .int (nI we) :: .int q33 :: [])), (m3, .inl (cI, 160, .inl d3)), (m5, .inl (cZ, 160, .inl d5))] H := hP
            have hD2 : va_D A [(mA, .inr (8, .int (nI nr) :: .int (nI np) :: .ref m2 :: .ref m3 :: .ref m4 :: .ref m5 :: .ref m6 :: .ref m7 :: .ref m8 :: .int q9 :: .int q10 :: .int q11 :: .int ((nI dg) - 1) :: .int q13 :: .int q14 :: .int q15 :: .int q16 :: .int q17 :: .int q18 :: .int q19 :: .int q20 :: .ref m21 :: .ref m22 :: .ref m23 :: .ref m24 :: .int (nI nb) :: .int (nI ln) :: .int (nI po) :: .int q28 :: .int (nI tk) :: .ref m30 :: .ref m31 :: .int (nI we) :: .int q33 :: [])), (m3, .inl (cI, 160, .inl d3)), (m5, .inl (cZ, 160, .inl d5))] := hD
            have hl2 : lv_has ls 6 [(4, .int (nI (v + 1))), (3, .int (nI (dg + u))), (2, .int (F_X8_next_L22 q9 nr np dg d3 d5 u v sv3).2), (1, .int (F_X8_next_L22 q9 nr np dg d3 d5 u v sv3).1), (0, .ref mA)] := by rw [e_step]; exact lv_sub hl [0, 4, 1, 2, 5] rfl
            subst hs_v
            exact ih_v (v + 1) (by omega) (by omega) _ _ _ hP2 hD2 hS hl2
          · refine lv_goto (tgt := 90) hx hb dX8_next_76 (by decide) ?_
            refine lv_iinc (v := nI (v + 1)) (lv' := [(4, .int (nI (v + 1))), (5, .int ((F_X8_end1 q9 nr np d3 d5 (dg + u) v) - (F_X8_end0 q9 nr np d3 d5 (dg + u) v))), (3, .int (nI (dg + u))), (2, .int sv3.2), (1, .int sv3.1), (0, .ref mA)]) hx hb dX8_next_90 hl (k := 1) rfl (nI_1 _) (by decide) rfl (fun ls hl => ?_)
            refine lv_goto (tgt := 22) hx hb dX8_next_93 (by decide) ?_
            have e_step : F_X8_next_L22 q9 nr np dg d3 d5 u v sv3 = (sv3.1, sv3.2) := by rw [F_X8_next_L22, if_pos c_5, if_neg c_6, if_neg c_7]
            have hP2 : va_P D vwCl [(mA, .inr (8, .int (nI nr) :: .int (nI np) :: .ref m2 :: .ref m3 :: .ref m4 :: .ref m5 :: .ref m6 :: .ref m7 :: .ref m8 :: .int q9 :: .int q10 :: .int q11 :: .int ((nI dg) - 1) :: .int q13 :: .int q14 :: .int q15 :: .int q16 :: .int q17 :: .int q18 :: .int q19 :: .int q20 :: .ref m21 :: .ref m22 :: .ref m23 :: .ref m24 :: .int (nI nb) :: .int (nI ln) :: .int (nI po) :: .int q28 :: .int (nI tk) :: .ref m30 :: .ref m31 :: .int (nI we) :: .int q33 :: [])), (m3, .inl (cI, 160, .inl d3)), (m5, .inl (cZ, 160, .inl d5))] H := hP
            have hD2 : va_D A [(mA, .inr (8, .int (nI nr) :: .int (nI np) :: .ref m2 :: .ref m3 :: .ref m4 :: .ref m5 :: .ref m6 :: .ref m7 :: .ref m8 :: .int q9 :: .int q10 :: .int q11 :: .int ((nI dg) - 1) :: .int q13 :: .int q14 :: .int q15 :: .int q16 :: .int q17 :: .int q18 :: .int q19 :: .int q20 :: .ref m21 :: .ref m22 :: .ref m23 :: .ref m24 :: .int (nI nb) :: .int (nI ln) :: .int (nI po) :: .int q28 :: .int (nI tk) :: .ref m30 :: .ref m31 :: .int (nI we) :: .int q33 :: [])), (m3, .inl (cI, 160, .inl d3)), (m5, .inl (cZ, 160, .inl d5))] := hD
            have hl2 : lv_has ls 6 [(4, .int (nI (v + 1))), (3, .int (nI (dg + u))), (2, .int (F_X8_next_L22 q9 nr np dg d3 d5 u v sv3).2), (1, .int (F_X8_next_L22 q9 nr np dg d3 d5 u v sv3).1), (0, .ref mA)] := by rw [e_step]; exact lv_sub hl [0, 2, 3, 4, 5] rfl
            subst hs_v
            exact ih_v (v + 1) (by omega) (by omega) _ _ _ hP2 hD2 hS hl2

def F_X8_count_L155 (q9 : Int32) (nr : Nat) (np : Nat) (d3 : Nat → Int32) (d5 : Nat → Int32) (u : Nat) (v : Nat) (s_ : Int32) : Int32 :=
    s_ + (F_X8_one (F_X8_quarrels q9 nr np d3 d5 u v))
def F_X8_count_L115 (d7 : Nat → Int32) (t : Nat) (s_ : Int32) : Int32 :=
    s_ + (F_X8_one (d7 t))
def F_X8_count_L144 (q9 : Int32) (nr : Nat) (np : Nat) (d3 : Nat → Int32) (d5 : Nat → Int32) (u : Nat) (s_ : Int32) : Int32 :=
    (lp (F_X8_count_L155 q9 nr np d3 d5 u) np s_)
def F_X8_count (q9 : Int32) (q11 : Int32) (q13 : Int32) (q14 : Int32) (q15 : Int32) (q16 : Int32) (q18 : Int32) (q19 : Int32) (q20 : Int32) (nr : Nat) (np : Nat) (nb : Nat) (tk : Nat) (dg : Nat) (d3 : Nat → Int32) (d5 : Nat → Int32) (d7 : Nat → Int32) (what : Int32) : Int32 :=
  if what = 0 then q11 else
  if what = 1 then (nI dg) - 1 else
  if what = 2 then q13 else
  if what = 3 then q14 else
  if what = 4 then q15 else
  if what = 5 then q16 else
  if what = 6 then q18 else
  if what = 7 then q19 else
  if what = 8 then q20 else
  if what = 9 then (lp (F_X8_count_L115 d7) 160 0) else
  if what = 10 then (lp (F_X8_count_L144 q9 nr np d3 d5) nr 0) else
  if what = 11 then nI tk else
  if what = 12 then nI nb else
  (-1)
set_option maxHeartbeats 4000000 in
set_option maxRecDepth 100000 in
theorem c_X8_count (l : Launch) {D : va_G} {cI cZ cB : ClassId} {au : Nat} {kA kV : Nat → Nat} {z0 : Nat} (sz : Nat) (mA : Nat) (m2 : Nat) (m3 : Nat) (m4 : Nat) (m5 : Nat) (m6 : Nat) (m7 : Nat) (m8 : Nat) (m21 : Nat) (m22 : Nat) (m23 : Nat) (m24 : Nat) (m30 : Nat) (m31 : Nat) (q9 : Int32) (q10 : Int32) (q11 : Int32) (q13 : Int32) (q14 : Int32) (q15 : Int32) (q16 : Int32) (q17 : Int32) (q18 : Int32) (q19 : Int32) (q20 : Int32) (q28 : Int32) (q33 : Int32) (nr : Nat) (np : Nat) (nb : Nat) (ln : Nat) (po : Nat) (tk : Nat) (we : Nat) (dg : Nat) (d3 : Nat → Int32) (d5 : Nat → Int32) (d7 : Nat → Int32) (what : Int32) (h20 : nr ≤ 20) (h2r : 2 ≤ nr) (h2p : 2 ≤ np) (h8 : np ≤ 8) (hdg : dg ≤ nr) : Met l yX8_count wsX8_count ({ frames := 3, cells := 0, slots := 0, locals := 71 }) (va_Pc [.ref mA, .int what] (PRE D cI cZ cB au kA kV z0 sz [(mA, .inr (8, .int (nI nr) :: .int (nI np) :: .ref m2 :: .ref m3 :: .ref m4 :: .ref m5 :: .ref m6 :: .ref m7 :: .ref m8 :: .int q9 :: .int q10 :: .int q11 :: .int ((nI dg) - 1) :: .int q13 :: .int q14 :: .int q15 :: .int q16 :: .int q17 :: .int q18 :: .int q19 :: .int q20 :: .ref m21 :: .ref m22 :: .ref m23 :: .ref m24 :: .int (nI nb) :: .int (nI ln) :: .int (nI po) :: .int q28 :: .int (nI tk) :: .ref m30 :: .ref m31 :: .int (nI we) :: .int q33 :: [])), (m3, .inl (cI, 160, .inl d3)), (m5, .inl (cZ, 160, .inl d5)), (m7, .inl (cZ, 160, .inl d7))])) (QI D [(mA, .inr (8, .int (nI nr) :: .int (nI np) :: .ref m2 :: .ref m3 :: .ref m4 :: .ref m5 :: .ref m6 :: .ref m7 :: .ref m8 :: .int q9 :: .int q10 :: .int q11 :: .int ((nI dg) - 1) :: .int q13 :: .int q14 :: .int q15 :: .int q16 :: .int q17 :: .int q18 :: .int q19 :: .int q20 :: .ref m21 :: .ref m22 :: .ref m23 :: .ref m24 :: .int (nI nb) :: .int (nI ln) :: .int (nI po) :: .int q28 :: .int (nI tk) :: .ref m30 :: .ref m31 :: .int (nI we) :: .int q33 :: [])), (m3, .inl (cI, 160, .inl d3)), (m5, .inl (cZ, 160, .inl d5)), (m7, .inl (cZ, 160, .inl d7))] sz (F_X8_count q9 q11 q13 q14 q15 q16 q18 q19 q20 nr np nb tk dg d3 d5 d7 what) [(mA, .inr (8, .int (nI nr) :: .int (nI np) :: .ref m2 :: .ref m3 :: .ref m4 :: .ref m5 :: .ref m6 :: .ref m7 :: .ref m8 :: .int q9 :: .int q10 :: .int q11 :: .int ((nI dg) - 1) :: .int q13 :: .int q14 :: .int q15 :: .int q16 :: .int q17 :: .int q18 :: .int q19 :: .int q20 :: .ref m21 :: .ref m22 :: .ref m23 :: .ref m24 :: .int (nI nb) :: .int (nI ln) :: .int (nI po) :: .int q28 :: .int (nI tk) :: .ref m30 :: .ref m31 :: .int (nI we) :: .int q33 :: [])), (m3, .inl (cI, 160, .inl d3)), (m5, .inl (cZ, 160, .inl d5)), (m7, .inl (cZ, 160, .inl d7))]) 0 0 (va_A [(mA, .inr (8, .int (nI nr) :: .int (nI np) :: .ref m2 :: .ref m3 :: .ref m4 :: .ref m5 :: .ref m6 :: .ref m7 :: .ref m8 :: .int q9 :: .int q10 :: .int q11 :: .int ((nI dg) - 1) :: .int q13 :: .int q14 :: .int q15 :: .int q16 :: .int q17 :: .int q18 :: .int q19 :: .int q20 :: .ref m21 :: .ref m22 :: .ref m23 :: .ref m24 :: .int (nI nb) :: .int (nI ln) :: .int (nI po) :: .int q28 :: .int (nI tk) :: .ref m30 :: .ref m31 :: .int (nI we) :: .int q33 :: [])), (m3, .inl (cI, 160, .inl d3)), (m5, .inl (cZ, 160, .inl d5)), (m7, .inl (cZ, 160, .inl d7))] sz) := by
  refine Met.ofW (cc := cX8_count) (maxL := 5) (ret := (some .int)) (by decide) rfl ?_
  intro p e s m args below meth c s₁ B hml hv
  obtain ⟨rfl, hsz, hz, hP, hD0, hB⟩ := hv
  have hx := B.exec
  have hb := B.bytes
  have hr := B.returns
  have hts := atoms_spec (ws := wsX8_count) B.pre
  have hown : s.vm.findClass RX8 = some m.cls := findClass_of_methodNamed B.named
  have hlocks := B.notSynchronized
  subst hsz
  have hD := hD0.self (sz := s.heap.size)
  have hA0 := va_A0 hD0 hz
  unfold QI
  generalize hAe : va_A [(mA, .inr (8, .int (nI nr) :: .int (nI np) :: .ref m2 :: .ref m3 :: .ref m4 :: .ref m5 :: .ref m6 :: .ref m7 :: .ref m8 :: .int q9 :: .int q10 :: .int q11 :: .int ((nI dg) - 1) :: .int q13 :: .int q14 :: .int q15 :: .int q16 :: .int q17 :: .int q18 :: .int q19 :: .int q20 :: .ref m21 :: .ref m22 :: .ref m23 :: .ref m24 :: .int (nI nb) :: .int (nI ln) :: .int (nI po) :: .int q28 :: .int (nI tk) :: .ref m30 :: .ref m31 :: .int (nI we) :: .int q33 :: [])), (m3, .inl (cI, 160, .inl d3)), (m5, .inl (cZ, 160, .inl d5)), (m7, .inl (cZ, 160, .inl d7))] s.heap.size = A at hD hA0 ⊢
  have hA : ∀ q : Nat, s.heap.size ≤ q → A q := fun q h => by rw [← hAe]; exact Or.inr h
  have hS : va_S A s.heap s.heap [] := va_S.rf
  have hiX8 : ∀ w ∈ wsX80, w ∈ wsX8_count := fun w h => List.mem_cons_of_mem _ (List.mem_append_right _ h)
  have hl := lv_entry ([.ref mA, .int what]) (n := 5) (Nat.le_of_ble_eq_true rfl)
  rw [lg_entry_eq]
  generalize (lg_sl ([.ref mA, .int what]) ++ List.replicate (5 - (lg_sl ([.ref mA, .int what])).length) Slot.unset).toArray = ls at hl ⊢
  have hl : lv_has ls 5 [(0, .ref mA), (1, .int what)] := hl
  refine lv_iconst (v := 0) hx hb dX8_count_0 (by decide) ?_
  refine lv_istore_n (lv' := [(2, .int 0), (0, .ref mA), (1, .int what)]) hx hb dX8_count_1 rfl hl (by decide) rfl (fun ls hl => ?_)
  refine lv_iload_n hx hb dX8_count_2 rfl (lv_at hl 2 rfl) ?_
  by_cases c_1 : what = 0
  · refine lv_tableIn (tgt := 68) hx hb dX8_count_3 (by rw [c_1]; decide) (by rw [c_1]; decide) (by rw [c_1] <;> rfl) (by decide) ?_
    refine lv_aload_n hx hb dX8_count_68 rfl (lv_at hl 1 rfl) ?_
    refine va_get (D := D) (ci := 8) (v := .int q11) (C := RX8) (T := TX8) (N := 34) hx hb hts hiX8 hown hB.1 hP 0 rfl rfl 11 (by decide) (hts _ (List.mem_of_getElem? (i := 1) rfl)) (fun _ h9 => h9) rfl dX8_count_69 ?_
    have er : F_X8_count q9 q11 q13 q14 q15 q16 q18 q19 q20 nr np nb tk dg d3 d5 d7 what = q11 := by rw [F_X8_count, if_pos c_1]
    exact W.iret hx hb hr (fun t ht hW => ⟨⟨_, (), rfl, er.symm, by rw [ht]; exact hP, hD⟩, hS.F ht⟩) hS.2.2 dX8_count_72
  by_cases c_2 : what = 1
  · refine lv_tableIn (tgt := 73) hx hb dX8_count_3 (by rw [c_2]; decide) (by rw [c_2]; decide) (by rw [c_2] <;> rfl) (by decide) ?_
    refine lv_aload_n hx hb dX8_count_73 rfl (lv_at hl 1 rfl) ?_
    refine va_get (D := D) (ci := 8) (v := .int ((nI dg) - 1)) (C := RX8) (T := TX8) (N := 34) hx hb hts hiX8 hown hB.1 hP 0 rfl rfl 12 (by decide) (hts _ (List.mem_of_getElem? (i := 2) rfl)) (fun _ h9 => h9) rfl dX8_count_74 ?_
    have er : F_X8_count q9 q11 q13 q14 q15 q16 q18 q19 q20 nr np nb tk dg d3 d5 d7 what = (nI dg) - 1 := by rw [F_X8_count, if_neg c_1, if_pos c_2]
    exact W.iret hx hb hr (fun t ht hW => ⟨⟨_, (), rfl, er.symm, by rw [ht]; exact hP, hD⟩, hS.F ht⟩) hS.2.2 dX8_count_77
  by_cases c_3 : what = 2
  · refine lv_tableIn (tgt := 78) hx hb dX8_count_3 (by rw [c_3]; decide) (by rw [c_3]; decide) (by rw [c_3] <;> rfl) (by decide) ?_
    refine lv_aload_n hx hb dX8_count_78 rfl (lv_at hl 1 rfl) ?_
    refine va_get (D := D) (ci := 8) (v := .int q13) (C := RX8) (T := TX8) (N := 34) hx hb hts hiX8 hown hB.1 hP 0 rfl rfl 13 (by decide) (hts _ (List.mem_of_getElem? (i := 3) rfl)) (fun _ h9 => h9) rfl dX8_count_79 ?_
    have er : F_X8_count q9 q11 q13 q14 q15 q16 q18 q19 q20 nr np nb tk dg d3 d5 d7 what = q13 := by rw [F_X8_count, if_neg c_1, if_neg c_2, if_pos c_3]
    exact W.iret hx hb hr (fun t ht hW => ⟨⟨_, (), rfl, er.symm, by rw [ht]; exact hP, hD⟩, hS.F ht⟩) hS.2.2 dX8_count_82
  by_cases c_4 : what = 3
  · refine lv_tableIn (tgt := 83) hx hb dX8_count_3 (by rw [c_4]; decide) (by rw [c_4]; decide) (by rw [c_4] <;> rfl) (by decide) ?_
    refine lv_aload_n hx hb dX8_count_83 rfl (lv_at hl 1 rfl) ?_
    refine va_get (D := D) (ci := 8) (v := .int q14) (C := RX8) (T := TX8) (N := 34) hx hb hts hiX8 hown hB.1 hP 0 rfl rfl 14 (by decide) (hts _ (List.mem_of_getElem? (i := 4) rfl)) (fun _ h9 => h9) rfl dX8_count_84 ?_
    have er : F_X8_count q9 q11 q13 q14 q15 q16 q18 q19 q20 nr np nb tk dg d3 d5 d7 what = q14 := by rw [F_X8_count, if_neg c_1, if_neg c_2, if_neg c_3, if_pos c_4]
    exact W.iret hx hb hr (fun t ht hW => ⟨⟨_, (), rfl, er.symm, by rw [ht]; exact hP, hD⟩, hS.F ht⟩) hS.2.2 dX8_count_87
  by_cases c_5 : what = 4
  · refine lv_tableIn (tgt := 88) hx hb dX8_count_3 (by rw [c_5]; decide) (by rw [c_5]; decide) (by rw [c_5] <;> rfl) (by decide) ?_
    refine lv_aload_n hx hb dX8_count_88 rfl (lv_at hl 1 rfl) ?_
    refine va_get (D := D) (ci := 8) (v := .int q15) (C := RX8) (T := TX8) (N := 34) hx hb hts hiX8 hown hB.1 hP 0 rfl rfl 15 (by decide) (hts _ (List.mem_of_getElem? (i := 5) rfl)) (fun _ h9 => h9) rfl dX8_count_89 ?_
    have er : F_X8_count q9 q11 q13 q14 q15 q16 q18 q19 q20 nr np nb tk dg d3 d5 d7 what = q15 := by rw [F_X8_count, if_neg c_1, if_neg c_2, if_neg c_3, if_neg c_4, if_pos c_5]
    exact W.iret hx hb hr (fun t ht hW => ⟨⟨_, (), rfl, er.symm, by rw [ht]; exact hP, hD⟩, hS.F ht⟩) hS.2.2 dX8_count_92
  by_cases c_6 : what = 5
  · refine lv_tableIn (tgt := 93) hx hb dX8_count_3 (by rw [c_6]; decide) (by rw [c_6]; decide) (by rw [c_6] <;> rfl) (by decide) ?_
    refine lv_aload_n hx hb dX8_count_93 rfl (lv_at hl 1 rfl) ?_
    refine va_get (D := D) (ci := 8) (v := .int q16) (C := RX8) (T := TX8) (N := 34) hx hb hts hiX8 hown hB.1 hP 0 rfl rfl 16 (by decide) (hts _ (List.mem_of_getElem? (i := 6) rfl)) (fun _ h9 => h9) rfl dX8_count_94 ?_
    have er : F_X8_count q9 q11 q13 q14 q15 q16 q18 q19 q20 nr np nb tk dg d3 d5 d7 what = q16 := by rw [F_X8_count, if_neg c_1, if_neg c_2, if_neg c_3, if_neg c_4, if_neg c_5, if_pos c_6]
    exact W.iret hx hb hr (fun t ht hW => ⟨⟨_, (), rfl, er.symm, by rw [ht]; exact hP, hD⟩, hS.F ht⟩) hS.2.2 dX8_count_97
  by_cases c_7 : what = 6
  · refine lv_tableIn (tgt := 98) hx hb dX8_count_3 (by rw [c_7]; decide) (by rw [c_7]; decide) (by rw [c_7] <;> rfl) (by decide) ?_
    refine lv_aload_n hx hb dX8_count_98 rfl (lv_at hl 1 rfl) ?_
    refine va_get (D := D) (ci := 8) (v := .int q18) (C := RX8) (T := TX8) (N := 34) hx hb hts hiX8 hown hB.1 hP 0 rfl rfl 18 (by decide) (hts _ (List.mem_of_getElem? (i := 7) rfl)) (fun _ h9 => h9) rfl dX8_count_99 ?_
    have er : F_X8_count q9 q11 q13 q14 q15 q16 q18 q19 q20 nr np nb tk dg d3 d5 d7 what = q18 := by rw [F_X8_count, if_neg c_1, if_neg c_2, if_neg c_3, if_neg c_4, if_neg c_5, if_neg c_6, if_pos c_7]
    exact W.iret hx hb hr (fun t ht hW => ⟨⟨_, (), rfl, er.symm, by rw [ht]; exact hP, hD⟩, hS.F ht⟩) hS.2.2 dX8_count_102
  by_cases c_8 : what = 7
  · refine lv_tableIn (tgt := 103) hx hb dX8_count_3 (by rw [c_8]; decide) (by rw [c_8]; decide) (by rw [c_8] <;> rfl) (by decide) ?_
    refine lv_aload_n hx hb dX8_count_103 rfl (lv_at hl 1 rfl) ?_
    refine va_get (D := D) (ci := 8) (v := .int q19) (C := RX8) (T := TX8) (N := 34) hx hb hts hiX8 hown hB.1 hP 0 rfl rfl 19 (by decide) (hts _ (List.mem_of_getElem? (i := 8) rfl)) (fun _ h9 => h9) rfl dX8_count_104 ?_
    have er : F_X8_count q9 q11 q13 q14 q15 q16 q18 q19 q20 nr np nb tk dg d3 d5 d7 what = q19 := by rw [F_X8_count, if_neg c_1, if_neg c_2, if_neg c_3, if_neg c_4, if_neg c_5, if_neg c_6, if_neg c_7, if_pos c_8]
    exact W.iret hx hb hr (fun t ht hW => ⟨⟨_, (), rfl, er.symm, by rw [ht]; exact hP, hD⟩, hS.F ht⟩) hS.2.2 dX8_count_107
  by_cases c_9 : what = 8
  · refine lv_tableIn (tgt := 108) hx hb dX8_count_3 (by rw [c_9]; decide) (by rw [c_9]; decide) (by rw [c_9] <;> rfl) (by decide) ?_
    refine lv_aload_n hx hb dX8_count_108 rfl (lv_at hl 1 rfl) ?_
    refine va_get (D := D) (ci := 8) (v := .int q20) (C := RX8) (T := TX8) (N := 34) hx hb hts hiX8 hown hB.1 hP 0 rfl rfl 20 (by decide) (hts _ (List.mem_of_getElem? (i := 9) rfl)) (fun _ h9 => h9) rfl dX8_count_109 ?_
    have er : F_X8_count q9 q11 q13 q14 q15 q16 q18 q19 q20 nr np nb tk dg d3 d5 d7 what = q20 := by rw [F_X8_count, if_neg c_1, if_neg c_2, if_neg c_3, if_neg c_4, if_neg c_5, if_neg c_6, if_neg c_7, if_neg c_8, if_pos c_9]
    exact W.iret hx hb hr (fun t ht hW => ⟨⟨_, (), rfl, er.symm, by rw [ht]; exact hP, hD⟩, hS.F ht⟩) hS.2.2 dX8_count_112
  by_cases c_10 : what = 9
  · refine lv_tableIn (tgt := 113) hx hb dX8_count_3 (by rw [c_10]; decide) (by rw [c_10]; decide) (by rw [c_10] <;> rfl) (by decide) ?_
    refine lv_iconst (v := 0) hx hb dX8_count_113 (by decide) ?_
    refine lv_istore_n (lv' := [(3, .int 0), (2, .int 0), (0, .ref mA), (1, .int what)]) hx hb dX8_count_114 rfl hl (by decide) rfl (fun ls hl => ?_)
    refine lpM (σ := Nat) (fun t => t ≤ 160) (fun t => 160 - t) (fun t => [(mA, .inr (8, .int (nI nr) :: .int (nI np) :: .ref m2 :: .ref m3 :: .ref m4 :: .ref m5 :: .ref m6 :: .ref m7 :: .ref m8 :: .int q9 :: .int q10 :: .int q11 :: .int ((nI dg) - 1) :: .int q13 :: .int q14 :: .int q15 :: .int q16 :: .int q17 :: .int q18 :: .int q19 :: .int q20 :: .ref m21 :: .ref m22 :: .ref m23 :: .ref m24 :: .int (nI nb) :: .int (nI ln) :: .int (nI po) :: .int q28 :: .int (nI tk) :: .ref m30 :: .ref m31 :: .int (nI we) :: .int q33 :: [])), (m3, .inl (cI, 160, .inl d3)), (m5, .inl (cZ, 160, .inl d5)), (m7, .inl (cZ, 160, .inl d7))]) (fun t => [(3, .int (nI t)), (2, .int (lp (F_X8_count_L115 d7) t 0)), (0, .ref mA), (1, .int what)]) 0 (Nat.zero_le _) hP hD hS (lv_sub hl [0, 1, 2, 3] rfl) ?_
    intro t h_t ih_t H locs ls hP hD hS hl
    have hP : va_P D vwCl [(mA, .inr (8, .int (nI nr) :: .int (nI np) :: .ref m2 :: .ref m3 :: .ref m4 :: .ref m5 :: .ref m6 :: .ref m7 :: .ref m8 :: .int q9 :: .int q10 :: .int q11 :: .int ((nI dg) - 1) :: .int q13 :: .int q14 :: .int q15 :: .int q16 :: .int q17 :: .int q18 :: .int q19 :: .int q20 :: .ref m21 :: .ref m22 :: .ref m23 :: .ref m24 :: .int (nI nb) :: .int (nI ln) :: .int (nI po) :: .int q28 :: .int (nI tk) :: .ref m30 :: .ref m31 :: .int (nI we) :: .int q33 :: [])), (m3, .inl (cI, 160, .inl d3)), (m5, .inl (cZ, 160, .inl d5)), (m7, .inl (cZ, 160, .inl d7))] H := hP
    have hD : va_D A [(mA, .inr (8, .int (nI nr) :: .int (nI np) :: .ref m2 :: .ref m3 :: .ref m4 :: .ref m5 :: .ref m6 :: .ref m7 :: .ref m8 :: .int q9 :: .int q10 :: .int q11 :: .int ((nI dg) - 1) :: .int q13 :: .int q14 :: .int q15 :: .int q16 :: .int q17 :: .int q18 :: .int q19 :: .int q20 :: .ref m21 :: .ref m22 :: .ref m23 :: .ref m24 :: .int (nI nb) :: .int (nI ln) :: .int (nI po) :: .int q28 :: .int (nI tk) :: .ref m30 :: .ref m31 :: .int (nI we) :: .int q33 :: [])), (m3, .inl (cI, 160, .inl d3)), (m5, .inl (cZ, 160, .inl d5)), (m7, .inl (cZ, 160, .inl d7))] := hD
    have hl : lv_has ls 5 [(3, .int (nI t)), (2, .int (lp (F_X8_count_L115 d7) t 0)), (0, .ref mA), (1, .int what)] := hl
    generalize hs_t : lp (F_X8_count_L115 d7) t 0 = sv11 at hl
    refine lv_iload_n hx hb dX8_count_115 rfl (lv_at hl 0 rfl) ?_
    refine lv_sipush (v := 160) hx hb dX8_count_116 (by decide) ?_
    refine lv_icmp_ge (tgt := 140) hx hb dX8_count_119 (by decide) (fun c_12 => ?_) (fun c_12 => ?_)
    · have hx_t : 160 = t := Eq.symm (le_ex (N := 160) (by decide) h_t c_12)
      subst hx_t
      subst hs_t
      refine lv_iload_n hx hb dX8_count_140 rfl (lv_at hl 1 rfl) ?_
      have er : F_X8_count q9 q11 q13 q14 q15 q16 q18 q19 q20 nr np nb tk dg d3 d5 d7 what = (lp (F_X8_count_L115 d7) 160 0) := by rw [F_X8_count, if_neg c_1, if_neg c_2, if_neg c_3, if_neg c_4, if_neg c_5, if_neg c_6, if_neg c_7, if_neg c_8, if_neg c_9, if_pos c_10]
      exact W.iret hx hb hr (fun t ht hW => ⟨⟨_, (), rfl, er.symm, by rw [ht]; exact hP, hD⟩, hS.F ht⟩) hS.2.2 dX8_count_141
    · have hlt_t : t < 160 := le_go (N := 160) (by decide) h_t c_12
      refine lv_iload_n hx hb dX8_count_122 rfl (lv_at hl 1 rfl) ?_
      refine lv_aload_n hx hb dX8_count_123 rfl (lv_at hl 2 rfl) ?_
      refine va_get (D := D) (ci := 8) (v := .ref m7) (C := RX8) (T := TX8) (N := 34) hx hb hts hiX8 hown hB.1 hP 0 rfl rfl 7 (by decide) (hts _ (List.mem_of_getElem? (i := 10) rfl)) (fun _ h9 => h9) rfl dX8_count_124 ?_
      refine lv_iload_n hx hb dX8_count_127 rfl (lv_at hl 0 rfl) ?_
      refine ra_z hx hb hB.1 hP 3 rfl t rfl (by omega) (by decide) dX8_count_128 ?_
      refine k_i (w2 := [(mA, .inr (8, .int (nI nr) :: .int (nI np) :: .ref m2 :: .ref m3 :: .ref m4 :: .ref m5 :: .ref m6 :: .ref m7 :: .ref m8 :: .int q9 :: .int q10 :: .int q11 :: .int ((nI dg) - 1) :: .int q13 :: .int q14 :: .int q15 :: .int q16 :: .int q17 :: .int q18 :: .int q19 :: .int q20 :: .ref m21 :: .ref m22 :: .ref m23 :: .ref m24 :: .int (nI nb) :: .int (nI ln) :: .int (nI po) :: .int q28 :: .int (nI tk) :: .ref m30 :: .ref m31 :: .int (nI we) :: .int q33 :: [])), (m3, .inl (cI, 160, .inl d3)), (m5, .inl (cZ, 160, .inl d5)), (m7, .inl (cZ, 160, .inl d7))]) (va_runS (As := [.int (d7 t)]) (rest := [.int sv11]) ⟨hx, hb, hml, hown, hts⟩ (c_X8_one l _ (d7 t)) (va_cwS 1 hts gX8_count_X8_one rfl rfl rfl (by decide +kernel) ⟨Nat.le_of_ble_eq_true rfl, Nat.le_of_ble_eq_true rfl⟩) (pre_S hB hz hA0 hP hD hS [] rfl rfl) rfl rfl hl.1 rfl (lv_room (Nat.le_of_ble_eq_true rfl)) dX8_count_129 ⟨Nat.zero_le _, Nat.zero_le _⟩) hP hD hS hA [] [0, 1, 2, 3] [0, 1, 2, 3] rfl rfl rfl rfl rfl (fun H locs hP hD hS => ?_)
      refine lv_iadd hx hb dX8_count_132 ?_
      refine lv_istore_n (lv' := [(2, .int (sv11 + (F_X8_one (d7 t)))), (3, .int (nI t)), (0, .ref mA), (1, .int what)]) hx hb dX8_count_133 rfl hl (by decide) rfl (fun ls hl => ?_)
      refine lv_iinc (v := nI (t + 1)) (lv' := [(3, .int (nI (t + 1))), (2, .int (sv11 + (F_X8_one (d7 t)))), (0, .ref mA), (1, .int what)]) hx hb dX8_count_134 hl (k := 1) rfl (nI_1 _) (by decide) rfl (fun ls hl => ?_)
      refine lv_goto (tgt := 115) hx hb dX8_count_137 (by decide) ?_
      have e_step : F_X8_count_L115 d7 t sv11 = sv11 + (F_X8_one (d7 t)) := by rw [F_X8_count_L115]
      have hP2 : va_P D vwCl [(mA, .inr (8, .int (nI nr) :: .int (nI np) :: .ref m2 :: .ref m3 :: .ref m4 :: .ref m5 :: .ref m6 :: .ref m7 :: .ref m8 :: .int q9 :: .int q10 :: .int q11 :: .int ((nI dg) - 1) :: .int q13 :: .int q14 :: .int q15 :: .int q16 :: .int q17 :: .int q18 :: .int q19 :: .int q20 :: .ref m21 :: .ref m22 :: .ref m23 :: .ref m24 :: .int (nI nb) :: .int (nI ln) :: .int (nI po) :: .int q28 :: .int (nI tk) :: .ref m30 :: .ref m31 :: .int (nI we) :: .int q33 :: [])), (m3, .inl (cI, 160, .inl d3)), (m5, .inl (cZ, 160, .inl d5)), (m7, .inl (cZ, 160, .inl d7))] H := hP
      have hD2 : va_D A [(mA, .inr (8, .int (nI nr) :: .int (nI np) :: .ref m2 :: .ref m3 :: .ref m4 :: .ref m5 :: .ref m6 :: .ref m7 :: .ref m8 :: .int q9 :: .int q10 :: .int q11 :: .int ((nI dg) - 1) :: .int q13 :: .int q14 :: .int q15 :: .int q16 :: .int q17 :: .int q18 :: .int q19 :: .int q20 :: .ref m21 :: .ref m22 :: .ref m23 :: .ref m24 :: .int (nI nb) :: .int (nI ln) :: .int (nI po) :: .int q28 :: .int (nI tk) :: .ref m30 :: .ref m31 :: .int (nI we) :: .int q33 :: [])), (m3, .inl (cI, 160, .inl d3)), (m5, .inl (cZ, 160, .inl d5)), (m7, .inl (cZ, 160, .inl d7))] := hD
      have hl2 : lv_has ls 5 [(3, .int (nI (t + 1))), (2, .int (F_X8_count_L115 d7 t sv11)), (0, .ref mA), (1, .int what)] := by rw [e_step]; exact lv_sub hl [0, 1, 2, 3] rfl
      subst hs_t
      exact ih_t (t + 1) (by omega) (by omega) _ _ _ hP2 hD2 hS hl2
  by_cases c_13 : what = 10
  · refine lv_tableIn (tgt := 142) hx hb dX8_count_3 (by rw [c_13]; decide) (by rw [c_13]; decide) (by rw [c_13] <;> rfl) (by decide) ?_
    refine lv_iconst (v := 0) hx hb dX8_count_142 (by decide) ?_
    refine lv_istore_n (lv' := [(3, .int 0), (2, .int 0), (0, .ref mA), (1, .int what)]) hx hb dX8_count_143 rfl hl (by decide) rfl (fun ls hl => ?_)
    refine lpM (σ := Nat) (fun u => u ≤ nr) (fun u => nr - u) (fun u => [(mA, .inr (8, .int (nI nr) :: .int (nI np) :: .ref m2 :: .ref m3 :: .ref m4 :: .ref m5 :: .ref m6 :: .ref m7 :: .ref m8 :: .int q9 :: .int q10 :: .int q11 :: .int ((nI dg) - 1) :: .int q13 :: .int q14 :: .int q15 :: .int q16 :: .int q17 :: .int q18 :: .int q19 :: .int q20 :: .ref m21 :: .ref m22 :: .ref m23 :: .ref m24 :: .int (nI nb) :: .int (nI ln) :: .int (nI po) :: .int q28 :: .int (nI tk) :: .ref m30 :: .ref m31 :: .int (nI we) :: .int q33 :: [])), (m3, .inl (cI, 160, .inl d3)), (m5, .inl (cZ, 160, .inl d5)), (m7, .inl (cZ, 160, .inl d7))]) (fun u => [(3, .int (nI u)), (2, .int (lp (F_X8_count_L144 q9 nr np d3 d5) u 0)), (0, .ref mA), (1, .int what)]) 0 (Nat.zero_le _) hP hD hS (lv_sub hl [0, 1, 2, 3] rfl) ?_
    intro u h_u ih_u H locs ls hP hD hS hl
    have hP : va_P D vwCl [(mA, .inr (8, .int (nI nr) :: .int (nI np) :: .ref m2 :: .ref m3 :: .ref m4 :: .ref m5 :: .ref m6 :: .ref m7 :: .ref m8 :: .int q9 :: .int q10 :: .int q11 :: .int ((nI dg) - 1) :: .int q13 :: .int q14 :: .int q15 :: .int q16 :: .int q17 :: .int q18 :: .int q19 :: .int q20 :: .ref m21 :: .ref m22 :: .ref m23 :: .ref m24 :: .int (nI nb) :: .int (nI ln) :: .int (nI po) :: .int q28 :: .int (nI tk) :: .ref m30 :: .ref m31 :: .int (nI we) :: .int q33 :: [])), (m3, .inl (cI, 160, .inl d3)), (m5, .inl (cZ, 160, .inl d5)), (m7, .inl (cZ, 160, .inl d7))] H := hP
    have hD : va_D A [(mA, .inr (8, .int (nI nr) :: .int (nI np) :: .ref m2 :: .ref m3 :: .ref m4 :: .ref m5 :: .ref m6 :: .ref m7 :: .ref m8 :: .int q9 :: .int q10 :: .int q11 :: .int ((nI dg) - 1) :: .int q13 :: .int q14 :: .int q15 :: .int q16 :: .int q17 :: .int q18 :: .int q19 :: .int q20 :: .ref m21 :: .ref m22 :: .ref m23 :: .ref m24 :: .int (nI nb) :: .int (nI ln) :: .int (nI po) :: .int q28 :: .int (nI tk) :: .ref m30 :: .ref m31 :: .int (nI we) :: .int q33 :: [])), (m3, .inl (cI, 160, .inl d3)), (m5, .inl (cZ, 160, .inl d5)), (m7, .inl (cZ, 160, .inl d7))] := hD
    have hl : lv_has ls 5 [(3, .int (nI u)), (2, .int (lp (F_X8_count_L144 q9 nr np d3 d5) u 0)), (0, .ref mA), (1, .int what)] := hl
    generalize hs_u : lp (F_X8_count_L144 q9 nr np d3 d5) u 0 = sv14 at hl
    refine lv_iload_n hx hb dX8_count_144 rfl (lv_at hl 0 rfl) ?_
    refine lv_aload_n hx hb dX8_count_145 rfl (lv_at hl 2 rfl) ?_
    refine va_get (D := D) (ci := 8) (v := .int (nI nr)) (C := RX8) (T := TX8) (N := 34) hx hb hts hiX8 hown hB.1 hP 0 rfl rfl 0 (by decide) (hts _ (List.mem_of_getElem? (i := 11) rfl)) (fun _ h9 => h9) rfl dX8_count_146 ?_
    refine lv_icmp_ge (tgt := 189) hx hb dX8_count_149 (by decide) (fun c_15 => ?_) (fun c_15 => ?_)
    · have hx_u : nr = u := Eq.symm (le_ex (by omega) h_u c_15)
      subst hx_u
      subst hs_u
      refine lv_iload_n hx hb dX8_count_189 rfl (lv_at hl 1 rfl) ?_
      have er : F_X8_count q9 q11 q13 q14 q15 q16 q18 q19 q20 nr np nb tk dg d3 d5 d7 what = (lp (F_X8_count_L144 q9 nr np d3 d5) nr 0) := by rw [F_X8_count, if_neg c_1, if_neg c_2, if_neg c_3, if_neg c_4, if_neg c_5, if_neg c_6, if_neg c_7, if_neg c_8, if_neg c_9, if_neg c_10, if_pos c_13]
      exact W.iret hx hb hr (fun t ht hW => ⟨⟨_, (), rfl, er.symm, by rw [ht]; exact hP, hD⟩, hS.F ht⟩) hS.2.2 dX8_count_190
    · have hlt_u : u < nr := le_go (by omega) h_u c_15
      refine lv_iconst (v := 0) hx hb dX8_count_152 (by decide) ?_
      refine lv_istore (lv' := [(4, .int 0), (3, .int (nI u)), (2, .int sv14), (0, .ref mA), (1, .int what)]) hx hb dX8_count_153 hl (by decide) rfl (fun ls hl => ?_)
      refine lpM (σ := Nat) (fun v => v ≤ np) (fun v => np - v) (fun v => [(mA, .inr (8, .int (nI nr) :: .int (nI np) :: .ref m2 :: .ref m3 :: .ref m4 :: .ref m5 :: .ref m6 :: .ref m7 :: .ref m8 :: .int q9 :: .int q10 :: .int q11 :: .int ((nI dg) - 1) :: .int q13 :: .int q14 :: .int q15 :: .int q16 :: .int q17 :: .int q18 :: .int q19 :: .int q20 :: .ref m21 :: .ref m22 :: .ref m23 :: .ref m24 :: .int (nI nb) :: .int (nI ln) :: .int (nI po) :: .int q28 :: .int (nI tk) :: .ref m30 :: .ref m31 :: .int (nI we) :: .int q33 :: [])), (m3, .inl (cI, 160, .inl d3)), (m5, .inl (cZ, 160, .inl d5)), (m7, .inl (cZ, 160, .inl d7))]) (fun v => [(4, .int (nI v)), (3, .int (nI u)), (2, .int (lp (F_X8_count_L155 q9 nr np d3 d5 u) v sv14)), (0, .ref mA), (1, .int what)]) 0 (Nat.zero_le _) hP hD hS (lv_sub hl [0, 1, 2, 3, 4] rfl) ?_
      intro v h_v ih_v H locs ls hP hD hS hl
      have hP : va_P D vwCl [(mA, .inr (8, .int (nI nr) :: .int (nI np) :: .ref m2 :: .ref m3 :: .ref m4 :: .ref m5 :: .ref m6 :: .ref m7 :: .ref m8 :: .int q9 :: .int q10 :: .int q11 :: .int ((nI dg) - 1) :: .int q13 :: .int q14 :: .int q15 :: .int q16 :: .int q17 :: .int q18 :: .int q19 :: .int q20 :: .ref m21 :: .ref m22 :: .ref m23 :: .ref m24 :: .int (nI nb) :: .int (nI ln) :: .int (nI po) :: .int q28 :: .int (nI tk) :: .ref m30 :: .ref m31 :: .int (nI we) :: .int q33 :: [])), (m3, .inl (cI, 160, .inl d3)), (m5, .inl (cZ, 160, .inl d5)), (m7, .inl (cZ, 160, .inl d7))] H := hP
      have hD : va_D A [(mA, .inr (8, .int (nI nr) :: .int (nI np) :: .ref m2 :: .ref m3 :: .ref m4 :: .ref m5 :: .ref m6 :: .ref m7 :: .ref m8 :: .int q9 :: .int q10 :: .int q11 :: .int ((nI dg) - 1) :: .int q13 :: .int q14 :: .int q15 :: .int q16 :: .int q17 :: .int q18 :: .int q19 :: .int q20 :: .ref m21 :: .ref m22 :: .ref m23 :: .ref m24 :: .int (nI nb) :: .int (nI ln) :: .int (nI po) :: .int q28 :: .int (nI tk) :: .ref m30 :: .ref m31 :: .int (nI we) :: .int q33 :: [])), (m3, .inl (cI, 160, .inl d3)), (m5, .inl (cZ, 160, .inl d5)), (m7, .inl (cZ, 160, .inl d7))] := hD
      have hl : lv_has ls 5 [(4, .int (nI v)), (3, .int (nI u)), (2, .int (lp (F_X8_count_L155 q9 nr np d3 d5 u) v sv14)), (0, .ref mA), (1, .int what)] := hl
      generalize hs_v : lp (F_X8_count_L155 q9 nr np d3 d5 u) v sv14 = sv16 at hl
      refine lv_iload hx hb dX8_count_155 (lv_at hl 0 rfl) ?_
      refine lv_aload_n hx hb dX8_count_157 rfl (lv_at hl 3 rfl) ?_
      refine va_get (D := D) (ci := 8) (v := .int (nI np)) (C := RX8) (T := TX8) (N := 34) hx hb hts hiX8 hown hB.1 hP 0 rfl rfl 1 (by decide) (hts _ (List.mem_of_getElem? (i := 12) rfl)) (fun _ h9 => h9) rfl dX8_count_158 ?_
      refine lv_icmp_ge (tgt := 183) hx hb dX8_count_161 (by decide) (fun c_17 => ?_) (fun c_17 => ?_)
      · have hx_v : np = v := Eq.symm (le_ex (by omega) h_v c_17)
        subst hx_v
        subst hs_v
        refine lv_iinc (v := nI (u + 1)) (lv' := [(3, .int (nI (u + 1))), (4, .int (nI np)), (2, .int (lp (F_X8_count_L155 q9 nr np d3 d5 u) np sv14)), (0, .ref mA), (1, .int what)]) hx hb dX8_count_183 hl (k := 1) rfl (nI_1 _) (by decide) rfl (fun ls hl => ?_)
        refine lv_goto (tgt := 144) hx hb dX8_count_186 (by decide) ?_
        have e_step : F_X8_count_L144 q9 nr np d3 d5 u sv14 = (lp (F_X8_count_L155 q9 nr np d3 d5 u) np sv14) := by rw [F_X8_count_L144]
        have hP2 : va_P D vwCl [(mA, .inr (8, .int (nI nr) :: .int (nI np) :: .ref m2 :: .ref m3 :: .ref m4 :: .ref m5 :: .ref m6 :: .ref m7 :: .ref m8 :: .int q9 :: .int q10 :: .int q11 :: .int ((nI dg) - 1) :: .int q13 :: .int q14 :: .int q15 :: .int q16 :: .int q17 :: .int q18 :: .int q19 :: .int q20 :: .ref m21 :: .ref m22 :: .ref m23 :: .ref m24 :: .int (nI nb) :: .int (nI ln) :: .int (nI po) :: .int q28 :: .int (nI tk) :: .ref m30 :: .ref m31 :: .int (nI we) :: .int q33 :: [])), (m3, .inl (cI, 160, .inl d3)), (m5, .inl (cZ, 160, .inl d5)), (m7, .inl (cZ, 160, .inl d7))] H := hP
        have hD2 : va_D A [(mA, .inr (8, .int (nI nr) :: .int (nI np) :: .ref m2 :: .ref m3 :: .ref m4 :: .ref m5 :: .ref m6 :: .ref m7 :: .ref m8 :: .int q9 :: .int q10 :: .int q11 :: .int ((nI dg) - 1) :: .int q13 :: .int q14 :: .int q15 :: .int q16 :: .int q17 :: .int q18 :: .int q19 :: .int q20 :: .ref m21 :: .ref m22 :: .ref m23 :: .ref m24 :: .int (nI nb) :: .int (nI ln) :: .int (nI po) :: .int q28 :: .int (nI tk) :: .ref m30 :: .ref m31 :: .int (nI we) :: .int q33 :: [])), (m3, .inl (cI, 160, .inl d3)), (m5, .inl (cZ, 160, .inl d5)), (m7, .inl (cZ, 160, .inl d7))] := hD
        have hl2 : lv_has ls 5 [(3, .int (nI (u + 1))), (2, .int (F_X8_count_L144 q9 nr np d3 d5 u sv14)), (0, .ref mA), (1, .int what)] := by rw [e_step]; exact lv_sub hl [0, 2, 3, 4] rfl
        subst hs_u
        exact ih_u (u + 1) (by omega) (by omega) _ _ _ hP2 hD2 hS hl2
      · have hlt_v : v < np := le_go (by omega) h_v c_17
        refine lv_iload_n hx hb dX8_count_164 rfl (lv_at hl 2 rfl) ?_
        refine lv_aload_n hx hb dX8_count_165 rfl (lv_at hl 3 rfl) ?_
        refine lv_iload_n hx hb dX8_count_166 rfl (lv_at hl 1 rfl) ?_
        refine lv_iload hx hb dX8_count_167 (lv_at hl 0 rfl) ?_
        refine k_i (w2 := [(mA, .inr (8, .int (nI nr) :: .int (nI np) :: .ref m2 :: .ref m3 :: .ref m4 :: .ref m5 :: .ref m6 :: .ref m7 :: .ref m8 :: .int q9 :: .int q10 :: .int q11 :: .int ((nI dg) - 1) :: .int q13 :: .int q14 :: .int q15 :: .int q16 :: .int q17 :: .int q18 :: .int q19 :: .int q20 :: .ref m21 :: .ref m22 :: .ref m23 :: .ref m24 :: .int (nI nb) :: .int (nI ln) :: .int (nI po) :: .int q28 :: .int (nI tk) :: .ref m30 :: .ref m31 :: .int (nI we) :: .int q33 :: [])), (m3, .inl (cI, 160, .inl d3)), (m5, .inl (cZ, 160, .inl d5)), (m7, .inl (cZ, 160, .inl d7))]) (va_runV (As := [.int (nI u), .int (nI v)]) (rest := [.int sv16]) ⟨hx, hb, hml, hown, hts⟩ (c_X8_quarrels l _ mA m2 m3 m4 m5 m6 m7 m8 m21 m22 m23 m24 m30 m31 q9 q10 q11 q13 q14 q15 q16 q17 q18 q19 q20 q28 q33 nr np nb ln po tk we dg d3 d5 (nI u) (nI v) u v h20 h2r h2p h8 rfl rfl hlt_u hlt_v) (cwV 2 hts gX8_count_X8_quarrels rfl rfl rfl (by decide +kernel) ⟨Nat.le_of_ble_eq_true rfl, Nat.le_of_ble_eq_true rfl⟩) (pre_V (ci := 8) (q0 := 0) hB hz hA0 hP hD hS [0, 1, 2] rfl rfl rfl rfl rfl) rfl rfl hl.1 rfl (lv_room (Nat.le_of_ble_eq_true rfl)) dX8_count_169 ⟨Nat.zero_le _, Nat.zero_le _⟩) hP hD hS hA [0, 1, 2] [3] [1, 2, 3, 0] rfl rfl rfl rfl rfl (fun H locs hP hD hS => ?_)
        refine k_i (w2 := [(mA, .inr (8, .int (nI nr) :: .int (nI np) :: .ref m2 :: .ref m3 :: .ref m4 :: .ref m5 :: .ref m6 :: .ref m7 :: .ref m8 :: .int q9 :: .int q10 :: .int q11 :: .int ((nI dg) - 1) :: .int q13 :: .int q14 :: .int q15 :: .int q16 :: .int q17 :: .int q18 :: .int q19 :: .int q20 :: .ref m21 :: .ref m22 :: .ref m23 :: .ref m24 :: .int (nI nb) :: .int (nI ln) :: .int (nI po) :: .int q28 :: .int (nI tk) :: .ref m30 :: .ref m31 :: .int (nI we) :: .int q33 :: [])), (m3, .inl (cI, 160, .inl d3)), (m5, .inl (cZ, 160, .inl d5)), (m7, .inl (cZ, 160, .inl d7))]) (va_runS (As := [.int (F_X8_quarrels q9 nr np d3 d5 u v)]) (rest := [.int sv16]) ⟨hx, hb, hml, hown, hts⟩ (c_X8_one l _ (F_X8_quarrels q9 nr np d3 d5 u v)) (va_cwS 1 hts gX8_count_X8_one rfl rfl rfl (by decide +kernel) ⟨Nat.le_of_ble_eq_true rfl, Nat.le_of_ble_eq_true rfl⟩) (pre_S hB hz hA0 hP hD hS [] rfl rfl) rfl rfl hl.1 rfl (lv_room (Nat.le_of_ble_eq_true rfl)) dX8_count_172 ⟨Nat.zero_le _, Nat.zero_le _⟩) hP hD hS hA [] [0, 1, 2, 3] [0, 1, 2, 3] rfl rfl rfl rfl rfl (fun H locs hP hD hS => ?_)
        refine lv_iadd hx hb dX8_count_175 ?_
        refine lv_istore_n (lv' := [(2, .int (sv16 + (F_X8_one (F_X8_quarrels q9 nr np d3 d5 u v)))), (4, .int (nI v)), (3, .int (nI u)), (0, .ref mA), (1, .int what)]) hx hb dX8_count_176 rfl hl (by decide) rfl (fun ls hl => ?_)
        refine lv_iinc (v := nI (v + 1)) (lv' := [(4, .int (nI (v + 1))), (2, .int (sv16 + (F_X8_one (F_X8_quarrels q9 nr np d3 d5 u v)))), (3, .int (nI u)), (0, .ref mA), (1, .int what)]) hx hb dX8_count_177 hl (k := 1) rfl (nI_1 _) (by decide) rfl (fun ls hl => ?_)
        refine lv_goto (tgt := 155) hx hb dX8_count_180 (by decide) ?_
        have e_step : F_X8_count_L155 q9 nr np d3 d5 u v sv16 = sv16 + (F_X8_one (F_X8_quarrels q9 nr np d3 d5 u v)) := by rw [F_X8_count_L155]
        have hP2 : va_P D vwCl [(mA, .inr (8, .int (nI nr) :: .int (nI np) :: .ref m2 :: .ref m3 :: .ref m4 :: .ref m5 :: .ref m6 :: .ref m7 :: .ref m8 :: .int q9 :: .int q10 :: .int q11 :: .int ((nI dg) - 1) :: .int q13 :: .int q14 :: .int q15 :: .int q16 :: .int q17 :: .int q18 :: .int q19 :: .int q20 :: .ref m21 :: .ref m22 :: .ref m23 :: .ref m24 :: .int (nI nb) :: .int (nI ln) :: .int (nI po) :: .int q28 :: .int (nI tk) :: .ref m30 :: .ref m31 :: .int (nI we) :: .int q33 :: [])), (m3, .inl (cI, 160, .inl d3)), (m5, .inl (cZ, 160, .inl d5)), (m7, .inl (cZ, 160, .inl d7))] H := hP
        have hD2 : va_D A [(mA, .inr (8, .int (nI nr) :: .int (nI np) :: .ref m2 :: .ref m3 :: .ref m4 :: .ref m5 :: .ref m6 :: .ref m7 :: .ref m8 :: .int q9 :: .int q10 :: .int q11 :: .int ((nI dg) - 1) :: .int q13 :: .int q14 :: .int q15 :: .int q16 :: .int q17 :: .int q18 :: .int q19 :: .int q20 :: .ref m21 :: .ref m22 :: .ref m23 :: .ref m24 :: .int (nI nb) :: .int (nI ln) :: .int (nI po) :: .int q28 :: .int (nI tk) :: .ref m30 :: .ref m31 :: .int (nI we) :: .int q33 :: [])), (m3, .inl (cI, 160, .inl d3)), (m5, .inl (cZ, 160, .inl d5)), (m7, .inl (cZ, 160, .inl d7))] := hD
        have hl2 : lv_has ls 5 [(4, .int (nI (v + 1))), (3, .int (nI u)), (2, .int (F_X8_count_L155 q9 nr np d3 d5 u v sv16)), (0, .ref mA), (1, .int what)] := by rw [e_step]; exact lv_sub hl [0, 2, 1, 3, 4] rfl
        subst hs_v
        exact ih_v (v + 1) (by omega) (by omega) _ _ _ hP2 hD2 hS hl2
  by_cases c_18 : what = 11
  · refine lv_tableIn (tgt := 191) hx hb dX8_count_3 (by rw [c_18]; decide) (by rw [c_18]; decide) (by rw [c_18] <;> rfl) (by decide) ?_
    refine lv_aload_n hx hb dX8_count_191 rfl (lv_at hl 1 rfl) ?_
    refine va_get (D := D) (ci := 8) (v := .int (nI tk)) (C := RX8) (T := TX8) (N := 34) hx hb hts hiX8 hown hB.1 hP 0 rfl rfl 29 (by decide) (hts _ (List.mem_of_getElem? (i := 13) rfl)) (fun _ h9 => h9) rfl dX8_count_192 ?_
    have er : F_X8_count q9 q11 q13 q14 q15 q16 q18 q19 q20 nr np nb tk dg d3 d5 d7 what = nI tk := by rw [F_X8_count, if_neg c_1, if_neg c_2, if_neg c_3, if_neg c_4, if_neg c_5, if_neg c_6, if_neg c_7, if_neg c_8, if_neg c_9, if_neg c_10, if_neg c_13, if_pos c_18]
    exact W.iret hx hb hr (fun t ht hW => ⟨⟨_, (), rfl, er.symm, by rw [ht]; exact hP, hD⟩, hS.F ht⟩) hS.2.2 dX8_count_195
  by_cases c_19 : what = 12
  · refine lv_tableIn (tgt := 196) hx hb dX8_count_3 (by rw [c_19]; decide) (by rw [c_19]; decide) (by rw [c_19] <;> rfl) (by decide) ?_
    refine lv_aload_n hx hb dX8_count_196 rfl (lv_at hl 1 rfl) ?_
    refine va_get (D := D) (ci := 8) (v := .int (nI nb)) (C := RX8) (T := TX8) (N := 34) hx hb hts hiX8 hown hB.1 hP 0 rfl rfl 25 (by decide) (hts _ (List.mem_of_getElem? (i := 14) rfl)) (fun _ h9 => h9) rfl dX8_count_197 ?_
    have er : F_X8_count q9 q11 q13 q14 q15 q16 q18 q19 q20 nr np nb tk dg d3 d5 d7 what = nI nb := by rw [F_X8_count, if_neg c_1, if_neg c_2, if_neg c_3, if_neg c_4, if_neg c_5, if_neg c_6, if_neg c_7, if_neg c_8, if_neg c_9, if_neg c_10, if_neg c_13, if_neg c_18, if_pos c_19]
    exact W.iret hx hb hr (fun t ht hW => ⟨⟨_, (), rfl, er.symm, by rw [ht]; exact hP, hD⟩, hS.F ht⟩) hS.2.2 dX8_count_200
  refine lv_tableOut (tgt := 201) hx hb dX8_count_3 (by have z0 := lv_neT c_1 (a := 0) (by decide); have z1 := lv_neT c_2 (a := 1) (by decide); have z2 := lv_neT c_3 (a := 2) (by decide); have z3 := lv_neT c_4 (a := 3) (by decide); have z4 := lv_neT c_5 (a := 4) (by decide); have z5 := lv_neT c_6 (a := 5) (by decide); have z6 := lv_neT c_7 (a := 6) (by decide); have z7 := lv_neT c_8 (a := 7) (by decide); have z8 := lv_neT c_9 (a := 8) (by decide); have z9 := lv_neT c_10 (a := 9) (by decide); have z10 := lv_neT c_13 (a := 10) (by decide); have z11 := lv_neT c_18 (a := 11) (by decide); have z12 := lv_neT c_19 (a := 12) (by decide); omega) (by decide) ?_
  refine lv_iconst (v := (-1)) hx hb dX8_count_201 (by decide) ?_
  have er : F_X8_count q9 q11 q13 q14 q15 q16 q18 q19 q20 nr np nb tk dg d3 d5 d7 what = (-1) := by rw [F_X8_count, if_neg c_1, if_neg c_2, if_neg c_3, if_neg c_4, if_neg c_5, if_neg c_6, if_neg c_7, if_neg c_8, if_neg c_9, if_neg c_10, if_neg c_13, if_neg c_18, if_neg c_19]
  exact W.iret hx hb hr (fun t ht hW => ⟨⟨_, (), rfl, er.symm, by rw [ht]; exact hP, hD⟩, hS.F ht⟩) hS.2.2 dX8_count_202

def F_X8_bars (q11 : Int32) (q13 : Int32) (q14 : Int32) (q15 : Int32) (q16 : Int32) (nr : Nat) (np : Nat) (tk : Nat) (dg : Nat) (d2 : Nat → Int32) (d30 : Nat → Int32) (d31 : Nat → Int32) (place : Int32) : Int32 :=
  if (F_X8_isIn place 0 ((nI np) - 1)) = 0 then 1 else
  if ((nI dg) - 1) = ((nI nr) - 1) then 1 else
  if ((nI dg) - 1) = (-1) then (if (F_X8_isIn q15 (F_X8_tellsOn tk d30 d31 q11 0) (F_X8_tellsOn tk d30 d31 q11 1)) = 0 then 2 else
    if ((nI dg) - 1) = (-1) then (if (2 * (d2 (8 * dg + place.toNatClampNeg))) ≤ q14 then (if q16 ≤ (F_X8_tellsOn tk d30 d31 q11 3) then 0 else
        5) else
      4) else
    if (if 0 ≤ ((d2 (8 * dg + place.toNatClampNeg)) - (d2 (8 * (dg - 1) + q13.toNatClampNeg))) then ((d2 (8 * dg + place.toNatClampNeg)) - (d2 (8 * (dg - 1) + q13.toNatClampNeg))) else 0 - ((d2 (8 * dg + place.toNatClampNeg)) - (d2 (8 * (dg - 1) + q13.toNatClampNeg)))) ≤ (F_X8_tellsOn tk d30 d31 q11 2) then (if (2 * (d2 (8 * dg + place.toNatClampNeg))) ≤ q14 then (if q16 ≤ (F_X8_tellsOn tk d30 d31 q11 3) then 0 else
        5) else
      4) else
    3) else
  if (if 0 ≤ (place - q13) then (place - q13) else 0 - (place - q13)) ≤ 1 then (if (F_X8_isIn q15 (F_X8_tellsOn tk d30 d31 q11 0) (F_X8_tellsOn tk d30 d31 q11 1)) = 0 then 2 else
    if ((nI dg) - 1) = (-1) then (if (2 * (d2 (8 * dg + place.toNatClampNeg))) ≤ q14 then (if q16 ≤ (F_X8_tellsOn tk d30 d31 q11 3) then 0 else
        5) else
      4) else
    if (if 0 ≤ ((d2 (8 * dg + place.toNatClampNeg)) - (d2 (8 * (dg - 1) + q13.toNatClampNeg))) then ((d2 (8 * dg + place.toNatClampNeg)) - (d2 (8 * (dg - 1) + q13.toNatClampNeg))) else 0 - ((d2 (8 * dg + place.toNatClampNeg)) - (d2 (8 * (dg - 1) + q13.toNatClampNeg)))) ≤ (F_X8_tellsOn tk d30 d31 q11 2) then (if (2 * (d2 (8 * dg + place.toNatClampNeg))) ≤ q14 then (if q16 ≤ (F_X8_tellsOn tk d30 d31 q11 3) then 0 else
        5) else
      4) else
    3) else
  1
set_option maxHeartbeats 4000000 in
set_option maxRecDepth 100000 in
theorem c_X8_bars (l : Launch) {D : va_G} {cI cZ cB : ClassId} {au : Nat} {kA kV : Nat → Nat} {z0 : Nat} (sz : Nat) (mA : Nat) (m2 : Nat) (m3 : Nat) (m4 : Nat) (m5 : Nat) (m6 : Nat) (m7 : Nat) (m8 : Nat) (m21 : Nat) (m22 : Nat) (m23 : Nat) (m24 : Nat) (m30 : Nat) (m31 : Nat) (q9 : Int32) (q10 : Int32) (q11 : Int32) (q13 : Int32) (q14 : Int32) (q15 : Int32) (q16 : Int32) (q17 : Int32) (q18 : Int32) (q19 : Int32) (q20 : Int32) (q28 : Int32) (q33 : Int32) (nr : Nat) (np : Nat) (nb : Nat) (ln : Nat) (po : Nat) (tk : Nat) (we : Nat) (dg : Nat) (d2 : Nat → Int32) (d30 : Nat → Int32) (d31 : Nat → Int32) (place : Int32) (h20 : nr ≤ 20) (h2r : 2 ≤ nr) (h2p : 2 ≤ np) (h8 : np ≤ 8) (hdg : dg ≤ nr) (hpl : 0 < dg → q13 = nI q13.toNatClampNeg ∧ q13.toNatClampNeg < np) (htk : tk ≤ 10) : Met l yX8_bars wsX8_bars ({ frames := 3, cells := 0, slots := 0, locals := 67 }) (va_Pc [.ref mA, .int place] (PRE D cI cZ cB au kA kV z0 sz [(mA, .inr (8, .int (nI nr) :: .int (nI np) :: .ref m2 :: .ref m3 :: .ref m4 :: .ref m5 :: .ref m6 :: .ref m7 :: .ref m8 :: .int q9 :: .int q10 :: .int q11 :: .int ((nI dg) - 1) :: .int q13 :: .int q14 :: .int q15 :: .int q16 :: .int q17 :: .int q18 :: .int q19 :: .int q20 :: .ref m21 :: .ref m22 :: .ref m23 :: .ref m24 :: .int (nI nb) :: .int (nI ln) :: .int (nI po) :: .int q28 :: .int (nI tk) :: .ref m30 :: .ref m31 :: .int (nI we) :: .int q33 :: [])), (m2, .inl (cI, 160, .inl d2)), (m30, .inl (cI, 77, .inl d30)), (m31, .inl (cI, 11, .inl d31))])) (QI D [(mA, .inr (8, .int (nI nr) :: .int (nI np) :: .ref m2 :: .ref m3 :: .ref m4 :: .ref m5 :: .ref m6 :: .ref m7 :: .ref m8 :: .int q9 :: .int q10 :: .int q11 :: .int ((nI dg) - 1) :: .int q13 :: .int q14 :: .int q15 :: .int q16 :: .int q17 :: .int q18 :: .int q19 :: .int q20 :: .ref m21 :: .ref m22 :: .ref m23 :: .ref m24 :: .int (nI nb) :: .int (nI ln) :: .int (nI po) :: .int q28 :: .int (nI tk) :: .ref m30 :: .ref m31 :: .int (nI we) :: .int q33 :: [])), (m2, .inl (cI, 160, .inl d2)), (m30, .inl (cI, 77, .inl d30)), (m31, .inl (cI, 11, .inl d31))] sz (F_X8_bars q11 q13 q14 q15 q16 nr np tk dg d2 d30 d31 place) [(mA, .inr (8, .int (nI nr) :: .int (nI np) :: .ref m2 :: .ref m3 :: .ref m4 :: .ref m5 :: .ref m6 :: .ref m7 :: .ref m8 :: .int q9 :: .int q10 :: .int q11 :: .int ((nI dg) - 1) :: .int q13 :: .int q14 :: .int q15 :: .int q16 :: .int q17 :: .int q18 :: .int q19 :: .int q20 :: .ref m21 :: .ref m22 :: .ref m23 :: .ref m24 :: .int (nI nb) :: .int (nI ln) :: .int (nI po) :: .int q28 :: .int (nI tk) :: .ref m30 :: .ref m31 :: .int (nI we) :: .int q33 :: [])), (m2, .inl (cI, 160, .inl d2)), (m30, .inl (cI, 77, .inl d30)), (m31, .inl (cI, 11, .inl d31))]) 0 0 (va_A [(mA, .inr (8, .int (nI nr) :: .int (nI np) :: .ref m2 :: .ref m3 :: .ref m4 :: .ref m5 :: .ref m6 :: .ref m7 :: .ref m8 :: .int q9 :: .int q10 :: .int q11 :: .int ((nI dg) - 1) :: .int q13 :: .int q14 :: .int q15 :: .int q16 :: .int q17 :: .int q18 :: .int q19 :: .int q20 :: .ref m21 :: .ref m22 :: .ref m23 :: .ref m24 :: .int (nI nb) :: .int (nI ln) :: .int (nI po) :: .int q28 :: .int (nI tk) :: .ref m30 :: .ref m31 :: .int (nI we) :: .int q33 :: [])), (m2, .inl (cI, 160, .inl d2)), (m30, .inl (cI, 77, .inl d30)), (m31, .inl (cI, 11, .inl d31))] sz) := by
  refine Met.ofW (cc := cX8_bars) (maxL := 3) (ret := (some .int)) (by decide) rfl ?_
  intro p e s m args below meth c s₁ B hml hv
  obtain ⟨rfl, hsz, hz, hP, hD0, hB⟩ := hv
  have hx := B.exec
  have hb := B.bytes
  have hr := B.returns
  have hts := atoms_spec (ws := wsX8_bars) B.pre
  have hown : s.vm.findClass RX8 = some m.cls := findClass_of_methodNamed B.named
  have hlocks := B.notSynchronized
  subst hsz
  have hD := hD0.self (sz := s.heap.size)
  have hA0 := va_A0 hD0 hz
  unfold QI
  generalize hAe : va_A [(mA, .inr (8, .int (nI nr) :: .int (nI np) :: .ref m2 :: .ref m3 :: .ref m4 :: .ref m5 :: .ref m6 :: .ref m7 :: .ref m8 :: .int q9 :: .int q10 :: .int q11 :: .int ((nI dg) - 1) :: .int q13 :: .int q14 :: .int q15 :: .int q16 :: .int q17 :: .int q18 :: .int q19 :: .int q20 :: .ref m21 :: .ref m22 :: .ref m23 :: .ref m24 :: .int (nI nb) :: .int (nI ln) :: .int (nI po) :: .int q28 :: .int (nI tk) :: .ref m30 :: .ref m31 :: .int (nI we) :: .int q33 :: [])), (m2, .inl (cI, 160, .inl d2)), (m30, .inl (cI, 77, .inl d30)), (m31, .inl (cI, 11, .inl d31))] s.heap.size = A at hD hA0 ⊢
  have hA : ∀ q : Nat, s.heap.size ≤ q → A q := fun q h => by rw [← hAe]; exact Or.inr h
  have hS : va_S A s.heap s.heap [] := va_S.rf
  have hiX8 : ∀ w ∈ wsX80, w ∈ wsX8_bars := fun w h => List.mem_cons_of_mem _ (List.mem_append_right _ h)
  have hl := lv_entry ([.ref mA, .int place]) (n := 3) (Nat.le_of_ble_eq_true rfl)
  rw [lg_entry_eq]
  generalize (lg_sl ([.ref mA, .int place]) ++ List.replicate (3 - (lg_sl ([.ref mA, .int place])).length) Slot.unset).toArray = ls at hl ⊢
  have hl : lv_has ls 3 [(0, .ref mA), (1, .int place)] := hl
  refine lv_iload_n hx hb dX8_bars_0 rfl (lv_at hl 1 rfl) ?_
  refine lv_iconst (v := 0) hx hb dX8_bars_1 (by decide) ?_
  refine lv_aload_n hx hb dX8_bars_2 rfl (lv_at hl 0 rfl) ?_
  refine va_get (D := D) (ci := 8) (v := .int (nI np)) (C := RX8) (T := TX8) (N := 34) hx hb hts hiX8 hown hB.1 hP 0 rfl rfl 1 (by decide) (hts _ (List.mem_of_getElem? (i := 1) rfl)) (fun _ h9 => h9) rfl dX8_bars_3 ?_
  refine lv_iconst (v := 1) hx hb dX8_bars_6 (by decide) ?_
  refine lv_isub hx hb dX8_bars_7 ?_
  refine k_i (w2 := [(mA, .inr (8, .int (nI nr) :: .int (nI np) :: .ref m2 :: .ref m3 :: .ref m4 :: .ref m5 :: .ref m6 :: .ref m7 :: .ref m8 :: .int q9 :: .int q10 :: .int q11 :: .int ((nI dg) - 1) :: .int q13 :: .int q14 :: .int q15 :: .int q16 :: .int q17 :: .int q18 :: .int q19 :: .int q20 :: .ref m21 :: .ref m22 :: .ref m23 :: .ref m24 :: .int (nI nb) :: .int (nI ln) :: .int (nI po) :: .int q28 :: .int (nI tk) :: .ref m30 :: .ref m31 :: .int (nI we) :: .int q33 :: [])), (m2, .inl (cI, 160, .inl d2)), (m30, .inl (cI, 77, .inl d30)), (m31, .inl (cI, 11, .inl d31))]) (va_runS (As := [.int place, .int 0, .int ((nI np) - 1)]) (rest := []) ⟨hx, hb, hml, hown, hts⟩ (c_X8_isIn l _ place 0 ((nI np) - 1)) (va_cwS 3 hts gX8_bars_X8_isIn rfl rfl rfl (by decide +kernel) ⟨Nat.le_of_ble_eq_true rfl, Nat.le_of_ble_eq_true rfl⟩) (pre_S hB hz hA0 hP hD hS [] rfl rfl) rfl rfl hl.1 rfl (lv_room (Nat.le_of_ble_eq_true rfl)) dX8_bars_8 ⟨Nat.zero_le _, Nat.zero_le _⟩) hP hD hS hA [] [0, 1, 2, 3] [0, 1, 2, 3] rfl rfl rfl rfl rfl (fun H locs hP hD hS => ?_)
  refine lv_if_eq (tgt := 48) hx hb dX8_bars_11 (by decide) (fun c_1 => ?_) (fun c_1 => ?_)
  · refine lv_iconst (v := 1) hx hb dX8_bars_48 (by decide) ?_
    have er : F_X8_bars q11 q13 q14 q15 q16 nr np tk dg d2 d30 d31 place = 1 := by rw [F_X8_bars, if_pos c_1]
    exact W.iret hx hb hr (fun t ht hW => ⟨⟨_, (), rfl, er.symm, by rw [ht]; exact hP, hD⟩, hS.F ht⟩) hS.2.2 dX8_bars_49
  · obtain ⟨hp1, hp2⟩ := wn_ix (n := np) (by omega) c_1
    refine lv_aload_n hx hb dX8_bars_14 rfl (lv_at hl 0 rfl) ?_
    refine va_get (D := D) (ci := 8) (v := .int ((nI dg) - 1)) (C := RX8) (T := TX8) (N := 34) hx hb hts hiX8 hown hB.1 hP 0 rfl rfl 12 (by decide) (hts _ (List.mem_of_getElem? (i := 2) rfl)) (fun _ h9 => h9) rfl dX8_bars_15 ?_
    refine lv_aload_n hx hb dX8_bars_18 rfl (lv_at hl 0 rfl) ?_
    refine va_get (D := D) (ci := 8) (v := .int (nI nr)) (C := RX8) (T := TX8) (N := 34) hx hb hts hiX8 hown hB.1 hP 0 rfl rfl 0 (by decide) (hts _ (List.mem_of_getElem? (i := 3) rfl)) (fun _ h9 => h9) rfl dX8_bars_19 ?_
    refine lv_iconst (v := 1) hx hb dX8_bars_22 (by decide) ?_
    refine lv_isub hx hb dX8_bars_23 ?_
    refine lv_icmp_eq (tgt := 48) hx hb dX8_bars_24 (by decide) (fun c_2 => ?_) (fun c_2 => ?_)
    · refine lv_iconst (v := 1) hx hb dX8_bars_48 (by decide) ?_
      have er : F_X8_bars q11 q13 q14 q15 q16 nr np tk dg d2 d30 d31 place = 1 := by rw [F_X8_bars, if_neg c_1, if_pos c_2]
      exact W.iret hx hb hr (fun t ht hW => ⟨⟨_, (), rfl, er.symm, by rw [ht]; exact hP, hD⟩, hS.F ht⟩) hS.2.2 dX8_bars_49
    · have hd1 := m1_lt hdg (by omega) c_2
      refine lv_aload_n hx hb dX8_bars_27 rfl (lv_at hl 0 rfl) ?_
      refine va_get (D := D) (ci := 8) (v := .int ((nI dg) - 1)) (C := RX8) (T := TX8) (N := 34) hx hb hts hiX8 hown hB.1 hP 0 rfl rfl 12 (by decide) (hts _ (List.mem_of_getElem? (i := 2) rfl)) (fun _ h9 => h9) rfl dX8_bars_28 ?_
      refine lv_iconst (v := (-1)) hx hb dX8_bars_31 (by decide) ?_
      refine lv_icmp_eq (tgt := 50) hx hb dX8_bars_32 (by decide) (fun c_3 => ?_) (fun c_3 => ?_)
      · refine lv_aload_n hx hb dX8_bars_50 rfl (lv_at hl 0 rfl) ?_
        refine va_get (D := D) (ci := 8) (v := .ref m2) (C := RX8) (T := TX8) (N := 34) hx hb hts hiX8 hown hB.1 hP 0 rfl rfl 2 (by decide) (hts _ (List.mem_of_getElem? (i := 9) rfl)) (fun _ h9 => h9) rfl dX8_bars_51 ?_
        refine lv_bipush (v := 8) hx hb dX8_bars_54 (by decide) ?_
        refine lv_aload_n hx hb dX8_bars_56 rfl (lv_at hl 0 rfl) ?_
        refine va_get (D := D) (ci := 8) (v := .int ((nI dg) - 1)) (C := RX8) (T := TX8) (N := 34) hx hb hts hiX8 hown hB.1 hP 0 rfl rfl 12 (by decide) (hts _ (List.mem_of_getElem? (i := 2) rfl)) (fun _ h9 => h9) rfl dX8_bars_57 ?_
        refine lv_imul hx hb dX8_bars_60 ?_
        refine lv_bipush (v := 8) hx hb dX8_bars_61 (by decide) ?_
        refine lv_iadd hx hb dX8_bars_63 ?_
        refine lv_iload_n hx hb dX8_bars_64 rfl (lv_at hl 1 rfl) ?_
        refine lv_iadd hx hb dX8_bars_65 ?_
        refine ra_i hx hb hB.1 hP 1 rfl (8 * dg + place.toNatClampNeg) (m8_p hp1) (by omega) (by decide) dX8_bars_66 ?_
        refine lv_istore_n (lv' := [(2, .int (d2 (8 * dg + place.toNatClampNeg))), (0, .ref mA), (1, .int place)]) hx hb dX8_bars_67 rfl hl (by decide) rfl (fun ls hl => ?_)
        refine lv_aload_n hx hb dX8_bars_68 rfl (lv_at hl 1 rfl) ?_
        refine va_get (D := D) (ci := 8) (v := .int q15) (C := RX8) (T := TX8) (N := 34) hx hb hts hiX8 hown hB.1 hP 0 rfl rfl 15 (by decide) (hts _ (List.mem_of_getElem? (i := 10) rfl)) (fun _ h9 => h9) rfl dX8_bars_69 ?_
        refine lv_aload_n hx hb dX8_bars_72 rfl (lv_at hl 1 rfl) ?_
        refine lv_iconst (v := 0) hx hb dX8_bars_73 (by decide) ?_
        refine k_i (w2 := [(mA, .inr (8, .int (nI nr) :: .int (nI np) :: .ref m2 :: .ref m3 :: .ref m4 :: .ref m5 :: .ref m6 :: .ref m7 :: .ref m8 :: .int q9 :: .int q10 :: .int q11 :: .int ((nI dg) - 1) :: .int q13 :: .int q14 :: .int q15 :: .int q16 :: .int q17 :: .int q18 :: .int q19 :: .int q20 :: .ref m21 :: .ref m22 :: .ref m23 :: .ref m24 :: .int (nI nb) :: .int (nI ln) :: .int (nI po) :: .int q28 :: .int (nI tk) :: .ref m30 :: .ref m31 :: .int (nI we) :: .int q33 :: [])), (m2, .inl (cI, 160, .inl d2)), (m30, .inl (cI, 77, .inl d30)), (m31, .inl (cI, 11, .inl d31))]) (va_runV (As := [.int 0]) (rest := [.int q15]) ⟨hx, hb, hml, hown, hts⟩ (c_X8_now l _ mA m2 m3 m4 m5 m6 m7 m8 m21 m22 m23 m24 m30 m31 q9 q10 q11 q13 q14 q15 q16 q17 q18 q19 q20 q28 q33 nr np nb ln po tk we dg d30 d31 0 0 h20 h2r h2p h8 htk rfl (by decide)) (cwV 1 hts gX8_bars_X8_now rfl rfl rfl (by decide +kernel) ⟨Nat.le_of_ble_eq_true rfl, Nat.le_of_ble_eq_true rfl⟩) (pre_V (ci := 8) (q0 := 0) hB hz hA0 hP hD hS [0, 2, 3] rfl rfl rfl rfl rfl) rfl rfl hl.1 rfl (lv_room (Nat.le_of_ble_eq_true rfl)) dX8_bars_74 ⟨Nat.zero_le _, Nat.zero_le _⟩) hP hD hS hA [0, 2, 3] [1] [1, 0, 2, 3] rfl rfl rfl rfl rfl (fun H locs hP hD hS => ?_)
        refine lv_aload_n hx hb dX8_bars_77 rfl (lv_at hl 1 rfl) ?_
        refine lv_iconst (v := 1) hx hb dX8_bars_78 (by decide) ?_
        refine k_i (w2 := [(mA, .inr (8, .int (nI nr) :: .int (nI np) :: .ref m2 :: .ref m3 :: .ref m4 :: .ref m5 :: .ref m6 :: .ref m7 :: .ref m8 :: .int q9 :: .int q10 :: .int q11 :: .int ((nI dg) - 1) :: .int q13 :: .int q14 :: .int q15 :: .int q16 :: .int q17 :: .int q18 :: .int q19 :: .int q20 :: .ref m21 :: .ref m22 :: .ref m23 :: .ref m24 :: .int (nI nb) :: .int (nI ln) :: .int (nI po) :: .int q28 :: .int (nI tk) :: .ref m30 :: .ref m31 :: .int (nI we) :: .int q33 :: [])), (m2, .inl (cI, 160, .inl d2)), (m30, .inl (cI, 77, .inl d30)), (m31, .inl (cI, 11, .inl d31))]) (va_runV (As := [.int 1]) (rest := [.int (F_X8_tellsOn tk d30 d31 q11 0), .int q15]) ⟨hx, hb, hml, hown, hts⟩ (c_X8_now l _ mA m2 m3 m4 m5 m6 m7 m8 m21 m22 m23 m24 m30 m31 q9 q10 q11 q13 q14 q15 q16 q17 q18 q19 q20 q28 q33 nr np nb ln po tk we dg d30 d31 1 1 h20 h2r h2p h8 htk rfl (by decide)) (cwV 1 hts gX8_bars_X8_now rfl rfl rfl (by decide +kernel) ⟨Nat.le_of_ble_eq_true rfl, Nat.le_of_ble_eq_true rfl⟩) (pre_V (ci := 8) (q0 := 0) hB hz hA0 hP hD hS [0, 2, 3] rfl rfl rfl rfl rfl) rfl rfl hl.1 rfl (lv_room (Nat.le_of_ble_eq_true rfl)) dX8_bars_79 ⟨Nat.zero_le _, Nat.zero_le _⟩) hP hD hS hA [0, 2, 3] [1] [1, 0, 2, 3] rfl rfl rfl rfl rfl (fun H locs hP hD hS => ?_)
        refine k_i (w2 := [(mA, .inr (8, .int (nI nr) :: .int (nI np) :: .ref m2 :: .ref m3 :: .ref m4 :: .ref m5 :: .ref m6 :: .ref m7 :: .ref m8 :: .int q9 :: .int q10 :: .int q11 :: .int ((nI dg) - 1) :: .int q13 :: .int q14 :: .int q15 :: .int q16 :: .int q17 :: .int q18 :: .int q19 :: .int q20 :: .ref m21 :: .ref m22 :: .ref m23 :: .ref m24 :: .int (nI nb) :: .int (nI ln) :: .int (nI po) :: .int q28 :: .int (nI tk) :: .ref m30 :: .ref m31 :: .int (nI we) :: .int q33 :: [])), (m2, .inl (cI, 160, .inl d2)), (m30, .inl (cI, 77, .inl d30)), (m31, .inl (cI, 11, .inl d31))]) (va_runS (As := [.int q15, .int (F_X8_tellsOn tk d30 d31 q11 0), .int (F_X8_tellsOn tk d30 d31 q11 1)]) (rest := []) ⟨hx, hb, hml, hown, hts⟩ (c_X8_isIn l _ q15 (F_X8_tellsOn tk d30 d31 q11 0) (F_X8_tellsOn tk d30 d31 q11 1)) (va_cwS 3 hts gX8_bars_X8_isIn rfl rfl rfl (by decide +kernel) ⟨Nat.le_of_ble_eq_true rfl, Nat.le_of_ble_eq_true rfl⟩) (pre_S hB hz hA0 hP hD hS [] rfl rfl) rfl rfl hl.1 rfl (lv_room (Nat.le_of_ble_eq_true rfl)) dX8_bars_82 ⟨Nat.zero_le _, Nat.zero_le _⟩) hP hD hS hA [] [0, 1, 2, 3] [0, 1, 2, 3] rfl rfl rfl rfl rfl (fun H locs hP hD hS => ?_)
        refine lv_if_ne (tgt := 90) hx hb dX8_bars_85 (by decide) (fun c_4 => ?_) (fun c_4 => ?_)
        · refine lv_aload_n hx hb dX8_bars_90 rfl (lv_at hl 1 rfl) ?_
          refine va_get (D := D) (ci := 8) (v := .int ((nI dg) - 1)) (C := RX8) (T := TX8) (N := 34) hx hb hts hiX8 hown hB.1 hP 0 rfl rfl 12 (by decide) (hts _ (List.mem_of_getElem? (i := 2) rfl)) (fun _ h9 => h9) rfl dX8_bars_91 ?_
          refine lv_iconst (v := (-1)) hx hb dX8_bars_94 (by decide) ?_
          refine lv_icmp_eq (tgt := 130) hx hb dX8_bars_95 (by decide) (fun c_5 => ?_) (fun c_5 => ?_)
          · refine lv_aload_n hx hb dX8_bars_130 rfl (lv_at hl 1 rfl) ?_
            refine va_get (D := D) (ci := 8) (v := .int q14) (C := RX8) (T := TX8) (N := 34) hx hb hts hiX8 hown hB.1 hP 0 rfl rfl 14 (by decide) (hts _ (List.mem_of_getElem? (i := 11) rfl)) (fun _ h9 => h9) rfl dX8_bars_131 ?_
            refine lv_iconst (v := 2) hx hb dX8_bars_134 (by decide) ?_
            refine lv_iload_n hx hb dX8_bars_135 rfl (lv_at hl 0 rfl) ?_
            refine lv_imul hx hb dX8_bars_136 ?_
            refine lv_icmp_ge (tgt := 142) hx hb dX8_bars_137 (by decide) (fun c_6 => ?_) (fun c_6 => ?_)
            · refine lv_aload_n hx hb dX8_bars_142 rfl (lv_at hl 1 rfl) ?_
              refine va_get (D := D) (ci := 8) (v := .int q16) (C := RX8) (T := TX8) (N := 34) hx hb hts hiX8 hown hB.1 hP 0 rfl rfl 16 (by decide) (hts _ (List.mem_of_getElem? (i := 12) rfl)) (fun _ h9 => h9) rfl dX8_bars_143 ?_
              refine lv_aload_n hx hb dX8_bars_146 rfl (lv_at hl 1 rfl) ?_
              refine lv_iconst (v := 3) hx hb dX8_bars_147 (by decide) ?_
              refine k_i (w2 := [(mA, .inr (8, .int (nI nr) :: .int (nI np) :: .ref m2 :: .ref m3 :: .ref m4 :: .ref m5 :: .ref m6 :: .ref m7 :: .ref m8 :: .int q9 :: .int q10 :: .int q11 :: .int ((nI dg) - 1) :: .int q13 :: .int q14 :: .int q15 :: .int q16 :: .int q17 :: .int q18 :: .int q19 :: .int q20 :: .ref m21 :: .ref m22 :: .ref m23 :: .ref m24 :: .int (nI nb) :: .int (nI ln) :: .int (nI po) :: .int q28 :: .int (nI tk) :: .ref m30 :: .ref m31 :: .int (nI we) :: .int q33 :: [])), (m2, .inl (cI, 160, .inl d2)), (m30, .inl (cI, 77, .inl d30)), (m31, .inl (cI, 11, .inl d31))]) (va_runV (As := [.int 3]) (rest := [.int q16]) ⟨hx, hb, hml, hown, hts⟩ (c_X8_now l _ mA m2 m3 m4 m5 m6 m7 m8 m21 m22 m23 m24 m30 m31 q9 q10 q11 q13 q14 q15 q16 q17 q18 q19 q20 q28 q33 nr np nb ln po tk we dg d30 d31 3 3 h20 h2r h2p h8 htk rfl (by decide)) (cwV 1 hts gX8_bars_X8_now rfl rfl rfl (by decide +kernel) ⟨Nat.le_of_ble_eq_true rfl, Nat.le_of_ble_eq_true rfl⟩) (pre_V (ci := 8) (q0 := 0) hB hz hA0 hP hD hS [0, 2, 3] rfl rfl rfl rfl rfl) rfl rfl hl.1 rfl (lv_room (Nat.le_of_ble_eq_true rfl)) dX8_bars_148 ⟨Nat.zero_le _, Nat.zero_le _⟩) hP hD hS hA [0, 2, 3] [1] [1, 0, 2, 3] rfl rfl rfl rfl rfl (fun H locs hP hD hS => ?_)
              refine lv_icmp_le (tgt := 158) hx hb dX8_bars_151 (by decide) (fun c_7 => ?_) (fun c_7 => ?_)
              · refine lv_iconst (v := 0) hx hb dX8_bars_158 (by decide) ?_
                have er : F_X8_bars q11 q13 q14 q15 q16 nr np tk dg d2 d30 d31 place = 0 := by rw [F_X8_bars, if_neg c_1, if_neg c_2, if_pos c_3, if_neg c_4, if_pos c_5, if_pos c_6, if_pos c_7]
                exact W.iret hx hb hr (fun t ht hW => ⟨⟨_, (), rfl, er.symm, by rw [ht]; exact hP, hD⟩, hS.F ht⟩) hS.2.2 dX8_bars_159
              · refine lv_iconst (v := 5) hx hb dX8_bars_154 (by decide) ?_
                refine lv_goto (tgt := 159) hx hb dX8_bars_155 (by decide) ?_
                have er : F_X8_bars q11 q13 q14 q15 q16 nr np tk dg d2 d30 d31 place = 5 := by rw [F_X8_bars, if_neg c_1, if_neg c_2, if_pos c_3, if_neg c_4, if_pos c_5, if_pos c_6, if_neg c_7]
                exact W.iret hx hb hr (fun t ht hW => ⟨⟨_, (), rfl, er.symm, by rw [ht]; exact hP, hD⟩, hS.F ht⟩) hS.2.2 dX8_bars_159
            · refine lv_iconst (v := 4) hx hb dX8_bars_140 (by decide) ?_
              have er : F_X8_bars q11 q13 q14 q15 q16 nr np tk dg d2 d30 d31 place = 4 := by rw [F_X8_bars, if_neg c_1, if_neg c_2, if_pos c_3, if_neg c_4, if_pos c_5, if_neg c_6]
              exact W.iret hx hb hr (fun t ht hW => ⟨⟨_, (), rfl, er.symm, by rw [ht]; exact hP, hD⟩, hS.F ht⟩) hS.2.2 dX8_bars_141
          · have hd0 := m1_ne (by omega) c_5
            obtain ⟨hq1, hq2⟩ := hpl hd0
            refine lv_iload_n hx hb dX8_bars_98 rfl (lv_at hl 0 rfl) ?_
            refine lv_aload_n hx hb dX8_bars_99 rfl (lv_at hl 1 rfl) ?_
            refine va_get (D := D) (ci := 8) (v := .ref m2) (C := RX8) (T := TX8) (N := 34) hx hb hts hiX8 hown hB.1 hP 0 rfl rfl 2 (by decide) (hts _ (List.mem_of_getElem? (i := 9) rfl)) (fun _ h9 => h9) rfl dX8_bars_100 ?_
            refine lv_bipush (v := 8) hx hb dX8_bars_103 (by decide) ?_
            refine lv_aload_n hx hb dX8_bars_105 rfl (lv_at hl 1 rfl) ?_
            refine va_get (D := D) (ci := 8) (v := .int ((nI dg) - 1)) (C := RX8) (T := TX8) (N := 34) hx hb hts hiX8 hown hB.1 hP 0 rfl rfl 12 (by decide) (hts _ (List.mem_of_getElem? (i := 2) rfl)) (fun _ h9 => h9) rfl dX8_bars_106 ?_
            refine lv_imul hx hb dX8_bars_109 ?_
            refine lv_aload_n hx hb dX8_bars_110 rfl (lv_at hl 1 rfl) ?_
            refine va_get (D := D) (ci := 8) (v := .int q13) (C := RX8) (T := TX8) (N := 34) hx hb hts hiX8 hown hB.1 hP 0 rfl rfl 13 (by decide) (hts _ (List.mem_of_getElem? (i := 4) rfl)) (fun _ h9 => h9) rfl dX8_bars_111 ?_
            refine lv_iadd hx hb dX8_bars_114 ?_
            refine ra_i hx hb hB.1 hP 1 rfl (8 * (dg - 1) + q13.toNatClampNeg) (m8_d hd0 hq1) (by omega) (by decide) dX8_bars_115 ?_
            refine lv_isub hx hb dX8_bars_116 ?_
            refine va_mabs hx hb (hml.trans hl.1.symm) hown (hts _ (List.mem_of_getElem? (i := 5) rfl)) (hts _ (List.mem_of_getElem? (i := 6) rfl)) (hts _ (List.mem_of_getElem? (i := 7) rfl)) (hts _ (List.mem_of_getElem? (i := 8) rfl)) (Nat.le_of_ble_eq_true rfl) (Nat.le_of_ble_eq_true rfl) (Nat.zero_le _) (Nat.zero_le _) dX8_bars_117 ?_
            refine lv_aload_n hx hb dX8_bars_120 rfl (lv_at hl 1 rfl) ?_
            refine lv_iconst (v := 2) hx hb dX8_bars_121 (by decide) ?_
            refine k_i (w2 := [(mA, .inr (8, .int (nI nr) :: .int (nI np) :: .ref m2 :: .ref m3 :: .ref m4 :: .ref m5 :: .ref m6 :: .ref m7 :: .ref m8 :: .int q9 :: .int q10 :: .int q11 :: .int ((nI dg) - 1) :: .int q13 :: .int q14 :: .int q15 :: .int q16 :: .int q17 :: .int q18 :: .int q19 :: .int q20 :: .ref m21 :: .ref m22 :: .ref m23 :: .ref m24 :: .int (nI nb) :: .int (nI ln) :: .int (nI po) :: .int q28 :: .int (nI tk) :: .ref m30 :: .ref m31 :: .int (nI we) :: .int q33 :: [])), (m2, .inl (cI, 160, .inl d2)), (m30, .inl (cI, 77, .inl d30)), (m31, .inl (cI, 11, .inl d31))]) (va_runV (As := [.int 2]) (rest := [.int (if 0 ≤ ((d2 (8 * dg + place.toNatClampNeg)) - (d2 (8 * (dg - 1) + q13.toNatClampNeg))) then ((d2 (8 * dg + place.toNatClampNeg)) - (d2 (8 * (dg - 1) + q13.toNatClampNeg))) else 0 - ((d2 (8 * dg + place.toNatClampNeg)) - (d2 (8 * (dg - 1) + q13.toNatClampNeg))))]) ⟨hx, hb, hml, hown, hts⟩ (c_X8_now l _ mA m2 m3 m4 m5 m6 m7 m8 m21 m22 m23 m24 m30 m31 q9 q10 q11 q13 q14 q15 q16 q17 q18 q19 q20 q28 q33 nr np nb ln po tk we dg d30 d31 2 2 h20 h2r h2p h8 htk rfl (by decide)) (cwV 1 hts gX8_bars_X8_now rfl rfl rfl (by decide +kernel) ⟨Nat.le_of_ble_eq_true rfl, Nat.le_of_ble_eq_true rfl⟩) (pre_V (ci := 8) (q0 := 0) hB hz hA0 hP hD hS [0, 2, 3] rfl rfl rfl rfl rfl) rfl rfl hl.1 rfl (lv_room (Nat.le_of_ble_eq_true rfl)) dX8_bars_122 ⟨Nat.zero_le _, Nat.zero_le _⟩) hP hD hS hA [0, 2, 3] [1] [1, 0, 2, 3] rfl rfl rfl rfl rfl (fun H locs hP hD hS => ?_)
            refine lv_icmp_le (tgt := 130) hx hb dX8_bars_125 (by decide) (fun c_8 => ?_) (fun c_8 => ?_)
            · refine lv_aload_n hx hb dX8_bars_130 rfl (lv_at hl 1 rfl) ?_
              refine va_get (D := D) (ci := 8) (v := .int q14) (C := RX8) (T := TX8) (N := 34) hx hb hts hiX8 hown hB.1 hP 0 rfl rfl 14 (by decide) (hts _ (List.mem_of_getElem? (i := 11) rfl)) (fun _ h9 => h9) rfl dX8_bars_131 ?_
              refine lv_iconst (v := 2) hx hb dX8_bars_134 (by decide) ?_
              refine lv_iload_n hx hb dX8_bars_135 rfl (lv_at hl 0 rfl) ?_
              refine lv_imul hx hb dX8_bars_136 ?_
              refine lv_icmp_ge (tgt := 142) hx hb dX8_bars_137 (by decide) (fun c_9 => ?_) (fun c_9 => ?_)
              · refine lv_aload_n hx hb dX8_bars_142 rfl (lv_at hl 1 rfl) ?_
                refine va_get (D := D) (ci := 8) (v := .int q16) (C := RX8) (T := TX8) (N := 34) hx hb hts hiX8 hown hB.1 hP 0 rfl rfl 16 (by decide) (hts _ (List.mem_of_getElem? (i := 12) rfl)) (fun _ h9 => h9) rfl dX8_bars_143 ?_
                refine lv_aload_n hx hb dX8_bars_146 rfl (lv_at hl 1 rfl) ?_
                refine lv_iconst (v := 3) hx hb dX8_bars_147 (by decide) ?_
                refine k_i (w2 := [(mA, .inr (8, .int (nI nr) :: .int (nI np) :: .ref m2 :: .ref m3 :: .ref m4 :: .ref m5 :: .ref m6 :: .ref m7 :: .ref m8 :: .int q9 :: .int q10 :: .int q11 :: .int ((nI dg) - 1) :: .int q13 :: .int q14 :: .int q15 :: .int q16 :: .int q17 :: .int q18 :: .int q19 :: .int q20 :: .ref m21 :: .ref m22 :: .ref m23 :: .ref m24 :: .int (nI nb) :: .int (nI ln) :: .int (nI po) :: .int q28 :: .int (nI tk) :: .ref m30 :: .ref m31 :: .int (nI we) :: .int q33 :: [])), (m2, .inl (cI, 160, .inl d2)), (m30, .inl (cI, 77, .inl d30)), (m31, .inl (cI, 11, .inl d31))]) (va_runV (As := [.int 3]) (rest := [.int q16]) ⟨hx, hb, hml, hown, hts⟩ (c_X8_now l _ mA m2 m3 m4 m5 m6 m7 m8 m21 m22 m23 m24 m30 m31 q9 q10 q11 q13 q14 q15 q16 q17 q18 q19 q20 q28 q33 nr np nb ln po tk we dg d30 d31 3 3 h20 h2r h2p h8 htk rfl (by decide)) (cwV 1 hts gX8_bars_X8_now rfl rfl rfl (by decide +kernel) ⟨Nat.le_of_ble_eq_true rfl, Nat.le_of_ble_eq_true rfl⟩) (pre_V (ci := 8) (q0 := 0) hB hz hA0 hP hD hS [0, 2, 3] rfl rfl rfl rfl rfl) rfl rfl hl.1 rfl (lv_room (Nat.le_of_ble_eq_true rfl)) dX8_bars_148 ⟨Nat.zero_le _, Nat.zero_le _⟩) hP hD hS hA [0, 2, 3] [1] [1, 0, 2, 3] rfl rfl rfl rfl rfl (fun H locs hP hD hS => ?_)
                refine lv_icmp_le (tgt := 158) hx hb dX8_bars_151 (by decide) (fun c_10 => ?_) (fun c_10 => ?_)
                · refine lv_iconst (v := 0) hx hb dX8_bars_158 (by decide) ?_
                  have er : F_X8_bars q11 q13 q14 q15 q16 nr np tk dg d2 d30 d31 place = 0 := by rw [F_X8_bars, if_neg c_1, if_neg c_2, if_pos c_3, if_neg c_4, if_neg c_5, if_pos c_8, if_pos c_9, if_pos c_10]
                  exact W.iret hx hb hr (fun t ht hW => ⟨⟨_, (), rfl, er.symm, by rw [ht]; exact hP, hD⟩, hS.F ht⟩) hS.2.2 dX8_bars_159
                · refine lv_iconst (v := 5) hx hb dX8_bars_154 (by decide) ?_
                  refine lv_goto (tgt := 159) hx hb dX8_bars_155 (by decide) ?_
                  have er : F_X8_bars q11 q13 q14 q15 q16 nr np tk dg d2 d30 d31 place = 5 := by rw [F_X8_bars, if_neg c_1, if_neg c_2, if_pos c_3, if_neg c_4, if_neg c_5, if_pos c_8, if_pos c_9, if_neg c_10]
                  exact W.iret hx hb hr (fun t ht hW => ⟨⟨_, (), rfl, er.symm, by rw [ht]; exact hP, hD⟩, hS.F ht⟩) hS.2.2 dX8_bars_159
              · refine lv_iconst (v := 4) hx hb dX8_bars_140 (by decide) ?_
                have er : F_X8_bars q11 q13 q14 q15 q16 nr np tk dg d2 d30 d31 place = 4 := by rw [F_X8_bars, if_neg c_1, if_neg c_2, if_pos c_3, if_neg c_4, if_neg c_5, if_pos c_8, if_neg c_9]
                exact W.iret hx hb hr (fun t ht hW => ⟨⟨_, (), rfl, er.symm, by rw [ht]; exact hP, hD⟩, hS.F ht⟩) hS.2.2 dX8_bars_141
            · refine lv_iconst (v := 3) hx hb dX8_bars_128 (by decide) ?_
              have er : F_X8_bars q11 q13 q14 q15 q16 nr np tk dg d2 d30 d31 place = 3 := by rw [F_X8_bars, if_neg c_1, if_neg c_2, if_pos c_3, if_neg c_4, if_neg c_5, if_neg c_8]
              exact W.iret hx hb hr (fun t ht hW => ⟨⟨_, (), rfl, er.symm, by rw [ht]; exact hP, hD⟩, hS.F ht⟩) hS.2.2 dX8_bars_129
        · refine lv_iconst (v := 2) hx hb dX8_bars_88 (by decide) ?_
          have er : F_X8_bars q11 q13 q14 q15 q16 nr np tk dg d2 d30 d31 place = 2 := by rw [F_X8_bars, if_neg c_1, if_neg c_2, if_pos c_3, if_pos c_4]
          exact W.iret hx hb hr (fun t ht hW => ⟨⟨_, (), rfl, er.symm, by rw [ht]; exact hP, hD⟩, hS.F ht⟩) hS.2.2 dX8_bars_89
      · refine lv_iload_n hx hb dX8_bars_35 rfl (lv_at hl 1 rfl) ?_
        refine lv_aload_n hx hb dX8_bars_36 rfl (lv_at hl 0 rfl) ?_
        refine va_get (D := D) (ci := 8) (v := .int q13) (C := RX8) (T := TX8) (N := 34) hx hb hts hiX8 hown hB.1 hP 0 rfl rfl 13 (by decide) (hts _ (List.mem_of_getElem? (i := 4) rfl)) (fun _ h9 => h9) rfl dX8_bars_37 ?_
        refine lv_isub hx hb dX8_bars_40 ?_
        refine va_mabs hx hb (hml.trans hl.1.symm) hown (hts _ (List.mem_of_getElem? (i := 5) rfl)) (hts _ (List.mem_of_getElem? (i := 6) rfl)) (hts _ (List.mem_of_getElem? (i := 7) rfl)) (hts _ (List.mem_of_getElem? (i := 8) rfl)) (Nat.le_of_ble_eq_true rfl) (Nat.le_of_ble_eq_true rfl) (Nat.zero_le _) (Nat.zero_le _) dX8_bars_41 ?_
        refine lv_iconst (v := 1) hx hb dX8_bars_44 (by decide) ?_
        refine lv_icmp_le (tgt := 50) hx hb dX8_bars_45 (by decide) (fun c_11 => ?_) (fun c_11 => ?_)
        · refine lv_aload_n hx hb dX8_bars_50 rfl (lv_at hl 0 rfl) ?_
          refine va_get (D := D) (ci := 8) (v := .ref m2) (C := RX8) (T := TX8) (N := 34) hx hb hts hiX8 hown hB.1 hP 0 rfl rfl 2 (by decide) (hts _ (List.mem_of_getElem? (i := 9) rfl)) (fun _ h9 => h9) rfl dX8_bars_51 ?_
          refine lv_bipush (v := 8) hx hb dX8_bars_54 (by decide) ?_
          refine lv_aload_n hx hb dX8_bars_56 rfl (lv_at hl 0 rfl) ?_
          refine va_get (D := D) (ci := 8) (v := .int ((nI dg) - 1)) (C := RX8) (T := TX8) (N := 34) hx hb hts hiX8 hown hB.1 hP 0 rfl rfl 12 (by decide) (hts _ (List.mem_of_getElem? (i := 2) rfl)) (fun _ h9 => h9) rfl dX8_bars_57 ?_
          refine lv_imul hx hb dX8_bars_60 ?_
          refine lv_bipush (v := 8) hx hb dX8_bars_61 (by decide) ?_
          refine lv_iadd hx hb dX8_bars_63 ?_
          refine lv_iload_n hx hb dX8_bars_64 rfl (lv_at hl 1 rfl) ?_
          refine lv_iadd hx hb dX8_bars_65 ?_
          refine ra_i hx hb hB.1 hP 1 rfl (8 * dg + place.toNatClampNeg) (m8_p hp1) (by omega) (by decide) dX8_bars_66 ?_
          refine lv_istore_n (lv' := [(2, .int (d2 (8 * dg + place.toNatClampNeg))), (0, .ref mA), (1, .int place)]) hx hb dX8_bars_67 rfl hl (by decide) rfl (fun ls hl => ?_)
          refine lv_aload_n hx hb dX8_bars_68 rfl (lv_at hl 1 rfl) ?_
          refine va_get (D := D) (ci := 8) (v := .int q15) (C := RX8) (T := TX8) (N := 34) hx hb hts hiX8 hown hB.1 hP 0 rfl rfl 15 (by decide) (hts _ (List.mem_of_getElem? (i := 10) rfl)) (fun _ h9 => h9) rfl dX8_bars_69 ?_
          refine lv_aload_n hx hb dX8_bars_72 rfl (lv_at hl 1 rfl) ?_
          refine lv_iconst (v := 0) hx hb dX8_bars_73 (by decide) ?_
          refine k_i (w2 := [(mA, .inr (8, .int (nI nr) :: .int (nI np) :: .ref m2 :: .ref m3 :: .ref m4 :: .ref m5 :: .ref m6 :: .ref m7 :: .ref m8 :: .int q9 :: .int q10 :: .int q11 :: .int ((nI dg) - 1) :: .int q13 :: .int q14 :: .int q15 :: .int q16 :: .int q17 :: .int q18 :: .int q19 :: .int q20 :: .ref m21 :: .ref m22 :: .ref m23 :: .ref m24 :: .int (nI nb) :: .int (nI ln) :: .int (nI po) :: .int q28 :: .int (nI tk) :: .ref m30 :: .ref m31 :: .int (nI we) :: .int q33 :: [])), (m2, .inl (cI, 160, .inl d2)), (m30, .inl (cI, 77, .inl d30)), (m31, .inl (cI, 11, .inl d31))]) (va_runV (As := [.int 0]) (rest := [.int q15]) ⟨hx, hb, hml, hown, hts⟩ (c_X8_now l _ mA m2 m3 m4 m5 m6 m7 m8 m21 m22 m23 m24 m30 m31 q9 q10 q11 q13 q14 q15 q16 q17 q18 q19 q20 q28 q33 nr np nb ln po tk we dg d30 d31 0 0 h20 h2r h2p h8 htk rfl (by decide)) (cwV 1 hts gX8_bars_X8_now rfl rfl rfl (by decide +kernel) ⟨Nat.le_of_ble_eq_true rfl, Nat.le_of_ble_eq_true rfl⟩) (pre_V (ci := 8) (q0 := 0) hB hz hA0 hP hD hS [0, 2, 3] rfl rfl rfl rfl rfl) rfl rfl hl.1 rfl (lv_room (Nat.le_of_ble_eq_true rfl)) dX8_bars_74 ⟨Nat.zero_le _, Nat.zero_le _⟩) hP hD hS hA [0, 2, 3] [1] [1, 0, 2, 3] rfl rfl rfl rfl rfl (fun H locs hP hD hS => ?_)
          refine lv_aload_n hx hb dX8_bars_77 rfl (lv_at hl 1 rfl) ?_
          refine lv_iconst (v := 1) hx hb dX8_bars_78 (by decide) ?_
          refine k_i (w2 := [(mA, .inr (8, .int (nI nr) :: .int (nI np) :: .ref m2 :: .ref m3 :: .ref m4 :: .ref m5 :: .ref m6 :: .ref m7 :: .ref m8 :: .int q9 :: .int q10 :: .int q11 :: .int ((nI dg) - 1) :: .int q13 :: .int q14 :: .int q15 :: .int q16 :: .int q17 :: .int q18 :: .int q19 :: .int q20 :: .ref m21 :: .ref m22 :: .ref m23 :: .ref m24 :: .int (nI nb) :: .int (nI ln) :: .int (nI po) :: .int q28 :: .int (nI tk) :: .ref m30 :: .ref m31 :: .int (nI we) :: .int q33 :: [])), (m2, .inl (cI, 160, .inl d2)), (m30, .inl (cI, 77, .inl d30)), (m31, .inl (cI, 11, .inl d31))]) (va_runV (As := [.int 1]) (rest := [.int (F_X8_tellsOn tk d30 d31 q11 0), .int q15]) ⟨hx, hb, hml, hown, hts⟩ (c_X8_now l _ mA m2 m3 m4 m5 m6 m7 m8 m21 m22 m23 m24 m30 m31 q9 q10 q11 q13 q14 q15 q16 q17 q18 q19 q20 q28 q33 nr np nb ln po tk we dg d30 d31 1 1 h20 h2r h2p h8 htk rfl (by decide)) (cwV 1 hts gX8_bars_X8_now rfl rfl rfl (by decide +kernel) ⟨Nat.le_of_ble_eq_true rfl, Nat.le_of_ble_eq_true rfl⟩) (pre_V (ci := 8) (q0 := 0) hB hz hA0 hP hD hS [0, 2, 3] rfl rfl rfl rfl rfl) rfl rfl hl.1 rfl (lv_room (Nat.le_of_ble_eq_true rfl)) dX8_bars_79 ⟨Nat.zero_le _, Nat.zero_le _⟩) hP hD hS hA [0, 2, 3] [1] [1, 0, 2, 3] rfl rfl rfl rfl rfl (fun H locs hP hD hS => ?_)
          refine k_i (w2 := [(mA, .inr (8, .int (nI nr) :: .int (nI np) :: .ref m2 :: .ref m3 :: .ref m4 :: .ref m5 :: .ref m6 :: .ref m7 :: .ref m8 :: .int q9 :: .int q10 :: .int q11 :: .int ((nI dg) - 1) :: .int q13 :: .int q14 :: .int q15 :: .int q16 :: .int q17 :: .int q18 :: .int q19 :: .int q20 :: .ref m21 :: .ref m22 :: .ref m23 :: .ref m24 :: .int (nI nb) :: .int (nI ln) :: .int (nI po) :: .int q28 :: .int (nI tk) :: .ref m30 :: .ref m31 :: .int (nI we) :: .int q33 :: [])), (m2, .inl (cI, 160, .inl d2)), (m30, .inl (cI, 77, .inl d30)), (m31, .inl (cI, 11, .inl d31))]) (va_runS (As := [.int q15, .int (F_X8_tellsOn tk d30 d31 q11 0), .int (F_X8_tellsOn tk d30 d31 q11 1)]) (rest := []) ⟨hx, hb, hml, hown, hts⟩ (c_X8_isIn l _ q15 (F_X8_tellsOn tk d30 d31 q11 0) (F_X8_tellsOn tk d30 d31 q11 1)) (va_cwS 3 hts gX8_bars_X8_isIn rfl rfl rfl (by decide +kernel) ⟨Nat.le_of_ble_eq_true rfl, Nat.le_of_ble_eq_true rfl⟩) (pre_S hB hz hA0 hP hD hS [] rfl rfl) rfl rfl hl.1 rfl (lv_room (Nat.le_of_ble_eq_true rfl)) dX8_bars_82 ⟨Nat.zero_le _, Nat.zero_le _⟩) hP hD hS hA [] [0, 1, 2, 3] [0, 1, 2, 3] rfl rfl rfl rfl rfl (fun H locs hP hD hS => ?_)
          refine lv_if_ne (tgt := 90) hx hb dX8_bars_85 (by decide) (fun c_12 => ?_) (fun c_12 => ?_)
          · refine lv_aload_n hx hb dX8_bars_90 rfl (lv_at hl 1 rfl) ?_
            refine va_get (D := D) (ci := 8) (v := .int ((nI dg) - 1)) (C := RX8) (T := TX8) (N := 34) hx hb hts hiX8 hown hB.1 hP 0 rfl rfl 12 (by decide) (hts _ (List.mem_of_getElem? (i := 2) rfl)) (fun _ h9 => h9) rfl dX8_bars_91 ?_
            refine lv_iconst (v := (-1)) hx hb dX8_bars_94 (by decide) ?_
            refine lv_icmp_eq (tgt := 130) hx hb dX8_bars_95 (by decide) (fun c_13 => ?_) (fun c_13 => ?_)
            · refine lv_aload_n hx hb dX8_bars_130 rfl (lv_at hl 1 rfl) ?_
              refine va_get (D := D) (ci := 8) (v := .int q14) (C := RX8) (T := TX8) (N := 34) hx hb hts hiX8 hown hB.1 hP 0 rfl rfl 14 (by decide) (hts _ (List.mem_of_getElem? (i := 11) rfl)) (fun _ h9 => h9) rfl dX8_bars_131 ?_
              refine lv_iconst (v := 2) hx hb dX8_bars_134 (by decide) ?_
              refine lv_iload_n hx hb dX8_bars_135 rfl (lv_at hl 0 rfl) ?_
              refine lv_imul hx hb dX8_bars_136 ?_
              refine lv_icmp_ge (tgt := 142) hx hb dX8_bars_137 (by decide) (fun c_14 => ?_) (fun c_14 => ?_)
              · refine lv_aload_n hx hb dX8_bars_142 rfl (lv_at hl 1 rfl) ?_
                refine va_get (D := D) (ci := 8) (v := .int q16) (C := RX8) (T := TX8) (N := 34) hx hb hts hiX8 hown hB.1 hP 0 rfl rfl 16 (by decide) (hts _ (List.mem_of_getElem? (i := 12) rfl)) (fun _ h9 => h9) rfl dX8_bars_143 ?_
                refine lv_aload_n hx hb dX8_bars_146 rfl (lv_at hl 1 rfl) ?_
                refine lv_iconst (v := 3) hx hb dX8_bars_147 (by decide) ?_
                refine k_i (w2 := [(mA, .inr (8, .int (nI nr) :: .int (nI np) :: .ref m2 :: .ref m3 :: .ref m4 :: .ref m5 :: .ref m6 :: .ref m7 :: .ref m8 :: .int q9 :: .int q10 :: .int q11 :: .int ((nI dg) - 1) :: .int q13 :: .int q14 :: .int q15 :: .int q16 :: .int q17 :: .int q18 :: .int q19 :: .int q20 :: .ref m21 :: .ref m22 :: .ref m23 :: .ref m24 :: .int (nI nb) :: .int (nI ln) :: .int (nI po) :: .int q28 :: .int (nI tk) :: .ref m30 :: .ref m31 :: .int (nI we) :: .int q33 :: [])), (m2, .inl (cI, 160, .inl d2)), (m30, .inl (cI, 77, .inl d30)), (m31, .inl (cI, 11, .inl d31))]) (va_runV (As := [.int 3]) (rest := [.int q16]) ⟨hx, hb, hml, hown, hts⟩ (c_X8_now l _ mA m2 m3 m4 m5 m6 m7 m8 m21 m22 m23 m24 m30 m31 q9 q10 q11 q13 q14 q15 q16 q17 q18 q19 q20 q28 q33 nr np nb ln po tk we dg d30 d31 3 3 h20 h2r h2p h8 htk rfl (by decide)) (cwV 1 hts gX8_bars_X8_now rfl rfl rfl (by decide +kernel) ⟨Nat.le_of_ble_eq_true rfl, Nat.le_of_ble_eq_true rfl⟩) (pre_V (ci := 8) (q0 := 0) hB hz hA0 hP hD hS [0, 2, 3] rfl rfl rfl rfl rfl) rfl rfl hl.1 rfl (lv_room (Nat.le_of_ble_eq_true rfl)) dX8_bars_148 ⟨Nat.zero_le _, Nat.zero_le _⟩) hP hD hS hA [0, 2, 3] [1] [1, 0, 2, 3] rfl rfl rfl rfl rfl (fun H locs hP hD hS => ?_)
                refine lv_icmp_le (tgt := 158) hx hb dX8_bars_151 (by decide) (fun c_15 => ?_) (fun c_15 => ?_)
                · refine lv_iconst (v := 0) hx hb dX8_bars_158 (by decide) ?_
                  have er : F_X8_bars q11 q13 q14 q15 q16 nr np tk dg d2 d30 d31 place = 0 := by rw [F_X8_bars, if_neg c_1, if_neg c_2, if_neg c_3, if_pos c_11, if_neg c_12, if_pos c_13, if_pos c_14, if_pos c_15]
                  exact W.iret hx hb hr (fun t ht hW => ⟨⟨_, (), rfl, er.symm, by rw [ht]; exact hP, hD⟩, hS.F ht⟩) hS.2.2 dX8_bars_159
                · refine lv_iconst (v := 5) hx hb dX8_bars_154 (by decide) ?_
                  refine lv_goto (tgt := 159) hx hb dX8_bars_155 (by decide) ?_
                  have er : F_X8_bars q11 q13 q14 q15 q16 nr np tk dg d2 d30 d31 place = 5 := by rw [F_X8_bars, if_neg c_1, if_neg c_2, if_neg c_3, if_pos c_11, if_neg c_12, if_pos c_13, if_pos c_14, if_neg c_15]
                  exact W.iret hx hb hr (fun t ht hW => ⟨⟨_, (), rfl, er.symm, by rw [ht]; exact hP, hD⟩, hS.F ht⟩) hS.2.2 dX8_bars_159
              · refine lv_iconst (v := 4) hx hb dX8_bars_140 (by decide) ?_
                have er : F_X8_bars q11 q13 q14 q15 q16 nr np tk dg d2 d30 d31 place = 4 := by rw [F_X8_bars, if_neg c_1, if_neg c_2, if_neg c_3, if_pos c_11, if_neg c_12, if_pos c_13, if_neg c_14]
                exact W.iret hx hb hr (fun t ht hW => ⟨⟨_, (), rfl, er.symm, by rw [ht]; exact hP, hD⟩, hS.F ht⟩) hS.2.2 dX8_bars_141
            · have hd0 := m1_ne (by omega) c_13
              obtain ⟨hq1, hq2⟩ := hpl hd0
              refine lv_iload_n hx hb dX8_bars_98 rfl (lv_at hl 0 rfl) ?_
              refine lv_aload_n hx hb dX8_bars_99 rfl (lv_at hl 1 rfl) ?_
              refine va_get (D := D) (ci := 8) (v := .ref m2) (C := RX8) (T := TX8) (N := 34) hx hb hts hiX8 hown hB.1 hP 0 rfl rfl 2 (by decide) (hts _ (List.mem_of_getElem? (i := 9) rfl)) (fun _ h9 => h9) rfl dX8_bars_100 ?_
              refine lv_bipush (v := 8) hx hb dX8_bars_103 (by decide) ?_
              refine lv_aload_n hx hb dX8_bars_105 rfl (lv_at hl 1 rfl) ?_
              refine va_get (D := D) (ci := 8) (v := .int ((nI dg) - 1)) (C := RX8) (T := TX8) (N := 34) hx hb hts hiX8 hown hB.1 hP 0 rfl rfl 12 (by decide) (hts _ (List.mem_of_getElem? (i := 2) rfl)) (fun _ h9 => h9) rfl dX8_bars_106 ?_
              refine lv_imul hx hb dX8_bars_109 ?_
              refine lv_aload_n hx hb dX8_bars_110 rfl (lv_at hl 1 rfl) ?_
              refine va_get (D := D) (ci := 8) (v := .int q13) (C := RX8) (T := TX8) (N := 34) hx hb hts hiX8 hown hB.1 hP 0 rfl rfl 13 (by decide) (hts _ (List.mem_of_getElem? (i := 4) rfl)) (fun _ h9 => h9) rfl dX8_bars_111 ?_
              refine lv_iadd hx hb dX8_bars_114 ?_
              refine ra_i hx hb hB.1 hP 1 rfl (8 * (dg - 1) + q13.toNatClampNeg) (m8_d hd0 hq1) (by omega) (by decide) dX8_bars_115 ?_
              refine lv_isub hx hb dX8_bars_116 ?_
              refine va_mabs hx hb (hml.trans hl.1.symm) hown (hts _ (List.mem_of_getElem? (i := 5) rfl)) (hts _ (List.mem_of_getElem? (i := 6) rfl)) (hts _ (List.mem_of_getElem? (i := 7) rfl)) (hts _ (List.mem_of_getElem? (i := 8) rfl)) (Nat.le_of_ble_eq_true rfl) (Nat.le_of_ble_eq_true rfl) (Nat.zero_le _) (Nat.zero_le _) dX8_bars_117 ?_
              refine lv_aload_n hx hb dX8_bars_120 rfl (lv_at hl 1 rfl) ?_
              refine lv_iconst (v := 2) hx hb dX8_bars_121 (by decide) ?_
              refine k_i (w2 := [(mA, .inr (8, .int (nI nr) :: .int (nI np) :: .ref m2 :: .ref m3 :: .ref m4 :: .ref m5 :: .ref m6 :: .ref m7 :: .ref m8 :: .int q9 :: .int q10 :: .int q11 :: .int ((nI dg) - 1) :: .int q13 :: .int q14 :: .int q15 :: .int q16 :: .int q17 :: .int q18 :: .int q19 :: .int q20 :: .ref m21 :: .ref m22 :: .ref m23 :: .ref m24 :: .int (nI nb) :: .int (nI ln) :: .int (nI po) :: .int q28 :: .int (nI tk) :: .ref m30 :: .ref m31 :: .int (nI we) :: .int q33 :: [])), (m2, .inl (cI, 160, .inl d2)), (m30, .inl (cI, 77, .inl d30)), (m31, .inl (cI, 11, .inl d31))]) (va_runV (As := [.int 2]) (rest := [.int (if 0 ≤ ((d2 (8 * dg + place.toNatClampNeg)) - (d2 (8 * (dg - 1) + q13.toNatClampNeg))) then ((d2 (8 * dg + place.toNatClampNeg)) - (d2 (8 * (dg - 1) + q13.toNatClampNeg))) else 0 - ((d2 (8 * dg + place.toNatClampNeg)) - (d2 (8 * (dg - 1) + q13.toNatClampNeg))))]) ⟨hx, hb, hml, hown, hts⟩ (c_X8_now l _ mA m2 m3 m4 m5 m6 m7 m8 m21 m22 m23 m24 m30 m31 q9 q10 q11 q13 q14 q15 q16 q17 q18 q19 q20 q28 q33 nr np nb ln po tk we dg d30 d31 2 2 h20 h2r h2p h8 htk rfl (by decide)) (cwV 1 hts gX8_bars_X8_now rfl rfl rfl (by decide +kernel) ⟨Nat.le_of_ble_eq_true rfl, Nat.le_of_ble_eq_true rfl⟩) (pre_V (ci := 8) (q0 := 0) hB hz hA0 hP hD hS [0, 2, 3] rfl rfl rfl rfl rfl) rfl rfl hl.1 rfl (lv_room (Nat.le_of_ble_eq_true rfl)) dX8_bars_122 ⟨Nat.zero_le _, Nat.zero_le _⟩) hP hD hS hA [0, 2, 3] [1] [1, 0, 2, 3] rfl rfl rfl rfl rfl (fun H locs hP hD hS => ?_)
              refine lv_icmp_le (tgt := 130) hx hb dX8_bars_125 (by decide) (fun c_16 => ?_) (fun c_16 => ?_)
              · refine lv_aload_n hx hb dX8_bars_130 rfl (lv_at hl 1 rfl) ?_
                refine va_get (D := D) (ci := 8) (v := .int q14) (C := RX8) (T := TX8) (N := 34) hx hb hts hiX8 hown hB.1 hP 0 rfl rfl 14 (by decide) (hts _ (List.mem_of_getElem? (i := 11) rfl)) (fun _ h9 => h9) rfl dX8_bars_131 ?_
                refine lv_iconst (v := 2) hx hb dX8_bars_134 (by decide) ?_
                refine lv_iload_n hx hb dX8_bars_135 rfl (lv_at hl 0 rfl) ?_
                refine lv_imul hx hb dX8_bars_136 ?_
                refine lv_icmp_ge (tgt := 142) hx hb dX8_bars_137 (by decide) (fun c_17 => ?_) (fun c_17 => ?_)
                · refine lv_aload_n hx hb dX8_bars_142 rfl (lv_at hl 1 rfl) ?_
                  refine va_get (D := D) (ci := 8) (v := .int q16) (C := RX8) (T := TX8) (N := 34) hx hb hts hiX8 hown hB.1 hP 0 rfl rfl 16 (by decide) (hts _ (List.mem_of_getElem? (i := 12) rfl)) (fun _ h9 => h9) rfl dX8_bars_143 ?_
                  refine lv_aload_n hx hb dX8_bars_146 rfl (lv_at hl 1 rfl) ?_
                  refine lv_iconst (v := 3) hx hb dX8_bars_147 (by decide) ?_
                  refine k_i (w2 := [(mA, .inr (8, .int (nI nr) :: .int (nI np) :: .ref m2 :: .ref m3 :: .ref m4 :: .ref m5 :: .ref m6 :: .ref m7 :: .ref m8 :: .int q9 :: .int q10 :: .int q11 :: .int ((nI dg) - 1) :: .int q13 :: .int q14 :: .int q15 :: .int q16 :: .int q17 :: .int q18 :: .int q19 :: .int q20 :: .ref m21 :: .ref m22 :: .ref m23 :: .ref m24 :: .int (nI nb) :: .int (nI ln) :: .int (nI po) :: .int q28 :: .int (nI tk) :: .ref m30 :: .ref m31 :: .int (nI we) :: .int q33 :: [])), (m2, .inl (cI, 160, .inl d2)), (m30, .inl (cI, 77, .inl d30)), (m31, .inl (cI, 11, .inl d31))]) (va_runV (As := [.int 3]) (rest := [.int q16]) ⟨hx, hb, hml, hown, hts⟩ (c_X8_now l _ mA m2 m3 m4 m5 m6 m7 m8 m21 m22 m23 m24 m30 m31 q9 q10 q11 q13 q14 q15 q16 q17 q18 q19 q20 q28 q33 nr np nb ln po tk we dg d30 d31 3 3 h20 h2r h2p h8 htk rfl (by decide)) (cwV 1 hts gX8_bars_X8_now rfl rfl rfl (by decide +kernel) ⟨Nat.le_of_ble_eq_true rfl, Nat.le_of_ble_eq_true rfl⟩) (pre_V (ci := 8) (q0 := 0) hB hz hA0 hP hD hS [0, 2, 3] rfl rfl rfl rfl rfl) rfl rfl hl.1 rfl (lv_room (Nat.le_of_ble_eq_true rfl)) dX8_bars_148 ⟨Nat.zero_le _, Nat.zero_le _⟩) hP hD hS hA [0, 2, 3] [1] [1, 0, 2, 3] rfl rfl rfl rfl rfl (fun H locs hP hD hS => ?_)
                  refine lv_icmp_le (tgt := 158) hx hb dX8_bars_151 (by decide) (fun c_18 => ?_) (fun c_18 => ?_)
                  · refine lv_iconst (v := 0) hx hb dX8_bars_158 (by decide) ?_
                    have er : F_X8_bars q11 q13 q14 q15 q16 nr np tk dg d2 d30 d31 place = 0 := by rw [F_X8_bars, if_neg c_1, if_neg c_2, if_neg c_3, if_pos c_11, if_neg c_12, if_neg c_13, if_pos c_16, if_pos c_17, if_pos c_18]
                    exact W.iret hx hb hr (fun t ht hW => ⟨⟨_, (), rfl, er.symm, by rw [ht]; exact hP, hD⟩, hS.F ht⟩) hS.2.2 dX8_bars_159
                  · refine lv_iconst (v := 5) hx hb dX8_bars_154 (by decide) ?_
                    refine lv_goto (tgt := 159) hx hb dX8_bars_155 (by decide) ?_
                    have er : F_X8_bars q11 q13 q14 q15 q16 nr np tk dg d2 d30 d31 place = 5 := by rw [F_X8_bars, if_neg c_1, if_neg c_2, if_neg c_3, if_pos c_11, if_neg c_12, if_neg c_13, if_pos c_16, if_pos c_17, if_neg c_18]
                    exact W.iret hx hb hr (fun t ht hW => ⟨⟨_, (), rfl, er.symm, by rw [ht]; exact hP, hD⟩, hS.F ht⟩) hS.2.2 dX8_bars_159
                · refine lv_iconst (v := 4) hx hb dX8_bars_140 (by decide) ?_
                  have er : F_X8_bars q11 q13 q14 q15 q16 nr np tk dg d2 d30 d31 place = 4 := by rw [F_X8_bars, if_neg c_1, if_neg c_2, if_neg c_3, if_pos c_11, if_neg c_12, if_neg c_13, if_pos c_16, if_neg c_17]
                  exact W.iret hx hb hr (fun t ht hW => ⟨⟨_, (), rfl, er.symm, by rw [ht]; exact hP, hD⟩, hS.F ht⟩) hS.2.2 dX8_bars_141
              · refine lv_iconst (v := 3) hx hb dX8_bars_128 (by decide) ?_
                have er : F_X8_bars q11 q13 q14 q15 q16 nr np tk dg d2 d30 d31 place = 3 := by rw [F_X8_bars, if_neg c_1, if_neg c_2, if_neg c_3, if_pos c_11, if_neg c_12, if_neg c_13, if_neg c_16]
                exact W.iret hx hb hr (fun t ht hW => ⟨⟨_, (), rfl, er.symm, by rw [ht]; exact hP, hD⟩, hS.F ht⟩) hS.2.2 dX8_bars_129
          · refine lv_iconst (v := 2) hx hb dX8_bars_88 (by decide) ?_
            have er : F_X8_bars q11 q13 q14 q15 q16 nr np tk dg d2 d30 d31 place = 2 := by rw [F_X8_bars, if_neg c_1, if_neg c_2, if_neg c_3, if_pos c_11, if_pos c_12]
            exact W.iret hx hb hr (fun t ht hW => ⟨⟨_, (), rfl, er.symm, by rw [ht]; exact hP, hD⟩, hS.F ht⟩) hS.2.2 dX8_bars_89
        · refine lv_iconst (v := 1) hx hb dX8_bars_48 (by decide) ?_
          have er : F_X8_bars q11 q13 q14 q15 q16 nr np tk dg d2 d30 d31 place = 1 := by rw [F_X8_bars, if_neg c_1, if_neg c_2, if_neg c_3, if_neg c_11]
          exact W.iret hx hb hr (fun t ht hW => ⟨⟨_, (), rfl, er.symm, by rw [ht]; exact hP, hD⟩, hS.F ht⟩) hS.2.2 dX8_bars_49

theorem mbars_d {q13 q11 q14 q15 q16 : Int32} {nr np tk dg : Nat} {d2 d30 d31 : Nat → Int32} {place : Int32} (h1 : nr < 2 ^ 31) (h2 : np < 2 ^ 31) (h3 : dg ≤ nr) (h : F_X8_bars q11 q13 q14 q15 q16 nr np tk dg d2 d30 d31 place = 0) : dg < nr ∧ (place = nI place.toNatClampNeg ∧ place.toNatClampNeg < np) := by
  by_cases c : F_X8_isIn place 0 (nI np - 1) = 0
  · rw [F_X8_bars, if_pos c] at h
    exact absurd h (by decide)
  · by_cases c2 : nI dg - 1 = nI nr - 1
    · rw [F_X8_bars, if_neg c, if_pos c2] at h
      exact absurd h (by decide)
    · exact ⟨m1_lt h3 h1 c2, wn_ix h2 c⟩
def F_X8_dig (q11 : Int32) (q13 : Int32) (q14 : Int32) (q15 : Int32) (q16 : Int32) (q17 : Int32) (nr : Nat) (np : Nat) (tk : Nat) (dg : Nat) (d2 : Nat → Int32) (d30 : Nat → Int32) (d31 : Nat → Int32) (place : Int32) (tin : Int32) : Int32 :=
  if (F_X8_isIn tin 0 1000) = 0 then (-1) else
  if (F_X8_bars q11 q13 q14 q15 q16 nr np tk dg d2 d30 d31 place) = 0 then ((d2 (8 * dg + place.toNatClampNeg)) * tin) - ((((d2 (8 * dg + place.toNatClampNeg)) * tin) * ((q17 * q17) / 2)) / 100) else
  (-1)
def F_X8_dig_0_12 (q11 : Int32) (q13 : Int32) (q14 : Int32) (q15 : Int32) (q16 : Int32) (nr : Nat) (np : Nat) (tk : Nat) (dg : Nat) (d2 : Nat → Int32) (d30 : Nat → Int32) (d31 : Nat → Int32) (place : Int32) (tin : Int32) : Nat :=
  if (F_X8_isIn tin 0 1000) = 0 then dg else
  if (F_X8_bars q11 q13 q14 q15 q16 nr np tk dg d2 d30 d31 place) = 0 then (dg + 1) else
  dg
def F_X8_dig_0_13 (q11 : Int32) (q13 : Int32) (q14 : Int32) (q15 : Int32) (q16 : Int32) (nr : Nat) (np : Nat) (tk : Nat) (dg : Nat) (d2 : Nat → Int32) (d30 : Nat → Int32) (d31 : Nat → Int32) (place : Int32) (tin : Int32) : Int32 :=
  if (F_X8_isIn tin 0 1000) = 0 then q13 else
  if (F_X8_bars q11 q13 q14 q15 q16 nr np tk dg d2 d30 d31 place) = 0 then place else
  q13
def F_X8_dig_0_14 (q11 : Int32) (q13 : Int32) (q14 : Int32) (q15 : Int32) (q16 : Int32) (nr : Nat) (np : Nat) (tk : Nat) (dg : Nat) (d2 : Nat → Int32) (d30 : Nat → Int32) (d31 : Nat → Int32) (place : Int32) (tin : Int32) : Int32 :=
  if (F_X8_isIn tin 0 1000) = 0 then q14 else
  if (F_X8_bars q11 q13 q14 q15 q16 nr np tk dg d2 d30 d31 place) = 0 then (q14 - (2 * (d2 (8 * dg + place.toNatClampNeg)))) else
  q14
def F_X8_dig_0_16 (q11 : Int32) (q13 : Int32) (q14 : Int32) (q15 : Int32) (q16 : Int32) (nr : Nat) (np : Nat) (tk : Nat) (dg : Nat) (d2 : Nat → Int32) (d30 : Nat → Int32) (d31 : Nat → Int32) (place : Int32) (tin : Int32) : Int32 :=
  if (F_X8_isIn tin 0 1000) = 0 then q16 else
  if (F_X8_bars q11 q13 q14 q15 q16 nr np tk dg d2 d30 d31 place) = 0 then (q16 + (3 * (d2 (8 * dg + place.toNatClampNeg)))) else
  q16
def F_X8_dig_0_18 (q11 : Int32) (q13 : Int32) (q14 : Int32) (q15 : Int32) (q16 : Int32) (q17 : Int32) (q18 : Int32) (nr : Nat) (np : Nat) (tk : Nat) (dg : Nat) (d2 : Nat → Int32) (d30 : Nat → Int32) (d31 : Nat → Int32) (place : Int32) (tin : Int32) : Int32 :=
  if (F_X8_isIn tin 0 1000) = 0 then q18 else
  if (F_X8_bars q11 q13 q14 q15 q16 nr np tk dg d2 d30 d31 place) = 0 then q18 + (((d2 (8 * dg + place.toNatClampNeg)) * tin) - ((((d2 (8 * dg + place.toNatClampNeg)) * tin) * ((q17 * q17) / 2)) / 100)) else
  q18
def F_X8_dig_0_19 (q11 : Int32) (q13 : Int32) (q14 : Int32) (q15 : Int32) (q16 : Int32) (q17 : Int32) (q19 : Int32) (nr : Nat) (np : Nat) (tk : Nat) (dg : Nat) (d2 : Nat → Int32) (d30 : Nat → Int32) (d31 : Nat → Int32) (place : Int32) (tin : Int32) : Int32 :=
  if (F_X8_isIn tin 0 1000) = 0 then q19 else
  if (F_X8_bars q11 q13 q14 q15 q16 nr np tk dg d2 d30 d31 place) = 0 then q19 + ((((d2 (8 * dg + place.toNatClampNeg)) * tin) * ((q17 * q17) / 2)) / 100) else
  q19
def F_X8_dig_2 (q11 : Int32) (q13 : Int32) (q14 : Int32) (q15 : Int32) (q16 : Int32) (nr : Nat) (np : Nat) (tk : Nat) (dg : Nat) (d2 : Nat → Int32) (d3 : Nat → Int32) (d30 : Nat → Int32) (d31 : Nat → Int32) (place : Int32) (tin : Int32) : Nat → Int32 :=
  if (F_X8_isIn tin 0 1000) = 0 then d3 else
  if (F_X8_bars q11 q13 q14 q15 q16 nr np tk dg d2 d30 d31 place) = 0 then upd d3 (8 * dg + place.toNatClampNeg) tin else
  d3
def F_X8_dig_3 (q11 : Int32) (q13 : Int32) (q14 : Int32) (q15 : Int32) (q16 : Int32) (nr : Nat) (np : Nat) (tk : Nat) (dg : Nat) (d2 : Nat → Int32) (d4 : Nat → Int32) (d30 : Nat → Int32) (d31 : Nat → Int32) (place : Int32) (tin : Int32) : Nat → Int32 :=
  if (F_X8_isIn tin 0 1000) = 0 then d4 else
  if (F_X8_bars q11 q13 q14 q15 q16 nr np tk dg d2 d30 d31 place) = 0 then upd d4 (8 * dg + place.toNatClampNeg) q11 else
  d4
def F_X8_dig_4 (q11 : Int32) (q13 : Int32) (q14 : Int32) (q15 : Int32) (q16 : Int32) (nr : Nat) (np : Nat) (tk : Nat) (dg : Nat) (d2 : Nat → Int32) (d5 : Nat → Int32) (d30 : Nat → Int32) (d31 : Nat → Int32) (place : Int32) (tin : Int32) : Nat → Int32 :=
  if (F_X8_isIn tin 0 1000) = 0 then d5 else
  if (F_X8_bars q11 q13 q14 q15 q16 nr np tk dg d2 d30 d31 place) = 0 then upd d5 (8 * dg + place.toNatClampNeg) 1 else
  d5
def F_X8_dig_5 (q11 : Int32) (q13 : Int32) (q14 : Int32) (q15 : Int32) (q16 : Int32) (nr : Nat) (np : Nat) (tk : Nat) (dg : Nat) (d2 : Nat → Int32) (d6 : Nat → Int32) (d30 : Nat → Int32) (d31 : Nat → Int32) (place : Int32) (tin : Int32) : Nat → Int32 :=
  if (F_X8_isIn tin 0 1000) = 0 then d6 else
  if (F_X8_bars q11 q13 q14 q15 q16 nr np tk dg d2 d30 d31 place) = 0 then upd d6 (8 * dg + place.toNatClampNeg) 1 else
  d6
def F_X8_dig_6 (q11 : Int32) (q13 : Int32) (q14 : Int32) (q15 : Int32) (q16 : Int32) (q17 : Int32) (nr : Nat) (np : Nat) (tk : Nat) (dg : Nat) (d2 : Nat → Int32) (d21 : Nat → Int32) (d30 : Nat → Int32) (d31 : Nat → Int32) (place : Int32) (tin : Int32) : Nat → Int32 :=
  if (F_X8_isIn tin 0 1000) = 0 then d21 else
  if (F_X8_bars q11 q13 q14 q15 q16 nr np tk dg d2 d30 d31 place) = 0 then upd d21 ((q11 / 30).toNatClampNeg) ((d21 ((q11 / 30).toNatClampNeg)) + (((d2 (8 * dg + place.toNatClampNeg)) * tin) - ((((d2 (8 * dg + place.toNatClampNeg)) * tin) * ((q17 * q17) / 2)) / 100))) else
  d21
set_option maxHeartbeats 4000000 in
set_option maxRecDepth 100000 in
theorem c_X8_dig (l : Launch) {D : va_G} {cI cZ cB : ClassId} {au : Nat} {kA kV : Nat → Nat} {z0 : Nat} (sz : Nat) (mA : Nat) (m2 : Nat) (m3 : Nat) (m4 : Nat) (m5 : Nat) (m6 : Nat) (m7 : Nat) (m8 : Nat) (m21 : Nat) (m22 : Nat) (m23 : Nat) (m24 : Nat) (m30 : Nat) (m31 : Nat) (q9 : Int32) (q10 : Int32) (q11 : Int32) (q13 : Int32) (q14 : Int32) (q15 : Int32) (q16 : Int32) (q17 : Int32) (q18 : Int32) (q19 : Int32) (q20 : Int32) (q28 : Int32) (q33 : Int32) (nr : Nat) (np : Nat) (nb : Nat) (ln : Nat) (po : Nat) (tk : Nat) (we : Nat) (dg : Nat) (d2 : Nat → Int32) (d3 : Nat → Int32) (d4 : Nat → Int32) (d5 : Nat → Int32) (d6 : Nat → Int32) (d21 : Nat → Int32) (d30 : Nat → Int32) (d31 : Nat → Int32) (place : Int32) (tin : Int32) (h20 : nr ≤ 20) (h2r : 2 ≤ nr) (h2p : 2 ≤ np) (h8 : np ≤ 8) (hdg : dg ≤ nr) (hpl : 0 < dg → q13 = nI q13.toNatClampNeg ∧ q13.toNatClampNeg < np) (htk : tk ≤ 10) (hmo : q11 / 30 = nI (q11 / 30).toNatClampNeg ∧ (q11 / 30).toNatClampNeg < 21) : Met l yX8_dig wsX8_dig ({ frames := 4, cells := 0, slots := 0, locals := 89 }) (va_Pc [.ref mA, .int place, .int tin] (PRE D cI cZ cB au kA kV z0 sz [(mA, .inr (8, .int (nI nr) :: .int (nI np) :: .ref m2 :: .ref m3 :: .ref m4 :: .ref m5 :: .ref m6 :: .ref m7 :: .ref m8 :: .int q9 :: .int q10 :: .int q11 :: .int ((nI dg) - 1) :: .int q13 :: .int q14 :: .int q15 :: .int q16 :: .int q17 :: .int q18 :: .int q19 :: .int q20 :: .ref m21 :: .ref m22 :: .ref m23 :: .ref m24 :: .int (nI nb) :: .int (nI ln) :: .int (nI po) :: .int q28 :: .int (nI tk) :: .ref m30 :: .ref m31 :: .int (nI we) :: .int q33 :: [])), (m2, .inl (cI, 160, .inl d2)), (m3, .inl (cI, 160, .inl d3)), (m4, .inl (cI, 160, .inl d4)), (m5, .inl (cZ, 160, .inl d5)), (m6, .inl (cZ, 160, .inl d6)), (m21, .inl (cI, 21, .inl d21)), (m30, .inl (cI, 77, .inl d30)), (m31, .inl (cI, 11, .inl d31))])) (QI D [(mA, .inr (8, .int (nI nr) :: .int (nI np) :: .ref m2 :: .ref m3 :: .ref m4 :: .ref m5 :: .ref m6 :: .ref m7 :: .ref m8 :: .int q9 :: .int q10 :: .int q11 :: .int ((nI dg) - 1) :: .int q13 :: .int q14 :: .int q15 :: .int q16 :: .int q17 :: .int q18 :: .int q19 :: .int q20 :: .ref m21 :: .ref m22 :: .ref m23 :: .ref m24 :: .int (nI nb) :: .int (nI ln) :: .int (nI po) :: .int q28 :: .int (nI tk) :: .ref m30 :: .ref m31 :: .int (nI we) :: .int q33 :: [])), (m2, .inl (cI, 160, .inl d2)), (m3, .inl (cI, 160, .inl d3)), (m4, .inl (cI, 160, .inl d4)), (m5, .inl (cZ, 160, .inl d5)), (m6, .inl (cZ, 160, .inl d6)), (m21, .inl (cI, 21, .inl d21)), (m30, .inl (cI, 77, .inl d30)), (m31, .inl (cI, 11, .inl d31))] sz (F_X8_dig q11 q13 q14 q15 q16 q17 nr np tk dg d2 d30 d31 place tin) [(mA, .inr (8, .int (nI nr) :: .int (nI np) :: .ref m2 :: .ref m3 :: .ref m4 :: .ref m5 :: .ref m6 :: .ref m7 :: .ref m8 :: .int q9 :: .int q10 :: .int q11 :: .int ((nI (F_X8_dig_0_12 q11 q13 q14 q15 q16 nr np tk dg d2 d30 d31 place tin)) - 1) :: .int (F_X8_dig_0_13 q11 q13 q14 q15 q16 nr np tk dg d2 d30 d31 place tin) :: .int (F_X8_dig_0_14 q11 q13 q14 q15 q16 nr np tk dg d2 d30 d31 place tin) :: .int q15 :: .int (F_X8_dig_0_16 q11 q13 q14 q15 q16 nr np tk dg d2 d30 d31 place tin) :: .int q17 :: .int (F_X8_dig_0_18 q11 q13 q14 q15 q16 q17 q18 nr np tk dg d2 d30 d31 place tin) :: .int (F_X8_dig_0_19 q11 q13 q14 q15 q16 q17 q19 nr np tk dg d2 d30 d31 place tin) :: .int q20 :: .ref m21 :: .ref m22 :: .ref m23 :: .ref m24 :: .int (nI nb) :: .int (nI ln) :: .int (nI po) :: .int q28 :: .int (nI tk) :: .ref m30 :: .ref m31 :: .int (nI we) :: .int q33 :: [])), (m2, .inl (cI, 160, .inl d2)), (m3, .inl (cI, 160, .inl (F_X8_dig_2 q11 q13 q14 q15 q16 nr np tk dg d2 d3 d30 d31 place tin))), (m4, .inl (cI, 160, .inl (F_X8_dig_3 q11 q13 q14 q15 q16 nr np tk dg d2 d4 d30 d31 place tin))), (m5, .inl (cZ, 160, .inl (F_X8_dig_4 q11 q13 q14 q15 q16 nr np tk dg d2 d5 d30 d31 place tin))), (m6, .inl (cZ, 160, .inl (F_X8_dig_5 q11 q13 q14 q15 q16 nr np tk dg d2 d6 d30 d31 place tin))), (m21, .inl (cI, 21, .inl (F_X8_dig_6 q11 q13 q14 q15 q16 q17 nr np tk dg d2 d21 d30 d31 place tin))), (m30, .inl (cI, 77, .inl d30)), (m31, .inl (cI, 11, .inl d31))]) 0 0 (va_A [(mA, .inr (8, .int (nI nr) :: .int (nI np) :: .ref m2 :: .ref m3 :: .ref m4 :: .ref m5 :: .ref m6 :: .ref m7 :: .ref m8 :: .int q9 :: .int q10 :: .int q11 :: .int ((nI dg) - 1) :: .int q13 :: .int q14 :: .int q15 :: .int q16 :: .int q17 :: .int q18 :: .int q19 :: .int q20 :: .ref m21 :: .ref m22 :: .ref m23 :: .ref m24 :: .int (nI nb) :: .int (nI ln) :: .int (nI po) :: .int q28 :: .int (nI tk) :: .ref m30 :: .ref m31 :: .int (nI we) :: .int q33 :: [])), (m2, .inl (cI, 160, .inl d2)), (m3, .inl (cI, 160, .inl d3)), (m4, .inl (cI, 160, .inl d4)), (m5, .inl (cZ, 160, .inl d5)), (m6, .inl (cZ, 160, .inl d6)), (m21, .inl (cI, 21, .inl d21)), (m30, .inl (cI, 77, .inl d30)), (m31, .inl (cI, 11, .inl d31))] sz) := by
  refine Met.ofW (cc := cX8_dig) (maxL := 6) (ret := (some .int)) (by decide) rfl ?_
  intro p e s m args below meth c s₁ B hml hv
  obtain ⟨rfl, hsz, hz, hP, hD0, hB⟩ := hv
  have hx := B.exec
  have hb := B.bytes
  have hr := B.returns
  have hts := atoms_spec (ws := wsX8_dig) B.pre
  have hown : s.vm.findClass RX8 = some m.cls := findClass_of_methodNamed B.named
  have hlocks := B.notSynchronized
  subst hsz
  have hD := hD0.self (sz := s.heap.size)
  have hA0 := va_A0 hD0 hz
  unfold QI
  generalize hAe : va_A [(mA, .inr (8, .int (nI nr) :: .int (nI np) :: .ref m2 :: .ref m3 :: .ref m4 :: .ref m5 :: .ref m6 :: .ref m7 :: .ref m8 :: .int q9 :: .int q10 :: .int q11 :: .int ((nI dg) - 1) :: .int q13 :: .int q14 :: .int q15 :: .int q16 :: .int q17 :: .int q18 :: .int q19 :: .int q20 :: .ref m21 :: .ref m22 :: .ref m23 :: .ref m24 :: .int (nI nb) :: .int (nI ln) :: .int (nI po) :: .int q28 :: .int (nI tk) :: .ref m30 :: .ref m31 :: .int (nI we) :: .int q33 :: [])), (m2, .inl (cI, 160, .inl d2)), (m3, .inl (cI, 160, .inl d3)), (m4, .inl (cI, 160, .inl d4)), (m5, .inl (cZ, 160, .inl d5)), (m6, .inl (cZ, 160, .inl d6)), (m21, .inl (cI, 21, .inl d21)), (m30, .inl (cI, 77, .inl d30)), (m31, .inl (cI, 11, .inl d31))] s.heap.size = A at hD hA0 ⊢
  have hA : ∀ q : Nat, s.heap.size ≤ q → A q := fun q h => by rw [← hAe]; exact Or.inr h
  have hS : va_S A s.heap s.heap [] := va_S.rf
  have hiX8 : ∀ w ∈ wsX80, w ∈ wsX8_dig := fun w h => List.mem_cons_of_mem _ (List.mem_append_right _ h)
  have hl := lv_entry ([.ref mA, .int place, .int tin]) (n := 6) (Nat.le_of_ble_eq_true rfl)
  rw [lg_entry_eq]
  generalize (lg_sl ([.ref mA, .int place, .int tin]) ++ List.replicate (6 - (lg_sl ([.ref mA, .int place, .int tin])).length) Slot.unset).toArray = ls at hl ⊢
  have hl : lv_has ls 6 [(0, .ref mA), (1, .int place), (2, .int tin)] := hl
  refine lv_iload_n hx hb dX8_dig_0 rfl (lv_at hl 2 rfl) ?_
  refine lv_iconst (v := 0) hx hb dX8_dig_1 (by decide) ?_
  refine lv_sipush (v := 1000) hx hb dX8_dig_2 (by decide) ?_
  refine k_i (w2 := [(mA, .inr (8, .int (nI nr) :: .int (nI np) :: .ref m2 :: .ref m3 :: .ref m4 :: .ref m5 :: .ref m6 :: .ref m7 :: .ref m8 :: .int q9 :: .int q10 :: .int q11 :: .int ((nI dg) - 1) :: .int q13 :: .int q14 :: .int q15 :: .int q16 :: .int q17 :: .int q18 :: .int q19 :: .int q20 :: .ref m21 :: .ref m22 :: .ref m23 :: .ref m24 :: .int (nI nb) :: .int (nI ln) :: .int (nI po) :: .int q28 :: .int (nI tk) :: .ref m30 :: .ref m31 :: .int (nI we) :: .int q33 :: [])), (m2, .inl (cI, 160, .inl d2)), (m3, .inl (cI, 160, .inl d3)), (m4, .inl (cI, 160, .inl d4)), (m5, .inl (cZ, 160, .inl d5)), (m6, .inl (cZ, 160, .inl d6)), (m21, .inl (cI, 21, .inl d21)), (m30, .inl (cI, 77, .inl d30)), (m31, .inl (cI, 11, .inl d31))]) (va_runS (As := [.int tin, .int 0, .int 1000]) (rest := []) ⟨hx, hb, hml, hown, hts⟩ (c_X8_isIn l _ tin 0 1000) (va_cwS 3 hts gX8_dig_X8_isIn rfl rfl rfl (by decide +kernel) ⟨Nat.le_of_ble_eq_true rfl, Nat.le_of_ble_eq_true rfl⟩) (pre_S hB hz hA0 hP hD hS [] rfl rfl) rfl rfl hl.1 rfl (lv_room (Nat.le_of_ble_eq_true rfl)) dX8_dig_5 ⟨Nat.zero_le _, Nat.zero_le _⟩) hP hD hS hA [] [0, 1, 2, 3, 4, 5, 6, 7, 8] [0, 1, 2, 3, 4, 5, 6, 7, 8] rfl rfl rfl rfl rfl (fun H locs hP hD hS => ?_)
  refine lv_if_eq (tgt := 19) hx hb dX8_dig_8 (by decide) (fun c_1 => ?_) (fun c_1 => ?_)
  · refine lv_iconst (v := (-1)) hx hb dX8_dig_19 (by decide) ?_
    have er : F_X8_dig q11 q13 q14 q15 q16 q17 nr np tk dg d2 d30 d31 place tin = (-1) := by rw [F_X8_dig, if_pos c_1]
    have e0_12 : (nI (F_X8_dig_0_12 q11 q13 q14 q15 q16 nr np tk dg d2 d30 d31 place tin)) - 1 = (nI dg) - 1 := by rw [F_X8_dig_0_12, if_pos c_1]
    have e0_13 : F_X8_dig_0_13 q11 q13 q14 q15 q16 nr np tk dg d2 d30 d31 place tin = q13 := by rw [F_X8_dig_0_13, if_pos c_1]
    have e0_14 : F_X8_dig_0_14 q11 q13 q14 q15 q16 nr np tk dg d2 d30 d31 place tin = q14 := by rw [F_X8_dig_0_14, if_pos c_1]
    have e0_16 : F_X8_dig_0_16 q11 q13 q14 q15 q16 nr np tk dg d2 d30 d31 place tin = q16 := by rw [F_X8_dig_0_16, if_pos c_1]
    have e0_18 : F_X8_dig_0_18 q11 q13 q14 q15 q16 q17 q18 nr np tk dg d2 d30 d31 place tin = q18 := by rw [F_X8_dig_0_18, if_pos c_1]
    have e0_19 : F_X8_dig_0_19 q11 q13 q14 q15 q16 q17 q19 nr np tk dg d2 d30 d31 place tin = q19 := by rw [F_X8_dig_0_19, if_pos c_1]
    have e2 : F_X8_dig_2 q11 q13 q14 q15 q16 nr np tk dg d2 d3 d30 d31 place tin = d3 := by rw [F_X8_dig_2, if_pos c_1]
    have e3 : F_X8_dig_3 q11 q13 q14 q15 q16 nr np tk dg d2 d4 d30 d31 place tin = d4 := by rw [F_X8_dig_3, if_pos c_1]
    have e4 : F_X8_dig_4 q11 q13 q14 q15 q16 nr np tk dg d2 d5 d30 d31 place tin = d5 := by rw [F_X8_dig_4, if_pos c_1]
    have e5 : F_X8_dig_5 q11 q13 q14 q15 q16 nr np tk dg d2 d6 d30 d31 place tin = d6 := by rw [F_X8_dig_5, if_pos c_1]
    have e6 : F_X8_dig_6 q11 q13 q14 q15 q16 q17 nr np tk dg d2 d21 d30 d31 place tin = d21 := by rw [F_X8_dig_6, if_pos c_1]
    exact W.iret hx hb hr (fun t ht hW => ⟨⟨_, (), rfl, er.symm, by rw [ht, e0_12, e0_13, e0_14, e0_16, e0_18, e0_19, e2, e3, e4, e5, e6]; exact hP, by rw [e0_12, e0_13, e0_14, e0_16, e0_18, e0_19, e2, e3, e4, e5, e6]; exact hD⟩, hS.F ht⟩) hS.2.2 dX8_dig_20
  · refine lv_aload_n hx hb dX8_dig_11 rfl (lv_at hl 0 rfl) ?_
    refine lv_iload_n hx hb dX8_dig_12 rfl (lv_at hl 1 rfl) ?_
    refine k_i (w2 := [(mA, .inr (8, .int (nI nr) :: .int (nI np) :: .ref m2 :: .ref m3 :: .ref m4 :: .ref m5 :: .ref m6 :: .ref m7 :: .ref m8 :: .int q9 :: .int q10 :: .int q11 :: .int ((nI dg) - 1) :: .int q13 :: .int q14 :: .int q15 :: .int q16 :: .int q17 :: .int q18 :: .int q19 :: .int q20 :: .ref m21 :: .ref m22 :: .ref m23 :: .ref m24 :: .int (nI nb) :: .int (nI ln) :: .int (nI po) :: .int q28 :: .int (nI tk) :: .ref m30 :: .ref m31 :: .int (nI we) :: .int q33 :: [])), (m2, .inl (cI, 160, .inl d2)), (m3, .inl (cI, 160, .inl d3)), (m4, .inl (cI, 160, .inl d4)), (m5, .inl (cZ, 160, .inl d5)), (m6, .inl (cZ, 160, .inl d6)), (m21, .inl (cI, 21, .inl d21)), (m30, .inl (cI, 77, .inl d30)), (m31, .inl (cI, 11, .inl d31))]) (va_runV (As := [.int place]) (rest := []) ⟨hx, hb, hml, hown, hts⟩ (c_X8_bars l _ mA m2 m3 m4 m5 m6 m7 m8 m21 m22 m23 m24 m30 m31 q9 q10 q11 q13 q14 q15 q16 q17 q18 q19 q20 q28 q33 nr np nb ln po tk we dg d2 d30 d31 place h20 h2r h2p h8 hdg hpl htk) (cwV 1 hts gX8_dig_X8_bars rfl rfl rfl (by decide +kernel) ⟨Nat.le_of_ble_eq_true rfl, Nat.le_of_ble_eq_true rfl⟩) (pre_V (ci := 8) (q0 := 0) hB hz hA0 hP hD hS [0, 1, 7, 8] rfl rfl rfl rfl rfl) rfl rfl hl.1 rfl (lv_room (Nat.le_of_ble_eq_true rfl)) dX8_dig_13 ⟨Nat.zero_le _, Nat.zero_le _⟩) hP hD hS hA [0, 1, 7, 8] [2, 3, 4, 5, 6] [5, 6, 0, 1, 2, 3, 4, 7, 8] rfl rfl rfl rfl rfl (fun H locs hP hD hS => ?_)
    refine lv_if_eq (tgt := 21) hx hb dX8_dig_16 (by decide) (fun c_2 => ?_) (fun c_2 => ?_)
    · obtain ⟨hd1, hp1, hp2⟩ := mbars_d (by omega) (by omega) hdg c_2
      have hk3 := m8_s (d := dg) hp1
      refine lv_aload_n hx hb dX8_dig_21 rfl (lv_at hl 0 rfl) ?_
      refine lv_dup hx hb dX8_dig_22 rfl ?_
      refine va_get (D := D) (ci := 8) (v := .int ((nI dg) - 1)) (C := RX8) (T := TX8) (N := 34) hx hb hts hiX8 hown hB.1 hP 0 rfl rfl 12 (by decide) (hts _ (List.mem_of_getElem? (i := 1) rfl)) (fun _ h9 => h9) rfl dX8_dig_23 ?_
      refine lv_iconst (v := 1) hx hb dX8_dig_26 (by decide) ?_
      refine lv_iadd hx hb dX8_dig_27 ?_
      rw [m1s]
      refine pf (w2 := [(mA, .inr (8, .int (nI nr) :: .int (nI np) :: .ref m2 :: .ref m3 :: .ref m4 :: .ref m5 :: .ref m6 :: .ref m7 :: .ref m8 :: .int q9 :: .int q10 :: .int q11 :: .int ((nI (dg + 1)) - 1) :: .int q13 :: .int q14 :: .int q15 :: .int q16 :: .int q17 :: .int q18 :: .int q19 :: .int q20 :: .ref m21 :: .ref m22 :: .ref m23 :: .ref m24 :: .int (nI nb) :: .int (nI ln) :: .int (nI po) :: .int q28 :: .int (nI tk) :: .ref m30 :: .ref m31 :: .int (nI we) :: .int q33 :: [])), (m2, .inl (cI, 160, .inl d2)), (m3, .inl (cI, 160, .inl d3)), (m4, .inl (cI, 160, .inl d4)), (m5, .inl (cZ, 160, .inl d5)), (m6, .inl (cZ, 160, .inl d6)), (m21, .inl (cI, 21, .inl d21)), (m30, .inl (cI, 77, .inl d30)), (m31, .inl (cI, 11, .inl d31))]) (ci := 8) (C := RX8) (T := TX8) (N := 34) hx hb hts hiX8 tyX8 tyX8_ok nmX8 hown hB.1 hP hD hS 0 rfl rfl 12 (by decide) (hts _ (List.mem_of_getElem? (i := 1) rfl)) rfl rfl rfl rfl (Nat.le_of_ble_eq_true rfl) rfl dX8_dig_28 (fun H locs hP hD hS => ?_)
      refine lv_aload_n hx hb dX8_dig_31 rfl (lv_at hl 0 rfl) ?_
      refine lv_iload_n hx hb dX8_dig_32 rfl (lv_at hl 1 rfl) ?_
      refine pf (w2 := [(mA, .inr (8, .int (nI nr) :: .int (nI np) :: .ref m2 :: .ref m3 :: .ref m4 :: .ref m5 :: .ref m6 :: .ref m7 :: .ref m8 :: .int q9 :: .int q10 :: .int q11 :: .int ((nI (dg + 1)) - 1) :: .int place :: .int q14 :: .int q15 :: .int q16 :: .int q17 :: .int q18 :: .int q19 :: .int q20 :: .ref m21 :: .ref m22 :: .ref m23 :: .ref m24 :: .int (nI nb) :: .int (nI ln) :: .int (nI po) :: .int q28 :: .int (nI tk) :: .ref m30 :: .ref m31 :: .int (nI we) :: .int q33 :: [])), (m2, .inl (cI, 160, .inl d2)), (m3, .inl (cI, 160, .inl d3)), (m4, .inl (cI, 160, .inl d4)), (m5, .inl (cZ, 160, .inl d5)), (m6, .inl (cZ, 160, .inl d6)), (m21, .inl (cI, 21, .inl d21)), (m30, .inl (cI, 77, .inl d30)), (m31, .inl (cI, 11, .inl d31))]) (ci := 8) (C := RX8) (T := TX8) (N := 34) hx hb hts hiX8 tyX8 tyX8_ok nmX8 hown hB.1 hP hD hS 0 rfl rfl 13 (by decide) (hts _ (List.mem_of_getElem? (i := 2) rfl)) rfl rfl rfl rfl (Nat.le_of_ble_eq_true rfl) rfl dX8_dig_33 (fun H locs hP hD hS => ?_)
      refine lv_bipush (v := 8) hx hb dX8_dig_36 (by decide) ?_
      refine lv_aload_n hx hb dX8_dig_38 rfl (lv_at hl 0 rfl) ?_
      refine va_get (D := D) (ci := 8) (v := .int ((nI (dg + 1)) - 1)) (C := RX8) (T := TX8) (N := 34) hx hb hts hiX8 hown hB.1 hP 0 rfl rfl 12 (by decide) (hts _ (List.mem_of_getElem? (i := 1) rfl)) (fun _ h9 => h9) rfl dX8_dig_39 ?_
      refine lv_imul hx hb dX8_dig_42 ?_
      refine lv_iload_n hx hb dX8_dig_43 rfl (lv_at hl 1 rfl) ?_
      refine lv_iadd hx hb dX8_dig_44 ?_
      refine lv_istore_n (lv' := [(3, .int ((8 * ((nI (dg + 1)) - 1)) + place)), (0, .ref mA), (1, .int place), (2, .int tin)]) hx hb dX8_dig_45 rfl hl (by decide) rfl (fun ls hl => ?_)
      refine lv_aload_n hx hb dX8_dig_46 rfl (lv_at hl 1 rfl) ?_
      refine lv_dup hx hb dX8_dig_47 rfl ?_
      refine va_get (D := D) (ci := 8) (v := .int q14) (C := RX8) (T := TX8) (N := 34) hx hb hts hiX8 hown hB.1 hP 0 rfl rfl 14 (by decide) (hts _ (List.mem_of_getElem? (i := 3) rfl)) (fun _ h9 => h9) rfl dX8_dig_48 ?_
      refine lv_iconst (v := 2) hx hb dX8_dig_51 (by decide) ?_
      refine lv_aload_n hx hb dX8_dig_52 rfl (lv_at hl 1 rfl) ?_
      refine va_get (D := D) (ci := 8) (v := .ref m2) (C := RX8) (T := TX8) (N := 34) hx hb hts hiX8 hown hB.1 hP 0 rfl rfl 2 (by decide) (hts _ (List.mem_of_getElem? (i := 4) rfl)) (fun _ h9 => h9) rfl dX8_dig_53 ?_
      refine lv_iload_n hx hb dX8_dig_56 rfl (lv_at hl 0 rfl) ?_
      refine ra_i hx hb hB.1 hP 1 rfl (8 * dg + place.toNatClampNeg) hk3 (by omega) (by decide) dX8_dig_57 ?_
      refine lv_imul hx hb dX8_dig_58 ?_
      refine lv_isub hx hb dX8_dig_59 ?_
      refine pf (w2 := [(mA, .inr (8, .int (nI nr) :: .int (nI np) :: .ref m2 :: .ref m3 :: .ref m4 :: .ref m5 :: .ref m6 :: .ref m7 :: .ref m8 :: .int q9 :: .int q10 :: .int q11 :: .int ((nI (dg + 1)) - 1) :: .int place :: .int (q14 - (2 * (d2 (8 * dg + place.toNatClampNeg)))) :: .int q15 :: .int q16 :: .int q17 :: .int q18 :: .int q19 :: .int q20 :: .ref m21 :: .ref m22 :: .ref m23 :: .ref m24 :: .int (nI nb) :: .int (nI ln) :: .int (nI po) :: .int q28 :: .int (nI tk) :: .ref m30 :: .ref m31 :: .int (nI we) :: .int q33 :: [])), (m2, .inl (cI, 160, .inl d2)), (m3, .inl (cI, 160, .inl d3)), (m4, .inl (cI, 160, .inl d4)), (m5, .inl (cZ, 160, .inl d5)), (m6, .inl (cZ, 160, .inl d6)), (m21, .inl (cI, 21, .inl d21)), (m30, .inl (cI, 77, .inl d30)), (m31, .inl (cI, 11, .inl d31))]) (ci := 8) (C := RX8) (T := TX8) (N := 34) hx hb hts hiX8 tyX8 tyX8_ok nmX8 hown hB.1 hP hD hS 0 rfl rfl 14 (by decide) (hts _ (List.mem_of_getElem? (i := 3) rfl)) rfl rfl rfl rfl (Nat.le_of_ble_eq_true rfl) rfl dX8_dig_60 (fun H locs hP hD hS => ?_)
      refine lv_aload_n hx hb dX8_dig_63 rfl (lv_at hl 1 rfl) ?_
      refine lv_dup hx hb dX8_dig_64 rfl ?_
      refine va_get (D := D) (ci := 8) (v := .int q16) (C := RX8) (T := TX8) (N := 34) hx hb hts hiX8 hown hB.1 hP 0 rfl rfl 16 (by decide) (hts _ (List.mem_of_getElem? (i := 5) rfl)) (fun _ h9 => h9) rfl dX8_dig_65 ?_
      refine lv_iconst (v := 3) hx hb dX8_dig_68 (by decide) ?_
      refine lv_aload_n hx hb dX8_dig_69 rfl (lv_at hl 1 rfl) ?_
      refine va_get (D := D) (ci := 8) (v := .ref m2) (C := RX8) (T := TX8) (N := 34) hx hb hts hiX8 hown hB.1 hP 0 rfl rfl 2 (by decide) (hts _ (List.mem_of_getElem? (i := 4) rfl)) (fun _ h9 => h9) rfl dX8_dig_70 ?_
      refine lv_iload_n hx hb dX8_dig_73 rfl (lv_at hl 0 rfl) ?_
      refine ra_i hx hb hB.1 hP 1 rfl (8 * dg + place.toNatClampNeg) hk3 (by omega) (by decide) dX8_dig_74 ?_
      refine lv_imul hx hb dX8_dig_75 ?_
      refine lv_iadd hx hb dX8_dig_76 ?_
      refine pf (w2 := [(mA, .inr (8, .int (nI nr) :: .int (nI np) :: .ref m2 :: .ref m3 :: .ref m4 :: .ref m5 :: .ref m6 :: .ref m7 :: .ref m8 :: .int q9 :: .int q10 :: .int q11 :: .int ((nI (dg + 1)) - 1) :: .int place :: .int (q14 - (2 * (d2 (8 * dg + place.toNatClampNeg)))) :: .int q15 :: .int (q16 + (3 * (d2 (8 * dg + place.toNatClampNeg)))) :: .int q17 :: .int q18 :: .int q19 :: .int q20 :: .ref m21 :: .ref m22 :: .ref m23 :: .ref m24 :: .int (nI nb) :: .int (nI ln) :: .int (nI po) :: .int q28 :: .int (nI tk) :: .ref m30 :: .ref m31 :: .int (nI we) :: .int q33 :: [])), (m2, .inl (cI, 160, .inl d2)), (m3, .inl (cI, 160, .inl d3)), (m4, .inl (cI, 160, .inl d4)), (m5, .inl (cZ, 160, .inl d5)), (m6, .inl (cZ, 160, .inl d6)), (m21, .inl (cI, 21, .inl d21)), (m30, .inl (cI, 77, .inl d30)), (m31, .inl (cI, 11, .inl d31))]) (ci := 8) (C := RX8) (T := TX8) (N := 34) hx hb hts hiX8 tyX8 tyX8_ok nmX8 hown hB.1 hP hD hS 0 rfl rfl 16 (by decide) (hts _ (List.mem_of_getElem? (i := 5) rfl)) rfl rfl rfl rfl (Nat.le_of_ble_eq_true rfl) rfl dX8_dig_77 (fun H locs hP hD hS => ?_)
      refine lv_aload_n hx hb dX8_dig_80 rfl (lv_at hl 1 rfl) ?_
      refine va_get (D := D) (ci := 8) (v := .ref m6) (C := RX8) (T := TX8) (N := 34) hx hb hts hiX8 hown hB.1 hP 0 rfl rfl 6 (by decide) (hts _ (List.mem_of_getElem? (i := 6) rfl)) (fun _ h9 => h9) rfl dX8_dig_81 ?_
      refine lv_iload_n hx hb dX8_dig_84 rfl (lv_at hl 0 rfl) ?_
      refine lv_iconst (v := 1) hx hb dX8_dig_85 (by decide) ?_
      refine wa_z (w2 := [(mA, .inr (8, .int (nI nr) :: .int (nI np) :: .ref m2 :: .ref m3 :: .ref m4 :: .ref m5 :: .ref m6 :: .ref m7 :: .ref m8 :: .int q9 :: .int q10 :: .int q11 :: .int ((nI (dg + 1)) - 1) :: .int place :: .int (q14 - (2 * (d2 (8 * dg + place.toNatClampNeg)))) :: .int q15 :: .int (q16 + (3 * (d2 (8 * dg + place.toNatClampNeg)))) :: .int q17 :: .int q18 :: .int q19 :: .int q20 :: .ref m21 :: .ref m22 :: .ref m23 :: .ref m24 :: .int (nI nb) :: .int (nI ln) :: .int (nI po) :: .int q28 :: .int (nI tk) :: .ref m30 :: .ref m31 :: .int (nI we) :: .int q33 :: [])), (m2, .inl (cI, 160, .inl d2)), (m3, .inl (cI, 160, .inl d3)), (m4, .inl (cI, 160, .inl d4)), (m5, .inl (cZ, 160, .inl d5)), (m6, .inl (cZ, 160, .inl (upd d6 (8 * dg + place.toNatClampNeg) 1))), (m21, .inl (cI, 21, .inl d21)), (m30, .inl (cI, 77, .inl d30)), (m31, .inl (cI, 11, .inl d31))]) hx hb hB.1 hP hD hS 5 rfl (8 * dg + place.toNatClampNeg) hk3 (by omega) (by decide) rfl dX8_dig_86 rfl (fun H locs hP hD hS => ?_)
      refine lv_aload_n hx hb dX8_dig_87 rfl (lv_at hl 1 rfl) ?_
      refine va_get (D := D) (ci := 8) (v := .ref m4) (C := RX8) (T := TX8) (N := 34) hx hb hts hiX8 hown hB.1 hP 0 rfl rfl 4 (by decide) (hts _ (List.mem_of_getElem? (i := 7) rfl)) (fun _ h9 => h9) rfl dX8_dig_88 ?_
      refine lv_iload_n hx hb dX8_dig_91 rfl (lv_at hl 0 rfl) ?_
      refine lv_aload_n hx hb dX8_dig_92 rfl (lv_at hl 1 rfl) ?_
      refine va_get (D := D) (ci := 8) (v := .int q11) (C := RX8) (T := TX8) (N := 34) hx hb hts hiX8 hown hB.1 hP 0 rfl rfl 11 (by decide) (hts _ (List.mem_of_getElem? (i := 8) rfl)) (fun _ h9 => h9) rfl dX8_dig_93 ?_
      refine wa_i (w2 := [(mA, .inr (8, .int (nI nr) :: .int (nI np) :: .ref m2 :: .ref m3 :: .ref m4 :: .ref m5 :: .ref m6 :: .ref m7 :: .ref m8 :: .int q9 :: .int q10 :: .int q11 :: .int ((nI (dg + 1)) - 1) :: .int place :: .int (q14 - (2 * (d2 (8 * dg + place.toNatClampNeg)))) :: .int q15 :: .int (q16 + (3 * (d2 (8 * dg + place.toNatClampNeg)))) :: .int q17 :: .int q18 :: .int q19 :: .int q20 :: .ref m21 :: .ref m22 :: .ref m23 :: .ref m24 :: .int (nI nb) :: .int (nI ln) :: .int (nI po) :: .int q28 :: .int (nI tk) :: .ref m30 :: .ref m31 :: .int (nI we) :: .int q33 :: [])), (m2, .inl (cI, 160, .inl d2)), (m3, .inl (cI, 160, .inl d3)), (m4, .inl (cI, 160, .inl (upd d4 (8 * dg + place.toNatClampNeg) q11))), (m5, .inl (cZ, 160, .inl d5)), (m6, .inl (cZ, 160, .inl (upd d6 (8 * dg + place.toNatClampNeg) 1))), (m21, .inl (cI, 21, .inl d21)), (m30, .inl (cI, 77, .inl d30)), (m31, .inl (cI, 11, .inl d31))]) hx hb hB.1 hP hD hS 3 rfl (8 * dg + place.toNatClampNeg) hk3 (by omega) (by decide) dX8_dig_96 rfl (fun H locs hP hD hS => ?_)
      refine lv_aload_n hx hb dX8_dig_97 rfl (lv_at hl 1 rfl) ?_
      refine lv_iload_n hx hb dX8_dig_98 rfl (lv_at hl 0 rfl) ?_
      refine lv_iload_n hx hb dX8_dig_99 rfl (lv_at hl 3 rfl) ?_
      refine k_v (w2 := [(mA, .inr (8, .int (nI nr) :: .int (nI np) :: .ref m2 :: .ref m3 :: .ref m4 :: .ref m5 :: .ref m6 :: .ref m7 :: .ref m8 :: .int q9 :: .int q10 :: .int q11 :: .int ((nI (dg + 1)) - 1) :: .int place :: .int (q14 - (2 * (d2 (8 * dg + place.toNatClampNeg)))) :: .int q15 :: .int (q16 + (3 * (d2 (8 * dg + place.toNatClampNeg)))) :: .int q17 :: .int q18 :: .int q19 :: .int q20 :: .ref m21 :: .ref m22 :: .ref m23 :: .ref m24 :: .int (nI nb) :: .int (nI ln) :: .int (nI po) :: .int q28 :: .int (nI tk) :: .ref m30 :: .ref m31 :: .int (nI we) :: .int q33 :: [])), (m2, .inl (cI, 160, .inl d2)), (m3, .inl (cI, 160, .inl (upd d3 (8 * dg + place.toNatClampNeg) tin))), (m4, .inl (cI, 160, .inl (upd d4 (8 * dg + place.toNatClampNeg) q11))), (m5, .inl (cZ, 160, .inl (upd d5 (8 * dg + place.toNatClampNeg) 1))), (m6, .inl (cZ, 160, .inl (upd d6 (8 * dg + place.toNatClampNeg) 1))), (m21, .inl (cI, 21, .inl d21)), (m30, .inl (cI, 77, .inl d30)), (m31, .inl (cI, 11, .inl d31))]) (va_runV (As := [.int ((8 * ((nI (dg + 1)) - 1)) + place), .int tin]) (rest := []) ⟨hx, hb, hml, hown, hts⟩ (c_X8_learns l _ mA m2 m3 m4 m5 m6 m7 m8 m21 m22 m23 m24 m30 m31 q9 q10 q11 place (q14 - (2 * (d2 (8 * dg + place.toNatClampNeg)))) q15 (q16 + (3 * (d2 (8 * dg + place.toNatClampNeg)))) q17 q18 q19 q20 q28 q33 nr np nb ln po tk we (dg + 1) d3 d5 ((8 * ((nI (dg + 1)) - 1)) + place) tin (8 * dg + place.toNatClampNeg) h20 h2r h2p h8 hk3 (by omega)) (cwV 2 hts gX8_dig_X8_learns rfl rfl rfl (by decide +kernel) ⟨Nat.le_of_ble_eq_true rfl, Nat.le_of_ble_eq_true rfl⟩) (pre_V (ci := 8) (q0 := 0) hB hz hA0 hP hD hS [0, 2, 4] rfl rfl rfl rfl rfl) rfl rfl hl.1 rfl (lv_room (Nat.le_of_ble_eq_true rfl)) dX8_dig_100 ⟨Nat.zero_le _, Nat.zero_le _⟩) hP hD hS hA [0, 2, 4] [1, 3, 5, 6, 7, 8] [6, 0, 7, 1, 8, 2, 3, 4, 5] rfl rfl rfl rfl rfl (fun H locs hP hD hS => ?_)
      refine lv_aload_n hx hb dX8_dig_103 rfl (lv_at hl 1 rfl) ?_
      refine va_get (D := D) (ci := 8) (v := .ref m2) (C := RX8) (T := TX8) (N := 34) hx hb hts hiX8 hown hB.1 hP 0 rfl rfl 2 (by decide) (hts _ (List.mem_of_getElem? (i := 4) rfl)) (fun _ h9 => h9) rfl dX8_dig_104 ?_
      refine lv_iload_n hx hb dX8_dig_107 rfl (lv_at hl 0 rfl) ?_
      refine ra_i hx hb hB.1 hP 1 rfl (8 * dg + place.toNatClampNeg) hk3 (by omega) (by decide) dX8_dig_108 ?_
      refine lv_iload_n hx hb dX8_dig_109 rfl (lv_at hl 3 rfl) ?_
      refine lv_imul hx hb dX8_dig_110 ?_
      refine lv_istore (lv' := [(4, .int ((d2 (8 * dg + place.toNatClampNeg)) * tin)), (3, .int ((8 * ((nI (dg + 1)) - 1)) + place)), (0, .ref mA), (1, .int place), (2, .int tin)]) hx hb dX8_dig_111 hl (by decide) rfl (fun ls hl => ?_)
      refine lv_iload hx hb dX8_dig_113 (lv_at hl 0 rfl) ?_
      refine lv_aload_n hx hb dX8_dig_115 rfl (lv_at hl 2 rfl) ?_
      refine va_get (D := D) (ci := 8) (v := .int q17) (C := RX8) (T := TX8) (N := 34) hx hb hts hiX8 hown hB.1 hP 0 rfl rfl 17 (by decide) (hts _ (List.mem_of_getElem? (i := 9) rfl)) (fun _ h9 => h9) rfl dX8_dig_116 ?_
      refine lv_aload_n hx hb dX8_dig_119 rfl (lv_at hl 2 rfl) ?_
      refine va_get (D := D) (ci := 8) (v := .int q17) (C := RX8) (T := TX8) (N := 34) hx hb hts hiX8 hown hB.1 hP 0 rfl rfl 17 (by decide) (hts _ (List.mem_of_getElem? (i := 9) rfl)) (fun _ h9 => h9) rfl dX8_dig_120 ?_
      refine lv_imul hx hb dX8_dig_123 ?_
      refine lv_iconst (v := 2) hx hb dX8_dig_124 (by decide) ?_
      refine lv_idiv hx hb dX8_dig_125 (by decide) ?_
      refine lv_imul hx hb dX8_dig_126 ?_
      refine lv_bipush (v := 100) hx hb dX8_dig_127 (by decide) ?_
      refine lv_idiv hx hb dX8_dig_129 (by decide) ?_
      refine lv_istore (lv' := [(5, .int ((((d2 (8 * dg + place.toNatClampNeg)) * tin) * ((q17 * q17) / 2)) / 100)), (4, .int ((d2 (8 * dg + place.toNatClampNeg)) * tin)), (3, .int ((8 * ((nI (dg + 1)) - 1)) + place)), (0, .ref mA), (1, .int place), (2, .int tin)]) hx hb dX8_dig_130 hl (by decide) rfl (fun ls hl => ?_)
      refine lv_aload_n hx hb dX8_dig_132 rfl (lv_at hl 3 rfl) ?_
      refine lv_dup hx hb dX8_dig_133 rfl ?_
      refine va_get (D := D) (ci := 8) (v := .int q19) (C := RX8) (T := TX8) (N := 34) hx hb hts hiX8 hown hB.1 hP 0 rfl rfl 19 (by decide) (hts _ (List.mem_of_getElem? (i := 10) rfl)) (fun _ h9 => h9) rfl dX8_dig_134 ?_
      refine lv_iload hx hb dX8_dig_137 (lv_at hl 0 rfl) ?_
      refine lv_iadd hx hb dX8_dig_139 ?_
      refine pf (w2 := [(mA, .inr (8, .int (nI nr) :: .int (nI np) :: .ref m2 :: .ref m3 :: .ref m4 :: .ref m5 :: .ref m6 :: .ref m7 :: .ref m8 :: .int q9 :: .int q10 :: .int q11 :: .int ((nI (dg + 1)) - 1) :: .int place :: .int (q14 - (2 * (d2 (8 * dg + place.toNatClampNeg)))) :: .int q15 :: .int (q16 + (3 * (d2 (8 * dg + place.toNatClampNeg)))) :: .int q17 :: .int q18 :: .int (q19 + ((((d2 (8 * dg + place.toNatClampNeg)) * tin) * ((q17 * q17) / 2)) / 100)) :: .int q20 :: .ref m21 :: .ref m22 :: .ref m23 :: .ref m24 :: .int (nI nb) :: .int (nI ln) :: .int (nI po) :: .int q28 :: .int (nI tk) :: .ref m30 :: .ref m31 :: .int (nI we) :: .int q33 :: [])), (m2, .inl (cI, 160, .inl d2)), (m3, .inl (cI, 160, .inl (upd d3 (8 * dg + place.toNatClampNeg) tin))), (m4, .inl (cI, 160, .inl (upd d4 (8 * dg + place.toNatClampNeg) q11))), (m5, .inl (cZ, 160, .inl (upd d5 (8 * dg + place.toNatClampNeg) 1))), (m6, .inl (cZ, 160, .inl (upd d6 (8 * dg + place.toNatClampNeg) 1))), (m21, .inl (cI, 21, .inl d21)), (m30, .inl (cI, 77, .inl d30)), (m31, .inl (cI, 11, .inl d31))]) (ci := 8) (C := RX8) (T := TX8) (N := 34) hx hb hts hiX8 tyX8 tyX8_ok nmX8 hown hB.1 hP hD hS 0 rfl rfl 19 (by decide) (hts _ (List.mem_of_getElem? (i := 10) rfl)) rfl rfl rfl rfl (Nat.le_of_ble_eq_true rfl) rfl dX8_dig_140 (fun H locs hP hD hS => ?_)
      refine lv_aload_n hx hb dX8_dig_143 rfl (lv_at hl 3 rfl) ?_
      refine lv_dup hx hb dX8_dig_144 rfl ?_
      refine va_get (D := D) (ci := 8) (v := .int q18) (C := RX8) (T := TX8) (N := 34) hx hb hts hiX8 hown hB.1 hP 0 rfl rfl 18 (by decide) (hts _ (List.mem_of_getElem? (i := 11) rfl)) (fun _ h9 => h9) rfl dX8_dig_145 ?_
      refine lv_iload hx hb dX8_dig_148 (lv_at hl 1 rfl) ?_
      refine lv_iload hx hb dX8_dig_150 (lv_at hl 0 rfl) ?_
      refine lv_isub hx hb dX8_dig_152 ?_
      refine lv_iadd hx hb dX8_dig_153 ?_
      refine pf (w2 := [(mA, .inr (8, .int (nI nr) :: .int (nI np) :: .ref m2 :: .ref m3 :: .ref m4 :: .ref m5 :: .ref m6 :: .ref m7 :: .ref m8 :: .int q9 :: .int q10 :: .int q11 :: .int ((nI (dg + 1)) - 1) :: .int place :: .int (q14 - (2 * (d2 (8 * dg + place.toNatClampNeg)))) :: .int q15 :: .int (q16 + (3 * (d2 (8 * dg + place.toNatClampNeg)))) :: .int q17 :: .int (q18 + (((d2 (8 * dg + place.toNatClampNeg)) * tin) - ((((d2 (8 * dg + place.toNatClampNeg)) * tin) * ((q17 * q17) / 2)) / 100))) :: .int (q19 + ((((d2 (8 * dg + place.toNatClampNeg)) * tin) * ((q17 * q17) / 2)) / 100)) :: .int q20 :: .ref m21 :: .ref m22 :: .ref m23 :: .ref m24 :: .int (nI nb) :: .int (nI ln) :: .int (nI po) :: .int q28 :: .int (nI tk) :: .ref m30 :: .ref m31 :: .int (nI we) :: .int q33 :: [])), (m2, .inl (cI, 160, .inl d2)), (m3, .inl (cI, 160, .inl (upd d3 (8 * dg + place.toNatClampNeg) tin))), (m4, .inl (cI, 160, .inl (upd d4 (8 * dg + place.toNatClampNeg) q11))), (m5, .inl (cZ, 160, .inl (upd d5 (8 * dg + place.toNatClampNeg) 1))), (m6, .inl (cZ, 160, .inl (upd d6 (8 * dg + place.toNatClampNeg) 1))), (m21, .inl (cI, 21, .inl d21)), (m30, .inl (cI, 77, .inl d30)), (m31, .inl (cI, 11, .inl d31))]) (ci := 8) (C := RX8) (T := TX8) (N := 34) hx hb hts hiX8 tyX8 tyX8_ok nmX8 hown hB.1 hP hD hS 0 rfl rfl 18 (by decide) (hts _ (List.mem_of_getElem? (i := 11) rfl)) rfl rfl rfl rfl (Nat.le_of_ble_eq_true rfl) rfl dX8_dig_154 (fun H locs hP hD hS => ?_)
      refine lv_aload_n hx hb dX8_dig_157 rfl (lv_at hl 3 rfl) ?_
      refine va_get (D := D) (ci := 8) (v := .ref m21) (C := RX8) (T := TX8) (N := 34) hx hb hts hiX8 hown hB.1 hP 0 rfl rfl 21 (by decide) (hts _ (List.mem_of_getElem? (i := 12) rfl)) (fun _ h9 => h9) rfl dX8_dig_158 ?_
      refine lv_aload_n hx hb dX8_dig_161 rfl (lv_at hl 3 rfl) ?_
      refine va_get (D := D) (ci := 8) (v := .int q11) (C := RX8) (T := TX8) (N := 34) hx hb hts hiX8 hown hB.1 hP 0 rfl rfl 11 (by decide) (hts _ (List.mem_of_getElem? (i := 8) rfl)) (fun _ h9 => h9) rfl dX8_dig_162 ?_
      refine lv_bipush (v := 30) hx hb dX8_dig_165 (by decide) ?_
      refine lv_idiv hx hb dX8_dig_167 (by decide) ?_
      refine lv_dup2_11 hx hb dX8_dig_168 rfl rfl ?_
      refine ra_i hx hb hB.1 hP 6 rfl ((q11 / 30).toNatClampNeg) hmo.1 hmo.2 (by decide) dX8_dig_169 ?_
      refine lv_iload hx hb dX8_dig_170 (lv_at hl 1 rfl) ?_
      refine lv_iload hx hb dX8_dig_172 (lv_at hl 0 rfl) ?_
      refine lv_isub hx hb dX8_dig_174 ?_
      refine lv_iadd hx hb dX8_dig_175 ?_
      refine wa_i (w2 := [(mA, .inr (8, .int (nI nr) :: .int (nI np) :: .ref m2 :: .ref m3 :: .ref m4 :: .ref m5 :: .ref m6 :: .ref m7 :: .ref m8 :: .int q9 :: .int q10 :: .int q11 :: .int ((nI (dg + 1)) - 1) :: .int place :: .int (q14 - (2 * (d2 (8 * dg + place.toNatClampNeg)))) :: .int q15 :: .int (q16 + (3 * (d2 (8 * dg + place.toNatClampNeg)))) :: .int q17 :: .int (q18 + (((d2 (8 * dg + place.toNatClampNeg)) * tin) - ((((d2 (8 * dg + place.toNatClampNeg)) * tin) * ((q17 * q17) / 2)) / 100))) :: .int (q19 + ((((d2 (8 * dg + place.toNatClampNeg)) * tin) * ((q17 * q17) / 2)) / 100)) :: .int q20 :: .ref m21 :: .ref m22 :: .ref m23 :: .ref m24 :: .int (nI nb) :: .int (nI ln) :: .int (nI po) :: .int q28 :: .int (nI tk) :: .ref m30 :: .ref m31 :: .int (nI we) :: .int q33 :: [])), (m2, .inl (cI, 160, .inl d2)), (m3, .inl (cI, 160, .inl (upd d3 (8 * dg + place.toNatClampNeg) tin))), (m4, .inl (cI, 160, .inl (upd d4 (8 * dg + place.toNatClampNeg) q11))), (m5, .inl (cZ, 160, .inl (upd d5 (8 * dg + place.toNatClampNeg) 1))), (m6, .inl (cZ, 160, .inl (upd d6 (8 * dg + place.toNatClampNeg) 1))), (m21, .inl (cI, 21, .inl (upd d21 ((q11 / 30).toNatClampNeg) ((d21 ((q11 / 30).toNatClampNeg)) + (((d2 (8 * dg + place.toNatClampNeg)) * tin) - ((((d2 (8 * dg + place.toNatClampNeg)) * tin) * ((q17 * q17) / 2)) / 100)))))), (m30, .inl (cI, 77, .inl d30)), (m31, .inl (cI, 11, .inl d31))]) hx hb hB.1 hP hD hS 6 rfl ((q11 / 30).toNatClampNeg) hmo.1 hmo.2 (by decide) dX8_dig_176 rfl (fun H locs hP hD hS => ?_)
      refine lv_iload hx hb dX8_dig_177 (lv_at hl 1 rfl) ?_
      refine lv_iload hx hb dX8_dig_179 (lv_at hl 0 rfl) ?_
      refine lv_isub hx hb dX8_dig_181 ?_
      have er : F_X8_dig q11 q13 q14 q15 q16 q17 nr np tk dg d2 d30 d31 place tin = ((d2 (8 * dg + place.toNatClampNeg)) * tin) - ((((d2 (8 * dg + place.toNatClampNeg)) * tin) * ((q17 * q17) / 2)) / 100) := by rw [F_X8_dig, if_neg c_1, if_pos c_2]
      have e0_12 : (nI (F_X8_dig_0_12 q11 q13 q14 q15 q16 nr np tk dg d2 d30 d31 place tin)) - 1 = (nI (dg + 1)) - 1 := by rw [F_X8_dig_0_12, if_neg c_1, if_pos c_2]
      have e0_13 : F_X8_dig_0_13 q11 q13 q14 q15 q16 nr np tk dg d2 d30 d31 place tin = place := by rw [F_X8_dig_0_13, if_neg c_1, if_pos c_2]
      have e0_14 : F_X8_dig_0_14 q11 q13 q14 q15 q16 nr np tk dg d2 d30 d31 place tin = (q14 - (2 * (d2 (8 * dg + place.toNatClampNeg)))) := by rw [F_X8_dig_0_14, if_neg c_1, if_pos c_2]
      have e0_16 : F_X8_dig_0_16 q11 q13 q14 q15 q16 nr np tk dg d2 d30 d31 place tin = (q16 + (3 * (d2 (8 * dg + place.toNatClampNeg)))) := by rw [F_X8_dig_0_16, if_neg c_1, if_pos c_2]
      have e0_18 : F_X8_dig_0_18 q11 q13 q14 q15 q16 q17 q18 nr np tk dg d2 d30 d31 place tin = q18 + (((d2 (8 * dg + place.toNatClampNeg)) * tin) - ((((d2 (8 * dg + place.toNatClampNeg)) * tin) * ((q17 * q17) / 2)) / 100)) := by rw [F_X8_dig_0_18, if_neg c_1, if_pos c_2]
      have e0_19 : F_X8_dig_0_19 q11 q13 q14 q15 q16 q17 q19 nr np tk dg d2 d30 d31 place tin = q19 + ((((d2 (8 * dg + place.toNatClampNeg)) * tin) * ((q17 * q17) / 2)) / 100) := by rw [F_X8_dig_0_19, if_neg c_1, if_pos c_2]
      have e2 : F_X8_dig_2 q11 q13 q14 q15 q16 nr np tk dg d2 d3 d30 d31 place tin = upd d3 (8 * dg + place.toNatClampNeg) tin := by rw [F_X8_dig_2, if_neg c_1, if_pos c_2]
      have e3 : F_X8_dig_3 q11 q13 q14 q15 q16 nr np tk dg d2 d4 d30 d31 place tin = upd d4 (8 * dg + place.toNatClampNeg) q11 := by rw [F_X8_dig_3, if_neg c_1, if_pos c_2]
      have e4 : F_X8_dig_4 q11 q13 q14 q15 q16 nr np tk dg d2 d5 d30 d31 place tin = upd d5 (8 * dg + place.toNatClampNeg) 1 := by rw [F_X8_dig_4, if_neg c_1, if_pos c_2]
      have e5 : F_X8_dig_5 q11 q13 q14 q15 q16 nr np tk dg d2 d6 d30 d31 place tin = upd d6 (8 * dg + place.toNatClampNeg) 1 := by rw [F_X8_dig_5, if_neg c_1, if_pos c_2]
      have e6 : F_X8_dig_6 q11 q13 q14 q15 q16 q17 nr np tk dg d2 d21 d30 d31 place tin = upd d21 ((q11 / 30).toNatClampNeg) ((d21 ((q11 / 30).toNatClampNeg)) + (((d2 (8 * dg + place.toNatClampNeg)) * tin) - ((((d2 (8 * dg + place.toNatClampNeg)) * tin) * ((q17 * q17) / 2)) / 100))) := by rw [F_X8_dig_6, if_neg c_1, if_pos c_2]
      exact W.iret hx hb hr (fun t ht hW => ⟨⟨_, (), rfl, er.symm, by rw [ht, e0_12, e0_13, e0_14, e0_16, e0_18, e0_19, e2, e3, e4, e5, e6]; exact hP, by rw [e0_12, e0_13, e0_14, e0_16, e0_18, e0_19, e2, e3, e4, e5, e6]; exact hD⟩, hS.F ht⟩) hS.2.2 dX8_dig_182
    · refine lv_iconst (v := (-1)) hx hb dX8_dig_19 (by decide) ?_
      have er : F_X8_dig q11 q13 q14 q15 q16 q17 nr np tk dg d2 d30 d31 place tin = (-1) := by rw [F_X8_dig, if_neg c_1, if_neg c_2]
      have e0_12 : (nI (F_X8_dig_0_12 q11 q13 q14 q15 q16 nr np tk dg d2 d30 d31 place tin)) - 1 = (nI dg) - 1 := by rw [F_X8_dig_0_12, if_neg c_1, if_neg c_2]
      have e0_13 : F_X8_dig_0_13 q11 q13 q14 q15 q16 nr np tk dg d2 d30 d31 place tin = q13 := by rw [F_X8_dig_0_13, if_neg c_1, if_neg c_2]
      have e0_14 : F_X8_dig_0_14 q11 q13 q14 q15 q16 nr np tk dg d2 d30 d31 place tin = q14 := by rw [F_X8_dig_0_14, if_neg c_1, if_neg c_2]
      have e0_16 : F_X8_dig_0_16 q11 q13 q14 q15 q16 nr np tk dg d2 d30 d31 place tin = q16 := by rw [F_X8_dig_0_16, if_neg c_1, if_neg c_2]
      have e0_18 : F_X8_dig_0_18 q11 q13 q14 q15 q16 q17 q18 nr np tk dg d2 d30 d31 place tin = q18 := by rw [F_X8_dig_0_18, if_neg c_1, if_neg c_2]
      have e0_19 : F_X8_dig_0_19 q11 q13 q14 q15 q16 q17 q19 nr np tk dg d2 d30 d31 place tin = q19 := by rw [F_X8_dig_0_19, if_neg c_1, if_neg c_2]
      have e2 : F_X8_dig_2 q11 q13 q14 q15 q16 nr np tk dg d2 d3 d30 d31 place tin = d3 := by rw [F_X8_dig_2, if_neg c_1, if_neg c_2]
      have e3 : F_X8_dig_3 q11 q13 q14 q15 q16 nr np tk dg d2 d4 d30 d31 place tin = d4 := by rw [F_X8_dig_3, if_neg c_1, if_neg c_2]
      have e4 : F_X8_dig_4 q11 q13 q14 q15 q16 nr np tk dg d2 d5 d30 d31 place tin = d5 := by rw [F_X8_dig_4, if_neg c_1, if_neg c_2]
      have e5 : F_X8_dig_5 q11 q13 q14 q15 q16 nr np tk dg d2 d6 d30 d31 place tin = d6 := by rw [F_X8_dig_5, if_neg c_1, if_neg c_2]
      have e6 : F_X8_dig_6 q11 q13 q14 q15 q16 q17 nr np tk dg d2 d21 d30 d31 place tin = d21 := by rw [F_X8_dig_6, if_neg c_1, if_neg c_2]
      exact W.iret hx hb hr (fun t ht hW => ⟨⟨_, (), rfl, er.symm, by rw [ht, e0_12, e0_13, e0_14, e0_16, e0_18, e0_19, e2, e3, e4, e5, e6]; exact hP, by rw [e0_12, e0_13, e0_14, e0_16, e0_18, e0_19, e2, e3, e4, e5, e6]; exact hD⟩, hS.F ht⟩) hS.2.2 dX8_dig_20

def F_X8_month (tk : Nat) (d21 : Nat → Int32) (d30 : Nat → Int32) (d31 : Nat → Int32) (month : Int32) (what : Int32) : Int32 :=
  if (F_X8_isIn month 0 20) = 0 then (-1) else
  if what = 0 then d21 month.toNatClampNeg else
  if what = 1 then ((((d21 month.toNatClampNeg).toInt64) * ((F_X8_tellsOn tk d30 d31 ((30 * month) + 29) 5).toInt64)) / 1000).toInt32 else
  (-1)
set_option maxHeartbeats 4000000 in
set_option maxRecDepth 100000 in
theorem c_X8_month (l : Launch) {D : va_G} {cI cZ cB : ClassId} {au : Nat} {kA kV : Nat → Nat} {z0 : Nat} (sz : Nat) (mA : Nat) (m2 : Nat) (m3 : Nat) (m4 : Nat) (m5 : Nat) (m6 : Nat) (m7 : Nat) (m8 : Nat) (m21 : Nat) (m22 : Nat) (m23 : Nat) (m24 : Nat) (m30 : Nat) (m31 : Nat) (q9 : Int32) (q10 : Int32) (q11 : Int32) (q13 : Int32) (q14 : Int32) (q15 : Int32) (q16 : Int32) (q17 : Int32) (q18 : Int32) (q19 : Int32) (q20 : Int32) (q28 : Int32) (q33 : Int32) (nr : Nat) (np : Nat) (nb : Nat) (ln : Nat) (po : Nat) (tk : Nat) (we : Nat) (dg : Nat) (d21 : Nat → Int32) (d30 : Nat → Int32) (d31 : Nat → Int32) (month : Int32) (what : Int32) (h20 : nr ≤ 20) (h2r : 2 ≤ nr) (h2p : 2 ≤ np) (h8 : np ≤ 8) (htk : tk ≤ 10) : Met l yX8_month wsX8_month ({ frames := 2, cells := 0, slots := 0, locals := 46 }) (va_Pc [.ref mA, .int month, .int what] (PRE D cI cZ cB au kA kV z0 sz [(mA, .inr (8, .int (nI nr) :: .int (nI np) :: .ref m2 :: .ref m3 :: .ref m4 :: .ref m5 :: .ref m6 :: .ref m7 :: .ref m8 :: .int q9 :: .int q10 :: .int q11 :: .int ((nI dg) - 1) :: .int q13 :: .int q14 :: .int q15 :: .int q16 :: .int q17 :: .int q18 :: .int q19 :: .int q20 :: .ref m21 :: .ref m22 :: .ref m23 :: .ref m24 :: .int (nI nb) :: .int (nI ln) :: .int (nI po) :: .int q28 :: .int (nI tk) :: .ref m30 :: .ref m31 :: .int (nI we) :: .int q33 :: [])), (m21, .inl (cI, 21, .inl d21)), (m30, .inl (cI, 77, .inl d30)), (m31, .inl (cI, 11, .inl d31))])) (QI D [(mA, .inr (8, .int (nI nr) :: .int (nI np) :: .ref m2 :: .ref m3 :: .ref m4 :: .ref m5 :: .ref m6 :: .ref m7 :: .ref m8 :: .int q9 :: .int q10 :: .int q11 :: .int ((nI dg) - 1) :: .int q13 :: .int q14 :: .int q15 :: .int q16 :: .int q17 :: .int q18 :: .int q19 :: .int q20 :: .ref m21 :: .ref m22 :: .ref m23 :: .ref m24 :: .int (nI nb) :: .int (nI ln) :: .int (nI po) :: .int q28 :: .int (nI tk) :: .ref m30 :: .ref m31 :: .int (nI we) :: .int q33 :: [])), (m21, .inl (cI, 21, .inl d21)), (m30, .inl (cI, 77, .inl d30)), (m31, .inl (cI, 11, .inl d31))] sz (F_X8_month tk d21 d30 d31 month what) [(mA, .inr (8, .int (nI nr) :: .int (nI np) :: .ref m2 :: .ref m3 :: .ref m4 :: .ref m5 :: .ref m6 :: .ref m7 :: .ref m8 :: .int q9 :: .int q10 :: .int q11 :: .int ((nI dg) - 1) :: .int q13 :: .int q14 :: .int q15 :: .int q16 :: .int q17 :: .int q18 :: .int q19 :: .int q20 :: .ref m21 :: .ref m22 :: .ref m23 :: .ref m24 :: .int (nI nb) :: .int (nI ln) :: .int (nI po) :: .int q28 :: .int (nI tk) :: .ref m30 :: .ref m31 :: .int (nI we) :: .int q33 :: [])), (m21, .inl (cI, 21, .inl d21)), (m30, .inl (cI, 77, .inl d30)), (m31, .inl (cI, 11, .inl d31))]) 0 0 (va_A [(mA, .inr (8, .int (nI nr) :: .int (nI np) :: .ref m2 :: .ref m3 :: .ref m4 :: .ref m5 :: .ref m6 :: .ref m7 :: .ref m8 :: .int q9 :: .int q10 :: .int q11 :: .int ((nI dg) - 1) :: .int q13 :: .int q14 :: .int q15 :: .int q16 :: .int q17 :: .int q18 :: .int q19 :: .int q20 :: .ref m21 :: .ref m22 :: .ref m23 :: .ref m24 :: .int (nI nb) :: .int (nI ln) :: .int (nI po) :: .int q28 :: .int (nI tk) :: .ref m30 :: .ref m31 :: .int (nI we) :: .int q33 :: [])), (m21, .inl (cI, 21, .inl d21)), (m30, .inl (cI, 77, .inl d30)), (m31, .inl (cI, 11, .inl d31))] sz) := by
  refine Met.ofW (cc := cX8_month) (maxL := 3) (ret := (some .int)) (by decide) rfl ?_
  intro p e s m args below meth c s₁ B hml hv
  obtain ⟨rfl, hsz, hz, hP, hD0, hB⟩ := hv
  have hx := B.exec
  have hb := B.bytes
  have hr := B.returns
  have hts := atoms_spec (ws := wsX8_month) B.pre
  have hown : s.vm.findClass RX8 = some m.cls := findClass_of_methodNamed B.named
  have hlocks := B.notSynchronized
  subst hsz
  have hD := hD0.self (sz := s.heap.size)
  have hA0 := va_A0 hD0 hz
  unfold QI
  generalize hAe : va_A [(mA, .inr (8, .int (nI nr) :: .int (nI np) :: .ref m2 :: .ref m3 :: .ref m4 :: .ref m5 :: .ref m6 :: .ref m7 :: .ref m8 :: .int q9 :: .int q10 :: .int q11 :: .int ((nI dg) - 1) :: .int q13 :: .int q14 :: .int q15 :: .int q16 :: .int q17 :: .int q18 :: .int q19 :: .int q20 :: .ref m21 :: .ref m22 :: .ref m23 :: .ref m24 :: .int (nI nb) :: .int (nI ln) :: .int (nI po) :: .int q28 :: .int (nI tk) :: .ref m30 :: .ref m31 :: .int (nI we) :: .int q33 :: [])), (m21, .inl (cI, 21, .inl d21)), (m30, .inl (cI, 77, .inl d30)), (m31, .inl (cI, 11, .inl d31))] s.heap.size = A at hD hA0 ⊢
  have hA : ∀ q : Nat, s.heap.size ≤ q → A q := fun q h => by rw [← hAe]; exact Or.inr h
  have hS : va_S A s.heap s.heap [] := va_S.rf
  have hiX8 : ∀ w ∈ wsX80, w ∈ wsX8_month := fun w h => List.mem_cons_of_mem _ (List.mem_append_right _ h)
  have hl := lv_entry ([.ref mA, .int month, .int what]) (n := 3) (Nat.le_of_ble_eq_true rfl)
  rw [lg_entry_eq]
  generalize (lg_sl ([.ref mA, .int month, .int what]) ++ List.replicate (3 - (lg_sl ([.ref mA, .int month, .int what])).length) Slot.unset).toArray = ls at hl ⊢
  have hl : lv_has ls 3 [(0, .ref mA), (1, .int month), (2, .int what)] := hl
  refine lv_iload_n hx hb dX8_month_0 rfl (lv_at hl 1 rfl) ?_
  refine lv_iconst (v := 0) hx hb dX8_month_1 (by decide) ?_
  refine lv_bipush (v := 20) hx hb dX8_month_2 (by decide) ?_
  refine k_i (w2 := [(mA, .inr (8, .int (nI nr) :: .int (nI np) :: .ref m2 :: .ref m3 :: .ref m4 :: .ref m5 :: .ref m6 :: .ref m7 :: .ref m8 :: .int q9 :: .int q10 :: .int q11 :: .int ((nI dg) - 1) :: .int q13 :: .int q14 :: .int q15 :: .int q16 :: .int q17 :: .int q18 :: .int q19 :: .int q20 :: .ref m21 :: .ref m22 :: .ref m23 :: .ref m24 :: .int (nI nb) :: .int (nI ln) :: .int (nI po) :: .int q28 :: .int (nI tk) :: .ref m30 :: .ref m31 :: .int (nI we) :: .int q33 :: [])), (m21, .inl (cI, 21, .inl d21)), (m30, .inl (cI, 77, .inl d30)), (m31, .inl (cI, 11, .inl d31))]) (va_runS (As := [.int month, .int 0, .int 20]) (rest := []) ⟨hx, hb, hml, hown, hts⟩ (c_X8_isIn l _ month 0 20) (va_cwS 3 hts gX8_month_X8_isIn rfl rfl rfl (by decide +kernel) ⟨Nat.le_of_ble_eq_true rfl, Nat.le_of_ble_eq_true rfl⟩) (pre_S hB hz hA0 hP hD hS [] rfl rfl) rfl rfl hl.1 rfl (lv_room (Nat.le_of_ble_eq_true rfl)) dX8_month_4 ⟨Nat.zero_le _, Nat.zero_le _⟩) hP hD hS hA [] [0, 1, 2, 3] [0, 1, 2, 3] rfl rfl rfl rfl rfl (fun H locs hP hD hS => ?_)
  refine lv_if_ne (tgt := 14) hx hb dX8_month_7 (by decide) (fun c_1 => ?_) (fun c_1 => ?_)
  · obtain ⟨hm1, hm2⟩ := wn_le (n := 20) (by decide) c_1
    refine lv_iload_n hx hb dX8_month_14 rfl (lv_at hl 2 rfl) ?_
    refine lv_if_ne (tgt := 27) hx hb dX8_month_15 (by decide) (fun c_2 => ?_) (fun c_2 => ?_)
    · refine lv_iload_n hx hb dX8_month_27 rfl (lv_at hl 2 rfl) ?_
      refine lv_iconst (v := 1) hx hb dX8_month_28 (by decide) ?_
      refine lv_icmp_ne (tgt := 61) hx hb dX8_month_29 (by decide) (fun c_3 => ?_) (fun c_3 => ?_)
      · refine lv_iconst (v := (-1)) hx hb dX8_month_61 (by decide) ?_
        have er : F_X8_month tk d21 d30 d31 month what = (-1) := by rw [F_X8_month, if_neg c_1, if_neg c_2, if_neg c_3]
        exact W.iret hx hb hr (fun t ht hW => ⟨⟨_, (), rfl, er.symm, by rw [ht]; exact hP, hD⟩, hS.F ht⟩) hS.2.2 dX8_month_62
      · refine lv_aload_n hx hb dX8_month_32 rfl (lv_at hl 0 rfl) ?_
        refine va_get (D := D) (ci := 8) (v := .ref m21) (C := RX8) (T := TX8) (N := 34) hx hb hts hiX8 hown hB.1 hP 0 rfl rfl 21 (by decide) (hts _ (List.mem_of_getElem? (i := 1) rfl)) (fun _ h9 => h9) rfl dX8_month_33 ?_
        refine lv_iload_n hx hb dX8_month_36 rfl (lv_at hl 1 rfl) ?_
        refine ra_i hx hb hB.1 hP 1 rfl month.toNatClampNeg hm1 (by omega) (by decide) dX8_month_37 ?_
        refine lv_i2l hx hb dX8_month_38 rfl ?_
        refine lv_aload_n hx hb dX8_month_39 rfl (lv_at hl 0 rfl) ?_
        refine lv_bipush (v := 30) hx hb dX8_month_40 (by decide) ?_
        refine lv_iload_n hx hb dX8_month_42 rfl (lv_at hl 1 rfl) ?_
        refine lv_imul hx hb dX8_month_43 ?_
        refine lv_bipush (v := 29) hx hb dX8_month_44 (by decide) ?_
        refine lv_iadd hx hb dX8_month_46 ?_
        refine lv_iconst (v := 5) hx hb dX8_month_47 (by decide) ?_
        refine k_i (w2 := [(mA, .inr (8, .int (nI nr) :: .int (nI np) :: .ref m2 :: .ref m3 :: .ref m4 :: .ref m5 :: .ref m6 :: .ref m7 :: .ref m8 :: .int q9 :: .int q10 :: .int q11 :: .int ((nI dg) - 1) :: .int q13 :: .int q14 :: .int q15 :: .int q16 :: .int q17 :: .int q18 :: .int q19 :: .int q20 :: .ref m21 :: .ref m22 :: .ref m23 :: .ref m24 :: .int (nI nb) :: .int (nI ln) :: .int (nI po) :: .int q28 :: .int (nI tk) :: .ref m30 :: .ref m31 :: .int (nI we) :: .int q33 :: [])), (m21, .inl (cI, 21, .inl d21)), (m30, .inl (cI, 77, .inl d30)), (m31, .inl (cI, 11, .inl d31))]) (va_runV (As := [.int ((30 * month) + 29), .int 5]) (rest := [.long ((d21 month.toNatClampNeg).toInt64)]) ⟨hx, hb, hml, hown, hts⟩ (c_X8_tellsOn l _ mA m2 m3 m4 m5 m6 m7 m8 m21 m22 m23 m24 m30 m31 q9 q10 q11 q13 q14 q15 q16 q17 q18 q19 q20 q28 q33 nr np nb ln po tk we dg d30 d31 ((30 * month) + 29) 5 5 h20 h2r h2p h8 htk rfl (by decide)) (cwV 2 hts gX8_month_X8_tellsOn rfl rfl rfl (by decide +kernel) ⟨Nat.le_of_ble_eq_true rfl, Nat.le_of_ble_eq_true rfl⟩) (pre_V (ci := 8) (q0 := 0) hB hz hA0 hP hD hS [0, 2, 3] rfl rfl rfl rfl rfl) rfl rfl hl.1 rfl (lv_room (Nat.le_of_ble_eq_true rfl)) dX8_month_48 ⟨Nat.zero_le _, Nat.zero_le _⟩) hP hD hS hA [0, 2, 3] [1] [1, 0, 2, 3] rfl rfl rfl rfl rfl (fun H locs hP hD hS => ?_)
        refine lv_i2l hx hb dX8_month_51 rfl ?_
        refine lv_lmul hx hb dX8_month_52 ?_
        refine lv_ldc2 (v := 1000) hx hb hown (hts _ (List.mem_of_getElem? (i := 2) rfl)) dX8_month_53 ?_
        refine lv_ldiv hx hb dX8_month_56 (by decide) ?_
        refine lv_l2i hx hb dX8_month_57 rfl ?_
        refine lv_goto (tgt := 62) hx hb dX8_month_58 (by decide) ?_
        have er : F_X8_month tk d21 d30 d31 month what = ((((d21 month.toNatClampNeg).toInt64) * ((F_X8_tellsOn tk d30 d31 ((30 * month) + 29) 5).toInt64)) / 1000).toInt32 := by rw [F_X8_month, if_neg c_1, if_neg c_2, if_pos c_3]
        exact W.iret hx hb hr (fun t ht hW => ⟨⟨_, (), rfl, er.symm, by rw [ht]; exact hP, hD⟩, hS.F ht⟩) hS.2.2 dX8_month_62
    · refine lv_aload_n hx hb dX8_month_18 rfl (lv_at hl 0 rfl) ?_
      refine va_get (D := D) (ci := 8) (v := .ref m21) (C := RX8) (T := TX8) (N := 34) hx hb hts hiX8 hown hB.1 hP 0 rfl rfl 21 (by decide) (hts _ (List.mem_of_getElem? (i := 1) rfl)) (fun _ h9 => h9) rfl dX8_month_19 ?_
      refine lv_iload_n hx hb dX8_month_22 rfl (lv_at hl 1 rfl) ?_
      refine ra_i hx hb hB.1 hP 1 rfl month.toNatClampNeg hm1 (by omega) (by decide) dX8_month_23 ?_
      refine lv_goto (tgt := 62) hx hb dX8_month_24 (by decide) ?_
      have er : F_X8_month tk d21 d30 d31 month what = d21 month.toNatClampNeg := by rw [F_X8_month, if_neg c_1, if_pos c_2]
      exact W.iret hx hb hr (fun t ht hW => ⟨⟨_, (), rfl, er.symm, by rw [ht]; exact hP, hD⟩, hS.F ht⟩) hS.2.2 dX8_month_62
  · refine lv_iconst (v := (-1)) hx hb dX8_month_10 (by decide) ?_
    refine lv_goto (tgt := 62) hx hb dX8_month_11 (by decide) ?_
    have er : F_X8_month tk d21 d30 d31 month what = (-1) := by rw [F_X8_month, if_pos c_1]
    exact W.iret hx hb hr (fun t ht hW => ⟨⟨_, (), rfl, er.symm, by rw [ht]; exact hP, hD⟩, hS.F ht⟩) hS.2.2 dX8_month_62
