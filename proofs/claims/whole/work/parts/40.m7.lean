def F_X8_path_L62 (q9 : Int32) (q10 : Int32) (nr : Nat) (np : Nat) (d2 : Nat → Int32) (d3 : Nat → Int32) (d5 : Nat → Int32) (way : Int32) (u : Nat) (v : Nat) (s_ : (Nat → Int32)) : (Nat → Int32) :=
    if (nI (nr - 1 - u)) = ((nI nr) - 1) then (upd s_ ((8 * (nr - 1 - u)) + v) (((d2 ((8 * (nr - 1 - u)) + v)) * ((F_X8_tinBy q9 nr np d3 d5 way (nr - 1 - u) v) - q10)) + 0)) else
    upd s_ ((8 * (nr - 1 - u)) + v) (((d2 ((8 * (nr - 1 - u)) + v)) * ((F_X8_tinBy q9 nr np d3 d5 way (nr - 1 - u) v) - q10)) + (s_ (((8 * (nr - 1 - u)) + 8) + ((F_X8_best np s_ (nI v) ((nr - 1 - u) + 1)).toNatClampNeg))))
def F_X8_path_L51 (q9 : Int32) (q10 : Int32) (nr : Nat) (np : Nat) (d2 : Nat → Int32) (d3 : Nat → Int32) (d5 : Nat → Int32) (way : Int32) (u : Nat) (s_ : (Nat → Int32)) : (Nat → Int32) :=
    (lp (F_X8_path_L62 q9 q10 nr np d2 d3 d5 way u) np s_)
def F_X8_path_L203 (q9 : Int32) (q10 : Int32) (nr : Nat) (np : Nat) (dg : Nat) (d2 : Nat → Int32) (d3 : Nat → Int32) (d5 : Nat → Int32) (d22 : Nat → Int32) (way : Int32) (t : Nat) (s_ : Int32) : Int32 :=
    F_X8_best np (lp (F_X8_path_L51 q9 q10 nr np d2 d3 d5 way) (nr - dg) d22) s_ (dg + (1 + t))
def F_X8_path (q9 : Int32) (q10 : Int32) (q13 : Int32) (nr : Nat) (np : Nat) (dg : Nat) (d2 : Nat → Int32) (d3 : Nat → Int32) (d5 : Nat → Int32) (d22 : Nat → Int32) (way : Int32) (k : Int32) : Int32 :=
  if (F_X8_isIn way 0 2) = 0 then (-100000000) else
  if ((nI dg) - 1) = ((nI nr) - 1) then (-100000000) else
  if (F_X8_isIn k (-1) (((nI nr) - ((nI dg) - 1)) - 2)) = 0 then (-100000000) else
  if k = (-1) then (lp (F_X8_path_L51 q9 q10 nr np d2 d3 d5 way) (nr - dg) d22) (8 * dg + ((F_X8_best np (lp (F_X8_path_L51 q9 q10 nr np d2 d3 d5 way) (nr - dg) d22) q13 dg).toNatClampNeg)) else
  (lp (F_X8_path_L203 q9 q10 nr np dg d2 d3 d5 d22 way) k.toNatClampNeg (F_X8_best np (lp (F_X8_path_L51 q9 q10 nr np d2 d3 d5 way) (nr - dg) d22) q13 dg))
def F_X8_path_4 (q9 : Int32) (q10 : Int32) (nr : Nat) (np : Nat) (dg : Nat) (d2 : Nat → Int32) (d3 : Nat → Int32) (d5 : Nat → Int32) (d22 : Nat → Int32) (way : Int32) (k : Int32) : Nat → Int32 :=
  if (F_X8_isIn way 0 2) = 0 then d22 else
  if ((nI dg) - 1) = ((nI nr) - 1) then d22 else
  if (F_X8_isIn k (-1) (((nI nr) - ((nI dg) - 1)) - 2)) = 0 then d22 else
  if k = (-1) then (lp (F_X8_path_L51 q9 q10 nr np d2 d3 d5 way) (nr - dg) d22) else
  (lp (F_X8_path_L51 q9 q10 nr np d2 d3 d5 way) (nr - dg) d22)
set_option maxHeartbeats 4000000 in
set_option maxRecDepth 100000 in
theorem c_X8_path (l : Launch) {D : va_G} {cI cZ cB : ClassId} {au : Nat} {kA kV : Nat → Nat} {z0 : Nat} (sz : Nat) (mA : Nat) (m2 : Nat) (m3 : Nat) (m4 : Nat) (m5 : Nat) (m6 : Nat) (m7 : Nat) (m8 : Nat) (m21 : Nat) (m22 : Nat) (m23 : Nat) (m24 : Nat) (m30 : Nat) (m31 : Nat) (q9 : Int32) (q10 : Int32) (q11 : Int32) (q13 : Int32) (q14 : Int32) (q15 : Int32) (q16 : Int32) (q17 : Int32) (q18 : Int32) (q19 : Int32) (q20 : Int32) (q28 : Int32) (q33 : Int32) (nr : Nat) (np : Nat) (nb : Nat) (ln : Nat) (po : Nat) (tk : Nat) (we : Nat) (dg : Nat) (d2 : Nat → Int32) (d3 : Nat → Int32) (d5 : Nat → Int32) (d22 : Nat → Int32) (way : Int32) (k : Int32) (h20 : nr ≤ 20) (h2r : 2 ≤ nr) (h2p : 2 ≤ np) (h8 : np ≤ 8) (hdg : dg ≤ nr) (hpz : okZ np q13) : Met l yX8_path wsX8_path ({ frames := 3, cells := 0, slots := 0, locals := 72 }) (va_Pc [.ref mA, .int way, .int k] (PRE D cI cZ cB au kA kV z0 sz [(mA, .inr (8, .int (nI nr) :: .int (nI np) :: .ref m2 :: .ref m3 :: .ref m4 :: .ref m5 :: .ref m6 :: .ref m7 :: .ref m8 :: .int q9 :: .int q10 :: .int q11 :: .int ((nI dg) - 1) :: .int q13 :: .int q14 :: .int q15 :: .int q16 :: .int q17 :: .int q18 :: .int q19 :: .int q20 :: .ref m21 :: .ref m22 :: .ref m23 :: .ref m24 :: .int (nI nb) :: .int (nI ln) :: .int (nI po) :: .int q28 :: .int (nI tk) :: .ref m30 :: .ref m31 :: .int (nI we) :: .int q33 :: [])), (m2, .inl (cI, 160, .inl d2)), (m3, .inl (cI, 160, .inl d3)), (m5, .inl (cZ, 160, .inl d5)), (m22, .inl (cI, 160, .inl d22))])) (QI D [(mA, .inr (8, .int (nI nr) :: .int (nI np) :: .ref m2 :: .ref m3 :: .ref m4 :: .ref m5 :: .ref m6 :: .ref m7 :: .ref m8 :: .int q9 :: .int q10 :: .int q11 :: .int ((nI dg) - 1) :: .int q13 :: .int q14 :: .int q15 :: .int q16 :: .int q17 :: .int q18 :: .int q19 :: .int q20 :: .ref m21 :: .ref m22 :: .ref m23 :: .ref m24 :: .int (nI nb) :: .int (nI ln) :: .int (nI po) :: .int q28 :: .int (nI tk) :: .ref m30 :: .ref m31 :: .int (nI we) :: .int q33 :: [])), (m2, .inl (cI, 160, .inl d2)), (m3, .inl (cI, 160, .inl d3)), (m5, .inl (cZ, 160, .inl d5)), (m22, .inl (cI, 160, .inl d22))] sz (F_X8_path q9 q10 q13 nr np dg d2 d3 d5 d22 way k) [(mA, .inr (8, .int (nI nr) :: .int (nI np) :: .ref m2 :: .ref m3 :: .ref m4 :: .ref m5 :: .ref m6 :: .ref m7 :: .ref m8 :: .int q9 :: .int q10 :: .int q11 :: .int ((nI dg) - 1) :: .int q13 :: .int q14 :: .int q15 :: .int q16 :: .int q17 :: .int q18 :: .int q19 :: .int q20 :: .ref m21 :: .ref m22 :: .ref m23 :: .ref m24 :: .int (nI nb) :: .int (nI ln) :: .int (nI po) :: .int q28 :: .int (nI tk) :: .ref m30 :: .ref m31 :: .int (nI we) :: .int q33 :: [])), (m2, .inl (cI, 160, .inl d2)), (m3, .inl (cI, 160, .inl d3)), (m5, .inl (cZ, 160, .inl d5)), (m22, .inl (cI, 160, .inl (F_X8_path_4 q9 q10 nr np dg d2 d3 d5 d22 way k)))]) 0 0 (va_A [(mA, .inr (8, .int (nI nr) :: .int (nI np) :: .ref m2 :: .ref m3 :: .ref m4 :: .ref m5 :: .ref m6 :: .ref m7 :: .ref m8 :: .int q9 :: .int q10 :: .int q11 :: .int ((nI dg) - 1) :: .int q13 :: .int q14 :: .int q15 :: .int q16 :: .int q17 :: .int q18 :: .int q19 :: .int q20 :: .ref m21 :: .ref m22 :: .ref m23 :: .ref m24 :: .int (nI nb) :: .int (nI ln) :: .int (nI po) :: .int q28 :: .int (nI tk) :: .ref m30 :: .ref m31 :: .int (nI we) :: .int q33 :: [])), (m2, .inl (cI, 160, .inl d2)), (m3, .inl (cI, 160, .inl d3)), (m5, .inl (cZ, 160, .inl d5)), (m22, .inl (cI, 160, .inl d22))] sz) := by
  refine Met.ofW (cc := cX8_path) (maxL := 6) (ret := (some .int)) (by decide) rfl ?_
  intro p e s m args below meth c s₁ B hml hv
  obtain ⟨rfl, hsz, hz, hP, hD0, hB⟩ := hv
  have hx := B.exec
  have hb := B.bytes
  have hr := B.returns
  have hts := atoms_spec (ws := wsX8_path) B.pre
  have hown : s.vm.findClass RX8 = some m.cls := findClass_of_methodNamed B.named
  have hlocks := B.notSynchronized
  subst hsz
  have hD := hD0.self (sz := s.heap.size)
  have hA0 := va_A0 hD0 hz
  unfold QI
  generalize hAe : va_A [(mA, .inr (8, .int (nI nr) :: .int (nI np) :: .ref m2 :: .ref m3 :: .ref m4 :: .ref m5 :: .ref m6 :: .ref m7 :: .ref m8 :: .int q9 :: .int q10 :: .int q11 :: .int ((nI dg) - 1) :: .int q13 :: .int q14 :: .int q15 :: .int q16 :: .int q17 :: .int q18 :: .int q19 :: .int q20 :: .ref m21 :: .ref m22 :: .ref m23 :: .ref m24 :: .int (nI nb) :: .int (nI ln) :: .int (nI po) :: .int q28 :: .int (nI tk) :: .ref m30 :: .ref m31 :: .int (nI we) :: .int q33 :: [])), (m2, .inl (cI, 160, .inl d2)), (m3, .inl (cI, 160, .inl d3)), (m5, .inl (cZ, 160, .inl d5)), (m22, .inl (cI, 160, .inl d22))] s.heap.size = A at hD hA0 ⊢
  have hA : ∀ q : Nat, s.heap.size ≤ q → A q := fun q h => by rw [← hAe]; exact Or.inr h
  have hS : va_S A s.heap s.heap [] := va_S.rf
  have hiX8 : ∀ w ∈ wsX80, w ∈ wsX8_path := fun w h => List.mem_cons_of_mem _ (List.mem_append_right _ h)
  have hl := lv_entry ([.ref mA, .int way, .int k]) (n := 6) (Nat.le_of_ble_eq_true rfl)
  rw [lg_entry_eq]
  generalize (lg_sl ([.ref mA, .int way, .int k]) ++ List.replicate (6 - (lg_sl ([.ref mA, .int way, .int k])).length) Slot.unset).toArray = ls at hl ⊢
  have hl : lv_has ls 6 [(0, .ref mA), (1, .int way), (2, .int k)] := hl
  refine lv_iload_n hx hb dX8_path_0 rfl (lv_at hl 1 rfl) ?_
  refine lv_iconst (v := 0) hx hb dX8_path_1 (by decide) ?_
  refine lv_iconst (v := 2) hx hb dX8_path_2 (by decide) ?_
  refine k_i (w2 := [(mA, .inr (8, .int (nI nr) :: .int (nI np) :: .ref m2 :: .ref m3 :: .ref m4 :: .ref m5 :: .ref m6 :: .ref m7 :: .ref m8 :: .int q9 :: .int q10 :: .int q11 :: .int ((nI dg) - 1) :: .int q13 :: .int q14 :: .int q15 :: .int q16 :: .int q17 :: .int q18 :: .int q19 :: .int q20 :: .ref m21 :: .ref m22 :: .ref m23 :: .ref m24 :: .int (nI nb) :: .int (nI ln) :: .int (nI po) :: .int q28 :: .int (nI tk) :: .ref m30 :: .ref m31 :: .int (nI we) :: .int q33 :: [])), (m2, .inl (cI, 160, .inl d2)), (m3, .inl (cI, 160, .inl d3)), (m5, .inl (cZ, 160, .inl d5)), (m22, .inl (cI, 160, .inl d22))]) (va_runS (As := [.int way, .int 0, .int 2]) (rest := []) ⟨hx, hb, hml, hown, hts⟩ (c_X8_isIn l _ way 0 2) (va_cwS 3 hts gX8_path_X8_isIn rfl rfl rfl (by decide +kernel) ⟨Nat.le_of_ble_eq_true rfl, Nat.le_of_ble_eq_true rfl⟩) (pre_S hB hz hA0 hP hD hS [] rfl rfl) rfl rfl hl.1 rfl (lv_room (Nat.le_of_ble_eq_true rfl)) dX8_path_3 ⟨Nat.zero_le _, Nat.zero_le _⟩) hP hD hS hA [] [0, 1, 2, 3, 4] [0, 1, 2, 3, 4] rfl rfl rfl rfl rfl (fun H locs hP hD hS => ?_)
  refine lv_if_eq (tgt := 41) hx hb dX8_path_6 (by decide) (fun c_1 => ?_) (fun c_1 => ?_)
  · refine lv_ldc (v := (-100000000)) hx hb hown (hts _ (List.mem_of_getElem? (i := 3) rfl)) dX8_path_41 ?_
    have er : F_X8_path q9 q10 q13 nr np dg d2 d3 d5 d22 way k = (-100000000) := by rw [F_X8_path, if_pos c_1]
    have e4 : F_X8_path_4 q9 q10 nr np dg d2 d3 d5 d22 way k = d22 := by rw [F_X8_path_4, if_pos c_1]
    exact W.iret hx hb hr (fun t ht hW => ⟨⟨_, (), rfl, er.symm, by rw [ht, e4]; exact hP, by rw [e4]; exact hD⟩, hS.F ht⟩) hS.2.2 dX8_path_43
  · refine lv_aload_n hx hb dX8_path_9 rfl (lv_at hl 0 rfl) ?_
    refine va_get (D := D) (ci := 8) (v := .int ((nI dg) - 1)) (C := RX8) (T := TX8) (N := 34) hx hb hts hiX8 hown hB.1 hP 0 rfl rfl 12 (by decide) (hts _ (List.mem_of_getElem? (i := 1) rfl)) (fun _ h9 => h9) rfl dX8_path_10 ?_
    refine lv_aload_n hx hb dX8_path_13 rfl (lv_at hl 0 rfl) ?_
    refine va_get (D := D) (ci := 8) (v := .int (nI nr)) (C := RX8) (T := TX8) (N := 34) hx hb hts hiX8 hown hB.1 hP 0 rfl rfl 0 (by decide) (hts _ (List.mem_of_getElem? (i := 2) rfl)) (fun _ h9 => h9) rfl dX8_path_14 ?_
    refine lv_iconst (v := 1) hx hb dX8_path_17 (by decide) ?_
    refine lv_isub hx hb dX8_path_18 ?_
    refine lv_icmp_eq (tgt := 41) hx hb dX8_path_19 (by decide) (fun c_2 => ?_) (fun c_2 => ?_)
    · refine lv_ldc (v := (-100000000)) hx hb hown (hts _ (List.mem_of_getElem? (i := 3) rfl)) dX8_path_41 ?_
      have er : F_X8_path q9 q10 q13 nr np dg d2 d3 d5 d22 way k = (-100000000) := by rw [F_X8_path, if_neg c_1, if_pos c_2]
      have e4 : F_X8_path_4 q9 q10 nr np dg d2 d3 d5 d22 way k = d22 := by rw [F_X8_path_4, if_neg c_1, if_pos c_2]
      exact W.iret hx hb hr (fun t ht hW => ⟨⟨_, (), rfl, er.symm, by rw [ht, e4]; exact hP, by rw [e4]; exact hD⟩, hS.F ht⟩) hS.2.2 dX8_path_43
    · have hd1 := m1_lt hdg (by omega) c_2
      refine lv_iload_n hx hb dX8_path_22 rfl (lv_at hl 2 rfl) ?_
      refine lv_iconst (v := (-1)) hx hb dX8_path_23 (by decide) ?_
      refine lv_aload_n hx hb dX8_path_24 rfl (lv_at hl 0 rfl) ?_
      refine va_get (D := D) (ci := 8) (v := .int (nI nr)) (C := RX8) (T := TX8) (N := 34) hx hb hts hiX8 hown hB.1 hP 0 rfl rfl 0 (by decide) (hts _ (List.mem_of_getElem? (i := 2) rfl)) (fun _ h9 => h9) rfl dX8_path_25 ?_
      refine lv_aload_n hx hb dX8_path_28 rfl (lv_at hl 0 rfl) ?_
      refine va_get (D := D) (ci := 8) (v := .int ((nI dg) - 1)) (C := RX8) (T := TX8) (N := 34) hx hb hts hiX8 hown hB.1 hP 0 rfl rfl 12 (by decide) (hts _ (List.mem_of_getElem? (i := 1) rfl)) (fun _ h9 => h9) rfl dX8_path_29 ?_
      refine lv_isub hx hb dX8_path_32 ?_
      refine lv_iconst (v := 2) hx hb dX8_path_33 (by decide) ?_
      refine lv_isub hx hb dX8_path_34 ?_
      refine k_i (w2 := [(mA, .inr (8, .int (nI nr) :: .int (nI np) :: .ref m2 :: .ref m3 :: .ref m4 :: .ref m5 :: .ref m6 :: .ref m7 :: .ref m8 :: .int q9 :: .int q10 :: .int q11 :: .int ((nI dg) - 1) :: .int q13 :: .int q14 :: .int q15 :: .int q16 :: .int q17 :: .int q18 :: .int q19 :: .int q20 :: .ref m21 :: .ref m22 :: .ref m23 :: .ref m24 :: .int (nI nb) :: .int (nI ln) :: .int (nI po) :: .int q28 :: .int (nI tk) :: .ref m30 :: .ref m31 :: .int (nI we) :: .int q33 :: [])), (m2, .inl (cI, 160, .inl d2)), (m3, .inl (cI, 160, .inl d3)), (m5, .inl (cZ, 160, .inl d5)), (m22, .inl (cI, 160, .inl d22))]) (va_runS (As := [.int k, .int (-1), .int (((nI nr) - ((nI dg) - 1)) - 2)]) (rest := []) ⟨hx, hb, hml, hown, hts⟩ (c_X8_isIn l _ k (-1) (((nI nr) - ((nI dg) - 1)) - 2)) (va_cwS 3 hts gX8_path_X8_isIn rfl rfl rfl (by decide +kernel) ⟨Nat.le_of_ble_eq_true rfl, Nat.le_of_ble_eq_true rfl⟩) (pre_S hB hz hA0 hP hD hS [] rfl rfl) rfl rfl hl.1 rfl (lv_room (Nat.le_of_ble_eq_true rfl)) dX8_path_35 ⟨Nat.zero_le _, Nat.zero_le _⟩) hP hD hS hA [] [0, 1, 2, 3, 4] [0, 1, 2, 3, 4] rfl rfl rfl rfl rfl (fun H locs hP hD hS => ?_)
      refine lv_if_ne (tgt := 44) hx hb dX8_path_38 (by decide) (fun c_3 => ?_) (fun c_3 => ?_)
      · have hkw := c_3
        refine lv_aload_n hx hb dX8_path_44 rfl (lv_at hl 0 rfl) ?_
        refine va_get (D := D) (ci := 8) (v := .int (nI nr)) (C := RX8) (T := TX8) (N := 34) hx hb hts hiX8 hown hB.1 hP 0 rfl rfl 0 (by decide) (hts _ (List.mem_of_getElem? (i := 2) rfl)) (fun _ h9 => h9) rfl dX8_path_45 ?_
        refine lv_iconst (v := 1) hx hb dX8_path_48 (by decide) ?_
        refine lv_isub hx hb dX8_path_49 ?_
        refine lv_istore_n (lv' := [(3, .int ((nI nr) - 1)), (0, .ref mA), (1, .int way), (2, .int k)]) hx hb dX8_path_50 rfl hl (by decide) rfl (fun ls hl => ?_)
        refine lpM (σ := Nat) (fun u => u ≤ nr - dg) (fun u => (nr - dg) - u) (fun u => [(mA, .inr (8, .int (nI nr) :: .int (nI np) :: .ref m2 :: .ref m3 :: .ref m4 :: .ref m5 :: .ref m6 :: .ref m7 :: .ref m8 :: .int q9 :: .int q10 :: .int q11 :: .int ((nI dg) - 1) :: .int q13 :: .int q14 :: .int q15 :: .int q16 :: .int q17 :: .int q18 :: .int q19 :: .int q20 :: .ref m21 :: .ref m22 :: .ref m23 :: .ref m24 :: .int (nI nb) :: .int (nI ln) :: .int (nI po) :: .int q28 :: .int (nI tk) :: .ref m30 :: .ref m31 :: .int (nI we) :: .int q33 :: [])), (m2, .inl (cI, 160, .inl d2)), (m3, .inl (cI, 160, .inl d3)), (m5, .inl (cZ, 160, .inl d5)), (m22, .inl (cI, 160, .inl (lp (F_X8_path_L51 q9 q10 nr np d2 d3 d5 way) u d22)))]) (fun u => [(3, .int ((nI (nr - u)) - 1)), (0, .ref mA), (1, .int way), (2, .int k)]) 0 (Nat.zero_le _) hP hD hS (lv_sub hl [0, 1, 2, 3] rfl) ?_
        intro u h_u ih_u H locs ls hP hD hS hl
        have hP : va_P D vwCl [(mA, .inr (8, .int (nI nr) :: .int (nI np) :: .ref m2 :: .ref m3 :: .ref m4 :: .ref m5 :: .ref m6 :: .ref m7 :: .ref m8 :: .int q9 :: .int q10 :: .int q11 :: .int ((nI dg) - 1) :: .int q13 :: .int q14 :: .int q15 :: .int q16 :: .int q17 :: .int q18 :: .int q19 :: .int q20 :: .ref m21 :: .ref m22 :: .ref m23 :: .ref m24 :: .int (nI nb) :: .int (nI ln) :: .int (nI po) :: .int q28 :: .int (nI tk) :: .ref m30 :: .ref m31 :: .int (nI we) :: .int q33 :: [])), (m2, .inl (cI, 160, .inl d2)), (m3, .inl (cI, 160, .inl d3)), (m5, .inl (cZ, 160, .inl d5)), (m22, .inl (cI, 160, .inl (lp (F_X8_path_L51 q9 q10 nr np d2 d3 d5 way) u d22)))] H := hP
        have hD : va_D A [(mA, .inr (8, .int (nI nr) :: .int (nI np) :: .ref m2 :: .ref m3 :: .ref m4 :: .ref m5 :: .ref m6 :: .ref m7 :: .ref m8 :: .int q9 :: .int q10 :: .int q11 :: .int ((nI dg) - 1) :: .int q13 :: .int q14 :: .int q15 :: .int q16 :: .int q17 :: .int q18 :: .int q19 :: .int q20 :: .ref m21 :: .ref m22 :: .ref m23 :: .ref m24 :: .int (nI nb) :: .int (nI ln) :: .int (nI po) :: .int q28 :: .int (nI tk) :: .ref m30 :: .ref m31 :: .int (nI we) :: .int q33 :: [])), (m2, .inl (cI, 160, .inl d2)), (m3, .inl (cI, 160, .inl d3)), (m5, .inl (cZ, 160, .inl d5)), (m22, .inl (cI, 160, .inl (lp (F_X8_path_L51 q9 q10 nr np d2 d3 d5 way) u d22)))] := hD
        have hl : lv_has ls 6 [(3, .int ((nI (nr - u)) - 1)), (0, .ref mA), (1, .int way), (2, .int k)] := hl
        generalize hs_u : lp (F_X8_path_L51 q9 q10 nr np d2 d3 d5 way) u d22 = sv4 at hP hD 
        refine lv_iload_n hx hb dX8_path_51 rfl (lv_at hl 0 rfl) ?_
        refine lv_aload_n hx hb dX8_path_52 rfl (lv_at hl 1 rfl) ?_
        refine va_get (D := D) (ci := 8) (v := .int ((nI dg) - 1)) (C := RX8) (T := TX8) (N := 34) hx hb hts hiX8 hown hB.1 hP 0 rfl rfl 12 (by decide) (hts _ (List.mem_of_getElem? (i := 1) rfl)) (fun _ h9 => h9) rfl dX8_path_53 ?_
        refine lv_icmp_le (tgt := 162) hx hb dX8_path_56 (by decide) (fun c_5 => ?_) (fun c_5 => ?_)
        · have hx_u : nr - dg = u := Eq.symm (dm_ex (by omega) hdg h_u c_5)
          subst hx_u
          subst hs_u
          refine lv_aload_n hx hb dX8_path_162 rfl (lv_at hl 1 rfl) ?_
          refine lv_aload_n hx hb dX8_path_163 rfl (lv_at hl 1 rfl) ?_
          refine va_get (D := D) (ci := 8) (v := .int ((nI dg) - 1)) (C := RX8) (T := TX8) (N := 34) hx hb hts hiX8 hown hB.1 hP 0 rfl rfl 12 (by decide) (hts _ (List.mem_of_getElem? (i := 1) rfl)) (fun _ h9 => h9) rfl dX8_path_164 ?_
          refine lv_iconst (v := 1) hx hb dX8_path_167 (by decide) ?_
          refine lv_iadd hx hb dX8_path_168 ?_
          rw [m1p1]
          refine lv_aload_n hx hb dX8_path_169 rfl (lv_at hl 1 rfl) ?_
          refine va_get (D := D) (ci := 8) (v := .int q13) (C := RX8) (T := TX8) (N := 34) hx hb hts hiX8 hown hB.1 hP 0 rfl rfl 13 (by decide) (hts _ (List.mem_of_getElem? (i := 8) rfl)) (fun _ h9 => h9) rfl dX8_path_170 ?_
          refine k_i (w2 := [(mA, .inr (8, .int (nI nr) :: .int (nI np) :: .ref m2 :: .ref m3 :: .ref m4 :: .ref m5 :: .ref m6 :: .ref m7 :: .ref m8 :: .int q9 :: .int q10 :: .int q11 :: .int ((nI dg) - 1) :: .int q13 :: .int q14 :: .int q15 :: .int q16 :: .int q17 :: .int q18 :: .int q19 :: .int q20 :: .ref m21 :: .ref m22 :: .ref m23 :: .ref m24 :: .int (nI nb) :: .int (nI ln) :: .int (nI po) :: .int q28 :: .int (nI tk) :: .ref m30 :: .ref m31 :: .int (nI we) :: .int q33 :: [])), (m2, .inl (cI, 160, .inl d2)), (m3, .inl (cI, 160, .inl d3)), (m5, .inl (cZ, 160, .inl d5)), (m22, .inl (cI, 160, .inl (lp (F_X8_path_L51 q9 q10 nr np d2 d3 d5 way) (nr - dg) d22)))]) (va_runV (As := [.int (nI dg), .int q13]) (rest := []) ⟨hx, hb, hml, hown, hts⟩ (c_X8_best l _ mA m2 m3 m4 m5 m6 m7 m8 m21 m22 m23 m24 m30 m31 q9 q10 q11 q13 q14 q15 q16 q17 q18 q19 q20 q28 q33 nr np nb ln po tk we dg (lp (F_X8_path_L51 q9 q10 nr np d2 d3 d5 way) (nr - dg) d22) (nI dg) q13 dg h20 h2r h2p h8 rfl hd1) (cwV 2 hts gX8_path_X8_best rfl rfl rfl (by decide +kernel) ⟨Nat.le_of_ble_eq_true rfl, Nat.le_of_ble_eq_true rfl⟩) (pre_V (ci := 8) (q0 := 0) hB hz hA0 hP hD hS [0, 4] rfl rfl rfl rfl rfl) rfl rfl hl.1 rfl (lv_room (Nat.le_of_ble_eq_true rfl)) dX8_path_173 ⟨Nat.zero_le _, Nat.zero_le _⟩) hP hD hS hA [0, 4] [1, 2, 3] [3, 0, 1, 2, 4] rfl rfl rfl rfl rfl (fun H locs hP hD hS => ?_)
          obtain ⟨hbn, hbn2⟩ : F_X8_best np (lp (F_X8_path_L51 q9 q10 nr np d2 d3 d5 way) (nr - dg) d22) q13 dg = nI (F_X8_best np (lp (F_X8_path_L51 q9 q10 nr np d2 d3 d5 way) (nr - dg) d22) q13 dg).toNatClampNeg ∧ (F_X8_best np (lp (F_X8_path_L51 q9 q10 nr np d2 d3 d5 way) (nr - dg) d22) q13 dg).toNatClampNeg < np := mbest_ok (by omega) (by omega) hpz
          refine lv_istore_n (lv' := [(3, .int (F_X8_best np (lp (F_X8_path_L51 q9 q10 nr np d2 d3 d5 way) (nr - dg) d22) q13 dg)), (0, .ref mA), (1, .int way), (2, .int k)]) hx hb dX8_path_176 rfl hl (by decide) rfl (fun ls hl => ?_)
          refine lv_iload_n hx hb dX8_path_177 rfl (lv_at hl 3 rfl) ?_
          refine lv_iconst (v := (-1)) hx hb dX8_path_178 (by decide) ?_
          refine lv_icmp_ne (tgt := 200) hx hb dX8_path_179 (by decide) (fun c_6 => ?_) (fun c_6 => ?_)
          · obtain ⟨hk1, hk2⟩ := mk_ok hdg (by omega) hkw c_6
            refine lv_iconst (v := 1) hx hb dX8_path_200 (by decide) ?_
            refine lv_istore (lv' := [(4, .int 1), (3, .int (F_X8_best np (lp (F_X8_path_L51 q9 q10 nr np d2 d3 d5 way) (nr - dg) d22) q13 dg)), (0, .ref mA), (1, .int way), (2, .int k)]) hx hb dX8_path_201 hl (by decide) rfl (fun ls hl => ?_)
            refine lpM (σ := Nat) (fun t => t ≤ k.toNatClampNeg) (fun t => k.toNatClampNeg - t) (fun t => [(mA, .inr (8, .int (nI nr) :: .int (nI np) :: .ref m2 :: .ref m3 :: .ref m4 :: .ref m5 :: .ref m6 :: .ref m7 :: .ref m8 :: .int q9 :: .int q10 :: .int q11 :: .int ((nI dg) - 1) :: .int q13 :: .int q14 :: .int q15 :: .int q16 :: .int q17 :: .int q18 :: .int q19 :: .int q20 :: .ref m21 :: .ref m22 :: .ref m23 :: .ref m24 :: .int (nI nb) :: .int (nI ln) :: .int (nI po) :: .int q28 :: .int (nI tk) :: .ref m30 :: .ref m31 :: .int (nI we) :: .int q33 :: [])), (m2, .inl (cI, 160, .inl d2)), (m3, .inl (cI, 160, .inl d3)), (m5, .inl (cZ, 160, .inl d5)), (m22, .inl (cI, 160, .inl (lp (F_X8_path_L51 q9 q10 nr np d2 d3 d5 way) (nr - dg) d22)))]) (fun t => [(4, .int (nI (1 + t))), (3, .int (lp (F_X8_path_L203 q9 q10 nr np dg d2 d3 d5 d22 way) t (F_X8_best np (lp (F_X8_path_L51 q9 q10 nr np d2 d3 d5 way) (nr - dg) d22) q13 dg))), (0, .ref mA), (1, .int way), (2, .int k)]) 0 (Nat.zero_le _) hP hD hS (lv_sub hl [0, 1, 2, 3, 4] rfl) ?_
            intro t h_t ih_t H locs ls hP hD hS hl
            have hP : va_P D vwCl [(mA, .inr (8, .int (nI nr) :: .int (nI np) :: .ref m2 :: .ref m3 :: .ref m4 :: .ref m5 :: .ref m6 :: .ref m7 :: .ref m8 :: .int q9 :: .int q10 :: .int q11 :: .int ((nI dg) - 1) :: .int q13 :: .int q14 :: .int q15 :: .int q16 :: .int q17 :: .int q18 :: .int q19 :: .int q20 :: .ref m21 :: .ref m22 :: .ref m23 :: .ref m24 :: .int (nI nb) :: .int (nI ln) :: .int (nI po) :: .int q28 :: .int (nI tk) :: .ref m30 :: .ref m31 :: .int (nI we) :: .int q33 :: [])), (m2, .inl (cI, 160, .inl d2)), (m3, .inl (cI, 160, .inl d3)), (m5, .inl (cZ, 160, .inl d5)), (m22, .inl (cI, 160, .inl (lp (F_X8_path_L51 q9 q10 nr np d2 d3 d5 way) (nr - dg) d22)))] H := hP
            have hD : va_D A [(mA, .inr (8, .int (nI nr) :: .int (nI np) :: .ref m2 :: .ref m3 :: .ref m4 :: .ref m5 :: .ref m6 :: .ref m7 :: .ref m8 :: .int q9 :: .int q10 :: .int q11 :: .int ((nI dg) - 1) :: .int q13 :: .int q14 :: .int q15 :: .int q16 :: .int q17 :: .int q18 :: .int q19 :: .int q20 :: .ref m21 :: .ref m22 :: .ref m23 :: .ref m24 :: .int (nI nb) :: .int (nI ln) :: .int (nI po) :: .int q28 :: .int (nI tk) :: .ref m30 :: .ref m31 :: .int (nI we) :: .int q33 :: [])), (m2, .inl (cI, 160, .inl d2)), (m3, .inl (cI, 160, .inl d3)), (m5, .inl (cZ, 160, .inl d5)), (m22, .inl (cI, 160, .inl (lp (F_X8_path_L51 q9 q10 nr np d2 d3 d5 way) (nr - dg) d22)))] := hD
            have hl : lv_has ls 6 [(4, .int (nI (1 + t))), (3, .int (lp (F_X8_path_L203 q9 q10 nr np dg d2 d3 d5 d22 way) t (F_X8_best np (lp (F_X8_path_L51 q9 q10 nr np d2 d3 d5 way) (nr - dg) d22) q13 dg))), (0, .ref mA), (1, .int way), (2, .int k)] := hl
            generalize hs_t : lp (F_X8_path_L203 q9 q10 nr np dg d2 d3 d5 d22 way) t (F_X8_best np (lp (F_X8_path_L51 q9 q10 nr np d2 d3 d5 way) (nr - dg) d22) q13 dg) = sv7 at hl
            have hbz : okZ np sv7 := by rw [← hs_t]; exact lp_inv (P := okZ np) (n := k.toNatClampNeg) (fun a z ha hz => by unfold F_X8_path_L203; exact Or.inr (mbest_ok (by omega) (by omega) hz)) (Or.inr ⟨hbn, hbn2⟩) t h_t
            refine lv_iload hx hb dX8_path_203 (lv_at hl 0 rfl) ?_
            refine lv_iload_n hx hb dX8_path_205 rfl (lv_at hl 4 rfl) ?_
            refine lv_icmp_gt (tgt := 230) hx hb dX8_path_206 (by decide) (fun c_8 => ?_) (fun c_8 => ?_)
            · have hx_t : k.toNatClampNeg = t := Eq.symm (kl_ex hk1 (by omega) h_t c_8)
              subst hx_t
              subst hs_t
              refine lv_iload_n hx hb dX8_path_230 rfl (lv_at hl 1 rfl) ?_
              have er : F_X8_path q9 q10 q13 nr np dg d2 d3 d5 d22 way k = (lp (F_X8_path_L203 q9 q10 nr np dg d2 d3 d5 d22 way) k.toNatClampNeg (F_X8_best np (lp (F_X8_path_L51 q9 q10 nr np d2 d3 d5 way) (nr - dg) d22) q13 dg)) := by rw [F_X8_path, if_neg c_1, if_neg c_2, if_neg c_3, if_neg c_6]
              have e4 : F_X8_path_4 q9 q10 nr np dg d2 d3 d5 d22 way k = (lp (F_X8_path_L51 q9 q10 nr np d2 d3 d5 way) (nr - dg) d22) := by rw [F_X8_path_4, if_neg c_1, if_neg c_2, if_neg c_3, if_neg c_6]
              exact W.iret hx hb hr (fun t ht hW => ⟨⟨_, (), rfl, er.symm, by rw [ht, e4]; exact hP, by rw [e4]; exact hD⟩, hS.F ht⟩) hS.2.2 dX8_path_231
            · have hlt_t : t < k.toNatClampNeg := kl_go hk1 (by omega) h_t c_8
              refine lv_aload_n hx hb dX8_path_209 rfl (lv_at hl 2 rfl) ?_
              refine lv_aload_n hx hb dX8_path_210 rfl (lv_at hl 2 rfl) ?_
              refine va_get (D := D) (ci := 8) (v := .int ((nI dg) - 1)) (C := RX8) (T := TX8) (N := 34) hx hb hts hiX8 hown hB.1 hP 0 rfl rfl 12 (by decide) (hts _ (List.mem_of_getElem? (i := 1) rfl)) (fun _ h9 => h9) rfl dX8_path_211 ?_
              refine lv_iconst (v := 1) hx hb dX8_path_214 (by decide) ?_
              refine lv_iadd hx hb dX8_path_215 ?_
              rw [m1p1]
              refine lv_iload hx hb dX8_path_216 (lv_at hl 0 rfl) ?_
              refine lv_iadd hx hb dX8_path_218 ?_
              rw [show (nI dg) + (nI (1 + t)) = nI (dg + (1 + t)) from (nx_add rfl rfl)]
              refine lv_iload_n hx hb dX8_path_219 rfl (lv_at hl 1 rfl) ?_
              refine k_i (w2 := [(mA, .inr (8, .int (nI nr) :: .int (nI np) :: .ref m2 :: .ref m3 :: .ref m4 :: .ref m5 :: .ref m6 :: .ref m7 :: .ref m8 :: .int q9 :: .int q10 :: .int q11 :: .int ((nI dg) - 1) :: .int q13 :: .int q14 :: .int q15 :: .int q16 :: .int q17 :: .int q18 :: .int q19 :: .int q20 :: .ref m21 :: .ref m22 :: .ref m23 :: .ref m24 :: .int (nI nb) :: .int (nI ln) :: .int (nI po) :: .int q28 :: .int (nI tk) :: .ref m30 :: .ref m31 :: .int (nI we) :: .int q33 :: [])), (m2, .inl (cI, 160, .inl d2)), (m3, .inl (cI, 160, .inl d3)), (m5, .inl (cZ, 160, .inl d5)), (m22, .inl (cI, 160, .inl (lp (F_X8_path_L51 q9 q10 nr np d2 d3 d5 way) (nr - dg) d22)))]) (va_runV (As := [.int (nI (dg + (1 + t))), .int sv7]) (rest := []) ⟨hx, hb, hml, hown, hts⟩ (c_X8_best l _ mA m2 m3 m4 m5 m6 m7 m8 m21 m22 m23 m24 m30 m31 q9 q10 q11 q13 q14 q15 q16 q17 q18 q19 q20 q28 q33 nr np nb ln po tk we dg (lp (F_X8_path_L51 q9 q10 nr np d2 d3 d5 way) (nr - dg) d22) (nI (dg + (1 + t))) sv7 (dg + (1 + t)) h20 h2r h2p h8 rfl (by omega)) (cwV 2 hts gX8_path_X8_best rfl rfl rfl (by decide +kernel) ⟨Nat.le_of_ble_eq_true rfl, Nat.le_of_ble_eq_true rfl⟩) (pre_V (ci := 8) (q0 := 0) hB hz hA0 hP hD hS [0, 4] rfl rfl rfl rfl rfl) rfl rfl hl.1 rfl (lv_room (Nat.le_of_ble_eq_true rfl)) dX8_path_220 ⟨Nat.zero_le _, Nat.zero_le _⟩) hP hD hS hA [0, 4] [1, 2, 3] [3, 0, 1, 2, 4] rfl rfl rfl rfl rfl (fun H locs hP hD hS => ?_)
              refine lv_istore_n (lv' := [(3, .int (F_X8_best np (lp (F_X8_path_L51 q9 q10 nr np d2 d3 d5 way) (nr - dg) d22) sv7 (dg + (1 + t)))), (4, .int (nI (1 + t))), (0, .ref mA), (1, .int way), (2, .int k)]) hx hb dX8_path_223 rfl hl (by decide) rfl (fun ls hl => ?_)
              refine lv_iinc (v := nI (1 + (t + 1))) (lv' := [(4, .int (nI (1 + (t + 1)))), (3, .int (F_X8_best np (lp (F_X8_path_L51 q9 q10 nr np d2 d3 d5 way) (nr - dg) d22) sv7 (dg + (1 + t)))), (0, .ref mA), (1, .int way), (2, .int k)]) hx hb dX8_path_224 hl (k := 1) rfl (nI_1 (1 + t)) (by decide) rfl (fun ls hl => ?_)
              refine lv_goto (tgt := 203) hx hb dX8_path_227 (by decide) ?_
              have e_step : F_X8_path_L203 q9 q10 nr np dg d2 d3 d5 d22 way t sv7 = F_X8_best np (lp (F_X8_path_L51 q9 q10 nr np d2 d3 d5 way) (nr - dg) d22) sv7 (dg + (1 + t)) := by rw [F_X8_path_L203]
              have hP2 : va_P D vwCl [(mA, .inr (8, .int (nI nr) :: .int (nI np) :: .ref m2 :: .ref m3 :: .ref m4 :: .ref m5 :: .ref m6 :: .ref m7 :: .ref m8 :: .int q9 :: .int q10 :: .int q11 :: .int ((nI dg) - 1) :: .int q13 :: .int q14 :: .int q15 :: .int q16 :: .int q17 :: .int q18 :: .int q19 :: .int q20 :: .ref m21 :: .ref m22 :: .ref m23 :: .ref m24 :: .int (nI nb) :: .int (nI ln) :: .int (nI po) :: .int q28 :: .int (nI tk) :: .ref m30 :: .ref m31 :: .int (nI we) :: .int q33 :: [])), (m2, .inl (cI, 160, .inl d2)), (m3, .inl (cI, 160, .inl d3)), (m5, .inl (cZ, 160, .inl d5)), (m22, .inl (cI, 160, .inl (lp (F_X8_path_L51 q9 q10 nr np d2 d3 d5 way) (nr - dg) d22)))] H := hP
              have hD2 : va_D A [(mA, .inr (8, .int (nI nr) :: .int (nI np) :: .ref m2 :: .ref m3 :: .ref m4 :: .ref m5 :: .ref m6 :: .ref m7 :: .ref m8 :: .int q9 :: .int q10 :: .int q11 :: .int ((nI dg) - 1) :: .int q13 :: .int q14 :: .int q15 :: .int q16 :: .int q17 :: .int q18 :: .int q19 :: .int q20 :: .ref m21 :: .ref m22 :: .ref m23 :: .ref m24 :: .int (nI nb) :: .int (nI ln) :: .int (nI po) :: .int q28 :: .int (nI tk) :: .ref m30 :: .ref m31 :: .int (nI we) :: .int q33 :: [])), (m2, .inl (cI, 160, .inl d2)), (m3, .inl (cI, 160, .inl d3)), (m5, .inl (cZ, 160, .inl d5)), (m22, .inl (cI, 160, .inl (lp (F_X8_path_L51 q9 q10 nr np d2 d3 d5 way) (nr - dg) d22)))] := hD
              have hl2 : lv_has ls 6 [(4, .int (nI (1 + (t + 1)))), (3, .int (F_X8_path_L203 q9 q10 nr np dg d2 d3 d5 d22 way t sv7)), (0, .ref mA), (1, .int way), (2, .int k)] := by rw [e_step]; exact lv_sub hl [0, 1, 2, 3, 4] rfl
              subst hs_t
              exact ih_t (t + 1) (by omega) (by omega) _ _ _ hP2 hD2 hS hl2
          · refine lv_aload_n hx hb dX8_path_182 rfl (lv_at hl 1 rfl) ?_
            refine va_get (D := D) (ci := 8) (v := .ref m22) (C := RX8) (T := TX8) (N := 34) hx hb hts hiX8 hown hB.1 hP 0 rfl rfl 22 (by decide) (hts _ (List.mem_of_getElem? (i := 7) rfl)) (fun _ h9 => h9) rfl dX8_path_183 ?_
            refine lv_bipush (v := 8) hx hb dX8_path_186 (by decide) ?_
            refine lv_aload_n hx hb dX8_path_188 rfl (lv_at hl 1 rfl) ?_
            refine va_get (D := D) (ci := 8) (v := .int ((nI dg) - 1)) (C := RX8) (T := TX8) (N := 34) hx hb hts hiX8 hown hB.1 hP 0 rfl rfl 12 (by decide) (hts _ (List.mem_of_getElem? (i := 1) rfl)) (fun _ h9 => h9) rfl dX8_path_189 ?_
            refine lv_imul hx hb dX8_path_192 ?_
            refine lv_bipush (v := 8) hx hb dX8_path_193 (by decide) ?_
            refine lv_iadd hx hb dX8_path_195 ?_
            refine lv_iload_n hx hb dX8_path_196 rfl (lv_at hl 0 rfl) ?_
            refine lv_iadd hx hb dX8_path_197 ?_
            refine ra_i hx hb hB.1 hP 4 rfl (8 * dg + ((F_X8_best np (lp (F_X8_path_L51 q9 q10 nr np d2 d3 d5 way) (nr - dg) d22) q13 dg).toNatClampNeg)) (m8_p hbn) (by omega) (by decide) dX8_path_198 ?_
            have er : F_X8_path q9 q10 q13 nr np dg d2 d3 d5 d22 way k = (lp (F_X8_path_L51 q9 q10 nr np d2 d3 d5 way) (nr - dg) d22) (8 * dg + ((F_X8_best np (lp (F_X8_path_L51 q9 q10 nr np d2 d3 d5 way) (nr - dg) d22) q13 dg).toNatClampNeg)) := by rw [F_X8_path, if_neg c_1, if_neg c_2, if_neg c_3, if_pos c_6]
            have e4 : F_X8_path_4 q9 q10 nr np dg d2 d3 d5 d22 way k = (lp (F_X8_path_L51 q9 q10 nr np d2 d3 d5 way) (nr - dg) d22) := by rw [F_X8_path_4, if_neg c_1, if_neg c_2, if_neg c_3, if_pos c_6]
            exact W.iret hx hb hr (fun t ht hW => ⟨⟨_, (), rfl, er.symm, by rw [ht, e4]; exact hP, by rw [e4]; exact hD⟩, hS.F ht⟩) hS.2.2 dX8_path_199
        · have hlt_u : u < nr - dg := dm_go (by omega) hdg h_u c_5
          have hlt2_u : u < nr := by omega
          rw [dn_eq (n := nr) hlt2_u] at hl
          refine lv_iconst (v := 0) hx hb dX8_path_59 (by decide) ?_
          refine lv_istore (lv' := [(4, .int 0), (3, .int (nI (nr - 1 - u))), (0, .ref mA), (1, .int way), (2, .int k)]) hx hb dX8_path_60 hl (by decide) rfl (fun ls hl => ?_)
          refine lpM (σ := Nat) (fun v => v ≤ np) (fun v => np - v) (fun v => [(mA, .inr (8, .int (nI nr) :: .int (nI np) :: .ref m2 :: .ref m3 :: .ref m4 :: .ref m5 :: .ref m6 :: .ref m7 :: .ref m8 :: .int q9 :: .int q10 :: .int q11 :: .int ((nI dg) - 1) :: .int q13 :: .int q14 :: .int q15 :: .int q16 :: .int q17 :: .int q18 :: .int q19 :: .int q20 :: .ref m21 :: .ref m22 :: .ref m23 :: .ref m24 :: .int (nI nb) :: .int (nI ln) :: .int (nI po) :: .int q28 :: .int (nI tk) :: .ref m30 :: .ref m31 :: .int (nI we) :: .int q33 :: [])), (m2, .inl (cI, 160, .inl d2)), (m3, .inl (cI, 160, .inl d3)), (m5, .inl (cZ, 160, .inl d5)), (m22, .inl (cI, 160, .inl (lp (F_X8_path_L62 q9 q10 nr np d2 d3 d5 way u) v sv4)))]) (fun v => [(4, .int (nI v)), (3, .int (nI (nr - 1 - u))), (0, .ref mA), (1, .int way), (2, .int k)]) 0 (Nat.zero_le _) hP hD hS (lv_sub hl [0, 1, 2, 3, 4] rfl) ?_
          intro v h_v ih_v H locs ls hP hD hS hl
          have hP : va_P D vwCl [(mA, .inr (8, .int (nI nr) :: .int (nI np) :: .ref m2 :: .ref m3 :: .ref m4 :: .ref m5 :: .ref m6 :: .ref m7 :: .ref m8 :: .int q9 :: .int q10 :: .int q11 :: .int ((nI dg) - 1) :: .int q13 :: .int q14 :: .int q15 :: .int q16 :: .int q17 :: .int q18 :: .int q19 :: .int q20 :: .ref m21 :: .ref m22 :: .ref m23 :: .ref m24 :: .int (nI nb) :: .int (nI ln) :: .int (nI po) :: .int q28 :: .int (nI tk) :: .ref m30 :: .ref m31 :: .int (nI we) :: .int q33 :: [])), (m2, .inl (cI, 160, .inl d2)), (m3, .inl (cI, 160, .inl d3)), (m5, .inl (cZ, 160, .inl d5)), (m22, .inl (cI, 160, .inl (lp (F_X8_path_L62 q9 q10 nr np d2 d3 d5 way u) v sv4)))] H := hP
          have hD : va_D A [(mA, .inr (8, .int (nI nr) :: .int (nI np) :: .ref m2 :: .ref m3 :: .ref m4 :: .ref m5 :: .ref m6 :: .ref m7 :: .ref m8 :: .int q9 :: .int q10 :: .int q11 :: .int ((nI dg) - 1) :: .int q13 :: .int q14 :: .int q15 :: .int q16 :: .int q17 :: .int q18 :: .int q19 :: .int q20 :: .ref m21 :: .ref m22 :: .ref m23 :: .ref m24 :: .int (nI nb) :: .int (nI ln) :: .int (nI po) :: .int q28 :: .int (nI tk) :: .ref m30 :: .ref m31 :: .int (nI we) :: .int q33 :: [])), (m2, .inl (cI, 160, .inl d2)), (m3, .inl (cI, 160, .inl d3)), (m5, .inl (cZ, 160, .inl d5)), (m22, .inl (cI, 160, .inl (lp (F_X8_path_L62 q9 q10 nr np d2 d3 d5 way u) v sv4)))] := hD
          have hl : lv_has ls 6 [(4, .int (nI v)), (3, .int (nI (nr - 1 - u))), (0, .ref mA), (1, .int way), (2, .int k)] := hl
          generalize hs_v : lp (F_X8_path_L62 q9 q10 nr np d2 d3 d5 way u) v sv4 = sv9 at hP hD 
          refine lv_iload hx hb dX8_path_62 (lv_at hl 0 rfl) ?_
          refine lv_aload_n hx hb dX8_path_64 rfl (lv_at hl 2 rfl) ?_
          refine va_get (D := D) (ci := 8) (v := .int (nI np)) (C := RX8) (T := TX8) (N := 34) hx hb hts hiX8 hown hB.1 hP 0 rfl rfl 1 (by decide) (hts _ (List.mem_of_getElem? (i := 4) rfl)) (fun _ h9 => h9) rfl dX8_path_65 ?_
          refine lv_icmp_ge (tgt := 156) hx hb dX8_path_68 (by decide) (fun c_10 => ?_) (fun c_10 => ?_)
          · have hx_v : np = v := Eq.symm (le_ex (by omega) h_v c_10)
            subst hx_v
            subst hs_v
            refine lv_iinc (v := (nI (nr - (u + 1))) - 1) (lv' := [(3, .int ((nI (nr - (u + 1))) - 1)), (4, .int (nI np)), (0, .ref mA), (1, .int way), (2, .int k)]) hx hb dX8_path_156 hl (k := 1) rfl (dn_dec hlt2_u) (by decide) rfl (fun ls hl => ?_)
            refine lv_goto (tgt := 51) hx hb dX8_path_159 (by decide) ?_
            have e_step : F_X8_path_L51 q9 q10 nr np d2 d3 d5 way u sv4 = (lp (F_X8_path_L62 q9 q10 nr np d2 d3 d5 way u) np sv4) := by rw [F_X8_path_L51]
            have hP2 : va_P D vwCl [(mA, .inr (8, .int (nI nr) :: .int (nI np) :: .ref m2 :: .ref m3 :: .ref m4 :: .ref m5 :: .ref m6 :: .ref m7 :: .ref m8 :: .int q9 :: .int q10 :: .int q11 :: .int ((nI dg) - 1) :: .int q13 :: .int q14 :: .int q15 :: .int q16 :: .int q17 :: .int q18 :: .int q19 :: .int q20 :: .ref m21 :: .ref m22 :: .ref m23 :: .ref m24 :: .int (nI nb) :: .int (nI ln) :: .int (nI po) :: .int q28 :: .int (nI tk) :: .ref m30 :: .ref m31 :: .int (nI we) :: .int q33 :: [])), (m2, .inl (cI, 160, .inl d2)), (m3, .inl (cI, 160, .inl d3)), (m5, .inl (cZ, 160, .inl d5)), (m22, .inl (cI, 160, .inl (F_X8_path_L51 q9 q10 nr np d2 d3 d5 way u sv4)))] H := by rw [e_step]; exact hP
            have hD2 : va_D A [(mA, .inr (8, .int (nI nr) :: .int (nI np) :: .ref m2 :: .ref m3 :: .ref m4 :: .ref m5 :: .ref m6 :: .ref m7 :: .ref m8 :: .int q9 :: .int q10 :: .int q11 :: .int ((nI dg) - 1) :: .int q13 :: .int q14 :: .int q15 :: .int q16 :: .int q17 :: .int q18 :: .int q19 :: .int q20 :: .ref m21 :: .ref m22 :: .ref m23 :: .ref m24 :: .int (nI nb) :: .int (nI ln) :: .int (nI po) :: .int q28 :: .int (nI tk) :: .ref m30 :: .ref m31 :: .int (nI we) :: .int q33 :: [])), (m2, .inl (cI, 160, .inl d2)), (m3, .inl (cI, 160, .inl d3)), (m5, .inl (cZ, 160, .inl d5)), (m22, .inl (cI, 160, .inl (F_X8_path_L51 q9 q10 nr np d2 d3 d5 way u sv4)))] := by rw [e_step]; exact hD
            have hl2 : lv_has ls 6 [(3, .int ((nI (nr - (u + 1))) - 1)), (0, .ref mA), (1, .int way), (2, .int k)] := lv_sub hl [0, 2, 3, 4] rfl
            subst hs_u
            exact ih_u (u + 1) (by omega) (by omega) _ _ _ hP2 hD2 hS hl2
          · have hlt_v : v < np := le_go (by omega) h_v c_10
            refine lv_aload_n hx hb dX8_path_71 rfl (lv_at hl 2 rfl) ?_
            refine va_get (D := D) (ci := 8) (v := .ref m2) (C := RX8) (T := TX8) (N := 34) hx hb hts hiX8 hown hB.1 hP 0 rfl rfl 2 (by decide) (hts _ (List.mem_of_getElem? (i := 5) rfl)) (fun _ h9 => h9) rfl dX8_path_72 ?_
            refine lv_bipush (v := 8) hx hb dX8_path_75 (by decide) ?_
            refine lv_iload_n hx hb dX8_path_77 rfl (lv_at hl 1 rfl) ?_
            refine lv_imul hx hb dX8_path_78 ?_
            refine lv_iload hx hb dX8_path_79 (lv_at hl 0 rfl) ?_
            refine lv_iadd hx hb dX8_path_81 ?_
            refine ra_i hx hb hB.1 hP 1 rfl ((8 * (nr - 1 - u)) + v) (nx_add (nx_mul rfl rfl) rfl) (by omega) (by decide) dX8_path_82 ?_
            refine lv_aload_n hx hb dX8_path_83 rfl (lv_at hl 2 rfl) ?_
            refine lv_iload_n hx hb dX8_path_84 rfl (lv_at hl 1 rfl) ?_
            refine lv_iload hx hb dX8_path_85 (lv_at hl 0 rfl) ?_
            refine lv_iload_n hx hb dX8_path_87 rfl (lv_at hl 3 rfl) ?_
            refine k_i (w2 := [(mA, .inr (8, .int (nI nr) :: .int (nI np) :: .ref m2 :: .ref m3 :: .ref m4 :: .ref m5 :: .ref m6 :: .ref m7 :: .ref m8 :: .int q9 :: .int q10 :: .int q11 :: .int ((nI dg) - 1) :: .int q13 :: .int q14 :: .int q15 :: .int q16 :: .int q17 :: .int q18 :: .int q19 :: .int q20 :: .ref m21 :: .ref m22 :: .ref m23 :: .ref m24 :: .int (nI nb) :: .int (nI ln) :: .int (nI po) :: .int q28 :: .int (nI tk) :: .ref m30 :: .ref m31 :: .int (nI we) :: .int q33 :: [])), (m2, .inl (cI, 160, .inl d2)), (m3, .inl (cI, 160, .inl d3)), (m5, .inl (cZ, 160, .inl d5)), (m22, .inl (cI, 160, .inl sv9))]) (va_runV (As := [.int (nI (nr - 1 - u)), .int (nI v), .int way]) (rest := [.int (d2 ((8 * (nr - 1 - u)) + v))]) ⟨hx, hb, hml, hown, hts⟩ (c_X8_tinBy l _ mA m2 m3 m4 m5 m6 m7 m8 m21 m22 m23 m24 m30 m31 q9 q10 q11 q13 q14 q15 q16 q17 q18 q19 q20 q28 q33 nr np nb ln po tk we dg d3 d5 (nI (nr - 1 - u)) (nI v) way (nr - 1 - u) v h20 h2r h2p h8 rfl rfl (by omega) hlt_v) (cwV 3 hts gX8_path_X8_tinBy rfl rfl rfl (by decide +kernel) ⟨Nat.le_of_ble_eq_true rfl, Nat.le_of_ble_eq_true rfl⟩) (pre_V (ci := 8) (q0 := 0) hB hz hA0 hP hD hS [0, 2, 3] rfl rfl rfl rfl rfl) rfl rfl hl.1 rfl (lv_room (Nat.le_of_ble_eq_true rfl)) dX8_path_88 ⟨Nat.zero_le _, Nat.zero_le _⟩) hP hD hS hA [0, 2, 3] [1, 4] [2, 0, 3, 4, 1] rfl rfl rfl rfl rfl (fun H locs hP hD hS => ?_)
            refine lv_aload_n hx hb dX8_path_91 rfl (lv_at hl 2 rfl) ?_
            refine va_get (D := D) (ci := 8) (v := .int q10) (C := RX8) (T := TX8) (N := 34) hx hb hts hiX8 hown hB.1 hP 0 rfl rfl 10 (by decide) (hts _ (List.mem_of_getElem? (i := 6) rfl)) (fun _ h9 => h9) rfl dX8_path_92 ?_
            refine lv_isub hx hb dX8_path_95 ?_
            refine lv_imul hx hb dX8_path_96 ?_
            refine lv_istore (lv' := [(5, .int ((d2 ((8 * (nr - 1 - u)) + v)) * ((F_X8_tinBy q9 nr np d3 d5 way (nr - 1 - u) v) - q10))), (4, .int (nI v)), (3, .int (nI (nr - 1 - u))), (0, .ref mA), (1, .int way), (2, .int k)]) hx hb dX8_path_97 hl (by decide) rfl (fun ls hl => ?_)
            refine lv_aload_n hx hb dX8_path_99 rfl (lv_at hl 3 rfl) ?_
            refine va_get (D := D) (ci := 8) (v := .ref m22) (C := RX8) (T := TX8) (N := 34) hx hb hts hiX8 hown hB.1 hP 0 rfl rfl 22 (by decide) (hts _ (List.mem_of_getElem? (i := 7) rfl)) (fun _ h9 => h9) rfl dX8_path_100 ?_
            refine lv_bipush (v := 8) hx hb dX8_path_103 (by decide) ?_
            refine lv_iload_n hx hb dX8_path_105 rfl (lv_at hl 2 rfl) ?_
            refine lv_imul hx hb dX8_path_106 ?_
            refine lv_iload hx hb dX8_path_107 (lv_at hl 1 rfl) ?_
            refine lv_iadd hx hb dX8_path_109 ?_
            refine lv_iload hx hb dX8_path_110 (lv_at hl 0 rfl) ?_
            refine lv_iload_n hx hb dX8_path_112 rfl (lv_at hl 2 rfl) ?_
            refine lv_aload_n hx hb dX8_path_113 rfl (lv_at hl 3 rfl) ?_
            refine va_get (D := D) (ci := 8) (v := .int (nI nr)) (C := RX8) (T := TX8) (N := 34) hx hb hts hiX8 hown hB.1 hP 0 rfl rfl 0 (by decide) (hts _ (List.mem_of_getElem? (i := 2) rfl)) (fun _ h9 => h9) rfl dX8_path_114 ?_
            refine lv_iconst (v := 1) hx hb dX8_path_117 (by decide) ?_
            refine lv_isub hx hb dX8_path_118 ?_
            refine lv_icmp_ne (tgt := 126) hx hb dX8_path_119 (by decide) (fun c_11 => ?_) (fun c_11 => ?_)
            · have hu1 : nr - 1 - u + 1 < nr := by have h9 : ¬ nr - 1 - u = nr - 1 := fun q => c_11 (by rw [q, nI_dec (by omega)]); omega
              refine lv_aload_n hx hb dX8_path_126 rfl (lv_at hl 3 rfl) ?_
              refine va_get (D := D) (ci := 8) (v := .ref m22) (C := RX8) (T := TX8) (N := 34) hx hb hts hiX8 hown hB.1 hP 0 rfl rfl 22 (by decide) (hts _ (List.mem_of_getElem? (i := 7) rfl)) (fun _ h9 => h9) rfl dX8_path_127 ?_
              refine lv_bipush (v := 8) hx hb dX8_path_130 (by decide) ?_
              refine lv_iload_n hx hb dX8_path_132 rfl (lv_at hl 2 rfl) ?_
              refine lv_imul hx hb dX8_path_133 ?_
              refine lv_bipush (v := 8) hx hb dX8_path_134 (by decide) ?_
              refine lv_iadd hx hb dX8_path_136 ?_
              refine lv_aload_n hx hb dX8_path_137 rfl (lv_at hl 3 rfl) ?_
              refine lv_iload_n hx hb dX8_path_138 rfl (lv_at hl 2 rfl) ?_
              refine lv_iconst (v := 1) hx hb dX8_path_139 (by decide) ?_
              refine lv_iadd hx hb dX8_path_140 ?_
              rw [show (nI (nr - 1 - u)) + 1 = nI ((nr - 1 - u) + 1) from (nx_add rfl rfl)]
              refine lv_iload hx hb dX8_path_141 (lv_at hl 1 rfl) ?_
              refine k_i (w2 := [(mA, .inr (8, .int (nI nr) :: .int (nI np) :: .ref m2 :: .ref m3 :: .ref m4 :: .ref m5 :: .ref m6 :: .ref m7 :: .ref m8 :: .int q9 :: .int q10 :: .int q11 :: .int ((nI dg) - 1) :: .int q13 :: .int q14 :: .int q15 :: .int q16 :: .int q17 :: .int q18 :: .int q19 :: .int q20 :: .ref m21 :: .ref m22 :: .ref m23 :: .ref m24 :: .int (nI nb) :: .int (nI ln) :: .int (nI po) :: .int q28 :: .int (nI tk) :: .ref m30 :: .ref m31 :: .int (nI we) :: .int q33 :: [])), (m2, .inl (cI, 160, .inl d2)), (m3, .inl (cI, 160, .inl d3)), (m5, .inl (cZ, 160, .inl d5)), (m22, .inl (cI, 160, .inl sv9))]) (va_runV (As := [.int (nI ((nr - 1 - u) + 1)), .int (nI v)]) (rest := [.int ((8 * (nI (nr - 1 - u))) + 8), .ref m22, .int ((d2 ((8 * (nr - 1 - u)) + v)) * ((F_X8_tinBy q9 nr np d3 d5 way (nr - 1 - u) v) - q10)), .int ((8 * (nI (nr - 1 - u))) + (nI v)), .ref m22]) ⟨hx, hb, hml, hown, hts⟩ (c_X8_best l _ mA m2 m3 m4 m5 m6 m7 m8 m21 m22 m23 m24 m30 m31 q9 q10 q11 q13 q14 q15 q16 q17 q18 q19 q20 q28 q33 nr np nb ln po tk we dg sv9 (nI ((nr - 1 - u) + 1)) (nI v) ((nr - 1 - u) + 1) h20 h2r h2p h8 rfl hu1) (cwV 2 hts gX8_path_X8_best rfl rfl rfl (by decide +kernel) ⟨Nat.le_of_ble_eq_true rfl, Nat.le_of_ble_eq_true rfl⟩) (pre_V (ci := 8) (q0 := 0) hB hz hA0 hP hD hS [0, 4] rfl rfl rfl rfl rfl) rfl rfl hl.1 rfl (lv_room (Nat.le_of_ble_eq_true rfl)) dX8_path_143 ⟨Nat.zero_le _, Nat.zero_le _⟩) hP hD hS hA [0, 4] [1, 2, 3] [3, 0, 1, 2, 4] rfl rfl rfl rfl rfl (fun H locs hP hD hS => ?_)
              obtain ⟨hbn, hbn2⟩ : F_X8_best np sv9 (nI v) ((nr - 1 - u) + 1) = nI (F_X8_best np sv9 (nI v) ((nr - 1 - u) + 1)).toNatClampNeg ∧ (F_X8_best np sv9 (nI v) ((nr - 1 - u) + 1)).toNatClampNeg < np := mbest_ok (by omega) (by omega) (okZ_nI hlt_v (by omega))
              refine lv_iadd hx hb dX8_path_146 ?_
              refine ra_i hx hb hB.1 hP 4 rfl (((8 * (nr - 1 - u)) + 8) + ((F_X8_best np sv9 (nI v) ((nr - 1 - u) + 1)).toNatClampNeg)) (nx_add (nx_add (nx_mul rfl rfl) rfl) hbn) (by omega) (by decide) dX8_path_147 ?_
              refine lv_iadd hx hb dX8_path_148 ?_
              refine wa_i (w2 := [(mA, .inr (8, .int (nI nr) :: .int (nI np) :: .ref m2 :: .ref m3 :: .ref m4 :: .ref m5 :: .ref m6 :: .ref m7 :: .ref m8 :: .int q9 :: .int q10 :: .int q11 :: .int ((nI dg) - 1) :: .int q13 :: .int q14 :: .int q15 :: .int q16 :: .int q17 :: .int q18 :: .int q19 :: .int q20 :: .ref m21 :: .ref m22 :: .ref m23 :: .ref m24 :: .int (nI nb) :: .int (nI ln) :: .int (nI po) :: .int q28 :: .int (nI tk) :: .ref m30 :: .ref m31 :: .int (nI we) :: .int q33 :: [])), (m2, .inl (cI, 160, .inl d2)), (m3, .inl (cI, 160, .inl d3)), (m5, .inl (cZ, 160, .inl d5)), (m22, .inl (cI, 160, .inl (upd sv9 ((8 * (nr - 1 - u)) + v) (((d2 ((8 * (nr - 1 - u)) + v)) * ((F_X8_tinBy q9 nr np d3 d5 way (nr - 1 - u) v) - q10)) + (sv9 (((8 * (nr - 1 - u)) + 8) + ((F_X8_best np sv9 (nI v) ((nr - 1 - u) + 1)).toNatClampNeg)))))))]) hx hb hB.1 hP hD hS 4 rfl ((8 * (nr - 1 - u)) + v) (nx_add (nx_mul rfl rfl) rfl) (by omega) (by decide) dX8_path_149 rfl (fun H locs hP hD hS => ?_)
              refine lv_iinc (v := nI (v + 1)) (lv' := [(4, .int (nI (v + 1))), (5, .int ((d2 ((8 * (nr - 1 - u)) + v)) * ((F_X8_tinBy q9 nr np d3 d5 way (nr - 1 - u) v) - q10))), (3, .int (nI (nr - 1 - u))), (0, .ref mA), (1, .int way), (2, .int k)]) hx hb dX8_path_150 hl (k := 1) rfl (nI_1 _) (by decide) rfl (fun ls hl => ?_)
              refine lv_goto (tgt := 62) hx hb dX8_path_153 (by decide) ?_
              have e_step : F_X8_path_L62 q9 q10 nr np d2 d3 d5 way u v sv9 = upd sv9 ((8 * (nr - 1 - u)) + v) (((d2 ((8 * (nr - 1 - u)) + v)) * ((F_X8_tinBy q9 nr np d3 d5 way (nr - 1 - u) v) - q10)) + (sv9 (((8 * (nr - 1 - u)) + 8) + ((F_X8_best np sv9 (nI v) ((nr - 1 - u) + 1)).toNatClampNeg)))) := by rw [F_X8_path_L62, if_neg c_11]
              have hP2 : va_P D vwCl [(mA, .inr (8, .int (nI nr) :: .int (nI np) :: .ref m2 :: .ref m3 :: .ref m4 :: .ref m5 :: .ref m6 :: .ref m7 :: .ref m8 :: .int q9 :: .int q10 :: .int q11 :: .int ((nI dg) - 1) :: .int q13 :: .int q14 :: .int q15 :: .int q16 :: .int q17 :: .int q18 :: .int q19 :: .int q20 :: .ref m21 :: .ref m22 :: .ref m23 :: .ref m24 :: .int (nI nb) :: .int (nI ln) :: .int (nI po) :: .int q28 :: .int (nI tk) :: .ref m30 :: .ref m31 :: .int (nI we) :: .int q33 :: [])), (m2, .inl (cI, 160, .inl d2)), (m3, .inl (cI, 160, .inl d3)), (m5, .inl (cZ, 160, .inl d5)), (m22, .inl (cI, 160, .inl (F_X8_path_L62 q9 q10 nr np d2 d3 d5 way u v sv9)))] H := by rw [e_step]; exact hP
              have hD2 : va_D A [(mA, .inr (8, .int (nI nr) :: .int (nI np) :: .ref m2 :: .ref m3 :: .ref m4 :: .ref m5 :: .ref m6 :: .ref m7 :: .ref m8 :: .int q9 :: .int q10 :: .int q11 :: .int ((nI dg) - 1) :: .int q13 :: .int q14 :: .int q15 :: .int q16 :: .int q17 :: .int q18 :: .int q19 :: .int q20 :: .ref m21 :: .ref m22 :: .ref m23 :: .ref m24 :: .int (nI nb) :: .int (nI ln) :: .int (nI po) :: .int q28 :: .int (nI tk) :: .ref m30 :: .ref m31 :: .int (nI we) :: .int q33 :: [])), (m2, .inl (cI, 160, .inl d2)), (m3, .inl (cI, 160, .inl d3)), (m5, .inl (cZ, 160, .inl d5)), (m22, .inl (cI, 160, .inl (F_X8_path_L62 q9 q10 nr np d2 d3 d5 way u v sv9)))] := by rw [e_step]; exact hD
              have hl2 : lv_has ls 6 [(4, .int (nI (v + 1))), (3, .int (nI (nr - 1 - u))), (0, .ref mA), (1, .int way), (2, .int k)] := lv_sub hl [0, 2, 3, 4, 5] rfl
              subst hs_v
              exact ih_v (v + 1) (by omega) (by omega) _ _ _ hP2 hD2 hS hl2
            · refine lv_iconst (v := 0) hx hb dX8_path_122 (by decide) ?_
              refine lv_goto (tgt := 148) hx hb dX8_path_123 (by decide) ?_
              refine lv_iadd hx hb dX8_path_148 ?_
              refine wa_i (w2 := [(mA, .inr (8, .int (nI nr) :: .int (nI np) :: .ref m2 :: .ref m3 :: .ref m4 :: .ref m5 :: .ref m6 :: .ref m7 :: .ref m8 :: .int q9 :: .int q10 :: .int q11 :: .int ((nI dg) - 1) :: .int q13 :: .int q14 :: .int q15 :: .int q16 :: .int q17 :: .int q18 :: .int q19 :: .int q20 :: .ref m21 :: .ref m22 :: .ref m23 :: .ref m24 :: .int (nI nb) :: .int (nI ln) :: .int (nI po) :: .int q28 :: .int (nI tk) :: .ref m30 :: .ref m31 :: .int (nI we) :: .int q33 :: [])), (m2, .inl (cI, 160, .inl d2)), (m3, .inl (cI, 160, .inl d3)), (m5, .inl (cZ, 160, .inl d5)), (m22, .inl (cI, 160, .inl (upd sv9 ((8 * (nr - 1 - u)) + v) (((d2 ((8 * (nr - 1 - u)) + v)) * ((F_X8_tinBy q9 nr np d3 d5 way (nr - 1 - u) v) - q10)) + 0))))]) hx hb hB.1 hP hD hS 4 rfl ((8 * (nr - 1 - u)) + v) (nx_add (nx_mul rfl rfl) rfl) (by omega) (by decide) dX8_path_149 rfl (fun H locs hP hD hS => ?_)
              refine lv_iinc (v := nI (v + 1)) (lv' := [(4, .int (nI (v + 1))), (5, .int ((d2 ((8 * (nr - 1 - u)) + v)) * ((F_X8_tinBy q9 nr np d3 d5 way (nr - 1 - u) v) - q10))), (3, .int (nI (nr - 1 - u))), (0, .ref mA), (1, .int way), (2, .int k)]) hx hb dX8_path_150 hl (k := 1) rfl (nI_1 _) (by decide) rfl (fun ls hl => ?_)
              refine lv_goto (tgt := 62) hx hb dX8_path_153 (by decide) ?_
              have e_step : F_X8_path_L62 q9 q10 nr np d2 d3 d5 way u v sv9 = upd sv9 ((8 * (nr - 1 - u)) + v) (((d2 ((8 * (nr - 1 - u)) + v)) * ((F_X8_tinBy q9 nr np d3 d5 way (nr - 1 - u) v) - q10)) + 0) := by rw [F_X8_path_L62, if_pos c_11]
              have hP2 : va_P D vwCl [(mA, .inr (8, .int (nI nr) :: .int (nI np) :: .ref m2 :: .ref m3 :: .ref m4 :: .ref m5 :: .ref m6 :: .ref m7 :: .ref m8 :: .int q9 :: .int q10 :: .int q11 :: .int ((nI dg) - 1) :: .int q13 :: .int q14 :: .int q15 :: .int q16 :: .int q17 :: .int q18 :: .int q19 :: .int q20 :: .ref m21 :: .ref m22 :: .ref m23 :: .ref m24 :: .int (nI nb) :: .int (nI ln) :: .int (nI po) :: .int q28 :: .int (nI tk) :: .ref m30 :: .ref m31 :: .int (nI we) :: .int q33 :: [])), (m2, .inl (cI, 160, .inl d2)), (m3, .inl (cI, 160, .inl d3)), (m5, .inl (cZ, 160, .inl d5)), (m22, .inl (cI, 160, .inl (F_X8_path_L62 q9 q10 nr np d2 d3 d5 way u v sv9)))] H := by rw [e_step]; exact hP
              have hD2 : va_D A [(mA, .inr (8, .int (nI nr) :: .int (nI np) :: .ref m2 :: .ref m3 :: .ref m4 :: .ref m5 :: .ref m6 :: .ref m7 :: .ref m8 :: .int q9 :: .int q10 :: .int q11 :: .int ((nI dg) - 1) :: .int q13 :: .int q14 :: .int q15 :: .int q16 :: .int q17 :: .int q18 :: .int q19 :: .int q20 :: .ref m21 :: .ref m22 :: .ref m23 :: .ref m24 :: .int (nI nb) :: .int (nI ln) :: .int (nI po) :: .int q28 :: .int (nI tk) :: .ref m30 :: .ref m31 :: .int (nI we) :: .int q33 :: [])), (m2, .inl (cI, 160, .inl d2)), (m3, .inl (cI, 160, .inl d3)), (m5, .inl (cZ, 160, .inl d5)), (m22, .inl (cI, 160, .inl (F_X8_path_L62 q9 q10 nr np d2 d3 d5 way u v sv9)))] := by rw [e_step]; exact hD
              have hl2 : lv_has ls 6 [(4, .int (nI (v + 1))), (3, .int (nI (nr - 1 - u))), (0, .ref mA), (1, .int way), (2, .int k)] := lv_sub hl [0, 2, 3, 4, 5] rfl
              subst hs_v
              exact ih_v (v + 1) (by omega) (by omega) _ _ _ hP2 hD2 hS hl2
      · refine lv_ldc (v := (-100000000)) hx hb hown (hts _ (List.mem_of_getElem? (i := 3) rfl)) dX8_path_41 ?_
        have er : F_X8_path q9 q10 q13 nr np dg d2 d3 d5 d22 way k = (-100000000) := by rw [F_X8_path, if_neg c_1, if_neg c_2, if_pos c_3]
        have e4 : F_X8_path_4 q9 q10 nr np dg d2 d3 d5 d22 way k = d22 := by rw [F_X8_path_4, if_neg c_1, if_neg c_2, if_pos c_3]
        exact W.iret hx hb hr (fun t ht hW => ⟨⟨_, (), rfl, er.symm, by rw [ht, e4]; exact hP, by rw [e4]; exact hD⟩, hS.F ht⟩) hS.2.2 dX8_path_43
