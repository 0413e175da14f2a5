def F_X2_usual (what : Int32) : Int32 :=
  if (F_X7_within what 0 6) = 0 then (-1) else
  us_L.getD what.toNatClampNeg 0
set_option maxHeartbeats 4000000 in
set_option maxRecDepth 100000 in
theorem c_X2_usual (l : Launch) {D : va_G} {cI cZ cB : ClassId} {au : Nat} {kA kV : Nat → Nat} {z0 : Nat} (sz : Nat) (what : Int32)  : Met l yX2_usual wsX2_usual ({ frames := 1, cells := 0, slots := 0, locals := 22 }) (va_Pc [.int what] (PRE D cI cZ cB au kA kV z0 sz [])) (QI D [] sz (F_X2_usual what) []) 0 0 (va_A [] sz) := by
  refine Met.ofW (cc := cX2_usual) (maxL := 1) (ret := (some .int)) (by decide) rfl ?_
  intro p e s m args below meth c s₁ B hml hv
  obtain ⟨rfl, hsz, hz, hP, hD0, hB⟩ := hv
  have hx := B.exec
  have hb := B.bytes
  have hr := B.returns
  have hts := atoms_spec (ws := wsX2_usual) B.pre
  have hown : s.vm.findClass RX2 = some m.cls := findClass_of_methodNamed B.named
  have hlocks := B.notSynchronized
  subst hsz
  have hD := hD0.self (sz := s.heap.size)
  have hA0 := va_A0 hD0 hz
  unfold QI
  generalize hAe : va_A [] s.heap.size = A at hD hA0 ⊢
  have hA : ∀ q : Nat, s.heap.size ≤ q → A q := fun q h => by rw [← hAe]; exact Or.inr h
  have hS : va_S A s.heap s.heap [] := va_S.rf
  have hl := lv_entry ([.int what]) (n := 1) (Nat.le_of_ble_eq_true rfl)
  rw [lg_entry_eq]
  generalize (lg_sl ([.int what]) ++ List.replicate (1 - (lg_sl ([.int what])).length) Slot.unset).toArray = ls at hl ⊢
  have hl : lv_has ls 1 [(0, .int what)] := hl
  refine lv_iload_n hx hb dX2_usual_0 rfl (lv_at hl 0 rfl) ?_
  refine lv_iconst (v := 0) hx hb dX2_usual_1 (by decide) ?_
  refine lv_bipush (v := 6) hx hb dX2_usual_2 (by decide) ?_
  refine k_i (w2 := []) (va_runSN (As := [.int what, .int 0, .int 6]) (rest := []) ⟨hx, hb, hml, hown, hts⟩ (c_X7_within l _ what 0 6) ⟨va_cnB 3 hts gX2_usual_X7_within_n22 rfl rfl rfl hB.2.1.2.2.2.2.2.2.1 (hts _ (List.mem_of_getElem? (i := 3) rfl)) (by decide +kernel) ⟨Nat.le_of_ble_eq_true rfl, Nat.le_of_ble_eq_true rfl⟩, hts _ (List.mem_of_getElem? (i := 2) rfl), trivial⟩ (pre_S hB hz hA0 hP hD hS [] rfl rfl) rfl rfl hl.1 rfl (lv_room (Nat.le_of_ble_eq_true rfl)) dX2_usual_4 ⟨Nat.zero_le _, Nat.zero_le _⟩) hP hD hS hA [] [] [] rfl rfl rfl rfl rfl (fun H locs hP hD hS => ?_)
  refine lv_if_eq (tgt := 18) hx hb dX2_usual_7 (by decide) (fun c_1 => ?_) (fun c_1 => ?_)
  · refine lv_iconst (v := (-1)) hx hb dX2_usual_18 (by decide) ?_
    have er : F_X2_usual what = (-1) := by rw [F_X2_usual, if_pos c_1]
    exact W.iret hx hb hr (fun t ht hW => ⟨⟨_, (), rfl, er.symm, by rw [ht]; exact hP, hD⟩, hS.F ht⟩) hS.2.2 dX2_usual_19
  · obtain ⟨hm1, hm2⟩ := wn_6 c_1
    refine va_gets hx hb (hB.2.2.2.1.narrow hA0) hS hown (hts _ (List.mem_of_getElem? (i := 1) rfl)) (fun _ h9 => h9) dX2_usual_10 ?_
    refine lv_iload_n hx hb dX2_usual_13 rfl (lv_at hl 0 rfl) ?_
    refine va_ti (v := .int (us_L.getD what.toNatClampNeg 0)) hx hb (hB.2.2.2.2.1.narrow hA0) hS (vin hm1 hm2 (by decide)) rfl dX2_usual_14 ?_
    refine lv_goto (tgt := 19) hx hb dX2_usual_15 (by decide) ?_
    have er : F_X2_usual what = us_L.getD what.toNatClampNeg 0 := by rw [F_X2_usual, if_neg c_1]
    exact W.iret hx hb hr (fun t ht hW => ⟨⟨_, (), rfl, er.symm, by rw [ht]; exact hP, hD⟩, hS.F ht⟩) hS.2.2 dX2_usual_19

set_option maxHeartbeats 4000000 in
set_option maxRecDepth 100000 in
theorem c_X2_size (l : Launch) {D : va_G} {cI cZ cB : ClassId} {au : Nat} {kA kV : Nat → Nat} {z0 : Nat} (sz : Nat) (h0 : Nat) (a1 : Nat) (a2 : Nat) (tk : Nat) (fm : Nat → Int32) (fs : Nat → Int32)  : Met l yX2_size wsX2_size ({ frames := 0, cells := 0, slots := 0, locals := 0 }) (va_Pc [.ref h0] (PRE D cI cZ cB au kA kV z0 sz [(h0, .inr (2, [.ref a1, .ref a2, .int (nI tk)])), (a1, .inl (cI, 70, .inl fm)), (a2, .inl (cI, 10, .inl fs))])) (QI D [(h0, .inr (2, [.ref a1, .ref a2, .int (nI tk)])), (a1, .inl (cI, 70, .inl fm)), (a2, .inl (cI, 10, .inl fs))] sz (nI tk) [(h0, .inr (2, [.ref a1, .ref a2, .int (nI tk)])), (a1, .inl (cI, 70, .inl fm)), (a2, .inl (cI, 10, .inl fs))]) 0 0 (va_A [(h0, .inr (2, [.ref a1, .ref a2, .int (nI tk)])), (a1, .inl (cI, 70, .inl fm)), (a2, .inl (cI, 10, .inl fs))] sz) := by
  refine Met.ofW (cc := cX2_size) (maxL := 1) (ret := (some .int)) (by decide) rfl ?_
  intro p e s m args below meth c s₁ B hml hv
  obtain ⟨rfl, hsz, hz, hP, hD0, hB⟩ := hv
  have hx := B.exec
  have hb := B.bytes
  have hr := B.returns
  have hts := atoms_spec (ws := wsX2_size) B.pre
  have hown : s.vm.findClass RX2 = some m.cls := findClass_of_methodNamed B.named
  have hlocks := B.notSynchronized
  subst hsz
  have hD := hD0.self (sz := s.heap.size)
  have hA0 := va_A0 hD0 hz
  unfold QI
  generalize hAe : va_A [(h0, .inr (2, [.ref a1, .ref a2, .int (nI tk)])), (a1, .inl (cI, 70, .inl fm)), (a2, .inl (cI, 10, .inl fs))] s.heap.size = A at hD hA0 ⊢
  have hA : ∀ q : Nat, s.heap.size ≤ q → A q := fun q h => by rw [← hAe]; exact Or.inr h
  have hS : va_S A s.heap s.heap [] := va_S.rf
  have hiX2 : ∀ w ∈ wsX20, w ∈ wsX2_size := fun w h => List.mem_cons_of_mem _ (List.mem_append_right _ h)
  have hl := lv_entry ([.ref h0]) (n := 1) (Nat.le_of_ble_eq_true rfl)
  rw [lg_entry_eq]
  generalize (lg_sl ([.ref h0]) ++ List.replicate (1 - (lg_sl ([.ref h0])).length) Slot.unset).toArray = ls at hl ⊢
  have hl : lv_has ls 1 [(0, .ref h0)] := hl
  refine lv_aload_n hx hb dX2_size_0 rfl (lv_at hl 0 rfl) ?_
  refine va_get (D := D) (ci := 2) (v := .int (nI tk)) (C := RX2) (T := TX2) (N := 3) hx hb hts hiX2 hown hB.1 hP 0 rfl rfl 2 (by decide) (hts _ (List.mem_of_getElem? (i := 1) rfl)) (fun _ h9 => h9) rfl dX2_size_1 ?_
  exact W.iret hx hb hr (fun t ht hW => ⟨⟨_, (), rfl, rfl, by rw [ht]; exact hP, hD⟩, hS.F ht⟩) hS.2.2 dX2_size_4

def F_X2_isFull (tk : Nat) : Int32 :=
  if (nI tk) < 10 then 0 else
  1
set_option maxHeartbeats 4000000 in
set_option maxRecDepth 100000 in
theorem c_X2_isFull (l : Launch) {D : va_G} {cI cZ cB : ClassId} {au : Nat} {kA kV : Nat → Nat} {z0 : Nat} (sz : Nat) (h0 : Nat) (a1 : Nat) (a2 : Nat) (tk : Nat) (fm : Nat → Int32) (fs : Nat → Int32)  : Met l yX2_isFull wsX2_isFull ({ frames := 0, cells := 0, slots := 0, locals := 0 }) (va_Pc [.ref h0] (PRE D cI cZ cB au kA kV z0 sz [(h0, .inr (2, [.ref a1, .ref a2, .int (nI tk)])), (a1, .inl (cI, 70, .inl fm)), (a2, .inl (cI, 10, .inl fs))])) (QI D [(h0, .inr (2, [.ref a1, .ref a2, .int (nI tk)])), (a1, .inl (cI, 70, .inl fm)), (a2, .inl (cI, 10, .inl fs))] sz (F_X2_isFull tk) [(h0, .inr (2, [.ref a1, .ref a2, .int (nI tk)])), (a1, .inl (cI, 70, .inl fm)), (a2, .inl (cI, 10, .inl fs))]) 0 0 (va_A [(h0, .inr (2, [.ref a1, .ref a2, .int (nI tk)])), (a1, .inl (cI, 70, .inl fm)), (a2, .inl (cI, 10, .inl fs))] sz) := by
  refine Met.ofW (cc := cX2_isFull) (maxL := 1) (ret := (some .boolean)) (by decide) rfl ?_
  intro p e s m args below meth c s₁ B hml hv
  obtain ⟨rfl, hsz, hz, hP, hD0, hB⟩ := hv
  have hx := B.exec
  have hb := B.bytes
  have hr := B.returns
  have hts := atoms_spec (ws := wsX2_isFull) B.pre
  have hown : s.vm.findClass RX2 = some m.cls := findClass_of_methodNamed B.named
  have hlocks := B.notSynchronized
  subst hsz
  have hD := hD0.self (sz := s.heap.size)
  have hA0 := va_A0 hD0 hz
  unfold QI
  generalize hAe : va_A [(h0, .inr (2, [.ref a1, .ref a2, .int (nI tk)])), (a1, .inl (cI, 70, .inl fm)), (a2, .inl (cI, 10, .inl fs))] s.heap.size = A at hD hA0 ⊢
  have hA : ∀ q : Nat, s.heap.size ≤ q → A q := fun q h => by rw [← hAe]; exact Or.inr h
  have hS : va_S A s.heap s.heap [] := va_S.rf
  have hiX2 : ∀ w ∈ wsX20, w ∈ wsX2_isFull := fun w h => List.mem_cons_of_mem _ (List.mem_append_right _ h)
  have hl := lv_entry ([.ref h0]) (n := 1) (Nat.le_of_ble_eq_true rfl)
  rw [lg_entry_eq]
  generalize (lg_sl ([.ref h0]) ++ List.replicate (1 - (lg_sl ([.ref h0])).length) Slot.unset).toArray = ls at hl ⊢
  have hl : lv_has ls 1 [(0, .ref h0)] := hl
  refine lv_aload_n hx hb dX2_isFull_0 rfl (lv_at hl 0 rfl) ?_
  refine va_get (D := D) (ci := 2) (v := .int (nI tk)) (C := RX2) (T := TX2) (N := 3) hx hb hts hiX2 hown hB.1 hP 0 rfl rfl 2 (by decide) (hts _ (List.mem_of_getElem? (i := 1) rfl)) (fun _ h9 => h9) rfl dX2_isFull_1 ?_
  refine lv_bipush (v := 10) hx hb dX2_isFull_4 (by decide) ?_
  refine lv_icmp_lt (tgt := 13) hx hb dX2_isFull_6 (by decide) (fun c_1 => ?_) (fun c_1 => ?_)
  · refine lv_iconst (v := 0) hx hb dX2_isFull_13 (by decide) ?_
    have er : F_X2_isFull tk = 0 := by rw [F_X2_isFull, if_pos c_1]
    exact W.zret hx hb hr rfl (fun t ht hW => ⟨⟨_, (), rfl, er.symm, by rw [ht]; exact hP, hD⟩, hS.F ht⟩) hS.2.2 dX2_isFull_14
  · refine lv_iconst (v := 1) hx hb dX2_isFull_9 (by decide) ?_
    refine lv_goto (tgt := 14) hx hb dX2_isFull_10 (by decide) ?_
    have er : F_X2_isFull tk = 1 := by rw [F_X2_isFull, if_neg c_1]
    exact W.zret hx hb hr rfl (fun t ht hW => ⟨⟨_, (), rfl, er.symm, by rw [ht]; exact hP, hD⟩, hS.F ht⟩) hS.2.2 dX2_isFull_14

set_option maxHeartbeats 4000000 in
set_option maxRecDepth 100000 in
theorem c_X2_inForce (l : Launch) {D : va_G} {cI cZ cB : ClassId} {au : Nat} {kA kV : Nat → Nat} {z0 : Nat} (sz : Nat) (h0 : Nat) (a1 : Nat) (a2 : Nat) (tk : Nat) (fm : Nat → Int32) (fs : Nat → Int32) (day : Int32) (htk : tk ≤ 10) : Met l yX2_inForce wsX2_inForce ({ frames := 0, cells := 0, slots := 0, locals := 0 }) (va_Pc [.ref h0, .int day] (PRE D cI cZ cB au kA kV z0 sz [(h0, .inr (2, [.ref a1, .ref a2, .int (nI tk)])), (a1, .inl (cI, 70, .inl fm)), (a2, .inl (cI, 10, .inl fs))])) (QI D [(h0, .inr (2, [.ref a1, .ref a2, .int (nI tk)])), (a1, .inl (cI, 70, .inl fm)), (a2, .inl (cI, 10, .inl fs))] sz (lawAt fs day tk) [(h0, .inr (2, [.ref a1, .ref a2, .int (nI tk)])), (a1, .inl (cI, 70, .inl fm)), (a2, .inl (cI, 10, .inl fs))]) 0 0 (va_A [(h0, .inr (2, [.ref a1, .ref a2, .int (nI tk)])), (a1, .inl (cI, 70, .inl fm)), (a2, .inl (cI, 10, .inl fs))] sz) := by
  refine Met.ofW (cc := cX2_inForce) (maxL := 3) (ret := (some .int)) (by decide) rfl ?_
  intro p e s m args below meth c s₁ B hml hv
  obtain ⟨rfl, hsz, hz, hP, hD0, hB⟩ := hv
  have hx := B.exec
  have hb := B.bytes
  have hr := B.returns
  have hts := atoms_spec (ws := wsX2_inForce) B.pre
  have hown : s.vm.findClass RX2 = some m.cls := findClass_of_methodNamed B.named
  have hlocks := B.notSynchronized
  subst hsz
  have hD := hD0.self (sz := s.heap.size)
  have hA0 := va_A0 hD0 hz
  unfold QI
  generalize hAe : va_A [(h0, .inr (2, [.ref a1, .ref a2, .int (nI tk)])), (a1, .inl (cI, 70, .inl fm)), (a2, .inl (cI, 10, .inl fs))] s.heap.size = A at hD hA0 ⊢
  have hA : ∀ q : Nat, s.heap.size ≤ q → A q := fun q h => by rw [← hAe]; exact Or.inr h
  have hS : va_S A s.heap s.heap [] := va_S.rf
  have hiX2 : ∀ w ∈ wsX20, w ∈ wsX2_inForce := fun w h => List.mem_cons_of_mem _ (List.mem_append_right _ h)
  have hl := lv_entry ([.ref h0, .int day]) (n := 3) (Nat.le_of_ble_eq_true rfl)
  rw [lg_entry_eq]
  generalize (lg_sl ([.ref h0, .int day]) ++ List.replicate (3 - (lg_sl ([.ref h0, .int day])).length) Slot.unset).toArray = ls at hl ⊢
  have hl : lv_has ls 3 [(0, .ref h0), (1, .int day)] := hl
  refine lv_aload_n hx hb dX2_inForce_0 rfl (lv_at hl 0 rfl) ?_
  refine va_get (D := D) (ci := 2) (v := .int (nI tk)) (C := RX2) (T := TX2) (N := 3) hx hb hts hiX2 hown hB.1 hP 0 rfl rfl 2 (by decide) (hts _ (List.mem_of_getElem? (i := 1) rfl)) (fun _ h9 => h9) rfl dX2_inForce_1 ?_
  refine lv_iconst (v := 1) hx hb dX2_inForce_4 (by decide) ?_
  refine lv_isub hx hb dX2_inForce_5 ?_
  refine lv_istore_n (lv' := [(2, .int ((nI tk) - 1)), (0, .ref h0), (1, .int day)]) hx hb dX2_inForce_6 rfl hl (by decide) rfl (fun ls hl => ?_)
  refine lpM (σ := Nat) (fun t => t ≤ tk ∧ lawAt fs day tk = lawAt fs day (tk - t)) (fun t => tk - t) (fun t => [(h0, .inr (2, [.ref a1, .ref a2, .int (nI tk)])), (a1, .inl (cI, 70, .inl fm)), (a2, .inl (cI, 10, .inl fs))]) (fun t => [(2, .int (nI (tk - t) - 1)), (0, .ref h0), (1, .int day)]) 0 ⟨Nat.zero_le _, rfl⟩ hP hD hS (lv_sub hl [0, 1, 2] rfl) ?_
  intro t ⟨h_t, hv_t⟩ ih_t H locs ls hP hD hS hl
  have hP : va_P D vwCl [(h0, .inr (2, [.ref a1, .ref a2, .int (nI tk)])), (a1, .inl (cI, 70, .inl fm)), (a2, .inl (cI, 10, .inl fs))] H := hP
  have hD : va_D A [(h0, .inr (2, [.ref a1, .ref a2, .int (nI tk)])), (a1, .inl (cI, 70, .inl fm)), (a2, .inl (cI, 10, .inl fs))] := hD
  have hl : lv_has ls 3 [(2, .int (nI (tk - t) - 1)), (0, .ref h0), (1, .int day)] := hl
  refine lv_iload_n hx hb dX2_inForce_7 rfl (lv_at hl 0 rfl) ?_
  refine lv_if_lt (tgt := 29) hx hb dX2_inForce_8 (by decide) (fun c_2 => ?_) (fun c_2 => ?_)
  · have hx_t : tk = t := Eq.symm (dn_ex (by omega) h_t c_2)
    subst hx_t
    refine lv_iconst (v := (-1)) hx hb dX2_inForce_29 (by decide) ?_
    exact W.iret hx hb hr (fun t ht hW => ⟨⟨_, (), rfl, (hv_t.trans lawAt_end).symm, by rw [ht]; exact hP, hD⟩, hS.F ht⟩) hS.2.2 dX2_inForce_30
  · have hlt_t : t < tk := dn_go h_t c_2
    rw [dn_eq (n := tk) hlt_t] at hl
    refine lv_aload_n hx hb dX2_inForce_11 rfl (lv_at hl 1 rfl) ?_
    refine va_get (D := D) (ci := 2) (v := .ref a2) (C := RX2) (T := TX2) (N := 3) hx hb hts hiX2 hown hB.1 hP 0 rfl rfl 1 (by decide) (hts _ (List.mem_of_getElem? (i := 2) rfl)) (fun _ h9 => h9) rfl dX2_inForce_12 ?_
    refine lv_iload_n hx hb dX2_inForce_15 rfl (lv_at hl 0 rfl) ?_
    refine ra_i hx hb hB.1 hP 2 rfl (tk - 1 - t) rfl (by omega) (by decide) dX2_inForce_16 ?_
    refine lv_iload_n hx hb dX2_inForce_17 rfl (lv_at hl 2 rfl) ?_
    refine lv_icmp_gt (tgt := 23) hx hb dX2_inForce_18 (by decide) (fun c_3 => ?_) (fun c_3 => ?_)
    · refine lv_iinc (v := nI (tk - (t + 1)) - 1) (lv' := [(2, .int (nI (tk - (t + 1)) - 1)), (0, .ref h0), (1, .int day)]) hx hb dX2_inForce_23 hl (k := 0) rfl (dn_dec hlt_t) (by decide) rfl (fun ls hl => ?_)
      refine lv_goto (tgt := 7) hx hb dX2_inForce_26 (by decide) ?_
      exact ih_t (t + 1) ⟨by omega, hv_t.trans (lawAt_miss hlt_t c_3)⟩ (by omega) _ _ _ hP hD hS (lv_sub hl [0, 1, 2] rfl)
    · refine lv_iload_n hx hb dX2_inForce_21 rfl (lv_at hl 0 rfl) ?_
      exact W.iret hx hb hr (fun t ht hW => ⟨⟨_, (), rfl, (hv_t.trans (lawAt_hit hlt_t c_3)).symm, by rw [ht]; exact hP, hD⟩, hS.F ht⟩) hS.2.2 dX2_inForce_22

def F_X2_term (tk : Nat) (fm : Nat → Int32) (fs : Nat → Int32) (day : Int32) (what : Int32) : Int32 :=
  if (lawAt fs day tk) = (-1) then F_X2_usual what else
  if (F_X7_within what 0 6) = 0 then F_X2_usual what else
  fm ((lawAt fs day tk).toNatClampNeg * 7 + what.toNatClampNeg)
set_option maxHeartbeats 4000000 in
set_option maxRecDepth 100000 in
theorem c_X2_term (l : Launch) {D : va_G} {cI cZ cB : ClassId} {au : Nat} {kA kV : Nat → Nat} {z0 : Nat} (sz : Nat) (h0 : Nat) (a1 : Nat) (a2 : Nat) (tk : Nat) (fm : Nat → Int32) (fs : Nat → Int32) (day : Int32) (what : Int32) (htk : tk ≤ 10) : Met l yX2_term wsX2_term ({ frames := 2, cells := 0, slots := 0, locals := 42 }) (va_Pc [.ref h0, .int day, .int what] (PRE D cI cZ cB au kA kV z0 sz [(h0, .inr (2, [.ref a1, .ref a2, .int (nI tk)])), (a1, .inl (cI, 70, .inl fm)), (a2, .inl (cI, 10, .inl fs))])) (QI D [(h0, .inr (2, [.ref a1, .ref a2, .int (nI tk)])), (a1, .inl (cI, 70, .inl fm)), (a2, .inl (cI, 10, .inl fs))] sz (F_X2_term tk fm fs day what) [(h0, .inr (2, [.ref a1, .ref a2, .int (nI tk)])), (a1, .inl (cI, 70, .inl fm)), (a2, .inl (cI, 10, .inl fs))]) 0 0 (va_A [(h0, .inr (2, [.ref a1, .ref a2, .int (nI tk)])), (a1, .inl (cI, 70, .inl fm)), (a2, .inl (cI, 10, .inl fs))] sz) := by
  refine Met.ofW (cc := cX2_term) (maxL := 4) (ret := (some .int)) (by decide) rfl ?_
  intro p e s m args below meth c s₁ B hml hv
  obtain ⟨rfl, hsz, hz, hP, hD0, hB⟩ := hv
  have hx := B.exec
  have hb := B.bytes
  have hr := B.returns
  have hts := atoms_spec (ws := wsX2_term) B.pre
  have hown : s.vm.findClass RX2 = some m.cls := findClass_of_methodNamed B.named
  have hlocks := B.notSynchronized
  subst hsz
  have hD := hD0.self (sz := s.heap.size)
  have hA0 := va_A0 hD0 hz
  unfold QI
  generalize hAe : va_A [(h0, .inr (2, [.ref a1, .ref a2, .int (nI tk)])), (a1, .inl (cI, 70, .inl fm)), (a2, .inl (cI, 10, .inl fs))] s.heap.size = A at hD hA0 ⊢
  have hA : ∀ q : Nat, s.heap.size ≤ q → A q := fun q h => by rw [← hAe]; exact Or.inr h
  have hS : va_S A s.heap s.heap [] := va_S.rf
  have hiX2 : ∀ w ∈ wsX20, w ∈ wsX2_term := fun w h => List.mem_cons_of_mem _ (List.mem_append_right _ h)
  have hl := lv_entry ([.ref h0, .int day, .int what]) (n := 4) (Nat.le_of_ble_eq_true rfl)
  rw [lg_entry_eq]
  generalize (lg_sl ([.ref h0, .int day, .int what]) ++ List.replicate (4 - (lg_sl ([.ref h0, .int day, .int what])).length) Slot.unset).toArray = ls at hl ⊢
  have hl : lv_has ls 4 [(0, .ref h0), (1, .int day), (2, .int what)] := hl
  refine lv_aload_n hx hb dX2_term_0 rfl (lv_at hl 0 rfl) ?_
  refine lv_iload_n hx hb dX2_term_1 rfl (lv_at hl 1 rfl) ?_
  refine k_i (w2 := [(h0, .inr (2, [.ref a1, .ref a2, .int (nI tk)])), (a1, .inl (cI, 70, .inl fm)), (a2, .inl (cI, 10, .inl fs))]) (va_runV (As := [.int day]) (rest := []) ⟨hx, hb, hml, hown, hts⟩ (c_X2_inForce l _ h0 a1 a2 tk fm fs day htk) (cwV 1 hts gX2_term_X2_inForce rfl rfl rfl (by decide +kernel) ⟨Nat.le_of_ble_eq_true rfl, Nat.le_of_ble_eq_true rfl⟩) (pre_V (ci := 2) (q0 := 0) hB hz hA0 hP hD hS [0, 1, 2] rfl rfl rfl rfl rfl) rfl rfl hl.1 rfl (lv_room (Nat.le_of_ble_eq_true rfl)) dX2_term_2 ⟨Nat.zero_le _, Nat.zero_le _⟩) hP hD hS hA [0, 1, 2] [] [0, 1, 2] rfl rfl rfl rfl rfl (fun H locs hP hD hS => ?_)
  refine lv_istore_n (lv' := [(3, .int (lawAt fs day tk)), (0, .ref h0), (1, .int day), (2, .int what)]) hx hb dX2_term_5 rfl hl (by decide) rfl (fun ls hl => ?_)
  refine lv_iload_n hx hb dX2_term_6 rfl (lv_at hl 0 rfl) ?_
  refine lv_iconst (v := (-1)) hx hb dX2_term_7 (by decide) ?_
  refine lv_icmp_eq (tgt := 21) hx hb dX2_term_8 (by decide) (fun c_1 => ?_) (fun c_1 => ?_)
  · refine lv_iload_n hx hb dX2_term_21 rfl (lv_at hl 3 rfl) ?_
    refine k_i (w2 := [(h0, .inr (2, [.ref a1, .ref a2, .int (nI tk)])), (a1, .inl (cI, 70, .inl fm)), (a2, .inl (cI, 10, .inl fs))]) (va_runS (As := [.int what]) (rest := []) ⟨hx, hb, hml, hown, hts⟩ (c_X2_usual l _ what) (va_cwS 1 hts gX2_term_X2_usual rfl rfl rfl (by decide +kernel) ⟨Nat.le_of_ble_eq_true rfl, Nat.le_of_ble_eq_true rfl⟩) (pre_S hB hz hA0 hP hD hS [] rfl rfl) rfl rfl hl.1 rfl (lv_room (Nat.le_of_ble_eq_true rfl)) dX2_term_22 ⟨Nat.zero_le _, Nat.zero_le _⟩) hP hD hS hA [] [0, 1, 2] [0, 1, 2] rfl rfl rfl rfl rfl (fun H locs hP hD hS => ?_)
    have er : F_X2_term tk fm fs day what = F_X2_usual what := by rw [F_X2_term, if_pos c_1]
    exact W.iret hx hb hr (fun t ht hW => ⟨⟨_, (), rfl, er.symm, by rw [ht]; exact hP, hD⟩, hS.F ht⟩) hS.2.2 dX2_term_25
  · obtain ⟨hn1, hn2⟩ := lawAt_nat (by omega) c_1
    refine lv_iload_n hx hb dX2_term_11 rfl (lv_at hl 3 rfl) ?_
    refine lv_iconst (v := 0) hx hb dX2_term_12 (by decide) ?_
    refine lv_bipush (v := 6) hx hb dX2_term_13 (by decide) ?_
    refine k_i (w2 := [(h0, .inr (2, [.ref a1, .ref a2, .int (nI tk)])), (a1, .inl (cI, 70, .inl fm)), (a2, .inl (cI, 10, .inl fs))]) (va_runSN (As := [.int what, .int 0, .int 6]) (rest := []) ⟨hx, hb, hml, hown, hts⟩ (c_X7_within l _ what 0 6) ⟨va_cnB 3 hts gX2_term_X7_within_n22 rfl rfl rfl hB.2.1.2.2.2.2.2.2.1 (hts _ (List.mem_of_getElem? (i := 10) rfl)) (by decide +kernel) ⟨Nat.le_of_ble_eq_true rfl, Nat.le_of_ble_eq_true rfl⟩, hts _ (List.mem_of_getElem? (i := 9) rfl), trivial⟩ (pre_S hB hz hA0 hP hD hS [] rfl rfl) rfl rfl hl.1 rfl (lv_room (Nat.le_of_ble_eq_true rfl)) dX2_term_15 ⟨Nat.zero_le _, Nat.zero_le _⟩) hP hD hS hA [] [0, 1, 2] [0, 1, 2] rfl rfl rfl rfl rfl (fun H locs hP hD hS => ?_)
    refine lv_if_ne (tgt := 26) hx hb dX2_term_18 (by decide) (fun c_2 => ?_) (fun c_2 => ?_)
    · obtain ⟨hm1, hm2⟩ := wn_6 c_2
      refine lv_aload_n hx hb dX2_term_26 rfl (lv_at hl 1 rfl) ?_
      refine va_get (D := D) (ci := 2) (v := .ref a1) (C := RX2) (T := TX2) (N := 3) hx hb hts hiX2 hown hB.1 hP 0 rfl rfl 0 (by decide) (hts _ (List.mem_of_getElem? (i := 1) rfl)) (fun _ h9 => h9) rfl dX2_term_27 ?_
      refine lv_iload_n hx hb dX2_term_30 rfl (lv_at hl 0 rfl) ?_
      refine lv_bipush (v := 7) hx hb dX2_term_31 (by decide) ?_
      refine lv_imul hx hb dX2_term_33 ?_
      refine lv_iload_n hx hb dX2_term_34 rfl (lv_at hl 3 rfl) ?_
      refine lv_iadd hx hb dX2_term_35 ?_
      refine ra_i hx hb hB.1 hP 1 rfl ((lawAt fs day tk).toNatClampNeg * 7 + what.toNatClampNeg) (nx_add (nx_mul hn1 rfl) hm1) (by omega) (by decide) dX2_term_36 ?_
      have er : F_X2_term tk fm fs day what = fm ((lawAt fs day tk).toNatClampNeg * 7 + what.toNatClampNeg) := by rw [F_X2_term, if_neg c_1, if_neg c_2]
      exact W.iret hx hb hr (fun t ht hW => ⟨⟨_, (), rfl, er.symm, by rw [ht]; exact hP, hD⟩, hS.F ht⟩) hS.2.2 dX2_term_37
    · refine lv_iload_n hx hb dX2_term_21 rfl (lv_at hl 3 rfl) ?_
      refine k_i (w2 := [(h0, .inr (2, [.ref a1, .ref a2, .int (nI tk)])), (a1, .inl (cI, 70, .inl fm)), (a2, .inl (cI, 10, .inl fs))]) (va_runS (As := [.int what]) (rest := []) ⟨hx, hb, hml, hown, hts⟩ (c_X2_usual l _ what) (va_cwS 1 hts gX2_term_X2_usual rfl rfl rfl (by decide +kernel) ⟨Nat.le_of_ble_eq_true rfl, Nat.le_of_ble_eq_true rfl⟩) (pre_S hB hz hA0 hP hD hS [] rfl rfl) rfl rfl hl.1 rfl (lv_room (Nat.le_of_ble_eq_true rfl)) dX2_term_22 ⟨Nat.zero_le _, Nat.zero_le _⟩) hP hD hS hA [] [0, 1, 2] [0, 1, 2] rfl rfl rfl rfl rfl (fun H locs hP hD hS => ?_)
      have er : F_X2_term tk fm fs day what = F_X2_usual what := by rw [F_X2_term, if_neg c_1, if_pos c_2]
      exact W.iret hx hb hr (fun t ht hW => ⟨⟨_, (), rfl, er.symm, by rw [ht]; exact hP, hD⟩, hS.F ht⟩) hS.2.2 dX2_term_25

set_option maxHeartbeats 4000000 in
set_option maxRecDepth 100000 in
theorem c_X3_size (l : Launch) {D : va_G} {cI cZ cB : ClassId} {au : Nat} {kA kV : Nat → Nat} {z0 : Nat} (sz : Nat) (h0 : Nat) (a1 : Nat) (a2 : Nat) (nb : Nat) (ln : Nat) (kd : Int32) (sa : Nat) (so : Nat) (tp : Nat → Int32) (rt : Nat → Int32)  : Met l yX3_size wsX3_size ({ frames := 0, cells := 0, slots := 0, locals := 0 }) (va_Pc [.ref h0] (PRE D cI cZ cB au kA kV z0 sz [(h0, .inr (3, [.ref a1, .ref a2, .int (nI nb), .int (nI ln), .int kd, .int (nI sa), .int (nI so)])), (a1, .inl (cI, 300, .inl tp)), (a2, .inl (cI, 7, .inl rt))])) (QI D [(h0, .inr (3, [.ref a1, .ref a2, .int (nI nb), .int (nI ln), .int kd, .int (nI sa), .int (nI so)])), (a1, .inl (cI, 300, .inl tp)), (a2, .inl (cI, 7, .inl rt))] sz (nI nb) [(h0, .inr (3, [.ref a1, .ref a2, .int (nI nb), .int (nI ln), .int kd, .int (nI sa), .int (nI so)])), (a1, .inl (cI, 300, .inl tp)), (a2, .inl (cI, 7, .inl rt))]) 0 0 (va_A [(h0, .inr (3, [.ref a1, .ref a2, .int (nI nb), .int (nI ln), .int kd, .int (nI sa), .int (nI so)])), (a1, .inl (cI, 300, .inl tp)), (a2, .inl (cI, 7, .inl rt))] sz) := by
  refine Met.ofW (cc := cX3_size) (maxL := 1) (ret := (some .int)) (by decide) rfl ?_
  intro p e s m args below meth c s₁ B hml hv
  obtain ⟨rfl, hsz, hz, hP, hD0, hB⟩ := hv
  have hx := B.exec
  have hb := B.bytes
  have hr := B.returns
  have hts := atoms_spec (ws := wsX3_size) B.pre
  have hown : s.vm.findClass RX3 = some m.cls := findClass_of_methodNamed B.named
  have hlocks := B.notSynchronized
  subst hsz
  have hD := hD0.self (sz := s.heap.size)
  have hA0 := va_A0 hD0 hz
  unfold QI
  generalize hAe : va_A [(h0, .inr (3, [.ref a1, .ref a2, .int (nI nb), .int (nI ln), .int kd, .int (nI sa), .int (nI so)])), (a1, .inl (cI, 300, .inl tp)), (a2, .inl (cI, 7, .inl rt))] s.heap.size = A at hD hA0 ⊢
  have hA : ∀ q : Nat, s.heap.size ≤ q → A q := fun q h => by rw [← hAe]; exact Or.inr h
  have hS : va_S A s.heap s.heap [] := va_S.rf
  have hiX3 : ∀ w ∈ wsX30, w ∈ wsX3_size := fun w h => List.mem_cons_of_mem _ (List.mem_append_right _ h)
  have hl := lv_entry ([.ref h0]) (n := 1) (Nat.le_of_ble_eq_true rfl)
  rw [lg_entry_eq]
  generalize (lg_sl ([.ref h0]) ++ List.replicate (1 - (lg_sl ([.ref h0])).length) Slot.unset).toArray = ls at hl ⊢
  have hl : lv_has ls 1 [(0, .ref h0)] := hl
  refine lv_aload_n hx hb dX3_size_0 rfl (lv_at hl 0 rfl) ?_
  refine va_get (D := D) (ci := 3) (v := .int (nI nb)) (C := RX3) (T := TX3) (N := 7) hx hb hts hiX3 hown hB.1 hP 0 rfl rfl 2 (by decide) (hts _ (List.mem_of_getElem? (i := 1) rfl)) (fun _ h9 => h9) rfl dX3_size_1 ?_
  exact W.iret hx hb hr (fun t ht hW => ⟨⟨_, (), rfl, rfl, by rw [ht]; exact hP, hD⟩, hS.F ht⟩) hS.2.2 dX3_size_4

def F_X3_hasRoom (nb : Nat) : Int32 :=
  if 300 < ((nI nb) + 20) then 0 else
  1
set_option maxHeartbeats 4000000 in
set_option maxRecDepth 100000 in
theorem c_X3_hasRoom (l : Launch) {D : va_G} {cI cZ cB : ClassId} {au : Nat} {kA kV : Nat → Nat} {z0 : Nat} (sz : Nat) (h0 : Nat) (a1 : Nat) (a2 : Nat) (nb : Nat) (ln : Nat) (kd : Int32) (sa : Nat) (so : Nat) (tp : Nat → Int32) (rt : Nat → Int32)  : Met l yX3_hasRoom wsX3_hasRoom ({ frames := 0, cells := 0, slots := 0, locals := 0 }) (va_Pc [.ref h0] (PRE D cI cZ cB au kA kV z0 sz [(h0, .inr (3, [.ref a1, .ref a2, .int (nI nb), .int (nI ln), .int kd, .int (nI sa), .int (nI so)])), (a1, .inl (cI, 300, .inl tp)), (a2, .inl (cI, 7, .inl rt))])) (QI D [(h0, .inr (3, [.ref a1, .ref a2, .int (nI nb), .int (nI ln), .int kd, .int (nI sa), .int (nI so)])), (a1, .inl (cI, 300, .inl tp)), (a2, .inl (cI, 7, .inl rt))] sz (F_X3_hasRoom nb) [(h0, .inr (3, [.ref a1, .ref a2, .int (nI nb), .int (nI ln), .int kd, .int (nI sa), .int (nI so)])), (a1, .inl (cI, 300, .inl tp)), (a2, .inl (cI, 7, .inl rt))]) 0 0 (va_A [(h0, .inr (3, [.ref a1, .ref a2, .int (nI nb), .int (nI ln), .int kd, .int (nI sa), .int (nI so)])), (a1, .inl (cI, 300, .inl tp)), (a2, .inl (cI, 7, .inl rt))] sz) := by
  refine Met.ofW (cc := cX3_hasRoom) (maxL := 1) (ret := (some .boolean)) (by decide) rfl ?_
  intro p e s m args below meth c s₁ B hml hv
  obtain ⟨rfl, hsz, hz, hP, hD0, hB⟩ := hv
  have hx := B.exec
  have hb := B.bytes
  have hr := B.returns
  have hts := atoms_spec (ws := wsX3_hasRoom) B.pre
  have hown : s.vm.findClass RX3 = some m.cls := findClass_of_methodNamed B.named
  have hlocks := B.notSynchronized
  subst hsz
  have hD := hD0.self (sz := s.heap.size)
  have hA0 := va_A0 hD0 hz
  unfold QI
  generalize hAe : va_A [(h0, .inr (3, [.ref a1, .ref a2, .int (nI nb), .int (nI ln), .int kd, .int (nI sa), .int (nI so)])), (a1, .inl (cI, 300, .inl tp)), (a2, .inl (cI, 7, .inl rt))] s.heap.size = A at hD hA0 ⊢
  have hA : ∀ q : Nat, s.heap.size ≤ q → A q := fun q h => by rw [← hAe]; exact Or.inr h
  have hS : va_S A s.heap s.heap [] := va_S.rf
  have hiX3 : ∀ w ∈ wsX30, w ∈ wsX3_hasRoom := fun w h => List.mem_cons_of_mem _ (List.mem_append_right _ h)
  have hl := lv_entry ([.ref h0]) (n := 1) (Nat.le_of_ble_eq_true rfl)
  rw [lg_entry_eq]
  generalize (lg_sl ([.ref h0]) ++ List.replicate (1 - (lg_sl ([.ref h0])).length) Slot.unset).toArray = ls at hl ⊢
  have hl : lv_has ls 1 [(0, .ref h0)] := hl
  refine lv_aload_n hx hb dX3_hasRoom_0 rfl (lv_at hl 0 rfl) ?_
  refine va_get (D := D) (ci := 3) (v := .int (nI nb)) (C := RX3) (T := TX3) (N := 7) hx hb hts hiX3 hown hB.1 hP 0 rfl rfl 2 (by decide) (hts _ (List.mem_of_getElem? (i := 1) rfl)) (fun _ h9 => h9) rfl dX3_hasRoom_1 ?_
  refine lv_bipush (v := 20) hx hb dX3_hasRoom_4 (by decide) ?_
  refine lv_iadd hx hb dX3_hasRoom_6 ?_
  refine lv_sipush (v := 300) hx hb dX3_hasRoom_7 (by decide) ?_
  refine lv_icmp_gt (tgt := 17) hx hb dX3_hasRoom_10 (by decide) (fun c_1 => ?_) (fun c_1 => ?_)
  · refine lv_iconst (v := 0) hx hb dX3_hasRoom_17 (by decide) ?_
    have er : F_X3_hasRoom nb = 0 := by rw [F_X3_hasRoom, if_pos c_1]
    exact W.zret hx hb hr rfl (fun t ht hW => ⟨⟨_, (), rfl, er.symm, by rw [ht]; exact hP, hD⟩, hS.F ht⟩) hS.2.2 dX3_hasRoom_18
  · refine lv_iconst (v := 1) hx hb dX3_hasRoom_13 (by decide) ?_
    refine lv_goto (tgt := 18) hx hb dX3_hasRoom_14 (by decide) ?_
    have er : F_X3_hasRoom nb = 1 := by rw [F_X3_hasRoom, if_neg c_1]
    exact W.zret hx hb hr rfl (fun t ht hW => ⟨⟨_, (), rfl, er.symm, by rw [ht]; exact hP, hD⟩, hS.F ht⟩) hS.2.2 dX3_hasRoom_18

set_option maxHeartbeats 4000000 in
set_option maxRecDepth 100000 in
theorem c_X3_append (l : Launch) {D : va_G} {cI cZ cB : ClassId} {au : Nat} {kA kV : Nat → Nat} {z0 : Nat} (sz : Nat) (h0 : Nat) (a1 : Nat) (a2 : Nat) (nb : Nat) (ln : Nat) (kd : Int32) (sa : Nat) (so : Nat) (tp : Nat → Int32) (rt : Nat → Int32) (nu : Int32) (hnb : nb + 4 ≤ 300) : Met l yX3_append wsX3_append ({ frames := 0, cells := 0, slots := 0, locals := 0 }) (va_Pc [.ref h0, .int nu] (PRE D cI cZ cB au kA kV z0 sz [(h0, .inr (3, [.ref a1, .ref a2, .int (nI nb), .int (nI ln), .int kd, .int (nI sa), .int (nI so)])), (a1, .inl (cI, 300, .inl tp)), (a2, .inl (cI, 7, .inl rt))])) (QV D [(h0, .inr (3, [.ref a1, .ref a2, .int (nI nb), .int (nI ln), .int kd, .int (nI sa), .int (nI so)])), (a1, .inl (cI, 300, .inl tp)), (a2, .inl (cI, 7, .inl rt))] sz [(h0, .inr (3, [.ref a1, .ref a2, .int (nI ((((nb + 1) + 1) + 1) + 1)), .int (nI ln), .int kd, .int (nI sa), .int (nI so)])), (a1, .inl (cI, 300, .inl (upd (upd (upd (upd tp nb (((nu.toUInt32 >>> (Int32.toUInt32 24 &&& Int32.toUInt32 31)).toInt32) &&& 255)) (nb + 1) (((nu.toUInt32 >>> (Int32.toUInt32 16 &&& Int32.toUInt32 31)).toInt32) &&& 255)) ((nb + 1) + 1) (((nu.toUInt32 >>> (Int32.toUInt32 8 &&& Int32.toUInt32 31)).toInt32) &&& 255)) (((nb + 1) + 1) + 1) (((nu.toUInt32 >>> (Int32.toUInt32 0 &&& Int32.toUInt32 31)).toInt32) &&& 255)))), (a2, .inl (cI, 7, .inl rt))]) 0 0 (va_A [(h0, .inr (3, [.ref a1, .ref a2, .int (nI nb), .int (nI ln), .int kd, .int (nI sa), .int (nI so)])), (a1, .inl (cI, 300, .inl tp)), (a2, .inl (cI, 7, .inl rt))] sz) := by
  refine Met.ofW (cc := cX3_append) (maxL := 3) (ret := none) (by decide) rfl ?_
  intro p e s m args below meth c s₁ B hml hv
  obtain ⟨rfl, hsz, hz, hP, hD0, hB⟩ := hv
  have hx := B.exec
  have hb := B.bytes
  have hr := B.returns
  have hts := atoms_spec (ws := wsX3_append) B.pre
  have hown : s.vm.findClass RX3 = some m.cls := findClass_of_methodNamed B.named
  have hlocks := B.notSynchronized
  subst hsz
  have hD := hD0.self (sz := s.heap.size)
  have hA0 := va_A0 hD0 hz
  unfold QV
  generalize hAe : va_A [(h0, .inr (3, [.ref a1, .ref a2, .int (nI nb), .int (nI ln), .int kd, .int (nI sa), .int (nI so)])), (a1, .inl (cI, 300, .inl tp)), (a2, .inl (cI, 7, .inl rt))] s.heap.size = A at hD hA0 ⊢
  have hA : ∀ q : Nat, s.heap.size ≤ q → A q := fun q h => by rw [← hAe]; exact Or.inr h
  have hS : va_S A s.heap s.heap [] := va_S.rf
  have hiX3 : ∀ w ∈ wsX30, w ∈ wsX3_append := fun w h => List.mem_cons_of_mem _ (List.mem_append_right _ h)
  have hl := lv_entry ([.ref h0, .int nu]) (n := 3) (Nat.le_of_ble_eq_true rfl)
  rw [lg_entry_eq]
  generalize (lg_sl ([.ref h0, .int nu]) ++ List.replicate (3 - (lg_sl ([.ref h0, .int nu])).length) Slot.unset).toArray = ls at hl ⊢
  have hl : lv_has ls 3 [(0, .ref h0), (1, .int nu)] := hl
  refine lv_bipush (v := 24) hx hb dX3_append_0 (by decide) ?_
  refine lv_istore_n (lv' := [(2, .int 24), (0, .ref h0), (1, .int nu)]) hx hb dX3_append_2 rfl hl (by decide) rfl (fun ls hl => ?_)
  refine lv_iload_n hx hb dX3_append_3 rfl (lv_at hl 0 rfl) ?_
  refine lv_if_lt (tgt := 49) hx hb dX3_append_4 (by decide) (fun c_1 => ?_) (fun c_1 => ?_)
  · exact absurd c_1 (by decide)
  · refine lv_aload_n hx hb dX3_append_7 rfl (lv_at hl 1 rfl) ?_
    refine va_get (D := D) (ci := 3) (v := .int (nI nb)) (C := RX3) (T := TX3) (N := 7) hx hb hts hiX3 hown hB.1 hP 0 rfl rfl 2 (by decide) (hts _ (List.mem_of_getElem? (i := 1) rfl)) (fun _ h9 => h9) rfl dX3_append_8 ?_
    refine lv_sipush (v := 300) hx hb dX3_append_11 (by decide) ?_
    refine lv_icmp_ge (tgt := 49) hx hb dX3_append_14 (by decide) (fun c_2 => ?_) (fun c_2 => ?_)
    · exact absurd c_2 (lt300 (by omega))
    · refine lv_aload_n hx hb dX3_append_17 rfl (lv_at hl 1 rfl) ?_
      refine va_get (D := D) (ci := 3) (v := .ref a1) (C := RX3) (T := TX3) (N := 7) hx hb hts hiX3 hown hB.1 hP 0 rfl rfl 0 (by decide) (hts _ (List.mem_of_getElem? (i := 2) rfl)) (fun _ h9 => h9) rfl dX3_append_18 ?_
      refine lv_aload_n hx hb dX3_append_21 rfl (lv_at hl 1 rfl) ?_
      refine va_get (D := D) (ci := 3) (v := .int (nI nb)) (C := RX3) (T := TX3) (N := 7) hx hb hts hiX3 hown hB.1 hP 0 rfl rfl 2 (by decide) (hts _ (List.mem_of_getElem? (i := 1) rfl)) (fun _ h9 => h9) rfl dX3_append_22 ?_
      refine lv_iload_n hx hb dX3_append_25 rfl (lv_at hl 2 rfl) ?_
      refine lv_iload_n hx hb dX3_append_26 rfl (lv_at hl 0 rfl) ?_
      refine lv_iushr hx hb dX3_append_27 rfl ?_
      refine lv_sipush (v := 255) hx hb dX3_append_28 (by decide) ?_
      refine lv_iand hx hb dX3_append_31 ?_
      refine wa_i (w2 := [(h0, .inr (3, [.ref a1, .ref a2, .int (nI nb), .int (nI ln), .int kd, .int (nI sa), .int (nI so)])), (a1, .inl (cI, 300, .inl (upd tp nb (((nu.toUInt32 >>> (Int32.toUInt32 24 &&& Int32.toUInt32 31)).toInt32) &&& 255)))), (a2, .inl (cI, 7, .inl rt))]) hx hb hB.1 hP hD hS 1 rfl nb rfl (by omega) (by decide) dX3_append_32 rfl (fun H locs hP hD hS => ?_)
      refine lv_aload_n hx hb dX3_append_33 rfl (lv_at hl 1 rfl) ?_
      refine lv_dup hx hb dX3_append_34 rfl ?_
      refine va_get (D := D) (ci := 3) (v := .int (nI nb)) (C := RX3) (T := TX3) (N := 7) hx hb hts hiX3 hown hB.1 hP 0 rfl rfl 2 (by decide) (hts _ (List.mem_of_getElem? (i := 1) rfl)) (fun _ h9 => h9) rfl dX3_append_35 ?_
      refine lv_iconst (v := 1) hx hb dX3_append_38 (by decide) ?_
      refine lv_iadd hx hb dX3_append_39 ?_
      rw [show (nI nb) + 1 = nI (nb + 1) from (nx_add rfl rfl)]
      refine pf (w2 := [(h0, .inr (3, [.ref a1, .ref a2, .int (nI (nb + 1)), .int (nI ln), .int kd, .int (nI sa), .int (nI so)])), (a1, .inl (cI, 300, .inl (upd tp nb (((nu.toUInt32 >>> (Int32.toUInt32 24 &&& Int32.toUInt32 31)).toInt32) &&& 255)))), (a2, .inl (cI, 7, .inl rt))]) (ci := 3) (C := RX3) (T := TX3) (N := 7) hx hb hts hiX3 tyX3 tyX3_ok nmX3 hown hB.1 hP hD hS 0 rfl rfl 2 (by decide) (hts _ (List.mem_of_getElem? (i := 1) rfl)) rfl rfl rfl rfl (Nat.le_of_ble_eq_true rfl) rfl dX3_append_40 (fun H locs hP hD hS => ?_)
      refine lv_iinc (v := 16) (lv' := [(2, .int 16), (0, .ref h0), (1, .int nu)]) hx hb dX3_append_43 hl (k := 0) rfl (by decide) (by decide) rfl (fun ls hl => ?_)
      refine lv_goto (tgt := 3) hx hb dX3_append_46 (by decide) ?_
      refine lv_iload_n hx hb dX3_append_3 rfl (lv_at hl 0 rfl) ?_
      refine lv_if_lt (tgt := 49) hx hb dX3_append_4 (by decide) (fun c_3 => ?_) (fun c_3 => ?_)
      · exact absurd c_3 (by decide)
      · refine lv_aload_n hx hb dX3_append_7 rfl (lv_at hl 1 rfl) ?_
        refine va_get (D := D) (ci := 3) (v := .int (nI (nb + 1))) (C := RX3) (T := TX3) (N := 7) hx hb hts hiX3 hown hB.1 hP 0 rfl rfl 2 (by decide) (hts _ (List.mem_of_getElem? (i := 1) rfl)) (fun _ h9 => h9) rfl dX3_append_8 ?_
        refine lv_sipush (v := 300) hx hb dX3_append_11 (by decide) ?_
        refine lv_icmp_ge (tgt := 49) hx hb dX3_append_14 (by decide) (fun c_4 => ?_) (fun c_4 => ?_)
        · exact absurd c_4 (lt300 (by omega))
        · refine lv_aload_n hx hb dX3_append_17 rfl (lv_at hl 1 rfl) ?_
          refine va_get (D := D) (ci := 3) (v := .ref a1) (C := RX3) (T := TX3) (N := 7) hx hb hts hiX3 hown hB.1 hP 0 rfl rfl 0 (by decide) (hts _ (List.mem_of_getElem? (i := 2) rfl)) (fun _ h9 => h9) rfl dX3_append_18 ?_
          refine lv_aload_n hx hb dX3_append_21 rfl (lv_at hl 1 rfl) ?_
          refine va_get (D := D) (ci := 3) (v := .int (nI (nb + 1))) (C := RX3) (T := TX3) (N := 7) hx hb hts hiX3 hown hB.1 hP 0 rfl rfl 2 (by decide) (hts _ (List.mem_of_getElem? (i := 1) rfl)) (fun _ h9 => h9) rfl dX3_append_22 ?_
          refine lv_iload_n hx hb dX3_append_25 rfl (lv_at hl 2 rfl) ?_
          refine lv_iload_n hx hb dX3_append_26 rfl (lv_at hl 0 rfl) ?_
          refine lv_iushr hx hb dX3_append_27 rfl ?_
          refine lv_sipush (v := 255) hx hb dX3_append_28 (by decide) ?_
          refine lv_iand hx hb dX3_append_31 ?_
          refine wa_i (w2 := [(h0, .inr (3, [.ref a1, .ref a2, .int (nI (nb + 1)), .int (nI ln), .int kd, .int (nI sa), .int (nI so)])), (a1, .inl (cI, 300, .inl (upd (upd tp nb (((nu.toUInt32 >>> (Int32.toUInt32 24 &&& Int32.toUInt32 31)).toInt32) &&& 255)) (nb + 1) (((nu.toUInt32 >>> (Int32.toUInt32 16 &&& Int32.toUInt32 31)).toInt32) &&& 255)))), (a2, .inl (cI, 7, .inl rt))]) hx hb hB.1 hP hD hS 1 rfl (nb + 1) rfl (by omega) (by decide) dX3_append_32 rfl (fun H locs hP hD hS => ?_)
          refine lv_aload_n hx hb dX3_append_33 rfl (lv_at hl 1 rfl) ?_
          refine lv_dup hx hb dX3_append_34 rfl ?_
          refine va_get (D := D) (ci := 3) (v := .int (nI (nb + 1))) (C := RX3) (T := TX3) (N := 7) hx hb hts hiX3 hown hB.1 hP 0 rfl rfl 2 (by decide) (hts _ (List.mem_of_getElem? (i := 1) rfl)) (fun _ h9 => h9) rfl dX3_append_35 ?_
          refine lv_iconst (v := 1) hx hb dX3_append_38 (by decide) ?_
          refine lv_iadd hx hb dX3_append_39 ?_
          rw [show (nI (nb + 1)) + 1 = nI ((nb + 1) + 1) from (nx_add rfl rfl)]
          refine pf (w2 := [(h0, .inr (3, [.ref a1, .ref a2, .int (nI ((nb + 1) + 1)), .int (nI ln), .int kd, .int (nI sa), .int (nI so)])), (a1, .inl (cI, 300, .inl (upd (upd tp nb (((nu.toUInt32 >>> (Int32.toUInt32 24 &&& Int32.toUInt32 31)).toInt32) &&& 255)) (nb + 1) (((nu.toUInt32 >>> (Int32.toUInt32 16 &&& Int32.toUInt32 31)).toInt32) &&& 255)))), (a2, .inl (cI, 7, .inl rt))]) (ci := 3) (C := RX3) (T := TX3) (N := 7) hx hb hts hiX3 tyX3 tyX3_ok nmX3 hown hB.1 hP hD hS 0 rfl rfl 2 (by decide) (hts _ (List.mem_of_getElem? (i := 1) rfl)) rfl rfl rfl rfl (Nat.le_of_ble_eq_true rfl) rfl dX3_append_40 (fun H locs hP hD hS => ?_)
          refine lv_iinc (v := 8) (lv' := [(2, .int 8), (0, .ref h0), (1, .int nu)]) hx hb dX3_append_43 hl (k := 0) rfl (by decide) (by decide) rfl (fun ls hl => ?_)
          refine lv_goto (tgt := 3) hx hb dX3_append_46 (by decide) ?_
          refine lv_iload_n hx hb dX3_append_3 rfl (lv_at hl 0 rfl) ?_
          refine lv_if_lt (tgt := 49) hx hb dX3_append_4 (by decide) (fun c_5 => ?_) (fun c_5 => ?_)
          · exact absurd c_5 (by decide)
          · refine lv_aload_n hx hb dX3_append_7 rfl (lv_at hl 1 rfl) ?_
            refine va_get (D := D) (ci := 3) (v := .int (nI ((nb + 1) + 1))) (C := RX3) (T := TX3) (N := 7) hx hb hts hiX3 hown hB.1 hP 0 rfl rfl 2 (by decide) (hts _ (List.mem_of_getElem? (i := 1) rfl)) (fun _ h9 => h9) rfl dX3_append_8 ?_
            refine lv_sipush (v := 300) hx hb dX3_append_11 (by decide) ?_
            refine lv_icmp_ge (tgt := 49) hx hb dX3_append_14 (by decide) (fun c_6 => ?_) (fun c_6 => ?_)
            · exact absurd c_6 (lt300 (by omega))
            · refine lv_aload_n hx hb dX3_append_17 rfl (lv_at hl 1 rfl) ?_
              refine va_get (D := D) (ci := 3) (v := .ref a1) (C := RX3) (T := TX3) (N := 7) hx hb hts hiX3 hown hB.1 hP 0 rfl rfl 0 (by decide) (hts _ (List.mem_of_getElem? (i := 2) rfl)) (fun _ h9 => h9) rfl dX3_append_18 ?_
              refine lv_aload_n hx hb dX3_append_21 rfl (lv_at hl 1 rfl) ?_
              refine va_get (D := D) (ci := 3) (v := .int (nI ((nb + 1) + 1))) (C := RX3) (T := TX3) (N := 7) hx hb hts hiX3 hown hB.1 hP 0 rfl rfl 2 (by decide) (hts _ (List.mem_of_getElem? (i := 1) rfl)) (fun _ h9 => h9) rfl dX3_append_22 ?_
              refine lv_iload_n hx hb dX3_append_25 rfl (lv_at hl 2 rfl) ?_
              refine lv_iload_n hx hb dX3_append_26 rfl (lv_at hl 0 rfl) ?_
              refine lv_iushr hx hb dX3_append_27 rfl ?_
              refine lv_sipush (v := 255) hx hb dX3_append_28 (by decide) ?_
              refine lv_iand hx hb dX3_append_31 ?_
              refine wa_i (w2 := [(h0, .inr (3, [.ref a1, .ref a2, .int (nI ((nb + 1) + 1)), .int (nI ln), .int kd, .int (nI sa), .int (nI so)])), (a1, .inl (cI, 300, .inl (upd (upd (upd tp nb (((nu.toUInt32 >>> (Int32.toUInt32 24 &&& Int32.toUInt32 31)).toInt32) &&& 255)) (nb + 1) (((nu.toUInt32 >>> (Int32.toUInt32 16 &&& Int32.toUInt32 31)).toInt32) &&& 255)) ((nb + 1) + 1) (((nu.toUInt32 >>> (Int32.toUInt32 8 &&& Int32.toUInt32 31)).toInt32) &&& 255)))), (a2, .inl (cI, 7, .inl rt))]) hx hb hB.1 hP hD hS 1 rfl ((nb + 1) + 1) rfl (by omega) (by decide) dX3_append_32 rfl (fun H locs hP hD hS => ?_)
              refine lv_aload_n hx hb dX3_append_33 rfl (lv_at hl 1 rfl) ?_
              refine lv_dup hx hb dX3_append_34 rfl ?_
              refine va_get (D := D) (ci := 3) (v := .int (nI ((nb + 1) + 1))) (C := RX3) (T := TX3) (N := 7) hx hb hts hiX3 hown hB.1 hP 0 rfl rfl 2 (by decide) (hts _ (List.mem_of_getElem? (i := 1) rfl)) (fun _ h9 => h9) rfl dX3_append_35 ?_
              refine lv_iconst (v := 1) hx hb dX3_append_38 (by decide) ?_
              refine lv_iadd hx hb dX3_append_39 ?_
              rw [show (nI ((nb + 1) + 1)) + 1 = nI (((nb + 1) + 1) + 1) from (nx_add rfl rfl)]
              refine pf (w2 := [(h0, .inr (3, [.ref a1, .ref a2, .int (nI (((nb + 1) + 1) + 1)), .int (nI ln), .int kd, .int (nI sa), .int (nI so)])), (a1, .inl (cI, 300, .inl (upd (upd (upd tp nb (((nu.toUInt32 >>> (Int32.toUInt32 24 &&& Int32.toUInt32 31)).toInt32) &&& 255)) (nb + 1) (((nu.toUInt32 >>> (Int32.toUInt32 16 &&& Int32.toUInt32 31)).toInt32) &&& 255)) ((nb + 1) + 1) (((nu.toUInt32 >>> (Int32.toUInt32 8 &&& Int32.toUInt32 31)).toInt32) &&& 255)))), (a2, .inl (cI, 7, .inl rt))]) (ci := 3) (C := RX3) (T := TX3) (N := 7) hx hb hts hiX3 tyX3 tyX3_ok nmX3 hown hB.1 hP hD hS 0 rfl rfl 2 (by decide) (hts _ (List.mem_of_getElem? (i := 1) rfl)) rfl rfl rfl rfl (Nat.le_of_ble_eq_true rfl) rfl dX3_append_40 (fun H locs hP hD hS => ?_)
              refine lv_iinc (v := 0) (lv' := [(2, .int 0), (0, .ref h0), (1, .int nu)]) hx hb dX3_append_43 hl (k := 0) rfl (by decide) (by decide) rfl (fun ls hl => ?_)
              refine lv_goto (tgt := 3) hx hb dX3_append_46 (by decide) ?_
              refine lv_iload_n hx hb dX3_append_3 rfl (lv_at hl 0 rfl) ?_
              refine lv_if_lt (tgt := 49) hx hb dX3_append_4 (by decide) (fun c_7 => ?_) (fun c_7 => ?_)
              · exact absurd c_7 (by decide)
              · refine lv_aload_n hx hb dX3_append_7 rfl (lv_at hl 1 rfl) ?_
                refine va_get (D := D) (ci := 3) (v := .int (nI (((nb + 1) + 1) + 1))) (C := RX3) (T := TX3) (N := 7) hx hb hts hiX3 hown hB.1 hP 0 rfl rfl 2 (by decide) (hts _ (List.mem_of_getElem? (i := 1) rfl)) (fun _ h9 => h9) rfl dX3_append_8 ?_
                refine lv_sipush (v := 300) hx hb dX3_append_11 (by decide) ?_
                refine lv_icmp_ge (tgt := 49) hx hb dX3_append_14 (by decide) (fun c_8 => ?_) (fun c_8 => ?_)
                · exact absurd c_8 (lt300 (by omega))
                · refine lv_aload_n hx hb dX3_append_17 rfl (lv_at hl 1 rfl) ?_
                  refine va_get (D := D) (ci := 3) (v := .ref a1) (C := RX3) (T := TX3) (N := 7) hx hb hts hiX3 hown hB.1 hP 0 rfl rfl 0 (by decide) (hts _ (List.mem_of_getElem? (i := 2) rfl)) (fun _ h9 => h9) rfl dX3_append_18 ?_
                  refine lv_aload_n hx hb dX3_append_21 rfl (lv_at hl 1 rfl) ?_
                  refine va_get (D := D) (ci := 3) (v := .int (nI (((nb + 1) + 1) + 1))) (C := RX3) (T := TX3) (N := 7) hx hb hts hiX3 hown hB.1 hP 0 rfl rfl 2 (by decide) (hts _ (List.mem_of_getElem? (i := 1) rfl)) (fun _ h9 => h9) rfl dX3_append_22 ?_
                  refine lv_iload_n hx hb dX3_append_25 rfl (lv_at hl 2 rfl) ?_
                  refine lv_iload_n hx hb dX3_append_26 rfl (lv_at hl 0 rfl) ?_
                  refine lv_iushr hx hb dX3_append_27 rfl ?_
                  refine lv_sipush (v := 255) hx hb dX3_append_28 (by decide) ?_
                  refine lv_iand hx hb dX3_append_31 ?_
                  refine wa_i (w2 := [(h0, .inr (3, [.ref a1, .ref a2, .int (nI (((nb + 1) + 1) + 1)), .int (nI ln), .int kd, .int (nI sa), .int (nI so)])), (a1, .inl (cI, 300, .inl (upd (upd (upd (upd tp nb (((nu.toUInt32 >>> (Int32.toUInt32 24 &&& Int32.toUInt32 31)).toInt32) &&& 255)) (nb + 1) (((nu.toUInt32 >>> (Int32.toUInt32 16 &&& Int32.toUInt32 31)).toInt32) &&& 255)) ((nb + 1) + 1) (((nu.toUInt32 >>> (Int32.toUInt32 8 &&& Int32.toUInt32 31)).toInt32) &&& 255)) (((nb + 1) + 1) + 1) (((nu.toUInt32 >>> (Int32.toUInt32 0 &&& Int32.toUInt32 31)).toInt32) &&& 255)))), (a2, .inl (cI, 7, .inl rt))]) hx hb hB.1 hP hD hS 1 rfl (((nb + 1) + 1) + 1) rfl (by omega) (by decide) dX3_append_32 rfl (fun H locs hP hD hS => ?_)
                  refine lv_aload_n hx hb dX3_append_33 rfl (lv_at hl 1 rfl) ?_
                  refine lv_dup hx hb dX3_append_34 rfl ?_
                  refine va_get (D := D) (ci := 3) (v := .int (nI (((nb + 1) + 1) + 1))) (C := RX3) (T := TX3) (N := 7) hx hb hts hiX3 hown hB.1 hP 0 rfl rfl 2 (by decide) (hts _ (List.mem_of_getElem? (i := 1) rfl)) (fun _ h9 => h9) rfl dX3_append_35 ?_
                  refine lv_iconst (v := 1) hx hb dX3_append_38 (by decide) ?_
                  refine lv_iadd hx hb dX3_append_39 ?_
                  rw [show (nI (((nb + 1) + 1) + 1)) + 1 = nI ((((nb + 1) + 1) + 1) + 1) from (nx_add rfl rfl)]
                  refine pf (w2 := [(h0, .inr (3, [.ref a1, .ref a2, .int (nI ((((nb + 1) + 1) + 1) + 1)), .int (nI ln), .int kd, .int (nI sa), .int (nI so)])), (a1, .inl (cI, 300, .inl (upd (upd (upd (upd tp nb (((nu.toUInt32 >>> (Int32.toUInt32 24 &&& Int32.toUInt32 31)).toInt32) &&& 255)) (nb + 1) (((nu.toUInt32 >>> (Int32.toUInt32 16 &&& Int32.toUInt32 31)).toInt32) &&& 255)) ((nb + 1) + 1) (((nu.toUInt32 >>> (Int32.toUInt32 8 &&& Int32.toUInt32 31)).toInt32) &&& 255)) (((nb + 1) + 1) + 1) (((nu.toUInt32 >>> (Int32.toUInt32 0 &&& Int32.toUInt32 31)).toInt32) &&& 255)))), (a2, .inl (cI, 7, .inl rt))]) (ci := 3) (C := RX3) (T := TX3) (N := 7) hx hb hts hiX3 tyX3 tyX3_ok nmX3 hown hB.1 hP hD hS 0 rfl rfl 2 (by decide) (hts _ (List.mem_of_getElem? (i := 1) rfl)) rfl rfl rfl rfl (Nat.le_of_ble_eq_true rfl) rfl dX3_append_40 (fun H locs hP hD hS => ?_)
                  refine lv_iinc (v := (-8)) (lv' := [(2, .int (-8)), (0, .ref h0), (1, .int nu)]) hx hb dX3_append_43 hl (k := 0) rfl (by decide) (by decide) rfl (fun ls hl => ?_)
                  refine lv_goto (tgt := 3) hx hb dX3_append_46 (by decide) ?_
                  refine lv_iload_n hx hb dX3_append_3 rfl (lv_at hl 0 rfl) ?_
                  refine lv_if_lt (tgt := 49) hx hb dX3_append_4 (by decide) (fun c_9 => ?_) (fun c_9 => ?_)
                  · exact W.vret hx hb hr (fun t ht hW => ⟨⟨(), rfl, trivial, by rw [ht]; exact hP, hD⟩, hS.F ht⟩) hS.2.2 dX3_append_49
                  · exact absurd c_9 (by decide)

def F_X3_termRead (rt : Nat → Int32) (what : Int32) : Int32 :=
  if (F_X7_within what 0 ((nI 7) - 1)) = 0 then (-1) else
  rt what.toNatClampNeg
set_option maxHeartbeats 4000000 in
set_option maxRecDepth 100000 in
theorem c_X3_termRead (l : Launch) {D : va_G} {cI cZ cB : ClassId} {au : Nat} {kA kV : Nat → Nat} {z0 : Nat} (sz : Nat) (h0 : Nat) (a1 : Nat) (a2 : Nat) (nb : Nat) (ln : Nat) (kd : Int32) (sa : Nat) (so : Nat) (tp : Nat → Int32) (rt : Nat → Int32) (what : Int32)  : Met l yX3_termRead wsX3_termRead ({ frames := 1, cells := 0, slots := 0, locals := 22 }) (va_Pc [.ref h0, .int what] (PRE D cI cZ cB au kA kV z0 sz [(h0, .inr (3, [.ref a1, .ref a2, .int (nI nb), .int (nI ln), .int kd, .int (nI sa), .int (nI so)])), (a1, .inl (cI, 300, .inl tp)), (a2, .inl (cI, 7, .inl rt))])) (QI D [(h0, .inr (3, [.ref a1, .ref a2, .int (nI nb), .int (nI ln), .int kd, .int (nI sa), .int (nI so)])), (a1, .inl (cI, 300, .inl tp)), (a2, .inl (cI, 7, .inl rt))] sz (F_X3_termRead rt what) [(h0, .inr (3, [.ref a1, .ref a2, .int (nI nb), .int (nI ln), .int kd, .int (nI sa), .int (nI so)])), (a1, .inl (cI, 300, .inl tp)), (a2, .inl (cI, 7, .inl rt))]) 0 0 (va_A [(h0, .inr (3, [.ref a1, .ref a2, .int (nI nb), .int (nI ln), .int kd, .int (nI sa), .int (nI so)])), (a1, .inl (cI, 300, .inl tp)), (a2, .inl (cI, 7, .inl rt))] sz) := by
  refine Met.ofW (cc := cX3_termRead) (maxL := 2) (ret := (some .int)) (by decide) rfl ?_
  intro p e s m args below meth c s₁ B hml hv
  obtain ⟨rfl, hsz, hz, hP, hD0, hB⟩ := hv
  have hx := B.exec
  have hb := B.bytes
  have hr := B.returns
  have hts := atoms_spec (ws := wsX3_termRead) B.pre
  have hown : s.vm.findClass RX3 = some m.cls := findClass_of_methodNamed B.named
  have hlocks := B.notSynchronized
  subst hsz
  have hD := hD0.self (sz := s.heap.size)
  have hA0 := va_A0 hD0 hz
  unfold QI
  generalize hAe : va_A [(h0, .inr (3, [.ref a1, .ref a2, .int (nI nb), .int (nI ln), .int kd, .int (nI sa), .int (nI so)])), (a1, .inl (cI, 300, .inl tp)), (a2, .inl (cI, 7, .inl rt))] s.heap.size = A at hD hA0 ⊢
  have hA : ∀ q : Nat, s.heap.size ≤ q → A q := fun q h => by rw [← hAe]; exact Or.inr h
  have hS : va_S A s.heap s.heap [] := va_S.rf
  have hiX3 : ∀ w ∈ wsX30, w ∈ wsX3_termRead := fun w h => List.mem_cons_of_mem _ (List.mem_append_right _ h)
  have hl := lv_entry ([.ref h0, .int what]) (n := 2) (Nat.le_of_ble_eq_true rfl)
  rw [lg_entry_eq]
  generalize (lg_sl ([.ref h0, .int what]) ++ List.replicate (2 - (lg_sl ([.ref h0, .int what])).length) Slot.unset).toArray = ls at hl ⊢
  have hl : lv_has ls 2 [(0, .ref h0), (1, .int what)] := hl
  refine lv_iload_n hx hb dX3_termRead_0 rfl (lv_at hl 1 rfl) ?_
  refine lv_iconst (v := 0) hx hb dX3_termRead_1 (by decide) ?_
  refine lv_aload_n hx hb dX3_termRead_2 rfl (lv_at hl 0 rfl) ?_
  refine va_get (D := D) (ci := 3) (v := .ref a2) (C := RX3) (T := TX3) (N := 7) hx hb hts hiX3 hown hB.1 hP 0 rfl rfl 1 (by decide) (hts _ (List.mem_of_getElem? (i := 1) rfl)) (fun _ h9 => h9) rfl dX3_termRead_3 ?_
  refine va_alen (v := nI 7) hx hb hB.1 hP 2 0 rfl rfl rfl dX3_termRead_6 ?_
  refine lv_iconst (v := 1) hx hb dX3_termRead_7 (by decide) ?_
  refine lv_isub hx hb dX3_termRead_8 ?_
  refine k_i (w2 := [(h0, .inr (3, [.ref a1, .ref a2, .int (nI nb), .int (nI ln), .int kd, .int (nI sa), .int (nI so)])), (a1, .inl (cI, 300, .inl tp)), (a2, .inl (cI, 7, .inl rt))]) (va_runSN (As := [.int what, .int 0, .int ((nI 7) - 1)]) (rest := []) ⟨hx, hb, hml, hown, hts⟩ (c_X7_within l _ what 0 ((nI 7) - 1)) ⟨va_cnB 3 hts gX3_termRead_X7_within_n36 rfl rfl rfl hB.2.1.2.2.2.2.2.2.2.2 (hts _ (List.mem_of_getElem? (i := 3) rfl)) (by decide +kernel) ⟨Nat.le_of_ble_eq_true rfl, Nat.le_of_ble_eq_true rfl⟩, hts _ (List.mem_of_getElem? (i := 2) rfl), trivial⟩ (pre_S hB hz hA0 hP hD hS [] rfl rfl) rfl rfl hl.1 rfl (lv_room (Nat.le_of_ble_eq_true rfl)) dX3_termRead_9 ⟨Nat.zero_le _, Nat.zero_le _⟩) hP hD hS hA [] [0, 1, 2] [0, 1, 2] rfl rfl rfl rfl rfl (fun H locs hP hD hS => ?_)
  refine lv_if_eq (tgt := 24) hx hb dX3_termRead_12 (by decide) (fun c_1 => ?_) (fun c_1 => ?_)
  · refine lv_iconst (v := (-1)) hx hb dX3_termRead_24 (by decide) ?_
    have er : F_X3_termRead rt what = (-1) := by rw [F_X3_termRead, if_pos c_1]
    exact W.iret hx hb hr (fun t ht hW => ⟨⟨_, (), rfl, er.symm, by rw [ht]; exact hP, hD⟩, hS.F ht⟩) hS.2.2 dX3_termRead_25
  · obtain ⟨hm1, hm2⟩ := wn_ix (by decide) c_1
    refine lv_aload_n hx hb dX3_termRead_15 rfl (lv_at hl 0 rfl) ?_
    refine va_get (D := D) (ci := 3) (v := .ref a2) (C := RX3) (T := TX3) (N := 7) hx hb hts hiX3 hown hB.1 hP 0 rfl rfl 1 (by decide) (hts _ (List.mem_of_getElem? (i := 1) rfl)) (fun _ h9 => h9) rfl dX3_termRead_16 ?_
    refine lv_iload_n hx hb dX3_termRead_19 rfl (lv_at hl 1 rfl) ?_
    refine ra_i hx hb hB.1 hP 2 rfl what.toNatClampNeg hm1 hm2 (by decide) dX3_termRead_20 ?_
    refine lv_goto (tgt := 25) hx hb dX3_termRead_21 (by decide) ?_
    have er : F_X3_termRead rt what = rt what.toNatClampNeg := by rw [F_X3_termRead, if_neg c_1]
    exact W.iret hx hb hr (fun t ht hW => ⟨⟨_, (), rfl, er.symm, by rw [ht]; exact hP, hD⟩, hS.F ht⟩) hS.2.2 dX3_termRead_25

theorem full_0 {tk : Nat} (h : tk < 10) : F_X2_isFull tk = 0 := by
  rw [F_X2_isFull, if_pos (show nI tk < 10 from nI_lt (b := 10) h (by decide))]
def F_X2_take_L17 (tk : Nat) (rt : Nat → Int32) (t : Nat) (s_ : (Nat → Int32)) : (Nat → Int32) :=
    upd s_ ((tk * 7) + t) (F_X3_termRead rt (nI t))
set_option maxHeartbeats 4000000 in
set_option maxRecDepth 100000 in
theorem c_X2_take (l : Launch) {D : va_G} {cI cZ cB : ClassId} {au : Nat} {kA kV : Nat → Nat} {z0 : Nat} (sz : Nat) (h0 : Nat) (a1 : Nat) (a2 : Nat) (tk : Nat) (fm : Nat → Int32) (fs : Nat → Int32) (r0 : Nat) (c1 : Nat) (c2 : Nat) (nb : Nat) (ln : Nat) (kd : Int32) (sa : Nat) (so : Nat) (tp : Nat → Int32) (rt : Nat → Int32) (day : Int32) (htk : tk < 10) : Met l yX2_take wsX2_take ({ frames := 2, cells := 0, slots := 0, locals := 43 }) (va_Pc [.ref h0, .ref r0, .int day] (PRE D cI cZ cB au kA kV z0 sz [(h0, .inr (2, [.ref a1, .ref a2, .int (nI tk)])), (a1, .inl (cI, 70, .inl fm)), (a2, .inl (cI, 10, .inl fs)), (r0, .inr (3, [.ref c1, .ref c2, .int (nI nb), .int (nI ln), .int kd, .int (nI sa), .int (nI so)])), (c1, .inl (cI, 300, .inl tp)), (c2, .inl (cI, 7, .inl rt))])) (QI D [(h0, .inr (2, [.ref a1, .ref a2, .int (nI tk)])), (a1, .inl (cI, 70, .inl fm)), (a2, .inl (cI, 10, .inl fs)), (r0, .inr (3, [.ref c1, .ref c2, .int (nI nb), .int (nI ln), .int kd, .int (nI sa), .int (nI so)])), (c1, .inl (cI, 300, .inl tp)), (c2, .inl (cI, 7, .inl rt))] sz (nI tk) [(h0, .inr (2, [.ref a1, .ref a2, .int (nI (tk + 1))])), (a1, .inl (cI, 70, .inl (lp (F_X2_take_L17 tk rt) 7 fm))), (a2, .inl (cI, 10, .inl (upd fs tk day))), (r0, .inr (3, [.ref c1, .ref c2, .int (nI nb), .int (nI ln), .int kd, .int (nI sa), .int (nI so)])), (c1, .inl (cI, 300, .inl tp)), (c2, .inl (cI, 7, .inl rt))]) 0 0 (va_A [(h0, .inr (2, [.ref a1, .ref a2, .int (nI tk)])), (a1, .inl (cI, 70, .inl fm)), (a2, .inl (cI, 10, .inl fs)), (r0, .inr (3, [.ref c1, .ref c2, .int (nI nb), .int (nI ln), .int kd, .int (nI sa), .int (nI so)])), (c1, .inl (cI, 300, .inl tp)), (c2, .inl (cI, 7, .inl rt))] sz) := by
  refine Met.ofW (cc := cX2_take) (maxL := 5) (ret := (some .int)) (by decide) rfl ?_
  intro p e s m args below meth c s₁ B hml hv
  obtain ⟨rfl, hsz, hz, hP, hD0, hB⟩ := hv
  have hx := B.exec
  have hb := B.bytes
  have hr := B.returns
  have hts := atoms_spec (ws := wsX2_take) B.pre
  have hown : s.vm.findClass RX2 = some m.cls := findClass_of_methodNamed B.named
  have hlocks := B.notSynchronized
  subst hsz
  have hD := hD0.self (sz := s.heap.size)
  have hA0 := va_A0 hD0 hz
  unfold QI
  generalize hAe : va_A [(h0, .inr (2, [.ref a1, .ref a2, .int (nI tk)])), (a1, .inl (cI, 70, .inl fm)), (a2, .inl (cI, 10, .inl fs)), (r0, .inr (3, [.ref c1, .ref c2, .int (nI nb), .int (nI ln), .int kd, .int (nI sa), .int (nI so)])), (c1, .inl (cI, 300, .inl tp)), (c2, .inl (cI, 7, .inl rt))] s.heap.size = A at hD hA0 ⊢
  have hA : ∀ q : Nat, s.heap.size ≤ q → A q := fun q h => by rw [← hAe]; exact Or.inr h
  have hS : va_S A s.heap s.heap [] := va_S.rf
  have hiX2 : ∀ w ∈ wsX20, w ∈ wsX2_take := fun w h => List.mem_cons_of_mem _ (List.mem_append_left _ (List.mem_append_right _ h))
  have hl := lv_entry ([.ref h0, .ref r0, .int day]) (n := 5) (Nat.le_of_ble_eq_true rfl)
  rw [lg_entry_eq]
  generalize (lg_sl ([.ref h0, .ref r0, .int day]) ++ List.replicate (5 - (lg_sl ([.ref h0, .ref r0, .int day])).length) Slot.unset).toArray = ls at hl ⊢
  have hl : lv_has ls 5 [(0, .ref h0), (1, .ref r0), (2, .int day)] := hl
  refine lv_aload_n hx hb dX2_take_0 rfl (lv_at hl 0 rfl) ?_
  refine k_i (w2 := [(h0, .inr (2, [.ref a1, .ref a2, .int (nI tk)])), (a1, .inl (cI, 70, .inl fm)), (a2, .inl (cI, 10, .inl fs)), (r0, .inr (3, [.ref c1, .ref c2, .int (nI nb), .int (nI ln), .int kd, .int (nI sa), .int (nI so)])), (c1, .inl (cI, 300, .inl tp)), (c2, .inl (cI, 7, .inl rt))]) (va_runV (As := []) (rest := []) ⟨hx, hb, hml, hown, hts⟩ (c_X2_isFull l _ h0 a1 a2 tk fm fs) (cwV 0 hts gX2_take_X2_isFull rfl rfl rfl (by decide +kernel) ⟨Nat.le_of_ble_eq_true rfl, Nat.le_of_ble_eq_true rfl⟩) (pre_V (ci := 2) (q0 := 0) hB hz hA0 hP hD hS [0, 1, 2] rfl rfl rfl rfl rfl) rfl rfl hl.1 rfl (lv_room (Nat.le_of_ble_eq_true rfl)) dX2_take_1 ⟨Nat.zero_le _, Nat.zero_le _⟩) hP hD hS hA [0, 1, 2] [3, 4, 5] [3, 4, 5, 0, 1, 2] rfl rfl rfl rfl rfl (fun H locs hP hD hS => ?_)
  refine lv_if_eq (tgt := 9) hx hb dX2_take_4 (by decide) (fun c_1 => ?_) (fun c_1 => ?_)
  · refine lv_aload_n hx hb dX2_take_9 rfl (lv_at hl 0 rfl) ?_
    refine va_get (D := D) (ci := 2) (v := .int (nI tk)) (C := RX2) (T := TX2) (N := 3) hx hb hts hiX2 hown hB.1 hP 0 rfl rfl 2 (by decide) (hts _ (List.mem_of_getElem? (i := 1) rfl)) (fun _ h9 => h9) rfl dX2_take_10 ?_
    refine lv_istore_n (lv' := [(3, .int (nI tk)), (0, .ref h0), (1, .ref r0), (2, .int day)]) hx hb dX2_take_13 rfl hl (by decide) rfl (fun ls hl => ?_)
    refine lv_iconst (v := 0) hx hb dX2_take_14 (by decide) ?_
    refine lv_istore (lv' := [(4, .int 0), (3, .int (nI tk)), (0, .ref h0), (1, .ref r0), (2, .int day)]) hx hb dX2_take_15 hl (by decide) rfl (fun ls hl => ?_)
    refine lpM (σ := Nat) (fun t => t ≤ 7) (fun t => 7 - t) (fun t => [(h0, .inr (2, [.ref a1, .ref a2, .int (nI tk)])), (a1, .inl (cI, 70, .inl (lp (F_X2_take_L17 tk rt) t fm))), (a2, .inl (cI, 10, .inl fs)), (r0, .inr (3, [.ref c1, .ref c2, .int (nI nb), .int (nI ln), .int kd, .int (nI sa), .int (nI so)])), (c1, .inl (cI, 300, .inl tp)), (c2, .inl (cI, 7, .inl rt))]) (fun t => [(4, .int (nI t)), (3, .int (nI tk)), (0, .ref h0), (1, .ref r0), (2, .int day)]) 0 (Nat.zero_le _) hP hD hS (lv_sub hl [0, 1, 2, 3, 4] rfl) ?_
    intro t h_t ih_t H locs ls hP hD hS hl
    have hP : va_P D vwCl [(h0, .inr (2, [.ref a1, .ref a2, .int (nI tk)])), (a1, .inl (cI, 70, .inl (lp (F_X2_take_L17 tk rt) t fm))), (a2, .inl (cI, 10, .inl fs)), (r0, .inr (3, [.ref c1, .ref c2, .int (nI nb), .int (nI ln), .int kd, .int (nI sa), .int (nI so)])), (c1, .inl (cI, 300, .inl tp)), (c2, .inl (cI, 7, .inl rt))] H := hP
    have hD : va_D A [(h0, .inr (2, [.ref a1, .ref a2, .int (nI tk)])), (a1, .inl (cI, 70, .inl (lp (F_X2_take_L17 tk rt) t fm))), (a2, .inl (cI, 10, .inl fs)), (r0, .inr (3, [.ref c1, .ref c2, .int (nI nb), .int (nI ln), .int kd, .int (nI sa), .int (nI so)])), (c1, .inl (cI, 300, .inl tp)), (c2, .inl (cI, 7, .inl rt))] := hD
    have hl : lv_has ls 5 [(4, .int (nI t)), (3, .int (nI tk)), (0, .ref h0), (1, .ref r0), (2, .int day)] := hl
    generalize hs_t : lp (F_X2_take_L17 tk rt) t fm = sv2 at hP hD 
    refine lv_iload hx hb dX2_take_17 (lv_at hl 0 rfl) ?_
    refine lv_bipush (v := 7) hx hb dX2_take_19 (by decide) ?_
    refine lv_icmp_ge (tgt := 48) hx hb dX2_take_21 (by decide) (fun c_3 => ?_) (fun c_3 => ?_)
    · have hx_t : 7 = t := Eq.symm (le_ex (N := 7) (by decide) h_t c_3)
      subst hx_t
      subst hs_t
      refine lv_aload_n hx hb dX2_take_48 rfl (lv_at hl 2 rfl) ?_
      refine va_get (D := D) (ci := 2) (v := .ref a2) (C := RX2) (T := TX2) (N := 3) hx hb hts hiX2 hown hB.1 hP 0 rfl rfl 1 (by decide) (hts _ (List.mem_of_getElem? (i := 3) rfl)) (fun _ h9 => h9) rfl dX2_take_49 ?_
      refine lv_iload_n hx hb dX2_take_52 rfl (lv_at hl 1 rfl) ?_
      refine lv_iload_n hx hb dX2_take_53 rfl (lv_at hl 4 rfl) ?_
      refine wa_i (w2 := [(h0, .inr (2, [.ref a1, .ref a2, .int (nI tk)])), (a1, .inl (cI, 70, .inl (lp (F_X2_take_L17 tk rt) 7 fm))), (a2, .inl (cI, 10, .inl (upd fs tk day))), (r0, .inr (3, [.ref c1, .ref c2, .int (nI nb), .int (nI ln), .int kd, .int (nI sa), .int (nI so)])), (c1, .inl (cI, 300, .inl tp)), (c2, .inl (cI, 7, .inl rt))]) hx hb hB.1 hP hD hS 2 rfl tk rfl htk (by decide) dX2_take_54 rfl (fun H locs hP hD hS => ?_)
      refine lv_aload_n hx hb dX2_take_55 rfl (lv_at hl 2 rfl) ?_
      refine lv_dup hx hb dX2_take_56 rfl ?_
      refine va_get (D := D) (ci := 2) (v := .int (nI tk)) (C := RX2) (T := TX2) (N := 3) hx hb hts hiX2 hown hB.1 hP 0 rfl rfl 2 (by decide) (hts _ (List.mem_of_getElem? (i := 1) rfl)) (fun _ h9 => h9) rfl dX2_take_57 ?_
      refine lv_iconst (v := 1) hx hb dX2_take_60 (by decide) ?_
      refine lv_iadd hx hb dX2_take_61 ?_
      rw [show (nI tk) + 1 = nI (tk + 1) from (nx_add rfl rfl)]
      refine pf (w2 := [(h0, .inr (2, [.ref a1, .ref a2, .int (nI (tk + 1))])), (a1, .inl (cI, 70, .inl (lp (F_X2_take_L17 tk rt) 7 fm))), (a2, .inl (cI, 10, .inl (upd fs tk day))), (r0, .inr (3, [.ref c1, .ref c2, .int (nI nb), .int (nI ln), .int kd, .int (nI sa), .int (nI so)])), (c1, .inl (cI, 300, .inl tp)), (c2, .inl (cI, 7, .inl rt))]) (ci := 2) (C := RX2) (T := TX2) (N := 3) hx hb hts hiX2 tyX2 tyX2_ok nmX2 hown hB.1 hP hD hS 0 rfl rfl 2 (by decide) (hts _ (List.mem_of_getElem? (i := 1) rfl)) rfl rfl rfl rfl (Nat.le_of_ble_eq_true rfl) rfl dX2_take_62 (fun H locs hP hD hS => ?_)
      refine lv_iload_n hx hb dX2_take_65 rfl (lv_at hl 1 rfl) ?_
      exact W.iret hx hb hr (fun t ht hW => ⟨⟨_, (), rfl, rfl, by rw [ht]; exact hP, hD⟩, hS.F ht⟩) hS.2.2 dX2_take_66
    · have hlt_t : t < 7 := le_go (N := 7) (by decide) h_t c_3
      refine lv_aload_n hx hb dX2_take_24 rfl (lv_at hl 2 rfl) ?_
      refine va_get (D := D) (ci := 2) (v := .ref a1) (C := RX2) (T := TX2) (N := 3) hx hb hts hiX2 hown hB.1 hP 0 rfl rfl 0 (by decide) (hts _ (List.mem_of_getElem? (i := 2) rfl)) (fun _ h9 => h9) rfl dX2_take_25 ?_
      refine lv_iload_n hx hb dX2_take_28 rfl (lv_at hl 1 rfl) ?_
      refine lv_bipush (v := 7) hx hb dX2_take_29 (by decide) ?_
      refine lv_imul hx hb dX2_take_31 ?_
      refine lv_iload hx hb dX2_take_32 (lv_at hl 0 rfl) ?_
      refine lv_iadd hx hb dX2_take_34 ?_
      refine lv_aload_n hx hb dX2_take_35 rfl (lv_at hl 3 rfl) ?_
      refine lv_iload hx hb dX2_take_36 (lv_at hl 0 rfl) ?_
      refine k_i (w2 := [(h0, .inr (2, [.ref a1, .ref a2, .int (nI tk)])), (a1, .inl (cI, 70, .inl sv2)), (a2, .inl (cI, 10, .inl fs)), (r0, .inr (3, [.ref c1, .ref c2, .int (nI nb), .int (nI ln), .int kd, .int (nI sa), .int (nI so)])), (c1, .inl (cI, 300, .inl tp)), (c2, .inl (cI, 7, .inl rt))]) (va_runV (As := [.int (nI t)]) (rest := [.int (((nI tk) * 7) + (nI t)), .ref a1]) ⟨hx, hb, hml, hown, hts⟩ (c_X3_termRead l _ r0 c1 c2 nb ln kd sa so tp rt (nI t)) (cwV 1 hts gX2_take_X3_termRead rfl rfl rfl (by decide +kernel) ⟨Nat.le_of_ble_eq_true rfl, Nat.le_of_ble_eq_true rfl⟩) (pre_V (ci := 3) (q0 := 3) hB hz hA0 hP hD hS [3, 4, 5] rfl rfl rfl rfl rfl) rfl rfl hl.1 rfl (lv_room (Nat.le_of_ble_eq_true rfl)) dX2_take_38 ⟨Nat.zero_le _, Nat.zero_le _⟩) hP hD hS hA [3, 4, 5] [0, 1, 2] [0, 1, 2, 3, 4, 5] rfl rfl rfl rfl rfl (fun H locs hP hD hS => ?_)
      refine wa_i (w2 := [(h0, .inr (2, [.ref a1, .ref a2, .int (nI tk)])), (a1, .inl (cI, 70, .inl (upd sv2 ((tk * 7) + t) (F_X3_termRead rt (nI t))))), (a2, .inl (cI, 10, .inl fs)), (r0, .inr (3, [.ref c1, .ref c2, .int (nI nb), .int (nI ln), .int kd, .int (nI sa), .int (nI so)])), (c1, .inl (cI, 300, .inl tp)), (c2, .inl (cI, 7, .inl rt))]) hx hb hB.1 hP hD hS 1 rfl ((tk * 7) + t) (nx_add (nx_mul rfl rfl) rfl) (by omega) (by decide) dX2_take_41 rfl (fun H locs hP hD hS => ?_)
      refine lv_iinc (v := nI (t + 1)) (lv' := [(4, .int (nI (t + 1))), (3, .int (nI tk)), (0, .ref h0), (1, .ref r0), (2, .int day)]) hx hb dX2_take_42 hl (k := 0) rfl (nI_1 _) (by decide) rfl (fun ls hl => ?_)
      refine lv_goto (tgt := 17) hx hb dX2_take_45 (by decide) ?_
      have e_step : F_X2_take_L17 tk rt t sv2 = upd sv2 ((tk * 7) + t) (F_X3_termRead rt (nI t)) := by rw [F_X2_take_L17]
      have hP2 : va_P D vwCl [(h0, .inr (2, [.ref a1, .ref a2, .int (nI tk)])), (a1, .inl (cI, 70, .inl (F_X2_take_L17 tk rt t sv2))), (a2, .inl (cI, 10, .inl fs)), (r0, .inr (3, [.ref c1, .ref c2, .int (nI nb), .int (nI ln), .int kd, .int (nI sa), .int (nI so)])), (c1, .inl (cI, 300, .inl tp)), (c2, .inl (cI, 7, .inl rt))] H := by rw [e_step]; exact hP
      have hD2 : va_D A [(h0, .inr (2, [.ref a1, .ref a2, .int (nI tk)])), (a1, .inl (cI, 70, .inl (F_X2_take_L17 tk rt t sv2))), (a2, .inl (cI, 10, .inl fs)), (r0, .inr (3, [.ref c1, .ref c2, .int (nI nb), .int (nI ln), .int kd, .int (nI sa), .int (nI so)])), (c1, .inl (cI, 300, .inl tp)), (c2, .inl (cI, 7, .inl rt))] := by rw [e_step]; exact hD
      have hl2 : lv_has ls 5 [(4, .int (nI (t + 1))), (3, .int (nI tk)), (0, .ref h0), (1, .ref r0), (2, .int day)] := lv_sub hl [0, 1, 2, 3, 4] rfl
      subst hs_t
      exact ih_t (t + 1) (by omega) (by omega) _ _ _ hP2 hD2 hS hl2
  · exact absurd (full_0 htk) c_1
