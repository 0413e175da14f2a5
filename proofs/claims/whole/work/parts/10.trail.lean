set_option maxHeartbeats 4000000 in
set_option maxRecDepth 100000 in
theorem c_X6_nextRow (l : Launch) {D : va_G} {cI cZ cB : ClassId} {au : Nat} {kA kV : Nat → Nat} {z0 : Nat} (sz : Nat) (h0 : Nat) (a1 : Nat) (a2 : Nat) (a3 : Nat) (a4 : Nat) (nr : Nat) (dg : Nat) (v1 : Int32) (fp : Nat → Int32) (fy : Nat → Int32) (fb : Nat → Int32) (fn : Nat → Int32)  : Met l yX6_nextRow wsX6_nextRow ({ frames := 0, cells := 0, slots := 0, locals := 0 }) (va_Pc [.ref h0] (PRE D cI cZ cB au kA kV z0 sz [(h0, .inr (6, [.ref a1, .ref a2, .ref a3, .ref a4, .int (nI dg), .int v1])), (a1, .inl (cI, nr, .inl fp)), (a2, .inl (cI, nr, .inl fy)), (a3, .inl (cZ, nr, .inl fb)), (a4, .inl (cZ, nr, .inl fn))])) (QI D [(h0, .inr (6, [.ref a1, .ref a2, .ref a3, .ref a4, .int (nI dg), .int v1])), (a1, .inl (cI, nr, .inl fp)), (a2, .inl (cI, nr, .inl fy)), (a3, .inl (cZ, nr, .inl fb)), (a4, .inl (cZ, nr, .inl fn))] sz (nI dg) [(h0, .inr (6, [.ref a1, .ref a2, .ref a3, .ref a4, .int (nI dg), .int v1])), (a1, .inl (cI, nr, .inl fp)), (a2, .inl (cI, nr, .inl fy)), (a3, .inl (cZ, nr, .inl fb)), (a4, .inl (cZ, nr, .inl fn))]) 0 0 (va_A [(h0, .inr (6, [.ref a1, .ref a2, .ref a3, .ref a4, .int (nI dg), .int v1])), (a1, .inl (cI, nr, .inl fp)), (a2, .inl (cI, nr, .inl fy)), (a3, .inl (cZ, nr, .inl fb)), (a4, .inl (cZ, nr, .inl fn))] sz) := by
  refine Met.ofW (cc := cX6_nextRow) (maxL := 1) (ret := (some .int)) (by decide) rfl ?_
  intro p e s m args below meth c s₁ B hml hv
  obtain ⟨rfl, hsz, hz, hP, hD0, hB⟩ := hv
  have hx := B.exec
  have hb := B.bytes
  have hr := B.returns
  have hts := atoms_spec (ws := wsX6_nextRow) B.pre
  have hown : s.vm.findClass RX6 = some m.cls := findClass_of_methodNamed B.named
  have hlocks := B.notSynchronized
  subst hsz
  have hD := hD0.self (sz := s.heap.size)
  have hA0 := va_A0 hD0 hz
  unfold QI
  generalize hAe : va_A [(h0, .inr (6, [.ref a1, .ref a2, .ref a3, .ref a4, .int (nI dg), .int v1])), (a1, .inl (cI, nr, .inl fp)), (a2, .inl (cI, nr, .inl fy)), (a3, .inl (cZ, nr, .inl fb)), (a4, .inl (cZ, nr, .inl fn))] s.heap.size = A at hD hA0 ⊢
  have hA : ∀ q : Nat, s.heap.size ≤ q → A q := fun q h => by rw [← hAe]; exact Or.inr h
  have hS : va_S A s.heap s.heap [] := va_S.rf
  have hiX6 : ∀ w ∈ wsX60, w ∈ wsX6_nextRow := fun w h => List.mem_cons_of_mem _ (List.mem_append_right _ h)
  have hl := lv_entry ([.ref h0]) (n := 1) (Nat.le_of_ble_eq_true rfl)
  rw [lg_entry_eq]
  generalize (lg_sl ([.ref h0]) ++ List.replicate (1 - (lg_sl ([.ref h0])).length) Slot.unset).toArray = ls at hl ⊢
  have hl : lv_has ls 1 [(0, .ref h0)] := hl
  refine lv_aload_n hx hb dX6_nextRow_0 rfl (lv_at hl 0 rfl) ?_
  refine va_get (D := D) (ci := 6) (v := .int (nI dg)) (C := RX6) (T := TX6) (N := 6) hx hb hts hiX6 hown hB.1 hP 0 rfl rfl 4 (by decide) (hts _ (List.mem_of_getElem? (i := 1) rfl)) (fun _ h9 => h9) rfl dX6_nextRow_1 ?_
  exact W.iret hx hb hr (fun t ht hW => ⟨⟨_, (), rfl, rfl, by rw [ht]; exact hP, hD⟩, hS.F ht⟩) hS.2.2 dX6_nextRow_4

set_option maxHeartbeats 4000000 in
set_option maxRecDepth 100000 in
theorem c_X6_laidBackCount (l : Launch) {D : va_G} {cI cZ cB : ClassId} {au : Nat} {kA kV : Nat → Nat} {z0 : Nat} (sz : Nat) (h0 : Nat) (a1 : Nat) (a2 : Nat) (a3 : Nat) (a4 : Nat) (nr : Nat) (dg : Nat) (v1 : Int32) (fp : Nat → Int32) (fy : Nat → Int32) (fb : Nat → Int32) (fn : Nat → Int32)  : Met l yX6_laidBackCount wsX6_laidBackCount ({ frames := 0, cells := 0, slots := 0, locals := 0 }) (va_Pc [.ref h0] (PRE D cI cZ cB au kA kV z0 sz [(h0, .inr (6, [.ref a1, .ref a2, .ref a3, .ref a4, .int (nI dg), .int v1])), (a1, .inl (cI, nr, .inl fp)), (a2, .inl (cI, nr, .inl fy)), (a3, .inl (cZ, nr, .inl fb)), (a4, .inl (cZ, nr, .inl fn))])) (QI D [(h0, .inr (6, [.ref a1, .ref a2, .ref a3, .ref a4, .int (nI dg), .int v1])), (a1, .inl (cI, nr, .inl fp)), (a2, .inl (cI, nr, .inl fy)), (a3, .inl (cZ, nr, .inl fb)), (a4, .inl (cZ, nr, .inl fn))] sz v1 [(h0, .inr (6, [.ref a1, .ref a2, .ref a3, .ref a4, .int (nI dg), .int v1])), (a1, .inl (cI, nr, .inl fp)), (a2, .inl (cI, nr, .inl fy)), (a3, .inl (cZ, nr, .inl fb)), (a4, .inl (cZ, nr, .inl fn))]) 0 0 (va_A [(h0, .inr (6, [.ref a1, .ref a2, .ref a3, .ref a4, .int (nI dg), .int v1])), (a1, .inl (cI, nr, .inl fp)), (a2, .inl (cI, nr, .inl fy)), (a3, .inl (cZ, nr, .inl fb)), (a4, .inl (cZ, nr, .inl fn))] sz) := by
  refine Met.ofW (cc := cX6_laidBackCount) (maxL := 1) (ret := (some .int)) (by decide) rfl ?_
  intro p e s m args below meth c s₁ B hml hv
  obtain ⟨rfl, hsz, hz, hP, hD0, hB⟩ := hv
  have hx := B.exec
  have hb := B.bytes
  have hr := B.returns
  have hts := atoms_spec (ws := wsX6_laidBackCount) B.pre
  have hown : s.vm.findClass RX6 = some m.cls := findClass_of_methodNamed B.named
  have hlocks := B.notSynchronized
  subst hsz
  have hD := hD0.self (sz := s.heap.size)
  have hA0 := va_A0 hD0 hz
  unfold QI
  generalize hAe : va_A [(h0, .inr (6, [.ref a1, .ref a2, .ref a3, .ref a4, .int (nI dg), .int v1])), (a1, .inl (cI, nr, .inl fp)), (a2, .inl (cI, nr, .inl fy)), (a3, .inl (cZ, nr, .inl fb)), (a4, .inl (cZ, nr, .inl fn))] s.heap.size = A at hD hA0 ⊢
  have hA : ∀ q : Nat, s.heap.size ≤ q → A q := fun q h => by rw [← hAe]; exact Or.inr h
  have hS : va_S A s.heap s.heap [] := va_S.rf
  have hiX6 : ∀ w ∈ wsX60, w ∈ wsX6_laidBackCount := fun w h => List.mem_cons_of_mem _ (List.mem_append_right _ h)
  have hl := lv_entry ([.ref h0]) (n := 1) (Nat.le_of_ble_eq_true rfl)
  rw [lg_entry_eq]
  generalize (lg_sl ([.ref h0]) ++ List.replicate (1 - (lg_sl ([.ref h0])).length) Slot.unset).toArray = ls at hl ⊢
  have hl : lv_has ls 1 [(0, .ref h0)] := hl
  refine lv_aload_n hx hb dX6_laidBackCount_0 rfl (lv_at hl 0 rfl) ?_
  refine va_get (D := D) (ci := 6) (v := .int v1) (C := RX6) (T := TX6) (N := 6) hx hb hts hiX6 hown hB.1 hP 0 rfl rfl 5 (by decide) (hts _ (List.mem_of_getElem? (i := 1) rfl)) (fun _ h9 => h9) rfl dX6_laidBackCount_1 ?_
  exact W.iret hx hb hr (fun t ht hW => ⟨⟨_, (), rfl, rfl, by rw [ht]; exact hP, hD⟩, hS.F ht⟩) hS.2.2 dX6_laidBackCount_4

def F_X6_dredgeRow (dg : Nat) : Int32 :=
  if (nI dg) ≤ 0 then (-1) else
  (nI dg) - 1
set_option maxHeartbeats 4000000 in
set_option maxRecDepth 100000 in
theorem c_X6_dredgeRow (l : Launch) {D : va_G} {cI cZ cB : ClassId} {au : Nat} {kA kV : Nat → Nat} {z0 : Nat} (sz : Nat) (h0 : Nat) (a1 : Nat) (a2 : Nat) (a3 : Nat) (a4 : Nat) (nr : Nat) (dg : Nat) (v1 : Int32) (fp : Nat → Int32) (fy : Nat → Int32) (fb : Nat → Int32) (fn : Nat → Int32)  : Met l yX6_dredgeRow wsX6_dredgeRow ({ frames := 0, cells := 0, slots := 0, locals := 0 }) (va_Pc [.ref h0] (PRE D cI cZ cB au kA kV z0 sz [(h0, .inr (6, [.ref a1, .ref a2, .ref a3, .ref a4, .int (nI dg), .int v1])), (a1, .inl (cI, nr, .inl fp)), (a2, .inl (cI, nr, .inl fy)), (a3, .inl (cZ, nr, .inl fb)), (a4, .inl (cZ, nr, .inl fn))])) (QI D [(h0, .inr (6, [.ref a1, .ref a2, .ref a3, .ref a4, .int (nI dg), .int v1])), (a1, .inl (cI, nr, .inl fp)), (a2, .inl (cI, nr, .inl fy)), (a3, .inl (cZ, nr, .inl fb)), (a4, .inl (cZ, nr, .inl fn))] sz (F_X6_dredgeRow dg) [(h0, .inr (6, [.ref a1, .ref a2, .ref a3, .ref a4, .int (nI dg), .int v1])), (a1, .inl (cI, nr, .inl fp)), (a2, .inl (cI, nr, .inl fy)), (a3, .inl (cZ, nr, .inl fb)), (a4, .inl (cZ, nr, .inl fn))]) 0 0 (va_A [(h0, .inr (6, [.ref a1, .ref a2, .ref a3, .ref a4, .int (nI dg), .int v1])), (a1, .inl (cI, nr, .inl fp)), (a2, .inl (cI, nr, .inl fy)), (a3, .inl (cZ, nr, .inl fb)), (a4, .inl (cZ, nr, .inl fn))] sz) := by
  refine Met.ofW (cc := cX6_dredgeRow) (maxL := 1) (ret := (some .int)) (by decide) rfl ?_
  intro p e s m args below meth c s₁ B hml hv
  obtain ⟨rfl, hsz, hz, hP, hD0, hB⟩ := hv
  have hx := B.exec
  have hb := B.bytes
  have hr := B.returns
  have hts := atoms_spec (ws := wsX6_dredgeRow) B.pre
  have hown : s.vm.findClass RX6 = some m.cls := findClass_of_methodNamed B.named
  have hlocks := B.notSynchronized
  subst hsz
  have hD := hD0.self (sz := s.heap.size)
  have hA0 := va_A0 hD0 hz
  unfold QI
  generalize hAe : va_A [(h0, .inr (6, [.ref a1, .ref a2, .ref a3, .ref a4, .int (nI dg), .int v1])), (a1, .inl (cI, nr, .inl fp)), (a2, .inl (cI, nr, .inl fy)), (a3, .inl (cZ, nr, .inl fb)), (a4, .inl (cZ, nr, .inl fn))] s.heap.size = A at hD hA0 ⊢
  have hA : ∀ q : Nat, s.heap.size ≤ q → A q := fun q h => by rw [← hAe]; exact Or.inr h
  have hS : va_S A s.heap s.heap [] := va_S.rf
  have hiX6 : ∀ w ∈ wsX60, w ∈ wsX6_dredgeRow := fun w h => List.mem_cons_of_mem _ (List.mem_append_right _ h)
  have hl := lv_entry ([.ref h0]) (n := 1) (Nat.le_of_ble_eq_true rfl)
  rw [lg_entry_eq]
  generalize (lg_sl ([.ref h0]) ++ List.replicate (1 - (lg_sl ([.ref h0])).length) Slot.unset).toArray = ls at hl ⊢
  have hl : lv_has ls 1 [(0, .ref h0)] := hl
  refine lv_aload_n hx hb dX6_dredgeRow_0 rfl (lv_at hl 0 rfl) ?_
  refine va_get (D := D) (ci := 6) (v := .int (nI dg)) (C := RX6) (T := TX6) (N := 6) hx hb hts hiX6 hown hB.1 hP 0 rfl rfl 4 (by decide) (hts _ (List.mem_of_getElem? (i := 1) rfl)) (fun _ h9 => h9) rfl dX6_dredgeRow_1 ?_
  refine lv_if_le (tgt := 16) hx hb dX6_dredgeRow_4 (by decide) (fun c_1 => ?_) (fun c_1 => ?_)
  · refine lv_iconst (v := (-1)) hx hb dX6_dredgeRow_16 (by decide) ?_
    have er : F_X6_dredgeRow dg = (-1) := by rw [F_X6_dredgeRow, if_pos c_1]
    exact W.iret hx hb hr (fun t ht hW => ⟨⟨_, (), rfl, er.symm, by rw [ht]; exact hP, hD⟩, hS.F ht⟩) hS.2.2 dX6_dredgeRow_17
  · refine lv_aload_n hx hb dX6_dredgeRow_7 rfl (lv_at hl 0 rfl) ?_
    refine va_get (D := D) (ci := 6) (v := .int (nI dg)) (C := RX6) (T := TX6) (N := 6) hx hb hts hiX6 hown hB.1 hP 0 rfl rfl 4 (by decide) (hts _ (List.mem_of_getElem? (i := 1) rfl)) (fun _ h9 => h9) rfl dX6_dredgeRow_8 ?_
    refine lv_iconst (v := 1) hx hb dX6_dredgeRow_11 (by decide) ?_
    refine lv_isub hx hb dX6_dredgeRow_12 ?_
    refine lv_goto (tgt := 17) hx hb dX6_dredgeRow_13 (by decide) ?_
    have er : F_X6_dredgeRow dg = (nI dg) - 1 := by rw [F_X6_dredgeRow, if_neg c_1]
    exact W.iret hx hb hr (fun t ht hW => ⟨⟨_, (), rfl, er.symm, by rw [ht]; exact hP, hD⟩, hS.F ht⟩) hS.2.2 dX6_dredgeRow_17

def F_X6_dredgePlace (dg : Nat) (fp : Nat → Int32) : Int32 :=
  if (nI dg) ≤ 0 then (-1) else
  fp (dg - 1)
set_option maxHeartbeats 4000000 in
set_option maxRecDepth 100000 in
theorem c_X6_dredgePlace (l : Launch) {D : va_G} {cI cZ cB : ClassId} {au : Nat} {kA kV : Nat → Nat} {z0 : Nat} (sz : Nat) (h0 : Nat) (a1 : Nat) (a2 : Nat) (a3 : Nat) (a4 : Nat) (nr : Nat) (dg : Nat) (v1 : Int32) (fp : Nat → Int32) (fy : Nat → Int32) (fb : Nat → Int32) (fn : Nat → Int32) (hnr : nr < 2 ^ 31) (hdg : dg ≤ nr) : Met l yX6_dredgePlace wsX6_dredgePlace ({ frames := 0, cells := 0, slots := 0, locals := 0 }) (va_Pc [.ref h0] (PRE D cI cZ cB au kA kV z0 sz [(h0, .inr (6, [.ref a1, .ref a2, .ref a3, .ref a4, .int (nI dg), .int v1])), (a1, .inl (cI, nr, .inl fp)), (a2, .inl (cI, nr, .inl fy)), (a3, .inl (cZ, nr, .inl fb)), (a4, .inl (cZ, nr, .inl fn))])) (QI D [(h0, .inr (6, [.ref a1, .ref a2, .ref a3, .ref a4, .int (nI dg), .int v1])), (a1, .inl (cI, nr, .inl fp)), (a2, .inl (cI, nr, .inl fy)), (a3, .inl (cZ, nr, .inl fb)), (a4, .inl (cZ, nr, .inl fn))] sz (F_X6_dredgePlace dg fp) [(h0, .inr (6, [.ref a1, .ref a2, .ref a3, .ref a4, .int (nI dg), .int v1])), (a1, .inl (cI, nr, .inl fp)), (a2, .inl (cI, nr, .inl fy)), (a3, .inl (cZ, nr, .inl fb)), (a4, .inl (cZ, nr, .inl fn))]) 0 0 (va_A [(h0, .inr (6, [.ref a1, .ref a2, .ref a3, .ref a4, .int (nI dg), .int v1])), (a1, .inl (cI, nr, .inl fp)), (a2, .inl (cI, nr, .inl fy)), (a3, .inl (cZ, nr, .inl fb)), (a4, .inl (cZ, nr, .inl fn))] sz) := by
  refine Met.ofW (cc := cX6_dredgePlace) (maxL := 1) (ret := (some .int)) (by decide) rfl ?_
  intro p e s m args below meth c s₁ B hml hv
  obtain ⟨rfl, hsz, hz, hP, hD0, hB⟩ := hv
  have hx := B.exec
  have hb := B.bytes
  have hr := B.returns
  have hts := atoms_spec (ws := wsX6_dredgePlace) B.pre
  have hown : s.vm.findClass RX6 = some m.cls := findClass_of_methodNamed B.named
  have hlocks := B.notSynchronized
  subst hsz
  have hD := hD0.self (sz := s.heap.size)
  have hA0 := va_A0 hD0 hz
  unfold QI
  generalize hAe : va_A [(h0, .inr (6, [.ref a1, .ref a2, .ref a3, .ref a4, .int (nI dg), .int v1])), (a1, .inl (cI, nr, .inl fp)), (a2, .inl (cI, nr, .inl fy)), (a3, .inl (cZ, nr, .inl fb)), (a4, .inl (cZ, nr, .inl fn))] s.heap.size = A at hD hA0 ⊢
  have hA : ∀ q : Nat, s.heap.size ≤ q → A q := fun q h => by rw [← hAe]; exact Or.inr h
  have hS : va_S A s.heap s.heap [] := va_S.rf
  have hiX6 : ∀ w ∈ wsX60, w ∈ wsX6_dredgePlace := fun w h => List.mem_cons_of_mem _ (List.mem_append_right _ h)
  have hl := lv_entry ([.ref h0]) (n := 1) (Nat.le_of_ble_eq_true rfl)
  rw [lg_entry_eq]
  generalize (lg_sl ([.ref h0]) ++ List.replicate (1 - (lg_sl ([.ref h0])).length) Slot.unset).toArray = ls at hl ⊢
  have hl : lv_has ls 1 [(0, .ref h0)] := hl
  refine lv_aload_n hx hb dX6_dredgePlace_0 rfl (lv_at hl 0 rfl) ?_
  refine va_get (D := D) (ci := 6) (v := .int (nI dg)) (C := RX6) (T := TX6) (N := 6) hx hb hts hiX6 hown hB.1 hP 0 rfl rfl 4 (by decide) (hts _ (List.mem_of_getElem? (i := 1) rfl)) (fun _ h9 => h9) rfl dX6_dredgePlace_1 ?_
  refine lv_if_le (tgt := 21) hx hb dX6_dredgePlace_4 (by decide) (fun c_1 => ?_) (fun c_1 => ?_)
  · refine lv_iconst (v := (-1)) hx hb dX6_dredgePlace_21 (by decide) ?_
    have er : F_X6_dredgePlace dg fp = (-1) := by rw [F_X6_dredgePlace, if_pos c_1]
    exact W.iret hx hb hr (fun t ht hW => ⟨⟨_, (), rfl, er.symm, by rw [ht]; exact hP, hD⟩, hS.F ht⟩) hS.2.2 dX6_dredgePlace_22
  · have hd1 := npos c_1
    refine lv_aload_n hx hb dX6_dredgePlace_7 rfl (lv_at hl 0 rfl) ?_
    refine va_get (D := D) (ci := 6) (v := .ref a1) (C := RX6) (T := TX6) (N := 6) hx hb hts hiX6 hown hB.1 hP 0 rfl rfl 0 (by decide) (hts _ (List.mem_of_getElem? (i := 2) rfl)) (fun _ h9 => h9) rfl dX6_dredgePlace_8 ?_
    refine lv_aload_n hx hb dX6_dredgePlace_11 rfl (lv_at hl 0 rfl) ?_
    refine va_get (D := D) (ci := 6) (v := .int (nI dg)) (C := RX6) (T := TX6) (N := 6) hx hb hts hiX6 hown hB.1 hP 0 rfl rfl 4 (by decide) (hts _ (List.mem_of_getElem? (i := 1) rfl)) (fun _ h9 => h9) rfl dX6_dredgePlace_12 ?_
    refine lv_iconst (v := 1) hx hb dX6_dredgePlace_15 (by decide) ?_
    refine lv_isub hx hb dX6_dredgePlace_16 ?_
    refine ra_i hx hb hB.1 hP 1 rfl (dg - 1) (nx_sub (b := 1) hd1 rfl rfl) (by omega) hnr dX6_dredgePlace_17 ?_
    refine lv_goto (tgt := 22) hx hb dX6_dredgePlace_18 (by decide) ?_
    have er : F_X6_dredgePlace dg fp = fp (dg - 1) := by rw [F_X6_dredgePlace, if_neg c_1]
    exact W.iret hx hb hr (fun t ht hW => ⟨⟨_, (), rfl, er.symm, by rw [ht]; exact hP, hD⟩, hS.F ht⟩) hS.2.2 dX6_dredgePlace_22

def F_X6_reaches (dg : Nat) (fp : Nat → Int32) (place : Int32) : Int32 :=
  if (nI dg) = 0 then 1 else
  if 1 < (if 0 ≤ (place - (F_X6_dredgePlace dg fp)) then (place - (F_X6_dredgePlace dg fp)) else 0 - (place - (F_X6_dredgePlace dg fp))) then 0 else
  1
set_option maxHeartbeats 4000000 in
set_option maxRecDepth 100000 in
theorem c_X6_reaches (l : Launch) {D : va_G} {cI cZ cB : ClassId} {au : Nat} {kA kV : Nat → Nat} {z0 : Nat} (sz : Nat) (h0 : Nat) (a1 : Nat) (a2 : Nat) (a3 : Nat) (a4 : Nat) (nr : Nat) (dg : Nat) (v1 : Int32) (fp : Nat → Int32) (fy : Nat → Int32) (fb : Nat → Int32) (fn : Nat → Int32) (place : Int32) (hnr : nr < 2 ^ 31) (hdg : dg ≤ nr) : Met l yX6_reaches wsX6_reaches ({ frames := 1, cells := 0, slots := 0, locals := 21 }) (va_Pc [.ref h0, .int place] (PRE D cI cZ cB au kA kV z0 sz [(h0, .inr (6, [.ref a1, .ref a2, .ref a3, .ref a4, .int (nI dg), .int v1])), (a1, .inl (cI, nr, .inl fp)), (a2, .inl (cI, nr, .inl fy)), (a3, .inl (cZ, nr, .inl fb)), (a4, .inl (cZ, nr, .inl fn))])) (QI D [(h0, .inr (6, [.ref a1, .ref a2, .ref a3, .ref a4, .int (nI dg), .int v1])), (a1, .inl (cI, nr, .inl fp)), (a2, .inl (cI, nr, .inl fy)), (a3, .inl (cZ, nr, .inl fb)), (a4, .inl (cZ, nr, .inl fn))] sz (F_X6_reaches dg fp place) [(h0, .inr (6, [.ref a1, .ref a2, .ref a3, .ref a4, .int (nI dg), .int v1])), (a1, .inl (cI, nr, .inl fp)), (a2, .inl (cI, nr, .inl fy)), (a3, .inl (cZ, nr, .inl fb)), (a4, .inl (cZ, nr, .inl fn))]) 0 0 (va_A [(h0, .inr (6, [.ref a1, .ref a2, .ref a3, .ref a4, .int (nI dg), .int v1])), (a1, .inl (cI, nr, .inl fp)), (a2, .inl (cI, nr, .inl fy)), (a3, .inl (cZ, nr, .inl fb)), (a4, .inl (cZ, nr, .inl fn))] sz) := by
  refine Met.ofW (cc := cX6_reaches) (maxL := 2) (ret := (some .boolean)) (by decide) rfl ?_
  intro p e s m args below meth c s₁ B hml hv
  obtain ⟨rfl, hsz, hz, hP, hD0, hB⟩ := hv
  have hx := B.exec
  have hb := B.bytes
  have hr := B.returns
  have hts := atoms_spec (ws := wsX6_reaches) B.pre
  have hown : s.vm.findClass RX6 = some m.cls := findClass_of_methodNamed B.named
  have hlocks := B.notSynchronized
  subst hsz
  have hD := hD0.self (sz := s.heap.size)
  have hA0 := va_A0 hD0 hz
  unfold QI
  generalize hAe : va_A [(h0, .inr (6, [.ref a1, .ref a2, .ref a3, .ref a4, .int (nI dg), .int v1])), (a1, .inl (cI, nr, .inl fp)), (a2, .inl (cI, nr, .inl fy)), (a3, .inl (cZ, nr, .inl fb)), (a4, .inl (cZ, nr, .inl fn))] s.heap.size = A at hD hA0 ⊢
  have hA : ∀ q : Nat, s.heap.size ≤ q → A q := fun q h => by rw [← hAe]; exact Or.inr h
  have hS : va_S A s.heap s.heap [] := va_S.rf
  have hiX6 : ∀ w ∈ wsX60, w ∈ wsX6_reaches := fun w h => List.mem_cons_of_mem _ (List.mem_append_right _ h)
  have hl := lv_entry ([.ref h0, .int place]) (n := 2) (Nat.le_of_ble_eq_true rfl)
  rw [lg_entry_eq]
  generalize (lg_sl ([.ref h0, .int place]) ++ List.replicate (2 - (lg_sl ([.ref h0, .int place])).length) Slot.unset).toArray = ls at hl ⊢
  have hl : lv_has ls 2 [(0, .ref h0), (1, .int place)] := hl
  refine lv_aload_n hx hb dX6_reaches_0 rfl (lv_at hl 0 rfl) ?_
  refine va_get (D := D) (ci := 6) (v := .int (nI dg)) (C := RX6) (T := TX6) (N := 6) hx hb hts hiX6 hown hB.1 hP 0 rfl rfl 4 (by decide) (hts _ (List.mem_of_getElem? (i := 1) rfl)) (fun _ h9 => h9) rfl dX6_reaches_1 ?_
  refine lv_if_eq (tgt := 20) hx hb dX6_reaches_4 (by decide) (fun c_1 => ?_) (fun c_1 => ?_)
  · refine lv_iconst (v := 1) hx hb dX6_reaches_20 (by decide) ?_
    refine lv_goto (tgt := 25) hx hb dX6_reaches_21 (by decide) ?_
    have er : F_X6_reaches dg fp place = 1 := by rw [F_X6_reaches, if_pos c_1]
    exact W.zret hx hb hr rfl (fun t ht hW => ⟨⟨_, (), rfl, er.symm, by rw [ht]; exact hP, hD⟩, hS.F ht⟩) hS.2.2 dX6_reaches_25
  · refine lv_iload_n hx hb dX6_reaches_7 rfl (lv_at hl 1 rfl) ?_
    refine lv_aload_n hx hb dX6_reaches_8 rfl (lv_at hl 0 rfl) ?_
    refine k_i (w2 := [(h0, .inr (6, [.ref a1, .ref a2, .ref a3, .ref a4, .int (nI dg), .int v1])), (a1, .inl (cI, nr, .inl fp)), (a2, .inl (cI, nr, .inl fy)), (a3, .inl (cZ, nr, .inl fb)), (a4, .inl (cZ, nr, .inl fn))]) (va_runV (As := []) (rest := [.int place]) ⟨hx, hb, hml, hown, hts⟩ (c_X6_dredgePlace l _ h0 a1 a2 a3 a4 nr dg v1 fp fy fb fn hnr hdg) (cwV 0 hts gX6_reaches_X6_dredgePlace rfl rfl rfl (by decide +kernel) ⟨Nat.le_of_ble_eq_true rfl, Nat.le_of_ble_eq_true rfl⟩) (pre_V (ci := 6) (q0 := 0) hB hz hA0 hP hD hS [0, 1, 2, 3, 4] rfl rfl rfl rfl rfl) rfl rfl hl.1 rfl (lv_room (Nat.le_of_ble_eq_true rfl)) dX6_reaches_9 ⟨Nat.zero_le _, Nat.zero_le _⟩) hP hD hS hA [0, 1, 2, 3, 4] [] [0, 1, 2, 3, 4] rfl rfl rfl rfl rfl (fun H locs hP hD hS => ?_)
    refine lv_isub hx hb dX6_reaches_12 ?_
    refine va_mabs hx hb (hml.trans hl.1.symm) hown (hts _ (List.mem_of_getElem? (i := 2) rfl)) (hts _ (List.mem_of_getElem? (i := 3) rfl)) (hts _ (List.mem_of_getElem? (i := 4) rfl)) (hts _ (List.mem_of_getElem? (i := 5) rfl)) (Nat.le_of_ble_eq_true rfl) (Nat.le_of_ble_eq_true rfl) (Nat.zero_le _) (Nat.zero_le _) dX6_reaches_13 ?_
    refine lv_iconst (v := 1) hx hb dX6_reaches_16 (by decide) ?_
    refine lv_icmp_gt (tgt := 24) hx hb dX6_reaches_17 (by decide) (fun c_2 => ?_) (fun c_2 => ?_)
    · refine lv_iconst (v := 0) hx hb dX6_reaches_24 (by decide) ?_
      have er : F_X6_reaches dg fp place = 0 := by rw [F_X6_reaches, if_neg c_1, if_pos c_2]
      exact W.zret hx hb hr rfl (fun t ht hW => ⟨⟨_, (), rfl, er.symm, by rw [ht]; exact hP, hD⟩, hS.F ht⟩) hS.2.2 dX6_reaches_25
    · refine lv_iconst (v := 1) hx hb dX6_reaches_20 (by decide) ?_
      refine lv_goto (tgt := 25) hx hb dX6_reaches_21 (by decide) ?_
      have er : F_X6_reaches dg fp place = 1 := by rw [F_X6_reaches, if_neg c_1, if_neg c_2]
      exact W.zret hx hb hr rfl (fun t ht hW => ⟨⟨_, (), rfl, er.symm, by rw [ht]; exact hP, hD⟩, hS.F ht⟩) hS.2.2 dX6_reaches_25

def F_X6_isDug (dg : Nat) (fp : Nat → Int32) (row : Int32) (place : Int32) : Int32 :=
  if (F_X7_within row 0 ((nI dg) - 1)) = 0 then 0 else
  if (fp row.toNatClampNeg) = place then 1 else
  0
set_option maxHeartbeats 4000000 in
set_option maxRecDepth 100000 in
theorem c_X6_isDug (l : Launch) {D : va_G} {cI cZ cB : ClassId} {au : Nat} {kA kV : Nat → Nat} {z0 : Nat} (sz : Nat) (h0 : Nat) (a1 : Nat) (a2 : Nat) (a3 : Nat) (a4 : Nat) (nr : Nat) (dg : Nat) (v1 : Int32) (fp : Nat → Int32) (fy : Nat → Int32) (fb : Nat → Int32) (fn : Nat → Int32) (row : Int32) (place : Int32) (hnr : nr < 2 ^ 31) (hdg : dg ≤ nr) : Met l yX6_isDug wsX6_isDug ({ frames := 1, cells := 0, slots := 0, locals := 22 }) (va_Pc [.ref h0, .int row, .int place] (PRE D cI cZ cB au kA kV z0 sz [(h0, .inr (6, [.ref a1, .ref a2, .ref a3, .ref a4, .int (nI dg), .int v1])), (a1, .inl (cI, nr, .inl fp)), (a2, .inl (cI, nr, .inl fy)), (a3, .inl (cZ, nr, .inl fb)), (a4, .inl (cZ, nr, .inl fn))])) (QI D [(h0, .inr (6, [.ref a1, .ref a2, .ref a3, .ref a4, .int (nI dg), .int v1])), (a1, .inl (cI, nr, .inl fp)), (a2, .inl (cI, nr, .inl fy)), (a3, .inl (cZ, nr, .inl fb)), (a4, .inl (cZ, nr, .inl fn))] sz (F_X6_isDug dg fp row place) [(h0, .inr (6, [.ref a1, .ref a2, .ref a3, .ref a4, .int (nI dg), .int v1])), (a1, .inl (cI, nr, .inl fp)), (a2, .inl (cI, nr, .inl fy)), (a3, .inl (cZ, nr, .inl fb)), (a4, .inl (cZ, nr, .inl fn))]) 0 0 (va_A [(h0, .inr (6, [.ref a1, .ref a2, .ref a3, .ref a4, .int (nI dg), .int v1])), (a1, .inl (cI, nr, .inl fp)), (a2, .inl (cI, nr, .inl fy)), (a3, .inl (cZ, nr, .inl fb)), (a4, .inl (cZ, nr, .inl fn))] sz) := by
  refine Met.ofW (cc := cX6_isDug) (maxL := 3) (ret := (some .boolean)) (by decide) rfl ?_
  intro p e s m args below meth c s₁ B hml hv
  obtain ⟨rfl, hsz, hz, hP, hD0, hB⟩ := hv
  have hx := B.exec
  have hb := B.bytes
  have hr := B.returns
  have hts := atoms_spec (ws := wsX6_isDug) B.pre
  have hown : s.vm.findClass RX6 = some m.cls := findClass_of_methodNamed B.named
  have hlocks := B.notSynchronized
  subst hsz
  have hD := hD0.self (sz := s.heap.size)
  have hA0 := va_A0 hD0 hz
  unfold QI
  generalize hAe : va_A [(h0, .inr (6, [.ref a1, .ref a2, .ref a3, .ref a4, .int (nI dg), .int v1])), (a1, .inl (cI, nr, .inl fp)), (a2, .inl (cI, nr, .inl fy)), (a3, .inl (cZ, nr, .inl fb)), (a4, .inl (cZ, nr, .inl fn))] s.heap.size = A at hD hA0 ⊢
  have hA : ∀ q : Nat, s.heap.size ≤ q → A q := fun q h => by rw [← hAe]; exact Or.inr h
  have hS : va_S A s.heap s.heap [] := va_S.rf
  have hiX6 : ∀ w ∈ wsX60, w ∈ wsX6_isDug := fun w h => List.mem_cons_of_mem _ (List.mem_append_right _ h)
  have hl := lv_entry ([.ref h0, .int row, .int place]) (n := 3) (Nat.le_of_ble_eq_true rfl)
  rw [lg_entry_eq]
  generalize (lg_sl ([.ref h0, .int row, .int place]) ++ List.replicate (3 - (lg_sl ([.ref h0, .int row, .int place])).length) Slot.unset).toArray = ls at hl ⊢
  have hl : lv_has ls 3 [(0, .ref h0), (1, .int row), (2, .int place)] := hl
  refine lv_iload_n hx hb dX6_isDug_0 rfl (lv_at hl 1 rfl) ?_
  refine lv_iconst (v := 0) hx hb dX6_isDug_1 (by decide) ?_
  refine lv_aload_n hx hb dX6_isDug_2 rfl (lv_at hl 0 rfl) ?_
  refine va_get (D := D) (ci := 6) (v := .int (nI dg)) (C := RX6) (T := TX6) (N := 6) hx hb hts hiX6 hown hB.1 hP 0 rfl rfl 4 (by decide) (hts _ (List.mem_of_getElem? (i := 1) rfl)) (fun _ h9 => h9) rfl dX6_isDug_3 ?_
  refine lv_iconst (v := 1) hx hb dX6_isDug_6 (by decide) ?_
  refine lv_isub hx hb dX6_isDug_7 ?_
  refine k_i (w2 := [(h0, .inr (6, [.ref a1, .ref a2, .ref a3, .ref a4, .int (nI dg), .int v1])), (a1, .inl (cI, nr, .inl fp)), (a2, .inl (cI, nr, .inl fy)), (a3, .inl (cZ, nr, .inl fb)), (a4, .inl (cZ, nr, .inl fn))]) (va_runSN (As := [.int row, .int 0, .int ((nI dg) - 1)]) (rest := []) ⟨hx, hb, hml, hown, hts⟩ (c_X7_within l _ row 0 ((nI dg) - 1)) ⟨va_cnB 3 hts gX6_isDug_X7_within_n42 rfl rfl rfl hB.2.1.2.2.2.2.2.1 (hts _ (List.mem_of_getElem? (i := 4) rfl)) (by decide +kernel) ⟨Nat.le_of_ble_eq_true rfl, Nat.le_of_ble_eq_true rfl⟩, hts _ (List.mem_of_getElem? (i := 3) rfl), trivial⟩ (pre_S hB hz hA0 hP hD hS [] rfl rfl) rfl rfl hl.1 rfl (lv_room (Nat.le_of_ble_eq_true rfl)) dX6_isDug_8 ⟨Nat.zero_le _, Nat.zero_le _⟩) hP hD hS hA [] [0, 1, 2, 3, 4] [0, 1, 2, 3, 4] rfl rfl rfl rfl rfl (fun H locs hP hD hS => ?_)
  refine lv_if_eq (tgt := 28) hx hb dX6_isDug_11 (by decide) (fun c_1 => ?_) (fun c_1 => ?_)
  · refine lv_iconst (v := 0) hx hb dX6_isDug_28 (by decide) ?_
    have er : F_X6_isDug dg fp row place = 0 := by rw [F_X6_isDug, if_pos c_1]
    exact W.zret hx hb hr rfl (fun t ht hW => ⟨⟨_, (), rfl, er.symm, by rw [ht]; exact hP, hD⟩, hS.F ht⟩) hS.2.2 dX6_isDug_29
  · obtain ⟨hm1, hm2⟩ := wn_ix (by omega) c_1
    refine lv_aload_n hx hb dX6_isDug_14 rfl (lv_at hl 0 rfl) ?_
    refine va_get (D := D) (ci := 6) (v := .ref a1) (C := RX6) (T := TX6) (N := 6) hx hb hts hiX6 hown hB.1 hP 0 rfl rfl 0 (by decide) (hts _ (List.mem_of_getElem? (i := 2) rfl)) (fun _ h9 => h9) rfl dX6_isDug_15 ?_
    refine lv_iload_n hx hb dX6_isDug_18 rfl (lv_at hl 1 rfl) ?_
    refine ra_i hx hb hB.1 hP 1 rfl row.toNatClampNeg hm1 (by omega) hnr dX6_isDug_19 ?_
    refine lv_iload_n hx hb dX6_isDug_20 rfl (lv_at hl 2 rfl) ?_
    refine lv_icmp_ne (tgt := 28) hx hb dX6_isDug_21 (by decide) (fun c_2 => ?_) (fun c_2 => ?_)
    · refine lv_iconst (v := 0) hx hb dX6_isDug_28 (by decide) ?_
      have er : F_X6_isDug dg fp row place = 0 := by rw [F_X6_isDug, if_neg c_1, if_neg c_2]
      exact W.zret hx hb hr rfl (fun t ht hW => ⟨⟨_, (), rfl, er.symm, by rw [ht]; exact hP, hD⟩, hS.F ht⟩) hS.2.2 dX6_isDug_29
    · refine lv_iconst (v := 1) hx hb dX6_isDug_24 (by decide) ?_
      refine lv_goto (tgt := 29) hx hb dX6_isDug_25 (by decide) ?_
      have er : F_X6_isDug dg fp row place = 1 := by rw [F_X6_isDug, if_neg c_1, if_pos c_2]
      exact W.zret hx hb hr rfl (fun t ht hW => ⟨⟨_, (), rfl, er.symm, by rw [ht]; exact hP, hD⟩, hS.F ht⟩) hS.2.2 dX6_isDug_29

theorem dug_ix {dg : Nat} {fp : Nat → Int32} {row place : Int32} (hn : dg < 2 ^ 31) (h : ¬ F_X6_isDug dg fp row place = 0) : row = nI row.toNatClampNeg ∧ row.toNatClampNeg < dg ∧ fp row.toNatClampNeg = place := by
  by_cases h1 : F_X7_within row 0 (nI dg - 1) = 0
  · exact absurd (by rw [F_X6_isDug, if_pos h1]) h
  · obtain ⟨g1, g2⟩ := wn_ix hn h1
    refine ⟨g1, g2, ?_⟩
    by_cases h2 : fp row.toNatClampNeg = place
    · exact h2
    · exact absurd (by rw [F_X6_isDug, if_neg h1, if_neg h2]) h
def F_X6_isLaidBack (dg : Nat) (fp : Nat → Int32) (fb : Nat → Int32) (row : Int32) (place : Int32) : Int32 :=
  if (F_X6_isDug dg fp row place) = 0 then 0 else
  if (fb row.toNatClampNeg) = 0 then 0 else
  1
set_option maxHeartbeats 4000000 in
set_option maxRecDepth 100000 in
theorem c_X6_isLaidBack (l : Launch) {D : va_G} {cI cZ cB : ClassId} {au : Nat} {kA kV : Nat → Nat} {z0 : Nat} (sz : Nat) (h0 : Nat) (a1 : Nat) (a2 : Nat) (a3 : Nat) (a4 : Nat) (nr : Nat) (dg : Nat) (v1 : Int32) (fp : Nat → Int32) (fy : Nat → Int32) (fb : Nat → Int32) (fn : Nat → Int32) (row : Int32) (place : Int32) (hnr : nr < 2 ^ 31) (hdg : dg ≤ nr) : Met l yX6_isLaidBack wsX6_isLaidBack ({ frames := 2, cells := 0, slots := 0, locals := 44 }) (va_Pc [.ref h0, .int row, .int place] (PRE D cI cZ cB au kA kV z0 sz [(h0, .inr (6, [.ref a1, .ref a2, .ref a3, .ref a4, .int (nI dg), .int v1])), (a1, .inl (cI, nr, .inl fp)), (a2, .inl (cI, nr, .inl fy)), (a3, .inl (cZ, nr, .inl fb)), (a4, .inl (cZ, nr, .inl fn))])) (QI D [(h0, .inr (6, [.ref a1, .ref a2, .ref a3, .ref a4, .int (nI dg), .int v1])), (a1, .inl (cI, nr, .inl fp)), (a2, .inl (cI, nr, .inl fy)), (a3, .inl (cZ, nr, .inl fb)), (a4, .inl (cZ, nr, .inl fn))] sz (F_X6_isLaidBack dg fp fb row place) [(h0, .inr (6, [.ref a1, .ref a2, .ref a3, .ref a4, .int (nI dg), .int v1])), (a1, .inl (cI, nr, .inl fp)), (a2, .inl (cI, nr, .inl fy)), (a3, .inl (cZ, nr, .inl fb)), (a4, .inl (cZ, nr, .inl fn))]) 0 0 (va_A [(h0, .inr (6, [.ref a1, .ref a2, .ref a3, .ref a4, .int (nI dg), .int v1])), (a1, .inl (cI, nr, .inl fp)), (a2, .inl (cI, nr, .inl fy)), (a3, .inl (cZ, nr, .inl fb)), (a4, .inl (cZ, nr, .inl fn))] sz) := by
  refine Met.ofW (cc := cX6_isLaidBack) (maxL := 3) (ret := (some .boolean)) (by decide) rfl ?_
  intro p e s m args below meth c s₁ B hml hv
  obtain ⟨rfl, hsz, hz, hP, hD0, hB⟩ := hv
  have hx := B.exec
  have hb := B.bytes
  have hr := B.returns
  have hts := atoms_spec (ws := wsX6_isLaidBack) B.pre
  have hown : s.vm.findClass RX6 = some m.cls := findClass_of_methodNamed B.named
  have hlocks := B.notSynchronized
  subst hsz
  have hD := hD0.self (sz := s.heap.size)
  have hA0 := va_A0 hD0 hz
  unfold QI
  generalize hAe : va_A [(h0, .inr (6, [.ref a1, .ref a2, .ref a3, .ref a4, .int (nI dg), .int v1])), (a1, .inl (cI, nr, .inl fp)), (a2, .inl (cI, nr, .inl fy)), (a3, .inl (cZ, nr, .inl fb)), (a4, .inl (cZ, nr, .inl fn))] s.heap.size = A at hD hA0 ⊢
  have hA : ∀ q : Nat, s.heap.size ≤ q → A q := fun q h => by rw [← hAe]; exact Or.inr h
  have hS : va_S A s.heap s.heap [] := va_S.rf
  have hiX6 : ∀ w ∈ wsX60, w ∈ wsX6_isLaidBack := fun w h => List.mem_cons_of_mem _ (List.mem_append_right _ h)
  have hl := lv_entry ([.ref h0, .int row, .int place]) (n := 3) (Nat.le_of_ble_eq_true rfl)
  rw [lg_entry_eq]
  generalize (lg_sl ([.ref h0, .int row, .int place]) ++ List.replicate (3 - (lg_sl ([.ref h0, .int row, .int place])).length) Slot.unset).toArray = ls at hl ⊢
  have hl : lv_has ls 3 [(0, .ref h0), (1, .int row), (2, .int place)] := hl
  refine lv_aload_n hx hb dX6_isLaidBack_0 rfl (lv_at hl 0 rfl) ?_
  refine lv_iload_n hx hb dX6_isLaidBack_1 rfl (lv_at hl 1 rfl) ?_
  refine lv_iload_n hx hb dX6_isLaidBack_2 rfl (lv_at hl 2 rfl) ?_
  refine k_i (w2 := [(h0, .inr (6, [.ref a1, .ref a2, .ref a3, .ref a4, .int (nI dg), .int v1])), (a1, .inl (cI, nr, .inl fp)), (a2, .inl (cI, nr, .inl fy)), (a3, .inl (cZ, nr, .inl fb)), (a4, .inl (cZ, nr, .inl fn))]) (va_runV (As := [.int row, .int place]) (rest := []) ⟨hx, hb, hml, hown, hts⟩ (c_X6_isDug l _ h0 a1 a2 a3 a4 nr dg v1 fp fy fb fn row place hnr hdg) (cwV 2 hts gX6_isLaidBack_X6_isDug rfl rfl rfl (by decide +kernel) ⟨Nat.le_of_ble_eq_true rfl, Nat.le_of_ble_eq_true rfl⟩) (pre_V (ci := 6) (q0 := 0) hB hz hA0 hP hD hS [0, 1, 2, 3, 4] rfl rfl rfl rfl rfl) rfl rfl hl.1 rfl (lv_room (Nat.le_of_ble_eq_true rfl)) dX6_isLaidBack_3 ⟨Nat.zero_le _, Nat.zero_le _⟩) hP hD hS hA [0, 1, 2, 3, 4] [] [0, 1, 2, 3, 4] rfl rfl rfl rfl rfl (fun H locs hP hD hS => ?_)
  refine lv_if_eq (tgt := 22) hx hb dX6_isLaidBack_6 (by decide) (fun c_1 => ?_) (fun c_1 => ?_)
  · refine lv_iconst (v := 0) hx hb dX6_isLaidBack_22 (by decide) ?_
    have er : F_X6_isLaidBack dg fp fb row place = 0 := by rw [F_X6_isLaidBack, if_pos c_1]
    exact W.zret hx hb hr rfl (fun t ht hW => ⟨⟨_, (), rfl, er.symm, by rw [ht]; exact hP, hD⟩, hS.F ht⟩) hS.2.2 dX6_isLaidBack_23
  · obtain ⟨hm1, hm2, hm3⟩ := dug_ix (by omega) c_1
    refine lv_aload_n hx hb dX6_isLaidBack_9 rfl (lv_at hl 0 rfl) ?_
    refine va_get (D := D) (ci := 6) (v := .ref a3) (C := RX6) (T := TX6) (N := 6) hx hb hts hiX6 hown hB.1 hP 0 rfl rfl 2 (by decide) (hts _ (List.mem_of_getElem? (i := 1) rfl)) (fun _ h9 => h9) rfl dX6_isLaidBack_10 ?_
    refine lv_iload_n hx hb dX6_isLaidBack_13 rfl (lv_at hl 1 rfl) ?_
    refine ra_z hx hb hB.1 hP 3 rfl row.toNatClampNeg hm1 (by omega) hnr dX6_isLaidBack_14 ?_
    refine lv_if_eq (tgt := 22) hx hb dX6_isLaidBack_15 (by decide) (fun c_2 => ?_) (fun c_2 => ?_)
    · refine lv_iconst (v := 0) hx hb dX6_isLaidBack_22 (by decide) ?_
      have er : F_X6_isLaidBack dg fp fb row place = 0 := by rw [F_X6_isLaidBack, if_neg c_1, if_pos c_2]
      exact W.zret hx hb hr rfl (fun t ht hW => ⟨⟨_, (), rfl, er.symm, by rw [ht]; exact hP, hD⟩, hS.F ht⟩) hS.2.2 dX6_isLaidBack_23
    · refine lv_iconst (v := 1) hx hb dX6_isLaidBack_18 (by decide) ?_
      refine lv_goto (tgt := 23) hx hb dX6_isLaidBack_19 (by decide) ?_
      have er : F_X6_isLaidBack dg fp fb row place = 1 := by rw [F_X6_isLaidBack, if_neg c_1, if_neg c_2]
      exact W.zret hx hb hr rfl (fun t ht hW => ⟨⟨_, (), rfl, er.symm, by rw [ht]; exact hP, hD⟩, hS.F ht⟩) hS.2.2 dX6_isLaidBack_23

def F_X6_layBack (dg : Nat) (fp : Nat → Int32) (fb : Nat → Int32) (row : Int32) (place : Int32) : Int32 :=
  if (F_X6_isDug dg fp row place) = 0 then 0 else
  if (fb row.toNatClampNeg) = 0 then (if 3 ≤ ((F_X6_dredgeRow dg) - row) then 1 else
    0) else
  0
def F_X6_layBack_0_5 (dg : Nat) (v1 : Int32) (fp : Nat → Int32) (fb : Nat → Int32) (row : Int32) (place : Int32) : Int32 :=
  if (F_X6_isDug dg fp row place) = 0 then v1 else
  if (fb row.toNatClampNeg) = 0 then (if 3 ≤ ((F_X6_dredgeRow dg) - row) then v1 + 1 else
    v1) else
  v1
def F_X6_layBack_3 (dg : Nat) (fp : Nat → Int32) (fb : Nat → Int32) (row : Int32) (place : Int32) : Nat → Int32 :=
  if (F_X6_isDug dg fp row place) = 0 then fb else
  if (fb row.toNatClampNeg) = 0 then (if 3 ≤ ((F_X6_dredgeRow dg) - row) then upd fb row.toNatClampNeg 1 else
    fb) else
  fb
set_option maxHeartbeats 4000000 in
set_option maxRecDepth 100000 in
theorem c_X6_layBack (l : Launch) {D : va_G} {cI cZ cB : ClassId} {au : Nat} {kA kV : Nat → Nat} {z0 : Nat} (sz : Nat) (h0 : Nat) (a1 : Nat) (a2 : Nat) (a3 : Nat) (a4 : Nat) (nr : Nat) (dg : Nat) (v1 : Int32) (fp : Nat → Int32) (fy : Nat → Int32) (fb : Nat → Int32) (fn : Nat → Int32) (row : Int32) (place : Int32) (hnr : nr < 2 ^ 31) (hdg : dg ≤ nr) : Met l yX6_layBack wsX6_layBack ({ frames := 2, cells := 0, slots := 0, locals := 44 }) (va_Pc [.ref h0, .int row, .int place] (PRE D cI cZ cB au kA kV z0 sz [(h0, .inr (6, [.ref a1, .ref a2, .ref a3, .ref a4, .int (nI dg), .int v1])), (a1, .inl (cI, nr, .inl fp)), (a2, .inl (cI, nr, .inl fy)), (a3, .inl (cZ, nr, .inl fb)), (a4, .inl (cZ, nr, .inl fn))])) (QI D [(h0, .inr (6, [.ref a1, .ref a2, .ref a3, .ref a4, .int (nI dg), .int v1])), (a1, .inl (cI, nr, .inl fp)), (a2, .inl (cI, nr, .inl fy)), (a3, .inl (cZ, nr, .inl fb)), (a4, .inl (cZ, nr, .inl fn))] sz (F_X6_layBack dg fp fb row place) [(h0, .inr (6, [.ref a1, .ref a2, .ref a3, .ref a4, .int (nI dg), .int (F_X6_layBack_0_5 dg v1 fp fb row place)])), (a1, .inl (cI, nr, .inl fp)), (a2, .inl (cI, nr, .inl fy)), (a3, .inl (cZ, nr, .inl (F_X6_layBack_3 dg fp fb row place))), (a4, .inl (cZ, nr, .inl fn))]) 0 0 (va_A [(h0, .inr (6, [.ref a1, .ref a2, .ref a3, .ref a4, .int (nI dg), .int v1])), (a1, .inl (cI, nr, .inl fp)), (a2, .inl (cI, nr, .inl fy)), (a3, .inl (cZ, nr, .inl fb)), (a4, .inl (cZ, nr, .inl fn))] sz) := by
  refine Met.ofW (cc := cX6_layBack) (maxL := 3) (ret := (some .boolean)) (by decide) rfl ?_
  intro p e s m args below meth c s₁ B hml hv
  obtain ⟨rfl, hsz, hz, hP, hD0, hB⟩ := hv
  have hx := B.exec
  have hb := B.bytes
  have hr := B.returns
  have hts := atoms_spec (ws := wsX6_layBack) B.pre
  have hown : s.vm.findClass RX6 = some m.cls := findClass_of_methodNamed B.named
  have hlocks := B.notSynchronized
  subst hsz
  have hD := hD0.self (sz := s.heap.size)
  have hA0 := va_A0 hD0 hz
  unfold QI
  generalize hAe : va_A [(h0, .inr (6, [.ref a1, .ref a2, .ref a3, .ref a4, .int (nI dg), .int v1])), (a1, .inl (cI, nr, .inl fp)), (a2, .inl (cI, nr, .inl fy)), (a3, .inl (cZ, nr, .inl fb)), (a4, .inl (cZ, nr, .inl fn))] s.heap.size = A at hD hA0 ⊢
  have hA : ∀ q : Nat, s.heap.size ≤ q → A q := fun q h => by rw [← hAe]; exact Or.inr h
  have hS : va_S A s.heap s.heap [] := va_S.rf
  have hiX6 : ∀ w ∈ wsX60, w ∈ wsX6_layBack := fun w h => List.mem_cons_of_mem _ (List.mem_append_right _ h)
  have hl := lv_entry ([.ref h0, .int row, .int place]) (n := 3) (Nat.le_of_ble_eq_true rfl)
  rw [lg_entry_eq]
  generalize (lg_sl ([.ref h0, .int row, .int place]) ++ List.replicate (3 - (lg_sl ([.ref h0, .int row, .int place])).length) Slot.unset).toArray = ls at hl ⊢
  have hl : lv_has ls 3 [(0, .ref h0), (1, .int row), (2, .int place)] := hl
  refine lv_aload_n hx hb dX6_layBack_0 rfl (lv_at hl 0 rfl) ?_
  refine lv_iload_n hx hb dX6_layBack_1 rfl (lv_at hl 1 rfl) ?_
  refine lv_iload_n hx hb dX6_layBack_2 rfl (lv_at hl 2 rfl) ?_
  refine k_i (w2 := [(h0, .inr (6, [.ref a1, .ref a2, .ref a3, .ref a4, .int (nI dg), .int v1])), (a1, .inl (cI, nr, .inl fp)), (a2, .inl (cI, nr, .inl fy)), (a3, .inl (cZ, nr, .inl fb)), (a4, .inl (cZ, nr, .inl fn))]) (va_runV (As := [.int row, .int place]) (rest := []) ⟨hx, hb, hml, hown, hts⟩ (c_X6_isDug l _ h0 a1 a2 a3 a4 nr dg v1 fp fy fb fn row place hnr hdg) (cwV 2 hts gX6_layBack_X6_isDug rfl rfl rfl (by decide +kernel) ⟨Nat.le_of_ble_eq_true rfl, Nat.le_of_ble_eq_true rfl⟩) (pre_V (ci := 6) (q0 := 0) hB hz hA0 hP hD hS [0, 1, 2, 3, 4] rfl rfl rfl rfl rfl) rfl rfl hl.1 rfl (lv_room (Nat.le_of_ble_eq_true rfl)) dX6_layBack_3 ⟨Nat.zero_le _, Nat.zero_le _⟩) hP hD hS hA [0, 1, 2, 3, 4] [] [0, 1, 2, 3, 4] rfl rfl rfl rfl rfl (fun H locs hP hD hS => ?_)
  refine lv_if_eq (tgt := 28) hx hb dX6_layBack_6 (by decide) (fun c_1 => ?_) (fun c_1 => ?_)
  · refine lv_iconst (v := 0) hx hb dX6_layBack_28 (by decide) ?_
    have er : F_X6_layBack dg fp fb row place = 0 := by rw [F_X6_layBack, if_pos c_1]
    have e0_5 : F_X6_layBack_0_5 dg v1 fp fb row place = v1 := by rw [F_X6_layBack_0_5, if_pos c_1]
    have e3 : F_X6_layBack_3 dg fp fb row place = fb := by rw [F_X6_layBack_3, if_pos c_1]
    exact W.zret hx hb hr rfl (fun t ht hW => ⟨⟨_, (), rfl, er.symm, by rw [ht, e0_5, e3]; exact hP, by rw [e0_5, e3]; exact hD⟩, hS.F ht⟩) hS.2.2 dX6_layBack_29
  · obtain ⟨hm1, hm2, hm3⟩ := dug_ix (by omega) c_1
    refine lv_aload_n hx hb dX6_layBack_9 rfl (lv_at hl 0 rfl) ?_
    refine va_get (D := D) (ci := 6) (v := .ref a3) (C := RX6) (T := TX6) (N := 6) hx hb hts hiX6 hown hB.1 hP 0 rfl rfl 2 (by decide) (hts _ (List.mem_of_getElem? (i := 1) rfl)) (fun _ h9 => h9) rfl dX6_layBack_10 ?_
    refine lv_iload_n hx hb dX6_layBack_13 rfl (lv_at hl 1 rfl) ?_
    refine ra_z hx hb hB.1 hP 3 rfl row.toNatClampNeg hm1 (by omega) hnr dX6_layBack_14 ?_
    refine lv_if_ne (tgt := 28) hx hb dX6_layBack_15 (by decide) (fun c_2 => ?_) (fun c_2 => ?_)
    · refine lv_iconst (v := 0) hx hb dX6_layBack_28 (by decide) ?_
      have er : F_X6_layBack dg fp fb row place = 0 := by rw [F_X6_layBack, if_neg c_1, if_neg c_2]
      have e0_5 : F_X6_layBack_0_5 dg v1 fp fb row place = v1 := by rw [F_X6_layBack_0_5, if_neg c_1, if_neg c_2]
      have e3 : F_X6_layBack_3 dg fp fb row place = fb := by rw [F_X6_layBack_3, if_neg c_1, if_neg c_2]
      exact W.zret hx hb hr rfl (fun t ht hW => ⟨⟨_, (), rfl, er.symm, by rw [ht, e0_5, e3]; exact hP, by rw [e0_5, e3]; exact hD⟩, hS.F ht⟩) hS.2.2 dX6_layBack_29
    · refine lv_aload_n hx hb dX6_layBack_18 rfl (lv_at hl 0 rfl) ?_
      refine k_i (w2 := [(h0, .inr (6, [.ref a1, .ref a2, .ref a3, .ref a4, .int (nI dg), .int v1])), (a1, .inl (cI, nr, .inl fp)), (a2, .inl (cI, nr, .inl fy)), (a3, .inl (cZ, nr, .inl fb)), (a4, .inl (cZ, nr, .inl fn))]) (va_runV (As := []) (rest := []) ⟨hx, hb, hml, hown, hts⟩ (c_X6_dredgeRow l _ h0 a1 a2 a3 a4 nr dg v1 fp fy fb fn) (cwV 0 hts gX6_layBack_X6_dredgeRow rfl rfl rfl (by decide +kernel) ⟨Nat.le_of_ble_eq_true rfl, Nat.le_of_ble_eq_true rfl⟩) (pre_V (ci := 6) (q0 := 0) hB hz hA0 hP hD hS [0, 1, 2, 3, 4] rfl rfl rfl rfl rfl) rfl rfl hl.1 rfl (lv_room (Nat.le_of_ble_eq_true rfl)) dX6_layBack_19 ⟨Nat.zero_le _, Nat.zero_le _⟩) hP hD hS hA [0, 1, 2, 3, 4] [] [0, 1, 2, 3, 4] rfl rfl rfl rfl rfl (fun H locs hP hD hS => ?_)
      refine lv_iload_n hx hb dX6_layBack_22 rfl (lv_at hl 1 rfl) ?_
      refine lv_isub hx hb dX6_layBack_23 ?_
      refine lv_iconst (v := 3) hx hb dX6_layBack_24 (by decide) ?_
      refine lv_icmp_ge (tgt := 30) hx hb dX6_layBack_25 (by decide) (fun c_3 => ?_) (fun c_3 => ?_)
      · refine lv_aload_n hx hb dX6_layBack_30 rfl (lv_at hl 0 rfl) ?_
        refine va_get (D := D) (ci := 6) (v := .ref a3) (C := RX6) (T := TX6) (N := 6) hx hb hts hiX6 hown hB.1 hP 0 rfl rfl 2 (by decide) (hts _ (List.mem_of_getElem? (i := 1) rfl)) (fun _ h9 => h9) rfl dX6_layBack_31 ?_
        refine lv_iload_n hx hb dX6_layBack_34 rfl (lv_at hl 1 rfl) ?_
        refine lv_iconst (v := 1) hx hb dX6_layBack_35 (by decide) ?_
        refine wa_z (w2 := [(h0, .inr (6, [.ref a1, .ref a2, .ref a3, .ref a4, .int (nI dg), .int v1])), (a1, .inl (cI, nr, .inl fp)), (a2, .inl (cI, nr, .inl fy)), (a3, .inl (cZ, nr, .inl (upd fb row.toNatClampNeg 1))), (a4, .inl (cZ, nr, .inl fn))]) hx hb hB.1 hP hD hS 3 rfl row.toNatClampNeg hm1 (by omega) hnr rfl dX6_layBack_36 rfl (fun H locs hP hD hS => ?_)
        refine lv_aload_n hx hb dX6_layBack_37 rfl (lv_at hl 0 rfl) ?_
        refine lv_dup hx hb dX6_layBack_38 rfl ?_
        refine va_get (D := D) (ci := 6) (v := .int v1) (C := RX6) (T := TX6) (N := 6) hx hb hts hiX6 hown hB.1 hP 0 rfl rfl 5 (by decide) (hts _ (List.mem_of_getElem? (i := 2) rfl)) (fun _ h9 => h9) rfl dX6_layBack_39 ?_
        refine lv_iconst (v := 1) hx hb dX6_layBack_42 (by decide) ?_
        refine lv_iadd hx hb dX6_layBack_43 ?_
        refine pf (w2 := [(h0, .inr (6, [.ref a1, .ref a2, .ref a3, .ref a4, .int (nI dg), .int (v1 + 1)])), (a1, .inl (cI, nr, .inl fp)), (a2, .inl (cI, nr, .inl fy)), (a3, .inl (cZ, nr, .inl (upd fb row.toNatClampNeg 1))), (a4, .inl (cZ, nr, .inl fn))]) (ci := 6) (C := RX6) (T := TX6) (N := 6) hx hb hts hiX6 tyX6 tyX6_ok nmX6 hown hB.1 hP hD hS 0 rfl rfl 5 (by decide) (hts _ (List.mem_of_getElem? (i := 2) rfl)) rfl rfl rfl rfl (Nat.le_of_ble_eq_true rfl) rfl dX6_layBack_44 (fun H locs hP hD hS => ?_)
        refine lv_iconst (v := 1) hx hb dX6_layBack_47 (by decide) ?_
        have er : F_X6_layBack dg fp fb row place = 1 := by rw [F_X6_layBack, if_neg c_1, if_pos c_2, if_pos c_3]
        have e0_5 : F_X6_layBack_0_5 dg v1 fp fb row place = v1 + 1 := by rw [F_X6_layBack_0_5, if_neg c_1, if_pos c_2, if_pos c_3]
        have e3 : F_X6_layBack_3 dg fp fb row place = upd fb row.toNatClampNeg 1 := by rw [F_X6_layBack_3, if_neg c_1, if_pos c_2, if_pos c_3]
        exact W.zret hx hb hr rfl (fun t ht hW => ⟨⟨_, (), rfl, er.symm, by rw [ht, e0_5, e3]; exact hP, by rw [e0_5, e3]; exact hD⟩, hS.F ht⟩) hS.2.2 dX6_layBack_48
      · refine lv_iconst (v := 0) hx hb dX6_layBack_28 (by decide) ?_
        have er : F_X6_layBack dg fp fb row place = 0 := by rw [F_X6_layBack, if_neg c_1, if_pos c_2, if_neg c_3]
        have e0_5 : F_X6_layBack_0_5 dg v1 fp fb row place = v1 := by rw [F_X6_layBack_0_5, if_neg c_1, if_pos c_2, if_neg c_3]
        have e3 : F_X6_layBack_3 dg fp fb row place = fb := by rw [F_X6_layBack_3, if_neg c_1, if_pos c_2, if_neg c_3]
        exact W.zret hx hb hr rfl (fun t ht hW => ⟨⟨_, (), rfl, er.symm, by rw [ht, e0_5, e3]; exact hP, by rw [e0_5, e3]; exact hD⟩, hS.F ht⟩) hS.2.2 dX6_layBack_29

set_option maxHeartbeats 4000000 in
set_option maxRecDepth 100000 in
theorem c_X6_goTo (l : Launch) {D : va_G} {cI cZ cB : ClassId} {au : Nat} {kA kV : Nat → Nat} {z0 : Nat} (sz : Nat) (h0 : Nat) (a1 : Nat) (a2 : Nat) (a3 : Nat) (a4 : Nat) (nr : Nat) (dg : Nat) (v1 : Int32) (fp : Nat → Int32) (fy : Nat → Int32) (fb : Nat → Int32) (fn : Nat → Int32) (place : Int32) (day : Int32) (hnr : nr < 2 ^ 31) (hdg : dg ≤ nr) (hlt : dg < nr) : Met l yX6_goTo wsX6_goTo ({ frames := 0, cells := 0, slots := 0, locals := 0 }) (va_Pc [.ref h0, .int place, .int day] (PRE D cI cZ cB au kA kV z0 sz [(h0, .inr (6, [.ref a1, .ref a2, .ref a3, .ref a4, .int (nI dg), .int v1])), (a1, .inl (cI, nr, .inl fp)), (a2, .inl (cI, nr, .inl fy)), (a3, .inl (cZ, nr, .inl fb)), (a4, .inl (cZ, nr, .inl fn))])) (QV D [(h0, .inr (6, [.ref a1, .ref a2, .ref a3, .ref a4, .int (nI dg), .int v1])), (a1, .inl (cI, nr, .inl fp)), (a2, .inl (cI, nr, .inl fy)), (a3, .inl (cZ, nr, .inl fb)), (a4, .inl (cZ, nr, .inl fn))] sz [(h0, .inr (6, [.ref a1, .ref a2, .ref a3, .ref a4, .int (nI (dg + 1)), .int v1])), (a1, .inl (cI, nr, .inl (upd fp dg place))), (a2, .inl (cI, nr, .inl (upd fy dg day))), (a3, .inl (cZ, nr, .inl fb)), (a4, .inl (cZ, nr, .inl fn))]) 0 0 (va_A [(h0, .inr (6, [.ref a1, .ref a2, .ref a3, .ref a4, .int (nI dg), .int v1])), (a1, .inl (cI, nr, .inl fp)), (a2, .inl (cI, nr, .inl fy)), (a3, .inl (cZ, nr, .inl fb)), (a4, .inl (cZ, nr, .inl fn))] sz) := by
  refine Met.ofW (cc := cX6_goTo) (maxL := 3) (ret := none) (by decide) rfl ?_
  intro p e s m args below meth c s₁ B hml hv
  obtain ⟨rfl, hsz, hz, hP, hD0, hB⟩ := hv
  have hx := B.exec
  have hb := B.bytes
  have hr := B.returns
  have hts := atoms_spec (ws := wsX6_goTo) B.pre
  have hown : s.vm.findClass RX6 = some m.cls := findClass_of_methodNamed B.named
  have hlocks := B.notSynchronized
  subst hsz
  have hD := hD0.self (sz := s.heap.size)
  have hA0 := va_A0 hD0 hz
  unfold QV
  generalize hAe : va_A [(h0, .inr (6, [.ref a1, .ref a2, .ref a3, .ref a4, .int (nI dg), .int v1])), (a1, .inl (cI, nr, .inl fp)), (a2, .inl (cI, nr, .inl fy)), (a3, .inl (cZ, nr, .inl fb)), (a4, .inl (cZ, nr, .inl fn))] s.heap.size = A at hD hA0 ⊢
  have hA : ∀ q : Nat, s.heap.size ≤ q → A q := fun q h => by rw [← hAe]; exact Or.inr h
  have hS : va_S A s.heap s.heap [] := va_S.rf
  have hiX6 : ∀ w ∈ wsX60, w ∈ wsX6_goTo := fun w h => List.mem_cons_of_mem _ (List.mem_append_right _ h)
  have hl := lv_entry ([.ref h0, .int place, .int day]) (n := 3) (Nat.le_of_ble_eq_true rfl)
  rw [lg_entry_eq]
  generalize (lg_sl ([.ref h0, .int place, .int day]) ++ List.replicate (3 - (lg_sl ([.ref h0, .int place, .int day])).length) Slot.unset).toArray = ls at hl ⊢
  have hl : lv_has ls 3 [(0, .ref h0), (1, .int place), (2, .int day)] := hl
  refine lv_aload_n hx hb dX6_goTo_0 rfl (lv_at hl 0 rfl) ?_
  refine va_get (D := D) (ci := 6) (v := .int (nI dg)) (C := RX6) (T := TX6) (N := 6) hx hb hts hiX6 hown hB.1 hP 0 rfl rfl 4 (by decide) (hts _ (List.mem_of_getElem? (i := 1) rfl)) (fun _ h9 => h9) rfl dX6_goTo_1 ?_
  refine lv_aload_n hx hb dX6_goTo_4 rfl (lv_at hl 0 rfl) ?_
  refine va_get (D := D) (ci := 6) (v := .ref a1) (C := RX6) (T := TX6) (N := 6) hx hb hts hiX6 hown hB.1 hP 0 rfl rfl 0 (by decide) (hts _ (List.mem_of_getElem? (i := 2) rfl)) (fun _ h9 => h9) rfl dX6_goTo_5 ?_
  refine va_alen (v := nI nr) hx hb hB.1 hP 1 0 rfl rfl rfl dX6_goTo_8 ?_
  refine lv_icmp_ge (tgt := 42) hx hb dX6_goTo_9 (by decide) (fun c_1 => ?_) (fun c_1 => ?_)
  · exact absurd c_1 (nI_ge hlt hnr)
  · refine lv_aload_n hx hb dX6_goTo_12 rfl (lv_at hl 0 rfl) ?_
    refine va_get (D := D) (ci := 6) (v := .ref a1) (C := RX6) (T := TX6) (N := 6) hx hb hts hiX6 hown hB.1 hP 0 rfl rfl 0 (by decide) (hts _ (List.mem_of_getElem? (i := 2) rfl)) (fun _ h9 => h9) rfl dX6_goTo_13 ?_
    refine lv_aload_n hx hb dX6_goTo_16 rfl (lv_at hl 0 rfl) ?_
    refine va_get (D := D) (ci := 6) (v := .int (nI dg)) (C := RX6) (T := TX6) (N := 6) hx hb hts hiX6 hown hB.1 hP 0 rfl rfl 4 (by decide) (hts _ (List.mem_of_getElem? (i := 1) rfl)) (fun _ h9 => h9) rfl dX6_goTo_17 ?_
    refine lv_iload_n hx hb dX6_goTo_20 rfl (lv_at hl 1 rfl) ?_
    refine wa_i (w2 := [(h0, .inr (6, [.ref a1, .ref a2, .ref a3, .ref a4, .int (nI dg), .int v1])), (a1, .inl (cI, nr, .inl (upd fp dg place))), (a2, .inl (cI, nr, .inl fy)), (a3, .inl (cZ, nr, .inl fb)), (a4, .inl (cZ, nr, .inl fn))]) hx hb hB.1 hP hD hS 1 rfl dg rfl hlt hnr dX6_goTo_21 rfl (fun H locs hP hD hS => ?_)
    refine lv_aload_n hx hb dX6_goTo_22 rfl (lv_at hl 0 rfl) ?_
    refine va_get (D := D) (ci := 6) (v := .ref a2) (C := RX6) (T := TX6) (N := 6) hx hb hts hiX6 hown hB.1 hP 0 rfl rfl 1 (by decide) (hts _ (List.mem_of_getElem? (i := 3) rfl)) (fun _ h9 => h9) rfl dX6_goTo_23 ?_
    refine lv_aload_n hx hb dX6_goTo_26 rfl (lv_at hl 0 rfl) ?_
    refine va_get (D := D) (ci := 6) (v := .int (nI dg)) (C := RX6) (T := TX6) (N := 6) hx hb hts hiX6 hown hB.1 hP 0 rfl rfl 4 (by decide) (hts _ (List.mem_of_getElem? (i := 1) rfl)) (fun _ h9 => h9) rfl dX6_goTo_27 ?_
    refine lv_iload_n hx hb dX6_goTo_30 rfl (lv_at hl 2 rfl) ?_
    refine wa_i (w2 := [(h0, .inr (6, [.ref a1, .ref a2, .ref a3, .ref a4, .int (nI dg), .int v1])), (a1, .inl (cI, nr, .inl (upd fp dg place))), (a2, .inl (cI, nr, .inl (upd fy dg day))), (a3, .inl (cZ, nr, .inl fb)), (a4, .inl (cZ, nr, .inl fn))]) hx hb hB.1 hP hD hS 2 rfl dg rfl hlt hnr dX6_goTo_31 rfl (fun H locs hP hD hS => ?_)
    refine lv_aload_n hx hb dX6_goTo_32 rfl (lv_at hl 0 rfl) ?_
    refine lv_dup hx hb dX6_goTo_33 rfl ?_
    refine va_get (D := D) (ci := 6) (v := .int (nI dg)) (C := RX6) (T := TX6) (N := 6) hx hb hts hiX6 hown hB.1 hP 0 rfl rfl 4 (by decide) (hts _ (List.mem_of_getElem? (i := 1) rfl)) (fun _ h9 => h9) rfl dX6_goTo_34 ?_
    refine lv_iconst (v := 1) hx hb dX6_goTo_37 (by decide) ?_
    refine lv_iadd hx hb dX6_goTo_38 ?_
    rw [show (nI dg) + 1 = nI (dg + 1) from (nx_add rfl rfl)]
    refine pf (w2 := [(h0, .inr (6, [.ref a1, .ref a2, .ref a3, .ref a4, .int (nI (dg + 1)), .int v1])), (a1, .inl (cI, nr, .inl (upd fp dg place))), (a2, .inl (cI, nr, .inl (upd fy dg day))), (a3, .inl (cZ, nr, .inl fb)), (a4, .inl (cZ, nr, .inl fn))]) (ci := 6) (C := RX6) (T := TX6) (N := 6) hx hb hts hiX6 tyX6 tyX6_ok nmX6 hown hB.1 hP hD hS 0 rfl rfl 4 (by decide) (hts _ (List.mem_of_getElem? (i := 1) rfl)) rfl rfl rfl rfl (Nat.le_of_ble_eq_true rfl) rfl dX6_goTo_39 (fun H locs hP hD hS => ?_)
    exact W.vret hx hb hr (fun t ht hW => ⟨⟨(), rfl, trivial, by rw [ht]; exact hP, hD⟩, hS.F ht⟩) hS.2.2 dX6_goTo_42

def F_X6_fineAll_L4 (fy : Nat → Int32) (fb : Nat → Int32) (day : Int32) (t : Nat) (s_ : Int32 × (Nat → Int32)) : Int32 × (Nat → Int32) :=
    if day ≤ (fy t) then ((s_.1, s_.2)) else
    if (fb t) = 0 then (if (s_.2 t) = 0 then ((s_.1 + 1, upd s_.2 t 1)) else
    (s_.1, s_.2)) else
    (s_.1, s_.2)
set_option maxHeartbeats 4000000 in
set_option maxRecDepth 100000 in
theorem c_X6_fineAll (l : Launch) {D : va_G} {cI cZ cB : ClassId} {au : Nat} {kA kV : Nat → Nat} {z0 : Nat} (sz : Nat) (h0 : Nat) (a1 : Nat) (a2 : Nat) (a3 : Nat) (a4 : Nat) (nr : Nat) (dg : Nat) (v1 : Int32) (fp : Nat → Int32) (fy : Nat → Int32) (fb : Nat → Int32) (fn : Nat → Int32) (day : Int32) (hnr : nr < 2 ^ 31) (hdg : dg ≤ nr) : Met l yX6_fineAll wsX6_fineAll ({ frames := 0, cells := 0, slots := 0, locals := 0 }) (va_Pc [.ref h0, .int day] (PRE D cI cZ cB au kA kV z0 sz [(h0, .inr (6, [.ref a1, .ref a2, .ref a3, .ref a4, .int (nI dg), .int v1])), (a1, .inl (cI, nr, .inl fp)), (a2, .inl (cI, nr, .inl fy)), (a3, .inl (cZ, nr, .inl fb)), (a4, .inl (cZ, nr, .inl fn))])) (QI D [(h0, .inr (6, [.ref a1, .ref a2, .ref a3, .ref a4, .int (nI dg), .int v1])), (a1, .inl (cI, nr, .inl fp)), (a2, .inl (cI, nr, .inl fy)), (a3, .inl (cZ, nr, .inl fb)), (a4, .inl (cZ, nr, .inl fn))] sz ((lp (F_X6_fineAll_L4 fy fb day) dg (0, fn)).1) [(h0, .inr (6, [.ref a1, .ref a2, .ref a3, .ref a4, .int (nI dg), .int v1])), (a1, .inl (cI, nr, .inl fp)), (a2, .inl (cI, nr, .inl fy)), (a3, .inl (cZ, nr, .inl fb)), (a4, .inl (cZ, nr, .inl ((lp (F_X6_fineAll_L4 fy fb day) dg (0, fn)).2)))]) 0 0 (va_A [(h0, .inr (6, [.ref a1, .ref a2, .ref a3, .ref a4, .int (nI dg), .int v1])), (a1, .inl (cI, nr, .inl fp)), (a2, .inl (cI, nr, .inl fy)), (a3, .inl (cZ, nr, .inl fb)), (a4, .inl (cZ, nr, .inl fn))] sz) := by
  refine Met.ofW (cc := cX6_fineAll) (maxL := 4) (ret := (some .int)) (by decide) rfl ?_
  intro p e s m args below meth c s₁ B hml hv
  obtain ⟨rfl, hsz, hz, hP, hD0, hB⟩ := hv
  have hx := B.exec
  have hb := B.bytes
  have hr := B.returns
  have hts := atoms_spec (ws := wsX6_fineAll) B.pre
  have hown : s.vm.findClass RX6 = some m.cls := findClass_of_methodNamed B.named
  have hlocks := B.notSynchronized
  subst hsz
  have hD := hD0.self (sz := s.heap.size)
  have hA0 := va_A0 hD0 hz
  unfold QI
  generalize hAe : va_A [(h0, .inr (6, [.ref a1, .ref a2, .ref a3, .ref a4, .int (nI dg), .int v1])), (a1, .inl (cI, nr, .inl fp)), (a2, .inl (cI, nr, .inl fy)), (a3, .inl (cZ, nr, .inl fb)), (a4, .inl (cZ, nr, .inl fn))] s.heap.size = A at hD hA0 ⊢
  have hA : ∀ q : Nat, s.heap.size ≤ q → A q := fun q h => by rw [← hAe]; exact Or.inr h
  have hS : va_S A s.heap s.heap [] := va_S.rf
  have hiX6 : ∀ w ∈ wsX60, w ∈ wsX6_fineAll := fun w h => List.mem_cons_of_mem _ (List.mem_append_right _ h)
  have hl := lv_entry ([.ref h0, .int day]) (n := 4) (Nat.le_of_ble_eq_true rfl)
  rw [lg_entry_eq]
  generalize (lg_sl ([.ref h0, .int day]) ++ List.replicate (4 - (lg_sl ([.ref h0, .int day])).length) Slot.unset).toArray = ls at hl ⊢
  have hl : lv_has ls 4 [(0, .ref h0), (1, .int day)] := hl
  refine lv_iconst (v := 0) hx hb dX6_fineAll_0 (by decide) ?_
  refine lv_istore_n (lv' := [(2, .int 0), (0, .ref h0), (1, .int day)]) hx hb dX6_fineAll_1 rfl hl (by decide) rfl (fun ls hl => ?_)
  refine lv_iconst (v := 0) hx hb dX6_fineAll_2 (by decide) ?_
  refine lv_istore_n (lv' := [(3, .int 0), (2, .int 0), (0, .ref h0), (1, .int day)]) hx hb dX6_fineAll_3 rfl hl (by decide) rfl (fun ls hl => ?_)
  refine lpM (σ := Nat) (fun t => t ≤ dg) (fun t => dg - t) (fun t => [(h0, .inr (6, [.ref a1, .ref a2, .ref a3, .ref a4, .int (nI dg), .int v1])), (a1, .inl (cI, nr, .inl fp)), (a2, .inl (cI, nr, .inl fy)), (a3, .inl (cZ, nr, .inl fb)), (a4, .inl (cZ, nr, .inl ((lp (F_X6_fineAll_L4 fy fb day) t (0, fn)).2)))]) (fun t => [(3, .int (nI t)), (2, .int ((lp (F_X6_fineAll_L4 fy fb day) t (0, fn)).1)), (0, .ref h0), (1, .int day)]) 0 (Nat.zero_le _) hP hD hS (lv_sub hl [0, 1, 2, 3] rfl) ?_
  intro t h_t ih_t H locs ls hP hD hS hl
  have hP : va_P D vwCl [(h0, .inr (6, [.ref a1, .ref a2, .ref a3, .ref a4, .int (nI dg), .int v1])), (a1, .inl (cI, nr, .inl fp)), (a2, .inl (cI, nr, .inl fy)), (a3, .inl (cZ, nr, .inl fb)), (a4, .inl (cZ, nr, .inl ((lp (F_X6_fineAll_L4 fy fb day) t (0, fn)).2)))] H := hP
  have hD : va_D A [(h0, .inr (6, [.ref a1, .ref a2, .ref a3, .ref a4, .int (nI dg), .int v1])), (a1, .inl (cI, nr, .inl fp)), (a2, .inl (cI, nr, .inl fy)), (a3, .inl (cZ, nr, .inl fb)), (a4, .inl (cZ, nr, .inl ((lp (F_X6_fineAll_L4 fy fb day) t (0, fn)).2)))] := hD
  have hl : lv_has ls 4 [(3, .int (nI t)), (2, .int ((lp (F_X6_fineAll_L4 fy fb day) t (0, fn)).1)), (0, .ref h0), (1, .int day)] := hl
  generalize hs_t : lp (F_X6_fineAll_L4 fy fb day) t (0, fn) = sv1 at hP hD hl
  refine lv_iload_n hx hb dX6_fineAll_4 rfl (lv_at hl 0 rfl) ?_
  refine lv_aload_n hx hb dX6_fineAll_5 rfl (lv_at hl 2 rfl) ?_
  refine va_get (D := D) (ci := 6) (v := .int (nI dg)) (C := RX6) (T := TX6) (N := 6) hx hb hts hiX6 hown hB.1 hP 0 rfl rfl 4 (by decide) (hts _ (List.mem_of_getElem? (i := 1) rfl)) (fun _ h9 => h9) rfl dX6_fineAll_6 ?_
  refine lv_icmp_ge (tgt := 56) hx hb dX6_fineAll_9 (by decide) (fun c_2 => ?_) (fun c_2 => ?_)
  · have hx_t : dg = t := Eq.symm (le_ex (by omega) h_t c_2)
    subst hx_t
    subst hs_t
    refine lv_iload_n hx hb dX6_fineAll_56 rfl (lv_at hl 1 rfl) ?_
    exact W.iret hx hb hr (fun t ht hW => ⟨⟨_, (), rfl, rfl, by rw [ht]; exact hP, hD⟩, hS.F ht⟩) hS.2.2 dX6_fineAll_57
  · have hlt_t : t < dg := le_go (by omega) h_t c_2
    refine lv_aload_n hx hb dX6_fineAll_12 rfl (lv_at hl 2 rfl) ?_
    refine va_get (D := D) (ci := 6) (v := .ref a2) (C := RX6) (T := TX6) (N := 6) hx hb hts hiX6 hown hB.1 hP 0 rfl rfl 1 (by decide) (hts _ (List.mem_of_getElem? (i := 2) rfl)) (fun _ h9 => h9) rfl dX6_fineAll_13 ?_
    refine lv_iload_n hx hb dX6_fineAll_16 rfl (lv_at hl 0 rfl) ?_
    refine ra_i hx hb hB.1 hP 2 rfl t rfl (by omega) hnr dX6_fineAll_17 ?_
    refine lv_iload_n hx hb dX6_fineAll_18 rfl (lv_at hl 3 rfl) ?_
    refine lv_icmp_ge (tgt := 50) hx hb dX6_fineAll_19 (by decide) (fun c_3 => ?_) (fun c_3 => ?_)
    · refine lv_iinc (v := nI (t + 1)) (lv' := [(3, .int (nI (t + 1))), (2, .int sv1.1), (0, .ref h0), (1, .int day)]) hx hb dX6_fineAll_50 hl (k := 0) rfl (nI_1 _) (by decide) rfl (fun ls hl => ?_)
      refine lv_goto (tgt := 4) hx hb dX6_fineAll_53 (by decide) ?_
      have e_step : F_X6_fineAll_L4 fy fb day t sv1 = (sv1.1, sv1.2) := by rw [F_X6_fineAll_L4, if_pos c_3]
      have hP2 : va_P D vwCl [(h0, .inr (6, [.ref a1, .ref a2, .ref a3, .ref a4, .int (nI dg), .int v1])), (a1, .inl (cI, nr, .inl fp)), (a2, .inl (cI, nr, .inl fy)), (a3, .inl (cZ, nr, .inl fb)), (a4, .inl (cZ, nr, .inl ((F_X6_fineAll_L4 fy fb day t sv1).2)))] H := by rw [e_step]; exact hP
      have hD2 : va_D A [(h0, .inr (6, [.ref a1, .ref a2, .ref a3, .ref a4, .int (nI dg), .int v1])), (a1, .inl (cI, nr, .inl fp)), (a2, .inl (cI, nr, .inl fy)), (a3, .inl (cZ, nr, .inl fb)), (a4, .inl (cZ, nr, .inl ((F_X6_fineAll_L4 fy fb day t sv1).2)))] := by rw [e_step]; exact hD
      have hl2 : lv_has ls 4 [(3, .int (nI (t + 1))), (2, .int ((F_X6_fineAll_L4 fy fb day t sv1).1)), (0, .ref h0), (1, .int day)] := by rw [e_step]; exact lv_sub hl [0, 1, 2, 3] rfl
      subst hs_t
      exact ih_t (t + 1) (by omega) (by omega) _ _ _ hP2 hD2 hS hl2
    · refine lv_aload_n hx hb dX6_fineAll_22 rfl (lv_at hl 2 rfl) ?_
      refine va_get (D := D) (ci := 6) (v := .ref a3) (C := RX6) (T := TX6) (N := 6) hx hb hts hiX6 hown hB.1 hP 0 rfl rfl 2 (by decide) (hts _ (List.mem_of_getElem? (i := 3) rfl)) (fun _ h9 => h9) rfl dX6_fineAll_23 ?_
      refine lv_iload_n hx hb dX6_fineAll_26 rfl (lv_at hl 0 rfl) ?_
      refine ra_z hx hb hB.1 hP 3 rfl t rfl (by omega) hnr dX6_fineAll_27 ?_
      refine lv_if_ne (tgt := 50) hx hb dX6_fineAll_28 (by decide) (fun c_4 => ?_) (fun c_4 => ?_)
      · refine lv_iinc (v := nI (t + 1)) (lv' := [(3, .int (nI (t + 1))), (2, .int sv1.1), (0, .ref h0), (1, .int day)]) hx hb dX6_fineAll_50 hl (k := 0) rfl (nI_1 _) (by decide) rfl (fun ls hl => ?_)
        refine lv_goto (tgt := 4) hx hb dX6_fineAll_53 (by decide) ?_
        have e_step : F_X6_fineAll_L4 fy fb day t sv1 = (sv1.1, sv1.2) := by rw [F_X6_fineAll_L4, if_neg c_3, if_neg c_4]
        have hP2 : va_P D vwCl [(h0, .inr (6, [.ref a1, .ref a2, .ref a3, .ref a4, .int (nI dg), .int v1])), (a1, .inl (cI, nr, .inl fp)), (a2, .inl (cI, nr, .inl fy)), (a3, .inl (cZ, nr, .inl fb)), (a4, .inl (cZ, nr, .inl ((F_X6_fineAll_L4 fy fb day t sv1).2)))] H := by rw [e_step]; exact hP
        have hD2 : va_D A [(h0, .inr (6, [.ref a1, .ref a2, .ref a3, .ref a4, .int (nI dg), .int v1])), (a1, .inl (cI, nr, .inl fp)), (a2, .inl (cI, nr, .inl fy)), (a3, .inl (cZ, nr, .inl fb)), (a4, .inl (cZ, nr, .inl ((F_X6_fineAll_L4 fy fb day t sv1).2)))] := by rw [e_step]; exact hD
        have hl2 : lv_has ls 4 [(3, .int (nI (t + 1))), (2, .int ((F_X6_fineAll_L4 fy fb day t sv1).1)), (0, .ref h0), (1, .int day)] := by rw [e_step]; exact lv_sub hl [0, 1, 2, 3] rfl
        subst hs_t
        exact ih_t (t + 1) (by omega) (by omega) _ _ _ hP2 hD2 hS hl2
      · refine lv_aload_n hx hb dX6_fineAll_31 rfl (lv_at hl 2 rfl) ?_
        refine va_get (D := D) (ci := 6) (v := .ref a4) (C := RX6) (T := TX6) (N := 6) hx hb hts hiX6 hown hB.1 hP 0 rfl rfl 3 (by decide) (hts _ (List.mem_of_getElem? (i := 4) rfl)) (fun _ h9 => h9) rfl dX6_fineAll_32 ?_
        refine lv_iload_n hx hb dX6_fineAll_35 rfl (lv_at hl 0 rfl) ?_
        refine ra_z hx hb hB.1 hP 4 rfl t rfl (by omega) hnr dX6_fineAll_36 ?_
        refine lv_if_ne (tgt := 50) hx hb dX6_fineAll_37 (by decide) (fun c_5 => ?_) (fun c_5 => ?_)
        · refine lv_iinc (v := nI (t + 1)) (lv' := [(3, .int (nI (t + 1))), (2, .int sv1.1), (0, .ref h0), (1, .int day)]) hx hb dX6_fineAll_50 hl (k := 0) rfl (nI_1 _) (by decide) rfl (fun ls hl => ?_)
          refine lv_goto (tgt := 4) hx hb dX6_fineAll_53 (by decide) ?_
          have e_step : F_X6_fineAll_L4 fy fb day t sv1 = (sv1.1, sv1.2) := by rw [F_X6_fineAll_L4, if_neg c_3, if_pos c_4, if_neg c_5]
          have hP2 : va_P D vwCl [(h0, .inr (6, [.ref a1, .ref a2, .ref a3, .ref a4, .int (nI dg), .int v1])), (a1, .inl (cI, nr, .inl fp)), (a2, .inl (cI, nr, .inl fy)), (a3, .inl (cZ, nr, .inl fb)), (a4, .inl (cZ, nr, .inl ((F_X6_fineAll_L4 fy fb day t sv1).2)))] H := by rw [e_step]; exact hP
          have hD2 : va_D A [(h0, .inr (6, [.ref a1, .ref a2, .ref a3, .ref a4, .int (nI dg), .int v1])), (a1, .inl (cI, nr, .inl fp)), (a2, .inl (cI, nr, .inl fy)), (a3, .inl (cZ, nr, .inl fb)), (a4, .inl (cZ, nr, .inl ((F_X6_fineAll_L4 fy fb day t sv1).2)))] := by rw [e_step]; exact hD
          have hl2 : lv_has ls 4 [(3, .int (nI (t + 1))), (2, .int ((F_X6_fineAll_L4 fy fb day t sv1).1)), (0, .ref h0), (1, .int day)] := by rw [e_step]; exact lv_sub hl [0, 1, 2, 3] rfl
          subst hs_t
          exact ih_t (t + 1) (by omega) (by omega) _ _ _ hP2 hD2 hS hl2
        · refine lv_aload_n hx hb dX6_fineAll_40 rfl (lv_at hl 2 rfl) ?_
          refine va_get (D := D) (ci := 6) (v := .ref a4) (C := RX6) (T := TX6) (N := 6) hx hb hts hiX6 hown hB.1 hP 0 rfl rfl 3 (by decide) (hts _ (List.mem_of_getElem? (i := 4) rfl)) (fun _ h9 => h9) rfl dX6_fineAll_41 ?_
          refine lv_iload_n hx hb dX6_fineAll_44 rfl (lv_at hl 0 rfl) ?_
          refine lv_iconst (v := 1) hx hb dX6_fineAll_45 (by decide) ?_
          refine wa_z (w2 := [(h0, .inr (6, [.ref a1, .ref a2, .ref a3, .ref a4, .int (nI dg), .int v1])), (a1, .inl (cI, nr, .inl fp)), (a2, .inl (cI, nr, .inl fy)), (a3, .inl (cZ, nr, .inl fb)), (a4, .inl (cZ, nr, .inl (upd sv1.2 t 1)))]) hx hb hB.1 hP hD hS 4 rfl t rfl (by omega) hnr rfl dX6_fineAll_46 rfl (fun H locs hP hD hS => ?_)
          refine lv_iinc (v := sv1.1 + 1) (lv' := [(2, .int (sv1.1 + 1)), (3, .int (nI t)), (0, .ref h0), (1, .int day)]) hx hb dX6_fineAll_47 hl (k := 1) rfl rfl (by decide) rfl (fun ls hl => ?_)
          refine lv_iinc (v := nI (t + 1)) (lv' := [(3, .int (nI (t + 1))), (2, .int (sv1.1 + 1)), (0, .ref h0), (1, .int day)]) hx hb dX6_fineAll_50 hl (k := 1) rfl (nI_1 _) (by decide) rfl (fun ls hl => ?_)
          refine lv_goto (tgt := 4) hx hb dX6_fineAll_53 (by decide) ?_
          have e_step : F_X6_fineAll_L4 fy fb day t sv1 = (sv1.1 + 1, upd sv1.2 t 1) := by rw [F_X6_fineAll_L4, if_neg c_3, if_pos c_4, if_pos c_5]
          have hP2 : va_P D vwCl [(h0, .inr (6, [.ref a1, .ref a2, .ref a3, .ref a4, .int (nI dg), .int v1])), (a1, .inl (cI, nr, .inl fp)), (a2, .inl (cI, nr, .inl fy)), (a3, .inl (cZ, nr, .inl fb)), (a4, .inl (cZ, nr, .inl ((F_X6_fineAll_L4 fy fb day t sv1).2)))] H := by rw [e_step]; exact hP
          have hD2 : va_D A [(h0, .inr (6, [.ref a1, .ref a2, .ref a3, .ref a4, .int (nI dg), .int v1])), (a1, .inl (cI, nr, .inl fp)), (a2, .inl (cI, nr, .inl fy)), (a3, .inl (cZ, nr, .inl fb)), (a4, .inl (cZ, nr, .inl ((F_X6_fineAll_L4 fy fb day t sv1).2)))] := by rw [e_step]; exact hD
          have hl2 : lv_has ls 4 [(3, .int (nI (t + 1))), (2, .int ((F_X6_fineAll_L4 fy fb day t sv1).1)), (0, .ref h0), (1, .int day)] := by rw [e_step]; exact lv_sub hl [0, 1, 2, 3] rfl
          subst hs_t
          exact ih_t (t + 1) (by omega) (by omega) _ _ _ hP2 hD2 hS hl2

set_option maxHeartbeats 4000000 in
set_option maxRecDepth 100000 in
theorem c_X5_charge (l : Launch) {D : va_G} {cI cZ cB : ClassId} {au : Nat} {kA kV : Nat → Nat} {z0 : Nat} (sz : Nat) (h0 : Nat) (a1 : Nat) (nr : Nat) (np : Nat) (pr : Int32) (su : Nat → Int32) (c2 : Int32)  : Met l yX5_charge wsX5_charge ({ frames := 0, cells := 0, slots := 0, locals := 0 }) (va_Pc [.ref h0, .int c2] (PRE D cI cZ cB au kA kV z0 sz [(h0, .inr (5, [.int (nI nr), .int (nI np), .ref a1, .int pr])), (a1, .inl (cI, nr * np, .inl su))])) (QV D [(h0, .inr (5, [.int (nI nr), .int (nI np), .ref a1, .int pr])), (a1, .inl (cI, nr * np, .inl su))] sz [(h0, .inr (5, [.int (nI nr), .int (nI np), .ref a1, .int c2])), (a1, .inl (cI, nr * np, .inl su))]) 0 0 (va_A [(h0, .inr (5, [.int (nI nr), .int (nI np), .ref a1, .int pr])), (a1, .inl (cI, nr * np, .inl su))] sz) := by
  refine Met.ofW (cc := cX5_charge) (maxL := 2) (ret := none) (by decide) rfl ?_
  intro p e s m args below meth c s₁ B hml hv
  obtain ⟨rfl, hsz, hz, hP, hD0, hB⟩ := hv
  have hx := B.exec
  have hb := B.bytes
  have hr := B.returns
  have hts := atoms_spec (ws := wsX5_charge) B.pre
  have hown : s.vm.findClass RX5 = some m.cls := findClass_of_methodNamed B.named
  have hlocks := B.notSynchronized
  subst hsz
  have hD := hD0.self (sz := s.heap.size)
  have hA0 := va_A0 hD0 hz
  unfold QV
  generalize hAe : va_A [(h0, .inr (5, [.int (nI nr), .int (nI np), .ref a1, .int pr])), (a1, .inl (cI, nr * np, .inl su))] s.heap.size = A at hD hA0 ⊢
  have hA : ∀ q : Nat, s.heap.size ≤ q → A q := fun q h => by rw [← hAe]; exact Or.inr h
  have hS : va_S A s.heap s.heap [] := va_S.rf
  have hiX5 : ∀ w ∈ wsX50, w ∈ wsX5_charge := fun w h => List.mem_cons_of_mem _ (List.mem_append_right _ h)
  have hl := lv_entry ([.ref h0, .int c2]) (n := 2) (Nat.le_of_ble_eq_true rfl)
  rw [lg_entry_eq]
  generalize (lg_sl ([.ref h0, .int c2]) ++ List.replicate (2 - (lg_sl ([.ref h0, .int c2])).length) Slot.unset).toArray = ls at hl ⊢
  have hl : lv_has ls 2 [(0, .ref h0), (1, .int c2)] := hl
  refine lv_aload_n hx hb dX5_charge_0 rfl (lv_at hl 0 rfl) ?_
  refine lv_iload_n hx hb dX5_charge_1 rfl (lv_at hl 1 rfl) ?_
  refine pf (w2 := [(h0, .inr (5, [.int (nI nr), .int (nI np), .ref a1, .int c2])), (a1, .inl (cI, nr * np, .inl su))]) (ci := 5) (C := RX5) (T := TX5) (N := 4) hx hb hts hiX5 tyX5 tyX5_ok nmX5 hown hB.1 hP hD hS 0 rfl rfl 3 (by decide) (hts _ (List.mem_of_getElem? (i := 1) rfl)) rfl rfl rfl rfl (Nat.le_of_ble_eq_true rfl) rfl dX5_charge_2 (fun H locs hP hD hS => ?_)
  exact W.vret hx hb hr (fun t ht hW => ⟨⟨(), rfl, trivial, by rw [ht]; exact hP, hD⟩, hS.F ht⟩) hS.2.2 dX5_charge_5

set_option maxHeartbeats 4000000 in
set_option maxRecDepth 100000 in
theorem c_X5_sumFrom (l : Launch) {D : va_G} {cI cZ cB : ClassId} {au : Nat} {kA kV : Nat → Nat} {z0 : Nat} (sz : Nat) (h0 : Nat) (a1 : Nat) (nr : Nat) (np : Nat) (pr : Int32) (su : Nat → Int32) (row : Int32) (place : Int32) (i : Nat) (j : Nat) (hlen : nr * np < 2 ^ 31) (e_i : row = nI i) (e_j : place = nI j) (hi : i < nr) (hj : j < np) : Met l yX5_sumFrom wsX5_sumFrom ({ frames := 0, cells := 0, slots := 0, locals := 0 }) (va_Pc [.ref h0, .int row, .int place] (PRE D cI cZ cB au kA kV z0 sz [(h0, .inr (5, [.int (nI nr), .int (nI np), .ref a1, .int pr])), (a1, .inl (cI, nr * np, .inl su))])) (QI D [(h0, .inr (5, [.int (nI nr), .int (nI np), .ref a1, .int pr])), (a1, .inl (cI, nr * np, .inl su))] sz (su ((i * np) + j)) [(h0, .inr (5, [.int (nI nr), .int (nI np), .ref a1, .int pr])), (a1, .inl (cI, nr * np, .inl su))]) 0 0 (va_A [(h0, .inr (5, [.int (nI nr), .int (nI np), .ref a1, .int pr])), (a1, .inl (cI, nr * np, .inl su))] sz) := by
  refine Met.ofW (cc := cX5_sumFrom) (maxL := 3) (ret := (some .int)) (by decide) rfl ?_
  intro p e s m args below meth c s₁ B hml hv
  obtain ⟨rfl, hsz, hz, hP, hD0, hB⟩ := hv
  have hx := B.exec
  have hb := B.bytes
  have hr := B.returns
  have hts := atoms_spec (ws := wsX5_sumFrom) B.pre
  have hown : s.vm.findClass RX5 = some m.cls := findClass_of_methodNamed B.named
  have hlocks := B.notSynchronized
  subst hsz
  have hD := hD0.self (sz := s.heap.size)
  have hA0 := va_A0 hD0 hz
  unfold QI
  generalize hAe : va_A [(h0, .inr (5, [.int (nI nr), .int (nI np), .ref a1, .int pr])), (a1, .inl (cI, nr * np, .inl su))] s.heap.size = A at hD hA0 ⊢
  have hA : ∀ q : Nat, s.heap.size ≤ q → A q := fun q h => by rw [← hAe]; exact Or.inr h
  have hS : va_S A s.heap s.heap [] := va_S.rf
  have hiX5 : ∀ w ∈ wsX50, w ∈ wsX5_sumFrom := fun w h => List.mem_cons_of_mem _ (List.mem_append_right _ h)
  have hl := lv_entry ([.ref h0, .int row, .int place]) (n := 3) (Nat.le_of_ble_eq_true rfl)
  rw [lg_entry_eq]
  generalize (lg_sl ([.ref h0, .int row, .int place]) ++ List.replicate (3 - (lg_sl ([.ref h0, .int row, .int place])).length) Slot.unset).toArray = ls at hl ⊢
  have hl : lv_has ls 3 [(0, .ref h0), (1, .int row), (2, .int place)] := hl
  refine lv_aload_n hx hb dX5_sumFrom_0 rfl (lv_at hl 0 rfl) ?_
  refine va_get (D := D) (ci := 5) (v := .ref a1) (C := RX5) (T := TX5) (N := 4) hx hb hts hiX5 hown hB.1 hP 0 rfl rfl 2 (by decide) (hts _ (List.mem_of_getElem? (i := 1) rfl)) (fun _ h9 => h9) rfl dX5_sumFrom_1 ?_
  refine lv_iload_n hx hb dX5_sumFrom_4 rfl (lv_at hl 1 rfl) ?_
  refine lv_aload_n hx hb dX5_sumFrom_5 rfl (lv_at hl 0 rfl) ?_
  refine va_get (D := D) (ci := 5) (v := .int (nI np)) (C := RX5) (T := TX5) (N := 4) hx hb hts hiX5 hown hB.1 hP 0 rfl rfl 1 (by decide) (hts _ (List.mem_of_getElem? (i := 2) rfl)) (fun _ h9 => h9) rfl dX5_sumFrom_6 ?_
  refine lv_imul hx hb dX5_sumFrom_9 ?_
  refine lv_iload_n hx hb dX5_sumFrom_10 rfl (lv_at hl 2 rfl) ?_
  refine lv_iadd hx hb dX5_sumFrom_11 ?_
  refine ra_i hx hb hB.1 hP 1 rfl ((i * np) + j) (nx_add (nx_mul e_i rfl) e_j) (ix2 hi hj) hlen dX5_sumFrom_12 ?_
  exact W.iret hx hb hr (fun t ht hW => ⟨⟨_, (), rfl, rfl, by rw [ht]; exact hP, hD⟩, hS.F ht⟩) hS.2.2 dX5_sumFrom_13

def F_X5_bestOf_L8 (np : Nat) (su : Nat → Int32) (i : Nat) (fo : Nat) (t : Nat) (s_ : Nat) : Nat :=
    if (su ((i * np) + (fo + 1 + t))) ≤ (su ((i * np) + s_)) then (s_) else
    fo + 1 + t
def F_X5_bestOf (np : Nat) (su : Nat → Int32) (i : Nat) (fo : Nat) (u : Nat) : Nat :=
  (lp (F_X5_bestOf_L8 np su i fo) (u - fo) fo)
set_option maxHeartbeats 4000000 in
set_option maxRecDepth 100000 in
theorem c_X5_bestOf (l : Launch) {D : va_G} {cI cZ cB : ClassId} {au : Nat} {kA kV : Nat → Nat} {z0 : Nat} (sz : Nat) (h0 : Nat) (a1 : Nat) (nr : Nat) (np : Nat) (pr : Int32) (su : Nat → Int32) (row : Int32) (i : Nat) (fo : Nat) (u : Nat) (hlen : nr * np < 2 ^ 31) (hnp : np < 2 ^ 30) (e_i : row = nI i) (hi : i < nr) (hfu : fo ≤ u) (hu : u < np) : Met l yX5_bestOf wsX5_bestOf ({ frames := 1, cells := 0, slots := 0, locals := 22 }) (va_Pc [.ref h0, .int row, .int (nI fo), .int (nI u)] (PRE D cI cZ cB au kA kV z0 sz [(h0, .inr (5, [.int (nI nr), .int (nI np), .ref a1, .int pr])), (a1, .inl (cI, nr * np, .inl su))])) (QI D [(h0, .inr (5, [.int (nI nr), .int (nI np), .ref a1, .int pr])), (a1, .inl (cI, nr * np, .inl su))] sz (nI (F_X5_bestOf np su i fo u)) [(h0, .inr (5, [.int (nI nr), .int (nI np), .ref a1, .int pr])), (a1, .inl (cI, nr * np, .inl su))]) 0 0 (va_A [(h0, .inr (5, [.int (nI nr), .int (nI np), .ref a1, .int pr])), (a1, .inl (cI, nr * np, .inl su))] sz) := by
  refine Met.ofW (cc := cX5_bestOf) (maxL := 6) (ret := (some .int)) (by decide) rfl ?_
  intro p e s m args below meth c s₁ B hml hv
  obtain ⟨rfl, hsz, hz, hP, hD0, hB⟩ := hv
  have hx := B.exec
  have hb := B.bytes
  have hr := B.returns
  have hts := atoms_spec (ws := wsX5_bestOf) B.pre
  have hown : s.vm.findClass RX5 = some m.cls := findClass_of_methodNamed B.named
  have hlocks := B.notSynchronized
  subst hsz
  have hD := hD0.self (sz := s.heap.size)
  have hA0 := va_A0 hD0 hz
  unfold QI
  generalize hAe : va_A [(h0, .inr (5, [.int (nI nr), .int (nI np), .ref a1, .int pr])), (a1, .inl (cI, nr * np, .inl su))] s.heap.size = A at hD hA0 ⊢
  have hA : ∀ q : Nat, s.heap.size ≤ q → A q := fun q h => by rw [← hAe]; exact Or.inr h
  have hS : va_S A s.heap s.heap [] := va_S.rf
  have hl := lv_entry ([.ref h0, .int row, .int (nI fo), .int (nI u)]) (n := 6) (Nat.le_of_ble_eq_true rfl)
  rw [lg_entry_eq]
  generalize (lg_sl ([.ref h0, .int row, .int (nI fo), .int (nI u)]) ++ List.replicate (6 - (lg_sl ([.ref h0, .int row, .int (nI fo), .int (nI u)])).length) Slot.unset).toArray = ls at hl ⊢
  have hl : lv_has ls 6 [(0, .ref h0), (1, .int row), (2, .int (nI fo)), (3, .int (nI u))] := hl
  refine lv_iload_n hx hb dX5_bestOf_0 rfl (lv_at hl 2 rfl) ?_
  refine lv_istore (lv' := [(4, .int (nI fo)), (0, .ref h0), (1, .int row), (2, .int (nI fo)), (3, .int (nI u))]) hx hb dX5_bestOf_1 hl (by decide) rfl (fun ls hl => ?_)
  refine lv_iload_n hx hb dX5_bestOf_3 rfl (lv_at hl 3 rfl) ?_
  refine lv_iconst (v := 1) hx hb dX5_bestOf_4 (by decide) ?_
  refine lv_iadd hx hb dX5_bestOf_5 ?_
  rw [show (nI fo) + 1 = nI (fo + 1) from (nx_add rfl rfl)]
  refine lv_istore (lv' := [(5, .int (nI (fo + 1))), (4, .int (nI fo)), (0, .ref h0), (1, .int row), (2, .int (nI fo)), (3, .int (nI u))]) hx hb dX5_bestOf_6 hl (by decide) rfl (fun ls hl => ?_)
  refine lpM (σ := Nat) (fun t => t ≤ u - fo) (fun t => (u - fo) - t) (fun t => [(h0, .inr (5, [.int (nI nr), .int (nI np), .ref a1, .int pr])), (a1, .inl (cI, nr * np, .inl su))]) (fun t => [(5, .int (nI (fo + 1 + t))), (4, .int (nI (lp (F_X5_bestOf_L8 np su i fo) t fo))), (0, .ref h0), (1, .int row), (2, .int (nI fo)), (3, .int (nI u))]) 0 (Nat.zero_le _) hP hD hS (lv_sub hl [0, 1, 2, 3, 4, 5] rfl) ?_
  intro t h_t ih_t H locs ls hP hD hS hl
  have hP : va_P D vwCl [(h0, .inr (5, [.int (nI nr), .int (nI np), .ref a1, .int pr])), (a1, .inl (cI, nr * np, .inl su))] H := hP
  have hD : va_D A [(h0, .inr (5, [.int (nI nr), .int (nI np), .ref a1, .int pr])), (a1, .inl (cI, nr * np, .inl su))] := hD
  have hl : lv_has ls 6 [(5, .int (nI (fo + 1 + t))), (4, .int (nI (lp (F_X5_bestOf_L8 np su i fo) t fo))), (0, .ref h0), (1, .int row), (2, .int (nI fo)), (3, .int (nI u))] := hl
  generalize hs_t : lp (F_X5_bestOf_L8 np su i fo) t fo = sv1 at hl
  have hbu : sv1 ≤ u := by rw [← hs_t]; exact lp_inv (P := fun z => z ≤ u) (n := u - fo) (fun k z hk hz => by unfold F_X5_bestOf_L8; split <;> omega) hfu t h_t
  refine lv_iload hx hb dX5_bestOf_8 (lv_at hl 0 rfl) ?_
  refine lv_iload_n hx hb dX5_bestOf_10 rfl (lv_at hl 5 rfl) ?_
  refine lv_icmp_gt (tgt := 41) hx hb dX5_bestOf_11 (by decide) (fun c_2 => ?_) (fun c_2 => ?_)
  · have hx_t : u - fo = t := Eq.symm (lt_ex2 (by omega) hfu h_t c_2)
    subst hx_t
    subst hs_t
    refine lv_iload hx hb dX5_bestOf_41 (lv_at hl 1 rfl) ?_
    have er : nI (F_X5_bestOf np su i fo u) = nI (lp (F_X5_bestOf_L8 np su i fo) (u - fo) fo) := by rw [F_X5_bestOf]
    exact W.iret hx hb hr (fun t ht hW => ⟨⟨_, (), rfl, (er.trans rfl.symm).symm, by rw [ht]; exact hP, hD⟩, hS.F ht⟩) hS.2.2 dX5_bestOf_43
  · have hlt_t : t < u - fo := lt_go2 (by omega) hfu h_t c_2
    refine lv_aload_n hx hb dX5_bestOf_14 rfl (lv_at hl 2 rfl) ?_
    refine lv_iload_n hx hb dX5_bestOf_15 rfl (lv_at hl 3 rfl) ?_
    refine lv_iload hx hb dX5_bestOf_16 (lv_at hl 0 rfl) ?_
    refine k_i (w2 := [(h0, .inr (5, [.int (nI nr), .int (nI np), .ref a1, .int pr])), (a1, .inl (cI, nr * np, .inl su))]) (va_runV (As := [.int row, .int (nI (fo + 1 + t))]) (rest := []) ⟨hx, hb, hml, hown, hts⟩ (c_X5_sumFrom l _ h0 a1 nr np pr su row (nI (fo + 1 + t)) i (fo + 1 + t) hlen e_i rfl hi (by omega)) (cwV 2 hts gX5_bestOf_X5_sumFrom rfl rfl rfl (by decide +kernel) ⟨Nat.le_of_ble_eq_true rfl, Nat.le_of_ble_eq_true rfl⟩) (pre_V (ci := 5) (q0 := 0) hB hz hA0 hP hD hS [0, 1] rfl rfl rfl rfl rfl) rfl rfl hl.1 rfl (lv_room (Nat.le_of_ble_eq_true rfl)) dX5_bestOf_18 ⟨Nat.zero_le _, Nat.zero_le _⟩) hP hD hS hA [0, 1] [] [0, 1] rfl rfl rfl rfl rfl (fun H locs hP hD hS => ?_)
    refine lv_aload_n hx hb dX5_bestOf_21 rfl (lv_at hl 2 rfl) ?_
    refine lv_iload_n hx hb dX5_bestOf_22 rfl (lv_at hl 3 rfl) ?_
    refine lv_iload hx hb dX5_bestOf_23 (lv_at hl 1 rfl) ?_
    refine k_i (w2 := [(h0, .inr (5, [.int (nI nr), .int (nI np), .ref a1, .int pr])), (a1, .inl (cI, nr * np, .inl su))]) (va_runV (As := [.int row, .int (nI sv1)]) (rest := [.int (su ((i * np) + (fo + 1 + t)))]) ⟨hx, hb, hml, hown, hts⟩ (c_X5_sumFrom l _ h0 a1 nr np pr su row (nI sv1) i sv1 hlen e_i rfl hi (by omega)) (cwV 2 hts gX5_bestOf_X5_sumFrom rfl rfl rfl (by decide +kernel) ⟨Nat.le_of_ble_eq_true rfl, Nat.le_of_ble_eq_true rfl⟩) (pre_V (ci := 5) (q0 := 0) hB hz hA0 hP hD hS [0, 1] rfl rfl rfl rfl rfl) rfl rfl hl.1 rfl (lv_room (Nat.le_of_ble_eq_true rfl)) dX5_bestOf_25 ⟨Nat.zero_le _, Nat.zero_le _⟩) hP hD hS hA [0, 1] [] [0, 1] rfl rfl rfl rfl rfl (fun H locs hP hD hS => ?_)
    refine lv_icmp_le (tgt := 35) hx hb dX5_bestOf_28 (by decide) (fun c_3 => ?_) (fun c_3 => ?_)
    · refine lv_iinc (v := nI (fo + 1 + (t + 1))) (lv' := [(5, .int (nI (fo + 1 + (t + 1)))), (4, .int (nI sv1)), (0, .ref h0), (1, .int row), (2, .int (nI fo)), (3, .int (nI u))]) hx hb dX5_bestOf_35 hl (k := 0) rfl (nI_1 (fo + 1 + t)) (by decide) rfl (fun ls hl => ?_)
      refine lv_goto (tgt := 8) hx hb dX5_bestOf_38 (by decide) ?_
      have e_step : F_X5_bestOf_L8 np su i fo t sv1 = sv1 := by rw [F_X5_bestOf_L8, if_pos c_3]
      have hP2 : va_P D vwCl [(h0, .inr (5, [.int (nI nr), .int (nI np), .ref a1, .int pr])), (a1, .inl (cI, nr * np, .inl su))] H := hP
      have hD2 : va_D A [(h0, .inr (5, [.int (nI nr), .int (nI np), .ref a1, .int pr])), (a1, .inl (cI, nr * np, .inl su))] := hD
      have hl2 : lv_has ls 6 [(5, .int (nI (fo + 1 + (t + 1)))), (4, .int (nI (F_X5_bestOf_L8 np su i fo t sv1))), (0, .ref h0), (1, .int row), (2, .int (nI fo)), (3, .int (nI u))] := by rw [e_step]; exact lv_sub hl [0, 1, 2, 3, 4, 5] rfl
      subst hs_t
      exact ih_t (t + 1) (by omega) (by omega) _ _ _ hP2 hD2 hS hl2
    · refine lv_iload hx hb dX5_bestOf_31 (lv_at hl 0 rfl) ?_
      refine lv_istore (lv' := [(4, .int (nI (fo + 1 + t))), (5, .int (nI (fo + 1 + t))), (0, .ref h0), (1, .int row), (2, .int (nI fo)), (3, .int (nI u))]) hx hb dX5_bestOf_33 hl (by decide) rfl (fun ls hl => ?_)
      refine lv_iinc (v := nI (fo + 1 + (t + 1))) (lv' := [(5, .int (nI (fo + 1 + (t + 1)))), (4, .int (nI (fo + 1 + t))), (0, .ref h0), (1, .int row), (2, .int (nI fo)), (3, .int (nI u))]) hx hb dX5_bestOf_35 hl (k := 1) rfl (nI_1 (fo + 1 + t)) (by decide) rfl (fun ls hl => ?_)
      refine lv_goto (tgt := 8) hx hb dX5_bestOf_38 (by decide) ?_
      have e_step : F_X5_bestOf_L8 np su i fo t sv1 = fo + 1 + t := by rw [F_X5_bestOf_L8, if_neg c_3]
      have hP2 : va_P D vwCl [(h0, .inr (5, [.int (nI nr), .int (nI np), .ref a1, .int pr])), (a1, .inl (cI, nr * np, .inl su))] H := hP
      have hD2 : va_D A [(h0, .inr (5, [.int (nI nr), .int (nI np), .ref a1, .int pr])), (a1, .inl (cI, nr * np, .inl su))] := hD
      have hl2 : lv_has ls 6 [(5, .int (nI (fo + 1 + (t + 1)))), (4, .int (nI (F_X5_bestOf_L8 np su i fo t sv1))), (0, .ref h0), (1, .int row), (2, .int (nI fo)), (3, .int (nI u))] := by rw [e_step]; exact lv_sub hl [0, 1, 2, 3, 4, 5] rfl
      subst hs_t
      exact ih_t (t + 1) (by omega) (by omega) _ _ _ hP2 hD2 hS hl2
