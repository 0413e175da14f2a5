def F_X0_inMonth (f1 : Nat → Int32) (month : Int32) : Int32 :=
  if (F_X7_within month 0 ((nI 21) - 1)) = 0 then 0 else
  f1 month.toNatClampNeg
set_option maxHeartbeats 4000000 in
set_option maxRecDepth 100000 in
theorem c_X0_inMonth (l : Launch) {D : va_G} {cI cZ cB : ClassId} {au : Nat} {kA kV : Nat → Nat} {z0 : Nat} (sz : Nat) (h0 : Nat) (a1 : Nat) (v1 : Int32) (v2 : Int32) (v3 : Int32) (f1 : Nat → Int32) (month : Int32)  : Met l yX0_inMonth wsX0_inMonth ({ frames := 1, cells := 0, slots := 0, locals := 22 }) (va_Pc [.ref h0, .int month] (PRE D cI cZ cB au kA kV z0 sz [(h0, .inr (0, [.ref a1, .int v1, .int v2, .int v3])), (a1, .inl (cI, 21, .inl f1))])) (QI D [(h0, .inr (0, [.ref a1, .int v1, .int v2, .int v3])), (a1, .inl (cI, 21, .inl f1))] sz (F_X0_inMonth f1 month) [(h0, .inr (0, [.ref a1, .int v1, .int v2, .int v3])), (a1, .inl (cI, 21, .inl f1))]) 0 0 (va_A [(h0, .inr (0, [.ref a1, .int v1, .int v2, .int v3])), (a1, .inl (cI, 21, .inl f1))] sz) := by
  refine Met.ofW (cc := cX0_inMonth) (maxL := 2) (ret := (some .int)) (by decide) rfl ?_
  intro p e s m args below meth c s₁ B hml hv
  obtain ⟨rfl, hsz, hz, hP, hD0, hB⟩ := hv
  have hx := B.exec
  have hb := B.bytes
  have hr := B.returns
  have hts := atoms_spec (ws := wsX0_inMonth) B.pre
  have hown : s.vm.findClass RX0 = some m.cls := findClass_of_methodNamed B.named
  have hlocks := B.notSynchronized
  subst hsz
  have hD := hD0.self (sz := s.heap.size)
  have hA0 := va_A0 hD0 hz
  unfold QI
  generalize hAe : va_A [(h0, .inr (0, [.ref a1, .int v1, .int v2, .int v3])), (a1, .inl (cI, 21, .inl f1))] s.heap.size = A at hD hA0 ⊢
  have hA : ∀ q : Nat, s.heap.size ≤ q → A q := fun q h => by rw [← hAe]; exact Or.inr h
  have hS : va_S A s.heap s.heap [] := va_S.rf
  have hiX0 : ∀ w ∈ wsX00, w ∈ wsX0_inMonth := fun w h => List.mem_cons_of_mem _ (List.mem_append_right _ h)
  have hl := lv_entry ([.ref h0, .int month]) (n := 2) (Nat.le_of_ble_eq_true rfl)
  rw [lg_entry_eq]
  generalize (lg_sl ([.ref h0, .int month]) ++ List.replicate (2 - (lg_sl ([.ref h0, .int month])).length) Slot.unset).toArray = ls at hl ⊢
  have hl : lv_has ls 2 [(0, .ref h0), (1, .int month)] := hl
  refine lv_iload_n hx hb dX0_inMonth_0 rfl (lv_at hl 1 rfl) ?_
  refine lv_iconst (v := 0) hx hb dX0_inMonth_1 (by decide) ?_
  refine lv_aload_n hx hb dX0_inMonth_2 rfl (lv_at hl 0 rfl) ?_
  refine va_get (D := D) (ci := 0) (v := .ref a1) (C := RX0) (T := TX0) (N := 4) hx hb hts hiX0 hown hB.1 hP 0 rfl rfl 0 (by decide) (hts _ (List.mem_of_getElem? (i := 1) rfl)) (fun _ h9 => h9) rfl dX0_inMonth_3 ?_
  refine va_alen (v := nI 21) hx hb hB.1 hP 1 0 rfl rfl rfl dX0_inMonth_6 ?_
  refine lv_iconst (v := 1) hx hb dX0_inMonth_7 (by decide) ?_
  refine lv_isub hx hb dX0_inMonth_8 ?_
  refine k_i (w2 := [(h0, .inr (0, [.ref a1, .int v1, .int v2, .int v3])), (a1, .inl (cI, 21, .inl f1))]) (va_runSN (As := [.int month, .int 0, .int ((nI 21) - 1)]) (rest := []) ⟨hx, hb, hml, hown, hts⟩ (c_X7_within l _ month 0 ((nI 21) - 1)) ⟨va_cnB 3 hts gX0_inMonth_X7_within_n25 rfl rfl rfl hB.2.1.2.2.2.2.2.2.2.1 (hts _ (List.mem_of_getElem? (i := 3) rfl)) (by decide +kernel) ⟨Nat.le_of_ble_eq_true rfl, Nat.le_of_ble_eq_true rfl⟩, hts _ (List.mem_of_getElem? (i := 2) rfl), trivial⟩ (pre_S hB hz hA0 hP hD hS [] rfl rfl) rfl rfl hl.1 rfl (lv_room (Nat.le_of_ble_eq_true rfl)) dX0_inMonth_9 ⟨Nat.zero_le _, Nat.zero_le _⟩) hP hD hS hA [] [0, 1] [0, 1] rfl rfl rfl rfl rfl (fun H locs hP hD hS => ?_)
  refine lv_if_eq (tgt := 24) hx hb dX0_inMonth_12 (by decide) (fun c_1 => ?_) (fun c_1 => ?_)
  · refine lv_iconst (v := 0) hx hb dX0_inMonth_24 (by decide) ?_
    have er : F_X0_inMonth f1 month = 0 := by rw [F_X0_inMonth, if_pos c_1]
    exact W.iret hx hb hr (fun t ht hW => ⟨⟨_, (), rfl, er.symm, by rw [ht]; exact hP, hD⟩, hS.F ht⟩) hS.2.2 dX0_inMonth_25
  · obtain ⟨hm1, hm2⟩ := wn_ix (by decide) c_1
    refine lv_aload_n hx hb dX0_inMonth_15 rfl (lv_at hl 0 rfl) ?_
    refine va_get (D := D) (ci := 0) (v := .ref a1) (C := RX0) (T := TX0) (N := 4) hx hb hts hiX0 hown hB.1 hP 0 rfl rfl 0 (by decide) (hts _ (List.mem_of_getElem? (i := 1) rfl)) (fun _ h9 => h9) rfl dX0_inMonth_16 ?_
    refine lv_iload_n hx hb dX0_inMonth_19 rfl (lv_at hl 1 rfl) ?_
    refine ra_i hx hb hB.1 hP 1 rfl month.toNatClampNeg hm1 hm2 (by decide) dX0_inMonth_20 ?_
    refine lv_goto (tgt := 25) hx hb dX0_inMonth_21 (by decide) ?_
    have er : F_X0_inMonth f1 month = f1 month.toNatClampNeg := by rw [F_X0_inMonth, if_neg c_1]
    exact W.iret hx hb hr (fun t ht hW => ⟨⟨_, (), rfl, er.symm, by rw [ht]; exact hP, hD⟩, hS.F ht⟩) hS.2.2 dX0_inMonth_25

def F_X0_fill_1 (v3 : Int32) (f1 : Nat → Int32) (tin : Int32) (month : Int32) : Nat → Int32 :=
  if (F_X7_within month 0 ((nI 21) - 1)) = 0 then f1 else
  upd f1 month.toNatClampNeg ((f1 month.toNatClampNeg) + (tin - ((tin * ((v3 * v3) / 2)) / 100)))
set_option maxHeartbeats 4000000 in
set_option maxRecDepth 100000 in
theorem c_X0_fill (l : Launch) {D : va_G} {cI cZ cB : ClassId} {au : Nat} {kA kV : Nat → Nat} {z0 : Nat} (sz : Nat) (h0 : Nat) (a1 : Nat) (v1 : Int32) (v2 : Int32) (v3 : Int32) (f1 : Nat → Int32) (tin : Int32) (month : Int32)  : Met l yX0_fill wsX0_fill ({ frames := 1, cells := 0, slots := 0, locals := 22 }) (va_Pc [.ref h0, .int tin, .int month] (PRE D cI cZ cB au kA kV z0 sz [(h0, .inr (0, [.ref a1, .int v1, .int v2, .int v3])), (a1, .inl (cI, 21, .inl f1))])) (QI D [(h0, .inr (0, [.ref a1, .int v1, .int v2, .int v3])), (a1, .inl (cI, 21, .inl f1))] sz (tin - ((tin * ((v3 * v3) / 2)) / 100)) [(h0, .inr (0, [.ref a1, .int (v1 + (tin - ((tin * ((v3 * v3) / 2)) / 100))), .int (v2 + ((tin * ((v3 * v3) / 2)) / 100)), .int v3])), (a1, .inl (cI, 21, .inl (F_X0_fill_1 v3 f1 tin month)))]) 0 0 (va_A [(h0, .inr (0, [.ref a1, .int v1, .int v2, .int v3])), (a1, .inl (cI, 21, .inl f1))] sz) := by
  refine Met.ofW (cc := cX0_fill) (maxL := 5) (ret := (some .int)) (by decide) rfl ?_
  intro p e s m args below meth c s₁ B hml hv
  obtain ⟨rfl, hsz, hz, hP, hD0, hB⟩ := hv
  have hx := B.exec
  have hb := B.bytes
  have hr := B.returns
  have hts := atoms_spec (ws := wsX0_fill) B.pre
  have hown : s.vm.findClass RX0 = some m.cls := findClass_of_methodNamed B.named
  have hlocks := B.notSynchronized
  subst hsz
  have hD := hD0.self (sz := s.heap.size)
  have hA0 := va_A0 hD0 hz
  unfold QI
  generalize hAe : va_A [(h0, .inr (0, [.ref a1, .int v1, .int v2, .int v3])), (a1, .inl (cI, 21, .inl f1))] s.heap.size = A at hD hA0 ⊢
  have hA : ∀ q : Nat, s.heap.size ≤ q → A q := fun q h => by rw [← hAe]; exact Or.inr h
  have hS : va_S A s.heap s.heap [] := va_S.rf
  have hiX0 : ∀ w ∈ wsX00, w ∈ wsX0_fill := fun w h => List.mem_cons_of_mem _ (List.mem_append_right _ h)
  have hl := lv_entry ([.ref h0, .int tin, .int month]) (n := 5) (Nat.le_of_ble_eq_true rfl)
  rw [lg_entry_eq]
  generalize (lg_sl ([.ref h0, .int tin, .int month]) ++ List.replicate (5 - (lg_sl ([.ref h0, .int tin, .int month])).length) Slot.unset).toArray = ls at hl ⊢
  have hl : lv_has ls 5 [(0, .ref h0), (1, .int tin), (2, .int month)] := hl
  refine lv_iload_n hx hb dX0_fill_0 rfl (lv_at hl 1 rfl) ?_
  refine lv_aload_n hx hb dX0_fill_1 rfl (lv_at hl 0 rfl) ?_
  refine va_get (D := D) (ci := 0) (v := .int v3) (C := RX0) (T := TX0) (N := 4) hx hb hts hiX0 hown hB.1 hP 0 rfl rfl 3 (by decide) (hts _ (List.mem_of_getElem? (i := 1) rfl)) (fun _ h9 => h9) rfl dX0_fill_2 ?_
  refine lv_aload_n hx hb dX0_fill_5 rfl (lv_at hl 0 rfl) ?_
  refine va_get (D := D) (ci := 0) (v := .int v3) (C := RX0) (T := TX0) (N := 4) hx hb hts hiX0 hown hB.1 hP 0 rfl rfl 3 (by decide) (hts _ (List.mem_of_getElem? (i := 1) rfl)) (fun _ h9 => h9) rfl dX0_fill_6 ?_
  refine lv_imul hx hb dX0_fill_9 ?_
  refine lv_iconst (v := 2) hx hb dX0_fill_10 (by decide) ?_
  refine lv_idiv hx hb dX0_fill_11 (by decide) ?_
  refine lv_imul hx hb dX0_fill_12 ?_
  refine lv_bipush (v := 100) hx hb dX0_fill_13 (by decide) ?_
  refine lv_idiv hx hb dX0_fill_15 (by decide) ?_
  refine lv_istore_n (lv' := [(3, .int ((tin * ((v3 * v3) / 2)) / 100)), (0, .ref h0), (1, .int tin), (2, .int month)]) hx hb dX0_fill_16 rfl hl (by decide) rfl (fun ls hl => ?_)
  refine lv_iload_n hx hb dX0_fill_17 rfl (lv_at hl 2 rfl) ?_
  refine lv_iload_n hx hb dX0_fill_18 rfl (lv_at hl 0 rfl) ?_
  refine lv_isub hx hb dX0_fill_19 ?_
  refine lv_istore (lv' := [(4, .int (tin - ((tin * ((v3 * v3) / 2)) / 100))), (3, .int ((tin * ((v3 * v3) / 2)) / 100)), (0, .ref h0), (1, .int tin), (2, .int month)]) hx hb dX0_fill_20 hl (by decide) rfl (fun ls hl => ?_)
  refine lv_aload_n hx hb dX0_fill_22 rfl (lv_at hl 2 rfl) ?_
  refine lv_dup hx hb dX0_fill_23 rfl ?_
  refine va_get (D := D) (ci := 0) (v := .int v2) (C := RX0) (T := TX0) (N := 4) hx hb hts hiX0 hown hB.1 hP 0 rfl rfl 2 (by decide) (hts _ (List.mem_of_getElem? (i := 2) rfl)) (fun _ h9 => h9) rfl dX0_fill_24 ?_
  refine lv_iload_n hx hb dX0_fill_27 rfl (lv_at hl 1 rfl) ?_
  refine lv_iadd hx hb dX0_fill_28 ?_
  refine pf (w2 := [(h0, .inr (0, [.ref a1, .int v1, .int (v2 + ((tin * ((v3 * v3) / 2)) / 100)), .int v3])), (a1, .inl (cI, 21, .inl f1))]) (ci := 0) (C := RX0) (T := TX0) (N := 4) hx hb hts hiX0 tyX0 tyX0_ok nmX0 hown hB.1 hP hD hS 0 rfl rfl 2 (by decide) (hts _ (List.mem_of_getElem? (i := 2) rfl)) rfl rfl rfl rfl (Nat.le_of_ble_eq_true rfl) rfl dX0_fill_29 (fun H locs hP hD hS => ?_)
  refine lv_aload_n hx hb dX0_fill_32 rfl (lv_at hl 2 rfl) ?_
  refine lv_dup hx hb dX0_fill_33 rfl ?_
  refine va_get (D := D) (ci := 0) (v := .int v1) (C := RX0) (T := TX0) (N := 4) hx hb hts hiX0 hown hB.1 hP 0 rfl rfl 1 (by decide) (hts _ (List.mem_of_getElem? (i := 3) rfl)) (fun _ h9 => h9) rfl dX0_fill_34 ?_
  refine lv_iload hx hb dX0_fill_37 (lv_at hl 0 rfl) ?_
  refine lv_iadd hx hb dX0_fill_39 ?_
  refine pf (w2 := [(h0, .inr (0, [.ref a1, .int (v1 + (tin - ((tin * ((v3 * v3) / 2)) / 100))), .int (v2 + ((tin * ((v3 * v3) / 2)) / 100)), .int v3])), (a1, .inl (cI, 21, .inl f1))]) (ci := 0) (C := RX0) (T := TX0) (N := 4) hx hb hts hiX0 tyX0 tyX0_ok nmX0 hown hB.1 hP hD hS 0 rfl rfl 1 (by decide) (hts _ (List.mem_of_getElem? (i := 3) rfl)) rfl rfl rfl rfl (Nat.le_of_ble_eq_true rfl) rfl dX0_fill_40 (fun H locs hP hD hS => ?_)
  refine lv_iload_n hx hb dX0_fill_43 rfl (lv_at hl 4 rfl) ?_
  refine lv_iconst (v := 0) hx hb dX0_fill_44 (by decide) ?_
  refine lv_aload_n hx hb dX0_fill_45 rfl (lv_at hl 2 rfl) ?_
  refine va_get (D := D) (ci := 0) (v := .ref a1) (C := RX0) (T := TX0) (N := 4) hx hb hts hiX0 hown hB.1 hP 0 rfl rfl 0 (by decide) (hts _ (List.mem_of_getElem? (i := 4) rfl)) (fun _ h9 => h9) rfl dX0_fill_46 ?_
  refine va_alen (v := nI 21) hx hb hB.1 hP 1 0 rfl rfl rfl dX0_fill_49 ?_
  refine lv_iconst (v := 1) hx hb dX0_fill_50 (by decide) ?_
  refine lv_isub hx hb dX0_fill_51 ?_
  refine k_i (w2 := [(h0, .inr (0, [.ref a1, .int (v1 + (tin - ((tin * ((v3 * v3) / 2)) / 100))), .int (v2 + ((tin * ((v3 * v3) / 2)) / 100)), .int v3])), (a1, .inl (cI, 21, .inl f1))]) (va_runSN (As := [.int month, .int 0, .int ((nI 21) - 1)]) (rest := []) ⟨hx, hb, hml, hown, hts⟩ (c_X7_within l _ month 0 ((nI 21) - 1)) ⟨va_cnB 3 hts gX0_fill_X7_within_n25 rfl rfl rfl hB.2.1.2.2.2.2.2.2.2.1 (hts _ (List.mem_of_getElem? (i := 6) rfl)) (by decide +kernel) ⟨Nat.le_of_ble_eq_true rfl, Nat.le_of_ble_eq_true rfl⟩, hts _ (List.mem_of_getElem? (i := 5) rfl), trivial⟩ (pre_S hB hz hA0 hP hD hS [] rfl rfl) rfl rfl hl.1 rfl (lv_room (Nat.le_of_ble_eq_true rfl)) dX0_fill_52 ⟨Nat.zero_le _, Nat.zero_le _⟩) hP hD hS hA [] [0, 1] [0, 1] rfl rfl rfl rfl rfl (fun H locs hP hD hS => ?_)
  refine lv_if_eq (tgt := 69) hx hb dX0_fill_55 (by decide) (fun c_1 => ?_) (fun c_1 => ?_)
  · refine lv_iload hx hb dX0_fill_69 (lv_at hl 0 rfl) ?_
    have e1 : F_X0_fill_1 v3 f1 tin month = f1 := by rw [F_X0_fill_1, if_pos c_1]
    exact W.iret hx hb hr (fun t ht hW => ⟨⟨_, (), rfl, rfl, by rw [ht, e1]; exact hP, by rw [e1]; exact hD⟩, hS.F ht⟩) hS.2.2 dX0_fill_71
  · obtain ⟨hm1, hm2⟩ := wn_ix (by decide) c_1
    refine lv_aload_n hx hb dX0_fill_58 rfl (lv_at hl 2 rfl) ?_
    refine va_get (D := D) (ci := 0) (v := .ref a1) (C := RX0) (T := TX0) (N := 4) hx hb hts hiX0 hown hB.1 hP 0 rfl rfl 0 (by decide) (hts _ (List.mem_of_getElem? (i := 4) rfl)) (fun _ h9 => h9) rfl dX0_fill_59 ?_
    refine lv_iload_n hx hb dX0_fill_62 rfl (lv_at hl 4 rfl) ?_
    refine lv_dup2_11 hx hb dX0_fill_63 rfl rfl ?_
    refine ra_i hx hb hB.1 hP 1 rfl month.toNatClampNeg hm1 hm2 (by decide) dX0_fill_64 ?_
    refine lv_iload hx hb dX0_fill_65 (lv_at hl 0 rfl) ?_
    refine lv_iadd hx hb dX0_fill_67 ?_
    refine wa_i (w2 := [(h0, .inr (0, [.ref a1, .int (v1 + (tin - ((tin * ((v3 * v3) / 2)) / 100))), .int (v2 + ((tin * ((v3 * v3) / 2)) / 100)), .int v3])), (a1, .inl (cI, 21, .inl (upd f1 month.toNatClampNeg ((f1 month.toNatClampNeg) + (tin - ((tin * ((v3 * v3) / 2)) / 100))))))]) hx hb hB.1 hP hD hS 1 rfl month.toNatClampNeg hm1 hm2 (by decide) dX0_fill_68 rfl (fun H locs hP hD hS => ?_)
    refine lv_iload hx hb dX0_fill_69 (lv_at hl 0 rfl) ?_
    have e1 : F_X0_fill_1 v3 f1 tin month = upd f1 month.toNatClampNeg ((f1 month.toNatClampNeg) + (tin - ((tin * ((v3 * v3) / 2)) / 100))) := by rw [F_X0_fill_1, if_neg c_1]
    exact W.iret hx hb hr (fun t ht hW => ⟨⟨_, (), rfl, rfl, by rw [ht, e1]; exact hP, by rw [e1]; exact hD⟩, hS.F ht⟩) hS.2.2 dX0_fill_71

set_option maxHeartbeats 4000000 in
set_option maxRecDepth 100000 in
theorem c_X1_rowCount (l : Launch) {D : va_G} {cI cZ cB : ClassId} {au : Nat} {kA kV : Nat → Nat} {z0 : Nat} (sz : Nat) (h0 : Nat) (a1 : Nat) (a2 : Nat) (a3 : Nat) (a4 : Nat) (nr : Nat) (np : Nat) (g : Int32) (fd : Nat → Int32) (ft : Nat → Int32) (fl : Nat → Int32) (fg : Nat → Int32)  : Met l yX1_rowCount wsX1_rowCount ({ frames := 0, cells := 0, slots := 0, locals := 0 }) (va_Pc [.ref h0] (PRE D cI cZ cB au kA kV z0 sz [(h0, .inr (1, [.int (nI nr), .int (nI np), .ref a1, .ref a2, .ref a3, .ref a4, .int g])), (a1, .inl (cI, nr * np, .inl fd)), (a2, .inl (cI, nr * np, .inl ft)), (a3, .inl (cI, nr * np, .inl fl)), (a4, .inl (cI, nr * np, .inl fg))])) (QI D [(h0, .inr (1, [.int (nI nr), .int (nI np), .ref a1, .ref a2, .ref a3, .ref a4, .int g])), (a1, .inl (cI, nr * np, .inl fd)), (a2, .inl (cI, nr * np, .inl ft)), (a3, .inl (cI, nr * np, .inl fl)), (a4, .inl (cI, nr * np, .inl fg))] sz (nI nr) [(h0, .inr (1, [.int (nI nr), .int (nI np), .ref a1, .ref a2, .ref a3, .ref a4, .int g])), (a1, .inl (cI, nr * np, .inl fd)), (a2, .inl (cI, nr * np, .inl ft)), (a3, .inl (cI, nr * np, .inl fl)), (a4, .inl (cI, nr * np, .inl fg))]) 0 0 (va_A [(h0, .inr (1, [.int (nI nr), .int (nI np), .ref a1, .ref a2, .ref a3, .ref a4, .int g])), (a1, .inl (cI, nr * np, .inl fd)), (a2, .inl (cI, nr * np, .inl ft)), (a3, .inl (cI, nr * np, .inl fl)), (a4, .inl (cI, nr * np, .inl fg))] sz) := by
  refine Met.ofW (cc := cX1_rowCount) (maxL := 1) (ret := (some .int)) (by decide) rfl ?_
  intro p e s m args below meth c s₁ B hml hv
  obtain ⟨rfl, hsz, hz, hP, hD0, hB⟩ := hv
  have hx := B.exec
  have hb := B.bytes
  have hr := B.returns
  have hts := atoms_spec (ws := wsX1_rowCount) B.pre
  have hown : s.vm.findClass RX1 = some m.cls := findClass_of_methodNamed B.named
  have hlocks := B.notSynchronized
  subst hsz
  have hD := hD0.self (sz := s.heap.size)
  have hA0 := va_A0 hD0 hz
  unfold QI
  generalize hAe : va_A [(h0, .inr (1, [.int (nI nr), .int (nI np), .ref a1, .ref a2, .ref a3, .ref a4, .int g])), (a1, .inl (cI, nr * np, .inl fd)), (a2, .inl (cI, nr * np, .inl ft)), (a3, .inl (cI, nr * np, .inl fl)), (a4, .inl (cI, nr * np, .inl fg))] s.heap.size = A at hD hA0 ⊢
  have hA : ∀ q : Nat, s.heap.size ≤ q → A q := fun q h => by rw [← hAe]; exact Or.inr h
  have hS : va_S A s.heap s.heap [] := va_S.rf
  have hiX1 : ∀ w ∈ wsX10, w ∈ wsX1_rowCount := fun w h => List.mem_cons_of_mem _ (List.mem_append_right _ h)
  have hl := lv_entry ([.ref h0]) (n := 1) (Nat.le_of_ble_eq_true rfl)
  rw [lg_entry_eq]
  generalize (lg_sl ([.ref h0]) ++ List.replicate (1 - (lg_sl ([.ref h0])).length) Slot.unset).toArray = ls at hl ⊢
  have hl : lv_has ls 1 [(0, .ref h0)] := hl
  refine lv_aload_n hx hb dX1_rowCount_0 rfl (lv_at hl 0 rfl) ?_
  refine va_get (D := D) (ci := 1) (v := .int (nI nr)) (C := RX1) (T := TX1) (N := 7) hx hb hts hiX1 hown hB.1 hP 0 rfl rfl 0 (by decide) (hts _ (List.mem_of_getElem? (i := 1) rfl)) (fun _ h9 => h9) rfl dX1_rowCount_1 ?_
  exact W.iret hx hb hr (fun t ht hW => ⟨⟨_, (), rfl, rfl, by rw [ht]; exact hP, hD⟩, hS.F ht⟩) hS.2.2 dX1_rowCount_4

def F_X1_has (nr : Nat) (np : Nat) (row : Int32) (place : Int32) : Int32 :=
  if (F_X7_within row 0 ((nI nr) - 1)) = 0 then 0 else
  if (F_X7_within place 0 ((nI np) - 1)) = 0 then 0 else
  1
set_option maxHeartbeats 4000000 in
set_option maxRecDepth 100000 in
theorem c_X1_has (l : Launch) {D : va_G} {cI cZ cB : ClassId} {au : Nat} {kA kV : Nat → Nat} {z0 : Nat} (sz : Nat) (h0 : Nat) (a1 : Nat) (a2 : Nat) (a3 : Nat) (a4 : Nat) (nr : Nat) (np : Nat) (g : Int32) (fd : Nat → Int32) (ft : Nat → Int32) (fl : Nat → Int32) (fg : Nat → Int32) (row : Int32) (place : Int32)  : Met l yX1_has wsX1_has ({ frames := 1, cells := 0, slots := 0, locals := 22 }) (va_Pc [.ref h0, .int row, .int place] (PRE D cI cZ cB au kA kV z0 sz [(h0, .inr (1, [.int (nI nr), .int (nI np), .ref a1, .ref a2, .ref a3, .ref a4, .int g])), (a1, .inl (cI, nr * np, .inl fd)), (a2, .inl (cI, nr * np, .inl ft)), (a3, .inl (cI, nr * np, .inl fl)), (a4, .inl (cI, nr * np, .inl fg))])) (QI D [(h0, .inr (1, [.int (nI nr), .int (nI np), .ref a1, .ref a2, .ref a3, .ref a4, .int g])), (a1, .inl (cI, nr * np, .inl fd)), (a2, .inl (cI, nr * np, .inl ft)), (a3, .inl (cI, nr * np, .inl fl)), (a4, .inl (cI, nr * np, .inl fg))] sz (F_X1_has nr np row place) [(h0, .inr (1, [.int (nI nr), .int (nI np), .ref a1, .ref a2, .ref a3, .ref a4, .int g])), (a1, .inl (cI, nr * np, .inl fd)), (a2, .inl (cI, nr * np, .inl ft)), (a3, .inl (cI, nr * np, .inl fl)), (a4, .inl (cI, nr * np, .inl fg))]) 0 0 (va_A [(h0, .inr (1, [.int (nI nr), .int (nI np), .ref a1, .ref a2, .ref a3, .ref a4, .int g])), (a1, .inl (cI, nr * np, .inl fd)), (a2, .inl (cI, nr * np, .inl ft)), (a3, .inl (cI, nr * np, .inl fl)), (a4, .inl (cI, nr * np, .inl fg))] sz) := by
  refine Met.ofW (cc := cX1_has) (maxL := 3) (ret := (some .boolean)) (by decide) rfl ?_
  intro p e s m args below meth c s₁ B hml hv
  obtain ⟨rfl, hsz, hz, hP, hD0, hB⟩ := hv
  have hx := B.exec
  have hb := B.bytes
  have hr := B.returns
  have hts := atoms_spec (ws := wsX1_has) B.pre
  have hown : s.vm.findClass RX1 = some m.cls := findClass_of_methodNamed B.named
  have hlocks := B.notSynchronized
  subst hsz
  have hD := hD0.self (sz := s.heap.size)
  have hA0 := va_A0 hD0 hz
  unfold QI
  generalize hAe : va_A [(h0, .inr (1, [.int (nI nr), .int (nI np), .ref a1, .ref a2, .ref a3, .ref a4, .int g])), (a1, .inl (cI, nr * np, .inl fd)), (a2, .inl (cI, nr * np, .inl ft)), (a3, .inl (cI, nr * np, .inl fl)), (a4, .inl (cI, nr * np, .inl fg))] s.heap.size = A at hD hA0 ⊢
  have hA : ∀ q : Nat, s.heap.size ≤ q → A q := fun q h => by rw [← hAe]; exact Or.inr h
  have hS : va_S A s.heap s.heap [] := va_S.rf
  have hiX1 : ∀ w ∈ wsX10, w ∈ wsX1_has := fun w h => List.mem_cons_of_mem _ (List.mem_append_right _ h)
  have hl := lv_entry ([.ref h0, .int row, .int place]) (n := 3) (Nat.le_of_ble_eq_true rfl)
  rw [lg_entry_eq]
  generalize (lg_sl ([.ref h0, .int row, .int place]) ++ List.replicate (3 - (lg_sl ([.ref h0, .int row, .int place])).length) Slot.unset).toArray = ls at hl ⊢
  have hl : lv_has ls 3 [(0, .ref h0), (1, .int row), (2, .int place)] := hl
  refine lv_iload_n hx hb dX1_has_0 rfl (lv_at hl 1 rfl) ?_
  refine lv_iconst (v := 0) hx hb dX1_has_1 (by decide) ?_
  refine lv_aload_n hx hb dX1_has_2 rfl (lv_at hl 0 rfl) ?_
  refine va_get (D := D) (ci := 1) (v := .int (nI nr)) (C := RX1) (T := TX1) (N := 7) hx hb hts hiX1 hown hB.1 hP 0 rfl rfl 0 (by decide) (hts _ (List.mem_of_getElem? (i := 1) rfl)) (fun _ h9 => h9) rfl dX1_has_3 ?_
  refine lv_iconst (v := 1) hx hb dX1_has_6 (by decide) ?_
  refine lv_isub hx hb dX1_has_7 ?_
  refine k_i (w2 := [(h0, .inr (1, [.int (nI nr), .int (nI np), .ref a1, .ref a2, .ref a3, .ref a4, .int g])), (a1, .inl (cI, nr * np, .inl fd)), (a2, .inl (cI, nr * np, .inl ft)), (a3, .inl (cI, nr * np, .inl fl)), (a4, .inl (cI, nr * np, .inl fg))]) (va_runSN (As := [.int row, .int 0, .int ((nI nr) - 1)]) (rest := []) ⟨hx, hb, hml, hown, hts⟩ (c_X7_within l _ row 0 ((nI nr) - 1)) ⟨va_cnB 3 hts gX1_has_X7_within_n34 rfl rfl rfl hB.2.1.2.2.2.2.1 (hts _ (List.mem_of_getElem? (i := 4) rfl)) (by decide +kernel) ⟨Nat.le_of_ble_eq_true rfl, Nat.le_of_ble_eq_true rfl⟩, hts _ (List.mem_of_getElem? (i := 3) rfl), trivial⟩ (pre_S hB hz hA0 hP hD hS [] rfl rfl) rfl rfl hl.1 rfl (lv_room (Nat.le_of_ble_eq_true rfl)) dX1_has_8 ⟨Nat.zero_le _, Nat.zero_le _⟩) hP hD hS hA [] [0, 1, 2, 3, 4] [0, 1, 2, 3, 4] rfl rfl rfl rfl rfl (fun H locs hP hD hS => ?_)
  refine lv_if_eq (tgt := 32) hx hb dX1_has_11 (by decide) (fun c_1 => ?_) (fun c_1 => ?_)
  · refine lv_iconst (v := 0) hx hb dX1_has_32 (by decide) ?_
    have er : F_X1_has nr np row place = 0 := by rw [F_X1_has, if_pos c_1]
    exact W.zret hx hb hr rfl (fun t ht hW => ⟨⟨_, (), rfl, er.symm, by rw [ht]; exact hP, hD⟩, hS.F ht⟩) hS.2.2 dX1_has_33
  · refine lv_iload_n hx hb dX1_has_14 rfl (lv_at hl 2 rfl) ?_
    refine lv_iconst (v := 0) hx hb dX1_has_15 (by decide) ?_
    refine lv_aload_n hx hb dX1_has_16 rfl (lv_at hl 0 rfl) ?_
    refine va_get (D := D) (ci := 1) (v := .int (nI np)) (C := RX1) (T := TX1) (N := 7) hx hb hts hiX1 hown hB.1 hP 0 rfl rfl 1 (by decide) (hts _ (List.mem_of_getElem? (i := 2) rfl)) (fun _ h9 => h9) rfl dX1_has_17 ?_
    refine lv_iconst (v := 1) hx hb dX1_has_20 (by decide) ?_
    refine lv_isub hx hb dX1_has_21 ?_
    refine k_i (w2 := [(h0, .inr (1, [.int (nI nr), .int (nI np), .ref a1, .ref a2, .ref a3, .ref a4, .int g])), (a1, .inl (cI, nr * np, .inl fd)), (a2, .inl (cI, nr * np, .inl ft)), (a3, .inl (cI, nr * np, .inl fl)), (a4, .inl (cI, nr * np, .inl fg))]) (va_runSN (As := [.int place, .int 0, .int ((nI np) - 1)]) (rest := []) ⟨hx, hb, hml, hown, hts⟩ (c_X7_within l _ place 0 ((nI np) - 1)) ⟨va_cnB 3 hts gX1_has_X7_within_n34 rfl rfl rfl hB.2.1.2.2.2.2.1 (hts _ (List.mem_of_getElem? (i := 4) rfl)) (by decide +kernel) ⟨Nat.le_of_ble_eq_true rfl, Nat.le_of_ble_eq_true rfl⟩, hts _ (List.mem_of_getElem? (i := 3) rfl), trivial⟩ (pre_S hB hz hA0 hP hD hS [] rfl rfl) rfl rfl hl.1 rfl (lv_room (Nat.le_of_ble_eq_true rfl)) dX1_has_22 ⟨Nat.zero_le _, Nat.zero_le _⟩) hP hD hS hA [] [0, 1, 2, 3, 4] [0, 1, 2, 3, 4] rfl rfl rfl rfl rfl (fun H locs hP hD hS => ?_)
    refine lv_if_eq (tgt := 32) hx hb dX1_has_25 (by decide) (fun c_2 => ?_) (fun c_2 => ?_)
    · refine lv_iconst (v := 0) hx hb dX1_has_32 (by decide) ?_
      have er : F_X1_has nr np row place = 0 := by rw [F_X1_has, if_neg c_1, if_pos c_2]
      exact W.zret hx hb hr rfl (fun t ht hW => ⟨⟨_, (), rfl, er.symm, by rw [ht]; exact hP, hD⟩, hS.F ht⟩) hS.2.2 dX1_has_33
    · refine lv_iconst (v := 1) hx hb dX1_has_28 (by decide) ?_
      refine lv_goto (tgt := 33) hx hb dX1_has_29 (by decide) ?_
      have er : F_X1_has nr np row place = 1 := by rw [F_X1_has, if_neg c_1, if_neg c_2]
      exact W.zret hx hb hr rfl (fun t ht hW => ⟨⟨_, (), rfl, er.symm, by rw [ht]; exact hP, hD⟩, hS.F ht⟩) hS.2.2 dX1_has_33

set_option maxHeartbeats 4000000 in
set_option maxRecDepth 100000 in
theorem c_X1_depthAt (l : Launch) {D : va_G} {cI cZ cB : ClassId} {au : Nat} {kA kV : Nat → Nat} {z0 : Nat} (sz : Nat) (h0 : Nat) (a1 : Nat) (a2 : Nat) (a3 : Nat) (a4 : Nat) (nr : Nat) (np : Nat) (g : Int32) (fd : Nat → Int32) (ft : Nat → Int32) (fl : Nat → Int32) (fg : Nat → Int32) (row : Int32) (place : Int32) (i : Nat) (j : Nat) (hlen : nr * np < 2 ^ 31) (e_i : row = nI i) (e_j : place = nI j) (hi : i < nr) (hj : j < np) : Met l yX1_depthAt wsX1_depthAt ({ frames := 0, cells := 0, slots := 0, locals := 0 }) (va_Pc [.ref h0, .int row, .int place] (PRE D cI cZ cB au kA kV z0 sz [(h0, .inr (1, [.int (nI nr), .int (nI np), .ref a1, .ref a2, .ref a3, .ref a4, .int g])), (a1, .inl (cI, nr * np, .inl fd)), (a2, .inl (cI, nr * np, .inl ft)), (a3, .inl (cI, nr * np, .inl fl)), (a4, .inl (cI, nr * np, .inl fg))])) (QI D [(h0, .inr (1, [.int (nI nr), .int (nI np), .ref a1, .ref a2, .ref a3, .ref a4, .int g])), (a1, .inl (cI, nr * np, .inl fd)), (a2, .inl (cI, nr * np, .inl ft)), (a3, .inl (cI, nr * np, .inl fl)), (a4, .inl (cI, nr * np, .inl fg))] sz (fd ((i * np) + j)) [(h0, .inr (1, [.int (nI nr), .int (nI np), .ref a1, .ref a2, .ref a3, .ref a4, .int g])), (a1, .inl (cI, nr * np, .inl fd)), (a2, .inl (cI, nr * np, .inl ft)), (a3, .inl (cI, nr * np, .inl fl)), (a4, .inl (cI, nr * np, .inl fg))]) 0 0 (va_A [(h0, .inr (1, [.int (nI nr), .int (nI np), .ref a1, .ref a2, .ref a3, .ref a4, .int g])), (a1, .inl (cI, nr * np, .inl fd)), (a2, .inl (cI, nr * np, .inl ft)), (a3, .inl (cI, nr * np, .inl fl)), (a4, .inl (cI, nr * np, .inl fg))] sz) := by
  refine Met.ofW (cc := cX1_depthAt) (maxL := 3) (ret := (some .int)) (by decide) rfl ?_
  intro p e s m args below meth c s₁ B hml hv
  obtain ⟨rfl, hsz, hz, hP, hD0, hB⟩ := hv
  have hx := B.exec
  have hb := B.bytes
  have hr := B.returns
  have hts := atoms_spec (ws := wsX1_depthAt) B.pre
  have hown : s.vm.findClass RX1 = some m.cls := findClass_of_methodNamed B.named
  have hlocks := B.notSynchronized
  subst hsz
  have hD := hD0.self (sz := s.heap.size)
  have hA0 := va_A0 hD0 hz
  unfold QI
  generalize hAe : va_A [(h0, .inr (1, [.int (nI nr), .int (nI np), .ref a1, .ref a2, .ref a3, .ref a4, .int g])), (a1, .inl (cI, nr * np, .inl fd)), (a2, .inl (cI, nr * np, .inl ft)), (a3, .inl (cI, nr * np, .inl fl)), (a4, .inl (cI, nr * np, .inl fg))] s.heap.size = A at hD hA0 ⊢
  have hA : ∀ q : Nat, s.heap.size ≤ q → A q := fun q h => by rw [← hAe]; exact Or.inr h
  have hS : va_S A s.heap s.heap [] := va_S.rf
  have hiX1 : ∀ w ∈ wsX10, w ∈ wsX1_depthAt := fun w h => List.mem_cons_of_mem _ (List.mem_append_right _ h)
  have hl := lv_entry ([.ref h0, .int row, .int place]) (n := 3) (Nat.le_of_ble_eq_true rfl)
  rw [lg_entry_eq]
  generalize (lg_sl ([.ref h0, .int row, .int place]) ++ List.replicate (3 - (lg_sl ([.ref h0, .int row, .int place])).length) Slot.unset).toArray = ls at hl ⊢
  have hl : lv_has ls 3 [(0, .ref h0), (1, .int row), (2, .int place)] := hl
  refine lv_aload_n hx hb dX1_depthAt_0 rfl (lv_at hl 0 rfl) ?_
  refine va_get (D := D) (ci := 1) (v := .ref a1) (C := RX1) (T := TX1) (N := 7) hx hb hts hiX1 hown hB.1 hP 0 rfl rfl 2 (by decide) (hts _ (List.mem_of_getElem? (i := 1) rfl)) (fun _ h9 => h9) rfl dX1_depthAt_1 ?_
  refine lv_iload_n hx hb dX1_depthAt_4 rfl (lv_at hl 1 rfl) ?_
  refine lv_aload_n hx hb dX1_depthAt_5 rfl (lv_at hl 0 rfl) ?_
  refine va_get (D := D) (ci := 1) (v := .int (nI np)) (C := RX1) (T := TX1) (N := 7) hx hb hts hiX1 hown hB.1 hP 0 rfl rfl 1 (by decide) (hts _ (List.mem_of_getElem? (i := 2) rfl)) (fun _ h9 => h9) rfl dX1_depthAt_6 ?_
  refine lv_imul hx hb dX1_depthAt_9 ?_
  refine lv_iload_n hx hb dX1_depthAt_10 rfl (lv_at hl 2 rfl) ?_
  refine lv_iadd hx hb dX1_depthAt_11 ?_
  refine ra_i hx hb hB.1 hP 1 rfl ((i * np) + j) (nx_add (nx_mul e_i rfl) e_j) (ix2 hi hj) hlen dX1_depthAt_12 ?_
  exact W.iret hx hb hr (fun t ht hW => ⟨⟨_, (), rfl, rfl, by rw [ht]; exact hP, hD⟩, hS.F ht⟩) hS.2.2 dX1_depthAt_13

def F_X1_isTold (np : Nat) (ft : Nat → Int32) (i : Nat) (j : Nat) : Int32 :=
  if (ft ((i * np) + j)) = (-1) then 0 else
  1
set_option maxHeartbeats 4000000 in
set_option maxRecDepth 100000 in
theorem c_X1_isTold (l : Launch) {D : va_G} {cI cZ cB : ClassId} {au : Nat} {kA kV : Nat → Nat} {z0 : Nat} (sz : Nat) (h0 : Nat) (a1 : Nat) (a2 : Nat) (a3 : Nat) (a4 : Nat) (nr : Nat) (np : Nat) (g : Int32) (fd : Nat → Int32) (ft : Nat → Int32) (fl : Nat → Int32) (fg : Nat → Int32) (row : Int32) (place : Int32) (i : Nat) (j : Nat) (hlen : nr * np < 2 ^ 31) (e_i : row = nI i) (e_j : place = nI j) (hi : i < nr) (hj : j < np) : Met l yX1_isTold wsX1_isTold ({ frames := 0, cells := 0, slots := 0, locals := 0 }) (va_Pc [.ref h0, .int row, .int place] (PRE D cI cZ cB au kA kV z0 sz [(h0, .inr (1, [.int (nI nr), .int (nI np), .ref a1, .ref a2, .ref a3, .ref a4, .int g])), (a1, .inl (cI, nr * np, .inl fd)), (a2, .inl (cI, nr * np, .inl ft)), (a3, .inl (cI, nr * np, .inl fl)), (a4, .inl (cI, nr * np, .inl fg))])) (QI D [(h0, .inr (1, [.int (nI nr), .int (nI np), .ref a1, .ref a2, .ref a3, .ref a4, .int g])), (a1, .inl (cI, nr * np, .inl fd)), (a2, .inl (cI, nr * np, .inl ft)), (a3, .inl (cI, nr * np, .inl fl)), (a4, .inl (cI, nr * np, .inl fg))] sz (F_X1_isTold np ft i j) [(h0, .inr (1, [.int (nI nr), .int (nI np), .ref a1, .ref a2, .ref a3, .ref a4, .int g])), (a1, .inl (cI, nr * np, .inl fd)), (a2, .inl (cI, nr * np, .inl ft)), (a3, .inl (cI, nr * np, .inl fl)), (a4, .inl (cI, nr * np, .inl fg))]) 0 0 (va_A [(h0, .inr (1, [.int (nI nr), .int (nI np), .ref a1, .ref a2, .ref a3, .ref a4, .int g])), (a1, .inl (cI, nr * np, .inl fd)), (a2, .inl (cI, nr * np, .inl ft)), (a3, .inl (cI, nr * np, .inl fl)), (a4, .inl (cI, nr * np, .inl fg))] sz) := by
  refine Met.ofW (cc := cX1_isTold) (maxL := 3) (ret := (some .boolean)) (by decide) rfl ?_
  intro p e s m args below meth c s₁ B hml hv
  obtain ⟨rfl, hsz, hz, hP, hD0, hB⟩ := hv
  have hx := B.exec
  have hb := B.bytes
  have hr := B.returns
  have hts := atoms_spec (ws := wsX1_isTold) B.pre
  have hown : s.vm.findClass RX1 = some m.cls := findClass_of_methodNamed B.named
  have hlocks := B.notSynchronized
  subst hsz
  have hD := hD0.self (sz := s.heap.size)
  have hA0 := va_A0 hD0 hz
  unfold QI
  generalize hAe : va_A [(h0, .inr (1, [.int (nI nr), .int (nI np), .ref a1, .ref a2, .ref a3, .ref a4, .int g])), (a1, .inl (cI, nr * np, .inl fd)), (a2, .inl (cI, nr * np, .inl ft)), (a3, .inl (cI, nr * np, .inl fl)), (a4, .inl (cI, nr * np, .inl fg))] s.heap.size = A at hD hA0 ⊢
  have hA : ∀ q : Nat, s.heap.size ≤ q → A q := fun q h => by rw [← hAe]; exact Or.inr h
  have hS : va_S A s.heap s.heap [] := va_S.rf
  have hiX1 : ∀ w ∈ wsX10, w ∈ wsX1_isTold := fun w h => List.mem_cons_of_mem _ (List.mem_append_right _ h)
  have hl := lv_entry ([.ref h0, .int row, .int place]) (n := 3) (Nat.le_of_ble_eq_true rfl)
  rw [lg_entry_eq]
  generalize (lg_sl ([.ref h0, .int row, .int place]) ++ List.replicate (3 - (lg_sl ([.ref h0, .int row, .int place])).length) Slot.unset).toArray = ls at hl ⊢
  have hl : lv_has ls 3 [(0, .ref h0), (1, .int row), (2, .int place)] := hl
  refine lv_aload_n hx hb dX1_isTold_0 rfl (lv_at hl 0 rfl) ?_
  refine va_get (D := D) (ci := 1) (v := .ref a2) (C := RX1) (T := TX1) (N := 7) hx hb hts hiX1 hown hB.1 hP 0 rfl rfl 3 (by decide) (hts _ (List.mem_of_getElem? (i := 1) rfl)) (fun _ h9 => h9) rfl dX1_isTold_1 ?_
  refine lv_iload_n hx hb dX1_isTold_4 rfl (lv_at hl 1 rfl) ?_
  refine lv_aload_n hx hb dX1_isTold_5 rfl (lv_at hl 0 rfl) ?_
  refine va_get (D := D) (ci := 1) (v := .int (nI np)) (C := RX1) (T := TX1) (N := 7) hx hb hts hiX1 hown hB.1 hP 0 rfl rfl 1 (by decide) (hts _ (List.mem_of_getElem? (i := 2) rfl)) (fun _ h9 => h9) rfl dX1_isTold_6 ?_
  refine lv_imul hx hb dX1_isTold_9 ?_
  refine lv_iload_n hx hb dX1_isTold_10 rfl (lv_at hl 2 rfl) ?_
  refine lv_iadd hx hb dX1_isTold_11 ?_
  refine ra_i hx hb hB.1 hP 2 rfl ((i * np) + j) (nx_add (nx_mul e_i rfl) e_j) (ix2 hi hj) hlen dX1_isTold_12 ?_
  refine lv_iconst (v := (-1)) hx hb dX1_isTold_13 (by decide) ?_
  refine lv_icmp_eq (tgt := 21) hx hb dX1_isTold_14 (by decide) (fun c_1 => ?_) (fun c_1 => ?_)
  · refine lv_iconst (v := 0) hx hb dX1_isTold_21 (by decide) ?_
    have er : F_X1_isTold np ft i j = 0 := by rw [F_X1_isTold, if_pos c_1]
    exact W.zret hx hb hr rfl (fun t ht hW => ⟨⟨_, (), rfl, er.symm, by rw [ht]; exact hP, hD⟩, hS.F ht⟩) hS.2.2 dX1_isTold_22
  · refine lv_iconst (v := 1) hx hb dX1_isTold_17 (by decide) ?_
    refine lv_goto (tgt := 22) hx hb dX1_isTold_18 (by decide) ?_
    have er : F_X1_isTold np ft i j = 1 := by rw [F_X1_isTold, if_neg c_1]
    exact W.zret hx hb hr rfl (fun t ht hW => ⟨⟨_, (), rfl, er.symm, by rw [ht]; exact hP, hD⟩, hS.F ht⟩) hS.2.2 dX1_isTold_22

set_option maxHeartbeats 4000000 in
set_option maxRecDepth 100000 in
theorem c_X1_leastAt (l : Launch) {D : va_G} {cI cZ cB : ClassId} {au : Nat} {kA kV : Nat → Nat} {z0 : Nat} (sz : Nat) (h0 : Nat) (a1 : Nat) (a2 : Nat) (a3 : Nat) (a4 : Nat) (nr : Nat) (np : Nat) (g : Int32) (fd : Nat → Int32) (ft : Nat → Int32) (fl : Nat → Int32) (fg : Nat → Int32) (row : Int32) (place : Int32) (i : Nat) (j : Nat) (hlen : nr * np < 2 ^ 31) (e_i : row = nI i) (e_j : place = nI j) (hi : i < nr) (hj : j < np) : Met l yX1_leastAt wsX1_leastAt ({ frames := 0, cells := 0, slots := 0, locals := 0 }) (va_Pc [.ref h0, .int row, .int place] (PRE D cI cZ cB au kA kV z0 sz [(h0, .inr (1, [.int (nI nr), .int (nI np), .ref a1, .ref a2, .ref a3, .ref a4, .int g])), (a1, .inl (cI, nr * np, .inl fd)), (a2, .inl (cI, nr * np, .inl ft)), (a3, .inl (cI, nr * np, .inl fl)), (a4, .inl (cI, nr * np, .inl fg))])) (QI D [(h0, .inr (1, [.int (nI nr), .int (nI np), .ref a1, .ref a2, .ref a3, .ref a4, .int g])), (a1, .inl (cI, nr * np, .inl fd)), (a2, .inl (cI, nr * np, .inl ft)), (a3, .inl (cI, nr * np, .inl fl)), (a4, .inl (cI, nr * np, .inl fg))] sz (fl ((i * np) + j)) [(h0, .inr (1, [.int (nI nr), .int (nI np), .ref a1, .ref a2, .ref a3, .ref a4, .int g])), (a1, .inl (cI, nr * np, .inl fd)), (a2, .inl (cI, nr * np, .inl ft)), (a3, .inl (cI, nr * np, .inl fl)), (a4, .inl (cI, nr * np, .inl fg))]) 0 0 (va_A [(h0, .inr (1, [.int (nI nr), .int (nI np), .ref a1, .ref a2, .ref a3, .ref a4, .int g])), (a1, .inl (cI, nr * np, .inl fd)), (a2, .inl (cI, nr * np, .inl ft)), (a3, .inl (cI, nr * np, .inl fl)), (a4, .inl (cI, nr * np, .inl fg))] sz) := by
  refine Met.ofW (cc := cX1_leastAt) (maxL := 3) (ret := (some .int)) (by decide) rfl ?_
  intro p e s m args below meth c s₁ B hml hv
  obtain ⟨rfl, hsz, hz, hP, hD0, hB⟩ := hv
  have hx := B.exec
  have hb := B.bytes
  have hr := B.returns
  have hts := atoms_spec (ws := wsX1_leastAt) B.pre
  have hown : s.vm.findClass RX1 = some m.cls := findClass_of_methodNamed B.named
  have hlocks := B.notSynchronized
  subst hsz
  have hD := hD0.self (sz := s.heap.size)
  have hA0 := va_A0 hD0 hz
  unfold QI
  generalize hAe : va_A [(h0, .inr (1, [.int (nI nr), .int (nI np), .ref a1, .ref a2, .ref a3, .ref a4, .int g])), (a1, .inl (cI, nr * np, .inl fd)), (a2, .inl (cI, nr * np, .inl ft)), (a3, .inl (cI, nr * np, .inl fl)), (a4, .inl (cI, nr * np, .inl fg))] s.heap.size = A at hD hA0 ⊢
  have hA : ∀ q : Nat, s.heap.size ≤ q → A q := fun q h => by rw [← hAe]; exact Or.inr h
  have hS : va_S A s.heap s.heap [] := va_S.rf
  have hiX1 : ∀ w ∈ wsX10, w ∈ wsX1_leastAt := fun w h => List.mem_cons_of_mem _ (List.mem_append_right _ h)
  have hl := lv_entry ([.ref h0, .int row, .int place]) (n := 3) (Nat.le_of_ble_eq_true rfl)
  rw [lg_entry_eq]
  generalize (lg_sl ([.ref h0, .int row, .int place]) ++ List.replicate (3 - (lg_sl ([.ref h0, .int row, .int place])).length) Slot.unset).toArray = ls at hl ⊢
  have hl : lv_has ls 3 [(0, .ref h0), (1, .int row), (2, .int place)] := hl
  refine lv_aload_n hx hb dX1_leastAt_0 rfl (lv_at hl 0 rfl) ?_
  refine va_get (D := D) (ci := 1) (v := .ref a3) (C := RX1) (T := TX1) (N := 7) hx hb hts hiX1 hown hB.1 hP 0 rfl rfl 4 (by decide) (hts _ (List.mem_of_getElem? (i := 1) rfl)) (fun _ h9 => h9) rfl dX1_leastAt_1 ?_
  refine lv_iload_n hx hb dX1_leastAt_4 rfl (lv_at hl 1 rfl) ?_
  refine lv_aload_n hx hb dX1_leastAt_5 rfl (lv_at hl 0 rfl) ?_
  refine va_get (D := D) (ci := 1) (v := .int (nI np)) (C := RX1) (T := TX1) (N := 7) hx hb hts hiX1 hown hB.1 hP 0 rfl rfl 1 (by decide) (hts _ (List.mem_of_getElem? (i := 2) rfl)) (fun _ h9 => h9) rfl dX1_leastAt_6 ?_
  refine lv_imul hx hb dX1_leastAt_9 ?_
  refine lv_iload_n hx hb dX1_leastAt_10 rfl (lv_at hl 2 rfl) ?_
  refine lv_iadd hx hb dX1_leastAt_11 ?_
  refine ra_i hx hb hB.1 hP 3 rfl ((i * np) + j) (nx_add (nx_mul e_i rfl) e_j) (ix2 hi hj) hlen dX1_leastAt_12 ?_
  exact W.iret hx hb hr (fun t ht hW => ⟨⟨_, (), rfl, rfl, by rw [ht]; exact hP, hD⟩, hS.F ht⟩) hS.2.2 dX1_leastAt_13

set_option maxHeartbeats 4000000 in
set_option maxRecDepth 100000 in
theorem c_X1_greatestAt (l : Launch) {D : va_G} {cI cZ cB : ClassId} {au : Nat} {kA kV : Nat → Nat} {z0 : Nat} (sz : Nat) (h0 : Nat) (a1 : Nat) (a2 : Nat) (a3 : Nat) (a4 : Nat) (nr : Nat) (np : Nat) (g : Int32) (fd : Nat → Int32) (ft : Nat → Int32) (fl : Nat → Int32) (fg : Nat → Int32) (row : Int32) (place : Int32) (i : Nat) (j : Nat) (hlen : nr * np < 2 ^ 31) (e_i : row = nI i) (e_j : place = nI j) (hi : i < nr) (hj : j < np) : Met l yX1_greatestAt wsX1_greatestAt ({ frames := 0, cells := 0, slots := 0, locals := 0 }) (va_Pc [.ref h0, .int row, .int place] (PRE D cI cZ cB au kA kV z0 sz [(h0, .inr (1, [.int (nI nr), .int (nI np), .ref a1, .ref a2, .ref a3, .ref a4, .int g])), (a1, .inl (cI, nr * np, .inl fd)), (a2, .inl (cI, nr * np, .inl ft)), (a3, .inl (cI, nr * np, .inl fl)), (a4, .inl (cI, nr * np, .inl fg))])) (QI D [(h0, .inr (1, [.int (nI nr), .int (nI np), .ref a1, .ref a2, .ref a3, .ref a4, .int g])), (a1, .inl (cI, nr * np, .inl fd)), (a2, .inl (cI, nr * np, .inl ft)), (a3, .inl (cI, nr * np, .inl fl)), (a4, .inl (cI, nr * np, .inl fg))] sz (fg ((i * np) + j)) [(h0, .inr (1, [.int (nI nr), .int (nI np), .ref a1, .ref a2, .ref a3, .ref a4, .int g])), (a1, .inl (cI, nr * np, .inl fd)), (a2, .inl (cI, nr * np, .inl ft)), (a3, .inl (cI, nr * np, .inl fl)), (a4, .inl (cI, nr * np, .inl fg))]) 0 0 (va_A [(h0, .inr (1, [.int (nI nr), .int (nI np), .ref a1, .ref a2, .ref a3, .ref a4, .int g])), (a1, .inl (cI, nr * np, .inl fd)), (a2, .inl (cI, nr * np, .inl ft)), (a3, .inl (cI, nr * np, .inl fl)), (a4, .inl (cI, nr * np, .inl fg))] sz) := by
  refine Met.ofW (cc := cX1_greatestAt) (maxL := 3) (ret := (some .int)) (by decide) rfl ?_
  intro p e s m args below meth c s₁ B hml hv
  obtain ⟨rfl, hsz, hz, hP, hD0, hB⟩ := hv
  have hx := B.exec
  have hb := B.bytes
  have hr := B.returns
  have hts := atoms_spec (ws := wsX1_greatestAt) B.pre
  have hown : s.vm.findClass RX1 = some m.cls := findClass_of_methodNamed B.named
  have hlocks := B.notSynchronized
  subst hsz
  have hD := hD0.self (sz := s.heap.size)
  have hA0 := va_A0 hD0 hz
  unfold QI
  generalize hAe : va_A [(h0, .inr (1, [.int (nI nr), .int (nI np), .ref a1, .ref a2, .ref a3, .ref a4, .int g])), (a1, .inl (cI, nr * np, .inl fd)), (a2, .inl (cI, nr * np, .inl ft)), (a3, .inl (cI, nr * np, .inl fl)), (a4, .inl (cI, nr * np, .inl fg))] s.heap.size = A at hD hA0 ⊢
  have hA : ∀ q : Nat, s.heap.size ≤ q → A q := fun q h => by rw [← hAe]; exact Or.inr h
  have hS : va_S A s.heap s.heap [] := va_S.rf
  have hiX1 : ∀ w ∈ wsX10, w ∈ wsX1_greatestAt := fun w h => List.mem_cons_of_mem _ (List.mem_append_right _ h)
  have hl := lv_entry ([.ref h0, .int row, .int place]) (n := 3) (Nat.le_of_ble_eq_true rfl)
  rw [lg_entry_eq]
  generalize (lg_sl ([.ref h0, .int row, .int place]) ++ List.replicate (3 - (lg_sl ([.ref h0, .int row, .int place])).length) Slot.unset).toArray = ls at hl ⊢
  have hl : lv_has ls 3 [(0, .ref h0), (1, .int row), (2, .int place)] := hl
  refine lv_aload_n hx hb dX1_greatestAt_0 rfl (lv_at hl 0 rfl) ?_
  refine va_get (D := D) (ci := 1) (v := .ref a4) (C := RX1) (T := TX1) (N := 7) hx hb hts hiX1 hown hB.1 hP 0 rfl rfl 5 (by decide) (hts _ (List.mem_of_getElem? (i := 1) rfl)) (fun _ h9 => h9) rfl dX1_greatestAt_1 ?_
  refine lv_iload_n hx hb dX1_greatestAt_4 rfl (lv_at hl 1 rfl) ?_
  refine lv_aload_n hx hb dX1_greatestAt_5 rfl (lv_at hl 0 rfl) ?_
  refine va_get (D := D) (ci := 1) (v := .int (nI np)) (C := RX1) (T := TX1) (N := 7) hx hb hts hiX1 hown hB.1 hP 0 rfl rfl 1 (by decide) (hts _ (List.mem_of_getElem? (i := 2) rfl)) (fun _ h9 => h9) rfl dX1_greatestAt_6 ?_
  refine lv_imul hx hb dX1_greatestAt_9 ?_
  refine lv_iload_n hx hb dX1_greatestAt_10 rfl (lv_at hl 2 rfl) ?_
  refine lv_iadd hx hb dX1_greatestAt_11 ?_
  refine ra_i hx hb hB.1 hP 4 rfl ((i * np) + j) (nx_add (nx_mul e_i rfl) e_j) (ix2 hi hj) hlen dX1_greatestAt_12 ?_
  exact W.iret hx hb hr (fun t ht hW => ⟨⟨_, (), rfl, rfl, by rw [ht]; exact hP, hD⟩, hS.F ht⟩) hS.2.2 dX1_greatestAt_13

set_option maxHeartbeats 4000000 in
set_option maxRecDepth 100000 in
theorem c_X1_deepen (l : Launch) {D : va_G} {cI cZ cB : ClassId} {au : Nat} {kA kV : Nat → Nat} {z0 : Nat} (sz : Nat) (h0 : Nat) (a1 : Nat) (a2 : Nat) (a3 : Nat) (a4 : Nat) (nr : Nat) (np : Nat) (g : Int32) (fd : Nat → Int32) (ft : Nat → Int32) (fl : Nat → Int32) (fg : Nat → Int32) (row : Int32) (place : Int32) (i : Nat) (j : Nat) (depth : Int32) (hlen : nr * np < 2 ^ 31) (e_i : row = nI i) (e_j : place = nI j) (hi : i < nr) (hj : j < np) : Met l yX1_deepen wsX1_deepen ({ frames := 0, cells := 0, slots := 0, locals := 0 }) (va_Pc [.ref h0, .int row, .int place, .int depth] (PRE D cI cZ cB au kA kV z0 sz [(h0, .inr (1, [.int (nI nr), .int (nI np), .ref a1, .ref a2, .ref a3, .ref a4, .int g])), (a1, .inl (cI, nr * np, .inl fd)), (a2, .inl (cI, nr * np, .inl ft)), (a3, .inl (cI, nr * np, .inl fl)), (a4, .inl (cI, nr * np, .inl fg))])) (QV D [(h0, .inr (1, [.int (nI nr), .int (nI np), .ref a1, .ref a2, .ref a3, .ref a4, .int g])), (a1, .inl (cI, nr * np, .inl fd)), (a2, .inl (cI, nr * np, .inl ft)), (a3, .inl (cI, nr * np, .inl fl)), (a4, .inl (cI, nr * np, .inl fg))] sz [(h0, .inr (1, [.int (nI nr), .int (nI np), .ref a1, .ref a2, .ref a3, .ref a4, .int g])), (a1, .inl (cI, nr * np, .inl (upd fd ((i * np) + j) depth))), (a2, .inl (cI, nr * np, .inl ft)), (a3, .inl (cI, nr * np, .inl fl)), (a4, .inl (cI, nr * np, .inl fg))]) 0 0 (va_A [(h0, .inr (1, [.int (nI nr), .int (nI np), .ref a1, .ref a2, .ref a3, .ref a4, .int g])), (a1, .inl (cI, nr * np, .inl fd)), (a2, .inl (cI, nr * np, .inl ft)), (a3, .inl (cI, nr * np, .inl fl)), (a4, .inl (cI, nr * np, .inl fg))] sz) := by
  refine Met.ofW (cc := cX1_deepen) (maxL := 4) (ret := none) (by decide) rfl ?_
  intro p e s m args below meth c s₁ B hml hv
  obtain ⟨rfl, hsz, hz, hP, hD0, hB⟩ := hv
  have hx := B.exec
  have hb := B.bytes
  have hr := B.returns
  have hts := atoms_spec (ws := wsX1_deepen) B.pre
  have hown : s.vm.findClass RX1 = some m.cls := findClass_of_methodNamed B.named
  have hlocks := B.notSynchronized
  subst hsz
  have hD := hD0.self (sz := s.heap.size)
  have hA0 := va_A0 hD0 hz
  unfold QV
  generalize hAe : va_A [(h0, .inr (1, [.int (nI nr), .int (nI np), .ref a1, .ref a2, .ref a3, .ref a4, .int g])), (a1, .inl (cI, nr * np, .inl fd)), (a2, .inl (cI, nr * np, .inl ft)), (a3, .inl (cI, nr * np, .inl fl)), (a4, .inl (cI, nr * np, .inl fg))] s.heap.size = A at hD hA0 ⊢
  have hA : ∀ q : Nat, s.heap.size ≤ q → A q := fun q h => by rw [← hAe]; exact Or.inr h
  have hS : va_S A s.heap s.heap [] := va_S.rf
  have hiX1 : ∀ w ∈ wsX10, w ∈ wsX1_deepen := fun w h => List.mem_cons_of_mem _ (List.mem_append_right _ h)
  have hl := lv_entry ([.ref h0, .int row, .int place, .int depth]) (n := 4) (Nat.le_of_ble_eq_true rfl)
  rw [lg_entry_eq]
  generalize (lg_sl ([.ref h0, .int row, .int place, .int depth]) ++ List.replicate (4 - (lg_sl ([.ref h0, .int row, .int place, .int depth])).length) Slot.unset).toArray = ls at hl ⊢
  have hl : lv_has ls 4 [(0, .ref h0), (1, .int row), (2, .int place), (3, .int depth)] := hl
  refine lv_aload_n hx hb dX1_deepen_0 rfl (lv_at hl 0 rfl) ?_
  refine va_get (D := D) (ci := 1) (v := .ref a1) (C := RX1) (T := TX1) (N := 7) hx hb hts hiX1 hown hB.1 hP 0 rfl rfl 2 (by decide) (hts _ (List.mem_of_getElem? (i := 1) rfl)) (fun _ h9 => h9) rfl dX1_deepen_1 ?_
  refine lv_iload_n hx hb dX1_deepen_4 rfl (lv_at hl 1 rfl) ?_
  refine lv_aload_n hx hb dX1_deepen_5 rfl (lv_at hl 0 rfl) ?_
  refine va_get (D := D) (ci := 1) (v := .int (nI np)) (C := RX1) (T := TX1) (N := 7) hx hb hts hiX1 hown hB.1 hP 0 rfl rfl 1 (by decide) (hts _ (List.mem_of_getElem? (i := 2) rfl)) (fun _ h9 => h9) rfl dX1_deepen_6 ?_
  refine lv_imul hx hb dX1_deepen_9 ?_
  refine lv_iload_n hx hb dX1_deepen_10 rfl (lv_at hl 2 rfl) ?_
  refine lv_iadd hx hb dX1_deepen_11 ?_
  refine lv_iload_n hx hb dX1_deepen_12 rfl (lv_at hl 3 rfl) ?_
  refine wa_i (w2 := [(h0, .inr (1, [.int (nI nr), .int (nI np), .ref a1, .ref a2, .ref a3, .ref a4, .int g])), (a1, .inl (cI, nr * np, .inl (upd fd ((i * np) + j) depth))), (a2, .inl (cI, nr * np, .inl ft)), (a3, .inl (cI, nr * np, .inl fl)), (a4, .inl (cI, nr * np, .inl fg))]) hx hb hB.1 hP hD hS 1 rfl ((i * np) + j) (nx_add (nx_mul e_i rfl) e_j) (ix2 hi hj) hlen dX1_deepen_13 rfl (fun H locs hP hD hS => ?_)
  exact W.vret hx hb hr (fun t ht hW => ⟨⟨(), rfl, trivial, by rw [ht]; exact hP, hD⟩, hS.F ht⟩) hS.2.2 dX1_deepen_14

def F_X1_quarrelsAt (np : Nat) (fl : Nat → Int32) (fg : Nat → Int32) (i : Nat) (j : Nat) : Int32 :=
  if (fl ((i * np) + j)) ≤ (fg ((i * np) + j)) then 0 else
  1
set_option maxHeartbeats 4000000 in
set_option maxRecDepth 100000 in
theorem c_X1_quarrelsAt (l : Launch) {D : va_G} {cI cZ cB : ClassId} {au : Nat} {kA kV : Nat → Nat} {z0 : Nat} (sz : Nat) (h0 : Nat) (a1 : Nat) (a2 : Nat) (a3 : Nat) (a4 : Nat) (nr : Nat) (np : Nat) (g : Int32) (fd : Nat → Int32) (ft : Nat → Int32) (fl : Nat → Int32) (fg : Nat → Int32) (row : Int32) (place : Int32) (i : Nat) (j : Nat) (hlen : nr * np < 2 ^ 31) (e_i : row = nI i) (e_j : place = nI j) (hi : i < nr) (hj : j < np) : Met l yX1_quarrelsAt wsX1_quarrelsAt ({ frames := 1, cells := 0, slots := 0, locals := 22 }) (va_Pc [.ref h0, .int row, .int place] (PRE D cI cZ cB au kA kV z0 sz [(h0, .inr (1, [.int (nI nr), .int (nI np), .ref a1, .ref a2, .ref a3, .ref a4, .int g])), (a1, .inl (cI, nr * np, .inl fd)), (a2, .inl (cI, nr * np, .inl ft)), (a3, .inl (cI, nr * np, .inl fl)), (a4, .inl (cI, nr * np, .inl fg))])) (QI D [(h0, .inr (1, [.int (nI nr), .int (nI np), .ref a1, .ref a2, .ref a3, .ref a4, .int g])), (a1, .inl (cI, nr * np, .inl fd)), (a2, .inl (cI, nr * np, .inl ft)), (a3, .inl (cI, nr * np, .inl fl)), (a4, .inl (cI, nr * np, .inl fg))] sz (F_X1_quarrelsAt np fl fg i j) [(h0, .inr (1, [.int (nI nr), .int (nI np), .ref a1, .ref a2, .ref a3, .ref a4, .int g])), (a1, .inl (cI, nr * np, .inl fd)), (a2, .inl (cI, nr * np, .inl ft)), (a3, .inl (cI, nr * np, .inl fl)), (a4, .inl (cI, nr * np, .inl fg))]) 0 0 (va_A [(h0, .inr (1, [.int (nI nr), .int (nI np), .ref a1, .ref a2, .ref a3, .ref a4, .int g])), (a1, .inl (cI, nr * np, .inl fd)), (a2, .inl (cI, nr * np, .inl ft)), (a3, .inl (cI, nr * np, .inl fl)), (a4, .inl (cI, nr * np, .inl fg))] sz) := by
  refine Met.ofW (cc := cX1_quarrelsAt) (maxL := 3) (ret := (some .boolean)) (by decide) rfl ?_
  intro p e s m args below meth c s₁ B hml hv
  obtain ⟨rfl, hsz, hz, hP, hD0, hB⟩ := hv
  have hx := B.exec
  have hb := B.bytes
  have hr := B.returns
  have hts := atoms_spec (ws := wsX1_quarrelsAt) B.pre
  have hown : s.vm.findClass RX1 = some m.cls := findClass_of_methodNamed B.named
  have hlocks := B.notSynchronized
  subst hsz
  have hD := hD0.self (sz := s.heap.size)
  have hA0 := va_A0 hD0 hz
  unfold QI
  generalize hAe : va_A [(h0, .inr (1, [.int (nI nr), .int (nI np), .ref a1, .ref a2, .ref a3, .ref a4, .int g])), (a1, .inl (cI, nr * np, .inl fd)), (a2, .inl (cI, nr * np, .inl ft)), (a3, .inl (cI, nr * np, .inl fl)), (a4, .inl (cI, nr * np, .inl fg))] s.heap.size = A at hD hA0 ⊢
  have hA : ∀ q : Nat, s.heap.size ≤ q → A q := fun q h => by rw [← hAe]; exact Or.inr h
  have hS : va_S A s.heap s.heap [] := va_S.rf
  have hl := lv_entry ([.ref h0, .int row, .int place]) (n := 3) (Nat.le_of_ble_eq_true rfl)
  rw [lg_entry_eq]
  generalize (lg_sl ([.ref h0, .int row, .int place]) ++ List.replicate (3 - (lg_sl ([.ref h0, .int row, .int place])).length) Slot.unset).toArray = ls at hl ⊢
  have hl : lv_has ls 3 [(0, .ref h0), (1, .int row), (2, .int place)] := hl
  refine lv_aload_n hx hb dX1_quarrelsAt_0 rfl (lv_at hl 0 rfl) ?_
  refine lv_iload_n hx hb dX1_quarrelsAt_1 rfl (lv_at hl 1 rfl) ?_
  refine lv_iload_n hx hb dX1_quarrelsAt_2 rfl (lv_at hl 2 rfl) ?_
  refine k_i (w2 := [(h0, .inr (1, [.int (nI nr), .int (nI np), .ref a1, .ref a2, .ref a3, .ref a4, .int g])), (a1, .inl (cI, nr * np, .inl fd)), (a2, .inl (cI, nr * np, .inl ft)), (a3, .inl (cI, nr * np, .inl fl)), (a4, .inl (cI, nr * np, .inl fg))]) (va_runV (As := [.int row, .int place]) (rest := []) ⟨hx, hb, hml, hown, hts⟩ (c_X1_leastAt l _ h0 a1 a2 a3 a4 nr np g fd ft fl fg row place i j hlen e_i e_j hi hj) (cwV 2 hts gX1_quarrelsAt_X1_leastAt rfl rfl rfl (by decide +kernel) ⟨Nat.le_of_ble_eq_true rfl, Nat.le_of_ble_eq_true rfl⟩) (pre_V (ci := 1) (q0 := 0) hB hz hA0 hP hD hS [0, 1, 2, 3, 4] rfl rfl rfl rfl rfl) rfl rfl hl.1 rfl (lv_room (Nat.le_of_ble_eq_true rfl)) dX1_quarrelsAt_3 ⟨Nat.zero_le _, Nat.zero_le _⟩) hP hD hS hA [0, 1, 2, 3, 4] [] [0, 1, 2, 3, 4] rfl rfl rfl rfl rfl (fun H locs hP hD hS => ?_)
  refine lv_aload_n hx hb dX1_quarrelsAt_6 rfl (lv_at hl 0 rfl) ?_
  refine lv_iload_n hx hb dX1_quarrelsAt_7 rfl (lv_at hl 1 rfl) ?_
  refine lv_iload_n hx hb dX1_quarrelsAt_8 rfl (lv_at hl 2 rfl) ?_
  refine k_i (w2 := [(h0, .inr (1, [.int (nI nr), .int (nI np), .ref a1, .ref a2, .ref a3, .ref a4, .int g])), (a1, .inl (cI, nr * np, .inl fd)), (a2, .inl (cI, nr * np, .inl ft)), (a3, .inl (cI, nr * np, .inl fl)), (a4, .inl (cI, nr * np, .inl fg))]) (va_runV (As := [.int row, .int place]) (rest := [.int (fl ((i * np) + j))]) ⟨hx, hb, hml, hown, hts⟩ (c_X1_greatestAt l _ h0 a1 a2 a3 a4 nr np g fd ft fl fg row place i j hlen e_i e_j hi hj) (cwV 2 hts gX1_quarrelsAt_X1_greatestAt rfl rfl rfl (by decide +kernel) ⟨Nat.le_of_ble_eq_true rfl, Nat.le_of_ble_eq_true rfl⟩) (pre_V (ci := 1) (q0 := 0) hB hz hA0 hP hD hS [0, 1, 2, 3, 4] rfl rfl rfl rfl rfl) rfl rfl hl.1 rfl (lv_room (Nat.le_of_ble_eq_true rfl)) dX1_quarrelsAt_9 ⟨Nat.zero_le _, Nat.zero_le _⟩) hP hD hS hA [0, 1, 2, 3, 4] [] [0, 1, 2, 3, 4] rfl rfl rfl rfl rfl (fun H locs hP hD hS => ?_)
  refine lv_icmp_le (tgt := 19) hx hb dX1_quarrelsAt_12 (by decide) (fun c_1 => ?_) (fun c_1 => ?_)
  · refine lv_iconst (v := 0) hx hb dX1_quarrelsAt_19 (by decide) ?_
    have er : F_X1_quarrelsAt np fl fg i j = 0 := by rw [F_X1_quarrelsAt, if_pos c_1]
    exact W.zret hx hb hr rfl (fun t ht hW => ⟨⟨_, (), rfl, er.symm, by rw [ht]; exact hP, hD⟩, hS.F ht⟩) hS.2.2 dX1_quarrelsAt_20
  · refine lv_iconst (v := 1) hx hb dX1_quarrelsAt_15 (by decide) ?_
    refine lv_goto (tgt := 20) hx hb dX1_quarrelsAt_16 (by decide) ?_
    have er : F_X1_quarrelsAt np fl fg i j = 1 := by rw [F_X1_quarrelsAt, if_neg c_1]
    exact W.zret hx hb hr rfl (fun t ht hW => ⟨⟨_, (), rfl, er.symm, by rw [ht]; exact hP, hD⟩, hS.F ht⟩) hS.2.2 dX1_quarrelsAt_20

def F_X1_quarrels_L4 (fl : Nat → Int32) (fg : Nat → Int32) (t : Nat) (s_ : Int32) : Int32 :=
    if (fl t) ≤ (fg t) then (s_) else
    s_ + 1
set_option maxHeartbeats 4000000 in
set_option maxRecDepth 100000 in
theorem c_X1_quarrels (l : Launch) {D : va_G} {cI cZ cB : ClassId} {au : Nat} {kA kV : Nat → Nat} {z0 : Nat} (sz : Nat) (h0 : Nat) (a1 : Nat) (a2 : Nat) (a3 : Nat) (a4 : Nat) (nr : Nat) (np : Nat) (g : Int32) (fd : Nat → Int32) (ft : Nat → Int32) (fl : Nat → Int32) (fg : Nat → Int32) (hlen : nr * np < 2 ^ 31) : Met l yX1_quarrels wsX1_quarrels ({ frames := 0, cells := 0, slots := 0, locals := 0 }) (va_Pc [.ref h0] (PRE D cI cZ cB au kA kV z0 sz [(h0, .inr (1, [.int (nI nr), .int (nI np), .ref a1, .ref a2, .ref a3, .ref a4, .int g])), (a1, .inl (cI, nr * np, .inl fd)), (a2, .inl (cI, nr * np, .inl ft)), (a3, .inl (cI, nr * np, .inl fl)), (a4, .inl (cI, nr * np, .inl fg))])) (QI D [(h0, .inr (1, [.int (nI nr), .int (nI np), .ref a1, .ref a2, .ref a3, .ref a4, .int g])), (a1, .inl (cI, nr * np, .inl fd)), (a2, .inl (cI, nr * np, .inl ft)), (a3, .inl (cI, nr * np, .inl fl)), (a4, .inl (cI, nr * np, .inl fg))] sz (lp (F_X1_quarrels_L4 fl fg) (nr * np) 0) [(h0, .inr (1, [.int (nI nr), .int (nI np), .ref a1, .ref a2, .ref a3, .ref a4, .int g])), (a1, .inl (cI, nr * np, .inl fd)), (a2, .inl (cI, nr * np, .inl ft)), (a3, .inl (cI, nr * np, .inl fl)), (a4, .inl (cI, nr * np, .inl fg))]) 0 0 (va_A [(h0, .inr (1, [.int (nI nr), .int (nI np), .ref a1, .ref a2, .ref a3, .ref a4, .int g])), (a1, .inl (cI, nr * np, .inl fd)), (a2, .inl (cI, nr * np, .inl ft)), (a3, .inl (cI, nr * np, .inl fl)), (a4, .inl (cI, nr * np, .inl fg))] sz) := by
  refine Met.ofW (cc := cX1_quarrels) (maxL := 3) (ret := (some .int)) (by decide) rfl ?_
  intro p e s m args below meth c s₁ B hml hv
  obtain ⟨rfl, hsz, hz, hP, hD0, hB⟩ := hv
  have hx := B.exec
  have hb := B.bytes
  have hr := B.returns
  have hts := atoms_spec (ws := wsX1_quarrels) B.pre
  have hown : s.vm.findClass RX1 = some m.cls := findClass_of_methodNamed B.named
  have hlocks := B.notSynchronized
  subst hsz
  have hD := hD0.self (sz := s.heap.size)
  have hA0 := va_A0 hD0 hz
  unfold QI
  generalize hAe : va_A [(h0, .inr (1, [.int (nI nr), .int (nI np), .ref a1, .ref a2, .ref a3, .ref a4, .int g])), (a1, .inl (cI, nr * np, .inl fd)), (a2, .inl (cI, nr * np, .inl ft)), (a3, .inl (cI, nr * np, .inl fl)), (a4, .inl (cI, nr * np, .inl fg))] s.heap.size = A at hD hA0 ⊢
  have hA : ∀ q : Nat, s.heap.size ≤ q → A q := fun q h => by rw [← hAe]; exact Or.inr h
  have hS : va_S A s.heap s.heap [] := va_S.rf
  have hiX1 : ∀ w ∈ wsX10, w ∈ wsX1_quarrels := fun w h => List.mem_cons_of_mem _ (List.mem_append_right _ h)
  have hl := lv_entry ([.ref h0]) (n := 3) (Nat.le_of_ble_eq_true rfl)
  rw [lg_entry_eq]
  generalize (lg_sl ([.ref h0]) ++ List.replicate (3 - (lg_sl ([.ref h0])).length) Slot.unset).toArray = ls at hl ⊢
  have hl : lv_has ls 3 [(0, .ref h0)] := hl
  refine lv_iconst (v := 0) hx hb dX1_quarrels_0 (by decide) ?_
  refine lv_istore_n (lv' := [(1, .int 0), (0, .ref h0)]) hx hb dX1_quarrels_1 rfl hl (by decide) rfl (fun ls hl => ?_)
  refine lv_iconst (v := 0) hx hb dX1_quarrels_2 (by decide) ?_
  refine lv_istore_n (lv' := [(2, .int 0), (1, .int 0), (0, .ref h0)]) hx hb dX1_quarrels_3 rfl hl (by decide) rfl (fun ls hl => ?_)
  refine lpM (σ := Nat) (fun t => t ≤ nr * np) (fun t => (nr * np) - t) (fun t => [(h0, .inr (1, [.int (nI nr), .int (nI np), .ref a1, .ref a2, .ref a3, .ref a4, .int g])), (a1, .inl (cI, nr * np, .inl fd)), (a2, .inl (cI, nr * np, .inl ft)), (a3, .inl (cI, nr * np, .inl fl)), (a4, .inl (cI, nr * np, .inl fg))]) (fun t => [(2, .int (nI t)), (1, .int (lp (F_X1_quarrels_L4 fl fg) t 0)), (0, .ref h0)]) 0 (Nat.zero_le _) hP hD hS (lv_sub hl [0, 1, 2] rfl) ?_
  intro t h_t ih_t H locs ls hP hD hS hl
  have hP : va_P D vwCl [(h0, .inr (1, [.int (nI nr), .int (nI np), .ref a1, .ref a2, .ref a3, .ref a4, .int g])), (a1, .inl (cI, nr * np, .inl fd)), (a2, .inl (cI, nr * np, .inl ft)), (a3, .inl (cI, nr * np, .inl fl)), (a4, .inl (cI, nr * np, .inl fg))] H := hP
  have hD : va_D A [(h0, .inr (1, [.int (nI nr), .int (nI np), .ref a1, .ref a2, .ref a3, .ref a4, .int g])), (a1, .inl (cI, nr * np, .inl fd)), (a2, .inl (cI, nr * np, .inl ft)), (a3, .inl (cI, nr * np, .inl fl)), (a4, .inl (cI, nr * np, .inl fg))] := hD
  have hl : lv_has ls 3 [(2, .int (nI t)), (1, .int (lp (F_X1_quarrels_L4 fl fg) t 0)), (0, .ref h0)] := hl
  generalize hs_t : lp (F_X1_quarrels_L4 fl fg) t 0 = sv1 at hl
  refine lv_iload_n hx hb dX1_quarrels_4 rfl (lv_at hl 0 rfl) ?_
  refine lv_aload_n hx hb dX1_quarrels_5 rfl (lv_at hl 2 rfl) ?_
  refine va_get (D := D) (ci := 1) (v := .ref a3) (C := RX1) (T := TX1) (N := 7) hx hb hts hiX1 hown hB.1 hP 0 rfl rfl 4 (by decide) (hts _ (List.mem_of_getElem? (i := 1) rfl)) (fun _ h9 => h9) rfl dX1_quarrels_6 ?_
  refine va_alen (v := nI (nr * np)) hx hb hB.1 hP 3 0 rfl rfl rfl dX1_quarrels_9 ?_
  refine lv_icmp_ge (tgt := 37) hx hb dX1_quarrels_10 (by decide) (fun c_2 => ?_) (fun c_2 => ?_)
  · have hx_t : nr * np = t := Eq.symm (le_ex hlen h_t c_2)
    subst hx_t
    subst hs_t
    refine lv_iload_n hx hb dX1_quarrels_37 rfl (lv_at hl 1 rfl) ?_
    exact W.iret hx hb hr (fun t ht hW => ⟨⟨_, (), rfl, rfl, by rw [ht]; exact hP, hD⟩, hS.F ht⟩) hS.2.2 dX1_quarrels_38
  · have hlt_t : t < nr * np := le_go hlen h_t c_2
    refine lv_aload_n hx hb dX1_quarrels_13 rfl (lv_at hl 2 rfl) ?_
    refine va_get (D := D) (ci := 1) (v := .ref a3) (C := RX1) (T := TX1) (N := 7) hx hb hts hiX1 hown hB.1 hP 0 rfl rfl 4 (by decide) (hts _ (List.mem_of_getElem? (i := 1) rfl)) (fun _ h9 => h9) rfl dX1_quarrels_14 ?_
    refine lv_iload_n hx hb dX1_quarrels_17 rfl (lv_at hl 0 rfl) ?_
    refine ra_i hx hb hB.1 hP 3 rfl t rfl (by omega) hlen dX1_quarrels_18 ?_
    refine lv_aload_n hx hb dX1_quarrels_19 rfl (lv_at hl 2 rfl) ?_
    refine va_get (D := D) (ci := 1) (v := .ref a4) (C := RX1) (T := TX1) (N := 7) hx hb hts hiX1 hown hB.1 hP 0 rfl rfl 5 (by decide) (hts _ (List.mem_of_getElem? (i := 2) rfl)) (fun _ h9 => h9) rfl dX1_quarrels_20 ?_
    refine lv_iload_n hx hb dX1_quarrels_23 rfl (lv_at hl 0 rfl) ?_
    refine ra_i hx hb hB.1 hP 4 rfl t rfl (by omega) hlen dX1_quarrels_24 ?_
    refine lv_icmp_le (tgt := 31) hx hb dX1_quarrels_25 (by decide) (fun c_3 => ?_) (fun c_3 => ?_)
    · refine lv_iinc (v := nI (t + 1)) (lv' := [(2, .int (nI (t + 1))), (1, .int sv1), (0, .ref h0)]) hx hb dX1_quarrels_31 hl (k := 0) rfl (nI_1 _) (by decide) rfl (fun ls hl => ?_)
      refine lv_goto (tgt := 4) hx hb dX1_quarrels_34 (by decide) ?_
      have e_step : F_X1_quarrels_L4 fl fg t sv1 = sv1 := by rw [F_X1_quarrels_L4, if_pos c_3]
      have hP2 : va_P D vwCl [(h0, .inr (1, [.int (nI nr), .int (nI np), .ref a1, .ref a2, .ref a3, .ref a4, .int g])), (a1, .inl (cI, nr * np, .inl fd)), (a2, .inl (cI, nr * np, .inl ft)), (a3, .inl (cI, nr * np, .inl fl)), (a4, .inl (cI, nr * np, .inl fg))] H := hP
      have hD2 : va_D A [(h0, .inr (1, [.int (nI nr), .int (nI np), .ref a1, .ref a2, .ref a3, .ref a4, .int g])), (a1, .inl (cI, nr * np, .inl fd)), (a2, .inl (cI, nr * np, .inl ft)), (a3, .inl (cI, nr * np, .inl fl)), (a4, .inl (cI, nr * np, .inl fg))] := hD
      have hl2 : lv_has ls 3 [(2, .int (nI (t + 1))), (1, .int (F_X1_quarrels_L4 fl fg t sv1)), (0, .ref h0)] := by rw [e_step]; exact lv_sub hl [0, 1, 2] rfl
      subst hs_t
      exact ih_t (t + 1) (by omega) (by omega) _ _ _ hP2 hD2 hS hl2
    · refine lv_iinc (v := sv1 + 1) (lv' := [(1, .int (sv1 + 1)), (2, .int (nI t)), (0, .ref h0)]) hx hb dX1_quarrels_28 hl (k := 1) rfl rfl (by decide) rfl (fun ls hl => ?_)
      refine lv_iinc (v := nI (t + 1)) (lv' := [(2, .int (nI (t + 1))), (1, .int (sv1 + 1)), (0, .ref h0)]) hx hb dX1_quarrels_31 hl (k := 1) rfl (nI_1 _) (by decide) rfl (fun ls hl => ?_)
      refine lv_goto (tgt := 4) hx hb dX1_quarrels_34 (by decide) ?_
      have e_step : F_X1_quarrels_L4 fl fg t sv1 = sv1 + 1 := by rw [F_X1_quarrels_L4, if_neg c_3]
      have hP2 : va_P D vwCl [(h0, .inr (1, [.int (nI nr), .int (nI np), .ref a1, .ref a2, .ref a3, .ref a4, .int g])), (a1, .inl (cI, nr * np, .inl fd)), (a2, .inl (cI, nr * np, .inl ft)), (a3, .inl (cI, nr * np, .inl fl)), (a4, .inl (cI, nr * np, .inl fg))] H := hP
      have hD2 : va_D A [(h0, .inr (1, [.int (nI nr), .int (nI np), .ref a1, .ref a2, .ref a3, .ref a4, .int g])), (a1, .inl (cI, nr * np, .inl fd)), (a2, .inl (cI, nr * np, .inl ft)), (a3, .inl (cI, nr * np, .inl fl)), (a4, .inl (cI, nr * np, .inl fg))] := hD
      have hl2 : lv_has ls 3 [(2, .int (nI (t + 1))), (1, .int (F_X1_quarrels_L4 fl fg t sv1)), (0, .ref h0)] := by rw [e_step]; exact lv_sub hl [0, 1, 2] rfl
      subst hs_t
      exact ih_t (t + 1) (by omega) (by omega) _ _ _ hP2 hD2 hS hl2

def F_X1_openSpans_L2 (ft : Nat → Int32) (t : Nat) (s_ : (Nat → Int32) × (Nat → Int32)) : (Nat → Int32) × (Nat → Int32) :=
    if (ft t) = (-1) then ((upd s_.1 t 0, upd s_.2 t 1000)) else
    (upd s_.1 t (ft t), upd s_.2 t (ft t))
set_option maxHeartbeats 4000000 in
set_option maxRecDepth 100000 in
theorem c_X1_openSpans (l : Launch) {D : va_G} {cI cZ cB : ClassId} {au : Nat} {kA kV : Nat → Nat} {z0 : Nat} (sz : Nat) (h0 : Nat) (a1 : Nat) (a2 : Nat) (a3 : Nat) (a4 : Nat) (nr : Nat) (np : Nat) (g : Int32) (fd : Nat → Int32) (ft : Nat → Int32) (fl : Nat → Int32) (fg : Nat → Int32) (hlen : nr * np < 2 ^ 31) : Met l yX1_openSpans wsX1_openSpans ({ frames := 0, cells := 0, slots := 0, locals := 0 }) (va_Pc [.ref h0] (PRE D cI cZ cB au kA kV z0 sz [(h0, .inr (1, [.int (nI nr), .int (nI np), .ref a1, .ref a2, .ref a3, .ref a4, .int g])), (a1, .inl (cI, nr * np, .inl fd)), (a2, .inl (cI, nr * np, .inl ft)), (a3, .inl (cI, nr * np, .inl fl)), (a4, .inl (cI, nr * np, .inl fg))])) (QV D [(h0, .inr (1, [.int (nI nr), .int (nI np), .ref a1, .ref a2, .ref a3, .ref a4, .int g])), (a1, .inl (cI, nr * np, .inl fd)), (a2, .inl (cI, nr * np, .inl ft)), (a3, .inl (cI, nr * np, .inl fl)), (a4, .inl (cI, nr * np, .inl fg))] sz [(h0, .inr (1, [.int (nI nr), .int (nI np), .ref a1, .ref a2, .ref a3, .ref a4, .int g])), (a1, .inl (cI, nr * np, .inl fd)), (a2, .inl (cI, nr * np, .inl ft)), (a3, .inl (cI, nr * np, .inl ((lp (F_X1_openSpans_L2 ft) (nr * np) (fl, fg)).1))), (a4, .inl (cI, nr * np, .inl ((lp (F_X1_openSpans_L2 ft) (nr * np) (fl, fg)).2)))]) 0 0 (va_A [(h0, .inr (1, [.int (nI nr), .int (nI np), .ref a1, .ref a2, .ref a3, .ref a4, .int g])), (a1, .inl (cI, nr * np, .inl fd)), (a2, .inl (cI, nr * np, .inl ft)), (a3, .inl (cI, nr * np, .inl fl)), (a4, .inl (cI, nr * np, .inl fg))] sz) := by
  refine Met.ofW (cc := cX1_openSpans) (maxL := 3) (ret := none) (by decide) rfl ?_
  intro p e s m args below meth c s₁ B hml hv
  obtain ⟨rfl, hsz, hz, hP, hD0, hB⟩ := hv
  have hx := B.exec
  have hb := B.bytes
  have hr := B.returns
  have hts := atoms_spec (ws := wsX1_openSpans) B.pre
  have hown : s.vm.findClass RX1 = some m.cls := findClass_of_methodNamed B.named
  have hlocks := B.notSynchronized
  subst hsz
  have hD := hD0.self (sz := s.heap.size)
  have hA0 := va_A0 hD0 hz
  unfold QV
  generalize hAe : va_A [(h0, .inr (1, [.int (nI nr), .int (nI np), .ref a1, .ref a2, .ref a3, .ref a4, .int g])), (a1, .inl (cI, nr * np, .inl fd)), (a2, .inl (cI, nr * np, .inl ft)), (a3, .inl (cI, nr * np, .inl fl)), (a4, .inl (cI, nr * np, .inl fg))] s.heap.size = A at hD hA0 ⊢
  have hA : ∀ q : Nat, s.heap.size ≤ q → A q := fun q h => by rw [← hAe]; exact Or.inr h
  have hS : va_S A s.heap s.heap [] := va_S.rf
  have hiX1 : ∀ w ∈ wsX10, w ∈ wsX1_openSpans := fun w h => List.mem_cons_of_mem _ (List.mem_append_right _ h)
  have hl := lv_entry ([.ref h0]) (n := 3) (Nat.le_of_ble_eq_true rfl)
  rw [lg_entry_eq]
  generalize (lg_sl ([.ref h0]) ++ List.replicate (3 - (lg_sl ([.ref h0])).length) Slot.unset).toArray = ls at hl ⊢
  have hl : lv_has ls 3 [(0, .ref h0)] := hl
  refine lv_iconst (v := 0) hx hb dX1_openSpans_0 (by decide) ?_
  refine lv_istore_n (lv' := [(1, .int 0), (0, .ref h0)]) hx hb dX1_openSpans_1 rfl hl (by decide) rfl (fun ls hl => ?_)
  refine lpM (σ := Nat) (fun t => t ≤ nr * np) (fun t => (nr * np) - t) (fun t => [(h0, .inr (1, [.int (nI nr), .int (nI np), .ref a1, .ref a2, .ref a3, .ref a4, .int g])), (a1, .inl (cI, nr * np, .inl fd)), (a2, .inl (cI, nr * np, .inl ft)), (a3, .inl (cI, nr * np, .inl ((lp (F_X1_openSpans_L2 ft) t (fl, fg)).1))), (a4, .inl (cI, nr * np, .inl ((lp (F_X1_openSpans_L2 ft) t (fl, fg)).2)))]) (fun t => [(1, .int (nI t)), (0, .ref h0)]) 0 (Nat.zero_le _) hP hD hS (lv_sub hl [0, 1] rfl) ?_
  intro t h_t ih_t H locs ls hP hD hS hl
  have hP : va_P D vwCl [(h0, .inr (1, [.int (nI nr), .int (nI np), .ref a1, .ref a2, .ref a3, .ref a4, .int g])), (a1, .inl (cI, nr * np, .inl fd)), (a2, .inl (cI, nr * np, .inl ft)), (a3, .inl (cI, nr * np, .inl ((lp (F_X1_openSpans_L2 ft) t (fl, fg)).1))), (a4, .inl (cI, nr * np, .inl ((lp (F_X1_openSpans_L2 ft) t (fl, fg)).2)))] H := hP
  have hD : va_D A [(h0, .inr (1, [.int (nI nr), .int (nI np), .ref a1, .ref a2, .ref a3, .ref a4, .int g])), (a1, .inl (cI, nr * np, .inl fd)), (a2, .inl (cI, nr * np, .inl ft)), (a3, .inl (cI, nr * np, .inl ((lp (F_X1_openSpans_L2 ft) t (fl, fg)).1))), (a4, .inl (cI, nr * np, .inl ((lp (F_X1_openSpans_L2 ft) t (fl, fg)).2)))] := hD
  have hl : lv_has ls 3 [(1, .int (nI t)), (0, .ref h0)] := hl
  generalize hs_t : lp (F_X1_openSpans_L2 ft) t (fl, fg) = sv1 at hP hD 
  refine lv_iload_n hx hb dX1_openSpans_2 rfl (lv_at hl 0 rfl) ?_
  refine lv_aload_n hx hb dX1_openSpans_3 rfl (lv_at hl 1 rfl) ?_
  refine va_get (D := D) (ci := 1) (v := .ref a2) (C := RX1) (T := TX1) (N := 7) hx hb hts hiX1 hown hB.1 hP 0 rfl rfl 3 (by decide) (hts _ (List.mem_of_getElem? (i := 1) rfl)) (fun _ h9 => h9) rfl dX1_openSpans_4 ?_
  refine va_alen (v := nI (nr * np)) hx hb hB.1 hP 2 0 rfl rfl rfl dX1_openSpans_7 ?_
  refine lv_icmp_ge (tgt := 75) hx hb dX1_openSpans_8 (by decide) (fun c_2 => ?_) (fun c_2 => ?_)
  · have hx_t : nr * np = t := Eq.symm (le_ex hlen h_t c_2)
    subst hx_t
    subst hs_t
    exact W.vret hx hb hr (fun t ht hW => ⟨⟨(), rfl, trivial, by rw [ht]; exact hP, hD⟩, hS.F ht⟩) hS.2.2 dX1_openSpans_75
  · have hlt_t : t < nr * np := le_go hlen h_t c_2
    refine lv_aload_n hx hb dX1_openSpans_11 rfl (lv_at hl 1 rfl) ?_
    refine va_get (D := D) (ci := 1) (v := .ref a2) (C := RX1) (T := TX1) (N := 7) hx hb hts hiX1 hown hB.1 hP 0 rfl rfl 3 (by decide) (hts _ (List.mem_of_getElem? (i := 1) rfl)) (fun _ h9 => h9) rfl dX1_openSpans_12 ?_
    refine lv_iload_n hx hb dX1_openSpans_15 rfl (lv_at hl 0 rfl) ?_
    refine ra_i hx hb hB.1 hP 2 rfl t rfl (by omega) hlen dX1_openSpans_16 ?_
    refine lv_iconst (v := (-1)) hx hb dX1_openSpans_17 (by decide) ?_
    refine lv_icmp_eq (tgt := 25) hx hb dX1_openSpans_18 (by decide) (fun c_3 => ?_) (fun c_3 => ?_)
    · refine lv_iconst (v := 0) hx hb dX1_openSpans_25 (by decide) ?_
      refine lv_istore_n (lv' := [(2, .int 0), (1, .int (nI t)), (0, .ref h0)]) hx hb dX1_openSpans_26 rfl hl (by decide) rfl (fun ls hl => ?_)
      refine lv_aload_n hx hb dX1_openSpans_27 rfl (lv_at hl 2 rfl) ?_
      refine va_get (D := D) (ci := 1) (v := .ref a3) (C := RX1) (T := TX1) (N := 7) hx hb hts hiX1 hown hB.1 hP 0 rfl rfl 4 (by decide) (hts _ (List.mem_of_getElem? (i := 2) rfl)) (fun _ h9 => h9) rfl dX1_openSpans_28 ?_
      refine lv_iload_n hx hb dX1_openSpans_31 rfl (lv_at hl 1 rfl) ?_
      refine lv_iload_n hx hb dX1_openSpans_32 rfl (lv_at hl 0 rfl) ?_
      refine lv_if_eq (tgt := 45) hx hb dX1_openSpans_33 (by decide) (fun c_4 => ?_) (fun c_4 => ?_)
      · refine lv_iconst (v := 0) hx hb dX1_openSpans_45 (by decide) ?_
        refine wa_i (w2 := [(h0, .inr (1, [.int (nI nr), .int (nI np), .ref a1, .ref a2, .ref a3, .ref a4, .int g])), (a1, .inl (cI, nr * np, .inl fd)), (a2, .inl (cI, nr * np, .inl ft)), (a3, .inl (cI, nr * np, .inl (upd sv1.1 t 0))), (a4, .inl (cI, nr * np, .inl sv1.2))]) hx hb hB.1 hP hD hS 3 rfl t rfl (by omega) hlen dX1_openSpans_46 rfl (fun H locs hP hD hS => ?_)
        refine lv_aload_n hx hb dX1_openSpans_47 rfl (lv_at hl 2 rfl) ?_
        refine va_get (D := D) (ci := 1) (v := .ref a4) (C := RX1) (T := TX1) (N := 7) hx hb hts hiX1 hown hB.1 hP 0 rfl rfl 5 (by decide) (hts _ (List.mem_of_getElem? (i := 3) rfl)) (fun _ h9 => h9) rfl dX1_openSpans_48 ?_
        refine lv_iload_n hx hb dX1_openSpans_51 rfl (lv_at hl 1 rfl) ?_
        refine lv_iload_n hx hb dX1_openSpans_52 rfl (lv_at hl 0 rfl) ?_
        refine lv_if_eq (tgt := 65) hx hb dX1_openSpans_53 (by decide) (fun c_5 => ?_) (fun c_5 => ?_)
        · refine lv_sipush (v := 1000) hx hb dX1_openSpans_65 (by decide) ?_
          refine wa_i (w2 := [(h0, .inr (1, [.int (nI nr), .int (nI np), .ref a1, .ref a2, .ref a3, .ref a4, .int g])), (a1, .inl (cI, nr * np, .inl fd)), (a2, .inl (cI, nr * np, .inl ft)), (a3, .inl (cI, nr * np, .inl (upd sv1.1 t 0))), (a4, .inl (cI, nr * np, .inl (upd sv1.2 t 1000)))]) hx hb hB.1 hP hD hS 4 rfl t rfl (by omega) hlen dX1_openSpans_68 rfl (fun H locs hP hD hS => ?_)
          refine lv_iinc (v := nI (t + 1)) (lv' := [(1, .int (nI (t + 1))), (2, .int 0), (0, .ref h0)]) hx hb dX1_openSpans_69 hl (k := 1) rfl (nI_1 _) (by decide) rfl (fun ls hl => ?_)
          refine lv_goto (tgt := 2) hx hb dX1_openSpans_72 (by decide) ?_
          have e_step : F_X1_openSpans_L2 ft t sv1 = (upd sv1.1 t 0, upd sv1.2 t 1000) := by rw [F_X1_openSpans_L2, if_pos c_3]
          have hP2 : va_P D vwCl [(h0, .inr (1, [.int (nI nr), .int (nI np), .ref a1, .ref a2, .ref a3, .ref a4, .int g])), (a1, .inl (cI, nr * np, .inl fd)), (a2, .inl (cI, nr * np, .inl ft)), (a3, .inl (cI, nr * np, .inl ((F_X1_openSpans_L2 ft t sv1).1))), (a4, .inl (cI, nr * np, .inl ((F_X1_openSpans_L2 ft t sv1).2)))] H := by rw [e_step]; exact hP
          have hD2 : va_D A [(h0, .inr (1, [.int (nI nr), .int (nI np), .ref a1, .ref a2, .ref a3, .ref a4, .int g])), (a1, .inl (cI, nr * np, .inl fd)), (a2, .inl (cI, nr * np, .inl ft)), (a3, .inl (cI, nr * np, .inl ((F_X1_openSpans_L2 ft t sv1).1))), (a4, .inl (cI, nr * np, .inl ((F_X1_openSpans_L2 ft t sv1).2)))] := by rw [e_step]; exact hD
          have hl2 : lv_has ls 3 [(1, .int (nI (t + 1))), (0, .ref h0)] := lv_sub hl [0, 2] rfl
          subst hs_t
          exact ih_t (t + 1) (by omega) (by omega) _ _ _ hP2 hD2 hS hl2
        · exact absurd c_5 (by decide)
      · exact absurd c_4 (by decide)
    · refine lv_iconst (v := 1) hx hb dX1_openSpans_21 (by decide) ?_
      refine lv_goto (tgt := 26) hx hb dX1_openSpans_22 (by decide) ?_
      refine lv_istore_n (lv' := [(2, .int 1), (1, .int (nI t)), (0, .ref h0)]) hx hb dX1_openSpans_26 rfl hl (by decide) rfl (fun ls hl => ?_)
      refine lv_aload_n hx hb dX1_openSpans_27 rfl (lv_at hl 2 rfl) ?_
      refine va_get (D := D) (ci := 1) (v := .ref a3) (C := RX1) (T := TX1) (N := 7) hx hb hts hiX1 hown hB.1 hP 0 rfl rfl 4 (by decide) (hts _ (List.mem_of_getElem? (i := 2) rfl)) (fun _ h9 => h9) rfl dX1_openSpans_28 ?_
      refine lv_iload_n hx hb dX1_openSpans_31 rfl (lv_at hl 1 rfl) ?_
      refine lv_iload_n hx hb dX1_openSpans_32 rfl (lv_at hl 0 rfl) ?_
      refine lv_if_eq (tgt := 45) hx hb dX1_openSpans_33 (by decide) (fun c_6 => ?_) (fun c_6 => ?_)
      · exact absurd c_6 (by decide)
      · refine lv_aload_n hx hb dX1_openSpans_36 rfl (lv_at hl 2 rfl) ?_
        refine va_get (D := D) (ci := 1) (v := .ref a2) (C := RX1) (T := TX1) (N := 7) hx hb hts hiX1 hown hB.1 hP 0 rfl rfl 3 (by decide) (hts _ (List.mem_of_getElem? (i := 1) rfl)) (fun _ h9 => h9) rfl dX1_openSpans_37 ?_
        refine lv_iload_n hx hb dX1_openSpans_40 rfl (lv_at hl 1 rfl) ?_
        refine ra_i hx hb hB.1 hP 2 rfl t rfl (by omega) hlen dX1_openSpans_41 ?_
        refine lv_goto (tgt := 46) hx hb dX1_openSpans_42 (by decide) ?_
        refine wa_i (w2 := [(h0, .inr (1, [.int (nI nr), .int (nI np), .ref a1, .ref a2, .ref a3, .ref a4, .int g])), (a1, .inl (cI, nr * np, .inl fd)), (a2, .inl (cI, nr * np, .inl ft)), (a3, .inl (cI, nr * np, .inl (upd sv1.1 t (ft t)))), (a4, .inl (cI, nr * np, .inl sv1.2))]) hx hb hB.1 hP hD hS 3 rfl t rfl (by omega) hlen dX1_openSpans_46 rfl (fun H locs hP hD hS => ?_)
        refine lv_aload_n hx hb dX1_openSpans_47 rfl (lv_at hl 2 rfl) ?_
        refine va_get (D := D) (ci := 1) (v := .ref a4) (C := RX1) (T := TX1) (N := 7) hx hb hts hiX1 hown hB.1 hP 0 rfl rfl 5 (by decide) (hts _ (List.mem_of_getElem? (i := 3) rfl)) (fun _ h9 => h9) rfl dX1_openSpans_48 ?_
        refine lv_iload_n hx hb dX1_openSpans_51 rfl (lv_at hl 1 rfl) ?_
        refine lv_iload_n hx hb dX1_openSpans_52 rfl (lv_at hl 0 rfl) ?_
        refine lv_if_eq (tgt := 65) hx hb dX1_openSpans_53 (by decide) (fun c_7 => ?_) (fun c_7 => ?_)
        · exact absurd c_7 (by decide)
        · refine lv_aload_n hx hb dX1_openSpans_56 rfl (lv_at hl 2 rfl) ?_
          refine va_get (D := D) (ci := 1) (v := .ref a2) (C := RX1) (T := TX1) (N := 7) hx hb hts hiX1 hown hB.1 hP 0 rfl rfl 3 (by decide) (hts _ (List.mem_of_getElem? (i := 1) rfl)) (fun _ h9 => h9) rfl dX1_openSpans_57 ?_
          refine lv_iload_n hx hb dX1_openSpans_60 rfl (lv_at hl 1 rfl) ?_
          refine ra_i hx hb hB.1 hP 2 rfl t rfl (by omega) hlen dX1_openSpans_61 ?_
          refine lv_goto (tgt := 68) hx hb dX1_openSpans_62 (by decide) ?_
          refine wa_i (w2 := [(h0, .inr (1, [.int (nI nr), .int (nI np), .ref a1, .ref a2, .ref a3, .ref a4, .int g])), (a1, .inl (cI, nr * np, .inl fd)), (a2, .inl (cI, nr * np, .inl ft)), (a3, .inl (cI, nr * np, .inl (upd sv1.1 t (ft t)))), (a4, .inl (cI, nr * np, .inl (upd sv1.2 t (ft t))))]) hx hb hB.1 hP hD hS 4 rfl t rfl (by omega) hlen dX1_openSpans_68 rfl (fun H locs hP hD hS => ?_)
          refine lv_iinc (v := nI (t + 1)) (lv' := [(1, .int (nI (t + 1))), (2, .int 1), (0, .ref h0)]) hx hb dX1_openSpans_69 hl (k := 1) rfl (nI_1 _) (by decide) rfl (fun ls hl => ?_)
          refine lv_goto (tgt := 2) hx hb dX1_openSpans_72 (by decide) ?_
          have e_step : F_X1_openSpans_L2 ft t sv1 = (upd sv1.1 t (ft t), upd sv1.2 t (ft t)) := by rw [F_X1_openSpans_L2, if_neg c_3]
          have hP2 : va_P D vwCl [(h0, .inr (1, [.int (nI nr), .int (nI np), .ref a1, .ref a2, .ref a3, .ref a4, .int g])), (a1, .inl (cI, nr * np, .inl fd)), (a2, .inl (cI, nr * np, .inl ft)), (a3, .inl (cI, nr * np, .inl ((F_X1_openSpans_L2 ft t sv1).1))), (a4, .inl (cI, nr * np, .inl ((F_X1_openSpans_L2 ft t sv1).2)))] H := by rw [e_step]; exact hP
          have hD2 : va_D A [(h0, .inr (1, [.int (nI nr), .int (nI np), .ref a1, .ref a2, .ref a3, .ref a4, .int g])), (a1, .inl (cI, nr * np, .inl fd)), (a2, .inl (cI, nr * np, .inl ft)), (a3, .inl (cI, nr * np, .inl ((F_X1_openSpans_L2 ft t sv1).1))), (a4, .inl (cI, nr * np, .inl ((F_X1_openSpans_L2 ft t sv1).2)))] := by rw [e_step]; exact hD
          have hl2 : lv_has ls 3 [(1, .int (nI (t + 1))), (0, .ref h0)] := lv_sub hl [0, 2] rfl
          subst hs_t
          exact ih_t (t + 1) (by omega) (by omega) _ _ _ hP2 hD2 hS hl2

def F_X1_closeToldSpans_L2 (ft : Nat → Int32) (t : Nat) (s_ : (Nat → Int32) × (Nat → Int32)) : (Nat → Int32) × (Nat → Int32) :=
    if (ft t) = (-1) then ((s_.1, s_.2)) else
    (upd s_.1 t (ft t), upd s_.2 t (ft t))
set_option maxHeartbeats 4000000 in
set_option maxRecDepth 100000 in
theorem c_X1_closeToldSpans (l : Launch) {D : va_G} {cI cZ cB : ClassId} {au : Nat} {kA kV : Nat → Nat} {z0 : Nat} (sz : Nat) (h0 : Nat) (a1 : Nat) (a2 : Nat) (a3 : Nat) (a4 : Nat) (nr : Nat) (np : Nat) (g : Int32) (fd : Nat → Int32) (ft : Nat → Int32) (fl : Nat → Int32) (fg : Nat → Int32) (hlen : nr * np < 2 ^ 31) : Met l yX1_closeToldSpans wsX1_closeToldSpans ({ frames := 0, cells := 0, slots := 0, locals := 0 }) (va_Pc [.ref h0] (PRE D cI cZ cB au kA kV z0 sz [(h0, .inr (1, [.int (nI nr), .int (nI np), .ref a1, .ref a2, .ref a3, .ref a4, .int g])), (a1, .inl (cI, nr * np, .inl fd)), (a2, .inl (cI, nr * np, .inl ft)), (a3, .inl (cI, nr * np, .inl fl)), (a4, .inl (cI, nr * np, .inl fg))])) (QV D [(h0, .inr (1, [.int (nI nr), .int (nI np), .ref a1, .ref a2, .ref a3, .ref a4, .int g])), (a1, .inl (cI, nr * np, .inl fd)), (a2, .inl (cI, nr * np, .inl ft)), (a3, .inl (cI, nr * np, .inl fl)), (a4, .inl (cI, nr * np, .inl fg))] sz [(h0, .inr (1, [.int (nI nr), .int (nI np), .ref a1, .ref a2, .ref a3, .ref a4, .int g])), (a1, .inl (cI, nr * np, .inl fd)), (a2, .inl (cI, nr * np, .inl ft)), (a3, .inl (cI, nr * np, .inl ((lp (F_X1_closeToldSpans_L2 ft) (nr * np) (fl, fg)).1))), (a4, .inl (cI, nr * np, .inl ((lp (F_X1_closeToldSpans_L2 ft) (nr * np) (fl, fg)).2)))]) 0 0 (va_A [(h0, .inr (1, [.int (nI nr), .int (nI np), .ref a1, .ref a2, .ref a3, .ref a4, .int g])), (a1, .inl (cI, nr * np, .inl fd)), (a2, .inl (cI, nr * np, .inl ft)), (a3, .inl (cI, nr * np, .inl fl)), (a4, .inl (cI, nr * np, .inl fg))] sz) := by
  refine Met.ofW (cc := cX1_closeToldSpans) (maxL := 2) (ret := none) (by decide) rfl ?_
  intro p e s m args below meth c s₁ B hml hv
  obtain ⟨rfl, hsz, hz, hP, hD0, hB⟩ := hv
  have hx := B.exec
  have hb := B.bytes
  have hr := B.returns
  have hts := atoms_spec (ws := wsX1_closeToldSpans) B.pre
  have hown : s.vm.findClass RX1 = some m.cls := findClass_of_methodNamed B.named
  have hlocks := B.notSynchronized
  subst hsz
  have hD := hD0.self (sz := s.heap.size)
  have hA0 := va_A0 hD0 hz
  unfold QV
  generalize hAe : va_A [(h0, .inr (1, [.int (nI nr), .int (nI np), .ref a1, .ref a2, .ref a3, .ref a4, .int g])), (a1, .inl (cI, nr * np, .inl fd)), (a2, .inl (cI, nr * np, .inl ft)), (a3, .inl (cI, nr * np, .inl fl)), (a4, .inl (cI, nr * np, .inl fg))] s.heap.size = A at hD hA0 ⊢
  have hA : ∀ q : Nat, s.heap.size ≤ q → A q := fun q h => by rw [← hAe]; exact Or.inr h
  have hS : va_S A s.heap s.heap [] := va_S.rf
  have hiX1 : ∀ w ∈ wsX10, w ∈ wsX1_closeToldSpans := fun w h => List.mem_cons_of_mem _ (List.mem_append_right _ h)
  have hl := lv_entry ([.ref h0]) (n := 2) (Nat.le_of_ble_eq_true rfl)
  rw [lg_entry_eq]
  generalize (lg_sl ([.ref h0]) ++ List.replicate (2 - (lg_sl ([.ref h0])).length) Slot.unset).toArray = ls at hl ⊢
  have hl : lv_has ls 2 [(0, .ref h0)] := hl
  refine lv_iconst (v := 0) hx hb dX1_closeToldSpans_0 (by decide) ?_
  refine lv_istore_n (lv' := [(1, .int 0), (0, .ref h0)]) hx hb dX1_closeToldSpans_1 rfl hl (by decide) rfl (fun ls hl => ?_)
  refine lpM (σ := Nat) (fun t => t ≤ nr * np) (fun t => (nr * np) - t) (fun t => [(h0, .inr (1, [.int (nI nr), .int (nI np), .ref a1, .ref a2, .ref a3, .ref a4, .int g])), (a1, .inl (cI, nr * np, .inl fd)), (a2, .inl (cI, nr * np, .inl ft)), (a3, .inl (cI, nr * np, .inl ((lp (F_X1_closeToldSpans_L2 ft) t (fl, fg)).1))), (a4, .inl (cI, nr * np, .inl ((lp (F_X1_closeToldSpans_L2 ft) t (fl, fg)).2)))]) (fun t => [(1, .int (nI t)), (0, .ref h0)]) 0 (Nat.zero_le _) hP hD hS (lv_sub hl [0, 1] rfl) ?_
  intro t h_t ih_t H locs ls hP hD hS hl
  have hP : va_P D vwCl [(h0, .inr (1, [.int (nI nr), .int (nI np), .ref a1, .ref a2, .ref a3, .ref a4, .int g])), (a1, .inl (cI, nr * np, .inl fd)), (a2, .inl (cI, nr * np, .inl ft)), (a3, .inl (cI, nr * np, .inl ((lp (F_X1_closeToldSpans_L2 ft) t (fl, fg)).1))), (a4, .inl (cI, nr * np, .inl ((lp (F_X1_closeToldSpans_L2 ft) t (fl, fg)).2)))] H := hP
  have hD : va_D A [(h0, .inr (1, [.int (nI nr), .int (nI np), .ref a1, .ref a2, .ref a3, .ref a4, .int g])), (a1, .inl (cI, nr * np, .inl fd)), (a2, .inl (cI, nr * np, .inl ft)), (a3, .inl (cI, nr * np, .inl ((lp (F_X1_closeToldSpans_L2 ft) t (fl, fg)).1))), (a4, .inl (cI, nr * np, .inl ((lp (F_X1_closeToldSpans_L2 ft) t (fl, fg)).2)))] := hD
  have hl : lv_has ls 2 [(1, .int (nI t)), (0, .ref h0)] := hl
  generalize hs_t : lp (F_X1_closeToldSpans_L2 ft) t (fl, fg) = sv1 at hP hD 
  refine lv_iload_n hx hb dX1_closeToldSpans_2 rfl (lv_at hl 0 rfl) ?_
  refine lv_aload_n hx hb dX1_closeToldSpans_3 rfl (lv_at hl 1 rfl) ?_
  refine va_get (D := D) (ci := 1) (v := .ref a2) (C := RX1) (T := TX1) (N := 7) hx hb hts hiX1 hown hB.1 hP 0 rfl rfl 3 (by decide) (hts _ (List.mem_of_getElem? (i := 1) rfl)) (fun _ h9 => h9) rfl dX1_closeToldSpans_4 ?_
  refine va_alen (v := nI (nr * np)) hx hb hB.1 hP 2 0 rfl rfl rfl dX1_closeToldSpans_7 ?_
  refine lv_icmp_ge (tgt := 51) hx hb dX1_closeToldSpans_8 (by decide) (fun c_2 => ?_) (fun c_2 => ?_)
  · have hx_t : nr * np = t := Eq.symm (le_ex hlen h_t c_2)
    subst hx_t
    subst hs_t
    exact W.vret hx hb hr (fun t ht hW => ⟨⟨(), rfl, trivial, by rw [ht]; exact hP, hD⟩, hS.F ht⟩) hS.2.2 dX1_closeToldSpans_51
  · have hlt_t : t < nr * np := le_go hlen h_t c_2
    refine lv_aload_n hx hb dX1_closeToldSpans_11 rfl (lv_at hl 1 rfl) ?_
    refine va_get (D := D) (ci := 1) (v := .ref a2) (C := RX1) (T := TX1) (N := 7) hx hb hts hiX1 hown hB.1 hP 0 rfl rfl 3 (by decide) (hts _ (List.mem_of_getElem? (i := 1) rfl)) (fun _ h9 => h9) rfl dX1_closeToldSpans_12 ?_
    refine lv_iload_n hx hb dX1_closeToldSpans_15 rfl (lv_at hl 0 rfl) ?_
    refine ra_i hx hb hB.1 hP 2 rfl t rfl (by omega) hlen dX1_closeToldSpans_16 ?_
    refine lv_iconst (v := (-1)) hx hb dX1_closeToldSpans_17 (by decide) ?_
    refine lv_icmp_eq (tgt := 45) hx hb dX1_closeToldSpans_18 (by decide) (fun c_3 => ?_) (fun c_3 => ?_)
    · refine lv_iinc (v := nI (t + 1)) (lv' := [(1, .int (nI (t + 1))), (0, .ref h0)]) hx hb dX1_closeToldSpans_45 hl (k := 0) rfl (nI_1 _) (by decide) rfl (fun ls hl => ?_)
      refine lv_goto (tgt := 2) hx hb dX1_closeToldSpans_48 (by decide) ?_
      have e_step : F_X1_closeToldSpans_L2 ft t sv1 = (sv1.1, sv1.2) := by rw [F_X1_closeToldSpans_L2, if_pos c_3]
      have hP2 : va_P D vwCl [(h0, .inr (1, [.int (nI nr), .int (nI np), .ref a1, .ref a2, .ref a3, .ref a4, .int g])), (a1, .inl (cI, nr * np, .inl fd)), (a2, .inl (cI, nr * np, .inl ft)), (a3, .inl (cI, nr * np, .inl ((F_X1_closeToldSpans_L2 ft t sv1).1))), (a4, .inl (cI, nr * np, .inl ((F_X1_closeToldSpans_L2 ft t sv1).2)))] H := by rw [e_step]; exact hP
      have hD2 : va_D A [(h0, .inr (1, [.int (nI nr), .int (nI np), .ref a1, .ref a2, .ref a3, .ref a4, .int g])), (a1, .inl (cI, nr * np, .inl fd)), (a2, .inl (cI, nr * np, .inl ft)), (a3, .inl (cI, nr * np, .inl ((F_X1_closeToldSpans_L2 ft t sv1).1))), (a4, .inl (cI, nr * np, .inl ((F_X1_closeToldSpans_L2 ft t sv1).2)))] := by rw [e_step]; exact hD
      have hl2 : lv_has ls 2 [(1, .int (nI (t + 1))), (0, .ref h0)] := lv_sub hl [0, 1] rfl
      subst hs_t
      exact ih_t (t + 1) (by omega) (by omega) _ _ _ hP2 hD2 hS hl2
    · refine lv_aload_n hx hb dX1_closeToldSpans_21 rfl (lv_at hl 1 rfl) ?_
      refine va_get (D := D) (ci := 1) (v := .ref a3) (C := RX1) (T := TX1) (N := 7) hx hb hts hiX1 hown hB.1 hP 0 rfl rfl 4 (by decide) (hts _ (List.mem_of_getElem? (i := 2) rfl)) (fun _ h9 => h9) rfl dX1_closeToldSpans_22 ?_
      refine lv_iload_n hx hb dX1_closeToldSpans_25 rfl (lv_at hl 0 rfl) ?_
      refine lv_aload_n hx hb dX1_closeToldSpans_26 rfl (lv_at hl 1 rfl) ?_
      refine va_get (D := D) (ci := 1) (v := .ref a2) (C := RX1) (T := TX1) (N := 7) hx hb hts hiX1 hown hB.1 hP 0 rfl rfl 3 (by decide) (hts _ (List.mem_of_getElem? (i := 1) rfl)) (fun _ h9 => h9) rfl dX1_closeToldSpans_27 ?_
      refine lv_iload_n hx hb dX1_closeToldSpans_30 rfl (lv_at hl 0 rfl) ?_
      refine ra_i hx hb hB.1 hP 2 rfl t rfl (by omega) hlen dX1_closeToldSpans_31 ?_
      refine wa_i (w2 := [(h0, .inr (1, [.int (nI nr), .int (nI np), .ref a1, .ref a2, .ref a3, .ref a4, .int g])), (a1, .inl (cI, nr * np, .inl fd)), (a2, .inl (cI, nr * np, .inl ft)), (a3, .inl (cI, nr * np, .inl (upd sv1.1 t (ft t)))), (a4, .inl (cI, nr * np, .inl sv1.2))]) hx hb hB.1 hP hD hS 3 rfl t rfl (by omega) hlen dX1_closeToldSpans_32 rfl (fun H locs hP hD hS => ?_)
      refine lv_aload_n hx hb dX1_closeToldSpans_33 rfl (lv_at hl 1 rfl) ?_
      refine va_get (D := D) (ci := 1) (v := .ref a4) (C := RX1) (T := TX1) (N := 7) hx hb hts hiX1 hown hB.1 hP 0 rfl rfl 5 (by decide) (hts _ (List.mem_of_getElem? (i := 3) rfl)) (fun _ h9 => h9) rfl dX1_closeToldSpans_34 ?_
      refine lv_iload_n hx hb dX1_closeToldSpans_37 rfl (lv_at hl 0 rfl) ?_
      refine lv_aload_n hx hb dX1_closeToldSpans_38 rfl (lv_at hl 1 rfl) ?_
      refine va_get (D := D) (ci := 1) (v := .ref a2) (C := RX1) (T := TX1) (N := 7) hx hb hts hiX1 hown hB.1 hP 0 rfl rfl 3 (by decide) (hts _ (List.mem_of_getElem? (i := 1) rfl)) (fun _ h9 => h9) rfl dX1_closeToldSpans_39 ?_
      refine lv_iload_n hx hb dX1_closeToldSpans_42 rfl (lv_at hl 0 rfl) ?_
      refine ra_i hx hb hB.1 hP 2 rfl t rfl (by omega) hlen dX1_closeToldSpans_43 ?_
      refine wa_i (w2 := [(h0, .inr (1, [.int (nI nr), .int (nI np), .ref a1, .ref a2, .ref a3, .ref a4, .int g])), (a1, .inl (cI, nr * np, .inl fd)), (a2, .inl (cI, nr * np, .inl ft)), (a3, .inl (cI, nr * np, .inl (upd sv1.1 t (ft t)))), (a4, .inl (cI, nr * np, .inl (upd sv1.2 t (ft t))))]) hx hb hB.1 hP hD hS 4 rfl t rfl (by omega) hlen dX1_closeToldSpans_44 rfl (fun H locs hP hD hS => ?_)
      refine lv_iinc (v := nI (t + 1)) (lv' := [(1, .int (nI (t + 1))), (0, .ref h0)]) hx hb dX1_closeToldSpans_45 hl (k := 0) rfl (nI_1 _) (by decide) rfl (fun ls hl => ?_)
      refine lv_goto (tgt := 2) hx hb dX1_closeToldSpans_48 (by decide) ?_
      have e_step : F_X1_closeToldSpans_L2 ft t sv1 = (upd sv1.1 t (ft t), upd sv1.2 t (ft t)) := by rw [F_X1_closeToldSpans_L2, if_neg c_3]
      have hP2 : va_P D vwCl [(h0, .inr (1, [.int (nI nr), .int (nI np), .ref a1, .ref a2, .ref a3, .ref a4, .int g])), (a1, .inl (cI, nr * np, .inl fd)), (a2, .inl (cI, nr * np, .inl ft)), (a3, .inl (cI, nr * np, .inl ((F_X1_closeToldSpans_L2 ft t sv1).1))), (a4, .inl (cI, nr * np, .inl ((F_X1_closeToldSpans_L2 ft t sv1).2)))] H := by rw [e_step]; exact hP
      have hD2 : va_D A [(h0, .inr (1, [.int (nI nr), .int (nI np), .ref a1, .ref a2, .ref a3, .ref a4, .int g])), (a1, .inl (cI, nr * np, .inl fd)), (a2, .inl (cI, nr * np, .inl ft)), (a3, .inl (cI, nr * np, .inl ((F_X1_closeToldSpans_L2 ft t sv1).1))), (a4, .inl (cI, nr * np, .inl ((F_X1_closeToldSpans_L2 ft t sv1).2)))] := by rw [e_step]; exact hD
      have hl2 : lv_has ls 2 [(1, .int (nI (t + 1))), (0, .ref h0)] := lv_sub hl [0, 1] rfl
      subst hs_t
      exact ih_t (t + 1) (by omega) (by omega) _ _ _ hP2 hD2 hS hl2
