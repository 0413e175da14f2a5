set_option maxHeartbeats 4000000 in
set_option maxRecDepth 100000 in
theorem c_X4_init (l : Launch) {D : va_G} {cI cZ cB : ClassId} {au : Nat} {kA kV : Nat → Nat} {z0 : Nat} (sz : Nat) (h0 : Nat)  : Met l yX4_init wsX4_init ({ frames := 1, cells := 0, slots := 0, locals := 20 }) (va_Pc [.ref h0] (PRE D cI cZ cB au kA kV z0 sz [(h0, .inr (4, [.int 0, .int 0, .int 0]))])) (QV D [(h0, .inr (4, [.int 0, .int 0, .int 0]))] sz [(h0, .inr (4, [.int 100, .int 0, .int 20]))]) 0 0 (va_A [(h0, .inr (4, [.int 0, .int 0, .int 0]))] sz) := by
  refine Met.ofW (cc := cX4_init) (maxL := 1) (ret := none) (by decide) rfl ?_
  intro p e s m args below meth c s₁ B hml hv
  obtain ⟨rfl, hsz, hz, hP, hD0, hB⟩ := hv
  have hx := B.exec
  have hb := B.bytes
  have hr := B.returns
  have hts := atoms_spec (ws := wsX4_init) B.pre
  have hown : s.vm.findClass RX4 = some m.cls := findClass_of_methodNamed B.named
  have hlocks := B.notSynchronized
  have hin : meth.name = "<init>" := (name_of_methodNamed B.named B.method).1
  subst hsz
  have hD := hD0.self (sz := s.heap.size)
  have hA0 := va_A0 hD0 hz
  unfold QV
  generalize hAe : va_A [(h0, .inr (4, [.int 0, .int 0, .int 0]))] s.heap.size = A at hD hA0 ⊢
  have hA : ∀ q : Nat, s.heap.size ≤ q → A q := fun q h => by rw [← hAe]; exact Or.inr h
  have hS : va_S A s.heap s.heap [] := va_S.rf
  have hiX4 : ∀ w ∈ wsX40, w ∈ wsX4_init := fun w h => List.mem_cons_of_mem _ (List.mem_append_right _ h)
  have hl := lv_entry ([.ref h0]) (n := 1) (Nat.le_of_ble_eq_true rfl)
  rw [lg_entry_eq]
  generalize (lg_sl ([.ref h0]) ++ List.replicate (1 - (lg_sl ([.ref h0])).length) Slot.unset).toArray = ls at hl ⊢
  have hl : lv_has ls 1 [(0, .ref h0)] := hl
  refine lv_aload_n hx hb dX4_init_0 rfl (lv_at hl 0 rfl) ?_
  refine W.objInit hx hb hown (hts _ (List.mem_of_getElem? (i := 1) rfl)) (hts _ (List.mem_of_getElem? (i := 2) rfl)) (hts _ (List.mem_of_getElem? (i := 3) rfl)) rfl (by rw [hml]; exact hl.1) rfl dX4_init_1 (Nat.le_of_ble_eq_true rfl) (Nat.le_of_ble_eq_true rfl) ?_
  refine W.eq (g2 := F0 m 4 ls []) rfl ?_
  refine lv_aload_n hx hb dX4_init_4 rfl (lv_at hl 0 rfl) ?_
  refine lv_bipush (v := 100) hx hb dX4_init_5 (by decide) ?_
  refine pf (w2 := [(h0, .inr (4, [.int 100, .int 0, .int 0]))]) (ci := 4) (C := RX4) (T := TX4) (N := 3) hx hb hts hiX4 tyX4 tyX4_ok nmX4 hown hB.1 hP hD hS 0 rfl rfl 0 (by decide) (hts _ (List.mem_of_getElem? (i := 4) rfl)) rfl rfl rfl rfl (Nat.le_of_ble_eq_true rfl) rfl dX4_init_7 (fun H locs hP hD hS => ?_)
  refine lv_aload_n hx hb dX4_init_10 rfl (lv_at hl 0 rfl) ?_
  refine lv_iconst (v := 0) hx hb dX4_init_11 (by decide) ?_
  refine pf (w2 := [(h0, .inr (4, [.int 100, .int 0, .int 0]))]) (ci := 4) (C := RX4) (T := TX4) (N := 3) hx hb hts hiX4 tyX4 tyX4_ok nmX4 hown hB.1 hP hD hS 0 rfl rfl 1 (by decide) (hts _ (List.mem_of_getElem? (i := 5) rfl)) rfl rfl rfl rfl (Nat.le_of_ble_eq_true rfl) rfl dX4_init_12 (fun H locs hP hD hS => ?_)
  refine lv_aload_n hx hb dX4_init_15 rfl (lv_at hl 0 rfl) ?_
  refine lv_bipush (v := 20) hx hb dX4_init_16 (by decide) ?_
  refine pf (w2 := [(h0, .inr (4, [.int 100, .int 0, .int 20]))]) (ci := 4) (C := RX4) (T := TX4) (N := 3) hx hb hts hiX4 tyX4 tyX4_ok nmX4 hown hB.1 hP hD hS 0 rfl rfl 2 (by decide) (hts _ (List.mem_of_getElem? (i := 6) rfl)) rfl rfl rfl rfl (Nat.le_of_ble_eq_true rfl) rfl dX4_init_18 (fun H locs hP hD hS => ?_)
  refine W.widen (k := 0) (n := 0) (by omega) (by omega) ?_
  exact W.vret hx hb hr (fun t ht hW => ⟨⟨(), rfl, trivial, by rw [ht]; exact hP, hD⟩, hS.F ht⟩) hS.2.2 dX4_init_21

set_option maxHeartbeats 4000000 in
set_option maxRecDepth 100000 in
theorem c_X0_init (l : Launch) {D : va_G} {cI cZ cB : ClassId} {au : Nat} {kA kV : Nat → Nat} {z0 : Nat} (sz : Nat) (h0 : Nat)  : Met l yX0_init wsX0_init ({ frames := 1, cells := 1, slots := 21, locals := 20 }) (va_Pc [.ref h0] (PRE D cI cZ cB au kA kV z0 sz [(h0, .inr (0, [.null, .int 0, .int 0, .int 0]))])) (QC (S := Nat) D [(h0, .inr (0, [.null, .int 0, .int 0, .int 0]))] sz (fun u => [(h0, .inr (0, [.ref u, .int 0, .int 0, .int 3])), (u, .inl (cI, 21, .inl (fun _ => 0)))])) 1 21 (va_A [(h0, .inr (0, [.null, .int 0, .int 0, .int 0]))] sz) := by
  refine Met.ofW (cc := cX0_init) (maxL := 1) (ret := none) (by decide) rfl ?_
  intro p e s m args below meth c s₁ B hml hv
  obtain ⟨rfl, hsz, hz, hP, hD0, hB⟩ := hv
  have hx := B.exec
  have hb := B.bytes
  have hr := B.returns
  have hts := atoms_spec (ws := wsX0_init) B.pre
  have hown : s.vm.findClass RX0 = some m.cls := findClass_of_methodNamed B.named
  have hlocks := B.notSynchronized
  have hin : meth.name = "<init>" := (name_of_methodNamed B.named B.method).1
  subst hsz
  have hD := hD0.self (sz := s.heap.size)
  have hA0 := va_A0 hD0 hz
  unfold QC
  generalize hAe : va_A [(h0, .inr (0, [.null, .int 0, .int 0, .int 0]))] s.heap.size = A at hD hA0 ⊢
  have hA : ∀ q : Nat, s.heap.size ≤ q → A q := fun q h => by rw [← hAe]; exact Or.inr h
  have hS : va_S A s.heap s.heap [] := va_S.rf
  have hiX0 : ∀ w ∈ wsX00, w ∈ wsX0_init := fun w h => List.mem_cons_of_mem _ (List.mem_append_right _ h)
  have hl := lv_entry ([.ref h0]) (n := 1) (Nat.le_of_ble_eq_true rfl)
  rw [lg_entry_eq]
  generalize (lg_sl ([.ref h0]) ++ List.replicate (1 - (lg_sl ([.ref h0])).length) Slot.unset).toArray = ls at hl ⊢
  have hl : lv_has ls 1 [(0, .ref h0)] := hl
  refine lv_aload_n hx hb dX0_init_0 rfl (lv_at hl 0 rfl) ?_
  refine W.objInit hx hb hown (hts _ (List.mem_of_getElem? (i := 1) rfl)) (hts _ (List.mem_of_getElem? (i := 2) rfl)) (hts _ (List.mem_of_getElem? (i := 3) rfl)) rfl (by rw [hml]; exact hl.1) rfl dX0_init_1 (Nat.le_of_ble_eq_true rfl) (Nat.le_of_ble_eq_true rfl) ?_
  refine W.eq (g2 := F0 m 4 ls []) rfl ?_
  refine lv_aload_n hx hb dX0_init_4 rfl (lv_at hl 0 rfl) ?_
  refine lv_bipush (v := 21) hx hb dX0_init_5 (by decide) ?_
  refine nw_i hx hb (hts _ (List.mem_of_getElem? (i := 4) rfl)) hB.1 hP hD hS hA 21 rfl (by decide) (Nat.le_of_ble_eq_true rfl) (Nat.le_of_ble_eq_true rfl) dX0_init_7 (fun n0 H hP hD hS => ?_)
  have hP : va_P D vwCl [(h0, .inr (0, [.null, .int 0, .int 0, .int 0])), (n0, .inl (cI, 21, .inl (fun _ => 0)))] H := hP
  have hD : va_D A [(h0, .inr (0, [.null, .int 0, .int 0, .int 0])), (n0, .inl (cI, 21, .inl (fun _ => 0)))] := hD
  refine W.widen (k := 1) (n := 21) (by omega) (by omega) ?_
  refine pfF (w2 := [(h0, .inr (0, [.ref n0, .int 0, .int 0, .int 0])), (n0, .inl (cI, 21, .inl (fun _ => 0)))]) (ci := 0) (C := RX0) (T := TX0) (N := 4) hx hb hts hiX0 tyX0 tyX0_ok nmX0 hown hB.1 hP hD hS 0 rfl rfl 0 (by decide) (hts _ (List.mem_of_getElem? (i := 5) rfl)) rfl rfl hin rfl rfl rfl (Nat.le_of_ble_eq_true rfl) rfl dX0_init_9 (fun H locs hP hD hS => ?_)
  refine lv_aload_n hx hb dX0_init_12 rfl (lv_at hl 0 rfl) ?_
  refine lv_iconst (v := 0) hx hb dX0_init_13 (by decide) ?_
  refine pf (w2 := [(h0, .inr (0, [.ref n0, .int 0, .int 0, .int 0])), (n0, .inl (cI, 21, .inl (fun _ => 0)))]) (ci := 0) (C := RX0) (T := TX0) (N := 4) hx hb hts hiX0 tyX0 tyX0_ok nmX0 hown hB.1 hP hD hS 0 rfl rfl 1 (by decide) (hts _ (List.mem_of_getElem? (i := 6) rfl)) rfl rfl rfl rfl (Nat.le_of_ble_eq_true rfl) rfl dX0_init_14 (fun H locs hP hD hS => ?_)
  refine lv_aload_n hx hb dX0_init_17 rfl (lv_at hl 0 rfl) ?_
  refine lv_iconst (v := 0) hx hb dX0_init_18 (by decide) ?_
  refine pf (w2 := [(h0, .inr (0, [.ref n0, .int 0, .int 0, .int 0])), (n0, .inl (cI, 21, .inl (fun _ => 0)))]) (ci := 0) (C := RX0) (T := TX0) (N := 4) hx hb hts hiX0 tyX0 tyX0_ok nmX0 hown hB.1 hP hD hS 0 rfl rfl 2 (by decide) (hts _ (List.mem_of_getElem? (i := 7) rfl)) rfl rfl rfl rfl (Nat.le_of_ble_eq_true rfl) rfl dX0_init_19 (fun H locs hP hD hS => ?_)
  refine lv_aload_n hx hb dX0_init_22 rfl (lv_at hl 0 rfl) ?_
  refine lv_iconst (v := 3) hx hb dX0_init_23 (by decide) ?_
  refine pf (w2 := [(h0, .inr (0, [.ref n0, .int 0, .int 0, .int 3])), (n0, .inl (cI, 21, .inl (fun _ => 0)))]) (ci := 0) (C := RX0) (T := TX0) (N := 4) hx hb hts hiX0 tyX0 tyX0_ok nmX0 hown hB.1 hP hD hS 0 rfl rfl 3 (by decide) (hts _ (List.mem_of_getElem? (i := 8) rfl)) rfl rfl rfl rfl (Nat.le_of_ble_eq_true rfl) rfl dX0_init_24 (fun H locs hP hD hS => ?_)
  refine W.widen (k := 1) (n := 21) (by omega) (by omega) ?_
  exact W.vret hx hb hr (fun t ht hW => ⟨⟨n0, rfl, trivial, by rw [ht]; exact hP, hD⟩, hS.F ht⟩) hS.2.2 dX0_init_27

set_option maxHeartbeats 4000000 in
set_option maxRecDepth 100000 in
theorem c_X2_init (l : Launch) {D : va_G} {cI cZ cB : ClassId} {au : Nat} {kA kV : Nat → Nat} {z0 : Nat} (sz : Nat) (h0 : Nat)  : Met l yX2_init wsX2_init ({ frames := 1, cells := 2, slots := 80, locals := 20 }) (va_Pc [.ref h0] (PRE D cI cZ cB au kA kV z0 sz [(h0, .inr (2, [.null, .null, .int 0]))])) (QC (S := Nat × Nat) D [(h0, .inr (2, [.null, .null, .int 0]))] sz (fun u => [(h0, .inr (2, [.ref u.1, .ref u.2, .int 0])), (u.1, .inl (cI, 70, .inl (fun _ => 0))), (u.2, .inl (cI, 10, .inl (fun _ => 0)))])) 2 80 (va_A [(h0, .inr (2, [.null, .null, .int 0]))] sz) := by
  refine Met.ofW (cc := cX2_init) (maxL := 1) (ret := none) (by decide) rfl ?_
  intro p e s m args below meth c s₁ B hml hv
  obtain ⟨rfl, hsz, hz, hP, hD0, hB⟩ := hv
  have hx := B.exec
  have hb := B.bytes
  have hr := B.returns
  have hts := atoms_spec (ws := wsX2_init) B.pre
  have hown : s.vm.findClass RX2 = some m.cls := findClass_of_methodNamed B.named
  have hlocks := B.notSynchronized
  have hin : meth.name = "<init>" := (name_of_methodNamed B.named B.method).1
  subst hsz
  have hD := hD0.self (sz := s.heap.size)
  have hA0 := va_A0 hD0 hz
  unfold QC
  generalize hAe : va_A [(h0, .inr (2, [.null, .null, .int 0]))] s.heap.size = A at hD hA0 ⊢
  have hA : ∀ q : Nat, s.heap.size ≤ q → A q := fun q h => by rw [← hAe]; exact Or.inr h
  have hS : va_S A s.heap s.heap [] := va_S.rf
  have hiX2 : ∀ w ∈ wsX20, w ∈ wsX2_init := fun w h => List.mem_cons_of_mem _ (List.mem_append_right _ h)
  have hl := lv_entry ([.ref h0]) (n := 1) (Nat.le_of_ble_eq_true rfl)
  rw [lg_entry_eq]
  generalize (lg_sl ([.ref h0]) ++ List.replicate (1 - (lg_sl ([.ref h0])).length) Slot.unset).toArray = ls at hl ⊢
  have hl : lv_has ls 1 [(0, .ref h0)] := hl
  refine lv_aload_n hx hb dX2_init_0 rfl (lv_at hl 0 rfl) ?_
  refine W.objInit hx hb hown (hts _ (List.mem_of_getElem? (i := 1) rfl)) (hts _ (List.mem_of_getElem? (i := 2) rfl)) (hts _ (List.mem_of_getElem? (i := 3) rfl)) rfl (by rw [hml]; exact hl.1) rfl dX2_init_1 (Nat.le_of_ble_eq_true rfl) (Nat.le_of_ble_eq_true rfl) ?_
  refine W.eq (g2 := F0 m 4 ls []) rfl ?_
  refine lv_aload_n hx hb dX2_init_4 rfl (lv_at hl 0 rfl) ?_
  refine lv_bipush (v := 70) hx hb dX2_init_5 (by decide) ?_
  refine nw_i hx hb (hts _ (List.mem_of_getElem? (i := 4) rfl)) hB.1 hP hD hS hA 70 rfl (by decide) (Nat.le_of_ble_eq_true rfl) (Nat.le_of_ble_eq_true rfl) dX2_init_7 (fun n0 H hP hD hS => ?_)
  have hP : va_P D vwCl [(h0, .inr (2, [.null, .null, .int 0])), (n0, .inl (cI, 70, .inl (fun _ => 0)))] H := hP
  have hD : va_D A [(h0, .inr (2, [.null, .null, .int 0])), (n0, .inl (cI, 70, .inl (fun _ => 0)))] := hD
  refine W.widen (k := 1) (n := 70) (by omega) (by omega) ?_
  refine pfF (w2 := [(h0, .inr (2, [.ref n0, .null, .int 0])), (n0, .inl (cI, 70, .inl (fun _ => 0)))]) (ci := 2) (C := RX2) (T := TX2) (N := 3) hx hb hts hiX2 tyX2 tyX2_ok nmX2 hown hB.1 hP hD hS 0 rfl rfl 0 (by decide) (hts _ (List.mem_of_getElem? (i := 5) rfl)) rfl rfl hin rfl rfl rfl (Nat.le_of_ble_eq_true rfl) rfl dX2_init_9 (fun H locs hP hD hS => ?_)
  refine lv_aload_n hx hb dX2_init_12 rfl (lv_at hl 0 rfl) ?_
  refine lv_bipush (v := 10) hx hb dX2_init_13 (by decide) ?_
  refine nw_i hx hb (hts _ (List.mem_of_getElem? (i := 4) rfl)) hB.1 hP hD hS hA 10 rfl (by decide) (Nat.le_of_ble_eq_true rfl) (Nat.le_of_ble_eq_true rfl) dX2_init_15 (fun n1 H hP hD hS => ?_)
  have hP : va_P D vwCl [(h0, .inr (2, [.ref n0, .null, .int 0])), (n0, .inl (cI, 70, .inl (fun _ => 0))), (n1, .inl (cI, 10, .inl (fun _ => 0)))] H := hP
  have hD : va_D A [(h0, .inr (2, [.ref n0, .null, .int 0])), (n0, .inl (cI, 70, .inl (fun _ => 0))), (n1, .inl (cI, 10, .inl (fun _ => 0)))] := hD
  refine W.widen (k := 2) (n := 80) (by omega) (by omega) ?_
  refine pfF (w2 := [(h0, .inr (2, [.ref n0, .ref n1, .int 0])), (n0, .inl (cI, 70, .inl (fun _ => 0))), (n1, .inl (cI, 10, .inl (fun _ => 0)))]) (ci := 2) (C := RX2) (T := TX2) (N := 3) hx hb hts hiX2 tyX2 tyX2_ok nmX2 hown hB.1 hP hD hS 0 rfl rfl 1 (by decide) (hts _ (List.mem_of_getElem? (i := 6) rfl)) rfl rfl hin rfl rfl rfl (Nat.le_of_ble_eq_true rfl) rfl dX2_init_17 (fun H locs hP hD hS => ?_)
  refine lv_aload_n hx hb dX2_init_20 rfl (lv_at hl 0 rfl) ?_
  refine lv_iconst (v := 0) hx hb dX2_init_21 (by decide) ?_
  refine pf (w2 := [(h0, .inr (2, [.ref n0, .ref n1, .int 0])), (n0, .inl (cI, 70, .inl (fun _ => 0))), (n1, .inl (cI, 10, .inl (fun _ => 0)))]) (ci := 2) (C := RX2) (T := TX2) (N := 3) hx hb hts hiX2 tyX2 tyX2_ok nmX2 hown hB.1 hP hD hS 0 rfl rfl 2 (by decide) (hts _ (List.mem_of_getElem? (i := 7) rfl)) rfl rfl rfl rfl (Nat.le_of_ble_eq_true rfl) rfl dX2_init_22 (fun H locs hP hD hS => ?_)
  refine W.widen (k := 2) (n := 80) (by omega) (by omega) ?_
  exact W.vret hx hb hr (fun t ht hW => ⟨⟨(n0, n1), rfl, trivial, by rw [ht]; exact hP, hD⟩, hS.F ht⟩) hS.2.2 dX2_init_25

set_option maxHeartbeats 4000000 in
set_option maxRecDepth 100000 in
theorem c_X3_init (l : Launch) {D : va_G} {cI cZ cB : ClassId} {au : Nat} {kA kV : Nat → Nat} {z0 : Nat} (sz : Nat) (h0 : Nat)  : Met l yX3_init wsX3_init ({ frames := 1, cells := 2, slots := 307, locals := 20 }) (va_Pc [.ref h0] (PRE D cI cZ cB au kA kV z0 sz [(h0, .inr (3, [.null, .null, .int 0, .int 0, .int 0, .int 0, .int 0]))])) (QC (S := Nat × Nat) D [(h0, .inr (3, [.null, .null, .int 0, .int 0, .int 0, .int 0, .int 0]))] sz (fun u => [(h0, .inr (3, [.ref u.1, .ref u.2, .int 0, .int 0, .int 0, .int 0, .int 0])), (u.1, .inl (cI, 300, .inl (fun _ => 0))), (u.2, .inl (cI, 7, .inl (fun _ => 0)))])) 2 307 (va_A [(h0, .inr (3, [.null, .null, .int 0, .int 0, .int 0, .int 0, .int 0]))] sz) := by
  refine Met.ofW (cc := cX3_init) (maxL := 1) (ret := none) (by decide) rfl ?_
  intro p e s m args below meth c s₁ B hml hv
  obtain ⟨rfl, hsz, hz, hP, hD0, hB⟩ := hv
  have hx := B.exec
  have hb := B.bytes
  have hr := B.returns
  have hts := atoms_spec (ws := wsX3_init) B.pre
  have hown : s.vm.findClass RX3 = some m.cls := findClass_of_methodNamed B.named
  have hlocks := B.notSynchronized
  have hin : meth.name = "<init>" := (name_of_methodNamed B.named B.method).1
  subst hsz
  have hD := hD0.self (sz := s.heap.size)
  have hA0 := va_A0 hD0 hz
  unfold QC
  generalize hAe : va_A [(h0, .inr (3, [.null, .null, .int 0, .int 0, .int 0, .int 0, .int 0]))] s.heap.size = A at hD hA0 ⊢
  have hA : ∀ q : Nat, s.heap.size ≤ q → A q := fun q h => by rw [← hAe]; exact Or.inr h
  have hS : va_S A s.heap s.heap [] := va_S.rf
  have hiX3 : ∀ w ∈ wsX30, w ∈ wsX3_init := fun w h => List.mem_cons_of_mem _ (List.mem_append_right _ h)
  have hl := lv_entry ([.ref h0]) (n := 1) (Nat.le_of_ble_eq_true rfl)
  rw [lg_entry_eq]
  generalize (lg_sl ([.ref h0]) ++ List.replicate (1 - (lg_sl ([.ref h0])).length) Slot.unset).toArray = ls at hl ⊢
  have hl : lv_has ls 1 [(0, .ref h0)] := hl
  refine lv_aload_n hx hb dX3_init_0 rfl (lv_at hl 0 rfl) ?_
  refine W.objInit hx hb hown (hts _ (List.mem_of_getElem? (i := 1) rfl)) (hts _ (List.mem_of_getElem? (i := 2) rfl)) (hts _ (List.mem_of_getElem? (i := 3) rfl)) rfl (by rw [hml]; exact hl.1) rfl dX3_init_1 (Nat.le_of_ble_eq_true rfl) (Nat.le_of_ble_eq_true rfl) ?_
  refine W.eq (g2 := F0 m 4 ls []) rfl ?_
  refine lv_aload_n hx hb dX3_init_4 rfl (lv_at hl 0 rfl) ?_
  refine lv_sipush (v := 300) hx hb dX3_init_5 (by decide) ?_
  refine nw_i hx hb (hts _ (List.mem_of_getElem? (i := 4) rfl)) hB.1 hP hD hS hA 300 rfl (by decide) (Nat.le_of_ble_eq_true rfl) (Nat.le_of_ble_eq_true rfl) dX3_init_8 (fun n0 H hP hD hS => ?_)
  have hP : va_P D vwCl [(h0, .inr (3, [.null, .null, .int 0, .int 0, .int 0, .int 0, .int 0])), (n0, .inl (cI, 300, .inl (fun _ => 0)))] H := hP
  have hD : va_D A [(h0, .inr (3, [.null, .null, .int 0, .int 0, .int 0, .int 0, .int 0])), (n0, .inl (cI, 300, .inl (fun _ => 0)))] := hD
  refine W.widen (k := 1) (n := 300) (by omega) (by omega) ?_
  refine pfF (w2 := [(h0, .inr (3, [.ref n0, .null, .int 0, .int 0, .int 0, .int 0, .int 0])), (n0, .inl (cI, 300, .inl (fun _ => 0)))]) (ci := 3) (C := RX3) (T := TX3) (N := 7) hx hb hts hiX3 tyX3 tyX3_ok nmX3 hown hB.1 hP hD hS 0 rfl rfl 0 (by decide) (hts _ (List.mem_of_getElem? (i := 5) rfl)) rfl rfl hin rfl rfl rfl (Nat.le_of_ble_eq_true rfl) rfl dX3_init_10 (fun H locs hP hD hS => ?_)
  refine lv_aload_n hx hb dX3_init_13 rfl (lv_at hl 0 rfl) ?_
  refine lv_bipush (v := 7) hx hb dX3_init_14 (by decide) ?_
  refine nw_i hx hb (hts _ (List.mem_of_getElem? (i := 4) rfl)) hB.1 hP hD hS hA 7 rfl (by decide) (Nat.le_of_ble_eq_true rfl) (Nat.le_of_ble_eq_true rfl) dX3_init_16 (fun n1 H hP hD hS => ?_)
  have hP : va_P D vwCl [(h0, .inr (3, [.ref n0, .null, .int 0, .int 0, .int 0, .int 0, .int 0])), (n0, .inl (cI, 300, .inl (fun _ => 0))), (n1, .inl (cI, 7, .inl (fun _ => 0)))] H := hP
  have hD : va_D A [(h0, .inr (3, [.ref n0, .null, .int 0, .int 0, .int 0, .int 0, .int 0])), (n0, .inl (cI, 300, .inl (fun _ => 0))), (n1, .inl (cI, 7, .inl (fun _ => 0)))] := hD
  refine W.widen (k := 2) (n := 307) (by omega) (by omega) ?_
  refine pfF (w2 := [(h0, .inr (3, [.ref n0, .ref n1, .int 0, .int 0, .int 0, .int 0, .int 0])), (n0, .inl (cI, 300, .inl (fun _ => 0))), (n1, .inl (cI, 7, .inl (fun _ => 0)))]) (ci := 3) (C := RX3) (T := TX3) (N := 7) hx hb hts hiX3 tyX3 tyX3_ok nmX3 hown hB.1 hP hD hS 0 rfl rfl 1 (by decide) (hts _ (List.mem_of_getElem? (i := 6) rfl)) rfl rfl hin rfl rfl rfl (Nat.le_of_ble_eq_true rfl) rfl dX3_init_18 (fun H locs hP hD hS => ?_)
  refine lv_aload_n hx hb dX3_init_21 rfl (lv_at hl 0 rfl) ?_
  refine lv_iconst (v := 0) hx hb dX3_init_22 (by decide) ?_
  refine pf (w2 := [(h0, .inr (3, [.ref n0, .ref n1, .int 0, .int 0, .int 0, .int 0, .int 0])), (n0, .inl (cI, 300, .inl (fun _ => 0))), (n1, .inl (cI, 7, .inl (fun _ => 0)))]) (ci := 3) (C := RX3) (T := TX3) (N := 7) hx hb hts hiX3 tyX3 tyX3_ok nmX3 hown hB.1 hP hD hS 0 rfl rfl 2 (by decide) (hts _ (List.mem_of_getElem? (i := 7) rfl)) rfl rfl rfl rfl (Nat.le_of_ble_eq_true rfl) rfl dX3_init_23 (fun H locs hP hD hS => ?_)
  refine lv_aload_n hx hb dX3_init_26 rfl (lv_at hl 0 rfl) ?_
  refine lv_iconst (v := 0) hx hb dX3_init_27 (by decide) ?_
  refine pf (w2 := [(h0, .inr (3, [.ref n0, .ref n1, .int 0, .int 0, .int 0, .int 0, .int 0])), (n0, .inl (cI, 300, .inl (fun _ => 0))), (n1, .inl (cI, 7, .inl (fun _ => 0)))]) (ci := 3) (C := RX3) (T := TX3) (N := 7) hx hb hts hiX3 tyX3 tyX3_ok nmX3 hown hB.1 hP hD hS 0 rfl rfl 3 (by decide) (hts _ (List.mem_of_getElem? (i := 8) rfl)) rfl rfl rfl rfl (Nat.le_of_ble_eq_true rfl) rfl dX3_init_28 (fun H locs hP hD hS => ?_)
  refine lv_aload_n hx hb dX3_init_31 rfl (lv_at hl 0 rfl) ?_
  refine lv_iconst (v := 0) hx hb dX3_init_32 (by decide) ?_
  refine pf (w2 := [(h0, .inr (3, [.ref n0, .ref n1, .int 0, .int 0, .int 0, .int 0, .int 0])), (n0, .inl (cI, 300, .inl (fun _ => 0))), (n1, .inl (cI, 7, .inl (fun _ => 0)))]) (ci := 3) (C := RX3) (T := TX3) (N := 7) hx hb hts hiX3 tyX3 tyX3_ok nmX3 hown hB.1 hP hD hS 0 rfl rfl 4 (by decide) (hts _ (List.mem_of_getElem? (i := 9) rfl)) rfl rfl rfl rfl (Nat.le_of_ble_eq_true rfl) rfl dX3_init_33 (fun H locs hP hD hS => ?_)
  refine lv_aload_n hx hb dX3_init_36 rfl (lv_at hl 0 rfl) ?_
  refine lv_iconst (v := 0) hx hb dX3_init_37 (by decide) ?_
  refine pf (w2 := [(h0, .inr (3, [.ref n0, .ref n1, .int 0, .int 0, .int 0, .int 0, .int 0])), (n0, .inl (cI, 300, .inl (fun _ => 0))), (n1, .inl (cI, 7, .inl (fun _ => 0)))]) (ci := 3) (C := RX3) (T := TX3) (N := 7) hx hb hts hiX3 tyX3 tyX3_ok nmX3 hown hB.1 hP hD hS 0 rfl rfl 5 (by decide) (hts _ (List.mem_of_getElem? (i := 10) rfl)) rfl rfl rfl rfl (Nat.le_of_ble_eq_true rfl) rfl dX3_init_38 (fun H locs hP hD hS => ?_)
  refine lv_aload_n hx hb dX3_init_41 rfl (lv_at hl 0 rfl) ?_
  refine lv_iconst (v := 0) hx hb dX3_init_42 (by decide) ?_
  refine pf (w2 := [(h0, .inr (3, [.ref n0, .ref n1, .int 0, .int 0, .int 0, .int 0, .int 0])), (n0, .inl (cI, 300, .inl (fun _ => 0))), (n1, .inl (cI, 7, .inl (fun _ => 0)))]) (ci := 3) (C := RX3) (T := TX3) (N := 7) hx hb hts hiX3 tyX3 tyX3_ok nmX3 hown hB.1 hP hD hS 0 rfl rfl 6 (by decide) (hts _ (List.mem_of_getElem? (i := 11) rfl)) rfl rfl rfl rfl (Nat.le_of_ble_eq_true rfl) rfl dX3_init_43 (fun H locs hP hD hS => ?_)
  refine W.widen (k := 2) (n := 307) (by omega) (by omega) ?_
  exact W.vret hx hb hr (fun t ht hW => ⟨⟨(n0, n1), rfl, trivial, by rw [ht]; exact hP, hD⟩, hS.F ht⟩) hS.2.2 dX3_init_46

set_option maxHeartbeats 4000000 in
set_option maxRecDepth 100000 in
theorem c_X5_init (l : Launch) {D : va_G} {cI cZ cB : ClassId} {au : Nat} {kA kV : Nat → Nat} {z0 : Nat} (sz : Nat) (h0 : Nat) (nr : Nat) (np : Nat) (h160 : nr * np ≤ 160) : Met l yX5_init wsX5_init ({ frames := 1, cells := 1, slots := 160, locals := 20 }) (va_Pc [.ref h0, .int (nI nr), .int (nI np)] (PRE D cI cZ cB au kA kV z0 sz [(h0, .inr (5, [.int 0, .int 0, .null, .int 0]))])) (QC (S := Nat) D [(h0, .inr (5, [.int 0, .int 0, .null, .int 0]))] sz (fun u => [(h0, .inr (5, [.int (nI nr), .int (nI np), .ref u, .int 100])), (u, .inl (cI, nr * np, .inl (fun _ => 0)))])) 1 160 (va_A [(h0, .inr (5, [.int 0, .int 0, .null, .int 0]))] sz) := by
  refine Met.ofW (cc := cX5_init) (maxL := 3) (ret := none) (by decide) rfl ?_
  intro p e s m args below meth c s₁ B hml hv
  obtain ⟨rfl, hsz, hz, hP, hD0, hB⟩ := hv
  have hx := B.exec
  have hb := B.bytes
  have hr := B.returns
  have hts := atoms_spec (ws := wsX5_init) B.pre
  have hown : s.vm.findClass RX5 = some m.cls := findClass_of_methodNamed B.named
  have hlocks := B.notSynchronized
  have hin : meth.name = "<init>" := (name_of_methodNamed B.named B.method).1
  subst hsz
  have hD := hD0.self (sz := s.heap.size)
  have hA0 := va_A0 hD0 hz
  unfold QC
  generalize hAe : va_A [(h0, .inr (5, [.int 0, .int 0, .null, .int 0]))] s.heap.size = A at hD hA0 ⊢
  have hA : ∀ q : Nat, s.heap.size ≤ q → A q := fun q h => by rw [← hAe]; exact Or.inr h
  have hS : va_S A s.heap s.heap [] := va_S.rf
  have hiX5 : ∀ w ∈ wsX50, w ∈ wsX5_init := fun w h => List.mem_cons_of_mem _ (List.mem_append_right _ h)
  have hl := lv_entry ([.ref h0, .int (nI nr), .int (nI np)]) (n := 3) (Nat.le_of_ble_eq_true rfl)
  rw [lg_entry_eq]
  generalize (lg_sl ([.ref h0, .int (nI nr), .int (nI np)]) ++ List.replicate (3 - (lg_sl ([.ref h0, .int (nI nr), .int (nI np)])).length) Slot.unset).toArray = ls at hl ⊢
  have hl : lv_has ls 3 [(0, .ref h0), (1, .int (nI nr)), (2, .int (nI np))] := hl
  refine lv_aload_n hx hb dX5_init_0 rfl (lv_at hl 0 rfl) ?_
  refine W.objInit hx hb hown (hts _ (List.mem_of_getElem? (i := 1) rfl)) (hts _ (List.mem_of_getElem? (i := 2) rfl)) (hts _ (List.mem_of_getElem? (i := 3) rfl)) rfl (by rw [hml]; exact hl.1) rfl dX5_init_1 (Nat.le_of_ble_eq_true rfl) (Nat.le_of_ble_eq_true rfl) ?_
  refine W.eq (g2 := F0 m 4 ls []) rfl ?_
  refine lv_aload_n hx hb dX5_init_4 rfl (lv_at hl 0 rfl) ?_
  refine lv_bipush (v := 100) hx hb dX5_init_5 (by decide) ?_
  refine pf (w2 := [(h0, .inr (5, [.int 0, .int 0, .null, .int 100]))]) (ci := 5) (C := RX5) (T := TX5) (N := 4) hx hb hts hiX5 tyX5 tyX5_ok nmX5 hown hB.1 hP hD hS 0 rfl rfl 3 (by decide) (hts _ (List.mem_of_getElem? (i := 4) rfl)) rfl rfl rfl rfl (Nat.le_of_ble_eq_true rfl) rfl dX5_init_7 (fun H locs hP hD hS => ?_)
  refine lv_aload_n hx hb dX5_init_10 rfl (lv_at hl 0 rfl) ?_
  refine lv_iload_n hx hb dX5_init_11 rfl (lv_at hl 1 rfl) ?_
  refine pfF (w2 := [(h0, .inr (5, [.int (nI nr), .int 0, .null, .int 100]))]) (ci := 5) (C := RX5) (T := TX5) (N := 4) hx hb hts hiX5 tyX5 tyX5_ok nmX5 hown hB.1 hP hD hS 0 rfl rfl 0 (by decide) (hts _ (List.mem_of_getElem? (i := 5) rfl)) rfl rfl hin rfl rfl rfl (Nat.le_of_ble_eq_true rfl) rfl dX5_init_12 (fun H locs hP hD hS => ?_)
  refine lv_aload_n hx hb dX5_init_15 rfl (lv_at hl 0 rfl) ?_
  refine lv_iload_n hx hb dX5_init_16 rfl (lv_at hl 2 rfl) ?_
  refine pfF (w2 := [(h0, .inr (5, [.int (nI nr), .int (nI np), .null, .int 100]))]) (ci := 5) (C := RX5) (T := TX5) (N := 4) hx hb hts hiX5 tyX5 tyX5_ok nmX5 hown hB.1 hP hD hS 0 rfl rfl 1 (by decide) (hts _ (List.mem_of_getElem? (i := 6) rfl)) rfl rfl hin rfl rfl rfl (Nat.le_of_ble_eq_true rfl) rfl dX5_init_17 (fun H locs hP hD hS => ?_)
  refine lv_aload_n hx hb dX5_init_20 rfl (lv_at hl 0 rfl) ?_
  refine lv_iload_n hx hb dX5_init_21 rfl (lv_at hl 1 rfl) ?_
  refine lv_iload_n hx hb dX5_init_22 rfl (lv_at hl 2 rfl) ?_
  refine lv_imul hx hb dX5_init_23 ?_
  rw [show (nI nr) * (nI np) = nI (nr * np) from (nx_mul rfl rfl)]
  refine nw_i hx hb (hts _ (List.mem_of_getElem? (i := 7) rfl)) hB.1 hP hD hS hA (nr * np) rfl (by omega) (Nat.le_of_ble_eq_true rfl) (Nat.le_trans (Nat.add_le_add_left h160 _) (Nat.le_of_ble_eq_true rfl)) dX5_init_24 (fun n0 H hP hD hS => ?_)
  have hP : va_P D vwCl [(h0, .inr (5, [.int (nI nr), .int (nI np), .null, .int 100])), (n0, .inl (cI, nr * np, .inl (fun _ => 0)))] H := hP
  have hD : va_D A [(h0, .inr (5, [.int (nI nr), .int (nI np), .null, .int 100])), (n0, .inl (cI, nr * np, .inl (fun _ => 0)))] := hD
  refine W.widen (k := 1) (n := 160) (by omega) (by omega) ?_
  refine pfF (w2 := [(h0, .inr (5, [.int (nI nr), .int (nI np), .ref n0, .int 100])), (n0, .inl (cI, nr * np, .inl (fun _ => 0)))]) (ci := 5) (C := RX5) (T := TX5) (N := 4) hx hb hts hiX5 tyX5 tyX5_ok nmX5 hown hB.1 hP hD hS 0 rfl rfl 2 (by decide) (hts _ (List.mem_of_getElem? (i := 8) rfl)) rfl rfl hin rfl rfl rfl (Nat.le_of_ble_eq_true rfl) rfl dX5_init_26 (fun H locs hP hD hS => ?_)
  refine W.widen (k := 1) (n := 160) (by omega) (by omega) ?_
  exact W.vret hx hb hr (fun t ht hW => ⟨⟨n0, rfl, trivial, by rw [ht]; exact hP, hD⟩, hS.F ht⟩) hS.2.2 dX5_init_29

set_option maxHeartbeats 4000000 in
set_option maxRecDepth 100000 in
theorem c_X6_init (l : Launch) {D : va_G} {cI cZ cB : ClassId} {au : Nat} {kA kV : Nat → Nat} {z0 : Nat} (sz : Nat) (h0 : Nat) (nr : Nat) (h20 : nr ≤ 20) : Met l yX6_init wsX6_init ({ frames := 1, cells := 4, slots := 80, locals := 20 }) (va_Pc [.ref h0, .int (nI nr)] (PRE D cI cZ cB au kA kV z0 sz [(h0, .inr (6, [.null, .null, .null, .null, .int 0, .int 0]))])) (QC (S := Nat × Nat × Nat × Nat) D [(h0, .inr (6, [.null, .null, .null, .null, .int 0, .int 0]))] sz (fun u => [(h0, .inr (6, [.ref u.1, .ref u.2.1, .ref u.2.2.1, .ref u.2.2.2, .int 0, .int 0])), (u.1, .inl (cI, nr, .inl (fun _ => 0))), (u.2.1, .inl (cI, nr, .inl (fun _ => 0))), (u.2.2.1, .inl (cZ, nr, .inl (fun _ => 0))), (u.2.2.2, .inl (cZ, nr, .inl (fun _ => 0)))])) 4 80 (va_A [(h0, .inr (6, [.null, .null, .null, .null, .int 0, .int 0]))] sz) := by
  refine Met.ofW (cc := cX6_init) (maxL := 2) (ret := none) (by decide) rfl ?_
  intro p e s m args below meth c s₁ B hml hv
  obtain ⟨rfl, hsz, hz, hP, hD0, hB⟩ := hv
  have hx := B.exec
  have hb := B.bytes
  have hr := B.returns
  have hts := atoms_spec (ws := wsX6_init) B.pre
  have hown : s.vm.findClass RX6 = some m.cls := findClass_of_methodNamed B.named
  have hlocks := B.notSynchronized
  have hin : meth.name = "<init>" := (name_of_methodNamed B.named B.method).1
  subst hsz
  have hD := hD0.self (sz := s.heap.size)
  have hA0 := va_A0 hD0 hz
  unfold QC
  generalize hAe : va_A [(h0, .inr (6, [.null, .null, .null, .null, .int 0, .int 0]))] s.heap.size = A at hD hA0 ⊢
  have hA : ∀ q : Nat, s.heap.size ≤ q → A q := fun q h => by rw [← hAe]; exact Or.inr h
  have hS : va_S A s.heap s.heap [] := va_S.rf
  have hiX6 : ∀ w ∈ wsX60, w ∈ wsX6_init := fun w h => List.mem_cons_of_mem _ (List.mem_append_right _ h)
  have hl := lv_entry ([.ref h0, .int (nI nr)]) (n := 2) (Nat.le_of_ble_eq_true rfl)
  rw [lg_entry_eq]
  generalize (lg_sl ([.ref h0, .int (nI nr)]) ++ List.replicate (2 - (lg_sl ([.ref h0, .int (nI nr)])).length) Slot.unset).toArray = ls at hl ⊢
  have hl : lv_has ls 2 [(0, .ref h0), (1, .int (nI nr))] := hl
  refine lv_aload_n hx hb dX6_init_0 rfl (lv_at hl 0 rfl) ?_
  refine W.objInit hx hb hown (hts _ (List.mem_of_getElem? (i := 1) rfl)) (hts _ (List.mem_of_getElem? (i := 2) rfl)) (hts _ (List.mem_of_getElem? (i := 3) rfl)) rfl (by rw [hml]; exact hl.1) rfl dX6_init_1 (Nat.le_of_ble_eq_true rfl) (Nat.le_of_ble_eq_true rfl) ?_
  refine W.eq (g2 := F0 m 4 ls []) rfl ?_
  refine lv_aload_n hx hb dX6_init_4 rfl (lv_at hl 0 rfl) ?_
  refine lv_iconst (v := 0) hx hb dX6_init_5 (by decide) ?_
  refine pf (w2 := [(h0, .inr (6, [.null, .null, .null, .null, .int 0, .int 0]))]) (ci := 6) (C := RX6) (T := TX6) (N := 6) hx hb hts hiX6 tyX6 tyX6_ok nmX6 hown hB.1 hP hD hS 0 rfl rfl 4 (by decide) (hts _ (List.mem_of_getElem? (i := 4) rfl)) rfl rfl rfl rfl (Nat.le_of_ble_eq_true rfl) rfl dX6_init_6 (fun H locs hP hD hS => ?_)
  refine lv_aload_n hx hb dX6_init_9 rfl (lv_at hl 0 rfl) ?_
  refine lv_iconst (v := 0) hx hb dX6_init_10 (by decide) ?_
  refine pf (w2 := [(h0, .inr (6, [.null, .null, .null, .null, .int 0, .int 0]))]) (ci := 6) (C := RX6) (T := TX6) (N := 6) hx hb hts hiX6 tyX6 tyX6_ok nmX6 hown hB.1 hP hD hS 0 rfl rfl 5 (by decide) (hts _ (List.mem_of_getElem? (i := 5) rfl)) rfl rfl rfl rfl (Nat.le_of_ble_eq_true rfl) rfl dX6_init_11 (fun H locs hP hD hS => ?_)
  refine lv_aload_n hx hb dX6_init_14 rfl (lv_at hl 0 rfl) ?_
  refine lv_iload_n hx hb dX6_init_15 rfl (lv_at hl 1 rfl) ?_
  refine nw_i hx hb (hts _ (List.mem_of_getElem? (i := 6) rfl)) hB.1 hP hD hS hA nr rfl (by omega) (Nat.le_of_ble_eq_true rfl) (Nat.le_trans (Nat.add_le_add_left h20 _) (Nat.le_of_ble_eq_true rfl)) dX6_init_16 (fun n0 H hP hD hS => ?_)
  have hP : va_P D vwCl [(h0, .inr (6, [.null, .null, .null, .null, .int 0, .int 0])), (n0, .inl (cI, nr, .inl (fun _ => 0)))] H := hP
  have hD : va_D A [(h0, .inr (6, [.null, .null, .null, .null, .int 0, .int 0])), (n0, .inl (cI, nr, .inl (fun _ => 0)))] := hD
  refine W.widen (k := 1) (n := 20) (by omega) (by omega) ?_
  refine pfF (w2 := [(h0, .inr (6, [.ref n0, .null, .null, .null, .int 0, .int 0])), (n0, .inl (cI, nr, .inl (fun _ => 0)))]) (ci := 6) (C := RX6) (T := TX6) (N := 6) hx hb hts hiX6 tyX6 tyX6_ok nmX6 hown hB.1 hP hD hS 0 rfl rfl 0 (by decide) (hts _ (List.mem_of_getElem? (i := 7) rfl)) rfl rfl hin rfl rfl rfl (Nat.le_of_ble_eq_true rfl) rfl dX6_init_18 (fun H locs hP hD hS => ?_)
  refine lv_aload_n hx hb dX6_init_21 rfl (lv_at hl 0 rfl) ?_
  refine lv_iload_n hx hb dX6_init_22 rfl (lv_at hl 1 rfl) ?_
  refine nw_i hx hb (hts _ (List.mem_of_getElem? (i := 6) rfl)) hB.1 hP hD hS hA nr rfl (by omega) (Nat.le_of_ble_eq_true rfl) (Nat.le_trans (Nat.add_le_add_left h20 _) (Nat.le_of_ble_eq_true rfl)) dX6_init_23 (fun n1 H hP hD hS => ?_)
  have hP : va_P D vwCl [(h0, .inr (6, [.ref n0, .null, .null, .null, .int 0, .int 0])), (n0, .inl (cI, nr, .inl (fun _ => 0))), (n1, .inl (cI, nr, .inl (fun _ => 0)))] H := hP
  have hD : va_D A [(h0, .inr (6, [.ref n0, .null, .null, .null, .int 0, .int 0])), (n0, .inl (cI, nr, .inl (fun _ => 0))), (n1, .inl (cI, nr, .inl (fun _ => 0)))] := hD
  refine W.widen (k := 2) (n := 40) (by omega) (by omega) ?_
  refine pfF (w2 := [(h0, .inr (6, [.ref n0, .ref n1, .null, .null, .int 0, .int 0])), (n0, .inl (cI, nr, .inl (fun _ => 0))), (n1, .inl (cI, nr, .inl (fun _ => 0)))]) (ci := 6) (C := RX6) (T := TX6) (N := 6) hx hb hts hiX6 tyX6 tyX6_ok nmX6 hown hB.1 hP hD hS 0 rfl rfl 1 (by decide) (hts _ (List.mem_of_getElem? (i := 8) rfl)) rfl rfl hin rfl rfl rfl (Nat.le_of_ble_eq_true rfl) rfl dX6_init_25 (fun H locs hP hD hS => ?_)
  refine lv_aload_n hx hb dX6_init_28 rfl (lv_at hl 0 rfl) ?_
  refine lv_iload_n hx hb dX6_init_29 rfl (lv_at hl 1 rfl) ?_
  refine nw_z hx hb (hts _ (List.mem_of_getElem? (i := 9) rfl)) hB.1 hP hD hS hA nr rfl (by omega) (Nat.le_of_ble_eq_true rfl) (Nat.le_trans (Nat.add_le_add_left h20 _) (Nat.le_of_ble_eq_true rfl)) dX6_init_30 (fun n2 H hP hD hS => ?_)
  have hP : va_P D vwCl [(h0, .inr (6, [.ref n0, .ref n1, .null, .null, .int 0, .int 0])), (n0, .inl (cI, nr, .inl (fun _ => 0))), (n1, .inl (cI, nr, .inl (fun _ => 0))), (n2, .inl (cZ, nr, .inl (fun _ => 0)))] H := hP
  have hD : va_D A [(h0, .inr (6, [.ref n0, .ref n1, .null, .null, .int 0, .int 0])), (n0, .inl (cI, nr, .inl (fun _ => 0))), (n1, .inl (cI, nr, .inl (fun _ => 0))), (n2, .inl (cZ, nr, .inl (fun _ => 0)))] := hD
  refine W.widen (k := 3) (n := 60) (by omega) (by omega) ?_
  refine pfF (w2 := [(h0, .inr (6, [.ref n0, .ref n1, .ref n2, .null, .int 0, .int 0])), (n0, .inl (cI, nr, .inl (fun _ => 0))), (n1, .inl (cI, nr, .inl (fun _ => 0))), (n2, .inl (cZ, nr, .inl (fun _ => 0)))]) (ci := 6) (C := RX6) (T := TX6) (N := 6) hx hb hts hiX6 tyX6 tyX6_ok nmX6 hown hB.1 hP hD hS 0 rfl rfl 2 (by decide) (hts _ (List.mem_of_getElem? (i := 10) rfl)) rfl rfl hin rfl rfl rfl (Nat.le_of_ble_eq_true rfl) rfl dX6_init_32 (fun H locs hP hD hS => ?_)
  refine lv_aload_n hx hb dX6_init_35 rfl (lv_at hl 0 rfl) ?_
  refine lv_iload_n hx hb dX6_init_36 rfl (lv_at hl 1 rfl) ?_
  refine nw_z hx hb (hts _ (List.mem_of_getElem? (i := 9) rfl)) hB.1 hP hD hS hA nr rfl (by omega) (Nat.le_of_ble_eq_true rfl) (Nat.le_trans (Nat.add_le_add_left h20 _) (Nat.le_of_ble_eq_true rfl)) dX6_init_37 (fun n3 H hP hD hS => ?_)
  have hP : va_P D vwCl [(h0, .inr (6, [.ref n0, .ref n1, .ref n2, .null, .int 0, .int 0])), (n0, .inl (cI, nr, .inl (fun _ => 0))), (n1, .inl (cI, nr, .inl (fun _ => 0))), (n2, .inl (cZ, nr, .inl (fun _ => 0))), (n3, .inl (cZ, nr, .inl (fun _ => 0)))] H := hP
  have hD : va_D A [(h0, .inr (6, [.ref n0, .ref n1, .ref n2, .null, .int 0, .int 0])), (n0, .inl (cI, nr, .inl (fun _ => 0))), (n1, .inl (cI, nr, .inl (fun _ => 0))), (n2, .inl (cZ, nr, .inl (fun _ => 0))), (n3, .inl (cZ, nr, .inl (fun _ => 0)))] := hD
  refine W.widen (k := 4) (n := 80) (by omega) (by omega) ?_
  refine pfF (w2 := [(h0, .inr (6, [.ref n0, .ref n1, .ref n2, .ref n3, .int 0, .int 0])), (n0, .inl (cI, nr, .inl (fun _ => 0))), (n1, .inl (cI, nr, .inl (fun _ => 0))), (n2, .inl (cZ, nr, .inl (fun _ => 0))), (n3, .inl (cZ, nr, .inl (fun _ => 0)))]) (ci := 6) (C := RX6) (T := TX6) (N := 6) hx hb hts hiX6 tyX6 tyX6_ok nmX6 hown hB.1 hP hD hS 0 rfl rfl 3 (by decide) (hts _ (List.mem_of_getElem? (i := 11) rfl)) rfl rfl hin rfl rfl rfl (Nat.le_of_ble_eq_true rfl) rfl dX6_init_39 (fun H locs hP hD hS => ?_)
  refine W.widen (k := 4) (n := 80) (by omega) (by omega) ?_
  exact W.vret hx hb hr (fun t ht hW => ⟨⟨(n0, n1, n2, n3), rfl, trivial, by rw [ht]; exact hP, hD⟩, hS.F ht⟩) hS.2.2 dX6_init_42

def F_X1_init_L56  (t : Nat) (s_ : (Nat → Int32) × (Nat → Int32) × (Nat → Int32)) : (Nat → Int32) × (Nat → Int32) × (Nat → Int32) :=
    (upd s_.1 t 3, upd s_.2.1 t (-1), upd s_.2.2 t 1000)
set_option maxHeartbeats 4000000 in
set_option maxRecDepth 100000 in
theorem c_X1_init (l : Launch) {D : va_G} {cI cZ cB : ClassId} {au : Nat} {kA kV : Nat → Nat} {z0 : Nat} (sz : Nat) (h0 : Nat) (nr : Nat) (np : Nat) (h160 : nr * np ≤ 160) : Met l yX1_init wsX1_init ({ frames := 1, cells := 4, slots := 640, locals := 20 }) (va_Pc [.ref h0, .int (nI nr), .int (nI np)] (PRE D cI cZ cB au kA kV z0 sz [(h0, .inr (1, [.int 0, .int 0, .null, .null, .null, .null, .int 0]))])) (QC (S := Nat × Nat × Nat × Nat) D [(h0, .inr (1, [.int 0, .int 0, .null, .null, .null, .null, .int 0]))] sz (fun u => [(h0, .inr (1, [.int (nI nr), .int (nI np), .ref u.1, .ref u.2.1, .ref u.2.2.1, .ref u.2.2.2, .int 1000])), (u.1, .inl (cI, nr * np, .inl (lp (F_X1_init_L56) (nr * np) ((fun _ => 0), (fun _ => 0), (fun _ => 0))).1)), (u.2.1, .inl (cI, nr * np, .inl (lp (F_X1_init_L56) (nr * np) ((fun _ => 0), (fun _ => 0), (fun _ => 0))).2.1)), (u.2.2.1, .inl (cI, nr * np, .inl (fun _ => 0))), (u.2.2.2, .inl (cI, nr * np, .inl (lp (F_X1_init_L56) (nr * np) ((fun _ => 0), (fun _ => 0), (fun _ => 0))).2.2))])) 4 640 (va_A [(h0, .inr (1, [.int 0, .int 0, .null, .null, .null, .null, .int 0]))] sz) := by
  refine Met.ofW (cc := cX1_init) (maxL := 5) (ret := none) (by decide) rfl ?_
  intro p e s m args below meth c s₁ B hml hv
  obtain ⟨rfl, hsz, hz, hP, hD0, hB⟩ := hv
  have hx := B.exec
  have hb := B.bytes
  have hr := B.returns
  have hts := atoms_spec (ws := wsX1_init) B.pre
  have hown : s.vm.findClass RX1 = some m.cls := findClass_of_methodNamed B.named
  have hlocks := B.notSynchronized
  have hin : meth.name = "<init>" := (name_of_methodNamed B.named B.method).1
  subst hsz
  have hD := hD0.self (sz := s.heap.size)
  have hA0 := va_A0 hD0 hz
  unfold QC
  generalize hAe : va_A [(h0, .inr (1, [.int 0, .int 0, .null, .null, .null, .null, .int 0]))] s.heap.size = A at hD hA0 ⊢
  have hA : ∀ q : Nat, s.heap.size ≤ q → A q := fun q h => by rw [← hAe]; exact Or.inr h
  have hS : va_S A s.heap s.heap [] := va_S.rf
  have hiX1 : ∀ w ∈ wsX10, w ∈ wsX1_init := fun w h => List.mem_cons_of_mem _ (List.mem_append_right _ h)
  have hl := lv_entry ([.ref h0, .int (nI nr), .int (nI np)]) (n := 5) (Nat.le_of_ble_eq_true rfl)
  rw [lg_entry_eq]
  generalize (lg_sl ([.ref h0, .int (nI nr), .int (nI np)]) ++ List.replicate (5 - (lg_sl ([.ref h0, .int (nI nr), .int (nI np)])).length) Slot.unset).toArray = ls at hl ⊢
  have hl : lv_has ls 5 [(0, .ref h0), (1, .int (nI nr)), (2, .int (nI np))] := hl
  refine lv_aload_n hx hb dX1_init_0 rfl (lv_at hl 0 rfl) ?_
  refine W.objInit hx hb hown (hts _ (List.mem_of_getElem? (i := 1) rfl)) (hts _ (List.mem_of_getElem? (i := 2) rfl)) (hts _ (List.mem_of_getElem? (i := 3) rfl)) rfl (by rw [hml]; exact hl.1) rfl dX1_init_1 (Nat.le_of_ble_eq_true rfl) (Nat.le_of_ble_eq_true rfl) ?_
  refine W.eq (g2 := F0 m 4 ls []) rfl ?_
  refine lv_aload_n hx hb dX1_init_4 rfl (lv_at hl 0 rfl) ?_
  refine lv_sipush (v := 1000) hx hb dX1_init_5 (by decide) ?_
  refine pf (w2 := [(h0, .inr (1, [.int 0, .int 0, .null, .null, .null, .null, .int 1000]))]) (ci := 1) (C := RX1) (T := TX1) (N := 7) hx hb hts hiX1 tyX1 tyX1_ok nmX1 hown hB.1 hP hD hS 0 rfl rfl 6 (by decide) (hts _ (List.mem_of_getElem? (i := 4) rfl)) rfl rfl rfl rfl (Nat.le_of_ble_eq_true rfl) rfl dX1_init_8 (fun H locs hP hD hS => ?_)
  refine lv_aload_n hx hb dX1_init_11 rfl (lv_at hl 0 rfl) ?_
  refine lv_iload_n hx hb dX1_init_12 rfl (lv_at hl 1 rfl) ?_
  refine pfF (w2 := [(h0, .inr (1, [.int (nI nr), .int 0, .null, .null, .null, .null, .int 1000]))]) (ci := 1) (C := RX1) (T := TX1) (N := 7) hx hb hts hiX1 tyX1 tyX1_ok nmX1 hown hB.1 hP hD hS 0 rfl rfl 0 (by decide) (hts _ (List.mem_of_getElem? (i := 5) rfl)) rfl rfl hin rfl rfl rfl (Nat.le_of_ble_eq_true rfl) rfl dX1_init_13 (fun H locs hP hD hS => ?_)
  refine lv_aload_n hx hb dX1_init_16 rfl (lv_at hl 0 rfl) ?_
  refine lv_iload_n hx hb dX1_init_17 rfl (lv_at hl 2 rfl) ?_
  refine pfF (w2 := [(h0, .inr (1, [.int (nI nr), .int (nI np), .null, .null, .null, .null, .int 1000]))]) (ci := 1) (C := RX1) (T := TX1) (N := 7) hx hb hts hiX1 tyX1 tyX1_ok nmX1 hown hB.1 hP hD hS 0 rfl rfl 1 (by decide) (hts _ (List.mem_of_getElem? (i := 6) rfl)) rfl rfl hin rfl rfl rfl (Nat.le_of_ble_eq_true rfl) rfl dX1_init_18 (fun H locs hP hD hS => ?_)
  refine lv_iload_n hx hb dX1_init_21 rfl (lv_at hl 1 rfl) ?_
  refine lv_iload_n hx hb dX1_init_22 rfl (lv_at hl 2 rfl) ?_
  refine lv_imul hx hb dX1_init_23 ?_
  rw [show (nI nr) * (nI np) = nI (nr * np) from (nx_mul rfl rfl)]
  refine lv_istore_n (lv' := [(3, .int (nI (nr * np))), (0, .ref h0), (1, .int (nI nr)), (2, .int (nI np))]) hx hb dX1_init_24 rfl hl (by decide) rfl (fun ls hl => ?_)
  refine lv_aload_n hx hb dX1_init_25 rfl (lv_at hl 1 rfl) ?_
  refine lv_iload_n hx hb dX1_init_26 rfl (lv_at hl 0 rfl) ?_
  refine nw_i hx hb (hts _ (List.mem_of_getElem? (i := 7) rfl)) hB.1 hP hD hS hA (nr * np) rfl (by omega) (Nat.le_of_ble_eq_true rfl) (Nat.le_trans (Nat.add_le_add_left h160 _) (Nat.le_of_ble_eq_true rfl)) dX1_init_27 (fun n0 H hP hD hS => ?_)
  have hP : va_P D vwCl [(h0, .inr (1, [.int (nI nr), .int (nI np), .null, .null, .null, .null, .int 1000])), (n0, .inl (cI, nr * np, .inl (fun _ => 0)))] H := hP
  have hD : va_D A [(h0, .inr (1, [.int (nI nr), .int (nI np), .null, .null, .null, .null, .int 1000])), (n0, .inl (cI, nr * np, .inl (fun _ => 0)))] := hD
  refine W.widen (k := 1) (n := 160) (by omega) (by omega) ?_
  refine pfF (w2 := [(h0, .inr (1, [.int (nI nr), .int (nI np), .ref n0, .null, .null, .null, .int 1000])), (n0, .inl (cI, nr * np, .inl (fun _ => 0)))]) (ci := 1) (C := RX1) (T := TX1) (N := 7) hx hb hts hiX1 tyX1 tyX1_ok nmX1 hown hB.1 hP hD hS 0 rfl rfl 2 (by decide) (hts _ (List.mem_of_getElem? (i := 8) rfl)) rfl rfl hin rfl rfl rfl (Nat.le_of_ble_eq_true rfl) rfl dX1_init_29 (fun H locs hP hD hS => ?_)
  refine lv_aload_n hx hb dX1_init_32 rfl (lv_at hl 1 rfl) ?_
  refine lv_iload_n hx hb dX1_init_33 rfl (lv_at hl 0 rfl) ?_
  refine nw_i hx hb (hts _ (List.mem_of_getElem? (i := 7) rfl)) hB.1 hP hD hS hA (nr * np) rfl (by omega) (Nat.le_of_ble_eq_true rfl) (Nat.le_trans (Nat.add_le_add_left h160 _) (Nat.le_of_ble_eq_true rfl)) dX1_init_34 (fun n1 H hP hD hS => ?_)
  have hP : va_P D vwCl [(h0, .inr (1, [.int (nI nr), .int (nI np), .ref n0, .null, .null, .null, .int 1000])), (n0, .inl (cI, nr * np, .inl (fun _ => 0))), (n1, .inl (cI, nr * np, .inl (fun _ => 0)))] H := hP
  have hD : va_D A [(h0, .inr (1, [.int (nI nr), .int (nI np), .ref n0, .null, .null, .null, .int 1000])), (n0, .inl (cI, nr * np, .inl (fun _ => 0))), (n1, .inl (cI, nr * np, .inl (fun _ => 0)))] := hD
  refine W.widen (k := 2) (n := 320) (by omega) (by omega) ?_
  refine pfF (w2 := [(h0, .inr (1, [.int (nI nr), .int (nI np), .ref n0, .ref n1, .null, .null, .int 1000])), (n0, .inl (cI, nr * np, .inl (fun _ => 0))), (n1, .inl (cI, nr * np, .inl (fun _ => 0)))]) (ci := 1) (C := RX1) (T := TX1) (N := 7) hx hb hts hiX1 tyX1 tyX1_ok nmX1 hown hB.1 hP hD hS 0 rfl rfl 3 (by decide) (hts _ (List.mem_of_getElem? (i := 9) rfl)) rfl rfl hin rfl rfl rfl (Nat.le_of_ble_eq_true rfl) rfl dX1_init_36 (fun H locs hP hD hS => ?_)
  refine lv_aload_n hx hb dX1_init_39 rfl (lv_at hl 1 rfl) ?_
  refine lv_iload_n hx hb dX1_init_40 rfl (lv_at hl 0 rfl) ?_
  refine nw_i hx hb (hts _ (List.mem_of_getElem? (i := 7) rfl)) hB.1 hP hD hS hA (nr * np) rfl (by omega) (Nat.le_of_ble_eq_true rfl) (Nat.le_trans (Nat.add_le_add_left h160 _) (Nat.le_of_ble_eq_true rfl)) dX1_init_41 (fun n2 H hP hD hS => ?_)
  have hP : va_P D vwCl [(h0, .inr (1, [.int (nI nr), .int (nI np), .ref n0, .ref n1, .null, .null, .int 1000])), (n0, .inl (cI, nr * np, .inl (fun _ => 0))), (n1, .inl (cI, nr * np, .inl (fun _ => 0))), (n2, .inl (cI, nr * np, .inl (fun _ => 0)))] H := hP
  have hD : va_D A [(h0, .inr (1, [.int (nI nr), .int (nI np), .ref n0, .ref n1, .null, .null, .int 1000])), (n0, .inl (cI, nr * np, .inl (fun _ => 0))), (n1, .inl (cI, nr * np, .inl (fun _ => 0))), (n2, .inl (cI, nr * np, .inl (fun _ => 0)))] := hD
  refine W.widen (k := 3) (n := 480) (by omega) (by omega) ?_
  refine pfF (w2 := [(h0, .inr (1, [.int (nI nr), .int (nI np), .ref n0, .ref n1, .ref n2, .null, .int 1000])), (n0, .inl (cI, nr * np, .inl (fun _ => 0))), (n1, .inl (cI, nr * np, .inl (fun _ => 0))), (n2, .inl (cI, nr * np, .inl (fun _ => 0)))]) (ci := 1) (C := RX1) (T := TX1) (N := 7) hx hb hts hiX1 tyX1 tyX1_ok nmX1 hown hB.1 hP hD hS 0 rfl rfl 4 (by decide) (hts _ (List.mem_of_getElem? (i := 10) rfl)) rfl rfl hin rfl rfl rfl (Nat.le_of_ble_eq_true rfl) rfl dX1_init_43 (fun H locs hP hD hS => ?_)
  refine lv_aload_n hx hb dX1_init_46 rfl (lv_at hl 1 rfl) ?_
  refine lv_iload_n hx hb dX1_init_47 rfl (lv_at hl 0 rfl) ?_
  refine nw_i hx hb (hts _ (List.mem_of_getElem? (i := 7) rfl)) hB.1 hP hD hS hA (nr * np) rfl (by omega) (Nat.le_of_ble_eq_true rfl) (Nat.le_trans (Nat.add_le_add_left h160 _) (Nat.le_of_ble_eq_true rfl)) dX1_init_48 (fun n3 H hP hD hS => ?_)
  have hP : va_P D vwCl [(h0, .inr (1, [.int (nI nr), .int (nI np), .ref n0, .ref n1, .ref n2, .null, .int 1000])), (n0, .inl (cI, nr * np, .inl (fun _ => 0))), (n1, .inl (cI, nr * np, .inl (fun _ => 0))), (n2, .inl (cI, nr * np, .inl (fun _ => 0))), (n3, .inl (cI, nr * np, .inl (fun _ => 0)))] H := hP
  have hD : va_D A [(h0, .inr (1, [.int (nI nr), .int (nI np), .ref n0, .ref n1, .ref n2, .null, .int 1000])), (n0, .inl (cI, nr * np, .inl (fun _ => 0))), (n1, .inl (cI, nr * np, .inl (fun _ => 0))), (n2, .inl (cI, nr * np, .inl (fun _ => 0))), (n3, .inl (cI, nr * np, .inl (fun _ => 0)))] := hD
  refine W.widen (k := 4) (n := 640) (by omega) (by omega) ?_
  refine pfF (w2 := [(h0, .inr (1, [.int (nI nr), .int (nI np), .ref n0, .ref n1, .ref n2, .ref n3, .int 1000])), (n0, .inl (cI, nr * np, .inl (fun _ => 0))), (n1, .inl (cI, nr * np, .inl (fun _ => 0))), (n2, .inl (cI, nr * np, .inl (fun _ => 0))), (n3, .inl (cI, nr * np, .inl (fun _ => 0)))]) (ci := 1) (C := RX1) (T := TX1) (N := 7) hx hb hts hiX1 tyX1 tyX1_ok nmX1 hown hB.1 hP hD hS 0 rfl rfl 5 (by decide) (hts _ (List.mem_of_getElem? (i := 11) rfl)) rfl rfl hin rfl rfl rfl (Nat.le_of_ble_eq_true rfl) rfl dX1_init_50 (fun H locs hP hD hS => ?_)
  refine lv_iconst (v := 0) hx hb dX1_init_53 (by decide) ?_
  refine lv_istore (lv' := [(4, .int 0), (3, .int (nI (nr * np))), (0, .ref h0), (1, .int (nI nr)), (2, .int (nI np))]) hx hb dX1_init_54 hl (by decide) rfl (fun ls hl => ?_)
  refine lpM (σ := Nat) (fun t => t ≤ nr * np) (fun t => (nr * np) - t) (fun t => [(h0, .inr (1, [.int (nI nr), .int (nI np), .ref n0, .ref n1, .ref n2, .ref n3, .int 1000])), (n0, .inl (cI, nr * np, .inl (lp (F_X1_init_L56) t ((fun _ => 0), (fun _ => 0), (fun _ => 0))).1)), (n1, .inl (cI, nr * np, .inl (lp (F_X1_init_L56) t ((fun _ => 0), (fun _ => 0), (fun _ => 0))).2.1)), (n2, .inl (cI, nr * np, .inl (fun _ => 0))), (n3, .inl (cI, nr * np, .inl (lp (F_X1_init_L56) t ((fun _ => 0), (fun _ => 0), (fun _ => 0))).2.2))]) (fun t => [(4, .int (nI t)), (3, .int (nI (nr * np))), (0, .ref h0), (1, .int (nI nr)), (2, .int (nI np))]) 0 (Nat.zero_le _) hP hD hS (lv_sub hl [0, 1, 2, 3, 4] rfl) ?_
  intro t h_t ih_t H locs ls hP hD hS hl
  have hP : va_P D vwCl [(h0, .inr (1, [.int (nI nr), .int (nI np), .ref n0, .ref n1, .ref n2, .ref n3, .int 1000])), (n0, .inl (cI, nr * np, .inl (lp (F_X1_init_L56) t ((fun _ => 0), (fun _ => 0), (fun _ => 0))).1)), (n1, .inl (cI, nr * np, .inl (lp (F_X1_init_L56) t ((fun _ => 0), (fun _ => 0), (fun _ => 0))).2.1)), (n2, .inl (cI, nr * np, .inl (fun _ => 0))), (n3, .inl (cI, nr * np, .inl (lp (F_X1_init_L56) t ((fun _ => 0), (fun _ => 0), (fun _ => 0))).2.2))] H := hP
  have hD : va_D A [(h0, .inr (1, [.int (nI nr), .int (nI np), .ref n0, .ref n1, .ref n2, .ref n3, .int 1000])), (n0, .inl (cI, nr * np, .inl (lp (F_X1_init_L56) t ((fun _ => 0), (fun _ => 0), (fun _ => 0))).1)), (n1, .inl (cI, nr * np, .inl (lp (F_X1_init_L56) t ((fun _ => 0), (fun _ => 0), (fun _ => 0))).2.1)), (n2, .inl (cI, nr * np, .inl (fun _ => 0))), (n3, .inl (cI, nr * np, .inl (lp (F_X1_init_L56) t ((fun _ => 0), (fun _ => 0), (fun _ => 0))).2.2))] := hD
  have hl : lv_has ls 5 [(4, .int (nI t)), (3, .int (nI (nr * np))), (0, .ref h0), (1, .int (nI nr)), (2, .int (nI np))] := hl
  generalize hs_t : lp (F_X1_init_L56) t ((fun _ => 0), (fun _ => 0), (fun _ => 0)) = sv1 at hP hD 
  refine lv_iload hx hb dX1_init_56 (lv_at hl 0 rfl) ?_
  refine lv_iload_n hx hb dX1_init_58 rfl (lv_at hl 1 rfl) ?_
  refine lv_icmp_ge (tgt := 94) hx hb dX1_init_59 (by decide) (fun c_2 => ?_) (fun c_2 => ?_)
  · have hx_t : nr * np = t := Eq.symm (le_ex (by omega) h_t c_2)
    subst hx_t
    subst hs_t
    refine W.widen (k := 4) (n := 640) (by omega) (by omega) ?_
    exact W.vret hx hb hr (fun t ht hW => ⟨⟨(n0, n1, n2, n3), rfl, trivial, by rw [ht]; exact hP, hD⟩, hS.F ht⟩) hS.2.2 dX1_init_94
  · have hlt_t : t < nr * np := le_go (by omega) h_t c_2
    refine lv_aload_n hx hb dX1_init_62 rfl (lv_at hl 2 rfl) ?_
    refine va_get (D := D) (ci := 1) (v := .ref n0) (C := RX1) (T := TX1) (N := 7) hx hb hts hiX1 hown hB.1 hP 0 rfl rfl 2 (by decide) (hts _ (List.mem_of_getElem? (i := 8) rfl)) (fun _ h9 => h9) rfl dX1_init_63 ?_
    refine lv_iload hx hb dX1_init_66 (lv_at hl 0 rfl) ?_
    refine lv_iconst (v := 3) hx hb dX1_init_68 (by decide) ?_
    refine wa_i (w2 := [(h0, .inr (1, [.int (nI nr), .int (nI np), .ref n0, .ref n1, .ref n2, .ref n3, .int 1000])), (n0, .inl (cI, nr * np, .inl (upd sv1.1 t 3))), (n1, .inl (cI, nr * np, .inl sv1.2.1)), (n2, .inl (cI, nr * np, .inl (fun _ => 0))), (n3, .inl (cI, nr * np, .inl sv1.2.2))]) hx hb hB.1 hP hD hS 1 rfl t rfl (by omega) (by omega) dX1_init_69 rfl (fun H locs hP hD hS => ?_)
    refine lv_aload_n hx hb dX1_init_70 rfl (lv_at hl 2 rfl) ?_
    refine va_get (D := D) (ci := 1) (v := .ref n1) (C := RX1) (T := TX1) (N := 7) hx hb hts hiX1 hown hB.1 hP 0 rfl rfl 3 (by decide) (hts _ (List.mem_of_getElem? (i := 9) rfl)) (fun _ h9 => h9) rfl dX1_init_71 ?_
    refine lv_iload hx hb dX1_init_74 (lv_at hl 0 rfl) ?_
    refine lv_iconst (v := (-1)) hx hb dX1_init_76 (by decide) ?_
    refine wa_i (w2 := [(h0, .inr (1, [.int (nI nr), .int (nI np), .ref n0, .ref n1, .ref n2, .ref n3, .int 1000])), (n0, .inl (cI, nr * np, .inl (upd sv1.1 t 3))), (n1, .inl (cI, nr * np, .inl (upd sv1.2.1 t (-1)))), (n2, .inl (cI, nr * np, .inl (fun _ => 0))), (n3, .inl (cI, nr * np, .inl sv1.2.2))]) hx hb hB.1 hP hD hS 2 rfl t rfl (by omega) (by omega) dX1_init_77 rfl (fun H locs hP hD hS => ?_)
    refine lv_aload_n hx hb dX1_init_78 rfl (lv_at hl 2 rfl) ?_
    refine va_get (D := D) (ci := 1) (v := .ref n3) (C := RX1) (T := TX1) (N := 7) hx hb hts hiX1 hown hB.1 hP 0 rfl rfl 5 (by decide) (hts _ (List.mem_of_getElem? (i := 11) rfl)) (fun _ h9 => h9) rfl dX1_init_79 ?_
    refine lv_iload hx hb dX1_init_82 (lv_at hl 0 rfl) ?_
    refine lv_sipush (v := 1000) hx hb dX1_init_84 (by decide) ?_
    refine wa_i (w2 := [(h0, .inr (1, [.int (nI nr), .int (nI np), .ref n0, .ref n1, .ref n2, .ref n3, .int 1000])), (n0, .inl (cI, nr * np, .inl (upd sv1.1 t 3))), (n1, .inl (cI, nr * np, .inl (upd sv1.2.1 t (-1)))), (n2, .inl (cI, nr * np, .inl (fun _ => 0))), (n3, .inl (cI, nr * np, .inl (upd sv1.2.2 t 1000)))]) hx hb hB.1 hP hD hS 4 rfl t rfl (by omega) (by omega) dX1_init_87 rfl (fun H locs hP hD hS => ?_)
    refine lv_iinc (v := nI (t + 1)) (lv' := [(4, .int (nI (t + 1))), (3, .int (nI (nr * np))), (0, .ref h0), (1, .int (nI nr)), (2, .int (nI np))]) hx hb dX1_init_88 hl (k := 0) rfl (nI_1 _) (by decide) rfl (fun ls hl => ?_)
    refine lv_goto (tgt := 56) hx hb dX1_init_91 (by decide) ?_
    have e_step : F_X1_init_L56 t sv1 = (upd sv1.1 t 3, upd sv1.2.1 t (-1), upd sv1.2.2 t 1000) := by rw [F_X1_init_L56]
    have hP2 : va_P D vwCl [(h0, .inr (1, [.int (nI nr), .int (nI np), .ref n0, .ref n1, .ref n2, .ref n3, .int 1000])), (n0, .inl (cI, nr * np, .inl (F_X1_init_L56 t sv1).1)), (n1, .inl (cI, nr * np, .inl (F_X1_init_L56 t sv1).2.1)), (n2, .inl (cI, nr * np, .inl (fun _ => 0))), (n3, .inl (cI, nr * np, .inl (F_X1_init_L56 t sv1).2.2))] H := by rw [e_step]; exact hP
    have hD2 : va_D A [(h0, .inr (1, [.int (nI nr), .int (nI np), .ref n0, .ref n1, .ref n2, .ref n3, .int 1000])), (n0, .inl (cI, nr * np, .inl (F_X1_init_L56 t sv1).1)), (n1, .inl (cI, nr * np, .inl (F_X1_init_L56 t sv1).2.1)), (n2, .inl (cI, nr * np, .inl (fun _ => 0))), (n3, .inl (cI, nr * np, .inl (F_X1_init_L56 t sv1).2.2))] := by rw [e_step]; exact hD
    have hl2 : lv_has ls 5 [(4, .int (nI (t + 1))), (3, .int (nI (nr * np))), (0, .ref h0), (1, .int (nI nr)), (2, .int (nI np))] := lv_sub hl [0, 1, 2, 3, 4] rfl
    subst hs_t
    exact ih_t (t + 1) (by omega) (by omega) _ _ _ hP2 hD2 hS hl2
