theorem bo_le {np i fo u : Nat} {su : Nat → Int32} (h : fo ≤ u) : F_X5_bestOf np su i fo u ≤ u := by
  unfold F_X5_bestOf
  exact lp_inv (P := fun z => z ≤ u) (n := u - fo) (fun k z hk hz => by unfold F_X5_bestOf_L8; split <;> omega) h _ (Nat.le_refl _)
def F_X5_bestBeside (np : Nat) (su : Nat → Int32) (i : Nat) (q : Nat) : Nat :=
  (F_X5_bestOf np su i (q - 1) (if q + 1 < np - 1 then q + 1 else np - 1))
set_option maxHeartbeats 4000000 in
set_option maxRecDepth 100000 in
theorem c_X5_bestBeside (l : Launch) {D : va_G} {cI cZ cB : ClassId} {au : Nat} {kA kV : Nat → Nat} {z0 : Nat} (sz : Nat) (h0 : Nat) (a1 : Nat) (nr : Nat) (np : Nat) (pr : Int32) (su : Nat → Int32) (row : Int32) (place : Int32) (i : Nat) (q : Nat) (hlen : nr * np < 2 ^ 31) (hnp : np < 2 ^ 30) (e_i : row = nI i) (e_q : place = nI q) (hi : i < nr) (hq : q < np) : Met l yX5_bestBeside wsX5_bestBeside ({ frames := 2, cells := 0, slots := 0, locals := 47 }) (va_Pc [.ref h0, .int row, .int place] (PRE D cI cZ cB au kA kV z0 sz [(h0, .inr (5, [.int (nI nr), .int (nI np), .ref a1, .int pr])), (a1, .inl (cI, nr * np, .inl su))])) (QI D [(h0, .inr (5, [.int (nI nr), .int (nI np), .ref a1, .int pr])), (a1, .inl (cI, nr * np, .inl su))] sz (nI (F_X5_bestBeside np su i q)) [(h0, .inr (5, [.int (nI nr), .int (nI np), .ref a1, .int pr])), (a1, .inl (cI, nr * np, .inl su))]) 0 0 (va_A [(h0, .inr (5, [.int (nI nr), .int (nI np), .ref a1, .int pr])), (a1, .inl (cI, nr * np, .inl su))] sz) := by
  subst e_i
  subst e_q
  refine Met.ofW (cc := cX5_bestBeside) (maxL := 3) (ret := (some .int)) (by decide) rfl ?_
  intro p e s m args below meth c s₁ B hml hv
  obtain ⟨rfl, hsz, hz, hP, hD0, hB⟩ := hv
  have hx := B.exec
  have hb := B.bytes
  have hr := B.returns
  have hts := atoms_spec (ws := wsX5_bestBeside) B.pre
  have hown : s.vm.findClass RX5 = some m.cls := findClass_of_methodNamed B.named
  have hlocks := B.notSynchronized
  subst hsz
  have hD := hD0.self (sz := s.heap.size)
  have hA0 := va_A0 hD0 hz
  unfold QI
  generalize hAe : va_A [(h0, .inr (5, [.int (nI nr), .int (nI np), .ref a1, .int pr])), (a1, .inl (cI, nr * np, .inl su))] s.heap.size = A at hD hA0 ⊢
  have hA : ∀ q : Nat, s.heap.size ≤ q → A q := fun q h => by rw [← hAe]; exact Or.inr h
  have hS : va_S A s.heap s.heap [] := va_S.rf
  have hiX5 : ∀ w ∈ wsX50, w ∈ wsX5_bestBeside := fun w h => List.mem_cons_of_mem _ (List.mem_append_right _ h)
  have hl := lv_entry ([.ref h0, .int (nI i), .int (nI q)]) (n := 3) (Nat.le_of_ble_eq_true rfl)
  rw [lg_entry_eq]
  generalize (lg_sl ([.ref h0, .int (nI i), .int (nI q)]) ++ List.replicate (3 - (lg_sl ([.ref h0, .int (nI i), .int (nI q)])).length) Slot.unset).toArray = ls at hl ⊢
  have hl : lv_has ls 3 [(0, .ref h0), (1, .int (nI i)), (2, .int (nI q))] := hl
  refine lv_aload_n hx hb dX5_bestBeside_0 rfl (lv_at hl 0 rfl) ?_
  refine lv_iload_n hx hb dX5_bestBeside_1 rfl (lv_at hl 1 rfl) ?_
  refine lv_iconst (v := 0) hx hb dX5_bestBeside_2 (by decide) ?_
  refine lv_iload_n hx hb dX5_bestBeside_3 rfl (lv_at hl 2 rfl) ?_
  refine lv_iconst (v := 1) hx hb dX5_bestBeside_4 (by decide) ?_
  refine lv_isub hx hb dX5_bestBeside_5 ?_
  refine va_mmax hx hb (hml.trans hl.1.symm) hown (hts _ (List.mem_of_getElem? (i := 1) rfl)) (hts _ (List.mem_of_getElem? (i := 2) rfl)) (hts _ (List.mem_of_getElem? (i := 3) rfl)) (hts _ (List.mem_of_getElem? (i := 4) rfl)) (Nat.le_of_ble_eq_true rfl) (Nat.le_of_ble_eq_true rfl) (Nat.zero_le _) (Nat.zero_le _) dX5_bestBeside_6 ?_
  rw [mx_pred (by omega)]
  refine lv_aload_n hx hb dX5_bestBeside_9 rfl (lv_at hl 0 rfl) ?_
  refine va_get (D := D) (ci := 5) (v := .int (nI np)) (C := RX5) (T := TX5) (N := 4) hx hb hts hiX5 hown hB.1 hP 0 rfl rfl 1 (by decide) (hts _ (List.mem_of_getElem? (i := 5) rfl)) (fun _ h9 => h9) rfl dX5_bestBeside_10 ?_
  refine lv_iconst (v := 1) hx hb dX5_bestBeside_13 (by decide) ?_
  refine lv_isub hx hb dX5_bestBeside_14 ?_
  refine lv_iload_n hx hb dX5_bestBeside_15 rfl (lv_at hl 2 rfl) ?_
  refine lv_iconst (v := 1) hx hb dX5_bestBeside_16 (by decide) ?_
  refine lv_iadd hx hb dX5_bestBeside_17 ?_
  refine va_mmin hx hb (hml.trans hl.1.symm) hown (hts _ (List.mem_of_getElem? (i := 6) rfl)) (hts _ (List.mem_of_getElem? (i := 7) rfl)) (hts _ (List.mem_of_getElem? (i := 3) rfl)) (hts _ (List.mem_of_getElem? (i := 8) rfl)) (Nat.le_of_ble_eq_true rfl) (Nat.le_of_ble_eq_true rfl) (Nat.zero_le _) (Nat.zero_le _) dX5_bestBeside_18 ?_
  rw [mn_succ (by omega) (by omega) (by omega)]
  refine k_i (w2 := [(h0, .inr (5, [.int (nI nr), .int (nI np), .ref a1, .int pr])), (a1, .inl (cI, nr * np, .inl su))]) (va_runV (As := [.int (nI i), .int (nI (q - 1)), .int (nI (if q + 1 < np - 1 then q + 1 else np - 1))]) (rest := []) ⟨hx, hb, hml, hown, hts⟩ (c_X5_bestOf l _ h0 a1 nr np pr su (nI i) i (q - 1) (if q + 1 < np - 1 then q + 1 else np - 1) hlen hnp rfl hi (by split <;> omega) (by split <;> omega)) (cwV 3 hts gX5_bestBeside_X5_bestOf rfl rfl rfl (by decide +kernel) ⟨Nat.le_of_ble_eq_true rfl, Nat.le_of_ble_eq_true rfl⟩) (pre_V (ci := 5) (q0 := 0) hB hz hA0 hP hD hS [0, 1] rfl rfl rfl rfl rfl) rfl rfl hl.1 rfl (lv_room (Nat.le_of_ble_eq_true rfl)) dX5_bestBeside_21 ⟨Nat.zero_le _, Nat.zero_le _⟩) hP hD hS hA [0, 1] [] [0, 1] rfl rfl rfl rfl rfl (fun H locs hP hD hS => ?_)
  have er : nI (F_X5_bestBeside np su i q) = nI (F_X5_bestOf np su i (q - 1) (if q + 1 < np - 1 then q + 1 else np - 1)) := by rw [F_X5_bestBeside]
  exact W.iret hx hb hr (fun t ht hW => ⟨⟨_, (), rfl, (er.trans rfl.symm).symm, by rw [ht]; exact hP, hD⟩, hS.F ht⟩) hS.2.2 dX5_bestBeside_24

theorem bb_lt {np i q : Nat} {su : Nat → Int32} (hq : q < np) : F_X5_bestBeside np su i q < np := by
  unfold F_X5_bestBeside
  exact Nat.lt_of_le_of_lt (bo_le (by split <;> omega)) (by split <;> omega)
def F_X5_startPlace (np : Nat) (su : Nat → Int32) (dp : Int32) (i : Nat) (q : Nat) : Nat :=
  if dp = (-1) then (F_X5_bestOf np su i 0 (np - 1)) else
  (F_X5_bestBeside np su i q)
set_option maxHeartbeats 4000000 in
set_option maxRecDepth 100000 in
theorem c_X5_startPlace (l : Launch) {D : va_G} {cI cZ cB : ClassId} {au : Nat} {kA kV : Nat → Nat} {z0 : Nat} (sz : Nat) (h0 : Nat) (a1 : Nat) (nr : Nat) (np : Nat) (pr : Int32) (su : Nat → Int32) (row : Int32) (dp : Int32) (i : Nat) (q : Nat) (hlen : nr * np < 2 ^ 31) (hnp : np < 2 ^ 30) (e_i : row = nI i) (hi : i < nr) (h2 : 1 ≤ np) (hq : ¬ dp = (-1) → dp = nI q ∧ q < np) : Met l yX5_startPlace wsX5_startPlace ({ frames := 3, cells := 0, slots := 0, locals := 69 }) (va_Pc [.ref h0, .int row, .int dp] (PRE D cI cZ cB au kA kV z0 sz [(h0, .inr (5, [.int (nI nr), .int (nI np), .ref a1, .int pr])), (a1, .inl (cI, nr * np, .inl su))])) (QI D [(h0, .inr (5, [.int (nI nr), .int (nI np), .ref a1, .int pr])), (a1, .inl (cI, nr * np, .inl su))] sz (nI (F_X5_startPlace np su dp i q)) [(h0, .inr (5, [.int (nI nr), .int (nI np), .ref a1, .int pr])), (a1, .inl (cI, nr * np, .inl su))]) 0 0 (va_A [(h0, .inr (5, [.int (nI nr), .int (nI np), .ref a1, .int pr])), (a1, .inl (cI, nr * np, .inl su))] sz) := by
  subst e_i
  refine Met.ofW (cc := cX5_startPlace) (maxL := 3) (ret := (some .int)) (by decide) rfl ?_
  intro p e s m args below meth c s₁ B hml hv
  obtain ⟨rfl, hsz, hz, hP, hD0, hB⟩ := hv
  have hx := B.exec
  have hb := B.bytes
  have hr := B.returns
  have hts := atoms_spec (ws := wsX5_startPlace) B.pre
  have hown : s.vm.findClass RX5 = some m.cls := findClass_of_methodNamed B.named
  have hlocks := B.notSynchronized
  subst hsz
  have hD := hD0.self (sz := s.heap.size)
  have hA0 := va_A0 hD0 hz
  unfold QI
  generalize hAe : va_A [(h0, .inr (5, [.int (nI nr), .int (nI np), .ref a1, .int pr])), (a1, .inl (cI, nr * np, .inl su))] s.heap.size = A at hD hA0 ⊢
  have hA : ∀ q : Nat, s.heap.size ≤ q → A q := fun q h => by rw [← hAe]; exact Or.inr h
  have hS : va_S A s.heap s.heap [] := va_S.rf
  have hiX5 : ∀ w ∈ wsX50, w ∈ wsX5_startPlace := fun w h => List.mem_cons_of_mem _ (List.mem_append_right _ h)
  have hl := lv_entry ([.ref h0, .int (nI i), .int dp]) (n := 3) (Nat.le_of_ble_eq_true rfl)
  rw [lg_entry_eq]
  generalize (lg_sl ([.ref h0, .int (nI i), .int dp]) ++ List.replicate (3 - (lg_sl ([.ref h0, .int (nI i), .int dp])).length) Slot.unset).toArray = ls at hl ⊢
  have hl : lv_has ls 3 [(0, .ref h0), (1, .int (nI i)), (2, .int dp)] := hl
  refine lv_iload_n hx hb dX5_startPlace_0 rfl (lv_at hl 2 rfl) ?_
  refine lv_iconst (v := (-1)) hx hb dX5_startPlace_1 (by decide) ?_
  refine lv_icmp_ne (tgt := 20) hx hb dX5_startPlace_2 (by decide) (fun c_1 => ?_) (fun c_1 => ?_)
  · obtain ⟨e_q, hq2⟩ := hq c_1
    refine lv_aload_n hx hb dX5_startPlace_20 rfl (lv_at hl 0 rfl) ?_
    refine lv_iload_n hx hb dX5_startPlace_21 rfl (lv_at hl 1 rfl) ?_
    refine lv_iload_n hx hb dX5_startPlace_22 rfl (lv_at hl 2 rfl) ?_
    refine k_i (w2 := [(h0, .inr (5, [.int (nI nr), .int (nI np), .ref a1, .int pr])), (a1, .inl (cI, nr * np, .inl su))]) (va_runV (As := [.int (nI i), .int dp]) (rest := []) ⟨hx, hb, hml, hown, hts⟩ (c_X5_bestBeside l _ h0 a1 nr np pr su (nI i) dp i q hlen hnp rfl e_q hi hq2) (cwV 2 hts gX5_startPlace_X5_bestBeside rfl rfl rfl (by decide +kernel) ⟨Nat.le_of_ble_eq_true rfl, Nat.le_of_ble_eq_true rfl⟩) (pre_V (ci := 5) (q0 := 0) hB hz hA0 hP hD hS [0, 1] rfl rfl rfl rfl rfl) rfl rfl hl.1 rfl (lv_room (Nat.le_of_ble_eq_true rfl)) dX5_startPlace_23 ⟨Nat.zero_le _, Nat.zero_le _⟩) hP hD hS hA [0, 1] [] [0, 1] rfl rfl rfl rfl rfl (fun H locs hP hD hS => ?_)
    have er : nI (F_X5_startPlace np su dp i q) = nI (F_X5_bestBeside np su i q) := by rw [F_X5_startPlace, if_neg c_1]
    exact W.iret hx hb hr (fun t ht hW => ⟨⟨_, (), rfl, (er.trans rfl.symm).symm, by rw [ht]; exact hP, hD⟩, hS.F ht⟩) hS.2.2 dX5_startPlace_26
  · refine lv_aload_n hx hb dX5_startPlace_5 rfl (lv_at hl 0 rfl) ?_
    refine lv_iload_n hx hb dX5_startPlace_6 rfl (lv_at hl 1 rfl) ?_
    refine lv_iconst (v := 0) hx hb dX5_startPlace_7 (by decide) ?_
    refine lv_aload_n hx hb dX5_startPlace_8 rfl (lv_at hl 0 rfl) ?_
    refine va_get (D := D) (ci := 5) (v := .int (nI np)) (C := RX5) (T := TX5) (N := 4) hx hb hts hiX5 hown hB.1 hP 0 rfl rfl 1 (by decide) (hts _ (List.mem_of_getElem? (i := 1) rfl)) (fun _ h9 => h9) rfl dX5_startPlace_9 ?_
    refine lv_iconst (v := 1) hx hb dX5_startPlace_12 (by decide) ?_
    refine lv_isub hx hb dX5_startPlace_13 ?_
    rw [show (nI np) - 1 = nI (np - 1) from (nx_sub (b := 1) h2 rfl rfl)]
    refine k_i (w2 := [(h0, .inr (5, [.int (nI nr), .int (nI np), .ref a1, .int pr])), (a1, .inl (cI, nr * np, .inl su))]) (va_runV (As := [.int (nI i), .int 0, .int (nI (np - 1))]) (rest := []) ⟨hx, hb, hml, hown, hts⟩ (c_X5_bestOf l _ h0 a1 nr np pr su (nI i) i 0 (np - 1) hlen hnp rfl hi (Nat.zero_le _) (by omega)) (cwV 3 hts gX5_startPlace_X5_bestOf rfl rfl rfl (by decide +kernel) ⟨Nat.le_of_ble_eq_true rfl, Nat.le_of_ble_eq_true rfl⟩) (pre_V (ci := 5) (q0 := 0) hB hz hA0 hP hD hS [0, 1] rfl rfl rfl rfl rfl) rfl rfl hl.1 rfl (lv_room (Nat.le_of_ble_eq_true rfl)) dX5_startPlace_14 ⟨Nat.zero_le _, Nat.zero_le _⟩) hP hD hS hA [0, 1] [] [0, 1] rfl rfl rfl rfl rfl (fun H locs hP hD hS => ?_)
    refine lv_goto (tgt := 26) hx hb dX5_startPlace_17 (by decide) ?_
    have er : nI (F_X5_startPlace np su dp i q) = nI (F_X5_bestOf np su i 0 (np - 1)) := by rw [F_X5_startPlace, if_pos c_1]
    exact W.iret hx hb hr (fun t ht hW => ⟨⟨_, (), rfl, (er.trans rfl.symm).symm, by rw [ht]; exact hP, hD⟩, hS.F ht⟩) hS.2.2 dX5_startPlace_26

theorem sp_lt {np i q : Nat} {su : Nat → Int32} {dp : Int32} (h2 : 1 ≤ np) (hq : ¬ dp = (-1) → dp = nI q ∧ q < np) : F_X5_startPlace np su dp i q < np := by
  by_cases h : dp = (-1)
  · rw [F_X5_startPlace, if_pos h]
    exact Nat.lt_of_le_of_lt (bo_le (Nat.zero_le _)) (by omega)
  · rw [F_X5_startPlace, if_neg h]
    exact bb_lt (hq h).2
def F_X5_tinBy (np : Nat) (fl : Nat → Int32) (fg : Nat → Int32) (way : Int32) (i : Nat) (j : Nat) : Int32 :=
  if way = 0 then fl ((i * np) + j) else
  if way = 1 then fg ((i * np) + j) else
  ((fl ((i * np) + j)) + (fg ((i * np) + j))) / 2
set_option maxHeartbeats 4000000 in
set_option maxRecDepth 100000 in
theorem c_X5_tinBy (l : Launch) {D : va_G} {cI cZ cB : ClassId} {au : Nat} {kA kV : Nat → Nat} {z0 : Nat} (sz : Nat) (g0 : Nat) (b1 : Nat) (b2 : Nat) (b3 : Nat) (b4 : Nat) (nr : Nat) (np : Nat) (g : Int32) (fd : Nat → Int32) (ft : Nat → Int32) (fl : Nat → Int32) (fg : Nat → Int32) (way : Int32) (row : Int32) (place : Int32) (i : Nat) (j : Nat) (hlen : nr * np < 2 ^ 31) (e_i : row = nI i) (e_j : place = nI j) (hi : i < nr) (hj : j < np) : Met l yX5_tinBy wsX5_tinBy ({ frames := 1, cells := 0, slots := 0, locals := 22 }) (va_Pc [.ref g0, .int way, .int row, .int place] (PRE D cI cZ cB au kA kV z0 sz [(g0, .inr (1, [.int (nI nr), .int (nI np), .ref b1, .ref b2, .ref b3, .ref b4, .int g])), (b1, .inl (cI, nr * np, .inl fd)), (b2, .inl (cI, nr * np, .inl ft)), (b3, .inl (cI, nr * np, .inl fl)), (b4, .inl (cI, nr * np, .inl fg))])) (QI D [(g0, .inr (1, [.int (nI nr), .int (nI np), .ref b1, .ref b2, .ref b3, .ref b4, .int g])), (b1, .inl (cI, nr * np, .inl fd)), (b2, .inl (cI, nr * np, .inl ft)), (b3, .inl (cI, nr * np, .inl fl)), (b4, .inl (cI, nr * np, .inl fg))] sz (F_X5_tinBy np fl fg way i j) [(g0, .inr (1, [.int (nI nr), .int (nI np), .ref b1, .ref b2, .ref b3, .ref b4, .int g])), (b1, .inl (cI, nr * np, .inl fd)), (b2, .inl (cI, nr * np, .inl ft)), (b3, .inl (cI, nr * np, .inl fl)), (b4, .inl (cI, nr * np, .inl fg))]) 0 0 (va_A [(g0, .inr (1, [.int (nI nr), .int (nI np), .ref b1, .ref b2, .ref b3, .ref b4, .int g])), (b1, .inl (cI, nr * np, .inl fd)), (b2, .inl (cI, nr * np, .inl ft)), (b3, .inl (cI, nr * np, .inl fl)), (b4, .inl (cI, nr * np, .inl fg))] sz) := by
  refine Met.ofW (cc := cX5_tinBy) (maxL := 4) (ret := (some .int)) (by decide) rfl ?_
  intro p e s m args below meth c s₁ B hml hv
  obtain ⟨rfl, hsz, hz, hP, hD0, hB⟩ := hv
  have hx := B.exec
  have hb := B.bytes
  have hr := B.returns
  have hts := atoms_spec (ws := wsX5_tinBy) B.pre
  have hown : s.vm.findClass RX5 = some m.cls := findClass_of_methodNamed B.named
  have hlocks := B.notSynchronized
  subst hsz
  have hD := hD0.self (sz := s.heap.size)
  have hA0 := va_A0 hD0 hz
  unfold QI
  generalize hAe : va_A [(g0, .inr (1, [.int (nI nr), .int (nI np), .ref b1, .ref b2, .ref b3, .ref b4, .int g])), (b1, .inl (cI, nr * np, .inl fd)), (b2, .inl (cI, nr * np, .inl ft)), (b3, .inl (cI, nr * np, .inl fl)), (b4, .inl (cI, nr * np, .inl fg))] s.heap.size = A at hD hA0 ⊢
  have hA : ∀ q : Nat, s.heap.size ≤ q → A q := fun q h => by rw [← hAe]; exact Or.inr h
  have hS : va_S A s.heap s.heap [] := va_S.rf
  have hl := lv_entry ([.ref g0, .int way, .int row, .int place]) (n := 4) (Nat.le_of_ble_eq_true rfl)
  rw [lg_entry_eq]
  generalize (lg_sl ([.ref g0, .int way, .int row, .int place]) ++ List.replicate (4 - (lg_sl ([.ref g0, .int way, .int row, .int place])).length) Slot.unset).toArray = ls at hl ⊢
  have hl : lv_has ls 4 [(0, .ref g0), (1, .int way), (2, .int row), (3, .int place)] := hl
  refine lv_iload_n hx hb dX5_tinBy_0 rfl (lv_at hl 1 rfl) ?_
  by_cases c_1 : way = 0
  · refine lv_lookup (tgt := 28) hx hb dX5_tinBy_1 (by decide) (by rw [c_1] <;> rfl) (by decide) ?_
    refine lv_aload_n hx hb dX5_tinBy_28 rfl (lv_at hl 0 rfl) ?_
    refine lv_iload_n hx hb dX5_tinBy_29 rfl (lv_at hl 2 rfl) ?_
    refine lv_iload_n hx hb dX5_tinBy_30 rfl (lv_at hl 3 rfl) ?_
    refine k_i (w2 := [(g0, .inr (1, [.int (nI nr), .int (nI np), .ref b1, .ref b2, .ref b3, .ref b4, .int g])), (b1, .inl (cI, nr * np, .inl fd)), (b2, .inl (cI, nr * np, .inl ft)), (b3, .inl (cI, nr * np, .inl fl)), (b4, .inl (cI, nr * np, .inl fg))]) (va_runV (As := [.int row, .int place]) (rest := []) ⟨hx, hb, hml, hown, hts⟩ (c_X1_leastAt l _ g0 b1 b2 b3 b4 nr np g fd ft fl fg row place i j hlen e_i e_j hi hj) (cwV 2 hts gX5_tinBy_X1_leastAt rfl rfl rfl (by decide +kernel) ⟨Nat.le_of_ble_eq_true rfl, Nat.le_of_ble_eq_true rfl⟩) (pre_V (ci := 1) (q0 := 0) hB hz hA0 hP hD hS [0, 1, 2, 3, 4] rfl rfl rfl rfl rfl) rfl rfl hl.1 rfl (lv_room (Nat.le_of_ble_eq_true rfl)) dX5_tinBy_31 ⟨Nat.zero_le _, Nat.zero_le _⟩) hP hD hS hA [0, 1, 2, 3, 4] [] [0, 1, 2, 3, 4] rfl rfl rfl rfl rfl (fun H locs hP hD hS => ?_)
    have er : F_X5_tinBy np fl fg way i j = fl ((i * np) + j) := by rw [F_X5_tinBy, if_pos c_1]
    exact W.iret hx hb hr (fun t ht hW => ⟨⟨_, (), rfl, er.symm, by rw [ht]; exact hP, hD⟩, hS.F ht⟩) hS.2.2 dX5_tinBy_34
  by_cases c_2 : way = 1
  · refine lv_lookup (tgt := 35) hx hb dX5_tinBy_1 (by decide) (by rw [c_2] <;> rfl) (by decide) ?_
    refine lv_aload_n hx hb dX5_tinBy_35 rfl (lv_at hl 0 rfl) ?_
    refine lv_iload_n hx hb dX5_tinBy_36 rfl (lv_at hl 2 rfl) ?_
    refine lv_iload_n hx hb dX5_tinBy_37 rfl (lv_at hl 3 rfl) ?_
    refine k_i (w2 := [(g0, .inr (1, [.int (nI nr), .int (nI np), .ref b1, .ref b2, .ref b3, .ref b4, .int g])), (b1, .inl (cI, nr * np, .inl fd)), (b2, .inl (cI, nr * np, .inl ft)), (b3, .inl (cI, nr * np, .inl fl)), (b4, .inl (cI, nr * np, .inl fg))]) (va_runV (As := [.int row, .int place]) (rest := []) ⟨hx, hb, hml, hown, hts⟩ (c_X1_greatestAt l _ g0 b1 b2 b3 b4 nr np g fd ft fl fg row place i j hlen e_i e_j hi hj) (cwV 2 hts gX5_tinBy_X1_greatestAt rfl rfl rfl (by decide +kernel) ⟨Nat.le_of_ble_eq_true rfl, Nat.le_of_ble_eq_true rfl⟩) (pre_V (ci := 1) (q0 := 0) hB hz hA0 hP hD hS [0, 1, 2, 3, 4] rfl rfl rfl rfl rfl) rfl rfl hl.1 rfl (lv_room (Nat.le_of_ble_eq_true rfl)) dX5_tinBy_38 ⟨Nat.zero_le _, Nat.zero_le _⟩) hP hD hS hA [0, 1, 2, 3, 4] [] [0, 1, 2, 3, 4] rfl rfl rfl rfl rfl (fun H locs hP hD hS => ?_)
    have er : F_X5_tinBy np fl fg way i j = fg ((i * np) + j) := by rw [F_X5_tinBy, if_neg c_1, if_pos c_2]
    exact W.iret hx hb hr (fun t ht hW => ⟨⟨_, (), rfl, er.symm, by rw [ht]; exact hP, hD⟩, hS.F ht⟩) hS.2.2 dX5_tinBy_41
  refine lv_lookup (off := 41) (tgt := 42) hx hb dX5_tinBy_1 (by decide) ((lv_osw c_1 (by decide)).trans ((lv_osw c_2 (by decide)).trans rfl)) (by decide) ?_
  refine lv_aload_n hx hb dX5_tinBy_42 rfl (lv_at hl 0 rfl) ?_
  refine lv_iload_n hx hb dX5_tinBy_43 rfl (lv_at hl 2 rfl) ?_
  refine lv_iload_n hx hb dX5_tinBy_44 rfl (lv_at hl 3 rfl) ?_
  refine k_i (w2 := [(g0, .inr (1, [.int (nI nr), .int (nI np), .ref b1, .ref b2, .ref b3, .ref b4, .int g])), (b1, .inl (cI, nr * np, .inl fd)), (b2, .inl (cI, nr * np, .inl ft)), (b3, .inl (cI, nr * np, .inl fl)), (b4, .inl (cI, nr * np, .inl fg))]) (va_runV (As := [.int row, .int place]) (rest := []) ⟨hx, hb, hml, hown, hts⟩ (c_X1_leastAt l _ g0 b1 b2 b3 b4 nr np g fd ft fl fg row place i j hlen e_i e_j hi hj) (cwV 2 hts gX5_tinBy_X1_leastAt rfl rfl rfl (by decide +kernel) ⟨Nat.le_of_ble_eq_true rfl, Nat.le_of_ble_eq_true rfl⟩) (pre_V (ci := 1) (q0 := 0) hB hz hA0 hP hD hS [0, 1, 2, 3, 4] rfl rfl rfl rfl rfl) rfl rfl hl.1 rfl (lv_room (Nat.le_of_ble_eq_true rfl)) dX5_tinBy_45 ⟨Nat.zero_le _, Nat.zero_le _⟩) hP hD hS hA [0, 1, 2, 3, 4] [] [0, 1, 2, 3, 4] rfl rfl rfl rfl rfl (fun H locs hP hD hS => ?_)
  refine lv_aload_n hx hb dX5_tinBy_48 rfl (lv_at hl 0 rfl) ?_
  refine lv_iload_n hx hb dX5_tinBy_49 rfl (lv_at hl 2 rfl) ?_
  refine lv_iload_n hx hb dX5_tinBy_50 rfl (lv_at hl 3 rfl) ?_
  refine k_i (w2 := [(g0, .inr (1, [.int (nI nr), .int (nI np), .ref b1, .ref b2, .ref b3, .ref b4, .int g])), (b1, .inl (cI, nr * np, .inl fd)), (b2, .inl (cI, nr * np, .inl ft)), (b3, .inl (cI, nr * np, .inl fl)), (b4, .inl (cI, nr * np, .inl fg))]) (va_runV (As := [.int row, .int place]) (rest := [.int (fl ((i * np) + j))]) ⟨hx, hb, hml, hown, hts⟩ (c_X1_greatestAt l _ g0 b1 b2 b3 b4 nr np g fd ft fl fg row place i j hlen e_i e_j hi hj) (cwV 2 hts gX5_tinBy_X1_greatestAt rfl rfl rfl (by decide +kernel) ⟨Nat.le_of_ble_eq_true rfl, Nat.le_of_ble_eq_true rfl⟩) (pre_V (ci := 1) (q0 := 0) hB hz hA0 hP hD hS [0, 1, 2, 3, 4] rfl rfl rfl rfl rfl) rfl rfl hl.1 rfl (lv_room (Nat.le_of_ble_eq_true rfl)) dX5_tinBy_51 ⟨Nat.zero_le _, Nat.zero_le _⟩) hP hD hS hA [0, 1, 2, 3, 4] [] [0, 1, 2, 3, 4] rfl rfl rfl rfl rfl (fun H locs hP hD hS => ?_)
  refine lv_iadd hx hb dX5_tinBy_54 ?_
  refine lv_iconst (v := 2) hx hb dX5_tinBy_55 (by decide) ?_
  refine lv_idiv hx hb dX5_tinBy_56 (by decide) ?_
  have er : F_X5_tinBy np fl fg way i j = ((fl ((i * np) + j)) + (fg ((i * np) + j))) / 2 := by rw [F_X5_tinBy, if_neg c_1, if_neg c_2]
  exact W.iret hx hb hr (fun t ht hW => ⟨⟨_, (), rfl, er.symm, by rw [ht]; exact hP, hD⟩, hS.F ht⟩) hS.2.2 dX5_tinBy_57

def F_X5_weigh_L17 (pr : Int32) (nr : Nat) (np : Nat) (fd : Nat → Int32) (fl : Nat → Int32) (fg : Nat → Int32) (way : Int32) (i : Nat) (j : Nat) (s_ : (Nat → Int32)) : (Nat → Int32) :=
    if ((nI nr) - 1) ≤ (nI (nr - 1 - i)) then (upd s_ (((nr - 1 - i) * np) + j) ((fd (((nr - 1 - i) * np) + j)) * ((F_X5_tinBy np fl fg way (nr - 1 - i) j) - pr))) else
    upd s_ (((nr - 1 - i) * np) + j) (((fd (((nr - 1 - i) * np) + j)) * ((F_X5_tinBy np fl fg way (nr - 1 - i) j) - pr)) + (s_ ((((nr - 1 - i) + 1) * np) + (F_X5_bestBeside np s_ ((nr - 1 - i) + 1) j))))
def F_X5_weigh_L8 (pr : Int32) (nr : Nat) (np : Nat) (fd : Nat → Int32) (fl : Nat → Int32) (fg : Nat → Int32) (way : Int32) (i : Nat) (s_ : (Nat → Int32)) : (Nat → Int32) :=
    (lp (F_X5_weigh_L17 pr nr np fd fl fg way i) np s_)
def F_X5_weigh_1 (pr : Int32) (su : Nat → Int32) (nr : Nat) (np : Nat) (fd : Nat → Int32) (fl : Nat → Int32) (fg : Nat → Int32) (way : Int32) (fr : Nat) : Nat → Int32 :=
  (lp (F_X5_weigh_L8 pr nr np fd fl fg way) (nr - fr) su)
set_option maxHeartbeats 4000000 in
set_option maxRecDepth 100000 in
theorem c_X5_weigh (l : Launch) {D : va_G} {cI cZ cB : ClassId} {au : Nat} {kA kV : Nat → Nat} {z0 : Nat} (sz : Nat) (h0 : Nat) (a1 : Nat) (pr : Int32) (su : Nat → Int32) (g0 : Nat) (b1 : Nat) (b2 : Nat) (b3 : Nat) (b4 : Nat) (nr : Nat) (np : Nat) (g : Int32) (fd : Nat → Int32) (ft : Nat → Int32) (fl : Nat → Int32) (fg : Nat → Int32) (way : Int32) (fr : Nat) (hlen : nr * np < 2 ^ 31) (hnr : nr < 2 ^ 31) (hnp : np < 2 ^ 30) (hfr : fr ≤ nr) : Met l yX5_weigh wsX5_weigh ({ frames := 3, cells := 0, slots := 0, locals := 69 }) (va_Pc [.ref h0, .ref g0, .int way, .int (nI fr)] (PRE D cI cZ cB au kA kV z0 sz [(h0, .inr (5, [.int (nI nr), .int (nI np), .ref a1, .int pr])), (a1, .inl (cI, nr * np, .inl su)), (g0, .inr (1, [.int (nI nr), .int (nI np), .ref b1, .ref b2, .ref b3, .ref b4, .int g])), (b1, .inl (cI, nr * np, .inl fd)), (b2, .inl (cI, nr * np, .inl ft)), (b3, .inl (cI, nr * np, .inl fl)), (b4, .inl (cI, nr * np, .inl fg))])) (QV D [(h0, .inr (5, [.int (nI nr), .int (nI np), .ref a1, .int pr])), (a1, .inl (cI, nr * np, .inl su)), (g0, .inr (1, [.int (nI nr), .int (nI np), .ref b1, .ref b2, .ref b3, .ref b4, .int g])), (b1, .inl (cI, nr * np, .inl fd)), (b2, .inl (cI, nr * np, .inl ft)), (b3, .inl (cI, nr * np, .inl fl)), (b4, .inl (cI, nr * np, .inl fg))] sz [(h0, .inr (5, [.int (nI nr), .int (nI np), .ref a1, .int pr])), (a1, .inl (cI, nr * np, .inl (F_X5_weigh_1 pr su nr np fd fl fg way fr))), (g0, .inr (1, [.int (nI nr), .int (nI np), .ref b1, .ref b2, .ref b3, .ref b4, .int g])), (b1, .inl (cI, nr * np, .inl fd)), (b2, .inl (cI, nr * np, .inl ft)), (b3, .inl (cI, nr * np, .inl fl)), (b4, .inl (cI, nr * np, .inl fg))]) 0 0 (va_A [(h0, .inr (5, [.int (nI nr), .int (nI np), .ref a1, .int pr])), (a1, .inl (cI, nr * np, .inl su)), (g0, .inr (1, [.int (nI nr), .int (nI np), .ref b1, .ref b2, .ref b3, .ref b4, .int g])), (b1, .inl (cI, nr * np, .inl fd)), (b2, .inl (cI, nr * np, .inl ft)), (b3, .inl (cI, nr * np, .inl fl)), (b4, .inl (cI, nr * np, .inl fg))] sz) := by
  refine Met.ofW (cc := cX5_weigh) (maxL := 7) (ret := none) (by decide) rfl ?_
  intro p e s m args below meth c s₁ B hml hv
  obtain ⟨rfl, hsz, hz, hP, hD0, hB⟩ := hv
  have hx := B.exec
  have hb := B.bytes
  have hr := B.returns
  have hts := atoms_spec (ws := wsX5_weigh) B.pre
  have hown : s.vm.findClass RX5 = some m.cls := findClass_of_methodNamed B.named
  have hlocks := B.notSynchronized
  subst hsz
  have hD := hD0.self (sz := s.heap.size)
  have hA0 := va_A0 hD0 hz
  unfold QV
  generalize hAe : va_A [(h0, .inr (5, [.int (nI nr), .int (nI np), .ref a1, .int pr])), (a1, .inl (cI, nr * np, .inl su)), (g0, .inr (1, [.int (nI nr), .int (nI np), .ref b1, .ref b2, .ref b3, .ref b4, .int g])), (b1, .inl (cI, nr * np, .inl fd)), (b2, .inl (cI, nr * np, .inl ft)), (b3, .inl (cI, nr * np, .inl fl)), (b4, .inl (cI, nr * np, .inl fg))] s.heap.size = A at hD hA0 ⊢
  have hA : ∀ q : Nat, s.heap.size ≤ q → A q := fun q h => by rw [← hAe]; exact Or.inr h
  have hS : va_S A s.heap s.heap [] := va_S.rf
  have hiX5 : ∀ w ∈ wsX50, w ∈ wsX5_weigh := fun w h => List.mem_cons_of_mem _ (List.mem_append_left _ (List.mem_append_right _ h))
  have hl := lv_entry ([.ref h0, .ref g0, .int way, .int (nI fr)]) (n := 7) (Nat.le_of_ble_eq_true rfl)
  rw [lg_entry_eq]
  generalize (lg_sl ([.ref h0, .ref g0, .int way, .int (nI fr)]) ++ List.replicate (7 - (lg_sl ([.ref h0, .ref g0, .int way, .int (nI fr)])).length) Slot.unset).toArray = ls at hl ⊢
  have hl : lv_has ls 7 [(0, .ref h0), (1, .ref g0), (2, .int way), (3, .int (nI fr))] := hl
  refine lv_aload_n hx hb dX5_weigh_0 rfl (lv_at hl 0 rfl) ?_
  refine va_get (D := D) (ci := 5) (v := .int (nI nr)) (C := RX5) (T := TX5) (N := 4) hx hb hts hiX5 hown hB.1 hP 0 rfl rfl 0 (by decide) (hts _ (List.mem_of_getElem? (i := 1) rfl)) (fun _ h9 => h9) rfl dX5_weigh_1 ?_
  refine lv_iconst (v := 1) hx hb dX5_weigh_4 (by decide) ?_
  refine lv_isub hx hb dX5_weigh_5 ?_
  refine lv_istore (lv' := [(4, .int ((nI nr) - 1)), (0, .ref h0), (1, .ref g0), (2, .int way), (3, .int (nI fr))]) hx hb dX5_weigh_6 hl (by decide) rfl (fun ls hl => ?_)
  refine lpM (σ := Nat) (fun i => i ≤ nr - fr) (fun i => (nr - fr) - i) (fun i => [(h0, .inr (5, [.int (nI nr), .int (nI np), .ref a1, .int pr])), (a1, .inl (cI, nr * np, .inl (lp (F_X5_weigh_L8 pr nr np fd fl fg way) i su))), (g0, .inr (1, [.int (nI nr), .int (nI np), .ref b1, .ref b2, .ref b3, .ref b4, .int g])), (b1, .inl (cI, nr * np, .inl fd)), (b2, .inl (cI, nr * np, .inl ft)), (b3, .inl (cI, nr * np, .inl fl)), (b4, .inl (cI, nr * np, .inl fg))]) (fun i => [(4, .int (nI (nr - i) - 1)), (0, .ref h0), (1, .ref g0), (2, .int way), (3, .int (nI fr))]) 0 (Nat.zero_le _) hP hD hS (lv_sub hl [0, 1, 2, 3, 4] rfl) ?_
  intro i h_i ih_i H locs ls hP hD hS hl
  have hP : va_P D vwCl [(h0, .inr (5, [.int (nI nr), .int (nI np), .ref a1, .int pr])), (a1, .inl (cI, nr * np, .inl (lp (F_X5_weigh_L8 pr nr np fd fl fg way) i su))), (g0, .inr (1, [.int (nI nr), .int (nI np), .ref b1, .ref b2, .ref b3, .ref b4, .int g])), (b1, .inl (cI, nr * np, .inl fd)), (b2, .inl (cI, nr * np, .inl ft)), (b3, .inl (cI, nr * np, .inl fl)), (b4, .inl (cI, nr * np, .inl fg))] H := hP
  have hD : va_D A [(h0, .inr (5, [.int (nI nr), .int (nI np), .ref a1, .int pr])), (a1, .inl (cI, nr * np, .inl (lp (F_X5_weigh_L8 pr nr np fd fl fg way) i su))), (g0, .inr (1, [.int (nI nr), .int (nI np), .ref b1, .ref b2, .ref b3, .ref b4, .int g])), (b1, .inl (cI, nr * np, .inl fd)), (b2, .inl (cI, nr * np, .inl ft)), (b3, .inl (cI, nr * np, .inl fl)), (b4, .inl (cI, nr * np, .inl fg))] := hD
  have hl : lv_has ls 7 [(4, .int (nI (nr - i) - 1)), (0, .ref h0), (1, .ref g0), (2, .int way), (3, .int (nI fr))] := hl
  generalize hs_i : lp (F_X5_weigh_L8 pr nr np fd fl fg way) i su = sv1 at hP hD 
  refine lv_iload hx hb dX5_weigh_8 (lv_at hl 0 rfl) ?_
  refine lv_iload_n hx hb dX5_weigh_10 rfl (lv_at hl 4 rfl) ?_
  refine lv_icmp_lt (tgt := 114) hx hb dX5_weigh_11 (by decide) (fun c_2 => ?_) (fun c_2 => ?_)
  · have hx_i : nr - fr = i := Eq.symm (db_ex hnr hfr h_i c_2)
    subst hx_i
    subst hs_i
    have e1 : F_X5_weigh_1 pr su nr np fd fl fg way fr = (lp (F_X5_weigh_L8 pr nr np fd fl fg way) (nr - fr) su) := by rw [F_X5_weigh_1]
    exact W.vret hx hb hr (fun t ht hW => ⟨⟨(), rfl, trivial, by rw [ht, e1]; exact hP, by rw [e1]; exact hD⟩, hS.F ht⟩) hS.2.2 dX5_weigh_114
  · have hlt_i : i < nr - fr := db_go hnr hfr h_i c_2
    have hlt2_i : i < nr := by omega
    rw [dn_eq (n := nr) hlt2_i] at hl
    refine lv_iconst (v := 0) hx hb dX5_weigh_14 (by decide) ?_
    refine lv_istore (lv' := [(5, .int 0), (4, .int (nI (nr - 1 - i))), (0, .ref h0), (1, .ref g0), (2, .int way), (3, .int (nI fr))]) hx hb dX5_weigh_15 hl (by decide) rfl (fun ls hl => ?_)
    refine lpM (σ := Nat) (fun j => j ≤ np) (fun j => np - j) (fun j => [(h0, .inr (5, [.int (nI nr), .int (nI np), .ref a1, .int pr])), (a1, .inl (cI, nr * np, .inl (lp (F_X5_weigh_L17 pr nr np fd fl fg way i) j sv1))), (g0, .inr (1, [.int (nI nr), .int (nI np), .ref b1, .ref b2, .ref b3, .ref b4, .int g])), (b1, .inl (cI, nr * np, .inl fd)), (b2, .inl (cI, nr * np, .inl ft)), (b3, .inl (cI, nr * np, .inl fl)), (b4, .inl (cI, nr * np, .inl fg))]) (fun j => [(5, .int (nI j)), (4, .int (nI (nr - 1 - i))), (0, .ref h0), (1, .ref g0), (2, .int way), (3, .int (nI fr))]) 0 (Nat.zero_le _) hP hD hS (lv_sub hl [0, 1, 2, 3, 4, 5] rfl) ?_
    intro j h_j ih_j H locs ls hP hD hS hl
    have hP : va_P D vwCl [(h0, .inr (5, [.int (nI nr), .int (nI np), .ref a1, .int pr])), (a1, .inl (cI, nr * np, .inl (lp (F_X5_weigh_L17 pr nr np fd fl fg way i) j sv1))), (g0, .inr (1, [.int (nI nr), .int (nI np), .ref b1, .ref b2, .ref b3, .ref b4, .int g])), (b1, .inl (cI, nr * np, .inl fd)), (b2, .inl (cI, nr * np, .inl ft)), (b3, .inl (cI, nr * np, .inl fl)), (b4, .inl (cI, nr * np, .inl fg))] H := hP
    have hD : va_D A [(h0, .inr (5, [.int (nI nr), .int (nI np), .ref a1, .int pr])), (a1, .inl (cI, nr * np, .inl (lp (F_X5_weigh_L17 pr nr np fd fl fg way i) j sv1))), (g0, .inr (1, [.int (nI nr), .int (nI np), .ref b1, .ref b2, .ref b3, .ref b4, .int g])), (b1, .inl (cI, nr * np, .inl fd)), (b2, .inl (cI, nr * np, .inl ft)), (b3, .inl (cI, nr * np, .inl fl)), (b4, .inl (cI, nr * np, .inl fg))] := hD
    have hl : lv_has ls 7 [(5, .int (nI j)), (4, .int (nI (nr - 1 - i))), (0, .ref h0), (1, .ref g0), (2, .int way), (3, .int (nI fr))] := hl
    generalize hs_j : lp (F_X5_weigh_L17 pr nr np fd fl fg way i) j sv1 = sv3 at hP hD 
    refine lv_iload hx hb dX5_weigh_17 (lv_at hl 0 rfl) ?_
    refine lv_aload_n hx hb dX5_weigh_19 rfl (lv_at hl 2 rfl) ?_
    refine va_get (D := D) (ci := 5) (v := .int (nI np)) (C := RX5) (T := TX5) (N := 4) hx hb hts hiX5 hown hB.1 hP 0 rfl rfl 1 (by decide) (hts _ (List.mem_of_getElem? (i := 2) rfl)) (fun _ h9 => h9) rfl dX5_weigh_20 ?_
    refine lv_icmp_ge (tgt := 108) hx hb dX5_weigh_23 (by decide) (fun c_4 => ?_) (fun c_4 => ?_)
    · have hx_j : np = j := Eq.symm (le_ex (by omega) h_j c_4)
      subst hx_j
      subst hs_j
      refine lv_iinc (v := nI (nr - (i + 1)) - 1) (lv' := [(4, .int (nI (nr - (i + 1)) - 1)), (5, .int (nI np)), (0, .ref h0), (1, .ref g0), (2, .int way), (3, .int (nI fr))]) hx hb dX5_weigh_108 hl (k := 1) rfl (dn_dec hlt2_i) (by decide) rfl (fun ls hl => ?_)
      refine lv_goto (tgt := 8) hx hb dX5_weigh_111 (by decide) ?_
      have e_step : F_X5_weigh_L8 pr nr np fd fl fg way i sv1 = (lp (F_X5_weigh_L17 pr nr np fd fl fg way i) np sv1) := by rw [F_X5_weigh_L8]
      have hP2 : va_P D vwCl [(h0, .inr (5, [.int (nI nr), .int (nI np), .ref a1, .int pr])), (a1, .inl (cI, nr * np, .inl (F_X5_weigh_L8 pr nr np fd fl fg way i sv1))), (g0, .inr (1, [.int (nI nr), .int (nI np), .ref b1, .ref b2, .ref b3, .ref b4, .int g])), (b1, .inl (cI, nr * np, .inl fd)), (b2, .inl (cI, nr * np, .inl ft)), (b3, .inl (cI, nr * np, .inl fl)), (b4, .inl (cI, nr * np, .inl fg))] H := by rw [e_step]; exact hP
      have hD2 : va_D A [(h0, .inr (5, [.int (nI nr), .int (nI np), .ref a1, .int pr])), (a1, .inl (cI, nr * np, .inl (F_X5_weigh_L8 pr nr np fd fl fg way i sv1))), (g0, .inr (1, [.int (nI nr), .int (nI np), .ref b1, .ref b2, .ref b3, .ref b4, .int g])), (b1, .inl (cI, nr * np, .inl fd)), (b2, .inl (cI, nr * np, .inl ft)), (b3, .inl (cI, nr * np, .inl fl)), (b4, .inl (cI, nr * np, .inl fg))] := by rw [e_step]; exact hD
      have hl2 : lv_has ls 7 [(4, .int (nI (nr - (i + 1)) - 1)), (0, .ref h0), (1, .ref g0), (2, .int way), (3, .int (nI fr))] := lv_sub hl [0, 2, 3, 4, 5] rfl
      subst hs_i
      exact ih_i (i + 1) (by omega) (by omega) _ _ _ hP2 hD2 hS hl2
    · have hlt_j : j < np := le_go (by omega) h_j c_4
      have hij := ix2 (show nr - 1 - i < nr by omega) hlt_j
      refine lv_aload_n hx hb dX5_weigh_26 rfl (lv_at hl 3 rfl) ?_
      refine lv_iload hx hb dX5_weigh_27 (lv_at hl 1 rfl) ?_
      refine lv_iload hx hb dX5_weigh_29 (lv_at hl 0 rfl) ?_
      refine k_i (w2 := [(h0, .inr (5, [.int (nI nr), .int (nI np), .ref a1, .int pr])), (a1, .inl (cI, nr * np, .inl sv3)), (g0, .inr (1, [.int (nI nr), .int (nI np), .ref b1, .ref b2, .ref b3, .ref b4, .int g])), (b1, .inl (cI, nr * np, .inl fd)), (b2, .inl (cI, nr * np, .inl ft)), (b3, .inl (cI, nr * np, .inl fl)), (b4, .inl (cI, nr * np, .inl fg))]) (va_runV (As := [.int (nI (nr - 1 - i)), .int (nI j)]) (rest := []) ⟨hx, hb, hml, hown, hts⟩ (c_X1_depthAt l _ g0 b1 b2 b3 b4 nr np g fd ft fl fg (nI (nr - 1 - i)) (nI j) (nr - 1 - i) j hlen rfl rfl (by omega) hlt_j) (cwV 2 hts gX5_weigh_X1_depthAt rfl rfl rfl (by decide +kernel) ⟨Nat.le_of_ble_eq_true rfl, Nat.le_of_ble_eq_true rfl⟩) (pre_V (ci := 1) (q0 := 2) hB hz hA0 hP hD hS [2, 3, 4, 5, 6] rfl rfl rfl rfl rfl) rfl rfl hl.1 rfl (lv_room (Nat.le_of_ble_eq_true rfl)) dX5_weigh_31 ⟨Nat.zero_le _, Nat.zero_le _⟩) hP hD hS hA [2, 3, 4, 5, 6] [0, 1] [0, 1, 2, 3, 4, 5, 6] rfl rfl rfl rfl rfl (fun H locs hP hD hS => ?_)
      refine lv_aload_n hx hb dX5_weigh_34 rfl (lv_at hl 3 rfl) ?_
      refine lv_iload_n hx hb dX5_weigh_35 rfl (lv_at hl 4 rfl) ?_
      refine lv_iload hx hb dX5_weigh_36 (lv_at hl 1 rfl) ?_
      refine lv_iload hx hb dX5_weigh_38 (lv_at hl 0 rfl) ?_
      refine k_i (w2 := [(h0, .inr (5, [.int (nI nr), .int (nI np), .ref a1, .int pr])), (a1, .inl (cI, nr * np, .inl sv3)), (g0, .inr (1, [.int (nI nr), .int (nI np), .ref b1, .ref b2, .ref b3, .ref b4, .int g])), (b1, .inl (cI, nr * np, .inl fd)), (b2, .inl (cI, nr * np, .inl ft)), (b3, .inl (cI, nr * np, .inl fl)), (b4, .inl (cI, nr * np, .inl fg))]) (va_runS (As := [.ref g0, .int way, .int (nI (nr - 1 - i)), .int (nI j)]) (rest := [.int (fd (((nr - 1 - i) * np) + j))]) ⟨hx, hb, hml, hown, hts⟩ (c_X5_tinBy l _ g0 b1 b2 b3 b4 nr np g fd ft fl fg way (nI (nr - 1 - i)) (nI j) (nr - 1 - i) j hlen rfl rfl (by omega) hlt_j) (va_cwS 4 hts gX5_weigh_X5_tinBy rfl rfl rfl (by decide +kernel) ⟨Nat.le_of_ble_eq_true rfl, Nat.le_of_ble_eq_true rfl⟩) (pre_S hB hz hA0 hP hD hS [2, 3, 4, 5, 6] rfl rfl) rfl rfl hl.1 rfl (lv_room (Nat.le_of_ble_eq_true rfl)) dX5_weigh_40 ⟨Nat.zero_le _, Nat.zero_le _⟩) hP hD hS hA [2, 3, 4, 5, 6] [0, 1] [0, 1, 2, 3, 4, 5, 6] rfl rfl rfl rfl rfl (fun H locs hP hD hS => ?_)
      refine lv_aload_n hx hb dX5_weigh_43 rfl (lv_at hl 2 rfl) ?_
      refine va_get (D := D) (ci := 5) (v := .int pr) (C := RX5) (T := TX5) (N := 4) hx hb hts hiX5 hown hB.1 hP 0 rfl rfl 3 (by decide) (hts _ (List.mem_of_getElem? (i := 3) rfl)) (fun _ h9 => h9) rfl dX5_weigh_44 ?_
      refine lv_isub hx hb dX5_weigh_47 ?_
      refine lv_imul hx hb dX5_weigh_48 ?_
      refine lv_istore (lv' := [(6, .int ((fd (((nr - 1 - i) * np) + j)) * ((F_X5_tinBy np fl fg way (nr - 1 - i) j) - pr))), (5, .int (nI j)), (4, .int (nI (nr - 1 - i))), (0, .ref h0), (1, .ref g0), (2, .int way), (3, .int (nI fr))]) hx hb dX5_weigh_49 hl (by decide) rfl (fun ls hl => ?_)
      refine lv_iload hx hb dX5_weigh_51 (lv_at hl 2 rfl) ?_
      refine lv_aload_n hx hb dX5_weigh_53 rfl (lv_at hl 3 rfl) ?_
      refine va_get (D := D) (ci := 5) (v := .int (nI nr)) (C := RX5) (T := TX5) (N := 4) hx hb hts hiX5 hown hB.1 hP 0 rfl rfl 0 (by decide) (hts _ (List.mem_of_getElem? (i := 1) rfl)) (fun _ h9 => h9) rfl dX5_weigh_54 ?_
      refine lv_iconst (v := 1) hx hb dX5_weigh_57 (by decide) ?_
      refine lv_isub hx hb dX5_weigh_58 ?_
      refine lv_icmp_ge (tgt := 85) hx hb dX5_weigh_59 (by decide) (fun c_5 => ?_) (fun c_5 => ?_)
      · refine lv_aload_n hx hb dX5_weigh_85 rfl (lv_at hl 3 rfl) ?_
        refine va_get (D := D) (ci := 5) (v := .ref a1) (C := RX5) (T := TX5) (N := 4) hx hb hts hiX5 hown hB.1 hP 0 rfl rfl 2 (by decide) (hts _ (List.mem_of_getElem? (i := 4) rfl)) (fun _ h9 => h9) rfl dX5_weigh_86 ?_
        refine lv_iload hx hb dX5_weigh_89 (lv_at hl 2 rfl) ?_
        refine lv_aload_n hx hb dX5_weigh_91 rfl (lv_at hl 3 rfl) ?_
        refine va_get (D := D) (ci := 5) (v := .int (nI np)) (C := RX5) (T := TX5) (N := 4) hx hb hts hiX5 hown hB.1 hP 0 rfl rfl 1 (by decide) (hts _ (List.mem_of_getElem? (i := 2) rfl)) (fun _ h9 => h9) rfl dX5_weigh_92 ?_
        refine lv_imul hx hb dX5_weigh_95 ?_
        refine lv_iload hx hb dX5_weigh_96 (lv_at hl 1 rfl) ?_
        refine lv_iadd hx hb dX5_weigh_98 ?_
        refine lv_iload hx hb dX5_weigh_99 (lv_at hl 0 rfl) ?_
        refine wa_i (w2 := [(h0, .inr (5, [.int (nI nr), .int (nI np), .ref a1, .int pr])), (a1, .inl (cI, nr * np, .inl (upd sv3 (((nr - 1 - i) * np) + j) ((fd (((nr - 1 - i) * np) + j)) * ((F_X5_tinBy np fl fg way (nr - 1 - i) j) - pr))))), (g0, .inr (1, [.int (nI nr), .int (nI np), .ref b1, .ref b2, .ref b3, .ref b4, .int g])), (b1, .inl (cI, nr * np, .inl fd)), (b2, .inl (cI, nr * np, .inl ft)), (b3, .inl (cI, nr * np, .inl fl)), (b4, .inl (cI, nr * np, .inl fg))]) hx hb hB.1 hP hD hS 1 rfl (((nr - 1 - i) * np) + j) (nx_add (nx_mul rfl rfl) rfl) hij hlen dX5_weigh_101 rfl (fun H locs hP hD hS => ?_)
        refine lv_iinc (v := nI (j + 1)) (lv' := [(5, .int (nI (j + 1))), (6, .int ((fd (((nr - 1 - i) * np) + j)) * ((F_X5_tinBy np fl fg way (nr - 1 - i) j) - pr))), (4, .int (nI (nr - 1 - i))), (0, .ref h0), (1, .ref g0), (2, .int way), (3, .int (nI fr))]) hx hb dX5_weigh_102 hl (k := 1) rfl (nI_1 _) (by decide) rfl (fun ls hl => ?_)
        refine lv_goto (tgt := 17) hx hb dX5_weigh_105 (by decide) ?_
        have e_step : F_X5_weigh_L17 pr nr np fd fl fg way i j sv3 = upd sv3 (((nr - 1 - i) * np) + j) ((fd (((nr - 1 - i) * np) + j)) * ((F_X5_tinBy np fl fg way (nr - 1 - i) j) - pr)) := by rw [F_X5_weigh_L17, if_pos c_5]
        have hP2 : va_P D vwCl [(h0, .inr (5, [.int (nI nr), .int (nI np), .ref a1, .int pr])), (a1, .inl (cI, nr * np, .inl (F_X5_weigh_L17 pr nr np fd fl fg way i j sv3))), (g0, .inr (1, [.int (nI nr), .int (nI np), .ref b1, .ref b2, .ref b3, .ref b4, .int g])), (b1, .inl (cI, nr * np, .inl fd)), (b2, .inl (cI, nr * np, .inl ft)), (b3, .inl (cI, nr * np, .inl fl)), (b4, .inl (cI, nr * np, .inl fg))] H := by rw [e_step]; exact hP
        have hD2 : va_D A [(h0, .inr (5, [.int (nI nr), .int (nI np), .ref a1, .int pr])), (a1, .inl (cI, nr * np, .inl (F_X5_weigh_L17 pr nr np fd fl fg way i j sv3))), (g0, .inr (1, [.int (nI nr), .int (nI np), .ref b1, .ref b2, .ref b3, .ref b4, .int g])), (b1, .inl (cI, nr * np, .inl fd)), (b2, .inl (cI, nr * np, .inl ft)), (b3, .inl (cI, nr * np, .inl fl)), (b4, .inl (cI, nr * np, .inl fg))] := by rw [e_step]; exact hD
        have hl2 : lv_has ls 7 [(5, .int (nI (j + 1))), (4, .int (nI (nr - 1 - i))), (0, .ref h0), (1, .ref g0), (2, .int way), (3, .int (nI fr))] := lv_sub hl [0, 2, 3, 4, 5, 6] rfl
        subst hs_j
        exact ih_j (j + 1) (by omega) (by omega) _ _ _ hP2 hD2 hS hl2
      · have hi1 : nr - 1 - i + 1 < nr := by rw [nI_dec (by omega : 0 < nr)] at c_5; have := (not_congr (nI_leI (a := nr - 1) (b := nr - 1 - i) (by omega) (by omega))).mp c_5; omega
        refine lv_iload hx hb dX5_weigh_62 (lv_at hl 0 rfl) ?_
        refine lv_aload_n hx hb dX5_weigh_64 rfl (lv_at hl 3 rfl) ?_
        refine lv_iload hx hb dX5_weigh_65 (lv_at hl 2 rfl) ?_
        refine lv_iconst (v := 1) hx hb dX5_weigh_67 (by decide) ?_
        refine lv_iadd hx hb dX5_weigh_68 ?_
        rw [show (nI (nr - 1 - i)) + 1 = nI ((nr - 1 - i) + 1) from (nx_add rfl rfl)]
        refine lv_aload_n hx hb dX5_weigh_69 rfl (lv_at hl 3 rfl) ?_
        refine lv_iload hx hb dX5_weigh_70 (lv_at hl 2 rfl) ?_
        refine lv_iconst (v := 1) hx hb dX5_weigh_72 (by decide) ?_
        refine lv_iadd hx hb dX5_weigh_73 ?_
        rw [show (nI (nr - 1 - i)) + 1 = nI ((nr - 1 - i) + 1) from (nx_add rfl rfl)]
        refine lv_iload hx hb dX5_weigh_74 (lv_at hl 1 rfl) ?_
        refine k_i (w2 := [(h0, .inr (5, [.int (nI nr), .int (nI np), .ref a1, .int pr])), (a1, .inl (cI, nr * np, .inl sv3)), (g0, .inr (1, [.int (nI nr), .int (nI np), .ref b1, .ref b2, .ref b3, .ref b4, .int g])), (b1, .inl (cI, nr * np, .inl fd)), (b2, .inl (cI, nr * np, .inl ft)), (b3, .inl (cI, nr * np, .inl fl)), (b4, .inl (cI, nr * np, .inl fg))]) (va_runV (As := [.int (nI ((nr - 1 - i) + 1)), .int (nI j)]) (rest := [.int (nI ((nr - 1 - i) + 1)), .ref h0, .int ((fd (((nr - 1 - i) * np) + j)) * ((F_X5_tinBy np fl fg way (nr - 1 - i) j) - pr))]) ⟨hx, hb, hml, hown, hts⟩ (c_X5_bestBeside l _ h0 a1 nr np pr sv3 (nI ((nr - 1 - i) + 1)) (nI j) ((nr - 1 - i) + 1) j hlen hnp rfl rfl hi1 hlt_j) (cwV 2 hts gX5_weigh_X5_bestBeside rfl rfl rfl (by decide +kernel) ⟨Nat.le_of_ble_eq_true rfl, Nat.le_of_ble_eq_true rfl⟩) (pre_V (ci := 5) (q0 := 0) hB hz hA0 hP hD hS [0, 1] rfl rfl rfl rfl rfl) rfl rfl hl.1 rfl (lv_room (Nat.le_of_ble_eq_true rfl)) dX5_weigh_76 ⟨Nat.zero_le _, Nat.zero_le _⟩) hP hD hS hA [0, 1] [2, 3, 4, 5, 6] [5, 6, 0, 1, 2, 3, 4] rfl rfl rfl rfl rfl (fun H locs hP hD hS => ?_)
        refine k_i (w2 := [(h0, .inr (5, [.int (nI nr), .int (nI np), .ref a1, .int pr])), (a1, .inl (cI, nr * np, .inl sv3)), (g0, .inr (1, [.int (nI nr), .int (nI np), .ref b1, .ref b2, .ref b3, .ref b4, .int g])), (b1, .inl (cI, nr * np, .inl fd)), (b2, .inl (cI, nr * np, .inl ft)), (b3, .inl (cI, nr * np, .inl fl)), (b4, .inl (cI, nr * np, .inl fg))]) (va_runV (As := [.int (nI ((nr - 1 - i) + 1)), .int (nI (F_X5_bestBeside np sv3 ((nr - 1 - i) + 1) j))]) (rest := [.int ((fd (((nr - 1 - i) * np) + j)) * ((F_X5_tinBy np fl fg way (nr - 1 - i) j) - pr))]) ⟨hx, hb, hml, hown, hts⟩ (c_X5_sumFrom l _ h0 a1 nr np pr sv3 (nI ((nr - 1 - i) + 1)) (nI (F_X5_bestBeside np sv3 ((nr - 1 - i) + 1) j)) ((nr - 1 - i) + 1) (F_X5_bestBeside np sv3 ((nr - 1 - i) + 1) j) hlen rfl rfl hi1 (bb_lt hlt_j)) (cwV 2 hts gX5_weigh_X5_sumFrom rfl rfl rfl (by decide +kernel) ⟨Nat.le_of_ble_eq_true rfl, Nat.le_of_ble_eq_true rfl⟩) (pre_V (ci := 5) (q0 := 0) hB hz hA0 hP hD hS [0, 1] rfl rfl rfl rfl rfl) rfl rfl hl.1 rfl (lv_room (Nat.le_of_ble_eq_true rfl)) dX5_weigh_79 ⟨Nat.zero_le _, Nat.zero_le _⟩) hP hD hS hA [0, 1] [2, 3, 4, 5, 6] [5, 6, 0, 1, 2, 3, 4] rfl rfl rfl rfl rfl (fun H locs hP hD hS => ?_)
        refine lv_iadd hx hb dX5_weigh_82 ?_
        refine lv_istore (lv' := [(6, .int (((fd (((nr - 1 - i) * np) + j)) * ((F_X5_tinBy np fl fg way (nr - 1 - i) j) - pr)) + (sv3 ((((nr - 1 - i) + 1) * np) + (F_X5_bestBeside np sv3 ((nr - 1 - i) + 1) j))))), (5, .int (nI j)), (4, .int (nI (nr - 1 - i))), (0, .ref h0), (1, .ref g0), (2, .int way), (3, .int (nI fr))]) hx hb dX5_weigh_83 hl (by decide) rfl (fun ls hl => ?_)
        refine lv_aload_n hx hb dX5_weigh_85 rfl (lv_at hl 3 rfl) ?_
        refine va_get (D := D) (ci := 5) (v := .ref a1) (C := RX5) (T := TX5) (N := 4) hx hb hts hiX5 hown hB.1 hP 0 rfl rfl 2 (by decide) (hts _ (List.mem_of_getElem? (i := 4) rfl)) (fun _ h9 => h9) rfl dX5_weigh_86 ?_
        refine lv_iload hx hb dX5_weigh_89 (lv_at hl 2 rfl) ?_
        refine lv_aload_n hx hb dX5_weigh_91 rfl (lv_at hl 3 rfl) ?_
        refine va_get (D := D) (ci := 5) (v := .int (nI np)) (C := RX5) (T := TX5) (N := 4) hx hb hts hiX5 hown hB.1 hP 0 rfl rfl 1 (by decide) (hts _ (List.mem_of_getElem? (i := 2) rfl)) (fun _ h9 => h9) rfl dX5_weigh_92 ?_
        refine lv_imul hx hb dX5_weigh_95 ?_
        refine lv_iload hx hb dX5_weigh_96 (lv_at hl 1 rfl) ?_
        refine lv_iadd hx hb dX5_weigh_98 ?_
        refine lv_iload hx hb dX5_weigh_99 (lv_at hl 0 rfl) ?_
        refine wa_i (w2 := [(h0, .inr (5, [.int (nI nr), .int (nI np), .ref a1, .int pr])), (a1, .inl (cI, nr * np, .inl (upd sv3 (((nr - 1 - i) * np) + j) (((fd (((nr - 1 - i) * np) + j)) * ((F_X5_tinBy np fl fg way (nr - 1 - i) j) - pr)) + (sv3 ((((nr - 1 - i) + 1) * np) + (F_X5_bestBeside np sv3 ((nr - 1 - i) + 1) j))))))), (g0, .inr (1, [.int (nI nr), .int (nI np), .ref b1, .ref b2, .ref b3, .ref b4, .int g])), (b1, .inl (cI, nr * np, .inl fd)), (b2, .inl (cI, nr * np, .inl ft)), (b3, .inl (cI, nr * np, .inl fl)), (b4, .inl (cI, nr * np, .inl fg))]) hx hb hB.1 hP hD hS 1 rfl (((nr - 1 - i) * np) + j) (nx_add (nx_mul rfl rfl) rfl) hij hlen dX5_weigh_101 rfl (fun H locs hP hD hS => ?_)
        refine lv_iinc (v := nI (j + 1)) (lv' := [(5, .int (nI (j + 1))), (6, .int (((fd (((nr - 1 - i) * np) + j)) * ((F_X5_tinBy np fl fg way (nr - 1 - i) j) - pr)) + (sv3 ((((nr - 1 - i) + 1) * np) + (F_X5_bestBeside np sv3 ((nr - 1 - i) + 1) j))))), (4, .int (nI (nr - 1 - i))), (0, .ref h0), (1, .ref g0), (2, .int way), (3, .int (nI fr))]) hx hb dX5_weigh_102 hl (k := 1) rfl (nI_1 _) (by decide) rfl (fun ls hl => ?_)
        refine lv_goto (tgt := 17) hx hb dX5_weigh_105 (by decide) ?_
        have e_step : F_X5_weigh_L17 pr nr np fd fl fg way i j sv3 = upd sv3 (((nr - 1 - i) * np) + j) (((fd (((nr - 1 - i) * np) + j)) * ((F_X5_tinBy np fl fg way (nr - 1 - i) j) - pr)) + (sv3 ((((nr - 1 - i) + 1) * np) + (F_X5_bestBeside np sv3 ((nr - 1 - i) + 1) j)))) := by rw [F_X5_weigh_L17, if_neg c_5]
        have hP2 : va_P D vwCl [(h0, .inr (5, [.int (nI nr), .int (nI np), .ref a1, .int pr])), (a1, .inl (cI, nr * np, .inl (F_X5_weigh_L17 pr nr np fd fl fg way i j sv3))), (g0, .inr (1, [.int (nI nr), .int (nI np), .ref b1, .ref b2, .ref b3, .ref b4, .int g])), (b1, .inl (cI, nr * np, .inl fd)), (b2, .inl (cI, nr * np, .inl ft)), (b3, .inl (cI, nr * np, .inl fl)), (b4, .inl (cI, nr * np, .inl fg))] H := by rw [e_step]; exact hP
        have hD2 : va_D A [(h0, .inr (5, [.int (nI nr), .int (nI np), .ref a1, .int pr])), (a1, .inl (cI, nr * np, .inl (F_X5_weigh_L17 pr nr np fd fl fg way i j sv3))), (g0, .inr (1, [.int (nI nr), .int (nI np), .ref b1, .ref b2, .ref b3, .ref b4, .int g])), (b1, .inl (cI, nr * np, .inl fd)), (b2, .inl (cI, nr * np, .inl ft)), (b3, .inl (cI, nr * np, .inl fl)), (b4, .inl (cI, nr * np, .inl fg))] := by rw [e_step]; exact hD
        have hl2 : lv_has ls 7 [(5, .int (nI (j + 1))), (4, .int (nI (nr - 1 - i))), (0, .ref h0), (1, .ref g0), (2, .int way), (3, .int (nI fr))] := lv_sub hl [0, 2, 3, 4, 5, 6] rfl
        subst hs_j
        exact ih_j (j + 1) (by omega) (by omega) _ _ _ hP2 hD2 hS hl2
