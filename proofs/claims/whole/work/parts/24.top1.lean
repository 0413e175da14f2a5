def F_X7_isUndug (nr : Nat) (np : Nat) (dg : Nat) (fp : Nat → Int32) (row : Int32) (place : Int32) : Int32 :=
  if (F_X1_has nr np row place) = 0 then 0 else
  if (F_X6_isDug dg fp row place) = 0 then 1 else
  0
set_option maxHeartbeats 4000000 in
set_option maxRecDepth 100000 in
theorem c_X7_isUndug (l : Launch) {D : va_G} {cI cZ cB : ClassId} {au : Nat} {kA kV : Nat → Nat} {z0 : Nat} (sz : Nat) (h0 : Nat) (gA : Nat) (tA : Nat) (rA : Nat) (pA : Nat) (bA : Nat) (lA : Nat) (eA : Nat) (td : Int32) (fi : Int32) (lf : Int32) (nr : Nat) (np : Nat) (g1 : Nat) (g2 : Nat) (g3 : Nat) (g4 : Nat) (g : Int32) (fd : Nat → Int32) (ft : Nat → Int32) (fl : Nat → Int32) (fg : Nat → Int32) (t1 : Nat) (t2 : Nat) (t3 : Nat) (t4 : Nat) (dg : Nat) (lb : Int32) (fp : Nat → Int32) (fy : Nat → Int32) (fb : Nat → Int32) (fn : Nat → Int32) (row : Int32) (place : Int32) (hlen : nr * np < 2 ^ 31) (h20 : nr ≤ 20) (h2p : 2 ≤ np) (h8 : np ≤ 8) (hdg : dg ≤ nr) : Met l yX7_isUndug wsX7_isUndug ({ frames := 2, cells := 0, slots := 0, locals := 44 }) (va_Pc [.ref h0, .int row, .int place] (PRE D cI cZ cB au kA kV z0 sz [(h0, .inr (7, [.ref gA, .ref tA, .ref rA, .ref pA, .ref bA, .ref lA, .ref eA, .int td, .int fi, .int lf])), (gA, .inr (1, [.int (nI nr), .int (nI np), .ref g1, .ref g2, .ref g3, .ref g4, .int g])), (g1, .inl (cI, nr * np, .inl fd)), (g2, .inl (cI, nr * np, .inl ft)), (g3, .inl (cI, nr * np, .inl fl)), (g4, .inl (cI, nr * np, .inl fg)), (tA, .inr (6, [.ref t1, .ref t2, .ref t3, .ref t4, .int (nI dg), .int lb])), (t1, .inl (cI, nr, .inl fp)), (t2, .inl (cI, nr, .inl fy)), (t3, .inl (cZ, nr, .inl fb)), (t4, .inl (cZ, nr, .inl fn))])) (QI D [(h0, .inr (7, [.ref gA, .ref tA, .ref rA, .ref pA, .ref bA, .ref lA, .ref eA, .int td, .int fi, .int lf])), (gA, .inr (1, [.int (nI nr), .int (nI np), .ref g1, .ref g2, .ref g3, .ref g4, .int g])), (g1, .inl (cI, nr * np, .inl fd)), (g2, .inl (cI, nr * np, .inl ft)), (g3, .inl (cI, nr * np, .inl fl)), (g4, .inl (cI, nr * np, .inl fg)), (tA, .inr (6, [.ref t1, .ref t2, .ref t3, .ref t4, .int (nI dg), .int lb])), (t1, .inl (cI, nr, .inl fp)), (t2, .inl (cI, nr, .inl fy)), (t3, .inl (cZ, nr, .inl fb)), (t4, .inl (cZ, nr, .inl fn))] sz (F_X7_isUndug nr np dg fp row place) [(h0, .inr (7, [.ref gA, .ref tA, .ref rA, .ref pA, .ref bA, .ref lA, .ref eA, .int td, .int fi, .int lf])), (gA, .inr (1, [.int (nI nr), .int (nI np), .ref g1, .ref g2, .ref g3, .ref g4, .int g])), (g1, .inl (cI, nr * np, .inl fd)), (g2, .inl (cI, nr * np, .inl ft)), (g3, .inl (cI, nr * np, .inl fl)), (g4, .inl (cI, nr * np, .inl fg)), (tA, .inr (6, [.ref t1, .ref t2, .ref t3, .ref t4, .int (nI dg), .int lb])), (t1, .inl (cI, nr, .inl fp)), (t2, .inl (cI, nr, .inl fy)), (t3, .inl (cZ, nr, .inl fb)), (t4, .inl (cZ, nr, .inl fn))]) 0 0 (va_A [(h0, .inr (7, [.ref gA, .ref tA, .ref rA, .ref pA, .ref bA, .ref lA, .ref eA, .int td, .int fi, .int lf])), (gA, .inr (1, [.int (nI nr), .int (nI np), .ref g1, .ref g2, .ref g3, .ref g4, .int g])), (g1, .inl (cI, nr * np, .inl fd)), (g2, .inl (cI, nr * np, .inl ft)), (g3, .inl (cI, nr * np, .inl fl)), (g4, .inl (cI, nr * np, .inl fg)), (tA, .inr (6, [.ref t1, .ref t2, .ref t3, .ref t4, .int (nI dg), .int lb])), (t1, .inl (cI, nr, .inl fp)), (t2, .inl (cI, nr, .inl fy)), (t3, .inl (cZ, nr, .inl fb)), (t4, .inl (cZ, nr, .inl fn))] sz) := by
  refine Met.ofW (cc := cX7_isUndug) (maxL := 3) (ret := (some .boolean)) (by decide) rfl ?_
  intro p e s m args below meth c s₁ B hml hv
  obtain ⟨rfl, hsz, hz, hP, hD0, hB⟩ := hv
  have hx := B.exec
  have hb := B.bytes
  have hr := B.returns
  have hts := atoms_spec (ws := wsX7_isUndug) B.pre
  have hown : s.vm.findClass RX7 = some m.cls := findClass_of_methodNamed B.named
  have hlocks := B.notSynchronized
  subst hsz
  have hD := hD0.self (sz := s.heap.size)
  have hA0 := va_A0 hD0 hz
  unfold QI
  generalize hAe : va_A [(h0, .inr (7, [.ref gA, .ref tA, .ref rA, .ref pA, .ref bA, .ref lA, .ref eA, .int td, .int fi, .int lf])), (gA, .inr (1, [.int (nI nr), .int (nI np), .ref g1, .ref g2, .ref g3, .ref g4, .int g])), (g1, .inl (cI, nr * np, .inl fd)), (g2, .inl (cI, nr * np, .inl ft)), (g3, .inl (cI, nr * np, .inl fl)), (g4, .inl (cI, nr * np, .inl fg)), (tA, .inr (6, [.ref t1, .ref t2, .ref t3, .ref t4, .int (nI dg), .int lb])), (t1, .inl (cI, nr, .inl fp)), (t2, .inl (cI, nr, .inl fy)), (t3, .inl (cZ, nr, .inl fb)), (t4, .inl (cZ, nr, .inl fn))] s.heap.size = A at hD hA0 ⊢
  have hA : ∀ q : Nat, s.heap.size ≤ q → A q := fun q h => by rw [← hAe]; exact Or.inr h
  have hS : va_S A s.heap s.heap [] := va_S.rf
  have hiX7 : ∀ w ∈ wsX70, w ∈ wsX7_isUndug := fun w h => List.mem_cons_of_mem _ (List.mem_append_left _ (List.mem_append_left _ (List.mem_append_right _ h)))
  have hl := lv_entry ([.ref h0, .int row, .int place]) (n := 3) (Nat.le_of_ble_eq_true rfl)
  rw [lg_entry_eq]
  generalize (lg_sl ([.ref h0, .int row, .int place]) ++ List.replicate (3 - (lg_sl ([.ref h0, .int row, .int place])).length) Slot.unset).toArray = ls at hl ⊢
  have hl : lv_has ls 3 [(0, .ref h0), (1, .int row), (2, .int place)] := hl
  refine lv_aload_n hx hb dX7_isUndug_0 rfl (lv_at hl 0 rfl) ?_
  refine va_get (D := D) (ci := 7) (v := .ref gA) (C := RX7) (T := TX7) (N := 10) hx hb hts hiX7 hown hB.1 hP 0 rfl rfl 0 (by decide) (hts _ (List.mem_of_getElem? (i := 1) rfl)) (fun _ h9 => h9) rfl dX7_isUndug_1 ?_
  refine lv_iload_n hx hb dX7_isUndug_4 rfl (lv_at hl 1 rfl) ?_
  refine lv_iload_n hx hb dX7_isUndug_5 rfl (lv_at hl 2 rfl) ?_
  refine k_i (w2 := [(h0, .inr (7, [.ref gA, .ref tA, .ref rA, .ref pA, .ref bA, .ref lA, .ref eA, .int td, .int fi, .int lf])), (gA, .inr (1, [.int (nI nr), .int (nI np), .ref g1, .ref g2, .ref g3, .ref g4, .int g])), (g1, .inl (cI, nr * np, .inl fd)), (g2, .inl (cI, nr * np, .inl ft)), (g3, .inl (cI, nr * np, .inl fl)), (g4, .inl (cI, nr * np, .inl fg)), (tA, .inr (6, [.ref t1, .ref t2, .ref t3, .ref t4, .int (nI dg), .int lb])), (t1, .inl (cI, nr, .inl fp)), (t2, .inl (cI, nr, .inl fy)), (t3, .inl (cZ, nr, .inl fb)), (t4, .inl (cZ, nr, .inl fn))]) (va_runV (As := [.int row, .int place]) (rest := []) ⟨hx, hb, hml, hown, hts⟩ (c_X1_has l _ gA g1 g2 g3 g4 nr np g fd ft fl fg row place) (cwV 2 hts gX7_isUndug_X1_has rfl rfl rfl (by decide +kernel) ⟨Nat.le_of_ble_eq_true rfl, Nat.le_of_ble_eq_true rfl⟩) (pre_V (ci := 1) (q0 := 1) hB hz hA0 hP hD hS [1, 2, 3, 4, 5] rfl rfl rfl rfl rfl) rfl rfl hl.1 rfl (lv_room (Nat.le_of_ble_eq_true rfl)) dX7_isUndug_6 ⟨Nat.zero_le _, Nat.zero_le _⟩) hP hD hS hA [1, 2, 3, 4, 5] [0, 6, 7, 8, 9, 10] [0, 6, 7, 8, 9, 10, 1, 2, 3, 4, 5] rfl rfl rfl rfl rfl (fun H locs hP hD hS => ?_)
  refine lv_if_eq (tgt := 28) hx hb dX7_isUndug_9 (by decide) (fun c_1 => ?_) (fun c_1 => ?_)
  · refine lv_iconst (v := 0) hx hb dX7_isUndug_28 (by decide) ?_
    have er : F_X7_isUndug nr np dg fp row place = 0 := by rw [F_X7_isUndug, if_pos c_1]
    exact W.zret hx hb hr rfl (fun t ht hW => ⟨⟨_, (), rfl, er.symm, by rw [ht]; exact hP, hD⟩, hS.F ht⟩) hS.2.2 dX7_isUndug_29
  · refine lv_aload_n hx hb dX7_isUndug_12 rfl (lv_at hl 0 rfl) ?_
    refine va_get (D := D) (ci := 7) (v := .ref tA) (C := RX7) (T := TX7) (N := 10) hx hb hts hiX7 hown hB.1 hP 0 rfl rfl 1 (by decide) (hts _ (List.mem_of_getElem? (i := 2) rfl)) (fun _ h9 => h9) rfl dX7_isUndug_13 ?_
    refine lv_iload_n hx hb dX7_isUndug_16 rfl (lv_at hl 1 rfl) ?_
    refine lv_iload_n hx hb dX7_isUndug_17 rfl (lv_at hl 2 rfl) ?_
    refine k_i (w2 := [(h0, .inr (7, [.ref gA, .ref tA, .ref rA, .ref pA, .ref bA, .ref lA, .ref eA, .int td, .int fi, .int lf])), (gA, .inr (1, [.int (nI nr), .int (nI np), .ref g1, .ref g2, .ref g3, .ref g4, .int g])), (g1, .inl (cI, nr * np, .inl fd)), (g2, .inl (cI, nr * np, .inl ft)), (g3, .inl (cI, nr * np, .inl fl)), (g4, .inl (cI, nr * np, .inl fg)), (tA, .inr (6, [.ref t1, .ref t2, .ref t3, .ref t4, .int (nI dg), .int lb])), (t1, .inl (cI, nr, .inl fp)), (t2, .inl (cI, nr, .inl fy)), (t3, .inl (cZ, nr, .inl fb)), (t4, .inl (cZ, nr, .inl fn))]) (va_runV (As := [.int row, .int place]) (rest := []) ⟨hx, hb, hml, hown, hts⟩ (c_X6_isDug l _ tA t1 t2 t3 t4 nr dg lb fp fy fb fn row place (by omega) hdg) (cwV 2 hts gX7_isUndug_X6_isDug rfl rfl rfl (by decide +kernel) ⟨Nat.le_of_ble_eq_true rfl, Nat.le_of_ble_eq_true rfl⟩) (pre_V (ci := 6) (q0 := 6) hB hz hA0 hP hD hS [6, 7, 8, 9, 10] rfl rfl rfl rfl rfl) rfl rfl hl.1 rfl (lv_room (Nat.le_of_ble_eq_true rfl)) dX7_isUndug_18 ⟨Nat.zero_le _, Nat.zero_le _⟩) hP hD hS hA [6, 7, 8, 9, 10] [0, 1, 2, 3, 4, 5] [0, 1, 2, 3, 4, 5, 6, 7, 8, 9, 10] rfl rfl rfl rfl rfl (fun H locs hP hD hS => ?_)
    refine lv_if_ne (tgt := 28) hx hb dX7_isUndug_21 (by decide) (fun c_2 => ?_) (fun c_2 => ?_)
    · refine lv_iconst (v := 0) hx hb dX7_isUndug_28 (by decide) ?_
      have er : F_X7_isUndug nr np dg fp row place = 0 := by rw [F_X7_isUndug, if_neg c_1, if_neg c_2]
      exact W.zret hx hb hr rfl (fun t ht hW => ⟨⟨_, (), rfl, er.symm, by rw [ht]; exact hP, hD⟩, hS.F ht⟩) hS.2.2 dX7_isUndug_29
    · refine lv_iconst (v := 1) hx hb dX7_isUndug_24 (by decide) ?_
      refine lv_goto (tgt := 29) hx hb dX7_isUndug_25 (by decide) ?_
      have er : F_X7_isUndug nr np dg fp row place = 1 := by rw [F_X7_isUndug, if_neg c_1, if_pos c_2]
      exact W.zret hx hb hr rfl (fun t ht hW => ⟨⟨_, (), rfl, er.symm, by rw [ht]; exact hP, hD⟩, hS.F ht⟩) hS.2.2 dX7_isUndug_29

theorem undug_ix {nr np dg : Nat} {fp : Nat → Int32} {row place : Int32} (h1 : nr < 2 ^ 31) (h2 : np < 2 ^ 31) (h : ¬ F_X7_isUndug nr np dg fp row place = 0) : ((row = nI row.toNatClampNeg ∧ row.toNatClampNeg < nr) ∧ (place = nI place.toNatClampNeg ∧ place.toNatClampNeg < np)) ∧ F_X6_isDug dg fp row place = 0 := by
  by_cases c1 : F_X1_has nr np row place = 0
  · exact absurd (by rw [F_X7_isUndug, if_pos c1]) h
  · by_cases c2 : F_X6_isDug dg fp row place = 0
    · exact ⟨has_ix h1 h2 c1, c2⟩
    · exact absurd (by rw [F_X7_isUndug, if_neg c1, if_neg c2]) h
set_option maxHeartbeats 4000000 in
set_option maxRecDepth 100000 in
theorem c_X7_lawToday (l : Launch) {D : va_G} {cI cZ cB : ClassId} {au : Nat} {kA kV : Nat → Nat} {z0 : Nat} (sz : Nat) (h0 : Nat) (gA : Nat) (tA : Nat) (rA : Nat) (pA : Nat) (bA : Nat) (lA : Nat) (eA : Nat) (td : Int32) (fi : Int32) (lf : Int32) (l1 : Nat) (l2 : Nat) (tk : Nat) (fm : Nat → Int32) (fs : Nat → Int32) (what : Int32) (htk : tk ≤ 10) : Met l yX7_lawToday wsX7_lawToday ({ frames := 3, cells := 0, slots := 0, locals := 65 }) (va_Pc [.ref h0, .int what] (PRE D cI cZ cB au kA kV z0 sz [(h0, .inr (7, [.ref gA, .ref tA, .ref rA, .ref pA, .ref bA, .ref lA, .ref eA, .int td, .int fi, .int lf])), (lA, .inr (2, [.ref l1, .ref l2, .int (nI tk)])), (l1, .inl (cI, 70, .inl fm)), (l2, .inl (cI, 10, .inl fs))])) (QI D [(h0, .inr (7, [.ref gA, .ref tA, .ref rA, .ref pA, .ref bA, .ref lA, .ref eA, .int td, .int fi, .int lf])), (lA, .inr (2, [.ref l1, .ref l2, .int (nI tk)])), (l1, .inl (cI, 70, .inl fm)), (l2, .inl (cI, 10, .inl fs))] sz (F_X2_term tk fm fs td what) [(h0, .inr (7, [.ref gA, .ref tA, .ref rA, .ref pA, .ref bA, .ref lA, .ref eA, .int td, .int fi, .int lf])), (lA, .inr (2, [.ref l1, .ref l2, .int (nI tk)])), (l1, .inl (cI, 70, .inl fm)), (l2, .inl (cI, 10, .inl fs))]) 0 0 (va_A [(h0, .inr (7, [.ref gA, .ref tA, .ref rA, .ref pA, .ref bA, .ref lA, .ref eA, .int td, .int fi, .int lf])), (lA, .inr (2, [.ref l1, .ref l2, .int (nI tk)])), (l1, .inl (cI, 70, .inl fm)), (l2, .inl (cI, 10, .inl fs))] sz) := by
  refine Met.ofW (cc := cX7_lawToday) (maxL := 2) (ret := (some .int)) (by decide) rfl ?_
  intro p e s m args below meth c s₁ B hml hv
  obtain ⟨rfl, hsz, hz, hP, hD0, hB⟩ := hv
  have hx := B.exec
  have hb := B.bytes
  have hr := B.returns
  have hts := atoms_spec (ws := wsX7_lawToday) B.pre
  have hown : s.vm.findClass RX7 = some m.cls := findClass_of_methodNamed B.named
  have hlocks := B.notSynchronized
  subst hsz
  have hD := hD0.self (sz := s.heap.size)
  have hA0 := va_A0 hD0 hz
  unfold QI
  generalize hAe : va_A [(h0, .inr (7, [.ref gA, .ref tA, .ref rA, .ref pA, .ref bA, .ref lA, .ref eA, .int td, .int fi, .int lf])), (lA, .inr (2, [.ref l1, .ref l2, .int (nI tk)])), (l1, .inl (cI, 70, .inl fm)), (l2, .inl (cI, 10, .inl fs))] s.heap.size = A at hD hA0 ⊢
  have hA : ∀ q : Nat, s.heap.size ≤ q → A q := fun q h => by rw [← hAe]; exact Or.inr h
  have hS : va_S A s.heap s.heap [] := va_S.rf
  have hiX7 : ∀ w ∈ wsX70, w ∈ wsX7_lawToday := fun w h => List.mem_cons_of_mem _ (List.mem_append_left _ (List.mem_append_right _ h))
  have hl := lv_entry ([.ref h0, .int what]) (n := 2) (Nat.le_of_ble_eq_true rfl)
  rw [lg_entry_eq]
  generalize (lg_sl ([.ref h0, .int what]) ++ List.replicate (2 - (lg_sl ([.ref h0, .int what])).length) Slot.unset).toArray = ls at hl ⊢
  have hl : lv_has ls 2 [(0, .ref h0), (1, .int what)] := hl
  refine lv_aload_n hx hb dX7_lawToday_0 rfl (lv_at hl 0 rfl) ?_
  refine va_get (D := D) (ci := 7) (v := .ref lA) (C := RX7) (T := TX7) (N := 10) hx hb hts hiX7 hown hB.1 hP 0 rfl rfl 5 (by decide) (hts _ (List.mem_of_getElem? (i := 1) rfl)) (fun _ h9 => h9) rfl dX7_lawToday_1 ?_
  refine lv_aload_n hx hb dX7_lawToday_4 rfl (lv_at hl 0 rfl) ?_
  refine va_get (D := D) (ci := 7) (v := .int td) (C := RX7) (T := TX7) (N := 10) hx hb hts hiX7 hown hB.1 hP 0 rfl rfl 7 (by decide) (hts _ (List.mem_of_getElem? (i := 2) rfl)) (fun _ h9 => h9) rfl dX7_lawToday_5 ?_
  refine lv_iload_n hx hb dX7_lawToday_8 rfl (lv_at hl 1 rfl) ?_
  refine k_i (w2 := [(h0, .inr (7, [.ref gA, .ref tA, .ref rA, .ref pA, .ref bA, .ref lA, .ref eA, .int td, .int fi, .int lf])), (lA, .inr (2, [.ref l1, .ref l2, .int (nI tk)])), (l1, .inl (cI, 70, .inl fm)), (l2, .inl (cI, 10, .inl fs))]) (va_runV (As := [.int td, .int what]) (rest := []) ⟨hx, hb, hml, hown, hts⟩ (c_X2_term l _ lA l1 l2 tk fm fs td what htk) (cwV 2 hts gX7_lawToday_X2_term rfl rfl rfl (by decide +kernel) ⟨Nat.le_of_ble_eq_true rfl, Nat.le_of_ble_eq_true rfl⟩) (pre_V (ci := 2) (q0 := 1) hB hz hA0 hP hD hS [1, 2, 3] rfl rfl rfl rfl rfl) rfl rfl hl.1 rfl (lv_room (Nat.le_of_ble_eq_true rfl)) dX7_lawToday_9 ⟨Nat.zero_le _, Nat.zero_le _⟩) hP hD hS hA [1, 2, 3] [0] [0, 1, 2, 3] rfl rfl rfl rfl rfl (fun H locs hP hD hS => ?_)
  exact W.iret hx hb hr (fun t ht hW => ⟨⟨_, (), rfl, rfl, by rw [ht]; exact hP, hD⟩, hS.F ht⟩) hS.2.2 dX7_lawToday_12

def F_X7_isMuddy (td : Int32) (drt : Int32) (tk : Nat) (fm : Nat → Int32) (fs : Nat → Int32) : Int32 :=
  if drt ≤ (F_X2_term tk fm fs td 3) then 0 else
  1
set_option maxHeartbeats 4000000 in
set_option maxRecDepth 100000 in
theorem c_X7_isMuddy (l : Launch) {D : va_G} {cI cZ cB : ClassId} {au : Nat} {kA kV : Nat → Nat} {z0 : Nat} (sz : Nat) (h0 : Nat) (gA : Nat) (tA : Nat) (rA : Nat) (pA : Nat) (bA : Nat) (lA : Nat) (eA : Nat) (td : Int32) (fi : Int32) (lf : Int32) (hgt : Int32) (drt : Int32) (hrs : Int32) (l1 : Nat) (l2 : Nat) (tk : Nat) (fm : Nat → Int32) (fs : Nat → Int32) (htk : tk ≤ 10) : Met l yX7_isMuddy wsX7_isMuddy ({ frames := 4, cells := 0, slots := 0, locals := 86 }) (va_Pc [.ref h0] (PRE D cI cZ cB au kA kV z0 sz [(h0, .inr (7, [.ref gA, .ref tA, .ref rA, .ref pA, .ref bA, .ref lA, .ref eA, .int td, .int fi, .int lf])), (pA, .inr (4, [.int hgt, .int drt, .int hrs])), (lA, .inr (2, [.ref l1, .ref l2, .int (nI tk)])), (l1, .inl (cI, 70, .inl fm)), (l2, .inl (cI, 10, .inl fs))])) (QI D [(h0, .inr (7, [.ref gA, .ref tA, .ref rA, .ref pA, .ref bA, .ref lA, .ref eA, .int td, .int fi, .int lf])), (pA, .inr (4, [.int hgt, .int drt, .int hrs])), (lA, .inr (2, [.ref l1, .ref l2, .int (nI tk)])), (l1, .inl (cI, 70, .inl fm)), (l2, .inl (cI, 10, .inl fs))] sz (F_X7_isMuddy td drt tk fm fs) [(h0, .inr (7, [.ref gA, .ref tA, .ref rA, .ref pA, .ref bA, .ref lA, .ref eA, .int td, .int fi, .int lf])), (pA, .inr (4, [.int hgt, .int drt, .int hrs])), (lA, .inr (2, [.ref l1, .ref l2, .int (nI tk)])), (l1, .inl (cI, 70, .inl fm)), (l2, .inl (cI, 10, .inl fs))]) 0 0 (va_A [(h0, .inr (7, [.ref gA, .ref tA, .ref rA, .ref pA, .ref bA, .ref lA, .ref eA, .int td, .int fi, .int lf])), (pA, .inr (4, [.int hgt, .int drt, .int hrs])), (lA, .inr (2, [.ref l1, .ref l2, .int (nI tk)])), (l1, .inl (cI, 70, .inl fm)), (l2, .inl (cI, 10, .inl fs))] sz) := by
  refine Met.ofW (cc := cX7_isMuddy) (maxL := 1) (ret := (some .boolean)) (by decide) rfl ?_
  intro p e s m args below meth c s₁ B hml hv
  obtain ⟨rfl, hsz, hz, hP, hD0, hB⟩ := hv
  have hx := B.exec
  have hb := B.bytes
  have hr := B.returns
  have hts := atoms_spec (ws := wsX7_isMuddy) B.pre
  have hown : s.vm.findClass RX7 = some m.cls := findClass_of_methodNamed B.named
  have hlocks := B.notSynchronized
  subst hsz
  have hD := hD0.self (sz := s.heap.size)
  have hA0 := va_A0 hD0 hz
  unfold QI
  generalize hAe : va_A [(h0, .inr (7, [.ref gA, .ref tA, .ref rA, .ref pA, .ref bA, .ref lA, .ref eA, .int td, .int fi, .int lf])), (pA, .inr (4, [.int hgt, .int drt, .int hrs])), (lA, .inr (2, [.ref l1, .ref l2, .int (nI tk)])), (l1, .inl (cI, 70, .inl fm)), (l2, .inl (cI, 10, .inl fs))] s.heap.size = A at hD hA0 ⊢
  have hA : ∀ q : Nat, s.heap.size ≤ q → A q := fun q h => by rw [← hAe]; exact Or.inr h
  have hS : va_S A s.heap s.heap [] := va_S.rf
  have hiX7 : ∀ w ∈ wsX70, w ∈ wsX7_isMuddy := fun w h => List.mem_cons_of_mem _ (List.mem_append_left _ (List.mem_append_left _ (List.mem_append_right _ h)))
  have hl := lv_entry ([.ref h0]) (n := 1) (Nat.le_of_ble_eq_true rfl)
  rw [lg_entry_eq]
  generalize (lg_sl ([.ref h0]) ++ List.replicate (1 - (lg_sl ([.ref h0])).length) Slot.unset).toArray = ls at hl ⊢
  have hl : lv_has ls 1 [(0, .ref h0)] := hl
  refine lv_aload_n hx hb dX7_isMuddy_0 rfl (lv_at hl 0 rfl) ?_
  refine va_get (D := D) (ci := 7) (v := .ref pA) (C := RX7) (T := TX7) (N := 10) hx hb hts hiX7 hown hB.1 hP 0 rfl rfl 3 (by decide) (hts _ (List.mem_of_getElem? (i := 1) rfl)) (fun _ h9 => h9) rfl dX7_isMuddy_1 ?_
  refine k_i (w2 := [(h0, .inr (7, [.ref gA, .ref tA, .ref rA, .ref pA, .ref bA, .ref lA, .ref eA, .int td, .int fi, .int lf])), (pA, .inr (4, [.int hgt, .int drt, .int hrs])), (lA, .inr (2, [.ref l1, .ref l2, .int (nI tk)])), (l1, .inl (cI, 70, .inl fm)), (l2, .inl (cI, 10, .inl fs))]) (va_runV (As := []) (rest := []) ⟨hx, hb, hml, hown, hts⟩ (c_X4_mud l _ pA hgt drt hrs) (cwV 0 hts gX7_isMuddy_X4_mud rfl rfl rfl (by decide +kernel) ⟨Nat.le_of_ble_eq_true rfl, Nat.le_of_ble_eq_true rfl⟩) (pre_V (ci := 4) (q0 := 1) hB hz hA0 hP hD hS [1] rfl rfl rfl rfl rfl) rfl rfl hl.1 rfl (lv_room (Nat.le_of_ble_eq_true rfl)) dX7_isMuddy_4 ⟨Nat.zero_le _, Nat.zero_le _⟩) hP hD hS hA [1] [0, 2, 3, 4] [0, 4, 1, 2, 3] rfl rfl rfl rfl rfl (fun H locs hP hD hS => ?_)
  refine lv_aload_n hx hb dX7_isMuddy_7 rfl (lv_at hl 0 rfl) ?_
  refine lv_iconst (v := 3) hx hb dX7_isMuddy_8 (by decide) ?_
  refine k_i (w2 := [(h0, .inr (7, [.ref gA, .ref tA, .ref rA, .ref pA, .ref bA, .ref lA, .ref eA, .int td, .int fi, .int lf])), (pA, .inr (4, [.int hgt, .int drt, .int hrs])), (lA, .inr (2, [.ref l1, .ref l2, .int (nI tk)])), (l1, .inl (cI, 70, .inl fm)), (l2, .inl (cI, 10, .inl fs))]) (va_runV (As := [.int 3]) (rest := [.int drt]) ⟨hx, hb, hml, hown, hts⟩ (c_X7_lawToday l _ h0 gA tA rA pA bA lA eA td fi lf l1 l2 tk fm fs 3 htk) (cwV 1 hts gX7_isMuddy_X7_lawToday rfl rfl rfl (by decide +kernel) ⟨Nat.le_of_ble_eq_true rfl, Nat.le_of_ble_eq_true rfl⟩) (pre_V (ci := 7) (q0 := 0) hB hz hA0 hP hD hS [0, 2, 3, 4] rfl rfl rfl rfl rfl) rfl rfl hl.1 rfl (lv_room (Nat.le_of_ble_eq_true rfl)) dX7_isMuddy_9 ⟨Nat.zero_le _, Nat.zero_le _⟩) hP hD hS hA [0, 2, 3, 4] [1] [1, 0, 2, 3, 4] rfl rfl rfl rfl rfl (fun H locs hP hD hS => ?_)
  refine lv_icmp_le (tgt := 19) hx hb dX7_isMuddy_12 (by decide) (fun c_1 => ?_) (fun c_1 => ?_)
  · refine lv_iconst (v := 0) hx hb dX7_isMuddy_19 (by decide) ?_
    have er : F_X7_isMuddy td drt tk fm fs = 0 := by rw [F_X7_isMuddy, if_pos c_1]
    exact W.zret hx hb hr rfl (fun t ht hW => ⟨⟨_, (), rfl, er.symm, by rw [ht]; exact hP, hD⟩, hS.F ht⟩) hS.2.2 dX7_isMuddy_20
  · refine lv_iconst (v := 1) hx hb dX7_isMuddy_15 (by decide) ?_
    refine lv_goto (tgt := 20) hx hb dX7_isMuddy_16 (by decide) ?_
    have er : F_X7_isMuddy td drt tk fm fs = 1 := by rw [F_X7_isMuddy, if_neg c_1]
    exact W.zret hx hb hr rfl (fun t ht hW => ⟨⟨_, (), rfl, er.symm, by rw [ht]; exact hP, hD⟩, hS.F ht⟩) hS.2.2 dX7_isMuddy_20

def F_X7_bankAhead (nr : Nat) (np : Nat) (fd : Nat → Int32) (dg : Nat) (fp : Nat → Int32) (deep : Int32) : Int32 :=
  if (F_X1_has nr np (F_X6_dredgeRow dg) (F_X6_dredgePlace dg fp)) = 0 then 0 else
  (if 0 ≤ (deep - (fd ((((F_X6_dredgeRow dg).toNatClampNeg) * np) + ((F_X6_dredgePlace dg fp).toNatClampNeg)))) then (deep - (fd ((((F_X6_dredgeRow dg).toNatClampNeg) * np) + ((F_X6_dredgePlace dg fp).toNatClampNeg)))) else 0 - (deep - (fd ((((F_X6_dredgeRow dg).toNatClampNeg) * np) + ((F_X6_dredgePlace dg fp).toNatClampNeg)))))
set_option maxHeartbeats 4000000 in
set_option maxRecDepth 100000 in
theorem c_X7_bankAhead (l : Launch) {D : va_G} {cI cZ cB : ClassId} {au : Nat} {kA kV : Nat → Nat} {z0 : Nat} (sz : Nat) (h0 : Nat) (gA : Nat) (tA : Nat) (rA : Nat) (pA : Nat) (bA : Nat) (lA : Nat) (eA : Nat) (td : Int32) (fi : Int32) (lf : Int32) (nr : Nat) (np : Nat) (g1 : Nat) (g2 : Nat) (g3 : Nat) (g4 : Nat) (g : Int32) (fd : Nat → Int32) (ft : Nat → Int32) (fl : Nat → Int32) (fg : Nat → Int32) (t1 : Nat) (t2 : Nat) (t3 : Nat) (t4 : Nat) (dg : Nat) (lb : Int32) (fp : Nat → Int32) (fy : Nat → Int32) (fb : Nat → Int32) (fn : Nat → Int32) (deep : Int32) (hlen : nr * np < 2 ^ 31) (h20 : nr ≤ 20) (h2p : 2 ≤ np) (h8 : np ≤ 8) (hdg : dg ≤ nr) : Met l yX7_bankAhead wsX7_bankAhead ({ frames := 2, cells := 0, slots := 0, locals := 44 }) (va_Pc [.ref h0, .int deep] (PRE D cI cZ cB au kA kV z0 sz [(h0, .inr (7, [.ref gA, .ref tA, .ref rA, .ref pA, .ref bA, .ref lA, .ref eA, .int td, .int fi, .int lf])), (gA, .inr (1, [.int (nI nr), .int (nI np), .ref g1, .ref g2, .ref g3, .ref g4, .int g])), (g1, .inl (cI, nr * np, .inl fd)), (g2, .inl (cI, nr * np, .inl ft)), (g3, .inl (cI, nr * np, .inl fl)), (g4, .inl (cI, nr * np, .inl fg)), (tA, .inr (6, [.ref t1, .ref t2, .ref t3, .ref t4, .int (nI dg), .int lb])), (t1, .inl (cI, nr, .inl fp)), (t2, .inl (cI, nr, .inl fy)), (t3, .inl (cZ, nr, .inl fb)), (t4, .inl (cZ, nr, .inl fn))])) (QI D [(h0, .inr (7, [.ref gA, .ref tA, .ref rA, .ref pA, .ref bA, .ref lA, .ref eA, .int td, .int fi, .int lf])), (gA, .inr (1, [.int (nI nr), .int (nI np), .ref g1, .ref g2, .ref g3, .ref g4, .int g])), (g1, .inl (cI, nr * np, .inl fd)), (g2, .inl (cI, nr * np, .inl ft)), (g3, .inl (cI, nr * np, .inl fl)), (g4, .inl (cI, nr * np, .inl fg)), (tA, .inr (6, [.ref t1, .ref t2, .ref t3, .ref t4, .int (nI dg), .int lb])), (t1, .inl (cI, nr, .inl fp)), (t2, .inl (cI, nr, .inl fy)), (t3, .inl (cZ, nr, .inl fb)), (t4, .inl (cZ, nr, .inl fn))] sz (F_X7_bankAhead nr np fd dg fp deep) [(h0, .inr (7, [.ref gA, .ref tA, .ref rA, .ref pA, .ref bA, .ref lA, .ref eA, .int td, .int fi, .int lf])), (gA, .inr (1, [.int (nI nr), .int (nI np), .ref g1, .ref g2, .ref g3, .ref g4, .int g])), (g1, .inl (cI, nr * np, .inl fd)), (g2, .inl (cI, nr * np, .inl ft)), (g3, .inl (cI, nr * np, .inl fl)), (g4, .inl (cI, nr * np, .inl fg)), (tA, .inr (6, [.ref t1, .ref t2, .ref t3, .ref t4, .int (nI dg), .int lb])), (t1, .inl (cI, nr, .inl fp)), (t2, .inl (cI, nr, .inl fy)), (t3, .inl (cZ, nr, .inl fb)), (t4, .inl (cZ, nr, .inl fn))]) 0 0 (va_A [(h0, .inr (7, [.ref gA, .ref tA, .ref rA, .ref pA, .ref bA, .ref lA, .ref eA, .int td, .int fi, .int lf])), (gA, .inr (1, [.int (nI nr), .int (nI np), .ref g1, .ref g2, .ref g3, .ref g4, .int g])), (g1, .inl (cI, nr * np, .inl fd)), (g2, .inl (cI, nr * np, .inl ft)), (g3, .inl (cI, nr * np, .inl fl)), (g4, .inl (cI, nr * np, .inl fg)), (tA, .inr (6, [.ref t1, .ref t2, .ref t3, .ref t4, .int (nI dg), .int lb])), (t1, .inl (cI, nr, .inl fp)), (t2, .inl (cI, nr, .inl fy)), (t3, .inl (cZ, nr, .inl fb)), (t4, .inl (cZ, nr, .inl fn))] sz) := by
  refine Met.ofW (cc := cX7_bankAhead) (maxL := 4) (ret := (some .int)) (by decide) rfl ?_
  intro p e s m args below meth c s₁ B hml hv
  obtain ⟨rfl, hsz, hz, hP, hD0, hB⟩ := hv
  have hx := B.exec
  have hb := B.bytes
  have hr := B.returns
  have hts := atoms_spec (ws := wsX7_bankAhead) B.pre
  have hown : s.vm.findClass RX7 = some m.cls := findClass_of_methodNamed B.named
  have hlocks := B.notSynchronized
  subst hsz
  have hD := hD0.self (sz := s.heap.size)
  have hA0 := va_A0 hD0 hz
  unfold QI
  generalize hAe : va_A [(h0, .inr (7, [.ref gA, .ref tA, .ref rA, .ref pA, .ref bA, .ref lA, .ref eA, .int td, .int fi, .int lf])), (gA, .inr (1, [.int (nI nr), .int (nI np), .ref g1, .ref g2, .ref g3, .ref g4, .int g])), (g1, .inl (cI, nr * np, .inl fd)), (g2, .inl (cI, nr * np, .inl ft)), (g3, .inl (cI, nr * np, .inl fl)), (g4, .inl (cI, nr * np, .inl fg)), (tA, .inr (6, [.ref t1, .ref t2, .ref t3, .ref t4, .int (nI dg), .int lb])), (t1, .inl (cI, nr, .inl fp)), (t2, .inl (cI, nr, .inl fy)), (t3, .inl (cZ, nr, .inl fb)), (t4, .inl (cZ, nr, .inl fn))] s.heap.size = A at hD hA0 ⊢
  have hA : ∀ q : Nat, s.heap.size ≤ q → A q := fun q h => by rw [← hAe]; exact Or.inr h
  have hS : va_S A s.heap s.heap [] := va_S.rf
  have hiX7 : ∀ w ∈ wsX70, w ∈ wsX7_bankAhead := fun w h => List.mem_cons_of_mem _ (List.mem_append_left _ (List.mem_append_left _ (List.mem_append_right _ h)))
  have hl := lv_entry ([.ref h0, .int deep]) (n := 4) (Nat.le_of_ble_eq_true rfl)
  rw [lg_entry_eq]
  generalize (lg_sl ([.ref h0, .int deep]) ++ List.replicate (4 - (lg_sl ([.ref h0, .int deep])).length) Slot.unset).toArray = ls at hl ⊢
  have hl : lv_has ls 4 [(0, .ref h0), (1, .int deep)] := hl
  refine lv_aload_n hx hb dX7_bankAhead_0 rfl (lv_at hl 0 rfl) ?_
  refine va_get (D := D) (ci := 7) (v := .ref tA) (C := RX7) (T := TX7) (N := 10) hx hb hts hiX7 hown hB.1 hP 0 rfl rfl 1 (by decide) (hts _ (List.mem_of_getElem? (i := 1) rfl)) (fun _ h9 => h9) rfl dX7_bankAhead_1 ?_
  refine k_i (w2 := [(h0, .inr (7, [.ref gA, .ref tA, .ref rA, .ref pA, .ref bA, .ref lA, .ref eA, .int td, .int fi, .int lf])), (gA, .inr (1, [.int (nI nr), .int (nI np), .ref g1, .ref g2, .ref g3, .ref g4, .int g])), (g1, .inl (cI, nr * np, .inl fd)), (g2, .inl (cI, nr * np, .inl ft)), (g3, .inl (cI, nr * np, .inl fl)), (g4, .inl (cI, nr * np, .inl fg)), (tA, .inr (6, [.ref t1, .ref t2, .ref t3, .ref t4, .int (nI dg), .int lb])), (t1, .inl (cI, nr, .inl fp)), (t2, .inl (cI, nr, .inl fy)), (t3, .inl (cZ, nr, .inl fb)), (t4, .inl (cZ, nr, .inl fn))]) (va_runV (As := []) (rest := []) ⟨hx, hb, hml, hown, hts⟩ (c_X6_dredgeRow l _ tA t1 t2 t3 t4 nr dg lb fp fy fb fn) (cwV 0 hts gX7_bankAhead_X6_dredgeRow rfl rfl rfl (by decide +kernel) ⟨Nat.le_of_ble_eq_true rfl, Nat.le_of_ble_eq_true rfl⟩) (pre_V (ci := 6) (q0 := 6) hB hz hA0 hP hD hS [6, 7, 8, 9, 10] rfl rfl rfl rfl rfl) rfl rfl hl.1 rfl (lv_room (Nat.le_of_ble_eq_true rfl)) dX7_bankAhead_4 ⟨Nat.zero_le _, Nat.zero_le _⟩) hP hD hS hA [6, 7, 8, 9, 10] [0, 1, 2, 3, 4, 5] [0, 1, 2, 3, 4, 5, 6, 7, 8, 9, 10] rfl rfl rfl rfl rfl (fun H locs hP hD hS => ?_)
  refine lv_istore_n (lv' := [(2, .int (F_X6_dredgeRow dg)), (0, .ref h0), (1, .int deep)]) hx hb dX7_bankAhead_7 rfl hl (by decide) rfl (fun ls hl => ?_)
  refine lv_aload_n hx hb dX7_bankAhead_8 rfl (lv_at hl 1 rfl) ?_
  refine va_get (D := D) (ci := 7) (v := .ref tA) (C := RX7) (T := TX7) (N := 10) hx hb hts hiX7 hown hB.1 hP 0 rfl rfl 1 (by decide) (hts _ (List.mem_of_getElem? (i := 1) rfl)) (fun _ h9 => h9) rfl dX7_bankAhead_9 ?_
  refine k_i (w2 := [(h0, .inr (7, [.ref gA, .ref tA, .ref rA, .ref pA, .ref bA, .ref lA, .ref eA, .int td, .int fi, .int lf])), (gA, .inr (1, [.int (nI nr), .int (nI np), .ref g1, .ref g2, .ref g3, .ref g4, .int g])), (g1, .inl (cI, nr * np, .inl fd)), (g2, .inl (cI, nr * np, .inl ft)), (g3, .inl (cI, nr * np, .inl fl)), (g4, .inl (cI, nr * np, .inl fg)), (tA, .inr (6, [.ref t1, .ref t2, .ref t3, .ref t4, .int (nI dg), .int lb])), (t1, .inl (cI, nr, .inl fp)), (t2, .inl (cI, nr, .inl fy)), (t3, .inl (cZ, nr, .inl fb)), (t4, .inl (cZ, nr, .inl fn))]) (va_runV (As := []) (rest := []) ⟨hx, hb, hml, hown, hts⟩ (c_X6_dredgePlace l _ tA t1 t2 t3 t4 nr dg lb fp fy fb fn (by omega) hdg) (cwV 0 hts gX7_bankAhead_X6_dredgePlace rfl rfl rfl (by decide +kernel) ⟨Nat.le_of_ble_eq_true rfl, Nat.le_of_ble_eq_true rfl⟩) (pre_V (ci := 6) (q0 := 6) hB hz hA0 hP hD hS [6, 7, 8, 9, 10] rfl rfl rfl rfl rfl) rfl rfl hl.1 rfl (lv_room (Nat.le_of_ble_eq_true rfl)) dX7_bankAhead_12 ⟨Nat.zero_le _, Nat.zero_le _⟩) hP hD hS hA [6, 7, 8, 9, 10] [0, 1, 2, 3, 4, 5] [0, 1, 2, 3, 4, 5, 6, 7, 8, 9, 10] rfl rfl rfl rfl rfl (fun H locs hP hD hS => ?_)
  refine lv_istore_n (lv' := [(3, .int (F_X6_dredgePlace dg fp)), (2, .int (F_X6_dredgeRow dg)), (0, .ref h0), (1, .int deep)]) hx hb dX7_bankAhead_15 rfl hl (by decide) rfl (fun ls hl => ?_)
  refine lv_aload_n hx hb dX7_bankAhead_16 rfl (lv_at hl 2 rfl) ?_
  refine va_get (D := D) (ci := 7) (v := .ref gA) (C := RX7) (T := TX7) (N := 10) hx hb hts hiX7 hown hB.1 hP 0 rfl rfl 0 (by decide) (hts _ (List.mem_of_getElem? (i := 2) rfl)) (fun _ h9 => h9) rfl dX7_bankAhead_17 ?_
  refine lv_iload_n hx hb dX7_bankAhead_20 rfl (lv_at hl 1 rfl) ?_
  refine lv_iload_n hx hb dX7_bankAhead_21 rfl (lv_at hl 0 rfl) ?_
  refine k_i (w2 := [(h0, .inr (7, [.ref gA, .ref tA, .ref rA, .ref pA, .ref bA, .ref lA, .ref eA, .int td, .int fi, .int lf])), (gA, .inr (1, [.int (nI nr), .int (nI np), .ref g1, .ref g2, .ref g3, .ref g4, .int g])), (g1, .inl (cI, nr * np, .inl fd)), (g2, .inl (cI, nr * np, .inl ft)), (g3, .inl (cI, nr * np, .inl fl)), (g4, .inl (cI, nr * np, .inl fg)), (tA, .inr (6, [.ref t1, .ref t2, .ref t3, .ref t4, .int (nI dg), .int lb])), (t1, .inl (cI, nr, .inl fp)), (t2, .inl (cI, nr, .inl fy)), (t3, .inl (cZ, nr, .inl fb)), (t4, .inl (cZ, nr, .inl fn))]) (va_runV (As := [.int (F_X6_dredgeRow dg), .int (F_X6_dredgePlace dg fp)]) (rest := []) ⟨hx, hb, hml, hown, hts⟩ (c_X1_has l _ gA g1 g2 g3 g4 nr np g fd ft fl fg (F_X6_dredgeRow dg) (F_X6_dredgePlace dg fp)) (cwV 2 hts gX7_bankAhead_X1_has rfl rfl rfl (by decide +kernel) ⟨Nat.le_of_ble_eq_true rfl, Nat.le_of_ble_eq_true rfl⟩) (pre_V (ci := 1) (q0 := 1) hB hz hA0 hP hD hS [1, 2, 3, 4, 5] rfl rfl rfl rfl rfl) rfl rfl hl.1 rfl (lv_room (Nat.le_of_ble_eq_true rfl)) dX7_bankAhead_22 ⟨Nat.zero_le _, Nat.zero_le _⟩) hP hD hS hA [1, 2, 3, 4, 5] [0, 6, 7, 8, 9, 10] [0, 6, 7, 8, 9, 10, 1, 2, 3, 4, 5] rfl rfl rfl rfl rfl (fun H locs hP hD hS => ?_)
  refine lv_if_ne (tgt := 30) hx hb dX7_bankAhead_25 (by decide) (fun c_1 => ?_) (fun c_1 => ?_)
  · obtain ⟨⟨hr1, hr2⟩, hp1, hp2⟩ := has_ix (by omega) (by omega) c_1
    refine lv_iload_n hx hb dX7_bankAhead_30 rfl (lv_at hl 3 rfl) ?_
    refine lv_aload_n hx hb dX7_bankAhead_31 rfl (lv_at hl 2 rfl) ?_
    refine va_get (D := D) (ci := 7) (v := .ref gA) (C := RX7) (T := TX7) (N := 10) hx hb hts hiX7 hown hB.1 hP 0 rfl rfl 0 (by decide) (hts _ (List.mem_of_getElem? (i := 2) rfl)) (fun _ h9 => h9) rfl dX7_bankAhead_32 ?_
    refine lv_iload_n hx hb dX7_bankAhead_35 rfl (lv_at hl 1 rfl) ?_
    refine lv_iload_n hx hb dX7_bankAhead_36 rfl (lv_at hl 0 rfl) ?_
    refine k_i (w2 := [(h0, .inr (7, [.ref gA, .ref tA, .ref rA, .ref pA, .ref bA, .ref lA, .ref eA, .int td, .int fi, .int lf])), (gA, .inr (1, [.int (nI nr), .int (nI np), .ref g1, .ref g2, .ref g3, .ref g4, .int g])), (g1, .inl (cI, nr * np, .inl fd)), (g2, .inl (cI, nr * np, .inl ft)), (g3, .inl (cI, nr * np, .inl fl)), (g4, .inl (cI, nr * np, .inl fg)), (tA, .inr (6, [.ref t1, .ref t2, .ref t3, .ref t4, .int (nI dg), .int lb])), (t1, .inl (cI, nr, .inl fp)), (t2, .inl (cI, nr, .inl fy)), (t3, .inl (cZ, nr, .inl fb)), (t4, .inl (cZ, nr, .inl fn))]) (va_runV (As := [.int (F_X6_dredgeRow dg), .int (F_X6_dredgePlace dg fp)]) (rest := [.int deep]) ⟨hx, hb, hml, hown, hts⟩ (c_X1_depthAt l _ gA g1 g2 g3 g4 nr np g fd ft fl fg (F_X6_dredgeRow dg) (F_X6_dredgePlace dg fp) ((F_X6_dredgeRow dg).toNatClampNeg) ((F_X6_dredgePlace dg fp).toNatClampNeg) hlen hr1 hp1 hr2 hp2) (cwV 2 hts gX7_bankAhead_X1_depthAt rfl rfl rfl (by decide +kernel) ⟨Nat.le_of_ble_eq_true rfl, Nat.le_of_ble_eq_true rfl⟩) (pre_V (ci := 1) (q0 := 1) hB hz hA0 hP hD hS [1, 2, 3, 4, 5] rfl rfl rfl rfl rfl) rfl rfl hl.1 rfl (lv_room (Nat.le_of_ble_eq_true rfl)) dX7_bankAhead_37 ⟨Nat.zero_le _, Nat.zero_le _⟩) hP hD hS hA [1, 2, 3, 4, 5] [0, 6, 7, 8, 9, 10] [0, 6, 7, 8, 9, 10, 1, 2, 3, 4, 5] rfl rfl rfl rfl rfl (fun H locs hP hD hS => ?_)
    refine lv_isub hx hb dX7_bankAhead_40 ?_
    refine va_mabs hx hb (hml.trans hl.1.symm) hown (hts _ (List.mem_of_getElem? (i := 3) rfl)) (hts _ (List.mem_of_getElem? (i := 4) rfl)) (hts _ (List.mem_of_getElem? (i := 5) rfl)) (hts _ (List.mem_of_getElem? (i := 6) rfl)) (Nat.le_of_ble_eq_true rfl) (Nat.le_of_ble_eq_true rfl) (Nat.zero_le _) (Nat.zero_le _) dX7_bankAhead_41 ?_
    have er : F_X7_bankAhead nr np fd dg fp deep = (if 0 ≤ (deep - (fd ((((F_X6_dredgeRow dg).toNatClampNeg) * np) + ((F_X6_dredgePlace dg fp).toNatClampNeg)))) then (deep - (fd ((((F_X6_dredgeRow dg).toNatClampNeg) * np) + ((F_X6_dredgePlace dg fp).toNatClampNeg)))) else 0 - (deep - (fd ((((F_X6_dredgeRow dg).toNatClampNeg) * np) + ((F_X6_dredgePlace dg fp).toNatClampNeg))))) := by rw [F_X7_bankAhead, if_neg c_1]
    exact W.iret hx hb hr (fun t ht hW => ⟨⟨_, (), rfl, er.symm, by rw [ht]; exact hP, hD⟩, hS.F ht⟩) hS.2.2 dX7_bankAhead_44
  · refine lv_iconst (v := 0) hx hb dX7_bankAhead_28 (by decide) ?_
    have er : F_X7_bankAhead nr np fd dg fp deep = 0 := by rw [F_X7_bankAhead, if_pos c_1]
    exact W.iret hx hb hr (fun t ht hW => ⟨⟨_, (), rfl, er.symm, by rw [ht]; exact hP, hD⟩, hS.F ht⟩) hS.2.2 dX7_bankAhead_29

def F_X7_depth (nr : Nat) (np : Nat) (dg : Nat) (fp : Nat → Int32) (row : Int32) (place : Int32) (depth : Int32) : Int32 :=
  if (F_X7_isUndug nr np dg fp row place) = 0 then 0 else
  if (F_X7_within depth 1 9) = 0 then 0 else
  1
def F_X7_depth_2 (nr : Nat) (np : Nat) (fd : Nat → Int32) (dg : Nat) (fp : Nat → Int32) (row : Int32) (place : Int32) (depth : Int32) : Nat → Int32 :=
  if (F_X7_isUndug nr np dg fp row place) = 0 then fd else
  if (F_X7_within depth 1 9) = 0 then fd else
  upd fd ((row.toNatClampNeg * np) + place.toNatClampNeg) depth
set_option maxHeartbeats 4000000 in
set_option maxRecDepth 100000 in
theorem c_X7_depth (l : Launch) {D : va_G} {cI cZ cB : ClassId} {au : Nat} {kA kV : Nat → Nat} {z0 : Nat} (sz : Nat) (h0 : Nat) (gA : Nat) (tA : Nat) (rA : Nat) (pA : Nat) (bA : Nat) (lA : Nat) (eA : Nat) (td : Int32) (fi : Int32) (lf : Int32) (nr : Nat) (np : Nat) (g1 : Nat) (g2 : Nat) (g3 : Nat) (g4 : Nat) (g : Int32) (fd : Nat → Int32) (ft : Nat → Int32) (fl : Nat → Int32) (fg : Nat → Int32) (t1 : Nat) (t2 : Nat) (t3 : Nat) (t4 : Nat) (dg : Nat) (lb : Int32) (fp : Nat → Int32) (fy : Nat → Int32) (fb : Nat → Int32) (fn : Nat → Int32) (row : Int32) (place : Int32) (depth : Int32) (hlen : nr * np < 2 ^ 31) (h20 : nr ≤ 20) (h2p : 2 ≤ np) (h8 : np ≤ 8) (hdg : dg ≤ nr) : Met l yX7_depth wsX7_depth ({ frames := 3, cells := 0, slots := 0, locals := 66 }) (va_Pc [.ref h0, .int row, .int place, .int depth] (PRE D cI cZ cB au kA kV z0 sz [(h0, .inr (7, [.ref gA, .ref tA, .ref rA, .ref pA, .ref bA, .ref lA, .ref eA, .int td, .int fi, .int lf])), (gA, .inr (1, [.int (nI nr), .int (nI np), .ref g1, .ref g2, .ref g3, .ref g4, .int g])), (g1, .inl (cI, nr * np, .inl fd)), (g2, .inl (cI, nr * np, .inl ft)), (g3, .inl (cI, nr * np, .inl fl)), (g4, .inl (cI, nr * np, .inl fg)), (tA, .inr (6, [.ref t1, .ref t2, .ref t3, .ref t4, .int (nI dg), .int lb])), (t1, .inl (cI, nr, .inl fp)), (t2, .inl (cI, nr, .inl fy)), (t3, .inl (cZ, nr, .inl fb)), (t4, .inl (cZ, nr, .inl fn))])) (QI D [(h0, .inr (7, [.ref gA, .ref tA, .ref rA, .ref pA, .ref bA, .ref lA, .ref eA, .int td, .int fi, .int lf])), (gA, .inr (1, [.int (nI nr), .int (nI np), .ref g1, .ref g2, .ref g3, .ref g4, .int g])), (g1, .inl (cI, nr * np, .inl fd)), (g2, .inl (cI, nr * np, .inl ft)), (g3, .inl (cI, nr * np, .inl fl)), (g4, .inl (cI, nr * np, .inl fg)), (tA, .inr (6, [.ref t1, .ref t2, .ref t3, .ref t4, .int (nI dg), .int lb])), (t1, .inl (cI, nr, .inl fp)), (t2, .inl (cI, nr, .inl fy)), (t3, .inl (cZ, nr, .inl fb)), (t4, .inl (cZ, nr, .inl fn))] sz (F_X7_depth nr np dg fp row place depth) [(h0, .inr (7, [.ref gA, .ref tA, .ref rA, .ref pA, .ref bA, .ref lA, .ref eA, .int td, .int fi, .int lf])), (gA, .inr (1, [.int (nI nr), .int (nI np), .ref g1, .ref g2, .ref g3, .ref g4, .int g])), (g1, .inl (cI, nr * np, .inl (F_X7_depth_2 nr np fd dg fp row place depth))), (g2, .inl (cI, nr * np, .inl ft)), (g3, .inl (cI, nr * np, .inl fl)), (g4, .inl (cI, nr * np, .inl fg)), (tA, .inr (6, [.ref t1, .ref t2, .ref t3, .ref t4, .int (nI dg), .int lb])), (t1, .inl (cI, nr, .inl fp)), (t2, .inl (cI, nr, .inl fy)), (t3, .inl (cZ, nr, .inl fb)), (t4, .inl (cZ, nr, .inl fn))]) 0 0 (va_A [(h0, .inr (7, [.ref gA, .ref tA, .ref rA, .ref pA, .ref bA, .ref lA, .ref eA, .int td, .int fi, .int lf])), (gA, .inr (1, [.int (nI nr), .int (nI np), .ref g1, .ref g2, .ref g3, .ref g4, .int g])), (g1, .inl (cI, nr * np, .inl fd)), (g2, .inl (cI, nr * np, .inl ft)), (g3, .inl (cI, nr * np, .inl fl)), (g4, .inl (cI, nr * np, .inl fg)), (tA, .inr (6, [.ref t1, .ref t2, .ref t3, .ref t4, .int (nI dg), .int lb])), (t1, .inl (cI, nr, .inl fp)), (t2, .inl (cI, nr, .inl fy)), (t3, .inl (cZ, nr, .inl fb)), (t4, .inl (cZ, nr, .inl fn))] sz) := by
  refine Met.ofW (cc := cX7_depth) (maxL := 4) (ret := (some .boolean)) (by decide) rfl ?_
  intro p e s m args below meth c s₁ B hml hv
  obtain ⟨rfl, hsz, hz, hP, hD0, hB⟩ := hv
  have hx := B.exec
  have hb := B.bytes
  have hr := B.returns
  have hts := atoms_spec (ws := wsX7_depth) B.pre
  have hown : s.vm.findClass RX7 = some m.cls := findClass_of_methodNamed B.named
  have hlocks := B.notSynchronized
  subst hsz
  have hD := hD0.self (sz := s.heap.size)
  have hA0 := va_A0 hD0 hz
  unfold QI
  generalize hAe : va_A [(h0, .inr (7, [.ref gA, .ref tA, .ref rA, .ref pA, .ref bA, .ref lA, .ref eA, .int td, .int fi, .int lf])), (gA, .inr (1, [.int (nI nr), .int (nI np), .ref g1, .ref g2, .ref g3, .ref g4, .int g])), (g1, .inl (cI, nr * np, .inl fd)), (g2, .inl (cI, nr * np, .inl ft)), (g3, .inl (cI, nr * np, .inl fl)), (g4, .inl (cI, nr * np, .inl fg)), (tA, .inr (6, [.ref t1, .ref t2, .ref t3, .ref t4, .int (nI dg), .int lb])), (t1, .inl (cI, nr, .inl fp)), (t2, .inl (cI, nr, .inl fy)), (t3, .inl (cZ, nr, .inl fb)), (t4, .inl (cZ, nr, .inl fn))] s.heap.size = A at hD hA0 ⊢
  have hA : ∀ q : Nat, s.heap.size ≤ q → A q := fun q h => by rw [← hAe]; exact Or.inr h
  have hS : va_S A s.heap s.heap [] := va_S.rf
  have hiX7 : ∀ w ∈ wsX70, w ∈ wsX7_depth := fun w h => List.mem_cons_of_mem _ (List.mem_append_left _ (List.mem_append_left _ (List.mem_append_right _ h)))
  have hl := lv_entry ([.ref h0, .int row, .int place, .int depth]) (n := 4) (Nat.le_of_ble_eq_true rfl)
  rw [lg_entry_eq]
  generalize (lg_sl ([.ref h0, .int row, .int place, .int depth]) ++ List.replicate (4 - (lg_sl ([.ref h0, .int row, .int place, .int depth])).length) Slot.unset).toArray = ls at hl ⊢
  have hl : lv_has ls 4 [(0, .ref h0), (1, .int row), (2, .int place), (3, .int depth)] := hl
  refine lv_aload_n hx hb dX7_depth_0 rfl (lv_at hl 0 rfl) ?_
  refine lv_iload_n hx hb dX7_depth_1 rfl (lv_at hl 1 rfl) ?_
  refine lv_iload_n hx hb dX7_depth_2 rfl (lv_at hl 2 rfl) ?_
  refine k_i (w2 := [(h0, .inr (7, [.ref gA, .ref tA, .ref rA, .ref pA, .ref bA, .ref lA, .ref eA, .int td, .int fi, .int lf])), (gA, .inr (1, [.int (nI nr), .int (nI np), .ref g1, .ref g2, .ref g3, .ref g4, .int g])), (g1, .inl (cI, nr * np, .inl fd)), (g2, .inl (cI, nr * np, .inl ft)), (g3, .inl (cI, nr * np, .inl fl)), (g4, .inl (cI, nr * np, .inl fg)), (tA, .inr (6, [.ref t1, .ref t2, .ref t3, .ref t4, .int (nI dg), .int lb])), (t1, .inl (cI, nr, .inl fp)), (t2, .inl (cI, nr, .inl fy)), (t3, .inl (cZ, nr, .inl fb)), (t4, .inl (cZ, nr, .inl fn))]) (va_runV (As := [.int row, .int place]) (rest := []) ⟨hx, hb, hml, hown, hts⟩ (c_X7_isUndug l _ h0 gA tA rA pA bA lA eA td fi lf nr np g1 g2 g3 g4 g fd ft fl fg t1 t2 t3 t4 dg lb fp fy fb fn row place hlen h20 h2p h8 hdg) (cwV 2 hts gX7_depth_X7_isUndug rfl rfl rfl (by decide +kernel) ⟨Nat.le_of_ble_eq_true rfl, Nat.le_of_ble_eq_true rfl⟩) (pre_V (ci := 7) (q0 := 0) hB hz hA0 hP hD hS [0, 1, 2, 3, 4, 5, 6, 7, 8, 9, 10] rfl rfl rfl rfl rfl) rfl rfl hl.1 rfl (lv_room (Nat.le_of_ble_eq_true rfl)) dX7_depth_3 ⟨Nat.zero_le _, Nat.zero_le _⟩) hP hD hS hA [0, 1, 2, 3, 4, 5, 6, 7, 8, 9, 10] [] [0, 1, 2, 3, 4, 5, 6, 7, 8, 9, 10] rfl rfl rfl rfl rfl (fun H locs hP hD hS => ?_)
  refine lv_if_eq (tgt := 19) hx hb dX7_depth_6 (by decide) (fun c_1 => ?_) (fun c_1 => ?_)
  · refine lv_iconst (v := 0) hx hb dX7_depth_19 (by decide) ?_
    have er : F_X7_depth nr np dg fp row place depth = 0 := by rw [F_X7_depth, if_pos c_1]
    have e2 : F_X7_depth_2 nr np fd dg fp row place depth = fd := by rw [F_X7_depth_2, if_pos c_1]
    exact W.zret hx hb hr rfl (fun t ht hW => ⟨⟨_, (), rfl, er.symm, by rw [ht, e2]; exact hP, by rw [e2]; exact hD⟩, hS.F ht⟩) hS.2.2 dX7_depth_20
  · obtain ⟨⟨⟨hr1, hr2⟩, hp1, hp2⟩, -⟩ := undug_ix (by omega) (by omega) c_1
    refine lv_iload_n hx hb dX7_depth_9 rfl (lv_at hl 3 rfl) ?_
    refine lv_iconst (v := 1) hx hb dX7_depth_10 (by decide) ?_
    refine lv_bipush (v := 9) hx hb dX7_depth_11 (by decide) ?_
    refine k_i (w2 := [(h0, .inr (7, [.ref gA, .ref tA, .ref rA, .ref pA, .ref bA, .ref lA, .ref eA, .int td, .int fi, .int lf])), (gA, .inr (1, [.int (nI nr), .int (nI np), .ref g1, .ref g2, .ref g3, .ref g4, .int g])), (g1, .inl (cI, nr * np, .inl fd)), (g2, .inl (cI, nr * np, .inl ft)), (g3, .inl (cI, nr * np, .inl fl)), (g4, .inl (cI, nr * np, .inl fg)), (tA, .inr (6, [.ref t1, .ref t2, .ref t3, .ref t4, .int (nI dg), .int lb])), (t1, .inl (cI, nr, .inl fp)), (t2, .inl (cI, nr, .inl fy)), (t3, .inl (cZ, nr, .inl fb)), (t4, .inl (cZ, nr, .inl fn))]) (va_runS (As := [.int depth, .int 1, .int 9]) (rest := []) ⟨hx, hb, hml, hown, hts⟩ (c_X7_within l _ depth 1 9) (va_cwS 3 hts gX7_depth_X7_within rfl rfl rfl (by decide +kernel) ⟨Nat.le_of_ble_eq_true rfl, Nat.le_of_ble_eq_true rfl⟩) (pre_S hB hz hA0 hP hD hS [] rfl rfl) rfl rfl hl.1 rfl (lv_room (Nat.le_of_ble_eq_true rfl)) dX7_depth_13 ⟨Nat.zero_le _, Nat.zero_le _⟩) hP hD hS hA [] [0, 1, 2, 3, 4, 5, 6, 7, 8, 9, 10] [0, 1, 2, 3, 4, 5, 6, 7, 8, 9, 10] rfl rfl rfl rfl rfl (fun H locs hP hD hS => ?_)
    refine lv_if_ne (tgt := 21) hx hb dX7_depth_16 (by decide) (fun c_2 => ?_) (fun c_2 => ?_)
    · refine lv_aload_n hx hb dX7_depth_21 rfl (lv_at hl 0 rfl) ?_
      refine va_get (D := D) (ci := 7) (v := .ref gA) (C := RX7) (T := TX7) (N := 10) hx hb hts hiX7 hown hB.1 hP 0 rfl rfl 0 (by decide) (hts _ (List.mem_of_getElem? (i := 1) rfl)) (fun _ h9 => h9) rfl dX7_depth_22 ?_
      refine lv_iload_n hx hb dX7_depth_25 rfl (lv_at hl 1 rfl) ?_
      refine lv_iload_n hx hb dX7_depth_26 rfl (lv_at hl 2 rfl) ?_
      refine lv_iload_n hx hb dX7_depth_27 rfl (lv_at hl 3 rfl) ?_
      refine k_v (w2 := [(h0, .inr (7, [.ref gA, .ref tA, .ref rA, .ref pA, .ref bA, .ref lA, .ref eA, .int td, .int fi, .int lf])), (gA, .inr (1, [.int (nI nr), .int (nI np), .ref g1, .ref g2, .ref g3, .ref g4, .int g])), (g1, .inl (cI, nr * np, .inl (upd fd ((row.toNatClampNeg * np) + place.toNatClampNeg) depth))), (g2, .inl (cI, nr * np, .inl ft)), (g3, .inl (cI, nr * np, .inl fl)), (g4, .inl (cI, nr * np, .inl fg)), (tA, .inr (6, [.ref t1, .ref t2, .ref t3, .ref t4, .int (nI dg), .int lb])), (t1, .inl (cI, nr, .inl fp)), (t2, .inl (cI, nr, .inl fy)), (t3, .inl (cZ, nr, .inl fb)), (t4, .inl (cZ, nr, .inl fn))]) (va_runV (As := [.int row, .int place, .int depth]) (rest := []) ⟨hx, hb, hml, hown, hts⟩ (c_X1_deepen l _ gA g1 g2 g3 g4 nr np g fd ft fl fg row place row.toNatClampNeg place.toNatClampNeg depth hlen hr1 hp1 hr2 hp2) (cwV 3 hts gX7_depth_X1_deepen rfl rfl rfl (by decide +kernel) ⟨Nat.le_of_ble_eq_true rfl, Nat.le_of_ble_eq_true rfl⟩) (pre_V (ci := 1) (q0 := 1) hB hz hA0 hP hD hS [1, 2, 3, 4, 5] rfl rfl rfl rfl rfl) rfl rfl hl.1 rfl (lv_room (Nat.le_of_ble_eq_true rfl)) dX7_depth_28 ⟨Nat.zero_le _, Nat.zero_le _⟩) hP hD hS hA [1, 2, 3, 4, 5] [0, 6, 7, 8, 9, 10] [0, 6, 7, 8, 9, 10, 1, 2, 3, 4, 5] rfl rfl rfl rfl rfl (fun H locs hP hD hS => ?_)
      refine lv_iconst (v := 1) hx hb dX7_depth_31 (by decide) ?_
      have er : F_X7_depth nr np dg fp row place depth = 1 := by rw [F_X7_depth, if_neg c_1, if_neg c_2]
      have e2 : F_X7_depth_2 nr np fd dg fp row place depth = upd fd ((row.toNatClampNeg * np) + place.toNatClampNeg) depth := by rw [F_X7_depth_2, if_neg c_1, if_neg c_2]
      exact W.zret hx hb hr rfl (fun t ht hW => ⟨⟨_, (), rfl, er.symm, by rw [ht, e2]; exact hP, by rw [e2]; exact hD⟩, hS.F ht⟩) hS.2.2 dX7_depth_32
    · refine lv_iconst (v := 0) hx hb dX7_depth_19 (by decide) ?_
      have er : F_X7_depth nr np dg fp row place depth = 0 := by rw [F_X7_depth, if_neg c_1, if_pos c_2]
      have e2 : F_X7_depth_2 nr np fd dg fp row place depth = fd := by rw [F_X7_depth_2, if_neg c_1, if_pos c_2]
      exact W.zret hx hb hr rfl (fun t ht hW => ⟨⟨_, (), rfl, er.symm, by rw [ht, e2]; exact hP, by rw [e2]; exact hD⟩, hS.F ht⟩) hS.2.2 dX7_depth_20

def F_X7_grade (gnew : Int32) : Int32 :=
  if (F_X7_within gnew 0 200) = 0 then (if gnew = 1000 then 1 else
    0) else
  1
def F_X7_grade_1_6 (g : Int32) (gnew : Int32) : Int32 :=
  if (F_X7_within gnew 0 200) = 0 then (if gnew = 1000 then gnew else
    g) else
  gnew
def F_X7_grade_4 (nr : Nat) (np : Nat) (ft : Nat → Int32) (fl : Nat → Int32) (fg : Nat → Int32) (gnew : Int32) : Nat → Int32 :=
  if (F_X7_within gnew 0 200) = 0 then (if gnew = 1000 then (lp (F_X1_closeToldSpans_L2 ft) (nr * np) ((lp (F_X1_sweepUp_L7 nr np gnew) nr ((lp (F_X1_sweepDown_L2 np gnew) nr ((lp (F_X1_openSpans_L2 ft) (nr * np) (fl, fg)).1, (lp (F_X1_openSpans_L2 ft) (nr * np) (fl, fg)).2)).1, (lp (F_X1_sweepDown_L2 np gnew) nr ((lp (F_X1_openSpans_L2 ft) (nr * np) (fl, fg)).1, (lp (F_X1_openSpans_L2 ft) (nr * np) (fl, fg)).2)).2)).1, (lp (F_X1_sweepUp_L7 nr np gnew) nr ((lp (F_X1_sweepDown_L2 np gnew) nr ((lp (F_X1_openSpans_L2 ft) (nr * np) (fl, fg)).1, (lp (F_X1_openSpans_L2 ft) (nr * np) (fl, fg)).2)).1, (lp (F_X1_sweepDown_L2 np gnew) nr ((lp (F_X1_openSpans_L2 ft) (nr * np) (fl, fg)).1, (lp (F_X1_openSpans_L2 ft) (nr * np) (fl, fg)).2)).2)).2)).1 else
    fl) else
  (lp (F_X1_closeToldSpans_L2 ft) (nr * np) ((lp (F_X1_sweepUp_L7 nr np gnew) nr ((lp (F_X1_sweepDown_L2 np gnew) nr ((lp (F_X1_openSpans_L2 ft) (nr * np) (fl, fg)).1, (lp (F_X1_openSpans_L2 ft) (nr * np) (fl, fg)).2)).1, (lp (F_X1_sweepDown_L2 np gnew) nr ((lp (F_X1_openSpans_L2 ft) (nr * np) (fl, fg)).1, (lp (F_X1_openSpans_L2 ft) (nr * np) (fl, fg)).2)).2)).1, (lp (F_X1_sweepUp_L7 nr np gnew) nr ((lp (F_X1_sweepDown_L2 np gnew) nr ((lp (F_X1_openSpans_L2 ft) (nr * np) (fl, fg)).1, (lp (F_X1_openSpans_L2 ft) (nr * np) (fl, fg)).2)).1, (lp (F_X1_sweepDown_L2 np gnew) nr ((lp (F_X1_openSpans_L2 ft) (nr * np) (fl, fg)).1, (lp (F_X1_openSpans_L2 ft) (nr * np) (fl, fg)).2)).2)).2)).1
def F_X7_grade_5 (nr : Nat) (np : Nat) (ft : Nat → Int32) (fl : Nat → Int32) (fg : Nat → Int32) (gnew : Int32) : Nat → Int32 :=
  if (F_X7_within gnew 0 200) = 0 then (if gnew = 1000 then (lp (F_X1_closeToldSpans_L2 ft) (nr * np) ((lp (F_X1_sweepUp_L7 nr np gnew) nr ((lp (F_X1_sweepDown_L2 np gnew) nr ((lp (F_X1_openSpans_L2 ft) (nr * np) (fl, fg)).1, (lp (F_X1_openSpans_L2 ft) (nr * np) (fl, fg)).2)).1, (lp (F_X1_sweepDown_L2 np gnew) nr ((lp (F_X1_openSpans_L2 ft) (nr * np) (fl, fg)).1, (lp (F_X1_openSpans_L2 ft) (nr * np) (fl, fg)).2)).2)).1, (lp (F_X1_sweepUp_L7 nr np gnew) nr ((lp (F_X1_sweepDown_L2 np gnew) nr ((lp (F_X1_openSpans_L2 ft) (nr * np) (fl, fg)).1, (lp (F_X1_openSpans_L2 ft) (nr * np) (fl, fg)).2)).1, (lp (F_X1_sweepDown_L2 np gnew) nr ((lp (F_X1_openSpans_L2 ft) (nr * np) (fl, fg)).1, (lp (F_X1_openSpans_L2 ft) (nr * np) (fl, fg)).2)).2)).2)).2 else
    fg) else
  (lp (F_X1_closeToldSpans_L2 ft) (nr * np) ((lp (F_X1_sweepUp_L7 nr np gnew) nr ((lp (F_X1_sweepDown_L2 np gnew) nr ((lp (F_X1_openSpans_L2 ft) (nr * np) (fl, fg)).1, (lp (F_X1_openSpans_L2 ft) (nr * np) (fl, fg)).2)).1, (lp (F_X1_sweepDown_L2 np gnew) nr ((lp (F_X1_openSpans_L2 ft) (nr * np) (fl, fg)).1, (lp (F_X1_openSpans_L2 ft) (nr * np) (fl, fg)).2)).2)).1, (lp (F_X1_sweepUp_L7 nr np gnew) nr ((lp (F_X1_sweepDown_L2 np gnew) nr ((lp (F_X1_openSpans_L2 ft) (nr * np) (fl, fg)).1, (lp (F_X1_openSpans_L2 ft) (nr * np) (fl, fg)).2)).1, (lp (F_X1_sweepDown_L2 np gnew) nr ((lp (F_X1_openSpans_L2 ft) (nr * np) (fl, fg)).1, (lp (F_X1_openSpans_L2 ft) (nr * np) (fl, fg)).2)).2)).2)).2
set_option maxHeartbeats 4000000 in
set_option maxRecDepth 100000 in
theorem c_X7_grade (l : Launch) {D : va_G} {cI cZ cB : ClassId} {au : Nat} {kA kV : Nat → Nat} {z0 : Nat} (sz : Nat) (h0 : Nat) (gA : Nat) (tA : Nat) (rA : Nat) (pA : Nat) (bA : Nat) (lA : Nat) (eA : Nat) (td : Int32) (fi : Int32) (lf : Int32) (nr : Nat) (np : Nat) (g1 : Nat) (g2 : Nat) (g3 : Nat) (g4 : Nat) (g : Int32) (fd : Nat → Int32) (ft : Nat → Int32) (fl : Nat → Int32) (fg : Nat → Int32) (gnew : Int32) (hlen : nr * np < 2 ^ 31) (h20 : nr ≤ 20) (h2p : 2 ≤ np) (h8 : np ≤ 8) : Met l yX7_grade wsX7_grade ({ frames := 5, cells := 0, slots := 0, locals := 107 }) (va_Pc [.ref h0, .int gnew] (PRE D cI cZ cB au kA kV z0 sz [(h0, .inr (7, [.ref gA, .ref tA, .ref rA, .ref pA, .ref bA, .ref lA, .ref eA, .int td, .int fi, .int lf])), (gA, .inr (1, [.int (nI nr), .int (nI np), .ref g1, .ref g2, .ref g3, .ref g4, .int g])), (g1, .inl (cI, nr * np, .inl fd)), (g2, .inl (cI, nr * np, .inl ft)), (g3, .inl (cI, nr * np, .inl fl)), (g4, .inl (cI, nr * np, .inl fg))])) (QI D [(h0, .inr (7, [.ref gA, .ref tA, .ref rA, .ref pA, .ref bA, .ref lA, .ref eA, .int td, .int fi, .int lf])), (gA, .inr (1, [.int (nI nr), .int (nI np), .ref g1, .ref g2, .ref g3, .ref g4, .int g])), (g1, .inl (cI, nr * np, .inl fd)), (g2, .inl (cI, nr * np, .inl ft)), (g3, .inl (cI, nr * np, .inl fl)), (g4, .inl (cI, nr * np, .inl fg))] sz (F_X7_grade gnew) [(h0, .inr (7, [.ref gA, .ref tA, .ref rA, .ref pA, .ref bA, .ref lA, .ref eA, .int td, .int fi, .int lf])), (gA, .inr (1, [.int (nI nr), .int (nI np), .ref g1, .ref g2, .ref g3, .ref g4, .int (F_X7_grade_1_6 g gnew)])), (g1, .inl (cI, nr * np, .inl fd)), (g2, .inl (cI, nr * np, .inl ft)), (g3, .inl (cI, nr * np, .inl (F_X7_grade_4 nr np ft fl fg gnew))), (g4, .inl (cI, nr * np, .inl (F_X7_grade_5 nr np ft fl fg gnew)))]) 0 0 (va_A [(h0, .inr (7, [.ref gA, .ref tA, .ref rA, .ref pA, .ref bA, .ref lA, .ref eA, .int td, .int fi, .int lf])), (gA, .inr (1, [.int (nI nr), .int (nI np), .ref g1, .ref g2, .ref g3, .ref g4, .int g])), (g1, .inl (cI, nr * np, .inl fd)), (g2, .inl (cI, nr * np, .inl ft)), (g3, .inl (cI, nr * np, .inl fl)), (g4, .inl (cI, nr * np, .inl fg))] sz) := by
  refine Met.ofW (cc := cX7_grade) (maxL := 2) (ret := (some .boolean)) (by decide) rfl ?_
  intro p e s m args below meth c s₁ B hml hv
  obtain ⟨rfl, hsz, hz, hP, hD0, hB⟩ := hv
  have hx := B.exec
  have hb := B.bytes
  have hr := B.returns
  have hts := atoms_spec (ws := wsX7_grade) B.pre
  have hown : s.vm.findClass RX7 = some m.cls := findClass_of_methodNamed B.named
  have hlocks := B.notSynchronized
  subst hsz
  have hD := hD0.self (sz := s.heap.size)
  have hA0 := va_A0 hD0 hz
  unfold QI
  generalize hAe : va_A [(h0, .inr (7, [.ref gA, .ref tA, .ref rA, .ref pA, .ref bA, .ref lA, .ref eA, .int td, .int fi, .int lf])), (gA, .inr (1, [.int (nI nr), .int (nI np), .ref g1, .ref g2, .ref g3, .ref g4, .int g])), (g1, .inl (cI, nr * np, .inl fd)), (g2, .inl (cI, nr * np, .inl ft)), (g3, .inl (cI, nr * np, .inl fl)), (g4, .inl (cI, nr * np, .inl fg))] s.heap.size = A at hD hA0 ⊢
  have hA : ∀ q : Nat, s.heap.size ≤ q → A q := fun q h => by rw [← hAe]; exact Or.inr h
  have hS : va_S A s.heap s.heap [] := va_S.rf
  have hiX7 : ∀ w ∈ wsX70, w ∈ wsX7_grade := fun w h => List.mem_cons_of_mem _ (List.mem_append_left _ (List.mem_append_right _ h))
  have hl := lv_entry ([.ref h0, .int gnew]) (n := 2) (Nat.le_of_ble_eq_true rfl)
  rw [lg_entry_eq]
  generalize (lg_sl ([.ref h0, .int gnew]) ++ List.replicate (2 - (lg_sl ([.ref h0, .int gnew])).length) Slot.unset).toArray = ls at hl ⊢
  have hl : lv_has ls 2 [(0, .ref h0), (1, .int gnew)] := hl
  refine lv_iload_n hx hb dX7_grade_0 rfl (lv_at hl 1 rfl) ?_
  refine lv_iconst (v := 0) hx hb dX7_grade_1 (by decide) ?_
  refine lv_sipush (v := 200) hx hb dX7_grade_2 (by decide) ?_
  refine k_i (w2 := [(h0, .inr (7, [.ref gA, .ref tA, .ref rA, .ref pA, .ref bA, .ref lA, .ref eA, .int td, .int fi, .int lf])), (gA, .inr (1, [.int (nI nr), .int (nI np), .ref g1, .ref g2, .ref g3, .ref g4, .int g])), (g1, .inl (cI, nr * np, .inl fd)), (g2, .inl (cI, nr * np, .inl ft)), (g3, .inl (cI, nr * np, .inl fl)), (g4, .inl (cI, nr * np, .inl fg))]) (va_runS (As := [.int gnew, .int 0, .int 200]) (rest := []) ⟨hx, hb, hml, hown, hts⟩ (c_X7_within l _ gnew 0 200) (va_cwS 3 hts gX7_grade_X7_within rfl rfl rfl (by decide +kernel) ⟨Nat.le_of_ble_eq_true rfl, Nat.le_of_ble_eq_true rfl⟩) (pre_S hB hz hA0 hP hD hS [] rfl rfl) rfl rfl hl.1 rfl (lv_room (Nat.le_of_ble_eq_true rfl)) dX7_grade_5 ⟨Nat.zero_le _, Nat.zero_le _⟩) hP hD hS hA [] [0, 1, 2, 3, 4, 5] [0, 1, 2, 3, 4, 5] rfl rfl rfl rfl rfl (fun H locs hP hD hS => ?_)
  refine lv_if_ne (tgt := 20) hx hb dX7_grade_8 (by decide) (fun c_1 => ?_) (fun c_1 => ?_)
  · refine lv_aload_n hx hb dX7_grade_20 rfl (lv_at hl 0 rfl) ?_
    refine va_get (D := D) (ci := 7) (v := .ref gA) (C := RX7) (T := TX7) (N := 10) hx hb hts hiX7 hown hB.1 hP 0 rfl rfl 0 (by decide) (hts _ (List.mem_of_getElem? (i := 1) rfl)) (fun _ h9 => h9) rfl dX7_grade_21 ?_
    refine lv_iload_n hx hb dX7_grade_24 rfl (lv_at hl 1 rfl) ?_
    refine k_v (w2 := [(h0, .inr (7, [.ref gA, .ref tA, .ref rA, .ref pA, .ref bA, .ref lA, .ref eA, .int td, .int fi, .int lf])), (gA, .inr (1, [.int (nI nr), .int (nI np), .ref g1, .ref g2, .ref g3, .ref g4, .int gnew])), (g1, .inl (cI, nr * np, .inl fd)), (g2, .inl (cI, nr * np, .inl ft)), (g3, .inl (cI, nr * np, .inl (lp (F_X1_closeToldSpans_L2 ft) (nr * np) ((lp (F_X1_sweepUp_L7 nr np gnew) nr ((lp (F_X1_sweepDown_L2 np gnew) nr ((lp (F_X1_openSpans_L2 ft) (nr * np) (fl, fg)).1, (lp (F_X1_openSpans_L2 ft) (nr * np) (fl, fg)).2)).1, (lp (F_X1_sweepDown_L2 np gnew) nr ((lp (F_X1_openSpans_L2 ft) (nr * np) (fl, fg)).1, (lp (F_X1_openSpans_L2 ft) (nr * np) (fl, fg)).2)).2)).1, (lp (F_X1_sweepUp_L7 nr np gnew) nr ((lp (F_X1_sweepDown_L2 np gnew) nr ((lp (F_X1_openSpans_L2 ft) (nr * np) (fl, fg)).1, (lp (F_X1_openSpans_L2 ft) (nr * np) (fl, fg)).2)).1, (lp (F_X1_sweepDown_L2 np gnew) nr ((lp (F_X1_openSpans_L2 ft) (nr * np) (fl, fg)).1, (lp (F_X1_openSpans_L2 ft) (nr * np) (fl, fg)).2)).2)).2)).1)), (g4, .inl (cI, nr * np, .inl (lp (F_X1_closeToldSpans_L2 ft) (nr * np) ((lp (F_X1_sweepUp_L7 nr np gnew) nr ((lp (F_X1_sweepDown_L2 np gnew) nr ((lp (F_X1_openSpans_L2 ft) (nr * np) (fl, fg)).1, (lp (F_X1_openSpans_L2 ft) (nr * np) (fl, fg)).2)).1, (lp (F_X1_sweepDown_L2 np gnew) nr ((lp (F_X1_openSpans_L2 ft) (nr * np) (fl, fg)).1, (lp (F_X1_openSpans_L2 ft) (nr * np) (fl, fg)).2)).2)).1, (lp (F_X1_sweepUp_L7 nr np gnew) nr ((lp (F_X1_sweepDown_L2 np gnew) nr ((lp (F_X1_openSpans_L2 ft) (nr * np) (fl, fg)).1, (lp (F_X1_openSpans_L2 ft) (nr * np) (fl, fg)).2)).1, (lp (F_X1_sweepDown_L2 np gnew) nr ((lp (F_X1_openSpans_L2 ft) (nr * np) (fl, fg)).1, (lp (F_X1_openSpans_L2 ft) (nr * np) (fl, fg)).2)).2)).2)).2))]) (va_runV (As := [.int gnew]) (rest := []) ⟨hx, hb, hml, hown, hts⟩ (c_X1_slope l _ gA g1 g2 g3 g4 nr np g fd ft fl fg gnew hlen (by omega) (by omega)) (cwV 1 hts gX7_grade_X1_slope rfl rfl rfl (by decide +kernel) ⟨Nat.le_of_ble_eq_true rfl, Nat.le_of_ble_eq_true rfl⟩) (pre_V (ci := 1) (q0 := 1) hB hz hA0 hP hD hS [1, 2, 3, 4, 5] rfl rfl rfl rfl rfl) rfl rfl hl.1 rfl (lv_room (Nat.le_of_ble_eq_true rfl)) dX7_grade_25 ⟨Nat.zero_le _, Nat.zero_le _⟩) hP hD hS hA [1, 2, 3, 4, 5] [0] [0, 1, 2, 3, 4, 5] rfl rfl rfl rfl rfl (fun H locs hP hD hS => ?_)
    refine lv_iconst (v := 1) hx hb dX7_grade_28 (by decide) ?_
    have er : F_X7_grade gnew = 1 := by rw [F_X7_grade, if_neg c_1]
    have e1_6 : F_X7_grade_1_6 g gnew = gnew := by rw [F_X7_grade_1_6, if_neg c_1]
    have e4 : F_X7_grade_4 nr np ft fl fg gnew = (lp (F_X1_closeToldSpans_L2 ft) (nr * np) ((lp (F_X1_sweepUp_L7 nr np gnew) nr ((lp (F_X1_sweepDown_L2 np gnew) nr ((lp (F_X1_openSpans_L2 ft) (nr * np) (fl, fg)).1, (lp (F_X1_openSpans_L2 ft) (nr * np) (fl, fg)).2)).1, (lp (F_X1_sweepDown_L2 np gnew) nr ((lp (F_X1_openSpans_L2 ft) (nr * np) (fl, fg)).1, (lp (F_X1_openSpans_L2 ft) (nr * np) (fl, fg)).2)).2)).1, (lp (F_X1_sweepUp_L7 nr np gnew) nr ((lp (F_X1_sweepDown_L2 np gnew) nr ((lp (F_X1_openSpans_L2 ft) (nr * np) (fl, fg)).1, (lp (F_X1_openSpans_L2 ft) (nr * np) (fl, fg)).2)).1, (lp (F_X1_sweepDown_L2 np gnew) nr ((lp (F_X1_openSpans_L2 ft) (nr * np) (fl, fg)).1, (lp (F_X1_openSpans_L2 ft) (nr * np) (fl, fg)).2)).2)).2)).1 := by rw [F_X7_grade_4, if_neg c_1]
    have e5 : F_X7_grade_5 nr np ft fl fg gnew = (lp (F_X1_closeToldSpans_L2 ft) (nr * np) ((lp (F_X1_sweepUp_L7 nr np gnew) nr ((lp (F_X1_sweepDown_L2 np gnew) nr ((lp (F_X1_openSpans_L2 ft) (nr * np) (fl, fg)).1, (lp (F_X1_openSpans_L2 ft) (nr * np) (fl, fg)).2)).1, (lp (F_X1_sweepDown_L2 np gnew) nr ((lp (F_X1_openSpans_L2 ft) (nr * np) (fl, fg)).1, (lp (F_X1_openSpans_L2 ft) (nr * np) (fl, fg)).2)).2)).1, (lp (F_X1_sweepUp_L7 nr np gnew) nr ((lp (F_X1_sweepDown_L2 np gnew) nr ((lp (F_X1_openSpans_L2 ft) (nr * np) (fl, fg)).1, (lp (F_X1_openSpans_L2 ft) (nr * np) (fl, fg)).2)).1, (lp (F_X1_sweepDown_L2 np gnew) nr ((lp (F_X1_openSpans_L2 ft) (nr * np) (fl, fg)).1, (lp (F_X1_openSpans_L2 ft) (nr * np) (fl, fg)).2)).2)).2)).2 := by rw [F_X7_grade_5, if_neg c_1]
    exact W.zret hx hb hr rfl (fun t ht hW => ⟨⟨_, (), rfl, er.symm, by rw [ht, e1_6, e4, e5]; exact hP, by rw [e1_6, e4, e5]; exact hD⟩, hS.F ht⟩) hS.2.2 dX7_grade_29
  · refine lv_iload_n hx hb dX7_grade_11 rfl (lv_at hl 1 rfl) ?_
    refine lv_sipush (v := 1000) hx hb dX7_grade_12 (by decide) ?_
    refine lv_icmp_eq (tgt := 20) hx hb dX7_grade_15 (by decide) (fun c_2 => ?_) (fun c_2 => ?_)
    · refine lv_aload_n hx hb dX7_grade_20 rfl (lv_at hl 0 rfl) ?_
      refine va_get (D := D) (ci := 7) (v := .ref gA) (C := RX7) (T := TX7) (N := 10) hx hb hts hiX7 hown hB.1 hP 0 rfl rfl 0 (by decide) (hts _ (List.mem_of_getElem? (i := 1) rfl)) (fun _ h9 => h9) rfl dX7_grade_21 ?_
      refine lv_iload_n hx hb dX7_grade_24 rfl (lv_at hl 1 rfl) ?_
      refine k_v (w2 := [(h0, .inr (7, [.ref gA, .ref tA, .ref rA, .ref pA, .ref bA, .ref lA, .ref eA, .int td, .int fi, .int lf])), (gA, .inr (1, [.int (nI nr), .int (nI np), .ref g1, .ref g2, .ref g3, .ref g4, .int gnew])), (g1, .inl (cI, nr * np, .inl fd)), (g2, .inl (cI, nr * np, .inl ft)), (g3, .inl (cI, nr * np, .inl (lp (F_X1_closeToldSpans_L2 ft) (nr * np) ((lp (F_X1_sweepUp_L7 nr np gnew) nr ((lp (F_X1_sweepDown_L2 np gnew) nr ((lp (F_X1_openSpans_L2 ft) (nr * np) (fl, fg)).1, (lp (F_X1_openSpans_L2 ft) (nr * np) (fl, fg)).2)).1, (lp (F_X1_sweepDown_L2 np gnew) nr ((lp (F_X1_openSpans_L2 ft) (nr * np) (fl, fg)).1, (lp (F_X1_openSpans_L2 ft) (nr * np) (fl, fg)).2)).2)).1, (lp (F_X1_sweepUp_L7 nr np gnew) nr ((lp (F_X1_sweepDown_L2 np gnew) nr ((lp (F_X1_openSpans_L2 ft) (nr * np) (fl, fg)).1, (lp (F_X1_openSpans_L2 ft) (nr * np) (fl, fg)).2)).1, (lp (F_X1_sweepDown_L2 np gnew) nr ((lp (F_X1_openSpans_L2 ft) (nr * np) (fl, fg)).1, (lp (F_X1_openSpans_L2 ft) (nr * np) (fl, fg)).2)).2)).2)).1)), (g4, .inl (cI, nr * np, .inl (lp (F_X1_closeToldSpans_L2 ft) (nr * np) ((lp (F_X1_sweepUp_L7 nr np gnew) nr ((lp (F_X1_sweepDown_L2 np gnew) nr ((lp (F_X1_openSpans_L2 ft) (nr * np) (fl, fg)).1, (lp (F_X1_openSpans_L2 ft) (nr * np) (fl, fg)).2)).1, (lp (F_X1_sweepDown_L2 np gnew) nr ((lp (F_X1_openSpans_L2 ft) (nr * np) (fl, fg)).1, (lp (F_X1_openSpans_L2 ft) (nr * np) (fl, fg)).2)).2)).1, (lp (F_X1_sweepUp_L7 nr np gnew) nr ((lp (F_X1_sweepDown_L2 np gnew) nr ((lp (F_X1_openSpans_L2 ft) (nr * np) (fl, fg)).1, (lp (F_X1_openSpans_L2 ft) (nr * np) (fl, fg)).2)).1, (lp (F_X1_sweepDown_L2 np gnew) nr ((lp (F_X1_openSpans_L2 ft) (nr * np) (fl, fg)).1, (lp (F_X1_openSpans_L2 ft) (nr * np) (fl, fg)).2)).2)).2)).2))]) (va_runV (As := [.int gnew]) (rest := []) ⟨hx, hb, hml, hown, hts⟩ (c_X1_slope l _ gA g1 g2 g3 g4 nr np g fd ft fl fg gnew hlen (by omega) (by omega)) (cwV 1 hts gX7_grade_X1_slope rfl rfl rfl (by decide +kernel) ⟨Nat.le_of_ble_eq_true rfl, Nat.le_of_ble_eq_true rfl⟩) (pre_V (ci := 1) (q0 := 1) hB hz hA0 hP hD hS [1, 2, 3, 4, 5] rfl rfl rfl rfl rfl) rfl rfl hl.1 rfl (lv_room (Nat.le_of_ble_eq_true rfl)) dX7_grade_25 ⟨Nat.zero_le _, Nat.zero_le _⟩) hP hD hS hA [1, 2, 3, 4, 5] [0] [0, 1, 2, 3, 4, 5] rfl rfl rfl rfl rfl (fun H locs hP hD hS => ?_)
      refine lv_iconst (v := 1) hx hb dX7_grade_28 (by decide) ?_
      have er : F_X7_grade gnew = 1 := by rw [F_X7_grade, if_pos c_1, if_pos c_2]
      have e1_6 : F_X7_grade_1_6 g gnew = gnew := by rw [F_X7_grade_1_6, if_pos c_1, if_pos c_2]
      have e4 : F_X7_grade_4 nr np ft fl fg gnew = (lp (F_X1_closeToldSpans_L2 ft) (nr * np) ((lp (F_X1_sweepUp_L7 nr np gnew) nr ((lp (F_X1_sweepDown_L2 np gnew) nr ((lp (F_X1_openSpans_L2 ft) (nr * np) (fl, fg)).1, (lp (F_X1_openSpans_L2 ft) (nr * np) (fl, fg)).2)).1, (lp (F_X1_sweepDown_L2 np gnew) nr ((lp (F_X1_openSpans_L2 ft) (nr * np) (fl, fg)).1, (lp (F_X1_openSpans_L2 ft) (nr * np) (fl, fg)).2)).2)).1, (lp (F_X1_sweepUp_L7 nr np gnew) nr ((lp (F_X1_sweepDown_L2 np gnew) nr ((lp (F_X1_openSpans_L2 ft) (nr * np) (fl, fg)).1, (lp (F_X1_openSpans_L2 ft) (nr * np) (fl, fg)).2)).1, (lp (F_X1_sweepDown_L2 np gnew) nr ((lp (F_X1_openSpans_L2 ft) (nr * np) (fl, fg)).1, (lp (F_X1_openSpans_L2 ft) (nr * np) (fl, fg)).2)).2)).2)).1 := by rw [F_X7_grade_4, if_pos c_1, if_pos c_2]
      have e5 : F_X7_grade_5 nr np ft fl fg gnew = (lp (F_X1_closeToldSpans_L2 ft) (nr * np) ((lp (F_X1_sweepUp_L7 nr np gnew) nr ((lp (F_X1_sweepDown_L2 np gnew) nr ((lp (F_X1_openSpans_L2 ft) (nr * np) (fl, fg)).1, (lp (F_X1_openSpans_L2 ft) (nr * np) (fl, fg)).2)).1, (lp (F_X1_sweepDown_L2 np gnew) nr ((lp (F_X1_openSpans_L2 ft) (nr * np) (fl, fg)).1, (lp (F_X1_openSpans_L2 ft) (nr * np) (fl, fg)).2)).2)).1, (lp (F_X1_sweepUp_L7 nr np gnew) nr ((lp (F_X1_sweepDown_L2 np gnew) nr ((lp (F_X1_openSpans_L2 ft) (nr * np) (fl, fg)).1, (lp (F_X1_openSpans_L2 ft) (nr * np) (fl, fg)).2)).1, (lp (F_X1_sweepDown_L2 np gnew) nr ((lp (F_X1_openSpans_L2 ft) (nr * np) (fl, fg)).1, (lp (F_X1_openSpans_L2 ft) (nr * np) (fl, fg)).2)).2)).2)).2 := by rw [F_X7_grade_5, if_pos c_1, if_pos c_2]
      exact W.zret hx hb hr rfl (fun t ht hW => ⟨⟨_, (), rfl, er.symm, by rw [ht, e1_6, e4, e5]; exact hP, by rw [e1_6, e4, e5]; exact hD⟩, hS.F ht⟩) hS.2.2 dX7_grade_29
    · refine lv_iconst (v := 0) hx hb dX7_grade_18 (by decide) ?_
      have er : F_X7_grade gnew = 0 := by rw [F_X7_grade, if_pos c_1, if_neg c_2]
      have e1_6 : F_X7_grade_1_6 g gnew = g := by rw [F_X7_grade_1_6, if_pos c_1, if_neg c_2]
      have e4 : F_X7_grade_4 nr np ft fl fg gnew = fl := by rw [F_X7_grade_4, if_pos c_1, if_neg c_2]
      have e5 : F_X7_grade_5 nr np ft fl fg gnew = fg := by rw [F_X7_grade_5, if_pos c_1, if_neg c_2]
      exact W.zret hx hb hr rfl (fun t ht hW => ⟨⟨_, (), rfl, er.symm, by rw [ht, e1_6, e4, e5]; exact hP, by rw [e1_6, e4, e5]; exact hD⟩, hS.F ht⟩) hS.2.2 dX7_grade_19

def F_X7_bore (nr : Nat) (np : Nat) (dg : Nat) (fp : Nat → Int32) (row : Int32) (place : Int32) (tin : Int32) : Int32 :=
  if (F_X7_isUndug nr np dg fp row place) = 0 then 0 else
  if (F_X7_within tin 0 1000) = 0 then 0 else
  1
def F_X7_bore_3 (nr : Nat) (np : Nat) (ft : Nat → Int32) (dg : Nat) (fp : Nat → Int32) (row : Int32) (place : Int32) (tin : Int32) : Nat → Int32 :=
  if (F_X7_isUndug nr np dg fp row place) = 0 then ft else
  if (F_X7_within tin 0 1000) = 0 then ft else
  (upd ft ((row.toNatClampNeg * np) + place.toNatClampNeg) tin)
def F_X7_bore_4 (nr : Nat) (np : Nat) (g : Int32) (ft : Nat → Int32) (fl : Nat → Int32) (fg : Nat → Int32) (dg : Nat) (fp : Nat → Int32) (row : Int32) (place : Int32) (tin : Int32) : Nat → Int32 :=
  if (F_X7_isUndug nr np dg fp row place) = 0 then fl else
  if (F_X7_within tin 0 1000) = 0 then fl else
  (lp (F_X1_closeToldSpans_L2 (upd ft ((row.toNatClampNeg * np) + place.toNatClampNeg) tin)) (nr * np) ((lp (F_X1_sweepUp_L7 nr np g) nr ((lp (F_X1_sweepDown_L2 np g) nr ((lp (F_X1_openSpans_L2 (upd ft ((row.toNatClampNeg * np) + place.toNatClampNeg) tin)) (nr * np) (fl, fg)).1, (lp (F_X1_openSpans_L2 (upd ft ((row.toNatClampNeg * np) + place.toNatClampNeg) tin)) (nr * np) (fl, fg)).2)).1, (lp (F_X1_sweepDown_L2 np g) nr ((lp (F_X1_openSpans_L2 (upd ft ((row.toNatClampNeg * np) + place.toNatClampNeg) tin)) (nr * np) (fl, fg)).1, (lp (F_X1_openSpans_L2 (upd ft ((row.toNatClampNeg * np) + place.toNatClampNeg) tin)) (nr * np) (fl, fg)).2)).2)).1, (lp (F_X1_sweepUp_L7 nr np g) nr ((lp (F_X1_sweepDown_L2 np g) nr ((lp (F_X1_openSpans_L2 (upd ft ((row.toNatClampNeg * np) + place.toNatClampNeg) tin)) (nr * np) (fl, fg)).1, (lp (F_X1_openSpans_L2 (upd ft ((row.toNatClampNeg * np) + place.toNatClampNeg) tin)) (nr * np) (fl, fg)).2)).1, (lp (F_X1_sweepDown_L2 np g) nr ((lp (F_X1_openSpans_L2 (upd ft ((row.toNatClampNeg * np) + place.toNatClampNeg) tin)) (nr * np) (fl, fg)).1, (lp (F_X1_openSpans_L2 (upd ft ((row.toNatClampNeg * np) + place.toNatClampNeg) tin)) (nr * np) (fl, fg)).2)).2)).2)).1
def F_X7_bore_5 (nr : Nat) (np : Nat) (g : Int32) (ft : Nat → Int32) (fl : Nat → Int32) (fg : Nat → Int32) (dg : Nat) (fp : Nat → Int32) (row : Int32) (place : Int32) (tin : Int32) : Nat → Int32 :=
  if (F_X7_isUndug nr np dg fp row place) = 0 then fg else
  if (F_X7_within tin 0 1000) = 0 then fg else
  (lp (F_X1_closeToldSpans_L2 (upd ft ((row.toNatClampNeg * np) + place.toNatClampNeg) tin)) (nr * np) ((lp (F_X1_sweepUp_L7 nr np g) nr ((lp (F_X1_sweepDown_L2 np g) nr ((lp (F_X1_openSpans_L2 (upd ft ((row.toNatClampNeg * np) + place.toNatClampNeg) tin)) (nr * np) (fl, fg)).1, (lp (F_X1_openSpans_L2 (upd ft ((row.toNatClampNeg * np) + place.toNatClampNeg) tin)) (nr * np) (fl, fg)).2)).1, (lp (F_X1_sweepDown_L2 np g) nr ((lp (F_X1_openSpans_L2 (upd ft ((row.toNatClampNeg * np) + place.toNatClampNeg) tin)) (nr * np) (fl, fg)).1, (lp (F_X1_openSpans_L2 (upd ft ((row.toNatClampNeg * np) + place.toNatClampNeg) tin)) (nr * np) (fl, fg)).2)).2)).1, (lp (F_X1_sweepUp_L7 nr np g) nr ((lp (F_X1_sweepDown_L2 np g) nr ((lp (F_X1_openSpans_L2 (upd ft ((row.toNatClampNeg * np) + place.toNatClampNeg) tin)) (nr * np) (fl, fg)).1, (lp (F_X1_openSpans_L2 (upd ft ((row.toNatClampNeg * np) + place.toNatClampNeg) tin)) (nr * np) (fl, fg)).2)).1, (lp (F_X1_sweepDown_L2 np g) nr ((lp (F_X1_openSpans_L2 (upd ft ((row.toNatClampNeg * np) + place.toNatClampNeg) tin)) (nr * np) (fl, fg)).1, (lp (F_X1_openSpans_L2 (upd ft ((row.toNatClampNeg * np) + place.toNatClampNeg) tin)) (nr * np) (fl, fg)).2)).2)).2)).2
set_option maxHeartbeats 4000000 in
set_option maxRecDepth 100000 in
theorem c_X7_bore (l : Launch) {D : va_G} {cI cZ cB : ClassId} {au : Nat} {kA kV : Nat → Nat} {z0 : Nat} (sz : Nat) (h0 : Nat) (gA : Nat) (tA : Nat) (rA : Nat) (pA : Nat) (bA : Nat) (lA : Nat) (eA : Nat) (td : Int32) (fi : Int32) (lf : Int32) (nr : Nat) (np : Nat) (g1 : Nat) (g2 : Nat) (g3 : Nat) (g4 : Nat) (g : Int32) (fd : Nat → Int32) (ft : Nat → Int32) (fl : Nat → Int32) (fg : Nat → Int32) (t1 : Nat) (t2 : Nat) (t3 : Nat) (t4 : Nat) (dg : Nat) (lb : Int32) (fp : Nat → Int32) (fy : Nat → Int32) (fb : Nat → Int32) (fn : Nat → Int32) (row : Int32) (place : Int32) (tin : Int32) (hlen : nr * np < 2 ^ 31) (h20 : nr ≤ 20) (h2p : 2 ≤ np) (h8 : np ≤ 8) (hdg : dg ≤ nr) : Met l yX7_bore wsX7_bore ({ frames := 5, cells := 0, slots := 0, locals := 109 }) (va_Pc [.ref h0, .int row, .int place, .int tin] (PRE D cI cZ cB au kA kV z0 sz [(h0, .inr (7, [.ref gA, .ref tA, .ref rA, .ref pA, .ref bA, .ref lA, .ref eA, .int td, .int fi, .int lf])), (gA, .inr (1, [.int (nI nr), .int (nI np), .ref g1, .ref g2, .ref g3, .ref g4, .int g])), (g1, .inl (cI, nr * np, .inl fd)), (g2, .inl (cI, nr * np, .inl ft)), (g3, .inl (cI, nr * np, .inl fl)), (g4, .inl (cI, nr * np, .inl fg)), (tA, .inr (6, [.ref t1, .ref t2, .ref t3, .ref t4, .int (nI dg), .int lb])), (t1, .inl (cI, nr, .inl fp)), (t2, .inl (cI, nr, .inl fy)), (t3, .inl (cZ, nr, .inl fb)), (t4, .inl (cZ, nr, .inl fn))])) (QI D [(h0, .inr (7, [.ref gA, .ref tA, .ref rA, .ref pA, .ref bA, .ref lA, .ref eA, .int td, .int fi, .int lf])), (gA, .inr (1, [.int (nI nr), .int (nI np), .ref g1, .ref g2, .ref g3, .ref g4, .int g])), (g1, .inl (cI, nr * np, .inl fd)), (g2, .inl (cI, nr * np, .inl ft)), (g3, .inl (cI, nr * np, .inl fl)), (g4, .inl (cI, nr * np, .inl fg)), (tA, .inr (6, [.ref t1, .ref t2, .ref t3, .ref t4, .int (nI dg), .int lb])), (t1, .inl (cI, nr, .inl fp)), (t2, .inl (cI, nr, .inl fy)), (t3, .inl (cZ, nr, .inl fb)), (t4, .inl (cZ, nr, .inl fn))] sz (F_X7_bore nr np dg fp row place tin) [(h0, .inr (7, [.ref gA, .ref tA, .ref rA, .ref pA, .ref bA, .ref lA, .ref eA, .int td, .int fi, .int lf])), (gA, .inr (1, [.int (nI nr), .int (nI np), .ref g1, .ref g2, .ref g3, .ref g4, .int g])), (g1, .inl (cI, nr * np, .inl fd)), (g2, .inl (cI, nr * np, .inl (F_X7_bore_3 nr np ft dg fp row place tin))), (g3, .inl (cI, nr * np, .inl (F_X7_bore_4 nr np g ft fl fg dg fp row place tin))), (g4, .inl (cI, nr * np, .inl (F_X7_bore_5 nr np g ft fl fg dg fp row place tin))), (tA, .inr (6, [.ref t1, .ref t2, .ref t3, .ref t4, .int (nI dg), .int lb])), (t1, .inl (cI, nr, .inl fp)), (t2, .inl (cI, nr, .inl fy)), (t3, .inl (cZ, nr, .inl fb)), (t4, .inl (cZ, nr, .inl fn))]) 0 0 (va_A [(h0, .inr (7, [.ref gA, .ref tA, .ref rA, .ref pA, .ref bA, .ref lA, .ref eA, .int td, .int fi, .int lf])), (gA, .inr (1, [.int (nI nr), .int (nI np), .ref g1, .ref g2, .ref g3, .ref g4, .int g])), (g1, .inl (cI, nr * np, .inl fd)), (g2, .inl (cI, nr * np, .inl ft)), (g3, .inl (cI, nr * np, .inl fl)), (g4, .inl (cI, nr * np, .inl fg)), (tA, .inr (6, [.ref t1, .ref t2, .ref t3, .ref t4, .int (nI dg), .int lb])), (t1, .inl (cI, nr, .inl fp)), (t2, .inl (cI, nr, .inl fy)), (t3, .inl (cZ, nr, .inl fb)), (t4, .inl (cZ, nr, .inl fn))] sz) := by
  refine Met.ofW (cc := cX7_bore) (maxL := 4) (ret := (some .boolean)) (by decide) rfl ?_
  intro p e s m args below meth c s₁ B hml hv
  obtain ⟨rfl, hsz, hz, hP, hD0, hB⟩ := hv
  have hx := B.exec
  have hb := B.bytes
  have hr := B.returns
  have hts := atoms_spec (ws := wsX7_bore) B.pre
  have hown : s.vm.findClass RX7 = some m.cls := findClass_of_methodNamed B.named
  have hlocks := B.notSynchronized
  subst hsz
  have hD := hD0.self (sz := s.heap.size)
  have hA0 := va_A0 hD0 hz
  unfold QI
  generalize hAe : va_A [(h0, .inr (7, [.ref gA, .ref tA, .ref rA, .ref pA, .ref bA, .ref lA, .ref eA, .int td, .int fi, .int lf])), (gA, .inr (1, [.int (nI nr), .int (nI np), .ref g1, .ref g2, .ref g3, .ref g4, .int g])), (g1, .inl (cI, nr * np, .inl fd)), (g2, .inl (cI, nr * np, .inl ft)), (g3, .inl (cI, nr * np, .inl fl)), (g4, .inl (cI, nr * np, .inl fg)), (tA, .inr (6, [.ref t1, .ref t2, .ref t3, .ref t4, .int (nI dg), .int lb])), (t1, .inl (cI, nr, .inl fp)), (t2, .inl (cI, nr, .inl fy)), (t3, .inl (cZ, nr, .inl fb)), (t4, .inl (cZ, nr, .inl fn))] s.heap.size = A at hD hA0 ⊢
  have hA : ∀ q : Nat, s.heap.size ≤ q → A q := fun q h => by rw [← hAe]; exact Or.inr h
  have hS : va_S A s.heap s.heap [] := va_S.rf
  have hiX7 : ∀ w ∈ wsX70, w ∈ wsX7_bore := fun w h => List.mem_cons_of_mem _ (List.mem_append_left _ (List.mem_append_left _ (List.mem_append_right _ h)))
  have hl := lv_entry ([.ref h0, .int row, .int place, .int tin]) (n := 4) (Nat.le_of_ble_eq_true rfl)
  rw [lg_entry_eq]
  generalize (lg_sl ([.ref h0, .int row, .int place, .int tin]) ++ List.replicate (4 - (lg_sl ([.ref h0, .int row, .int place, .int tin])).length) Slot.unset).toArray = ls at hl ⊢
  have hl : lv_has ls 4 [(0, .ref h0), (1, .int row), (2, .int place), (3, .int tin)] := hl
  refine lv_aload_n hx hb dX7_bore_0 rfl (lv_at hl 0 rfl) ?_
  refine lv_iload_n hx hb dX7_bore_1 rfl (lv_at hl 1 rfl) ?_
  refine lv_iload_n hx hb dX7_bore_2 rfl (lv_at hl 2 rfl) ?_
  refine k_i (w2 := [(h0, .inr (7, [.ref gA, .ref tA, .ref rA, .ref pA, .ref bA, .ref lA, .ref eA, .int td, .int fi, .int lf])), (gA, .inr (1, [.int (nI nr), .int (nI np), .ref g1, .ref g2, .ref g3, .ref g4, .int g])), (g1, .inl (cI, nr * np, .inl fd)), (g2, .inl (cI, nr * np, .inl ft)), (g3, .inl (cI, nr * np, .inl fl)), (g4, .inl (cI, nr * np, .inl fg)), (tA, .inr (6, [.ref t1, .ref t2, .ref t3, .ref t4, .int (nI dg), .int lb])), (t1, .inl (cI, nr, .inl fp)), (t2, .inl (cI, nr, .inl fy)), (t3, .inl (cZ, nr, .inl fb)), (t4, .inl (cZ, nr, .inl fn))]) (va_runV (As := [.int row, .int place]) (rest := []) ⟨hx, hb, hml, hown, hts⟩ (c_X7_isUndug l _ h0 gA tA rA pA bA lA eA td fi lf nr np g1 g2 g3 g4 g fd ft fl fg t1 t2 t3 t4 dg lb fp fy fb fn row place hlen h20 h2p h8 hdg) (cwV 2 hts gX7_bore_X7_isUndug rfl rfl rfl (by decide +kernel) ⟨Nat.le_of_ble_eq_true rfl, Nat.le_of_ble_eq_true rfl⟩) (pre_V (ci := 7) (q0 := 0) hB hz hA0 hP hD hS [0, 1, 2, 3, 4, 5, 6, 7, 8, 9, 10] rfl rfl rfl rfl rfl) rfl rfl hl.1 rfl (lv_room (Nat.le_of_ble_eq_true rfl)) dX7_bore_3 ⟨Nat.zero_le _, Nat.zero_le _⟩) hP hD hS hA [0, 1, 2, 3, 4, 5, 6, 7, 8, 9, 10] [] [0, 1, 2, 3, 4, 5, 6, 7, 8, 9, 10] rfl rfl rfl rfl rfl (fun H locs hP hD hS => ?_)
  refine lv_if_eq (tgt := 20) hx hb dX7_bore_6 (by decide) (fun c_1 => ?_) (fun c_1 => ?_)
  · refine lv_iconst (v := 0) hx hb dX7_bore_20 (by decide) ?_
    have er : F_X7_bore nr np dg fp row place tin = 0 := by rw [F_X7_bore, if_pos c_1]
    have e3 : F_X7_bore_3 nr np ft dg fp row place tin = ft := by rw [F_X7_bore_3, if_pos c_1]
    have e4 : F_X7_bore_4 nr np g ft fl fg dg fp row place tin = fl := by rw [F_X7_bore_4, if_pos c_1]
    have e5 : F_X7_bore_5 nr np g ft fl fg dg fp row place tin = fg := by rw [F_X7_bore_5, if_pos c_1]
    exact W.zret hx hb hr rfl (fun t ht hW => ⟨⟨_, (), rfl, er.symm, by rw [ht, e3, e4, e5]; exact hP, by rw [e3, e4, e5]; exact hD⟩, hS.F ht⟩) hS.2.2 dX7_bore_21
  · obtain ⟨⟨⟨hr1, hr2⟩, hp1, hp2⟩, -⟩ := undug_ix (by omega) (by omega) c_1
    refine lv_iload_n hx hb dX7_bore_9 rfl (lv_at hl 3 rfl) ?_
    refine lv_iconst (v := 0) hx hb dX7_bore_10 (by decide) ?_
    refine lv_sipush (v := 1000) hx hb dX7_bore_11 (by decide) ?_
    refine k_i (w2 := [(h0, .inr (7, [.ref gA, .ref tA, .ref rA, .ref pA, .ref bA, .ref lA, .ref eA, .int td, .int fi, .int lf])), (gA, .inr (1, [.int (nI nr), .int (nI np), .ref g1, .ref g2, .ref g3, .ref g4, .int g])), (g1, .inl (cI, nr * np, .inl fd)), (g2, .inl (cI, nr * np, .inl ft)), (g3, .inl (cI, nr * np, .inl fl)), (g4, .inl (cI, nr * np, .inl fg)), (tA, .inr (6, [.ref t1, .ref t2, .ref t3, .ref t4, .int (nI dg), .int lb])), (t1, .inl (cI, nr, .inl fp)), (t2, .inl (cI, nr, .inl fy)), (t3, .inl (cZ, nr, .inl fb)), (t4, .inl (cZ, nr, .inl fn))]) (va_runS (As := [.int tin, .int 0, .int 1000]) (rest := []) ⟨hx, hb, hml, hown, hts⟩ (c_X7_within l _ tin 0 1000) (va_cwS 3 hts gX7_bore_X7_within rfl rfl rfl (by decide +kernel) ⟨Nat.le_of_ble_eq_true rfl, Nat.le_of_ble_eq_true rfl⟩) (pre_S hB hz hA0 hP hD hS [] rfl rfl) rfl rfl hl.1 rfl (lv_room (Nat.le_of_ble_eq_true rfl)) dX7_bore_14 ⟨Nat.zero_le _, Nat.zero_le _⟩) hP hD hS hA [] [0, 1, 2, 3, 4, 5, 6, 7, 8, 9, 10] [0, 1, 2, 3, 4, 5, 6, 7, 8, 9, 10] rfl rfl rfl rfl rfl (fun H locs hP hD hS => ?_)
    refine lv_if_ne (tgt := 22) hx hb dX7_bore_17 (by decide) (fun c_2 => ?_) (fun c_2 => ?_)
    · refine lv_aload_n hx hb dX7_bore_22 rfl (lv_at hl 0 rfl) ?_
      refine va_get (D := D) (ci := 7) (v := .ref gA) (C := RX7) (T := TX7) (N := 10) hx hb hts hiX7 hown hB.1 hP 0 rfl rfl 0 (by decide) (hts _ (List.mem_of_getElem? (i := 1) rfl)) (fun _ h9 => h9) rfl dX7_bore_23 ?_
      refine lv_iload_n hx hb dX7_bore_26 rfl (lv_at hl 1 rfl) ?_
      refine lv_iload_n hx hb dX7_bore_27 rfl (lv_at hl 2 rfl) ?_
      refine lv_iload_n hx hb dX7_bore_28 rfl (lv_at hl 3 rfl) ?_
      refine k_v (w2 := [(h0, .inr (7, [.ref gA, .ref tA, .ref rA, .ref pA, .ref bA, .ref lA, .ref eA, .int td, .int fi, .int lf])), (gA, .inr (1, [.int (nI nr), .int (nI np), .ref g1, .ref g2, .ref g3, .ref g4, .int g])), (g1, .inl (cI, nr * np, .inl fd)), (g2, .inl (cI, nr * np, .inl (upd ft ((row.toNatClampNeg * np) + place.toNatClampNeg) tin))), (g3, .inl (cI, nr * np, .inl (lp (F_X1_closeToldSpans_L2 (upd ft ((row.toNatClampNeg * np) + place.toNatClampNeg) tin)) (nr * np) ((lp (F_X1_sweepUp_L7 nr np g) nr ((lp (F_X1_sweepDown_L2 np g) nr ((lp (F_X1_openSpans_L2 (upd ft ((row.toNatClampNeg * np) + place.toNatClampNeg) tin)) (nr * np) (fl, fg)).1, (lp (F_X1_openSpans_L2 (upd ft ((row.toNatClampNeg * np) + place.toNatClampNeg) tin)) (nr * np) (fl, fg)).2)).1, (lp (F_X1_sweepDown_L2 np g) nr ((lp (F_X1_openSpans_L2 (upd ft ((row.toNatClampNeg * np) + place.toNatClampNeg) tin)) (nr * np) (fl, fg)).1, (lp (F_X1_openSpans_L2 (upd ft ((row.toNatClampNeg * np) + place.toNatClampNeg) tin)) (nr * np) (fl, fg)).2)).2)).1, (lp (F_X1_sweepUp_L7 nr np g) nr ((lp (F_X1_sweepDown_L2 np g) nr ((lp (F_X1_openSpans_L2 (upd ft ((row.toNatClampNeg * np) + place.toNatClampNeg) tin)) (nr * np) (fl, fg)).1, (lp (F_X1_openSpans_L2 (upd ft ((row.toNatClampNeg * np) + place.toNatClampNeg) tin)) (nr * np) (fl, fg)).2)).1, (lp (F_X1_sweepDown_L2 np g) nr ((lp (F_X1_openSpans_L2 (upd ft ((row.toNatClampNeg * np) + place.toNatClampNeg) tin)) (nr * np) (fl, fg)).1, (lp (F_X1_openSpans_L2 (upd ft ((row.toNatClampNeg * np) + place.toNatClampNeg) tin)) (nr * np) (fl, fg)).2)).2)).2)).1)), (g4, .inl (cI, nr * np, .inl (lp (F_X1_closeToldSpans_L2 (upd ft ((row.toNatClampNeg * np) + place.toNatClampNeg) tin)) (nr * np) ((lp (F_X1_sweepUp_L7 nr np g) nr ((lp (F_X1_sweepDown_L2 np g) nr ((lp (F_X1_openSpans_L2 (upd ft ((row.toNatClampNeg * np) + place.toNatClampNeg) tin)) (nr * np) (fl, fg)).1, (lp (F_X1_openSpans_L2 (upd ft ((row.toNatClampNeg * np) + place.toNatClampNeg) tin)) (nr * np) (fl, fg)).2)).1, (lp (F_X1_sweepDown_L2 np g) nr ((lp (F_X1_openSpans_L2 (upd ft ((row.toNatClampNeg * np) + place.toNatClampNeg) tin)) (nr * np) (fl, fg)).1, (lp (F_X1_openSpans_L2 (upd ft ((row.toNatClampNeg * np) + place.toNatClampNeg) tin)) (nr * np) (fl, fg)).2)).2)).1, (lp (F_X1_sweepUp_L7 nr np g) nr ((lp (F_X1_sweepDown_L2 np g) nr ((lp (F_X1_openSpans_L2 (upd ft ((row.toNatClampNeg * np) + place.toNatClampNeg) tin)) (nr * np) (fl, fg)).1, (lp (F_X1_openSpans_L2 (upd ft ((row.toNatClampNeg * np) + place.toNatClampNeg) tin)) (nr * np) (fl, fg)).2)).1, (lp (F_X1_sweepDown_L2 np g) nr ((lp (F_X1_openSpans_L2 (upd ft ((row.toNatClampNeg * np) + place.toNatClampNeg) tin)) (nr * np) (fl, fg)).1, (lp (F_X1_openSpans_L2 (upd ft ((row.toNatClampNeg * np) + place.toNatClampNeg) tin)) (nr * np) (fl, fg)).2)).2)).2)).2)), (tA, .inr (6, [.ref t1, .ref t2, .ref t3, .ref t4, .int (nI dg), .int lb])), (t1, .inl (cI, nr, .inl fp)), (t2, .inl (cI, nr, .inl fy)), (t3, .inl (cZ, nr, .inl fb)), (t4, .inl (cZ, nr, .inl fn))]) (va_runV (As := [.int row, .int place, .int tin]) (rest := []) ⟨hx, hb, hml, hown, hts⟩ (c_X1_tell l _ gA g1 g2 g3 g4 nr np g fd ft fl fg row place row.toNatClampNeg place.toNatClampNeg tin hlen (by omega) (by omega) hr1 hp1 hr2 hp2) (cwV 3 hts gX7_bore_X1_tell rfl rfl rfl (by decide +kernel) ⟨Nat.le_of_ble_eq_true rfl, Nat.le_of_ble_eq_true rfl⟩) (pre_V (ci := 1) (q0 := 1) hB hz hA0 hP hD hS [1, 2, 3, 4, 5] rfl rfl rfl rfl rfl) rfl rfl hl.1 rfl (lv_room (Nat.le_of_ble_eq_true rfl)) dX7_bore_29 ⟨Nat.zero_le _, Nat.zero_le _⟩) hP hD hS hA [1, 2, 3, 4, 5] [0, 6, 7, 8, 9, 10] [0, 6, 7, 8, 9, 10, 1, 2, 3, 4, 5] rfl rfl rfl rfl rfl (fun H locs hP hD hS => ?_)
      refine lv_iconst (v := 1) hx hb dX7_bore_32 (by decide) ?_
      have er : F_X7_bore nr np dg fp row place tin = 1 := by rw [F_X7_bore, if_neg c_1, if_neg c_2]
      have e3 : F_X7_bore_3 nr np ft dg fp row place tin = (upd ft ((row.toNatClampNeg * np) + place.toNatClampNeg) tin) := by rw [F_X7_bore_3, if_neg c_1, if_neg c_2]
      have e4 : F_X7_bore_4 nr np g ft fl fg dg fp row place tin = (lp (F_X1_closeToldSpans_L2 (upd ft ((row.toNatClampNeg * np) + place.toNatClampNeg) tin)) (nr * np) ((lp (F_X1_sweepUp_L7 nr np g) nr ((lp (F_X1_sweepDown_L2 np g) nr ((lp (F_X1_openSpans_L2 (upd ft ((row.toNatClampNeg * np) + place.toNatClampNeg) tin)) (nr * np) (fl, fg)).1, (lp (F_X1_openSpans_L2 (upd ft ((row.toNatClampNeg * np) + place.toNatClampNeg) tin)) (nr * np) (fl, fg)).2)).1, (lp (F_X1_sweepDown_L2 np g) nr ((lp (F_X1_openSpans_L2 (upd ft ((row.toNatClampNeg * np) + place.toNatClampNeg) tin)) (nr * np) (fl, fg)).1, (lp (F_X1_openSpans_L2 (upd ft ((row.toNatClampNeg * np) + place.toNatClampNeg) tin)) (nr * np) (fl, fg)).2)).2)).1, (lp (F_X1_sweepUp_L7 nr np g) nr ((lp (F_X1_sweepDown_L2 np g) nr ((lp (F_X1_openSpans_L2 (upd ft ((row.toNatClampNeg * np) + place.toNatClampNeg) tin)) (nr * np) (fl, fg)).1, (lp (F_X1_openSpans_L2 (upd ft ((row.toNatClampNeg * np) + place.toNatClampNeg) tin)) (nr * np) (fl, fg)).2)).1, (lp (F_X1_sweepDown_L2 np g) nr ((lp (F_X1_openSpans_L2 (upd ft ((row.toNatClampNeg * np) + place.toNatClampNeg) tin)) (nr * np) (fl, fg)).1, (lp (F_X1_openSpans_L2 (upd ft ((row.toNatClampNeg * np) + place.toNatClampNeg) tin)) (nr * np) (fl, fg)).2)).2)).2)).1 := by rw [F_X7_bore_4, if_neg c_1, if_neg c_2]
      have e5 : F_X7_bore_5 nr np g ft fl fg dg fp row place tin = (lp (F_X1_closeToldSpans_L2 (upd ft ((row.toNatClampNeg * np) + place.toNatClampNeg) tin)) (nr * np) ((lp (F_X1_sweepUp_L7 nr np g) nr ((lp (F_X1_sweepDown_L2 np g) nr ((lp (F_X1_openSpans_L2 (upd ft ((row.toNatClampNeg * np) + place.toNatClampNeg) tin)) (nr * np) (fl, fg)).1, (lp (F_X1_openSpans_L2 (upd ft ((row.toNatClampNeg * np) + place.toNatClampNeg) tin)) (nr * np) (fl, fg)).2)).1, (lp (F_X1_sweepDown_L2 np g) nr ((lp (F_X1_openSpans_L2 (upd ft ((row.toNatClampNeg * np) + place.toNatClampNeg) tin)) (nr * np) (fl, fg)).1, (lp (F_X1_openSpans_L2 (upd ft ((row.toNatClampNeg * np) + place.toNatClampNeg) tin)) (nr * np) (fl, fg)).2)).2)).1, (lp (F_X1_sweepUp_L7 nr np g) nr ((lp (F_X1_sweepDown_L2 np g) nr ((lp (F_X1_openSpans_L2 (upd ft ((row.toNatClampNeg * np) + place.toNatClampNeg) tin)) (nr * np) (fl, fg)).1, (lp (F_X1_openSpans_L2 (upd ft ((row.toNatClampNeg * np) + place.toNatClampNeg) tin)) (nr * np) (fl, fg)).2)).1, (lp (F_X1_sweepDown_L2 np g) nr ((lp (F_X1_openSpans_L2 (upd ft ((row.toNatClampNeg * np) + place.toNatClampNeg) tin)) (nr * np) (fl, fg)).1, (lp (F_X1_openSpans_L2 (upd ft ((row.toNatClampNeg * np) + place.toNatClampNeg) tin)) (nr * np) (fl, fg)).2)).2)).2)).2 := by rw [F_X7_bore_5, if_neg c_1, if_neg c_2]
      exact W.zret hx hb hr rfl (fun t ht hW => ⟨⟨_, (), rfl, er.symm, by rw [ht, e3, e4, e5]; exact hP, by rw [e3, e4, e5]; exact hD⟩, hS.F ht⟩) hS.2.2 dX7_bore_33
    · refine lv_iconst (v := 0) hx hb dX7_bore_20 (by decide) ?_
      have er : F_X7_bore nr np dg fp row place tin = 0 := by rw [F_X7_bore, if_neg c_1, if_pos c_2]
      have e3 : F_X7_bore_3 nr np ft dg fp row place tin = ft := by rw [F_X7_bore_3, if_neg c_1, if_pos c_2]
      have e4 : F_X7_bore_4 nr np g ft fl fg dg fp row place tin = fl := by rw [F_X7_bore_4, if_neg c_1, if_pos c_2]
      have e5 : F_X7_bore_5 nr np g ft fl fg dg fp row place tin = fg := by rw [F_X7_bore_5, if_neg c_1, if_pos c_2]
      exact W.zret hx hb hr rfl (fun t ht hW => ⟨⟨_, (), rfl, er.symm, by rw [ht, e3, e4, e5]; exact hP, by rw [e3, e4, e5]; exact hD⟩, hS.F ht⟩) hS.2.2 dX7_bore_21

def F_X7_square (nr : Nat) (np : Nat) (fd : Nat → Int32) (ft : Nat → Int32) (fl : Nat → Int32) (fg : Nat → Int32) (dg : Nat) (fp : Nat → Int32) (fb : Nat → Int32) (row : Int32) (place : Int32) (what : Int32) : Int32 :=
  if (F_X1_has nr np row place) = 0 then (-1) else
  if what = 0 then fd ((row.toNatClampNeg * np) + place.toNatClampNeg) else
  if what = 1 then fl ((row.toNatClampNeg * np) + place.toNatClampNeg) else
  if what = 2 then fg ((row.toNatClampNeg * np) + place.toNatClampNeg) else
  if what = 3 then F_X7_oneIf (F_X1_quarrelsAt np fl fg row.toNatClampNeg place.toNatClampNeg) else
  if what = 4 then F_X7_oneIf (F_X6_isDug dg fp row place) else
  if what = 5 then F_X7_oneIf (F_X6_isLaidBack dg fp fb row place) else
  if what = 6 then F_X7_oneIf (F_X1_isTold np ft row.toNatClampNeg place.toNatClampNeg) else
  (-1)
set_option maxHeartbeats 4000000 in
set_option maxRecDepth 100000 in
theorem c_X7_square (l : Launch) {D : va_G} {cI cZ cB : ClassId} {au : Nat} {kA kV : Nat → Nat} {z0 : Nat} (sz : Nat) (h0 : Nat) (gA : Nat) (tA : Nat) (rA : Nat) (pA : Nat) (bA : Nat) (lA : Nat) (eA : Nat) (td : Int32) (fi : Int32) (lf : Int32) (nr : Nat) (np : Nat) (g1 : Nat) (g2 : Nat) (g3 : Nat) (g4 : Nat) (g : Int32) (fd : Nat → Int32) (ft : Nat → Int32) (fl : Nat → Int32) (fg : Nat → Int32) (t1 : Nat) (t2 : Nat) (t3 : Nat) (t4 : Nat) (dg : Nat) (lb : Int32) (fp : Nat → Int32) (fy : Nat → Int32) (fb : Nat → Int32) (fn : Nat → Int32) (row : Int32) (place : Int32) (what : Int32) (hlen : nr * np < 2 ^ 31) (h20 : nr ≤ 20) (h2p : 2 ≤ np) (h8 : np ≤ 8) (hdg : dg ≤ nr) : Met l yX7_square wsX7_square ({ frames := 3, cells := 0, slots := 0, locals := 66 }) (va_Pc [.ref h0, .int row, .int place, .int what] (PRE D cI cZ cB au kA kV z0 sz [(h0, .inr (7, [.ref gA, .ref tA, .ref rA, .ref pA, .ref bA, .ref lA, .ref eA, .int td, .int fi, .int lf])), (gA, .inr (1, [.int (nI nr), .int (nI np), .ref g1, .ref g2, .ref g3, .ref g4, .int g])), (g1, .inl (cI, nr * np, .inl fd)), (g2, .inl (cI, nr * np, .inl ft)), (g3, .inl (cI, nr * np, .inl fl)), (g4, .inl (cI, nr * np, .inl fg)), (tA, .inr (6, [.ref t1, .ref t2, .ref t3, .ref t4, .int (nI dg), .int lb])), (t1, .inl (cI, nr, .inl fp)), (t2, .inl (cI, nr, .inl fy)), (t3, .inl (cZ, nr, .inl fb)), (t4, .inl (cZ, nr, .inl fn))])) (QI D [(h0, .inr (7, [.ref gA, .ref tA, .ref rA, .ref pA, .ref bA, .ref lA, .ref eA, .int td, .int fi, .int lf])), (gA, .inr (1, [.int (nI nr), .int (nI np), .ref g1, .ref g2, .ref g3, .ref g4, .int g])), (g1, .inl (cI, nr * np, .inl fd)), (g2, .inl (cI, nr * np, .inl ft)), (g3, .inl (cI, nr * np, .inl fl)), (g4, .inl (cI, nr * np, .inl fg)), (tA, .inr (6, [.ref t1, .ref t2, .ref t3, .ref t4, .int (nI dg), .int lb])), (t1, .inl (cI, nr, .inl fp)), (t2, .inl (cI, nr, .inl fy)), (t3, .inl (cZ, nr, .inl fb)), (t4, .inl (cZ, nr, .inl fn))] sz (F_X7_square nr np fd ft fl fg dg fp fb row place what) [(h0, .inr (7, [.ref gA, .ref tA, .ref rA, .ref pA, .ref bA, .ref lA, .ref eA, .int td, .int fi, .int lf])), (gA, .inr (1, [.int (nI nr), .int (nI np), .ref g1, .ref g2, .ref g3, .ref g4, .int g])), (g1, .inl (cI, nr * np, .inl fd)), (g2, .inl (cI, nr * np, .inl ft)), (g3, .inl (cI, nr * np, .inl fl)), (g4, .inl (cI, nr * np, .inl fg)), (tA, .inr (6, [.ref t1, .ref t2, .ref t3, .ref t4, .int (nI dg), .int lb])), (t1, .inl (cI, nr, .inl fp)), (t2, .inl (cI, nr, .inl fy)), (t3, .inl (cZ, nr, .inl fb)), (t4, .inl (cZ, nr, .inl fn))]) 0 0 (va_A [(h0, .inr (7, [.ref gA, .ref tA, .ref rA, .ref pA, .ref bA, .ref lA, .ref eA, .int td, .int fi, .int lf])), (gA, .inr (1, [.int (nI nr), .int (nI np), .ref g1, .ref g2, .ref g3, .ref g4, .int g])), (g1, .inl (cI, nr * np, .inl fd)), (g2, .inl (cI, nr * np, .inl ft)), (g3, .inl (cI, nr * np, .inl fl)), (g4, .inl (cI, nr * np, .inl fg)), (tA, .inr (6, [.ref t1, .ref t2, .ref t3, .ref t4, .int (nI dg), .int lb])), (t1, .inl (cI, nr, .inl fp)), (t2, .inl (cI, nr, .inl fy)), (t3, .inl (cZ, nr, .inl fb)), (t4, .inl (cZ, nr, .inl fn))] sz) := by
  refine Met.ofW (cc := cX7_square) (maxL := 4) (ret := (some .int)) (by decide) rfl ?_
  intro p e s m args below meth c s₁ B hml hv
  obtain ⟨rfl, hsz, hz, hP, hD0, hB⟩ := hv
  have hx := B.exec
  have hb := B.bytes
  have hr := B.returns
  have hts := atoms_spec (ws := wsX7_square) B.pre
  have hown : s.vm.findClass RX7 = some m.cls := findClass_of_methodNamed B.named
  have hlocks := B.notSynchronized
  subst hsz
  have hD := hD0.self (sz := s.heap.size)
  have hA0 := va_A0 hD0 hz
  unfold QI
  generalize hAe : va_A [(h0, .inr (7, [.ref gA, .ref tA, .ref rA, .ref pA, .ref bA, .ref lA, .ref eA, .int td, .int fi, .int lf])), (gA, .inr (1, [.int (nI nr), .int (nI np), .ref g1, .ref g2, .ref g3, .ref g4, .int g])), (g1, .inl (cI, nr * np, .inl fd)), (g2, .inl (cI, nr * np, .inl ft)), (g3, .inl (cI, nr * np, .inl fl)), (g4, .inl (cI, nr * np, .inl fg)), (tA, .inr (6, [.ref t1, .ref t2, .ref t3, .ref t4, .int (nI dg), .int lb])), (t1, .inl (cI, nr, .inl fp)), (t2, .inl (cI, nr, .inl fy)), (t3, .inl (cZ, nr, .inl fb)), (t4, .inl (cZ, nr, .inl fn))] s.heap.size = A at hD hA0 ⊢
  have hA : ∀ q : Nat, s.heap.size ≤ q → A q := fun q h => by rw [← hAe]; exact Or.inr h
  have hS : va_S A s.heap s.heap [] := va_S.rf
  have hiX7 : ∀ w ∈ wsX70, w ∈ wsX7_square := fun w h => List.mem_cons_of_mem _ (List.mem_append_left _ (List.mem_append_left _ (List.mem_append_right _ h)))
  have hl := lv_entry ([.ref h0, .int row, .int place, .int what]) (n := 4) (Nat.le_of_ble_eq_true rfl)
  rw [lg_entry_eq]
  generalize (lg_sl ([.ref h0, .int row, .int place, .int what]) ++ List.replicate (4 - (lg_sl ([.ref h0, .int row, .int place, .int what])).length) Slot.unset).toArray = ls at hl ⊢
  have hl : lv_has ls 4 [(0, .ref h0), (1, .int row), (2, .int place), (3, .int what)] := hl
  refine lv_aload_n hx hb dX7_square_0 rfl (lv_at hl 0 rfl) ?_
  refine va_get (D := D) (ci := 7) (v := .ref gA) (C := RX7) (T := TX7) (N := 10) hx hb hts hiX7 hown hB.1 hP 0 rfl rfl 0 (by decide) (hts _ (List.mem_of_getElem? (i := 1) rfl)) (fun _ h9 => h9) rfl dX7_square_1 ?_
  refine lv_iload_n hx hb dX7_square_4 rfl (lv_at hl 1 rfl) ?_
  refine lv_iload_n hx hb dX7_square_5 rfl (lv_at hl 2 rfl) ?_
  refine k_i (w2 := [(h0, .inr (7, [.ref gA, .ref tA, .ref rA, .ref pA, .ref bA, .ref lA, .ref eA, .int td, .int fi, .int lf])), (gA, .inr (1, [.int (nI nr), .int (nI np), .ref g1, .ref g2, .ref g3, .ref g4, .int g])), (g1, .inl (cI, nr * np, .inl fd)), (g2, .inl (cI, nr * np, .inl ft)), (g3, .inl (cI, nr * np, .inl fl)), (g4, .inl (cI, nr * np, .inl fg)), (tA, .inr (6, [.ref t1, .ref t2, .ref t3, .ref t4, .int (nI dg), .int lb])), (t1, .inl (cI, nr, .inl fp)), (t2, .inl (cI, nr, .inl fy)), (t3, .inl (cZ, nr, .inl fb)), (t4, .inl (cZ, nr, .inl fn))]) (va_runV (As := [.int row, .int place]) (rest := []) ⟨hx, hb, hml, hown, hts⟩ (c_X1_has l _ gA g1 g2 g3 g4 nr np g fd ft fl fg row place) (cwV 2 hts gX7_square_X1_has rfl rfl rfl (by decide +kernel) ⟨Nat.le_of_ble_eq_true rfl, Nat.le_of_ble_eq_true rfl⟩) (pre_V (ci := 1) (q0 := 1) hB hz hA0 hP hD hS [1, 2, 3, 4, 5] rfl rfl rfl rfl rfl) rfl rfl hl.1 rfl (lv_room (Nat.le_of_ble_eq_true rfl)) dX7_square_6 ⟨Nat.zero_le _, Nat.zero_le _⟩) hP hD hS hA [1, 2, 3, 4, 5] [0, 6, 7, 8, 9, 10] [0, 6, 7, 8, 9, 10, 1, 2, 3, 4, 5] rfl rfl rfl rfl rfl (fun H locs hP hD hS => ?_)
  refine lv_if_ne (tgt := 14) hx hb dX7_square_9 (by decide) (fun c_1 => ?_) (fun c_1 => ?_)
  · obtain ⟨⟨hr1, hr2⟩, hp1, hp2⟩ := has_ix (by omega) (by omega) c_1
    refine lv_iload_n hx hb dX7_square_14 rfl (lv_at hl 3 rfl) ?_
    by_cases c_2 : what = 0
    · refine lv_tableIn (tgt := 56) hx hb dX7_square_15 (by rw [c_2]; decide) (by rw [c_2]; decide) (by rw [c_2] <;> rfl) (by decide) ?_
      refine lv_aload_n hx hb dX7_square_56 rfl (lv_at hl 0 rfl) ?_
      refine va_get (D := D) (ci := 7) (v := .ref gA) (C := RX7) (T := TX7) (N := 10) hx hb hts hiX7 hown hB.1 hP 0 rfl rfl 0 (by decide) (hts _ (List.mem_of_getElem? (i := 1) rfl)) (fun _ h9 => h9) rfl dX7_square_57 ?_
      refine lv_iload_n hx hb dX7_square_60 rfl (lv_at hl 1 rfl) ?_
      refine lv_iload_n hx hb dX7_square_61 rfl (lv_at hl 2 rfl) ?_
      refine k_i (w2 := [(h0, .inr (7, [.ref gA, .ref tA, .ref rA, .ref pA, .ref bA, .ref lA, .ref eA, .int td, .int fi, .int lf])), (gA, .inr (1, [.int (nI nr), .int (nI np), .ref g1, .ref g2, .ref g3, .ref g4, .int g])), (g1, .inl (cI, nr * np, .inl fd)), (g2, .inl (cI, nr * np, .inl ft)), (g3, .inl (cI, nr * np, .inl fl)), (g4, .inl (cI, nr * np, .inl fg)), (tA, .inr (6, [.ref t1, .ref t2, .ref t3, .ref t4, .int (nI dg), .int lb])), (t1, .inl (cI, nr, .inl fp)), (t2, .inl (cI, nr, .inl fy)), (t3, .inl (cZ, nr, .inl fb)), (t4, .inl (cZ, nr, .inl fn))]) (va_runV (As := [.int row, .int place]) (rest := []) ⟨hx, hb, hml, hown, hts⟩ (c_X1_depthAt l _ gA g1 g2 g3 g4 nr np g fd ft fl fg row place row.toNatClampNeg place.toNatClampNeg hlen hr1 hp1 hr2 hp2) (cwV 2 hts gX7_square_X1_depthAt rfl rfl rfl (by decide +kernel) ⟨Nat.le_of_ble_eq_true rfl, Nat.le_of_ble_eq_true rfl⟩) (pre_V (ci := 1) (q0 := 1) hB hz hA0 hP hD hS [1, 2, 3, 4, 5] rfl rfl rfl rfl rfl) rfl rfl hl.1 rfl (lv_room (Nat.le_of_ble_eq_true rfl)) dX7_square_62 ⟨Nat.zero_le _, Nat.zero_le _⟩) hP hD hS hA [1, 2, 3, 4, 5] [0, 6, 7, 8, 9, 10] [0, 6, 7, 8, 9, 10, 1, 2, 3, 4, 5] rfl rfl rfl rfl rfl (fun H locs hP hD hS => ?_)
      have er : F_X7_square nr np fd ft fl fg dg fp fb row place what = fd ((row.toNatClampNeg * np) + place.toNatClampNeg) := by rw [F_X7_square, if_neg c_1, if_pos c_2]
      exact W.iret hx hb hr (fun t ht hW => ⟨⟨_, (), rfl, er.symm, by rw [ht]; exact hP, hD⟩, hS.F ht⟩) hS.2.2 dX7_square_65
    by_cases c_3 : what = 1
    · refine lv_tableIn (tgt := 66) hx hb dX7_square_15 (by rw [c_3]; decide) (by rw [c_3]; decide) (by rw [c_3] <;> rfl) (by decide) ?_
      refine lv_aload_n hx hb dX7_square_66 rfl (lv_at hl 0 rfl) ?_
      refine va_get (D := D) (ci := 7) (v := .ref gA) (C := RX7) (T := TX7) (N := 10) hx hb hts hiX7 hown hB.1 hP 0 rfl rfl 0 (by decide) (hts _ (List.mem_of_getElem? (i := 1) rfl)) (fun _ h9 => h9) rfl dX7_square_67 ?_
      refine lv_iload_n hx hb dX7_square_70 rfl (lv_at hl 1 rfl) ?_
      refine lv_iload_n hx hb dX7_square_71 rfl (lv_at hl 2 rfl) ?_
      refine k_i (w2 := [(h0, .inr (7, [.ref gA, .ref tA, .ref rA, .ref pA, .ref bA, .ref lA, .ref eA, .int td, .int fi, .int lf])), (gA, .inr (1, [.int (nI nr), .int (nI np), .ref g1, .ref g2, .ref g3, .ref g4, .int g])), (g1, .inl (cI, nr * np, .inl fd)), (g2, .inl (cI, nr * np, .inl ft)), (g3, .inl (cI, nr * np, .inl fl)), (g4, .inl (cI, nr * np, .inl fg)), (tA, .inr (6, [.ref t1, .ref t2, .ref t3, .ref t4, .int (nI dg), .int lb])), (t1, .inl (cI, nr, .inl fp)), (t2, .inl (cI, nr, .inl fy)), (t3, .inl (cZ, nr, .inl fb)), (t4, .inl (cZ, nr, .inl fn))]) (va_runV (As := [.int row, .int place]) (rest := []) ⟨hx, hb, hml, hown, hts⟩ (c_X1_leastAt l _ gA g1 g2 g3 g4 nr np g fd ft fl fg row place row.toNatClampNeg place.toNatClampNeg hlen hr1 hp1 hr2 hp2) (cwV 2 hts gX7_square_X1_leastAt rfl rfl rfl (by decide +kernel) ⟨Nat.le_of_ble_eq_true rfl, Nat.le_of_ble_eq_true rfl⟩) (pre_V (ci := 1) (q0 := 1) hB hz hA0 hP hD hS [1, 2, 3, 4, 5] rfl rfl rfl rfl rfl) rfl rfl hl.1 rfl (lv_room (Nat.le_of_ble_eq_true rfl)) dX7_square_72 ⟨Nat.zero_le _, Nat.zero_le _⟩) hP hD hS hA [1, 2, 3, 4, 5] [0, 6, 7, 8, 9, 10] [0, 6, 7, 8, 9, 10, 1, 2, 3, 4, 5] rfl rfl rfl rfl rfl (fun H locs hP hD hS => ?_)
      have er : F_X7_square nr np fd ft fl fg dg fp fb row place what = fl ((row.toNatClampNeg * np) + place.toNatClampNeg) := by rw [F_X7_square, if_neg c_1, if_neg c_2, if_pos c_3]
      exact W.iret hx hb hr (fun t ht hW => ⟨⟨_, (), rfl, er.symm, by rw [ht]; exact hP, hD⟩, hS.F ht⟩) hS.2.2 dX7_square_75
    by_cases c_4 : what = 2
    · refine lv_tableIn (tgt := 76) hx hb dX7_square_15 (by rw [c_4]; decide) (by rw [c_4]; decide) (by rw [c_4] <;> rfl) (by decide) ?_
      refine lv_aload_n hx hb dX7_square_76 rfl (lv_at hl 0 rfl) ?_
      refine va_get (D := D) (ci := 7) (v := .ref gA) (C := RX7) (T := TX7) (N := 10) hx hb hts hiX7 hown hB.1 hP 0 rfl rfl 0 (by decide) (hts _ (List.mem_of_getElem? (i := 1) rfl)) (fun _ h9 => h9) rfl dX7_square_77 ?_
      refine lv_iload_n hx hb dX7_square_80 rfl (lv_at hl 1 rfl) ?_
      refine lv_iload_n hx hb dX7_square_81 rfl (lv_at hl 2 rfl) ?_
      refine k_i (w2 := [(h0, .inr (7, [.ref gA, .ref tA, .ref rA, .ref pA, .ref bA, .ref lA, .ref eA, .int td, .int fi, .int lf])), (gA, .inr (1, [.int (nI nr), .int (nI np), .ref g1, .ref g2, .ref g3, .ref g4, .int g])), (g1, .inl (cI, nr * np, .inl fd)), (g2, .inl (cI, nr * np, .inl ft)), (g3, .inl (cI, nr * np, .inl fl)), (g4, .inl (cI, nr * np, .inl fg)), (tA, .inr (6, [.ref t1, .ref t2, .ref t3, .ref t4, .int (nI dg), .int lb])), (t1, .inl (cI, nr, .inl fp)), (t2, .inl (cI, nr, .inl fy)), (t3, .inl (cZ, nr, .inl fb)), (t4, .inl (cZ, nr, .inl fn))]) (va_runV (As := [.int row, .int place]) (rest := []) ⟨hx, hb, hml, hown, hts⟩ (c_X1_greatestAt l _ gA g1 g2 g3 g4 nr np g fd ft fl fg row place row.toNatClampNeg place.toNatClampNeg hlen hr1 hp1 hr2 hp2) (cwV 2 hts gX7_square_X1_greatestAt rfl rfl rfl (by decide +kernel) ⟨Nat.le_of_ble_eq_true rfl, Nat.le_of_ble_eq_true rfl⟩) (pre_V (ci := 1) (q0 := 1) hB hz hA0 hP hD hS [1, 2, 3, 4, 5] rfl rfl rfl rfl rfl) rfl rfl hl.1 rfl (lv_room (Nat.le_of_ble_eq_true rfl)) dX7_square_82 ⟨Nat.zero_le _, Nat.zero_le _⟩) hP hD hS hA [1, 2, 3, 4, 5] [0, 6, 7, 8, 9, 10] [0, 6, 7, 8, 9, 10, 1, 2, 3, 4, 5] rfl rfl rfl rfl rfl (fun H locs hP hD hS => ?_)
      have er : F_X7_square nr np fd ft fl fg dg fp fb row place what = fg ((row.toNatClampNeg * np) + place.toNatClampNeg) := by rw [F_X7_square, if_neg c_1, if_neg c_2, if_neg c_3, if_pos c_4]
      exact W.iret hx hb hr (fun t ht hW => ⟨⟨_, (), rfl, er.symm, by rw [ht]; exact hP, hD⟩, hS.F ht⟩) hS.2.2 dX7_square_85
    by_cases c_5 : what = 3
    · refine lv_tableIn (tgt := 86) hx hb dX7_square_15 (by rw [c_5]; decide) (by rw [c_5]; decide) (by rw [c_5] <;> rfl) (by decide) ?_
      refine lv_aload_n hx hb dX7_square_86 rfl (lv_at hl 0 rfl) ?_
      refine va_get (D := D) (ci := 7) (v := .ref gA) (C := RX7) (T := TX7) (N := 10) hx hb hts hiX7 hown hB.1 hP 0 rfl rfl 0 (by decide) (hts _ (List.mem_of_getElem? (i := 1) rfl)) (fun _ h9 => h9) rfl dX7_square_87 ?_
      refine lv_iload_n hx hb dX7_square_90 rfl (lv_at hl 1 rfl) ?_
      refine lv_iload_n hx hb dX7_square_91 rfl (lv_at hl 2 rfl) ?_
      refine k_i (w2 := [(h0, .inr (7, [.ref gA, .ref tA, .ref rA, .ref pA, .ref bA, .ref lA, .ref eA, .int td, .int fi, .int lf])), (gA, .inr (1, [.int (nI nr), .int (nI np), .ref g1, .ref g2, .ref g3, .ref g4, .int g])), (g1, .inl (cI, nr * np, .inl fd)), (g2, .inl (cI, nr * np, .inl ft)), (g3, .inl (cI, nr * np, .inl fl)), (g4, .inl (cI, nr * np, .inl fg)), (tA, .inr (6, [.ref t1, .ref t2, .ref t3, .ref t4, .int (nI dg), .int lb])), (t1, .inl (cI, nr, .inl fp)), (t2, .inl (cI, nr, .inl fy)), (t3, .inl (cZ, nr, .inl fb)), (t4, .inl (cZ, nr, .inl fn))]) (va_runV (As := [.int row, .int place]) (rest := []) ⟨hx, hb, hml, hown, hts⟩ (c_X1_quarrelsAt l _ gA g1 g2 g3 g4 nr np g fd ft fl fg row place row.toNatClampNeg place.toNatClampNeg hlen hr1 hp1 hr2 hp2) (cwV 2 hts gX7_square_X1_quarrelsAt rfl rfl rfl (by decide +kernel) ⟨Nat.le_of_ble_eq_true rfl, Nat.le_of_ble_eq_true rfl⟩) (pre_V (ci := 1) (q0 := 1) hB hz hA0 hP hD hS [1, 2, 3, 4, 5] rfl rfl rfl rfl rfl) rfl rfl hl.1 rfl (lv_room (Nat.le_of_ble_eq_true rfl)) dX7_square_92 ⟨Nat.zero_le _, Nat.zero_le _⟩) hP hD hS hA [1, 2, 3, 4, 5] [0, 6, 7, 8, 9, 10] [0, 6, 7, 8, 9, 10, 1, 2, 3, 4, 5] rfl rfl rfl rfl rfl (fun H locs hP hD hS => ?_)
      refine k_i (w2 := [(h0, .inr (7, [.ref gA, .ref tA, .ref rA, .ref pA, .ref bA, .ref lA, .ref eA, .int td, .int fi, .int lf])), (gA, .inr (1, [.int (nI nr), .int (nI np), .ref g1, .ref g2, .ref g3, .ref g4, .int g])), (g1, .inl (cI, nr * np, .inl fd)), (g2, .inl (cI, nr * np, .inl ft)), (g3, .inl (cI, nr * np, .inl fl)), (g4, .inl (cI, nr * np, .inl fg)), (tA, .inr (6, [.ref t1, .ref t2, .ref t3, .ref t4, .int (nI dg), .int lb])), (t1, .inl (cI, nr, .inl fp)), (t2, .inl (cI, nr, .inl fy)), (t3, .inl (cZ, nr, .inl fb)), (t4, .inl (cZ, nr, .inl fn))]) (va_runS (As := [.int (F_X1_quarrelsAt np fl fg row.toNatClampNeg place.toNatClampNeg)]) (rest := []) ⟨hx, hb, hml, hown, hts⟩ (c_X7_oneIf l _ (F_X1_quarrelsAt np fl fg row.toNatClampNeg place.toNatClampNeg)) (va_cwS 1 hts gX7_square_X7_oneIf rfl rfl rfl (by decide +kernel) ⟨Nat.le_of_ble_eq_true rfl, Nat.le_of_ble_eq_true rfl⟩) (pre_S hB hz hA0 hP hD hS [] rfl rfl) rfl rfl hl.1 rfl (lv_room (Nat.le_of_ble_eq_true rfl)) dX7_square_95 ⟨Nat.zero_le _, Nat.zero_le _⟩) hP hD hS hA [] [0, 1, 2, 3, 4, 5, 6, 7, 8, 9, 10] [0, 1, 2, 3, 4, 5, 6, 7, 8, 9, 10] rfl rfl rfl rfl rfl (fun H locs hP hD hS => ?_)
      have er : F_X7_square nr np fd ft fl fg dg fp fb row place what = F_X7_oneIf (F_X1_quarrelsAt np fl fg row.toNatClampNeg place.toNatClampNeg) := by rw [F_X7_square, if_neg c_1, if_neg c_2, if_neg c_3, if_neg c_4, if_pos c_5]
      exact W.iret hx hb hr (fun t ht hW => ⟨⟨_, (), rfl, er.symm, by rw [ht]; exact hP, hD⟩, hS.F ht⟩) hS.2.2 dX7_square_98
    by_cases c_6 : what = 4
    · refine lv_tableIn (tgt := 99) hx hb dX7_square_15 (by rw [c_6]; decide) (by rw [c_6]; decide) (by rw [c_6] <;> rfl) (by decide) ?_
      refine lv_aload_n hx hb dX7_square_99 rfl (lv_at hl 0 rfl) ?_
      refine va_get (D := D) (ci := 7) (v := .ref tA) (C := RX7) (T := TX7) (N := 10) hx hb hts hiX7 hown hB.1 hP 0 rfl rfl 1 (by decide) (hts _ (List.mem_of_getElem? (i := 2) rfl)) (fun _ h9 => h9) rfl dX7_square_100 ?_
      refine lv_iload_n hx hb dX7_square_103 rfl (lv_at hl 1 rfl) ?_
      refine lv_iload_n hx hb dX7_square_104 rfl (lv_at hl 2 rfl) ?_
      refine k_i (w2 := [(h0, .inr (7, [.ref gA, .ref tA, .ref rA, .ref pA, .ref bA, .ref lA, .ref eA, .int td, .int fi, .int lf])), (gA, .inr (1, [.int (nI nr), .int (nI np), .ref g1, .ref g2, .ref g3, .ref g4, .int g])), (g1, .inl (cI, nr * np, .inl fd)), (g2, .inl (cI, nr * np, .inl ft)), (g3, .inl (cI, nr * np, .inl fl)), (g4, .inl (cI, nr * np, .inl fg)), (tA, .inr (6, [.ref t1, .ref t2, .ref t3, .ref t4, .int (nI dg), .int lb])), (t1, .inl (cI, nr, .inl fp)), (t2, .inl (cI, nr, .inl fy)), (t3, .inl (cZ, nr, .inl fb)), (t4, .inl (cZ, nr, .inl fn))]) (va_runV (As := [.int row, .int place]) (rest := []) ⟨hx, hb, hml, hown, hts⟩ (c_X6_isDug l _ tA t1 t2 t3 t4 nr dg lb fp fy fb fn row place (by omega) hdg) (cwV 2 hts gX7_square_X6_isDug rfl rfl rfl (by decide +kernel) ⟨Nat.le_of_ble_eq_true rfl, Nat.le_of_ble_eq_true rfl⟩) (pre_V (ci := 6) (q0 := 6) hB hz hA0 hP hD hS [6, 7, 8, 9, 10] rfl rfl rfl rfl rfl) rfl rfl hl.1 rfl (lv_room (Nat.le_of_ble_eq_true rfl)) dX7_square_105 ⟨Nat.zero_le _, Nat.zero_le _⟩) hP hD hS hA [6, 7, 8, 9, 10] [0, 1, 2, 3, 4, 5] [0, 1, 2, 3, 4, 5, 6, 7, 8, 9, 10] rfl rfl rfl rfl rfl (fun H locs hP hD hS => ?_)
      refine k_i (w2 := [(h0, .inr (7, [.ref gA, .ref tA, .ref rA, .ref pA, .ref bA, .ref lA, .ref eA, .int td, .int fi, .int lf])), (gA, .inr (1, [.int (nI nr), .int (nI np), .ref g1, .ref g2, .ref g3, .ref g4, .int g])), (g1, .inl (cI, nr * np, .inl fd)), (g2, .inl (cI, nr * np, .inl ft)), (g3, .inl (cI, nr * np, .inl fl)), (g4, .inl (cI, nr * np, .inl fg)), (tA, .inr (6, [.ref t1, .ref t2, .ref t3, .ref t4, .int (nI dg), .int lb])), (t1, .inl (cI, nr, .inl fp)), (t2, .inl (cI, nr, .inl fy)), (t3, .inl (cZ, nr, .inl fb)), (t4, .inl (cZ, nr, .inl fn))]) (va_runS (As := [.int (F_X6_isDug dg fp row place)]) (rest := []) ⟨hx, hb, hml, hown, hts⟩ (c_X7_oneIf l _ (F_X6_isDug dg fp row place)) (va_cwS 1 hts gX7_square_X7_oneIf rfl rfl rfl (by decide +kernel) ⟨Nat.le_of_ble_eq_true rfl, Nat.le_of_ble_eq_true rfl⟩) (pre_S hB hz hA0 hP hD hS [] rfl rfl) rfl rfl hl.1 rfl (lv_room (Nat.le_of_ble_eq_true rfl)) dX7_square_108 ⟨Nat.zero_le _, Nat.zero_le _⟩) hP hD hS hA [] [0, 1, 2, 3, 4, 5, 6, 7, 8, 9, 10] [0, 1, 2, 3, 4, 5, 6, 7, 8, 9, 10] rfl rfl rfl rfl rfl (fun H locs hP hD hS => ?_)
      have er : F_X7_square nr np fd ft fl fg dg fp fb row place what = F_X7_oneIf (F_X6_isDug dg fp row place) := by rw [F_X7_square, if_neg c_1, if_neg c_2, if_neg c_3, if_neg c_4, if_neg c_5, if_pos c_6]
      exact W.iret hx hb hr (fun t ht hW => ⟨⟨_, (), rfl, er.symm, by rw [ht]; exact hP, hD⟩, hS.F ht⟩) hS.2.2 dX7_square_111
    by_cases c_7 : what = 5
    · refine lv_tableIn (tgt := 112) hx hb dX7_square_15 (by rw [c_7]; decide) (by rw [c_7]; decide) (by rw [c_7] <;> rfl) (by decide) ?_
      refine lv_aload_n hx hb dX7_square_112 rfl (lv_at hl 0 rfl) ?_
      refine va_get (D := D) (ci := 7) (v := .ref tA) (C := RX7) (T := TX7) (N := 10) hx hb hts hiX7 hown hB.1 hP 0 rfl rfl 1 (by decide) (hts _ (List.mem_of_getElem? (i := 2) rfl)) (fun _ h9 => h9) rfl dX7_square_113 ?_
      refine lv_iload_n hx hb dX7_square_116 rfl (lv_at hl 1 rfl) ?_
      refine lv_iload_n hx hb dX7_square_117 rfl (lv_at hl 2 rfl) ?_
      refine k_i (w2 := [(h0, .inr (7, [.ref gA, .ref tA, .ref rA, .ref pA, .ref bA, .ref lA, .ref eA, .int td, .int fi, .int lf])), (gA, .inr (1, [.int (nI nr), .int (nI np), .ref g1, .ref g2, .ref g3, .ref g4, .int g])), (g1, .inl (cI, nr * np, .inl fd)), (g2, .inl (cI, nr * np, .inl ft)), (g3, .inl (cI, nr * np, .inl fl)), (g4, .inl (cI, nr * np, .inl fg)), (tA, .inr (6, [.ref t1, .ref t2, .ref t3, .ref t4, .int (nI dg), .int lb])), (t1, .inl (cI, nr, .inl fp)), (t2, .inl (cI, nr, .inl fy)), (t3, .inl (cZ, nr, .inl fb)), (t4, .inl (cZ, nr, .inl fn))]) (va_runV (As := [.int row, .int place]) (rest := []) ⟨hx, hb, hml, hown, hts⟩ (c_X6_isLaidBack l _ tA t1 t2 t3 t4 nr dg lb fp fy fb fn row place (by omega) hdg) (cwV 2 hts gX7_square_X6_isLaidBack rfl rfl rfl (by decide +kernel) ⟨Nat.le_of_ble_eq_true rfl, Nat.le_of_ble_eq_true rfl⟩) (pre_V (ci := 6) (q0 := 6) hB hz hA0 hP hD hS [6, 7, 8, 9, 10] rfl rfl rfl rfl rfl) rfl rfl hl.1 rfl (lv_room (Nat.le_of_ble_eq_true rfl)) dX7_square_118 ⟨Nat.zero_le _, Nat.zero_le _⟩) hP hD hS hA [6, 7, 8, 9, 10] [0, 1, 2, 3, 4, 5] [0, 1, 2, 3, 4, 5, 6, 7, 8, 9, 10] rfl rfl rfl rfl rfl (fun H locs hP hD hS => ?_)
      refine k_i (w2 := [(h0, .inr (7, [.ref gA, .ref tA, .ref rA, .ref pA, .ref bA, .ref lA, .ref eA, .int td, .int fi, .int lf])), (gA, .inr (1, [.int (nI nr), .int (nI np), .ref g1, .ref g2, .ref g3, .ref g4, .int g])), (g1, .inl (cI, nr * np, .inl fd)), (g2, .inl (cI, nr * np, .inl ft)), (g3, .inl (cI, nr * np, .inl fl)), (g4, .inl (cI, nr * np, .inl fg)), (tA, .inr (6, [.ref t1, .ref t2, .ref t3, .ref t4, .int (nI dg), .int lb])), (t1, .inl (cI, nr, .inl fp)), (t2, .inl (cI, nr, .inl fy)), (t3, .inl (cZ, nr, .inl fb)), (t4, .inl (cZ, nr, .inl fn))]) (va_runS (As := [.int (F_X6_isLaidBack dg fp fb row place)]) (rest := []) ⟨hx, hb, hml, hown, hts⟩ (c_X7_oneIf l _ (F_X6_isLaidBack dg fp fb row place)) (va_cwS 1 hts gX7_square_X7_oneIf rfl rfl rfl (by decide +kernel) ⟨Nat.le_of_ble_eq_true rfl, Nat.le_of_ble_eq_true rfl⟩) (pre_S hB hz hA0 hP hD hS [] rfl rfl) rfl rfl hl.1 rfl (lv_room (Nat.le_of_ble_eq_true rfl)) dX7_square_121 ⟨Nat.zero_le _, Nat.zero_le _⟩) hP hD hS hA [] [0, 1, 2, 3, 4, 5, 6, 7, 8, 9, 10] [0, 1, 2, 3, 4, 5, 6, 7, 8, 9, 10] rfl rfl rfl rfl rfl (fun H locs hP hD hS => ?_)
      have er : F_X7_square nr np fd ft fl fg dg fp fb row place what = F_X7_oneIf (F_X6_isLaidBack dg fp fb row place) := by rw [F_X7_square, if_neg c_1, if_neg c_2, if_neg c_3, if_neg c_4, if_neg c_5, if_neg c_6, if_pos c_7]
      exact W.iret hx hb hr (fun t ht hW => ⟨⟨_, (), rfl, er.symm, by rw [ht]; exact hP, hD⟩, hS.F ht⟩) hS.2.2 dX7_square_124
    by_cases c_8 : what = 6
    · refine lv_tableIn (tgt := 125) hx hb dX7_square_15 (by rw [c_8]; decide) (by rw [c_8]; decide) (by rw [c_8] <;> rfl) (by decide) ?_
      refine lv_aload_n hx hb dX7_square_125 rfl (lv_at hl 0 rfl) ?_
      refine va_get (D := D) (ci := 7) (v := .ref gA) (C := RX7) (T := TX7) (N := 10) hx hb hts hiX7 hown hB.1 hP 0 rfl rfl 0 (by decide) (hts _ (List.mem_of_getElem? (i := 1) rfl)) (fun _ h9 => h9) rfl dX7_square_126 ?_
      refine lv_iload_n hx hb dX7_square_129 rfl (lv_at hl 1 rfl) ?_
      refine lv_iload_n hx hb dX7_square_130 rfl (lv_at hl 2 rfl) ?_
      refine k_i (w2 := [(h0, .inr (7, [.ref gA, .ref tA, .ref rA, .ref pA, .ref bA, .ref lA, .ref eA, .int td, .int fi, .int lf])), (gA, .inr (1, [.int (nI nr), .int (nI np), .ref g1, .ref g2, .ref g3, .ref g4, .int g])), (g1, .inl (cI, nr * np, .inl fd)), (g2, .inl (cI, nr * np, .inl ft)), (g3, .inl (cI, nr * np, .inl fl)), (g4, .inl (cI, nr * np, .inl fg)), (tA, .inr (6, [.ref t1, .ref t2, .ref t3, .ref t4, .int (nI dg), .int lb])), (t1, .inl (cI, nr, .inl fp)), (t2, .inl (cI, nr, .inl fy)), (t3, .inl (cZ, nr, .inl fb)), (t4, .inl (cZ, nr, .inl fn))]) (va_runV (As := [.int row, .int place]) (rest := []) ⟨hx, hb, hml, hown, hts⟩ (c_X1_isTold l _ gA g1 g2 g3 g4 nr np g fd ft fl fg row place row.toNatClampNeg place.toNatClampNeg hlen hr1 hp1 hr2 hp2) (cwV 2 hts gX7_square_X1_isTold rfl rfl rfl (by decide +kernel) ⟨Nat.le_of_ble_eq_true rfl, Nat.le_of_ble_eq_true rfl⟩) (pre_V (ci := 1) (q0 := 1) hB hz hA0 hP hD hS [1, 2, 3, 4, 5] rfl rfl rfl rfl rfl) rfl rfl hl.1 rfl (lv_room (Nat.le_of_ble_eq_true rfl)) dX7_square_131 ⟨Nat.zero_le _, Nat.zero_le _⟩) hP hD hS hA [1, 2, 3, 4, 5] [0, 6, 7, 8, 9, 10] [0, 6, 7, 8, 9, 10, 1, 2, 3, 4, 5] rfl rfl rfl rfl rfl (fun H locs hP hD hS => ?_)
      refine k_i (w2 := [(h0, .inr (7, [.ref gA, .ref tA, .ref rA, .ref pA, .ref bA, .ref lA, .ref eA, .int td, .int fi, .int lf])), (gA, .inr (1, [.int (nI nr), .int (nI np), .ref g1, .ref g2, .ref g3, .ref g4, .int g])), (g1, .inl (cI, nr * np, .inl fd)), (g2, .inl (cI, nr * np, .inl ft)), (g3, .inl (cI, nr * np, .inl fl)), (g4, .inl (cI, nr * np, .inl fg)), (tA, .inr (6, [.ref t1, .ref t2, .ref t3, .ref t4, .int (nI dg), .int lb])), (t1, .inl (cI, nr, .inl fp)), (t2, .inl (cI, nr, .inl fy)), (t3, .inl (cZ, nr, .inl fb)), (t4, .inl (cZ, nr, .inl fn))]) (va_runS (As := [.int (F_X1_isTold np ft row.toNatClampNeg place.toNatClampNeg)]) (rest := []) ⟨hx, hb, hml, hown, hts⟩ (c_X7_oneIf l _ (F_X1_isTold np ft row.toNatClampNeg place.toNatClampNeg)) (va_cwS 1 hts gX7_square_X7_oneIf rfl rfl rfl (by decide +kernel) ⟨Nat.le_of_ble_eq_true rfl, Nat.le_of_ble_eq_true rfl⟩) (pre_S hB hz hA0 hP hD hS [] rfl rfl) rfl rfl hl.1 rfl (lv_room (Nat.le_of_ble_eq_true rfl)) dX7_square_134 ⟨Nat.zero_le _, Nat.zero_le _⟩) hP hD hS hA [] [0, 1, 2, 3, 4, 5, 6, 7, 8, 9, 10] [0, 1, 2, 3, 4, 5, 6, 7, 8, 9, 10] rfl rfl rfl rfl rfl (fun H locs hP hD hS => ?_)
      have er : F_X7_square nr np fd ft fl fg dg fp fb row place what = F_X7_oneIf (F_X1_isTold np ft row.toNatClampNeg place.toNatClampNeg) := by rw [F_X7_square, if_neg c_1, if_neg c_2, if_neg c_3, if_neg c_4, if_neg c_5, if_neg c_6, if_neg c_7, if_pos c_8]
      exact W.iret hx hb hr (fun t ht hW => ⟨⟨_, (), rfl, er.symm, by rw [ht]; exact hP, hD⟩, hS.F ht⟩) hS.2.2 dX7_square_137
    refine lv_tableOut (tgt := 138) hx hb dX7_square_15 (by have z0 := lv_neT c_2 (a := 0) (by decide); have z1 := lv_neT c_3 (a := 1) (by decide); have z2 := lv_neT c_4 (a := 2) (by decide); have z3 := lv_neT c_5 (a := 3) (by decide); have z4 := lv_neT c_6 (a := 4) (by decide); have z5 := lv_neT c_7 (a := 5) (by decide); have z6 := lv_neT c_8 (a := 6) (by decide); omega) (by decide) ?_
    refine lv_iconst (v := (-1)) hx hb dX7_square_138 (by decide) ?_
    have er : F_X7_square nr np fd ft fl fg dg fp fb row place what = (-1) := by rw [F_X7_square, if_neg c_1, if_neg c_2, if_neg c_3, if_neg c_4, if_neg c_5, if_neg c_6, if_neg c_7, if_neg c_8]
    exact W.iret hx hb hr (fun t ht hW => ⟨⟨_, (), rfl, er.symm, by rw [ht]; exact hP, hD⟩, hS.F ht⟩) hS.2.2 dX7_square_139
  · refine lv_iconst (v := (-1)) hx hb dX7_square_12 (by decide) ?_
    have er : F_X7_square nr np fd ft fl fg dg fp fb row place what = (-1) := by rw [F_X7_square, if_pos c_1]
    exact W.iret hx hb hr (fun t ht hW => ⟨⟨_, (), rfl, er.symm, by rw [ht]; exact hP, hD⟩, hS.F ht⟩) hS.2.2 dX7_square_13

def F_X7_cost (c2 : Int32) : Int32 :=
  if (F_X7_within c2 0 1000) = 0 then 0 else
  1
def F_X7_cost_1_3 (pr : Int32) (c2 : Int32) : Int32 :=
  if (F_X7_within c2 0 1000) = 0 then pr else
  c2
set_option maxHeartbeats 4000000 in
set_option maxRecDepth 100000 in
theorem c_X7_cost (l : Launch) {D : va_G} {cI cZ cB : ClassId} {au : Nat} {kA kV : Nat → Nat} {z0 : Nat} (sz : Nat) (h0 : Nat) (gA : Nat) (tA : Nat) (rA : Nat) (pA : Nat) (bA : Nat) (lA : Nat) (eA : Nat) (td : Int32) (fi : Int32) (lf : Int32) (nr : Nat) (np : Nat) (r1 : Nat) (pr : Int32) (su : Nat → Int32) (c2 : Int32) (hlen : nr * np < 2 ^ 31) (h20 : nr ≤ 20) (h2p : 2 ≤ np) (h8 : np ≤ 8) : Met l yX7_cost wsX7_cost ({ frames := 1, cells := 0, slots := 0, locals := 22 }) (va_Pc [.ref h0, .int c2] (PRE D cI cZ cB au kA kV z0 sz [(h0, .inr (7, [.ref gA, .ref tA, .ref rA, .ref pA, .ref bA, .ref lA, .ref eA, .int td, .int fi, .int lf])), (rA, .inr (5, [.int (nI nr), .int (nI np), .ref r1, .int pr])), (r1, .inl (cI, nr * np, .inl su))])) (QI D [(h0, .inr (7, [.ref gA, .ref tA, .ref rA, .ref pA, .ref bA, .ref lA, .ref eA, .int td, .int fi, .int lf])), (rA, .inr (5, [.int (nI nr), .int (nI np), .ref r1, .int pr])), (r1, .inl (cI, nr * np, .inl su))] sz (F_X7_cost c2) [(h0, .inr (7, [.ref gA, .ref tA, .ref rA, .ref pA, .ref bA, .ref lA, .ref eA, .int td, .int fi, .int lf])), (rA, .inr (5, [.int (nI nr), .int (nI np), .ref r1, .int (F_X7_cost_1_3 pr c2)])), (r1, .inl (cI, nr * np, .inl su))]) 0 0 (va_A [(h0, .inr (7, [.ref gA, .ref tA, .ref rA, .ref pA, .ref bA, .ref lA, .ref eA, .int td, .int fi, .int lf])), (rA, .inr (5, [.int (nI nr), .int (nI np), .ref r1, .int pr])), (r1, .inl (cI, nr * np, .inl su))] sz) := by
  refine Met.ofW (cc := cX7_cost) (maxL := 2) (ret := (some .boolean)) (by decide) rfl ?_
  intro p e s m args below meth c s₁ B hml hv
  obtain ⟨rfl, hsz, hz, hP, hD0, hB⟩ := hv
  have hx := B.exec
  have hb := B.bytes
  have hr := B.returns
  have hts := atoms_spec (ws := wsX7_cost) B.pre
  have hown : s.vm.findClass RX7 = some m.cls := findClass_of_methodNamed B.named
  have hlocks := B.notSynchronized
  subst hsz
  have hD := hD0.self (sz := s.heap.size)
  have hA0 := va_A0 hD0 hz
  unfold QI
  generalize hAe : va_A [(h0, .inr (7, [.ref gA, .ref tA, .ref rA, .ref pA, .ref bA, .ref lA, .ref eA, .int td, .int fi, .int lf])), (rA, .inr (5, [.int (nI nr), .int (nI np), .ref r1, .int pr])), (r1, .inl (cI, nr * np, .inl su))] s.heap.size = A at hD hA0 ⊢
  have hA : ∀ q : Nat, s.heap.size ≤ q → A q := fun q h => by rw [← hAe]; exact Or.inr h
  have hS : va_S A s.heap s.heap [] := va_S.rf
  have hiX7 : ∀ w ∈ wsX70, w ∈ wsX7_cost := fun w h => List.mem_cons_of_mem _ (List.mem_append_left _ (List.mem_append_right _ h))
  have hl := lv_entry ([.ref h0, .int c2]) (n := 2) (Nat.le_of_ble_eq_true rfl)
  rw [lg_entry_eq]
  generalize (lg_sl ([.ref h0, .int c2]) ++ List.replicate (2 - (lg_sl ([.ref h0, .int c2])).length) Slot.unset).toArray = ls at hl ⊢
  have hl : lv_has ls 2 [(0, .ref h0), (1, .int c2)] := hl
  refine lv_iload_n hx hb dX7_cost_0 rfl (lv_at hl 1 rfl) ?_
  refine lv_iconst (v := 0) hx hb dX7_cost_1 (by decide) ?_
  refine lv_sipush (v := 1000) hx hb dX7_cost_2 (by decide) ?_
  refine k_i (w2 := [(h0, .inr (7, [.ref gA, .ref tA, .ref rA, .ref pA, .ref bA, .ref lA, .ref eA, .int td, .int fi, .int lf])), (rA, .inr (5, [.int (nI nr), .int (nI np), .ref r1, .int pr])), (r1, .inl (cI, nr * np, .inl su))]) (va_runS (As := [.int c2, .int 0, .int 1000]) (rest := []) ⟨hx, hb, hml, hown, hts⟩ (c_X7_within l _ c2 0 1000) (va_cwS 3 hts gX7_cost_X7_within rfl rfl rfl (by decide +kernel) ⟨Nat.le_of_ble_eq_true rfl, Nat.le_of_ble_eq_true rfl⟩) (pre_S hB hz hA0 hP hD hS [] rfl rfl) rfl rfl hl.1 rfl (lv_room (Nat.le_of_ble_eq_true rfl)) dX7_cost_5 ⟨Nat.zero_le _, Nat.zero_le _⟩) hP hD hS hA [] [0, 1, 2] [0, 1, 2] rfl rfl rfl rfl rfl (fun H locs hP hD hS => ?_)
  refine lv_if_ne (tgt := 13) hx hb dX7_cost_8 (by decide) (fun c_1 => ?_) (fun c_1 => ?_)
  · refine lv_aload_n hx hb dX7_cost_13 rfl (lv_at hl 0 rfl) ?_
    refine va_get (D := D) (ci := 7) (v := .ref rA) (C := RX7) (T := TX7) (N := 10) hx hb hts hiX7 hown hB.1 hP 0 rfl rfl 2 (by decide) (hts _ (List.mem_of_getElem? (i := 1) rfl)) (fun _ h9 => h9) rfl dX7_cost_14 ?_
    refine lv_iload_n hx hb dX7_cost_17 rfl (lv_at hl 1 rfl) ?_
    refine k_v (w2 := [(h0, .inr (7, [.ref gA, .ref tA, .ref rA, .ref pA, .ref bA, .ref lA, .ref eA, .int td, .int fi, .int lf])), (rA, .inr (5, [.int (nI nr), .int (nI np), .ref r1, .int c2])), (r1, .inl (cI, nr * np, .inl su))]) (va_runV (As := [.int c2]) (rest := []) ⟨hx, hb, hml, hown, hts⟩ (c_X5_charge l _ rA r1 nr np pr su c2) (cwV 1 hts gX7_cost_X5_charge rfl rfl rfl (by decide +kernel) ⟨Nat.le_of_ble_eq_true rfl, Nat.le_of_ble_eq_true rfl⟩) (pre_V (ci := 5) (q0 := 1) hB hz hA0 hP hD hS [1, 2] rfl rfl rfl rfl rfl) rfl rfl hl.1 rfl (lv_room (Nat.le_of_ble_eq_true rfl)) dX7_cost_18 ⟨Nat.zero_le _, Nat.zero_le _⟩) hP hD hS hA [1, 2] [0] [0, 1, 2] rfl rfl rfl rfl rfl (fun H locs hP hD hS => ?_)
    refine lv_iconst (v := 1) hx hb dX7_cost_21 (by decide) ?_
    have er : F_X7_cost c2 = 1 := by rw [F_X7_cost, if_neg c_1]
    have e1_3 : F_X7_cost_1_3 pr c2 = c2 := by rw [F_X7_cost_1_3, if_neg c_1]
    exact W.zret hx hb hr rfl (fun t ht hW => ⟨⟨_, (), rfl, er.symm, by rw [ht, e1_3]; exact hP, by rw [e1_3]; exact hD⟩, hS.F ht⟩) hS.2.2 dX7_cost_22
  · refine lv_iconst (v := 0) hx hb dX7_cost_11 (by decide) ?_
    have er : F_X7_cost c2 = 0 := by rw [F_X7_cost, if_pos c_1]
    have e1_3 : F_X7_cost_1_3 pr c2 = pr := by rw [F_X7_cost_1_3, if_pos c_1]
    exact W.zret hx hb hr rfl (fun t ht hW => ⟨⟨_, (), rfl, er.symm, by rw [ht, e1_3]; exact hP, by rw [e1_3]; exact hD⟩, hS.F ht⟩) hS.2.2 dX7_cost_12

set_option maxHeartbeats 4000000 in
set_option maxRecDepth 100000 in
theorem c_X7_next (l : Launch) {D : va_G} {cI cZ cB : ClassId} {au : Nat} {kA kV : Nat → Nat} {z0 : Nat} (sz : Nat) (h0 : Nat) (gA : Nat) (tA : Nat) (rA : Nat) (pA : Nat) (bA : Nat) (lA : Nat) (eA : Nat) (td : Int32) (fi : Int32) (lf : Int32) (nr : Nat) (np : Nat) (g1 : Nat) (g2 : Nat) (g3 : Nat) (g4 : Nat) (g : Int32) (fd : Nat → Int32) (ft : Nat → Int32) (fl : Nat → Int32) (fg : Nat → Int32) (t1 : Nat) (t2 : Nat) (t3 : Nat) (t4 : Nat) (dg : Nat) (lb : Int32) (fp : Nat → Int32) (fy : Nat → Int32) (fb : Nat → Int32) (fn : Nat → Int32) (hlen : nr * np < 2 ^ 31) (h20 : nr ≤ 20) (h2p : 2 ≤ np) (h8 : np ≤ 8) (hdg : dg ≤ nr) : Met l yX7_next wsX7_next ({ frames := 2, cells := 0, slots := 0, locals := 48 }) (va_Pc [.ref h0] (PRE D cI cZ cB au kA kV z0 sz [(h0, .inr (7, [.ref gA, .ref tA, .ref rA, .ref pA, .ref bA, .ref lA, .ref eA, .int td, .int fi, .int lf])), (gA, .inr (1, [.int (nI nr), .int (nI np), .ref g1, .ref g2, .ref g3, .ref g4, .int g])), (g1, .inl (cI, nr * np, .inl fd)), (g2, .inl (cI, nr * np, .inl ft)), (g3, .inl (cI, nr * np, .inl fl)), (g4, .inl (cI, nr * np, .inl fg)), (tA, .inr (6, [.ref t1, .ref t2, .ref t3, .ref t4, .int (nI dg), .int lb])), (t1, .inl (cI, nr, .inl fp)), (t2, .inl (cI, nr, .inl fy)), (t3, .inl (cZ, nr, .inl fb)), (t4, .inl (cZ, nr, .inl fn))])) (QI D [(h0, .inr (7, [.ref gA, .ref tA, .ref rA, .ref pA, .ref bA, .ref lA, .ref eA, .int td, .int fi, .int lf])), (gA, .inr (1, [.int (nI nr), .int (nI np), .ref g1, .ref g2, .ref g3, .ref g4, .int g])), (g1, .inl (cI, nr * np, .inl fd)), (g2, .inl (cI, nr * np, .inl ft)), (g3, .inl (cI, nr * np, .inl fl)), (g4, .inl (cI, nr * np, .inl fg)), (tA, .inr (6, [.ref t1, .ref t2, .ref t3, .ref t4, .int (nI dg), .int lb])), (t1, .inl (cI, nr, .inl fp)), (t2, .inl (cI, nr, .inl fy)), (t3, .inl (cZ, nr, .inl fb)), (t4, .inl (cZ, nr, .inl fn))] sz (lp (F_X1_widestFrom_L7 np ft fl fg dg) (nr - dg) ((-1), 0)).1 [(h0, .inr (7, [.ref gA, .ref tA, .ref rA, .ref pA, .ref bA, .ref lA, .ref eA, .int td, .int fi, .int lf])), (gA, .inr (1, [.int (nI nr), .int (nI np), .ref g1, .ref g2, .ref g3, .ref g4, .int g])), (g1, .inl (cI, nr * np, .inl fd)), (g2, .inl (cI, nr * np, .inl ft)), (g3, .inl (cI, nr * np, .inl fl)), (g4, .inl (cI, nr * np, .inl fg)), (tA, .inr (6, [.ref t1, .ref t2, .ref t3, .ref t4, .int (nI dg), .int lb])), (t1, .inl (cI, nr, .inl fp)), (t2, .inl (cI, nr, .inl fy)), (t3, .inl (cZ, nr, .inl fb)), (t4, .inl (cZ, nr, .inl fn))]) 0 0 (va_A [(h0, .inr (7, [.ref gA, .ref tA, .ref rA, .ref pA, .ref bA, .ref lA, .ref eA, .int td, .int fi, .int lf])), (gA, .inr (1, [.int (nI nr), .int (nI np), .ref g1, .ref g2, .ref g3, .ref g4, .int g])), (g1, .inl (cI, nr * np, .inl fd)), (g2, .inl (cI, nr * np, .inl ft)), (g3, .inl (cI, nr * np, .inl fl)), (g4, .inl (cI, nr * np, .inl fg)), (tA, .inr (6, [.ref t1, .ref t2, .ref t3, .ref t4, .int (nI dg), .int lb])), (t1, .inl (cI, nr, .inl fp)), (t2, .inl (cI, nr, .inl fy)), (t3, .inl (cZ, nr, .inl fb)), (t4, .inl (cZ, nr, .inl fn))] sz) := by
  refine Met.ofW (cc := cX7_next) (maxL := 1) (ret := (some .int)) (by decide) rfl ?_
  intro p e s m args below meth c s₁ B hml hv
  obtain ⟨rfl, hsz, hz, hP, hD0, hB⟩ := hv
  have hx := B.exec
  have hb := B.bytes
  have hr := B.returns
  have hts := atoms_spec (ws := wsX7_next) B.pre
  have hown : s.vm.findClass RX7 = some m.cls := findClass_of_methodNamed B.named
  have hlocks := B.notSynchronized
  subst hsz
  have hD := hD0.self (sz := s.heap.size)
  have hA0 := va_A0 hD0 hz
  unfold QI
  generalize hAe : va_A [(h0, .inr (7, [.ref gA, .ref tA, .ref rA, .ref pA, .ref bA, .ref lA, .ref eA, .int td, .int fi, .int lf])), (gA, .inr (1, [.int (nI nr), .int (nI np), .ref g1, .ref g2, .ref g3, .ref g4, .int g])), (g1, .inl (cI, nr * np, .inl fd)), (g2, .inl (cI, nr * np, .inl ft)), (g3, .inl (cI, nr * np, .inl fl)), (g4, .inl (cI, nr * np, .inl fg)), (tA, .inr (6, [.ref t1, .ref t2, .ref t3, .ref t4, .int (nI dg), .int lb])), (t1, .inl (cI, nr, .inl fp)), (t2, .inl (cI, nr, .inl fy)), (t3, .inl (cZ, nr, .inl fb)), (t4, .inl (cZ, nr, .inl fn))] s.heap.size = A at hD hA0 ⊢
  have hA : ∀ q : Nat, s.heap.size ≤ q → A q := fun q h => by rw [← hAe]; exact Or.inr h
  have hS : va_S A s.heap s.heap [] := va_S.rf
  have hiX7 : ∀ w ∈ wsX70, w ∈ wsX7_next := fun w h => List.mem_cons_of_mem _ (List.mem_append_left _ (List.mem_append_left _ (List.mem_append_right _ h)))
  have hl := lv_entry ([.ref h0]) (n := 1) (Nat.le_of_ble_eq_true rfl)
  rw [lg_entry_eq]
  generalize (lg_sl ([.ref h0]) ++ List.replicate (1 - (lg_sl ([.ref h0])).length) Slot.unset).toArray = ls at hl ⊢
  have hl : lv_has ls 1 [(0, .ref h0)] := hl
  refine lv_aload_n hx hb dX7_next_0 rfl (lv_at hl 0 rfl) ?_
  refine va_get (D := D) (ci := 7) (v := .ref gA) (C := RX7) (T := TX7) (N := 10) hx hb hts hiX7 hown hB.1 hP 0 rfl rfl 0 (by decide) (hts _ (List.mem_of_getElem? (i := 1) rfl)) (fun _ h9 => h9) rfl dX7_next_1 ?_
  refine lv_aload_n hx hb dX7_next_4 rfl (lv_at hl 0 rfl) ?_
  refine va_get (D := D) (ci := 7) (v := .ref tA) (C := RX7) (T := TX7) (N := 10) hx hb hts hiX7 hown hB.1 hP 0 rfl rfl 1 (by decide) (hts _ (List.mem_of_getElem? (i := 2) rfl)) (fun _ h9 => h9) rfl dX7_next_5 ?_
  refine k_i (w2 := [(h0, .inr (7, [.ref gA, .ref tA, .ref rA, .ref pA, .ref bA, .ref lA, .ref eA, .int td, .int fi, .int lf])), (gA, .inr (1, [.int (nI nr), .int (nI np), .ref g1, .ref g2, .ref g3, .ref g4, .int g])), (g1, .inl (cI, nr * np, .inl fd)), (g2, .inl (cI, nr * np, .inl ft)), (g3, .inl (cI, nr * np, .inl fl)), (g4, .inl (cI, nr * np, .inl fg)), (tA, .inr (6, [.ref t1, .ref t2, .ref t3, .ref t4, .int (nI dg), .int lb])), (t1, .inl (cI, nr, .inl fp)), (t2, .inl (cI, nr, .inl fy)), (t3, .inl (cZ, nr, .inl fb)), (t4, .inl (cZ, nr, .inl fn))]) (va_runV (As := []) (rest := [.ref gA]) ⟨hx, hb, hml, hown, hts⟩ (c_X6_nextRow l _ tA t1 t2 t3 t4 nr dg lb fp fy fb fn) (cwV 0 hts gX7_next_X6_nextRow rfl rfl rfl (by decide +kernel) ⟨Nat.le_of_ble_eq_true rfl, Nat.le_of_ble_eq_true rfl⟩) (pre_V (ci := 6) (q0 := 6) hB hz hA0 hP hD hS [6, 7, 8, 9, 10] rfl rfl rfl rfl rfl) rfl rfl hl.1 rfl (lv_room (Nat.le_of_ble_eq_true rfl)) dX7_next_8 ⟨Nat.zero_le _, Nat.zero_le _⟩) hP hD hS hA [6, 7, 8, 9, 10] [0, 1, 2, 3, 4, 5] [0, 1, 2, 3, 4, 5, 6, 7, 8, 9, 10] rfl rfl rfl rfl rfl (fun H locs hP hD hS => ?_)
  refine k_i (w2 := [(h0, .inr (7, [.ref gA, .ref tA, .ref rA, .ref pA, .ref bA, .ref lA, .ref eA, .int td, .int fi, .int lf])), (gA, .inr (1, [.int (nI nr), .int (nI np), .ref g1, .ref g2, .ref g3, .ref g4, .int g])), (g1, .inl (cI, nr * np, .inl fd)), (g2, .inl (cI, nr * np, .inl ft)), (g3, .inl (cI, nr * np, .inl fl)), (g4, .inl (cI, nr * np, .inl fg)), (tA, .inr (6, [.ref t1, .ref t2, .ref t3, .ref t4, .int (nI dg), .int lb])), (t1, .inl (cI, nr, .inl fp)), (t2, .inl (cI, nr, .inl fy)), (t3, .inl (cZ, nr, .inl fb)), (t4, .inl (cZ, nr, .inl fn))]) (va_runV (As := [.int (nI dg)]) (rest := []) ⟨hx, hb, hml, hown, hts⟩ (c_X1_widestFrom l _ gA g1 g2 g3 g4 nr np g fd ft fl fg dg hlen (by omega) (by omega) hdg) (cwV 1 hts gX7_next_X1_widestFrom rfl rfl rfl (by decide +kernel) ⟨Nat.le_of_ble_eq_true rfl, Nat.le_of_ble_eq_true rfl⟩) (pre_V (ci := 1) (q0 := 1) hB hz hA0 hP hD hS [1, 2, 3, 4, 5] rfl rfl rfl rfl rfl) rfl rfl hl.1 rfl (lv_room (Nat.le_of_ble_eq_true rfl)) dX7_next_11 ⟨Nat.zero_le _, Nat.zero_le _⟩) hP hD hS hA [1, 2, 3, 4, 5] [0, 6, 7, 8, 9, 10] [0, 6, 7, 8, 9, 10, 1, 2, 3, 4, 5] rfl rfl rfl rfl rfl (fun H locs hP hD hS => ?_)
  exact W.iret hx hb hr (fun t ht hW => ⟨⟨_, (), rfl, rfl, by rw [ht]; exact hP, hD⟩, hS.F ht⟩) hS.2.2 dX7_next_14

def F_X7_jig (speed : Int32) : Int32 :=
  if (F_X7_within speed 0 9) = 0 then 0 else
  1
def F_X7_jig_1_3 (pac : Int32) (speed : Int32) : Int32 :=
  if (F_X7_within speed 0 9) = 0 then pac else
  speed
set_option maxHeartbeats 4000000 in
set_option maxRecDepth 100000 in
theorem c_X7_jig (l : Launch) {D : va_G} {cI cZ cB : ClassId} {au : Nat} {kA kV : Nat → Nat} {z0 : Nat} (sz : Nat) (h0 : Nat) (gA : Nat) (tA : Nat) (rA : Nat) (pA : Nat) (bA : Nat) (lA : Nat) (eA : Nat) (td : Int32) (fi : Int32) (lf : Int32) (b1 : Nat) (wh : Int32) (gn : Int32) (pac : Int32) (mo : Nat → Int32) (speed : Int32)  : Met l yX7_jig wsX7_jig ({ frames := 1, cells := 0, slots := 0, locals := 22 }) (va_Pc [.ref h0, .int speed] (PRE D cI cZ cB au kA kV z0 sz [(h0, .inr (7, [.ref gA, .ref tA, .ref rA, .ref pA, .ref bA, .ref lA, .ref eA, .int td, .int fi, .int lf])), (bA, .inr (0, [.ref b1, .int wh, .int gn, .int pac])), (b1, .inl (cI, 21, .inl mo))])) (QI D [(h0, .inr (7, [.ref gA, .ref tA, .ref rA, .ref pA, .ref bA, .ref lA, .ref eA, .int td, .int fi, .int lf])), (bA, .inr (0, [.ref b1, .int wh, .int gn, .int pac])), (b1, .inl (cI, 21, .inl mo))] sz (F_X7_jig speed) [(h0, .inr (7, [.ref gA, .ref tA, .ref rA, .ref pA, .ref bA, .ref lA, .ref eA, .int td, .int fi, .int lf])), (bA, .inr (0, [.ref b1, .int wh, .int gn, .int (F_X7_jig_1_3 pac speed)])), (b1, .inl (cI, 21, .inl mo))]) 0 0 (va_A [(h0, .inr (7, [.ref gA, .ref tA, .ref rA, .ref pA, .ref bA, .ref lA, .ref eA, .int td, .int fi, .int lf])), (bA, .inr (0, [.ref b1, .int wh, .int gn, .int pac])), (b1, .inl (cI, 21, .inl mo))] sz) := by
  refine Met.ofW (cc := cX7_jig) (maxL := 2) (ret := (some .boolean)) (by decide) rfl ?_
  intro p e s m args below meth c s₁ B hml hv
  obtain ⟨rfl, hsz, hz, hP, hD0, hB⟩ := hv
  have hx := B.exec
  have hb := B.bytes
  have hr := B.returns
  have hts := atoms_spec (ws := wsX7_jig) B.pre
  have hown : s.vm.findClass RX7 = some m.cls := findClass_of_methodNamed B.named
  have hlocks := B.notSynchronized
  subst hsz
  have hD := hD0.self (sz := s.heap.size)
  have hA0 := va_A0 hD0 hz
  unfold QI
  generalize hAe : va_A [(h0, .inr (7, [.ref gA, .ref tA, .ref rA, .ref pA, .ref bA, .ref lA, .ref eA, .int td, .int fi, .int lf])), (bA, .inr (0, [.ref b1, .int wh, .int gn, .int pac])), (b1, .inl (cI, 21, .inl mo))] s.heap.size = A at hD hA0 ⊢
  have hA : ∀ q : Nat, s.heap.size ≤ q → A q := fun q h => by rw [← hAe]; exact Or.inr h
  have hS : va_S A s.heap s.heap [] := va_S.rf
  have hiX7 : ∀ w ∈ wsX70, w ∈ wsX7_jig := fun w h => List.mem_cons_of_mem _ (List.mem_append_left _ (List.mem_append_right _ h))
  have hl := lv_entry ([.ref h0, .int speed]) (n := 2) (Nat.le_of_ble_eq_true rfl)
  rw [lg_entry_eq]
  generalize (lg_sl ([.ref h0, .int speed]) ++ List.replicate (2 - (lg_sl ([.ref h0, .int speed])).length) Slot.unset).toArray = ls at hl ⊢
  have hl : lv_has ls 2 [(0, .ref h0), (1, .int speed)] := hl
  refine lv_iload_n hx hb dX7_jig_0 rfl (lv_at hl 1 rfl) ?_
  refine lv_iconst (v := 0) hx hb dX7_jig_1 (by decide) ?_
  refine lv_bipush (v := 9) hx hb dX7_jig_2 (by decide) ?_
  refine k_i (w2 := [(h0, .inr (7, [.ref gA, .ref tA, .ref rA, .ref pA, .ref bA, .ref lA, .ref eA, .int td, .int fi, .int lf])), (bA, .inr (0, [.ref b1, .int wh, .int gn, .int pac])), (b1, .inl (cI, 21, .inl mo))]) (va_runS (As := [.int speed, .int 0, .int 9]) (rest := []) ⟨hx, hb, hml, hown, hts⟩ (c_X7_within l _ speed 0 9) (va_cwS 3 hts gX7_jig_X7_within rfl rfl rfl (by decide +kernel) ⟨Nat.le_of_ble_eq_true rfl, Nat.le_of_ble_eq_true rfl⟩) (pre_S hB hz hA0 hP hD hS [] rfl rfl) rfl rfl hl.1 rfl (lv_room (Nat.le_of_ble_eq_true rfl)) dX7_jig_4 ⟨Nat.zero_le _, Nat.zero_le _⟩) hP hD hS hA [] [0, 1, 2] [0, 1, 2] rfl rfl rfl rfl rfl (fun H locs hP hD hS => ?_)
  refine lv_if_ne (tgt := 12) hx hb dX7_jig_7 (by decide) (fun c_1 => ?_) (fun c_1 => ?_)
  · refine lv_aload_n hx hb dX7_jig_12 rfl (lv_at hl 0 rfl) ?_
    refine va_get (D := D) (ci := 7) (v := .ref bA) (C := RX7) (T := TX7) (N := 10) hx hb hts hiX7 hown hB.1 hP 0 rfl rfl 4 (by decide) (hts _ (List.mem_of_getElem? (i := 1) rfl)) (fun _ h9 => h9) rfl dX7_jig_13 ?_
    refine lv_iload_n hx hb dX7_jig_16 rfl (lv_at hl 1 rfl) ?_
    refine k_v (w2 := [(h0, .inr (7, [.ref gA, .ref tA, .ref rA, .ref pA, .ref bA, .ref lA, .ref eA, .int td, .int fi, .int lf])), (bA, .inr (0, [.ref b1, .int wh, .int gn, .int speed])), (b1, .inl (cI, 21, .inl mo))]) (va_runV (As := [.int speed]) (rest := []) ⟨hx, hb, hml, hown, hts⟩ (c_X0_run l _ bA b1 wh gn pac mo speed) (cwV 1 hts gX7_jig_X0_run rfl rfl rfl (by decide +kernel) ⟨Nat.le_of_ble_eq_true rfl, Nat.le_of_ble_eq_true rfl⟩) (pre_V (ci := 0) (q0 := 1) hB hz hA0 hP hD hS [1, 2] rfl rfl rfl rfl rfl) rfl rfl hl.1 rfl (lv_room (Nat.le_of_ble_eq_true rfl)) dX7_jig_17 ⟨Nat.zero_le _, Nat.zero_le _⟩) hP hD hS hA [1, 2] [0] [0, 1, 2] rfl rfl rfl rfl rfl (fun H locs hP hD hS => ?_)
    refine lv_iconst (v := 1) hx hb dX7_jig_20 (by decide) ?_
    have er : F_X7_jig speed = 1 := by rw [F_X7_jig, if_neg c_1]
    have e1_3 : F_X7_jig_1_3 pac speed = speed := by rw [F_X7_jig_1_3, if_neg c_1]
    exact W.zret hx hb hr rfl (fun t ht hW => ⟨⟨_, (), rfl, er.symm, by rw [ht, e1_3]; exact hP, by rw [e1_3]; exact hD⟩, hS.F ht⟩) hS.2.2 dX7_jig_21
  · refine lv_iconst (v := 0) hx hb dX7_jig_10 (by decide) ?_
    have er : F_X7_jig speed = 0 := by rw [F_X7_jig, if_pos c_1]
    have e1_3 : F_X7_jig_1_3 pac speed = pac := by rw [F_X7_jig_1_3, if_pos c_1]
    exact W.zret hx hb hr rfl (fun t ht hW => ⟨⟨_, (), rfl, er.symm, by rw [ht, e1_3]; exact hP, by rw [e1_3]; exact hD⟩, hS.F ht⟩) hS.2.2 dX7_jig_11

set_option maxHeartbeats 4000000 in
set_option maxRecDepth 100000 in
theorem c_X7_fault (l : Launch) {D : va_G} {cI cZ cB : ClassId} {au : Nat} {kA kV : Nat → Nat} {z0 : Nat} (sz : Nat) (h0 : Nat) (gA : Nat) (tA : Nat) (rA : Nat) (pA : Nat) (bA : Nat) (lA : Nat) (eA : Nat) (td : Int32) (fi : Int32) (lf : Int32)  : Met l yX7_fault wsX7_fault ({ frames := 0, cells := 0, slots := 0, locals := 0 }) (va_Pc [.ref h0] (PRE D cI cZ cB au kA kV z0 sz [(h0, .inr (7, [.ref gA, .ref tA, .ref rA, .ref pA, .ref bA, .ref lA, .ref eA, .int td, .int fi, .int lf]))])) (QI D [(h0, .inr (7, [.ref gA, .ref tA, .ref rA, .ref pA, .ref bA, .ref lA, .ref eA, .int td, .int fi, .int lf]))] sz lf [(h0, .inr (7, [.ref gA, .ref tA, .ref rA, .ref pA, .ref bA, .ref lA, .ref eA, .int td, .int fi, .int lf]))]) 0 0 (va_A [(h0, .inr (7, [.ref gA, .ref tA, .ref rA, .ref pA, .ref bA, .ref lA, .ref eA, .int td, .int fi, .int lf]))] sz) := by
  refine Met.ofW (cc := cX7_fault) (maxL := 1) (ret := (some .int)) (by decide) rfl ?_
  intro p e s m args below meth c s₁ B hml hv
  obtain ⟨rfl, hsz, hz, hP, hD0, hB⟩ := hv
  have hx := B.exec
  have hb := B.bytes
  have hr := B.returns
  have hts := atoms_spec (ws := wsX7_fault) B.pre
  have hown : s.vm.findClass RX7 = some m.cls := findClass_of_methodNamed B.named
  have hlocks := B.notSynchronized
  subst hsz
  have hD := hD0.self (sz := s.heap.size)
  have hA0 := va_A0 hD0 hz
  unfold QI
  generalize hAe : va_A [(h0, .inr (7, [.ref gA, .ref tA, .ref rA, .ref pA, .ref bA, .ref lA, .ref eA, .int td, .int fi, .int lf]))] s.heap.size = A at hD hA0 ⊢
  have hA : ∀ q : Nat, s.heap.size ≤ q → A q := fun q h => by rw [← hAe]; exact Or.inr h
  have hS : va_S A s.heap s.heap [] := va_S.rf
  have hiX7 : ∀ w ∈ wsX70, w ∈ wsX7_fault := fun w h => List.mem_cons_of_mem _ (List.mem_append_right _ h)
  have hl := lv_entry ([.ref h0]) (n := 1) (Nat.le_of_ble_eq_true rfl)
  rw [lg_entry_eq]
  generalize (lg_sl ([.ref h0]) ++ List.replicate (1 - (lg_sl ([.ref h0])).length) Slot.unset).toArray = ls at hl ⊢
  have hl : lv_has ls 1 [(0, .ref h0)] := hl
  refine lv_aload_n hx hb dX7_fault_0 rfl (lv_at hl 0 rfl) ?_
  refine va_get (D := D) (ci := 7) (v := .int lf) (C := RX7) (T := TX7) (N := 10) hx hb hts hiX7 hown hB.1 hP 0 rfl rfl 9 (by decide) (hts _ (List.mem_of_getElem? (i := 1) rfl)) (fun _ h9 => h9) rfl dX7_fault_1 ?_
  exact W.iret hx hb hr (fun t ht hW => ⟨⟨_, (), rfl, rfl, by rw [ht]; exact hP, hD⟩, hS.F ht⟩) hS.2.2 dX7_fault_4

def F_X7_tells (tk : Nat) (fm : Nat → Int32) (fs : Nat → Int32) (day : Int32) (what : Int32) : Int32 :=
  if (F_X7_within day 0 600) = 0 then (-1) else
  if what = 7 then lawAt fs day tk else
  F_X2_term tk fm fs day what
set_option maxHeartbeats 4000000 in
set_option maxRecDepth 100000 in
theorem c_X7_tells (l : Launch) {D : va_G} {cI cZ cB : ClassId} {au : Nat} {kA kV : Nat → Nat} {z0 : Nat} (sz : Nat) (h0 : Nat) (gA : Nat) (tA : Nat) (rA : Nat) (pA : Nat) (bA : Nat) (lA : Nat) (eA : Nat) (td : Int32) (fi : Int32) (lf : Int32) (l1 : Nat) (l2 : Nat) (tk : Nat) (fm : Nat → Int32) (fs : Nat → Int32) (day : Int32) (what : Int32) (htk : tk ≤ 10) : Met l yX7_tells wsX7_tells ({ frames := 3, cells := 0, slots := 0, locals := 65 }) (va_Pc [.ref h0, .int day, .int what] (PRE D cI cZ cB au kA kV z0 sz [(h0, .inr (7, [.ref gA, .ref tA, .ref rA, .ref pA, .ref bA, .ref lA, .ref eA, .int td, .int fi, .int lf])), (lA, .inr (2, [.ref l1, .ref l2, .int (nI tk)])), (l1, .inl (cI, 70, .inl fm)), (l2, .inl (cI, 10, .inl fs))])) (QI D [(h0, .inr (7, [.ref gA, .ref tA, .ref rA, .ref pA, .ref bA, .ref lA, .ref eA, .int td, .int fi, .int lf])), (lA, .inr (2, [.ref l1, .ref l2, .int (nI tk)])), (l1, .inl (cI, 70, .inl fm)), (l2, .inl (cI, 10, .inl fs))] sz (F_X7_tells tk fm fs day what) [(h0, .inr (7, [.ref gA, .ref tA, .ref rA, .ref pA, .ref bA, .ref lA, .ref eA, .int td, .int fi, .int lf])), (lA, .inr (2, [.ref l1, .ref l2, .int (nI tk)])), (l1, .inl (cI, 70, .inl fm)), (l2, .inl (cI, 10, .inl fs))]) 0 0 (va_A [(h0, .inr (7, [.ref gA, .ref tA, .ref rA, .ref pA, .ref bA, .ref lA, .ref eA, .int td, .int fi, .int lf])), (lA, .inr (2, [.ref l1, .ref l2, .int (nI tk)])), (l1, .inl (cI, 70, .inl fm)), (l2, .inl (cI, 10, .inl fs))] sz) := by
  refine Met.ofW (cc := cX7_tells) (maxL := 3) (ret := (some .int)) (by decide) rfl ?_
  intro p e s m args below meth c s₁ B hml hv
  obtain ⟨rfl, hsz, hz, hP, hD0, hB⟩ := hv
  have hx := B.exec
  have hb := B.bytes
  have hr := B.returns
  have hts := atoms_spec (ws := wsX7_tells) B.pre
  have hown : s.vm.findClass RX7 = some m.cls := findClass_of_methodNamed B.named
  have hlocks := B.notSynchronized
  subst hsz
  have hD := hD0.self (sz := s.heap.size)
  have hA0 := va_A0 hD0 hz
  unfold QI
  generalize hAe : va_A [(h0, .inr (7, [.ref gA, .ref tA, .ref rA, .ref pA, .ref bA, .ref lA, .ref eA, .int td, .int fi, .int lf])), (lA, .inr (2, [.ref l1, .ref l2, .int (nI tk)])), (l1, .inl (cI, 70, .inl fm)), (l2, .inl (cI, 10, .inl fs))] s.heap.size = A at hD hA0 ⊢
  have hA : ∀ q : Nat, s.heap.size ≤ q → A q := fun q h => by rw [← hAe]; exact Or.inr h
  have hS : va_S A s.heap s.heap [] := va_S.rf
  have hiX7 : ∀ w ∈ wsX70, w ∈ wsX7_tells := fun w h => List.mem_cons_of_mem _ (List.mem_append_left _ (List.mem_append_right _ h))
  have hl := lv_entry ([.ref h0, .int day, .int what]) (n := 3) (Nat.le_of_ble_eq_true rfl)
  rw [lg_entry_eq]
  generalize (lg_sl ([.ref h0, .int day, .int what]) ++ List.replicate (3 - (lg_sl ([.ref h0, .int day, .int what])).length) Slot.unset).toArray = ls at hl ⊢
  have hl : lv_has ls 3 [(0, .ref h0), (1, .int day), (2, .int what)] := hl
  refine lv_iload_n hx hb dX7_tells_0 rfl (lv_at hl 1 rfl) ?_
  refine lv_iconst (v := 0) hx hb dX7_tells_1 (by decide) ?_
  refine lv_sipush (v := 600) hx hb dX7_tells_2 (by decide) ?_
  refine k_i (w2 := [(h0, .inr (7, [.ref gA, .ref tA, .ref rA, .ref pA, .ref bA, .ref lA, .ref eA, .int td, .int fi, .int lf])), (lA, .inr (2, [.ref l1, .ref l2, .int (nI tk)])), (l1, .inl (cI, 70, .inl fm)), (l2, .inl (cI, 10, .inl fs))]) (va_runS (As := [.int day, .int 0, .int 600]) (rest := []) ⟨hx, hb, hml, hown, hts⟩ (c_X7_within l _ day 0 600) (va_cwS 3 hts gX7_tells_X7_within rfl rfl rfl (by decide +kernel) ⟨Nat.le_of_ble_eq_true rfl, Nat.le_of_ble_eq_true rfl⟩) (pre_S hB hz hA0 hP hD hS [] rfl rfl) rfl rfl hl.1 rfl (lv_room (Nat.le_of_ble_eq_true rfl)) dX7_tells_5 ⟨Nat.zero_le _, Nat.zero_le _⟩) hP hD hS hA [] [0, 1, 2, 3] [0, 1, 2, 3] rfl rfl rfl rfl rfl (fun H locs hP hD hS => ?_)
  refine lv_if_ne (tgt := 13) hx hb dX7_tells_8 (by decide) (fun c_1 => ?_) (fun c_1 => ?_)
  · refine lv_iload_n hx hb dX7_tells_13 rfl (lv_at hl 2 rfl) ?_
    refine lv_bipush (v := 7) hx hb dX7_tells_14 (by decide) ?_
    refine lv_icmp_ne (tgt := 30) hx hb dX7_tells_16 (by decide) (fun c_2 => ?_) (fun c_2 => ?_)
    · refine lv_aload_n hx hb dX7_tells_30 rfl (lv_at hl 0 rfl) ?_
      refine va_get (D := D) (ci := 7) (v := .ref lA) (C := RX7) (T := TX7) (N := 10) hx hb hts hiX7 hown hB.1 hP 0 rfl rfl 5 (by decide) (hts _ (List.mem_of_getElem? (i := 1) rfl)) (fun _ h9 => h9) rfl dX7_tells_31 ?_
      refine lv_iload_n hx hb dX7_tells_34 rfl (lv_at hl 1 rfl) ?_
      refine lv_iload_n hx hb dX7_tells_35 rfl (lv_at hl 2 rfl) ?_
      refine k_i (w2 := [(h0, .inr (7, [.ref gA, .ref tA, .ref rA, .ref pA, .ref bA, .ref lA, .ref eA, .int td, .int fi, .int lf])), (lA, .inr (2, [.ref l1, .ref l2, .int (nI tk)])), (l1, .inl (cI, 70, .inl fm)), (l2, .inl (cI, 10, .inl fs))]) (va_runV (As := [.int day, .int what]) (rest := []) ⟨hx, hb, hml, hown, hts⟩ (c_X2_term l _ lA l1 l2 tk fm fs day what htk) (cwV 2 hts gX7_tells_X2_term rfl rfl rfl (by decide +kernel) ⟨Nat.le_of_ble_eq_true rfl, Nat.le_of_ble_eq_true rfl⟩) (pre_V (ci := 2) (q0 := 1) hB hz hA0 hP hD hS [1, 2, 3] rfl rfl rfl rfl rfl) rfl rfl hl.1 rfl (lv_room (Nat.le_of_ble_eq_true rfl)) dX7_tells_36 ⟨Nat.zero_le _, Nat.zero_le _⟩) hP hD hS hA [1, 2, 3] [0] [0, 1, 2, 3] rfl rfl rfl rfl rfl (fun H locs hP hD hS => ?_)
      have er : F_X7_tells tk fm fs day what = F_X2_term tk fm fs day what := by rw [F_X7_tells, if_neg c_1, if_neg c_2]
      exact W.iret hx hb hr (fun t ht hW => ⟨⟨_, (), rfl, er.symm, by rw [ht]; exact hP, hD⟩, hS.F ht⟩) hS.2.2 dX7_tells_39
    · refine lv_aload_n hx hb dX7_tells_19 rfl (lv_at hl 0 rfl) ?_
      refine va_get (D := D) (ci := 7) (v := .ref lA) (C := RX7) (T := TX7) (N := 10) hx hb hts hiX7 hown hB.1 hP 0 rfl rfl 5 (by decide) (hts _ (List.mem_of_getElem? (i := 1) rfl)) (fun _ h9 => h9) rfl dX7_tells_20 ?_
      refine lv_iload_n hx hb dX7_tells_23 rfl (lv_at hl 1 rfl) ?_
      refine k_i (w2 := [(h0, .inr (7, [.ref gA, .ref tA, .ref rA, .ref pA, .ref bA, .ref lA, .ref eA, .int td, .int fi, .int lf])), (lA, .inr (2, [.ref l1, .ref l2, .int (nI tk)])), (l1, .inl (cI, 70, .inl fm)), (l2, .inl (cI, 10, .inl fs))]) (va_runV (As := [.int day]) (rest := []) ⟨hx, hb, hml, hown, hts⟩ (c_X2_inForce l _ lA l1 l2 tk fm fs day htk) (cwV 1 hts gX7_tells_X2_inForce rfl rfl rfl (by decide +kernel) ⟨Nat.le_of_ble_eq_true rfl, Nat.le_of_ble_eq_true rfl⟩) (pre_V (ci := 2) (q0 := 1) hB hz hA0 hP hD hS [1, 2, 3] rfl rfl rfl rfl rfl) rfl rfl hl.1 rfl (lv_room (Nat.le_of_ble_eq_true rfl)) dX7_tells_24 ⟨Nat.zero_le _, Nat.zero_le _⟩) hP hD hS hA [1, 2, 3] [0] [0, 1, 2, 3] rfl rfl rfl rfl rfl (fun H locs hP hD hS => ?_)
      refine lv_goto (tgt := 39) hx hb dX7_tells_27 (by decide) ?_
      have er : F_X7_tells tk fm fs day what = lawAt fs day tk := by rw [F_X7_tells, if_neg c_1, if_pos c_2]
      exact W.iret hx hb hr (fun t ht hW => ⟨⟨_, (), rfl, er.symm, by rw [ht]; exact hP, hD⟩, hS.F ht⟩) hS.2.2 dX7_tells_39
  · refine lv_iconst (v := (-1)) hx hb dX7_tells_11 (by decide) ?_
    have er : F_X7_tells tk fm fs day what = (-1) := by rw [F_X7_tells, if_pos c_1]
    exact W.iret hx hb hr (fun t ht hW => ⟨⟨_, (), rfl, er.symm, by rw [ht]; exact hP, hD⟩, hS.F ht⟩) hS.2.2 dX7_tells_12

def F_X7_let (td : Int32) (hgt : Int32) (drt : Int32) (tk : Nat) (fm : Nat → Int32) (fs : Nat → Int32) (much : Int32) : Int32 :=
  if (F_X7_within much 1 hgt) = 0 then (-1) else
  if (F_X7_isMuddy td drt tk fm fs) = 0 then (hgt - much) else
  (hgt - much)
def F_X7_let_0_8 (td : Int32) (fi : Int32) (hgt : Int32) (drt : Int32) (tk : Nat) (fm : Nat → Int32) (fs : Nat → Int32) (much : Int32) : Int32 :=
  if (F_X7_within much 1 hgt) = 0 then fi else
  if (F_X7_isMuddy td drt tk fm fs) = 0 then fi else
  fi + (F_X2_term tk fm fs td 6)
def F_X7_let_1_0 (td : Int32) (hgt : Int32) (drt : Int32) (tk : Nat) (fm : Nat → Int32) (fs : Nat → Int32) (much : Int32) : Int32 :=
  if (F_X7_within much 1 hgt) = 0 then hgt else
  if (F_X7_isMuddy td drt tk fm fs) = 0 then (hgt - much) else
  (hgt - much)
set_option maxHeartbeats 4000000 in
set_option maxRecDepth 100000 in
theorem c_X7_let (l : Launch) {D : va_G} {cI cZ cB : ClassId} {au : Nat} {kA kV : Nat → Nat} {z0 : Nat} (sz : Nat) (h0 : Nat) (gA : Nat) (tA : Nat) (rA : Nat) (pA : Nat) (bA : Nat) (lA : Nat) (eA : Nat) (td : Int32) (fi : Int32) (lf : Int32) (hgt : Int32) (drt : Int32) (hrs : Int32) (l1 : Nat) (l2 : Nat) (tk : Nat) (fm : Nat → Int32) (fs : Nat → Int32) (much : Int32) (htk : tk ≤ 10) : Met l yX7_let wsX7_let ({ frames := 5, cells := 0, slots := 0, locals := 106 }) (va_Pc [.ref h0, .int much] (PRE D cI cZ cB au kA kV z0 sz [(h0, .inr (7, [.ref gA, .ref tA, .ref rA, .ref pA, .ref bA, .ref lA, .ref eA, .int td, .int fi, .int lf])), (pA, .inr (4, [.int hgt, .int drt, .int hrs])), (lA, .inr (2, [.ref l1, .ref l2, .int (nI tk)])), (l1, .inl (cI, 70, .inl fm)), (l2, .inl (cI, 10, .inl fs))])) (QI D [(h0, .inr (7, [.ref gA, .ref tA, .ref rA, .ref pA, .ref bA, .ref lA, .ref eA, .int td, .int fi, .int lf])), (pA, .inr (4, [.int hgt, .int drt, .int hrs])), (lA, .inr (2, [.ref l1, .ref l2, .int (nI tk)])), (l1, .inl (cI, 70, .inl fm)), (l2, .inl (cI, 10, .inl fs))] sz (F_X7_let td hgt drt tk fm fs much) [(h0, .inr (7, [.ref gA, .ref tA, .ref rA, .ref pA, .ref bA, .ref lA, .ref eA, .int td, .int (F_X7_let_0_8 td fi hgt drt tk fm fs much), .int lf])), (pA, .inr (4, [.int (F_X7_let_1_0 td hgt drt tk fm fs much), .int drt, .int hrs])), (lA, .inr (2, [.ref l1, .ref l2, .int (nI tk)])), (l1, .inl (cI, 70, .inl fm)), (l2, .inl (cI, 10, .inl fs))]) 0 0 (va_A [(h0, .inr (7, [.ref gA, .ref tA, .ref rA, .ref pA, .ref bA, .ref lA, .ref eA, .int td, .int fi, .int lf])), (pA, .inr (4, [.int hgt, .int drt, .int hrs])), (lA, .inr (2, [.ref l1, .ref l2, .int (nI tk)])), (l1, .inl (cI, 70, .inl fm)), (l2, .inl (cI, 10, .inl fs))] sz) := by
  refine Met.ofW (cc := cX7_let) (maxL := 2) (ret := (some .int)) (by decide) rfl ?_
  intro p e s m args below meth c s₁ B hml hv
  obtain ⟨rfl, hsz, hz, hP, hD0, hB⟩ := hv
  have hx := B.exec
  have hb := B.bytes
  have hr := B.returns
  have hts := atoms_spec (ws := wsX7_let) B.pre
  have hown : s.vm.findClass RX7 = some m.cls := findClass_of_methodNamed B.named
  have hlocks := B.notSynchronized
  subst hsz
  have hD := hD0.self (sz := s.heap.size)
  have hA0 := va_A0 hD0 hz
  unfold QI
  generalize hAe : va_A [(h0, .inr (7, [.ref gA, .ref tA, .ref rA, .ref pA, .ref bA, .ref lA, .ref eA, .int td, .int fi, .int lf])), (pA, .inr (4, [.int hgt, .int drt, .int hrs])), (lA, .inr (2, [.ref l1, .ref l2, .int (nI tk)])), (l1, .inl (cI, 70, .inl fm)), (l2, .inl (cI, 10, .inl fs))] s.heap.size = A at hD hA0 ⊢
  have hA : ∀ q : Nat, s.heap.size ≤ q → A q := fun q h => by rw [← hAe]; exact Or.inr h
  have hS : va_S A s.heap s.heap [] := va_S.rf
  have hiX7 : ∀ w ∈ wsX70, w ∈ wsX7_let := fun w h => List.mem_cons_of_mem _ (List.mem_append_left _ (List.mem_append_left _ (List.mem_append_right _ h)))
  have hl := lv_entry ([.ref h0, .int much]) (n := 2) (Nat.le_of_ble_eq_true rfl)
  rw [lg_entry_eq]
  generalize (lg_sl ([.ref h0, .int much]) ++ List.replicate (2 - (lg_sl ([.ref h0, .int much])).length) Slot.unset).toArray = ls at hl ⊢
  have hl : lv_has ls 2 [(0, .ref h0), (1, .int much)] := hl
  refine lv_iload_n hx hb dX7_let_0 rfl (lv_at hl 1 rfl) ?_
  refine lv_iconst (v := 1) hx hb dX7_let_1 (by decide) ?_
  refine lv_aload_n hx hb dX7_let_2 rfl (lv_at hl 0 rfl) ?_
  refine va_get (D := D) (ci := 7) (v := .ref pA) (C := RX7) (T := TX7) (N := 10) hx hb hts hiX7 hown hB.1 hP 0 rfl rfl 3 (by decide) (hts _ (List.mem_of_getElem? (i := 1) rfl)) (fun _ h9 => h9) rfl dX7_let_3 ?_
  refine k_i (w2 := [(h0, .inr (7, [.ref gA, .ref tA, .ref rA, .ref pA, .ref bA, .ref lA, .ref eA, .int td, .int fi, .int lf])), (pA, .inr (4, [.int hgt, .int drt, .int hrs])), (lA, .inr (2, [.ref l1, .ref l2, .int (nI tk)])), (l1, .inl (cI, 70, .inl fm)), (l2, .inl (cI, 10, .inl fs))]) (va_runV (As := []) (rest := [.int 1, .int much]) ⟨hx, hb, hml, hown, hts⟩ (c_X4_level l _ pA hgt drt hrs) (cwV 0 hts gX7_let_X4_level rfl rfl rfl (by decide +kernel) ⟨Nat.le_of_ble_eq_true rfl, Nat.le_of_ble_eq_true rfl⟩) (pre_V (ci := 4) (q0 := 1) hB hz hA0 hP hD hS [1] rfl rfl rfl rfl rfl) rfl rfl hl.1 rfl (lv_room (Nat.le_of_ble_eq_true rfl)) dX7_let_6 ⟨Nat.zero_le _, Nat.zero_le _⟩) hP hD hS hA [1] [0, 2, 3, 4] [0, 4, 1, 2, 3] rfl rfl rfl rfl rfl (fun H locs hP hD hS => ?_)
  refine k_i (w2 := [(h0, .inr (7, [.ref gA, .ref tA, .ref rA, .ref pA, .ref bA, .ref lA, .ref eA, .int td, .int fi, .int lf])), (pA, .inr (4, [.int hgt, .int drt, .int hrs])), (lA, .inr (2, [.ref l1, .ref l2, .int (nI tk)])), (l1, .inl (cI, 70, .inl fm)), (l2, .inl (cI, 10, .inl fs))]) (va_runS (As := [.int much, .int 1, .int hgt]) (rest := []) ⟨hx, hb, hml, hown, hts⟩ (c_X7_within l _ much 1 hgt) (va_cwS 3 hts gX7_let_X7_within rfl rfl rfl (by decide +kernel) ⟨Nat.le_of_ble_eq_true rfl, Nat.le_of_ble_eq_true rfl⟩) (pre_S hB hz hA0 hP hD hS [] rfl rfl) rfl rfl hl.1 rfl (lv_room (Nat.le_of_ble_eq_true rfl)) dX7_let_9 ⟨Nat.zero_le _, Nat.zero_le _⟩) hP hD hS hA [] [0, 1, 2, 3, 4] [0, 1, 2, 3, 4] rfl rfl rfl rfl rfl (fun H locs hP hD hS => ?_)
  refine lv_if_ne (tgt := 17) hx hb dX7_let_12 (by decide) (fun c_1 => ?_) (fun c_1 => ?_)
  · refine lv_aload_n hx hb dX7_let_17 rfl (lv_at hl 0 rfl) ?_
    refine k_i (w2 := [(h0, .inr (7, [.ref gA, .ref tA, .ref rA, .ref pA, .ref bA, .ref lA, .ref eA, .int td, .int fi, .int lf])), (pA, .inr (4, [.int hgt, .int drt, .int hrs])), (lA, .inr (2, [.ref l1, .ref l2, .int (nI tk)])), (l1, .inl (cI, 70, .inl fm)), (l2, .inl (cI, 10, .inl fs))]) (va_runV (As := []) (rest := []) ⟨hx, hb, hml, hown, hts⟩ (c_X7_isMuddy l _ h0 gA tA rA pA bA lA eA td fi lf hgt drt hrs l1 l2 tk fm fs htk) (cwV 0 hts gX7_let_X7_isMuddy rfl rfl rfl (by decide +kernel) ⟨Nat.le_of_ble_eq_true rfl, Nat.le_of_ble_eq_true rfl⟩) (pre_V (ci := 7) (q0 := 0) hB hz hA0 hP hD hS [0, 1, 2, 3, 4] rfl rfl rfl rfl rfl) rfl rfl hl.1 rfl (lv_room (Nat.le_of_ble_eq_true rfl)) dX7_let_18 ⟨Nat.zero_le _, Nat.zero_le _⟩) hP hD hS hA [0, 1, 2, 3, 4] [] [0, 1, 2, 3, 4] rfl rfl rfl rfl rfl (fun H locs hP hD hS => ?_)
    refine lv_if_eq (tgt := 39) hx hb dX7_let_21 (by decide) (fun c_2 => ?_) (fun c_2 => ?_)
    · refine lv_aload_n hx hb dX7_let_39 rfl (lv_at hl 0 rfl) ?_
      refine va_get (D := D) (ci := 7) (v := .ref pA) (C := RX7) (T := TX7) (N := 10) hx hb hts hiX7 hown hB.1 hP 0 rfl rfl 3 (by decide) (hts _ (List.mem_of_getElem? (i := 1) rfl)) (fun _ h9 => h9) rfl dX7_let_40 ?_
      refine lv_iload_n hx hb dX7_let_43 rfl (lv_at hl 1 rfl) ?_
      refine k_v (w2 := [(h0, .inr (7, [.ref gA, .ref tA, .ref rA, .ref pA, .ref bA, .ref lA, .ref eA, .int td, .int fi, .int lf])), (pA, .inr (4, [.int (hgt - much), .int drt, .int hrs])), (lA, .inr (2, [.ref l1, .ref l2, .int (nI tk)])), (l1, .inl (cI, 70, .inl fm)), (l2, .inl (cI, 10, .inl fs))]) (va_runV (As := [.int much]) (rest := []) ⟨hx, hb, hml, hown, hts⟩ (c_X4_drain l _ pA hgt drt hrs much) (cwV 1 hts gX7_let_X4_drain rfl rfl rfl (by decide +kernel) ⟨Nat.le_of_ble_eq_true rfl, Nat.le_of_ble_eq_true rfl⟩) (pre_V (ci := 4) (q0 := 1) hB hz hA0 hP hD hS [1] rfl rfl rfl rfl rfl) rfl rfl hl.1 rfl (lv_room (Nat.le_of_ble_eq_true rfl)) dX7_let_44 ⟨Nat.zero_le _, Nat.zero_le _⟩) hP hD hS hA [1] [0, 2, 3, 4] [0, 4, 1, 2, 3] rfl rfl rfl rfl rfl (fun H locs hP hD hS => ?_)
      refine lv_aload_n hx hb dX7_let_47 rfl (lv_at hl 0 rfl) ?_
      refine va_get (D := D) (ci := 7) (v := .ref pA) (C := RX7) (T := TX7) (N := 10) hx hb hts hiX7 hown hB.1 hP 0 rfl rfl 3 (by decide) (hts _ (List.mem_of_getElem? (i := 1) rfl)) (fun _ h9 => h9) rfl dX7_let_48 ?_
      refine k_i (w2 := [(h0, .inr (7, [.ref gA, .ref tA, .ref rA, .ref pA, .ref bA, .ref lA, .ref eA, .int td, .int fi, .int lf])), (pA, .inr (4, [.int (hgt - much), .int drt, .int hrs])), (lA, .inr (2, [.ref l1, .ref l2, .int (nI tk)])), (l1, .inl (cI, 70, .inl fm)), (l2, .inl (cI, 10, .inl fs))]) (va_runV (As := []) (rest := []) ⟨hx, hb, hml, hown, hts⟩ (c_X4_level l _ pA (hgt - much) drt hrs) (cwV 0 hts gX7_let_X4_level rfl rfl rfl (by decide +kernel) ⟨Nat.le_of_ble_eq_true rfl, Nat.le_of_ble_eq_true rfl⟩) (pre_V (ci := 4) (q0 := 1) hB hz hA0 hP hD hS [1] rfl rfl rfl rfl rfl) rfl rfl hl.1 rfl (lv_room (Nat.le_of_ble_eq_true rfl)) dX7_let_51 ⟨Nat.zero_le _, Nat.zero_le _⟩) hP hD hS hA [1] [0, 2, 3, 4] [0, 4, 1, 2, 3] rfl rfl rfl rfl rfl (fun H locs hP hD hS => ?_)
      have er : F_X7_let td hgt drt tk fm fs much = (hgt - much) := by rw [F_X7_let, if_neg c_1, if_pos c_2]
      have e0_8 : F_X7_let_0_8 td fi hgt drt tk fm fs much = fi := by rw [F_X7_let_0_8, if_neg c_1, if_pos c_2]
      have e1_0 : F_X7_let_1_0 td hgt drt tk fm fs much = (hgt - much) := by rw [F_X7_let_1_0, if_neg c_1, if_pos c_2]
      exact W.iret hx hb hr (fun t ht hW => ⟨⟨_, (), rfl, er.symm, by rw [ht, e0_8, e1_0]; exact hP, by rw [e0_8, e1_0]; exact hD⟩, hS.F ht⟩) hS.2.2 dX7_let_54
    · refine lv_aload_n hx hb dX7_let_24 rfl (lv_at hl 0 rfl) ?_
      refine lv_dup hx hb dX7_let_25 rfl ?_
      refine va_get (D := D) (ci := 7) (v := .int fi) (C := RX7) (T := TX7) (N := 10) hx hb hts hiX7 hown hB.1 hP 0 rfl rfl 8 (by decide) (hts _ (List.mem_of_getElem? (i := 2) rfl)) (fun _ h9 => h9) rfl dX7_let_26 ?_
      refine lv_aload_n hx hb dX7_let_29 rfl (lv_at hl 0 rfl) ?_
      refine lv_bipush (v := 6) hx hb dX7_let_30 (by decide) ?_
      refine k_i (w2 := [(h0, .inr (7, [.ref gA, .ref tA, .ref rA, .ref pA, .ref bA, .ref lA, .ref eA, .int td, .int fi, .int lf])), (pA, .inr (4, [.int hgt, .int drt, .int hrs])), (lA, .inr (2, [.ref l1, .ref l2, .int (nI tk)])), (l1, .inl (cI, 70, .inl fm)), (l2, .inl (cI, 10, .inl fs))]) (va_runV (As := [.int 6]) (rest := [.int fi, .ref h0]) ⟨hx, hb, hml, hown, hts⟩ (c_X7_lawToday l _ h0 gA tA rA pA bA lA eA td fi lf l1 l2 tk fm fs 6 htk) (cwV 1 hts gX7_let_X7_lawToday rfl rfl rfl (by decide +kernel) ⟨Nat.le_of_ble_eq_true rfl, Nat.le_of_ble_eq_true rfl⟩) (pre_V (ci := 7) (q0 := 0) hB hz hA0 hP hD hS [0, 2, 3, 4] rfl rfl rfl rfl rfl) rfl rfl hl.1 rfl (lv_room (Nat.le_of_ble_eq_true rfl)) dX7_let_32 ⟨Nat.zero_le _, Nat.zero_le _⟩) hP hD hS hA [0, 2, 3, 4] [1] [1, 0, 2, 3, 4] rfl rfl rfl rfl rfl (fun H locs hP hD hS => ?_)
      refine lv_iadd hx hb dX7_let_35 ?_
      refine pf (w2 := [(h0, .inr (7, [.ref gA, .ref tA, .ref rA, .ref pA, .ref bA, .ref lA, .ref eA, .int td, .int (fi + (F_X2_term tk fm fs td 6)), .int lf])), (pA, .inr (4, [.int hgt, .int drt, .int hrs])), (lA, .inr (2, [.ref l1, .ref l2, .int (nI tk)])), (l1, .inl (cI, 70, .inl fm)), (l2, .inl (cI, 10, .inl fs))]) (ci := 7) (C := RX7) (T := TX7) (N := 10) hx hb hts hiX7 tyX7 tyX7_ok nmX7 hown hB.1 hP hD hS 0 rfl rfl 8 (by decide) (hts _ (List.mem_of_getElem? (i := 2) rfl)) rfl rfl rfl rfl (Nat.le_of_ble_eq_true rfl) rfl dX7_let_36 (fun H locs hP hD hS => ?_)
      refine lv_aload_n hx hb dX7_let_39 rfl (lv_at hl 0 rfl) ?_
      refine va_get (D := D) (ci := 7) (v := .ref pA) (C := RX7) (T := TX7) (N := 10) hx hb hts hiX7 hown hB.1 hP 0 rfl rfl 3 (by decide) (hts _ (List.mem_of_getElem? (i := 1) rfl)) (fun _ h9 => h9) rfl dX7_let_40 ?_
      refine lv_iload_n hx hb dX7_let_43 rfl (lv_at hl 1 rfl) ?_
      refine k_v (w2 := [(h0, .inr (7, [.ref gA, .ref tA, .ref rA, .ref pA, .ref bA, .ref lA, .ref eA, .int td, .int (fi + (F_X2_term tk fm fs td 6)), .int lf])), (pA, .inr (4, [.int (hgt - much), .int drt, .int hrs])), (lA, .inr (2, [.ref l1, .ref l2, .int (nI tk)])), (l1, .inl (cI, 70, .inl fm)), (l2, .inl (cI, 10, .inl fs))]) (va_runV (As := [.int much]) (rest := []) ⟨hx, hb, hml, hown, hts⟩ (c_X4_drain l _ pA hgt drt hrs much) (cwV 1 hts gX7_let_X4_drain rfl rfl rfl (by decide +kernel) ⟨Nat.le_of_ble_eq_true rfl, Nat.le_of_ble_eq_true rfl⟩) (pre_V (ci := 4) (q0 := 1) hB hz hA0 hP hD hS [1] rfl rfl rfl rfl rfl) rfl rfl hl.1 rfl (lv_room (Nat.le_of_ble_eq_true rfl)) dX7_let_44 ⟨Nat.zero_le _, Nat.zero_le _⟩) hP hD hS hA [1] [0, 2, 3, 4] [0, 4, 1, 2, 3] rfl rfl rfl rfl rfl (fun H locs hP hD hS => ?_)
      refine lv_aload_n hx hb dX7_let_47 rfl (lv_at hl 0 rfl) ?_
      refine va_get (D := D) (ci := 7) (v := .ref pA) (C := RX7) (T := TX7) (N := 10) hx hb hts hiX7 hown hB.1 hP 0 rfl rfl 3 (by decide) (hts _ (List.mem_of_getElem? (i := 1) rfl)) (fun _ h9 => h9) rfl dX7_let_48 ?_
      refine k_i (w2 := [(h0, .inr (7, [.ref gA, .ref tA, .ref rA, .ref pA, .ref bA, .ref lA, .ref eA, .int td, .int (fi + (F_X2_term tk fm fs td 6)), .int lf])), (pA, .inr (4, [.int (hgt - much), .int drt, .int hrs])), (lA, .inr (2, [.ref l1, .ref l2, .int (nI tk)])), (l1, .inl (cI, 70, .inl fm)), (l2, .inl (cI, 10, .inl fs))]) (va_runV (As := []) (rest := []) ⟨hx, hb, hml, hown, hts⟩ (c_X4_level l _ pA (hgt - much) drt hrs) (cwV 0 hts gX7_let_X4_level rfl rfl rfl (by decide +kernel) ⟨Nat.le_of_ble_eq_true rfl, Nat.le_of_ble_eq_true rfl⟩) (pre_V (ci := 4) (q0 := 1) hB hz hA0 hP hD hS [1] rfl rfl rfl rfl rfl) rfl rfl hl.1 rfl (lv_room (Nat.le_of_ble_eq_true rfl)) dX7_let_51 ⟨Nat.zero_le _, Nat.zero_le _⟩) hP hD hS hA [1] [0, 2, 3, 4] [0, 4, 1, 2, 3] rfl rfl rfl rfl rfl (fun H locs hP hD hS => ?_)
      have er : F_X7_let td hgt drt tk fm fs much = (hgt - much) := by rw [F_X7_let, if_neg c_1, if_neg c_2]
      have e0_8 : F_X7_let_0_8 td fi hgt drt tk fm fs much = fi + (F_X2_term tk fm fs td 6) := by rw [F_X7_let_0_8, if_neg c_1, if_neg c_2]
      have e1_0 : F_X7_let_1_0 td hgt drt tk fm fs much = (hgt - much) := by rw [F_X7_let_1_0, if_neg c_1, if_neg c_2]
      exact W.iret hx hb hr (fun t ht hW => ⟨⟨_, (), rfl, er.symm, by rw [ht, e0_8, e1_0]; exact hP, by rw [e0_8, e1_0]; exact hD⟩, hS.F ht⟩) hS.2.2 dX7_let_54
  · refine lv_iconst (v := (-1)) hx hb dX7_let_15 (by decide) ?_
    have er : F_X7_let td hgt drt tk fm fs much = (-1) := by rw [F_X7_let, if_pos c_1]
    have e0_8 : F_X7_let_0_8 td fi hgt drt tk fm fs much = fi := by rw [F_X7_let_0_8, if_pos c_1]
    have e1_0 : F_X7_let_1_0 td hgt drt tk fm fs much = hgt := by rw [F_X7_let_1_0, if_pos c_1]
    exact W.iret hx hb hr (fun t ht hW => ⟨⟨_, (), rfl, er.symm, by rw [ht, e0_8, e1_0]; exact hP, by rw [e0_8, e1_0]; exact hD⟩, hS.F ht⟩) hS.2.2 dX7_let_16

set_option maxHeartbeats 4000000 in
set_option maxRecDepth 100000 in
theorem c_X7_back (l : Launch) {D : va_G} {cI cZ cB : ClassId} {au : Nat} {kA kV : Nat → Nat} {z0 : Nat} (sz : Nat) (h0 : Nat) (gA : Nat) (tA : Nat) (rA : Nat) (pA : Nat) (bA : Nat) (lA : Nat) (eA : Nat) (td : Int32) (fi : Int32) (lf : Int32) (nr : Nat) (np : Nat) (t1 : Nat) (t2 : Nat) (t3 : Nat) (t4 : Nat) (dg : Nat) (lb : Int32) (fp : Nat → Int32) (fy : Nat → Int32) (fb : Nat → Int32) (fn : Nat → Int32) (row : Int32) (place : Int32) (hlen : nr * np < 2 ^ 31) (h20 : nr ≤ 20) (h2p : 2 ≤ np) (h8 : np ≤ 8) (hdg : dg ≤ nr) : Met l yX7_back wsX7_back ({ frames := 3, cells := 0, slots := 0, locals := 66 }) (va_Pc [.ref h0, .int row, .int place] (PRE D cI cZ cB au kA kV z0 sz [(h0, .inr (7, [.ref gA, .ref tA, .ref rA, .ref pA, .ref bA, .ref lA, .ref eA, .int td, .int fi, .int lf])), (tA, .inr (6, [.ref t1, .ref t2, .ref t3, .ref t4, .int (nI dg), .int lb])), (t1, .inl (cI, nr, .inl fp)), (t2, .inl (cI, nr, .inl fy)), (t3, .inl (cZ, nr, .inl fb)), (t4, .inl (cZ, nr, .inl fn))])) (QI D [(h0, .inr (7, [.ref gA, .ref tA, .ref rA, .ref pA, .ref bA, .ref lA, .ref eA, .int td, .int fi, .int lf])), (tA, .inr (6, [.ref t1, .ref t2, .ref t3, .ref t4, .int (nI dg), .int lb])), (t1, .inl (cI, nr, .inl fp)), (t2, .inl (cI, nr, .inl fy)), (t3, .inl (cZ, nr, .inl fb)), (t4, .inl (cZ, nr, .inl fn))] sz (F_X6_layBack dg fp fb row place) [(h0, .inr (7, [.ref gA, .ref tA, .ref rA, .ref pA, .ref bA, .ref lA, .ref eA, .int td, .int fi, .int lf])), (tA, .inr (6, [.ref t1, .ref t2, .ref t3, .ref t4, .int (nI dg), .int (F_X6_layBack_0_5 dg lb fp fb row place)])), (t1, .inl (cI, nr, .inl fp)), (t2, .inl (cI, nr, .inl fy)), (t3, .inl (cZ, nr, .inl (F_X6_layBack_3 dg fp fb row place))), (t4, .inl (cZ, nr, .inl fn))]) 0 0 (va_A [(h0, .inr (7, [.ref gA, .ref tA, .ref rA, .ref pA, .ref bA, .ref lA, .ref eA, .int td, .int fi, .int lf])), (tA, .inr (6, [.ref t1, .ref t2, .ref t3, .ref t4, .int (nI dg), .int lb])), (t1, .inl (cI, nr, .inl fp)), (t2, .inl (cI, nr, .inl fy)), (t3, .inl (cZ, nr, .inl fb)), (t4, .inl (cZ, nr, .inl fn))] sz) := by
  refine Met.ofW (cc := cX7_back) (maxL := 3) (ret := (some .boolean)) (by decide) rfl ?_
  intro p e s m args below meth c s₁ B hml hv
  obtain ⟨rfl, hsz, hz, hP, hD0, hB⟩ := hv
  have hx := B.exec
  have hb := B.bytes
  have hr := B.returns
  have hts := atoms_spec (ws := wsX7_back) B.pre
  have hown : s.vm.findClass RX7 = some m.cls := findClass_of_methodNamed B.named
  have hlocks := B.notSynchronized
  subst hsz
  have hD := hD0.self (sz := s.heap.size)
  have hA0 := va_A0 hD0 hz
  unfold QI
  generalize hAe : va_A [(h0, .inr (7, [.ref gA, .ref tA, .ref rA, .ref pA, .ref bA, .ref lA, .ref eA, .int td, .int fi, .int lf])), (tA, .inr (6, [.ref t1, .ref t2, .ref t3, .ref t4, .int (nI dg), .int lb])), (t1, .inl (cI, nr, .inl fp)), (t2, .inl (cI, nr, .inl fy)), (t3, .inl (cZ, nr, .inl fb)), (t4, .inl (cZ, nr, .inl fn))] s.heap.size = A at hD hA0 ⊢
  have hA : ∀ q : Nat, s.heap.size ≤ q → A q := fun q h => by rw [← hAe]; exact Or.inr h
  have hS : va_S A s.heap s.heap [] := va_S.rf
  have hiX7 : ∀ w ∈ wsX70, w ∈ wsX7_back := fun w h => List.mem_cons_of_mem _ (List.mem_append_left _ (List.mem_append_right _ h))
  have hl := lv_entry ([.ref h0, .int row, .int place]) (n := 3) (Nat.le_of_ble_eq_true rfl)
  rw [lg_entry_eq]
  generalize (lg_sl ([.ref h0, .int row, .int place]) ++ List.replicate (3 - (lg_sl ([.ref h0, .int row, .int place])).length) Slot.unset).toArray = ls at hl ⊢
  have hl : lv_has ls 3 [(0, .ref h0), (1, .int row), (2, .int place)] := hl
  refine lv_aload_n hx hb dX7_back_0 rfl (lv_at hl 0 rfl) ?_
  refine va_get (D := D) (ci := 7) (v := .ref tA) (C := RX7) (T := TX7) (N := 10) hx hb hts hiX7 hown hB.1 hP 0 rfl rfl 1 (by decide) (hts _ (List.mem_of_getElem? (i := 1) rfl)) (fun _ h9 => h9) rfl dX7_back_1 ?_
  refine lv_iload_n hx hb dX7_back_4 rfl (lv_at hl 1 rfl) ?_
  refine lv_iload_n hx hb dX7_back_5 rfl (lv_at hl 2 rfl) ?_
  refine k_i (w2 := [(h0, .inr (7, [.ref gA, .ref tA, .ref rA, .ref pA, .ref bA, .ref lA, .ref eA, .int td, .int fi, .int lf])), (tA, .inr (6, [.ref t1, .ref t2, .ref t3, .ref t4, .int (nI dg), .int (F_X6_layBack_0_5 dg lb fp fb row place)])), (t1, .inl (cI, nr, .inl fp)), (t2, .inl (cI, nr, .inl fy)), (t3, .inl (cZ, nr, .inl (F_X6_layBack_3 dg fp fb row place))), (t4, .inl (cZ, nr, .inl fn))]) (va_runV (As := [.int row, .int place]) (rest := []) ⟨hx, hb, hml, hown, hts⟩ (c_X6_layBack l _ tA t1 t2 t3 t4 nr dg lb fp fy fb fn row place (by omega) hdg) (cwV 2 hts gX7_back_X6_layBack rfl rfl rfl (by decide +kernel) ⟨Nat.le_of_ble_eq_true rfl, Nat.le_of_ble_eq_true rfl⟩) (pre_V (ci := 6) (q0 := 1) hB hz hA0 hP hD hS [1, 2, 3, 4, 5] rfl rfl rfl rfl rfl) rfl rfl hl.1 rfl (lv_room (Nat.le_of_ble_eq_true rfl)) dX7_back_6 ⟨Nat.zero_le _, Nat.zero_le _⟩) hP hD hS hA [1, 2, 3, 4, 5] [0] [0, 1, 2, 3, 4, 5] rfl rfl rfl rfl rfl (fun H locs hP hD hS => ?_)
  exact W.zret hx hb hr lay_nar (fun t ht hW => ⟨⟨_, (), rfl, rfl, by rw [ht]; exact hP, hD⟩, hS.F ht⟩) hS.2.2 dX7_back_9
