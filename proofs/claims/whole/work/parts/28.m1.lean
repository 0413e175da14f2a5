def F_X8_isIn (x : Int32) (a : Int32) (b : Int32) : Int32 :=
  if x < a then 0 else
  if b < x then 0 else
  1
set_option maxHeartbeats 4000000 in
set_option maxRecDepth 100000 in
theorem c_X8_isIn (l : Launch) {D : va_G} {cI cZ cB : ClassId} {au : Nat} {kA kV : Nat → Nat} {z0 : Nat} (sz : Nat) (x : Int32) (a : Int32) (b : Int32)  : Met l yX8_isIn wsX8_isIn ({ frames := 0, cells := 0, slots := 0, locals := 0 }) (va_Pc [.int x, .int a, .int b] (PRE D cI cZ cB au kA kV z0 sz [])) (QI D [] sz (F_X8_isIn x a b) []) 0 0 (va_A [] sz) := by
  refine Met.ofW (cc := cX8_isIn) (maxL := 3) (ret := (some .boolean)) (by decide) rfl ?_
  intro p e s m args below meth c s₁ B hml hv
  obtain ⟨rfl, hsz, hz, hP, hD0, hB⟩ := hv
  have hx := B.exec
  have hb := B.bytes
  have hr := B.returns
  have hts := atoms_spec (ws := wsX8_isIn) B.pre
  have hown : s.vm.findClass RX8 = some m.cls := findClass_of_methodNamed B.named
  have hlocks := B.notSynchronized
  subst hsz
  have hD := hD0.self (sz := s.heap.size)
  have hA0 := va_A0 hD0 hz
  unfold QI
  generalize hAe : va_A [] s.heap.size = A at hD hA0 ⊢
  have hA : ∀ q : Nat, s.heap.size ≤ q → A q := fun q h => by rw [← hAe]; exact Or.inr h
  have hS : va_S A s.heap s.heap [] := va_S.rf
  have hl := lv_entry ([.int x, .int a, .int b]) (n := 3) (Nat.le_of_ble_eq_true rfl)
  rw [lg_entry_eq]
  generalize (lg_sl ([.int x, .int a, .int b]) ++ List.replicate (3 - (lg_sl ([.int x, .int a, .int b])).length) Slot.unset).toArray = ls at hl ⊢
  have hl : lv_has ls 3 [(0, .int x), (1, .int a), (2, .int b)] := hl
  refine lv_iload_n hx hb dX8_isIn_0 rfl (lv_at hl 0 rfl) ?_
  refine lv_iload_n hx hb dX8_isIn_1 rfl (lv_at hl 1 rfl) ?_
  refine lv_icmp_lt (tgt := 14) hx hb dX8_isIn_2 (by decide) (fun c_1 => ?_) (fun c_1 => ?_)
  · refine lv_iconst (v := 0) hx hb dX8_isIn_14 (by decide) ?_
    have er : F_X8_isIn x a b = 0 := by rw [F_X8_isIn, if_pos c_1]
    exact W.zret hx hb hr rfl (fun t ht hW => ⟨⟨_, (), rfl, er.symm, by rw [ht]; exact hP, hD⟩, hS.F ht⟩) hS.2.2 dX8_isIn_15
  · refine lv_iload_n hx hb dX8_isIn_5 rfl (lv_at hl 0 rfl) ?_
    refine lv_iload_n hx hb dX8_isIn_6 rfl (lv_at hl 2 rfl) ?_
    refine lv_icmp_gt (tgt := 14) hx hb dX8_isIn_7 (by decide) (fun c_2 => ?_) (fun c_2 => ?_)
    · refine lv_iconst (v := 0) hx hb dX8_isIn_14 (by decide) ?_
      have er : F_X8_isIn x a b = 0 := by rw [F_X8_isIn, if_neg c_1, if_pos c_2]
      exact W.zret hx hb hr rfl (fun t ht hW => ⟨⟨_, (), rfl, er.symm, by rw [ht]; exact hP, hD⟩, hS.F ht⟩) hS.2.2 dX8_isIn_15
    · refine lv_iconst (v := 1) hx hb dX8_isIn_10 (by decide) ?_
      refine lv_goto (tgt := 15) hx hb dX8_isIn_11 (by decide) ?_
      have er : F_X8_isIn x a b = 1 := by rw [F_X8_isIn, if_neg c_1, if_neg c_2]
      exact W.zret hx hb hr rfl (fun t ht hW => ⟨⟨_, (), rfl, er.symm, by rw [ht]; exact hP, hD⟩, hS.F ht⟩) hS.2.2 dX8_isIn_15

def F_X8_one (x : Int32) : Int32 :=
  if x = 0 then 0 else
  1
set_option maxHeartbeats 4000000 in
set_option maxRecDepth 100000 in
theorem c_X8_one (l : Launch) {D : va_G} {cI cZ cB : ClassId} {au : Nat} {kA kV : Nat → Nat} {z0 : Nat} (sz : Nat) (x : Int32)  : Met l yX8_one wsX8_one ({ frames := 0, cells := 0, slots := 0, locals := 0 }) (va_Pc [.int x] (PRE D cI cZ cB au kA kV z0 sz [])) (QI D [] sz (F_X8_one x) []) 0 0 (va_A [] sz) := by
  refine Met.ofW (cc := cX8_one) (maxL := 1) (ret := (some .int)) (by decide) rfl ?_
  intro p e s m args below meth c s₁ B hml hv
  obtain ⟨rfl, hsz, hz, hP, hD0, hB⟩ := hv
  have hx := B.exec
  have hb := B.bytes
  have hr := B.returns
  have hts := atoms_spec (ws := wsX8_one) B.pre
  have hown : s.vm.findClass RX8 = some m.cls := findClass_of_methodNamed B.named
  have hlocks := B.notSynchronized
  subst hsz
  have hD := hD0.self (sz := s.heap.size)
  have hA0 := va_A0 hD0 hz
  unfold QI
  generalize hAe : va_A [] s.heap.size = A at hD hA0 ⊢
  have hA : ∀ q : Nat, s.heap.size ≤ q → A q := fun q h => by rw [← hAe]; exact Or.inr h
  have hS : va_S A s.heap s.heap [] := va_S.rf
  have hl := lv_entry ([.int x]) (n := 1) (Nat.le_of_ble_eq_true rfl)
  rw [lg_entry_eq]
  generalize (lg_sl ([.int x]) ++ List.replicate (1 - (lg_sl ([.int x])).length) Slot.unset).toArray = ls at hl ⊢
  have hl : lv_has ls 1 [(0, .int x)] := hl
  refine lv_iload_n hx hb dX8_one_0 rfl (lv_at hl 0 rfl) ?_
  refine lv_if_eq (tgt := 8) hx hb dX8_one_1 (by decide) (fun c_1 => ?_) (fun c_1 => ?_)
  · refine lv_iconst (v := 0) hx hb dX8_one_8 (by decide) ?_
    have er : F_X8_one x = 0 := by rw [F_X8_one, if_pos c_1]
    exact W.iret hx hb hr (fun t ht hW => ⟨⟨_, (), rfl, er.symm, by rw [ht]; exact hP, hD⟩, hS.F ht⟩) hS.2.2 dX8_one_9
  · refine lv_iconst (v := 1) hx hb dX8_one_4 (by decide) ?_
    refine lv_goto (tgt := 9) hx hb dX8_one_5 (by decide) ?_
    have er : F_X8_one x = 1 := by rw [F_X8_one, if_neg c_1]
    exact W.iret hx hb hr (fun t ht hW => ⟨⟨_, (), rfl, er.symm, by rw [ht]; exact hP, hD⟩, hS.F ht⟩) hS.2.2 dX8_one_9

def F_X8_plain (x : Int32) : Int32 :=
  if x = 0 then 50 else
  if x = 1 then 200 else
  if x = 2 then 9 else
  if x = 3 then 100 else
  if x = 4 then 30 else
  if x = 5 then 50 else
  10
set_option maxHeartbeats 4000000 in
set_option maxRecDepth 100000 in
theorem c_X8_plain (l : Launch) {D : va_G} {cI cZ cB : ClassId} {au : Nat} {kA kV : Nat → Nat} {z0 : Nat} (sz : Nat) (x : Int32)  : Met l yX8_plain wsX8_plain ({ frames := 0, cells := 0, slots := 0, locals := 0 }) (va_Pc [.int x] (PRE D cI cZ cB au kA kV z0 sz [])) (QI D [] sz (F_X8_plain x) []) 0 0 (va_A [] sz) := by
  refine Met.ofW (cc := cX8_plain) (maxL := 1) (ret := (some .int)) (by decide) rfl ?_
  intro p e s m args below meth c s₁ B hml hv
  obtain ⟨rfl, hsz, hz, hP, hD0, hB⟩ := hv
  have hx := B.exec
  have hb := B.bytes
  have hr := B.returns
  have hts := atoms_spec (ws := wsX8_plain) B.pre
  have hown : s.vm.findClass RX8 = some m.cls := findClass_of_methodNamed B.named
  have hlocks := B.notSynchronized
  subst hsz
  have hD := hD0.self (sz := s.heap.size)
  have hA0 := va_A0 hD0 hz
  unfold QI
  generalize hAe : va_A [] s.heap.size = A at hD hA0 ⊢
  have hA : ∀ q : Nat, s.heap.size ≤ q → A q := fun q h => by rw [← hAe]; exact Or.inr h
  have hS : va_S A s.heap s.heap [] := va_S.rf
  have hl := lv_entry ([.int x]) (n := 1) (Nat.le_of_ble_eq_true rfl)
  rw [lg_entry_eq]
  generalize (lg_sl ([.int x]) ++ List.replicate (1 - (lg_sl ([.int x])).length) Slot.unset).toArray = ls at hl ⊢
  have hl : lv_has ls 1 [(0, .int x)] := hl
  refine lv_iload_n hx hb dX8_plain_0 rfl (lv_at hl 0 rfl) ?_
  refine lv_if_ne (tgt := 9) hx hb dX8_plain_1 (by decide) (fun c_1 => ?_) (fun c_1 => ?_)
  · refine lv_iload_n hx hb dX8_plain_9 rfl (lv_at hl 0 rfl) ?_
    refine lv_iconst (v := 1) hx hb dX8_plain_10 (by decide) ?_
    refine lv_icmp_ne (tgt := 20) hx hb dX8_plain_11 (by decide) (fun c_2 => ?_) (fun c_2 => ?_)
    · refine lv_iload_n hx hb dX8_plain_20 rfl (lv_at hl 0 rfl) ?_
      refine lv_iconst (v := 2) hx hb dX8_plain_21 (by decide) ?_
      refine lv_icmp_ne (tgt := 30) hx hb dX8_plain_22 (by decide) (fun c_3 => ?_) (fun c_3 => ?_)
      · refine lv_iload_n hx hb dX8_plain_30 rfl (lv_at hl 0 rfl) ?_
        refine lv_iconst (v := 3) hx hb dX8_plain_31 (by decide) ?_
        refine lv_icmp_ne (tgt := 40) hx hb dX8_plain_32 (by decide) (fun c_4 => ?_) (fun c_4 => ?_)
        · refine lv_iload_n hx hb dX8_plain_40 rfl (lv_at hl 0 rfl) ?_
          refine lv_iconst (v := 4) hx hb dX8_plain_41 (by decide) ?_
          refine lv_icmp_ne (tgt := 50) hx hb dX8_plain_42 (by decide) (fun c_5 => ?_) (fun c_5 => ?_)
          · refine lv_iload_n hx hb dX8_plain_50 rfl (lv_at hl 0 rfl) ?_
            refine lv_iconst (v := 5) hx hb dX8_plain_51 (by decide) ?_
            refine lv_icmp_ne (tgt := 60) hx hb dX8_plain_52 (by decide) (fun c_6 => ?_) (fun c_6 => ?_)
            · refine lv_bipush (v := 10) hx hb dX8_plain_60 (by decide) ?_
              have er : F_X8_plain x = 10 := by rw [F_X8_plain, if_neg c_1, if_neg c_2, if_neg c_3, if_neg c_4, if_neg c_5, if_neg c_6]
              exact W.iret hx hb hr (fun t ht hW => ⟨⟨_, (), rfl, er.symm, by rw [ht]; exact hP, hD⟩, hS.F ht⟩) hS.2.2 dX8_plain_62
            · refine lv_bipush (v := 50) hx hb dX8_plain_55 (by decide) ?_
              refine lv_goto (tgt := 62) hx hb dX8_plain_57 (by decide) ?_
              have er : F_X8_plain x = 50 := by rw [F_X8_plain, if_neg c_1, if_neg c_2, if_neg c_3, if_neg c_4, if_neg c_5, if_pos c_6]
              exact W.iret hx hb hr (fun t ht hW => ⟨⟨_, (), rfl, er.symm, by rw [ht]; exact hP, hD⟩, hS.F ht⟩) hS.2.2 dX8_plain_62
          · refine lv_bipush (v := 30) hx hb dX8_plain_45 (by decide) ?_
            refine lv_goto (tgt := 62) hx hb dX8_plain_47 (by decide) ?_
            have er : F_X8_plain x = 30 := by rw [F_X8_plain, if_neg c_1, if_neg c_2, if_neg c_3, if_neg c_4, if_pos c_5]
            exact W.iret hx hb hr (fun t ht hW => ⟨⟨_, (), rfl, er.symm, by rw [ht]; exact hP, hD⟩, hS.F ht⟩) hS.2.2 dX8_plain_62
        · refine lv_bipush (v := 100) hx hb dX8_plain_35 (by decide) ?_
          refine lv_goto (tgt := 62) hx hb dX8_plain_37 (by decide) ?_
          have er : F_X8_plain x = 100 := by rw [F_X8_plain, if_neg c_1, if_neg c_2, if_neg c_3, if_pos c_4]
          exact W.iret hx hb hr (fun t ht hW => ⟨⟨_, (), rfl, er.symm, by rw [ht]; exact hP, hD⟩, hS.F ht⟩) hS.2.2 dX8_plain_62
      · refine lv_bipush (v := 9) hx hb dX8_plain_25 (by decide) ?_
        refine lv_goto (tgt := 62) hx hb dX8_plain_27 (by decide) ?_
        have er : F_X8_plain x = 9 := by rw [F_X8_plain, if_neg c_1, if_neg c_2, if_pos c_3]
        exact W.iret hx hb hr (fun t ht hW => ⟨⟨_, (), rfl, er.symm, by rw [ht]; exact hP, hD⟩, hS.F ht⟩) hS.2.2 dX8_plain_62
    · refine lv_sipush (v := 200) hx hb dX8_plain_14 (by decide) ?_
      refine lv_goto (tgt := 62) hx hb dX8_plain_17 (by decide) ?_
      have er : F_X8_plain x = 200 := by rw [F_X8_plain, if_neg c_1, if_pos c_2]
      exact W.iret hx hb hr (fun t ht hW => ⟨⟨_, (), rfl, er.symm, by rw [ht]; exact hP, hD⟩, hS.F ht⟩) hS.2.2 dX8_plain_62
  · refine lv_bipush (v := 50) hx hb dX8_plain_4 (by decide) ?_
    refine lv_goto (tgt := 62) hx hb dX8_plain_6 (by decide) ?_
    have er : F_X8_plain x = 50 := by rw [F_X8_plain, if_pos c_1]
    exact W.iret hx hb hr (fun t ht hW => ⟨⟨_, (), rfl, er.symm, by rw [ht]; exact hP, hD⟩, hS.F ht⟩) hS.2.2 dX8_plain_62

theorem isIn_eq : F_X8_isIn = F_X7_within := rfl
theorem one_eq : F_X8_one = F_X7_oneIf := rfl
def F_X8_isSquare (nr : Nat) (np : Nat) (row : Int32) (place : Int32) : Int32 :=
  if (F_X8_isIn row 0 ((nI nr) - 1)) = 0 then 0 else
  if (F_X8_isIn place 0 ((nI np) - 1)) = 0 then 0 else
  1
set_option maxHeartbeats 4000000 in
set_option maxRecDepth 100000 in
theorem c_X8_isSquare (l : Launch) {D : va_G} {cI cZ cB : ClassId} {au : Nat} {kA kV : Nat → Nat} {z0 : Nat} (sz : Nat) (mA : Nat) (m2 : Nat) (m3 : Nat) (m4 : Nat) (m5 : Nat) (m6 : Nat) (m7 : Nat) (m8 : Nat) (m21 : Nat) (m22 : Nat) (m23 : Nat) (m24 : Nat) (m30 : Nat) (m31 : Nat) (q9 : Int32) (q10 : Int32) (q11 : Int32) (q13 : Int32) (q14 : Int32) (q15 : Int32) (q16 : Int32) (q17 : Int32) (q18 : Int32) (q19 : Int32) (q20 : Int32) (q28 : Int32) (q33 : Int32) (nr : Nat) (np : Nat) (nb : Nat) (ln : Nat) (po : Nat) (tk : Nat) (we : Nat) (dg : Nat) (row : Int32) (place : Int32) (h20 : nr ≤ 20) (h2r : 2 ≤ nr) (h2p : 2 ≤ np) (h8 : np ≤ 8) : Met l yX8_isSquare wsX8_isSquare ({ frames := 1, cells := 0, slots := 0, locals := 22 }) (va_Pc [.ref mA, .int row, .int place] (PRE D cI cZ cB au kA kV z0 sz [(mA, .inr (8, .int (nI nr) :: .int (nI np) :: .ref m2 :: .ref m3 :: .ref m4 :: .ref m5 :: .ref m6 :: .ref m7 :: .ref m8 :: .int q9 :: .int q10 :: .int q11 :: .int ((nI dg) - 1) :: .int q13 :: .int q14 :: .int q15 :: .int q16 :: .int q17 :: .int q18 :: .int q19 :: .int q20 :: .ref m21 :: .ref m22 :: .ref m23 :: .ref m24 :: .int (nI nb) :: .int (nI ln) :: .int (nI po) :: .int q28 :: .int (nI tk) :: .ref m30 :: .ref m31 :: .int (nI we) :: .int q33 :: []))])) (QI D [(mA, .inr (8, .int (nI nr) :: .int (nI np) :: .ref m2 :: .ref m3 :: .ref m4 :: .ref m5 :: .ref m6 :: .ref m7 :: .ref m8 :: .int q9 :: .int q10 :: .int q11 :: .int ((nI dg) - 1) :: .int q13 :: .int q14 :: .int q15 :: .int q16 :: .int q17 :: .int q18 :: .int q19 :: .int q20 :: .ref m21 :: .ref m22 :: .ref m23 :: .ref m24 :: .int (nI nb) :: .int (nI ln) :: .int (nI po) :: .int q28 :: .int (nI tk) :: .ref m30 :: .ref m31 :: .int (nI we) :: .int q33 :: []))] sz (F_X8_isSquare nr np row place) [(mA, .inr (8, .int (nI nr) :: .int (nI np) :: .ref m2 :: .ref m3 :: .ref m4 :: .ref m5 :: .ref m6 :: .ref m7 :: .ref m8 :: .int q9 :: .int q10 :: .int q11 :: .int ((nI dg) - 1) :: .int q13 :: .int q14 :: .int q15 :: .int q16 :: .int q17 :: .int q18 :: .int q19 :: .int q20 :: .ref m21 :: .ref m22 :: .ref m23 :: .ref m24 :: .int (nI nb) :: .int (nI ln) :: .int (nI po) :: .int q28 :: .int (nI tk) :: .ref m30 :: .ref m31 :: .int (nI we) :: .int q33 :: []))]) 0 0 (va_A [(mA, .inr (8, .int (nI nr) :: .int (nI np) :: .ref m2 :: .ref m3 :: .ref m4 :: .ref m5 :: .ref m6 :: .ref m7 :: .ref m8 :: .int q9 :: .int q10 :: .int q11 :: .int ((nI dg) - 1) :: .int q13 :: .int q14 :: .int q15 :: .int q16 :: .int q17 :: .int q18 :: .int q19 :: .int q20 :: .ref m21 :: .ref m22 :: .ref m23 :: .ref m24 :: .int (nI nb) :: .int (nI ln) :: .int (nI po) :: .int q28 :: .int (nI tk) :: .ref m30 :: .ref m31 :: .int (nI we) :: .int q33 :: []))] sz) := by
  refine Met.ofW (cc := cX8_isSquare) (maxL := 3) (ret := (some .boolean)) (by decide) rfl ?_
  intro p e s m args below meth c s₁ B hml hv
  obtain ⟨rfl, hsz, hz, hP, hD0, hB⟩ := hv
  have hx := B.exec
  have hb := B.bytes
  have hr := B.returns
  have hts := atoms_spec (ws := wsX8_isSquare) B.pre
  have hown : s.vm.findClass RX8 = some m.cls := findClass_of_methodNamed B.named
  have hlocks := B.notSynchronized
  subst hsz
  have hD := hD0.self (sz := s.heap.size)
  have hA0 := va_A0 hD0 hz
  unfold QI
  generalize hAe : va_A [(mA, .inr (8, .int (nI nr) :: .int (nI np) :: .ref m2 :: .ref m3 :: .ref m4 :: .ref m5 :: .ref m6 :: .ref m7 :: .ref m8 :: .int q9 :: .int q10 :: .int q11 :: .int ((nI dg) - 1) :: .int q13 :: .int q14 :: .int q15 :: .int q16 :: .int q17 :: .int q18 :: .int q19 :: .int q20 :: .ref m21 :: .ref m22 :: .ref m23 :: .ref m24 :: .int (nI nb) :: .int (nI ln) :: .int (nI po) :: .int q28 :: .int (nI tk) :: .ref m30 :: .ref m31 :: .int (nI we) :: .int q33 :: []))] s.heap.size = A at hD hA0 ⊢
  have hA : ∀ q : Nat, s.heap.size ≤ q → A q := fun q h => by rw [← hAe]; exact Or.inr h
  have hS : va_S A s.heap s.heap [] := va_S.rf
  have hiX8 : ∀ w ∈ wsX80, w ∈ wsX8_isSquare := fun w h => List.mem_cons_of_mem _ (List.mem_append_right _ h)
  have hl := lv_entry ([.ref mA, .int row, .int place]) (n := 3) (Nat.le_of_ble_eq_true rfl)
  rw [lg_entry_eq]
  generalize (lg_sl ([.ref mA, .int row, .int place]) ++ List.replicate (3 - (lg_sl ([.ref mA, .int row, .int place])).length) Slot.unset).toArray = ls at hl ⊢
  have hl : lv_has ls 3 [(0, .ref mA), (1, .int row), (2, .int place)] := hl
  refine lv_iload_n hx hb dX8_isSquare_0 rfl (lv_at hl 1 rfl) ?_
  refine lv_iconst (v := 0) hx hb dX8_isSquare_1 (by decide) ?_
  refine lv_aload_n hx hb dX8_isSquare_2 rfl (lv_at hl 0 rfl) ?_
  refine va_get (D := D) (ci := 8) (v := .int (nI nr)) (C := RX8) (T := TX8) (N := 34) hx hb hts hiX8 hown hB.1 hP 0 rfl rfl 0 (by decide) (hts _ (List.mem_of_getElem? (i := 1) rfl)) (fun _ h9 => h9) rfl dX8_isSquare_3 ?_
  refine lv_iconst (v := 1) hx hb dX8_isSquare_6 (by decide) ?_
  refine lv_isub hx hb dX8_isSquare_7 ?_
  refine k_i (w2 := [(mA, .inr (8, .int (nI nr) :: .int (nI np) :: .ref m2 :: .ref m3 :: .ref m4 :: .ref m5 :: .ref m6 :: .ref m7 :: .ref m8 :: .int q9 :: .int q10 :: .int q11 :: .int ((nI dg) - 1) :: .int q13 :: .int q14 :: .int q15 :: .int q16 :: .int q17 :: .int q18 :: .int q19 :: .int q20 :: .ref m21 :: .ref m22 :: .ref m23 :: .ref m24 :: .int (nI nb) :: .int (nI ln) :: .int (nI po) :: .int q28 :: .int (nI tk) :: .ref m30 :: .ref m31 :: .int (nI we) :: .int q33 :: []))]) (va_runS (As := [.int row, .int 0, .int ((nI nr) - 1)]) (rest := []) ⟨hx, hb, hml, hown, hts⟩ (c_X8_isIn l _ row 0 ((nI nr) - 1)) (va_cwS 3 hts gX8_isSquare_X8_isIn rfl rfl rfl (by decide +kernel) ⟨Nat.le_of_ble_eq_true rfl, Nat.le_of_ble_eq_true rfl⟩) (pre_S hB hz hA0 hP hD hS [] rfl rfl) rfl rfl hl.1 rfl (lv_room (Nat.le_of_ble_eq_true rfl)) dX8_isSquare_8 ⟨Nat.zero_le _, Nat.zero_le _⟩) hP hD hS hA [] [0] [0] rfl rfl rfl rfl rfl (fun H locs hP hD hS => ?_)
  refine lv_if_eq (tgt := 32) hx hb dX8_isSquare_11 (by decide) (fun c_1 => ?_) (fun c_1 => ?_)
  · refine lv_iconst (v := 0) hx hb dX8_isSquare_32 (by decide) ?_
    have er : F_X8_isSquare nr np row place = 0 := by rw [F_X8_isSquare, if_pos c_1]
    exact W.zret hx hb hr rfl (fun t ht hW => ⟨⟨_, (), rfl, er.symm, by rw [ht]; exact hP, hD⟩, hS.F ht⟩) hS.2.2 dX8_isSquare_33
  · refine lv_iload_n hx hb dX8_isSquare_14 rfl (lv_at hl 2 rfl) ?_
    refine lv_iconst (v := 0) hx hb dX8_isSquare_15 (by decide) ?_
    refine lv_aload_n hx hb dX8_isSquare_16 rfl (lv_at hl 0 rfl) ?_
    refine va_get (D := D) (ci := 8) (v := .int (nI np)) (C := RX8) (T := TX8) (N := 34) hx hb hts hiX8 hown hB.1 hP 0 rfl rfl 1 (by decide) (hts _ (List.mem_of_getElem? (i := 2) rfl)) (fun _ h9 => h9) rfl dX8_isSquare_17 ?_
    refine lv_iconst (v := 1) hx hb dX8_isSquare_20 (by decide) ?_
    refine lv_isub hx hb dX8_isSquare_21 ?_
    refine k_i (w2 := [(mA, .inr (8, .int (nI nr) :: .int (nI np) :: .ref m2 :: .ref m3 :: .ref m4 :: .ref m5 :: .ref m6 :: .ref m7 :: .ref m8 :: .int q9 :: .int q10 :: .int q11 :: .int ((nI dg) - 1) :: .int q13 :: .int q14 :: .int q15 :: .int q16 :: .int q17 :: .int q18 :: .int q19 :: .int q20 :: .ref m21 :: .ref m22 :: .ref m23 :: .ref m24 :: .int (nI nb) :: .int (nI ln) :: .int (nI po) :: .int q28 :: .int (nI tk) :: .ref m30 :: .ref m31 :: .int (nI we) :: .int q33 :: []))]) (va_runS (As := [.int place, .int 0, .int ((nI np) - 1)]) (rest := []) ⟨hx, hb, hml, hown, hts⟩ (c_X8_isIn l _ place 0 ((nI np) - 1)) (va_cwS 3 hts gX8_isSquare_X8_isIn rfl rfl rfl (by decide +kernel) ⟨Nat.le_of_ble_eq_true rfl, Nat.le_of_ble_eq_true rfl⟩) (pre_S hB hz hA0 hP hD hS [] rfl rfl) rfl rfl hl.1 rfl (lv_room (Nat.le_of_ble_eq_true rfl)) dX8_isSquare_22 ⟨Nat.zero_le _, Nat.zero_le _⟩) hP hD hS hA [] [0] [0] rfl rfl rfl rfl rfl (fun H locs hP hD hS => ?_)
    refine lv_if_eq (tgt := 32) hx hb dX8_isSquare_25 (by decide) (fun c_2 => ?_) (fun c_2 => ?_)
    · refine lv_iconst (v := 0) hx hb dX8_isSquare_32 (by decide) ?_
      have er : F_X8_isSquare nr np row place = 0 := by rw [F_X8_isSquare, if_neg c_1, if_pos c_2]
      exact W.zret hx hb hr rfl (fun t ht hW => ⟨⟨_, (), rfl, er.symm, by rw [ht]; exact hP, hD⟩, hS.F ht⟩) hS.2.2 dX8_isSquare_33
    · refine lv_iconst (v := 1) hx hb dX8_isSquare_28 (by decide) ?_
      refine lv_goto (tgt := 33) hx hb dX8_isSquare_29 (by decide) ?_
      have er : F_X8_isSquare nr np row place = 1 := by rw [F_X8_isSquare, if_neg c_1, if_neg c_2]
      exact W.zret hx hb hr rfl (fun t ht hW => ⟨⟨_, (), rfl, er.symm, by rw [ht]; exact hP, hD⟩, hS.F ht⟩) hS.2.2 dX8_isSquare_33

theorem sq_eq : F_X8_isSquare = F_X1_has := rfl
def F_X8_depth (nr : Nat) (np : Nat) (d6 : Nat → Int32) (row : Int32) (place : Int32) (depth : Int32) : Int32 :=
  if (F_X8_isSquare nr np row place) = 0 then 0 else
  if (d6 ((8 * row.toNatClampNeg) + place.toNatClampNeg)) = 0 then (if (F_X8_isIn depth 1 9) = 0 then 0 else
    1) else
  0
def F_X8_depth_1 (nr : Nat) (np : Nat) (d2 : Nat → Int32) (d6 : Nat → Int32) (row : Int32) (place : Int32) (depth : Int32) : Nat → Int32 :=
  if (F_X8_isSquare nr np row place) = 0 then d2 else
  if (d6 ((8 * row.toNatClampNeg) + place.toNatClampNeg)) = 0 then (if (F_X8_isIn depth 1 9) = 0 then d2 else
    upd d2 ((8 * row.toNatClampNeg) + place.toNatClampNeg) depth) else
  d2
set_option maxHeartbeats 4000000 in
set_option maxRecDepth 100000 in
theorem c_X8_depth (l : Launch) {D : va_G} {cI cZ cB : ClassId} {au : Nat} {kA kV : Nat → Nat} {z0 : Nat} (sz : Nat) (mA : Nat) (m2 : Nat) (m3 : Nat) (m4 : Nat) (m5 : Nat) (m6 : Nat) (m7 : Nat) (m8 : Nat) (m21 : Nat) (m22 : Nat) (m23 : Nat) (m24 : Nat) (m30 : Nat) (m31 : Nat) (q9 : Int32) (q10 : Int32) (q11 : Int32) (q13 : Int32) (q14 : Int32) (q15 : Int32) (q16 : Int32) (q17 : Int32) (q18 : Int32) (q19 : Int32) (q20 : Int32) (q28 : Int32) (q33 : Int32) (nr : Nat) (np : Nat) (nb : Nat) (ln : Nat) (po : Nat) (tk : Nat) (we : Nat) (dg : Nat) (d2 : Nat → Int32) (d6 : Nat → Int32) (row : Int32) (place : Int32) (depth : Int32) (h20 : nr ≤ 20) (h2r : 2 ≤ nr) (h2p : 2 ≤ np) (h8 : np ≤ 8) : Met l yX8_depth wsX8_depth ({ frames := 2, cells := 0, slots := 0, locals := 44 }) (va_Pc [.ref mA, .int row, .int place, .int depth] (PRE D cI cZ cB au kA kV z0 sz [(mA, .inr (8, .int (nI nr) :: .int (nI np) :: .ref m2 :: .ref m3 :: .ref m4 :: .ref m5 :: .ref m6 :: .ref m7 :: .ref m8 :: .int q9 :: .int q10 :: .int q11 :: .int ((nI dg) - 1) :: .int q13 :: .int q14 :: .int q15 :: .int q16 :: .int q17 :: .int q18 :: .int q19 :: .int q20 :: .ref m21 :: .ref m22 :: .ref m23 :: .ref m24 :: .int (nI nb) :: .int (nI ln) :: .int (nI po) :: .int q28 :: .int (nI tk) :: .ref m30 :: .ref m31 :: .int (nI we) :: .int q33 :: [])), (m2, .inl (cI, 160, .inl d2)), (m6, .inl (cZ, 160, .inl d6))])) (QI D [(mA, .inr (8, .int (nI nr) :: .int (nI np) :: .ref m2 :: .ref m3 :: .ref m4 :: .ref m5 :: .ref m6 :: .ref m7 :: .ref m8 :: .int q9 :: .int q10 :: .int q11 :: .int ((nI dg) - 1) :: .int q13 :: .int q14 :: .int q15 :: .int q16 :: .int q17 :: .int q18 :: .int q19 :: .int q20 :: .ref m21 :: .ref m22 :: .ref m23 :: .ref m24 :: .int (nI nb) :: .int (nI ln) :: .int (nI po) :: .int q28 :: .int (nI tk) :: .ref m30 :: .ref m31 :: .int (nI we) :: .int q33 :: [])), (m2, .inl (cI, 160, .inl d2)), (m6, .inl (cZ, 160, .inl d6))] sz (F_X8_depth nr np d6 row place depth) [(mA, .inr (8, .int (nI nr) :: .int (nI np) :: .ref m2 :: .ref m3 :: .ref m4 :: .ref m5 :: .ref m6 :: .ref m7 :: .ref m8 :: .int q9 :: .int q10 :: .int q11 :: .int ((nI dg) - 1) :: .int q13 :: .int q14 :: .int q15 :: .int q16 :: .int q17 :: .int q18 :: .int q19 :: .int q20 :: .ref m21 :: .ref m22 :: .ref m23 :: .ref m24 :: .int (nI nb) :: .int (nI ln) :: .int (nI po) :: .int q28 :: .int (nI tk) :: .ref m30 :: .ref m31 :: .int (nI we) :: .int q33 :: [])), (m2, .inl (cI, 160, .inl (F_X8_depth_1 nr np d2 d6 row place depth))), (m6, .inl (cZ, 160, .inl d6))]) 0 0 (va_A [(mA, .inr (8, .int (nI nr) :: .int (nI np) :: .ref m2 :: .ref m3 :: .ref m4 :: .ref m5 :: .ref m6 :: .ref m7 :: .ref m8 :: .int q9 :: .int q10 :: .int q11 :: .int ((nI dg) - 1) :: .int q13 :: .int q14 :: .int q15 :: .int q16 :: .int q17 :: .int q18 :: .int q19 :: .int q20 :: .ref m21 :: .ref m22 :: .ref m23 :: .ref m24 :: .int (nI nb) :: .int (nI ln) :: .int (nI po) :: .int q28 :: .int (nI tk) :: .ref m30 :: .ref m31 :: .int (nI we) :: .int q33 :: [])), (m2, .inl (cI, 160, .inl d2)), (m6, .inl (cZ, 160, .inl d6))] sz) := by
  refine Met.ofW (cc := cX8_depth) (maxL := 4) (ret := (some .boolean)) (by decide) rfl ?_
  intro p e s m args below meth c s₁ B hml hv
  obtain ⟨rfl, hsz, hz, hP, hD0, hB⟩ := hv
  have hx := B.exec
  have hb := B.bytes
  have hr := B.returns
  have hts := atoms_spec (ws := wsX8_depth) B.pre
  have hown : s.vm.findClass RX8 = some m.cls := findClass_of_methodNamed B.named
  have hlocks := B.notSynchronized
  subst hsz
  have hD := hD0.self (sz := s.heap.size)
  have hA0 := va_A0 hD0 hz
  unfold QI
  generalize hAe : va_A [(mA, .inr (8, .int (nI nr) :: .int (nI np) :: .ref m2 :: .ref m3 :: .ref m4 :: .ref m5 :: .ref m6 :: .ref m7 :: .ref m8 :: .int q9 :: .int q10 :: .int q11 :: .int ((nI dg) - 1) :: .int q13 :: .int q14 :: .int q15 :: .int q16 :: .int q17 :: .int q18 :: .int q19 :: .int q20 :: .ref m21 :: .ref m22 :: .ref m23 :: .ref m24 :: .int (nI nb) :: .int (nI ln) :: .int (nI po) :: .int q28 :: .int (nI tk) :: .ref m30 :: .ref m31 :: .int (nI we) :: .int q33 :: [])), (m2, .inl (cI, 160, .inl d2)), (m6, .inl (cZ, 160, .inl d6))] s.heap.size = A at hD hA0 ⊢
  have hA : ∀ q : Nat, s.heap.size ≤ q → A q := fun q h => by rw [← hAe]; exact Or.inr h
  have hS : va_S A s.heap s.heap [] := va_S.rf
  have hiX8 : ∀ w ∈ wsX80, w ∈ wsX8_depth := fun w h => List.mem_cons_of_mem _ (List.mem_append_right _ h)
  have hl := lv_entry ([.ref mA, .int row, .int place, .int depth]) (n := 4) (Nat.le_of_ble_eq_true rfl)
  rw [lg_entry_eq]
  generalize (lg_sl ([.ref mA, .int row, .int place, .int depth]) ++ List.replicate (4 - (lg_sl ([.ref mA, .int row, .int place, .int depth])).length) Slot.unset).toArray = ls at hl ⊢
  have hl : lv_has ls 4 [(0, .ref mA), (1, .int row), (2, .int place), (3, .int depth)] := hl
  refine lv_aload_n hx hb dX8_depth_0 rfl (lv_at hl 0 rfl) ?_
  refine lv_iload_n hx hb dX8_depth_1 rfl (lv_at hl 1 rfl) ?_
  refine lv_iload_n hx hb dX8_depth_2 rfl (lv_at hl 2 rfl) ?_
  refine k_i (w2 := [(mA, .inr (8, .int (nI nr) :: .int (nI np) :: .ref m2 :: .ref m3 :: .ref m4 :: .ref m5 :: .ref m6 :: .ref m7 :: .ref m8 :: .int q9 :: .int q10 :: .int q11 :: .int ((nI dg) - 1) :: .int q13 :: .int q14 :: .int q15 :: .int q16 :: .int q17 :: .int q18 :: .int q19 :: .int q20 :: .ref m21 :: .ref m22 :: .ref m23 :: .ref m24 :: .int (nI nb) :: .int (nI ln) :: .int (nI po) :: .int q28 :: .int (nI tk) :: .ref m30 :: .ref m31 :: .int (nI we) :: .int q33 :: [])), (m2, .inl (cI, 160, .inl d2)), (m6, .inl (cZ, 160, .inl d6))]) (va_runV (As := [.int row, .int place]) (rest := []) ⟨hx, hb, hml, hown, hts⟩ (c_X8_isSquare l _ mA m2 m3 m4 m5 m6 m7 m8 m21 m22 m23 m24 m30 m31 q9 q10 q11 q13 q14 q15 q16 q17 q18 q19 q20 q28 q33 nr np nb ln po tk we dg row place h20 h2r h2p h8) (cwV 2 hts gX8_depth_X8_isSquare rfl rfl rfl (by decide +kernel) ⟨Nat.le_of_ble_eq_true rfl, Nat.le_of_ble_eq_true rfl⟩) (pre_V (ci := 8) (q0 := 0) hB hz hA0 hP hD hS [0] rfl rfl rfl rfl rfl) rfl rfl hl.1 rfl (lv_room (Nat.le_of_ble_eq_true rfl)) dX8_depth_3 ⟨Nat.zero_le _, Nat.zero_le _⟩) hP hD hS hA [0] [1, 2] [2, 0, 1] rfl rfl rfl rfl rfl (fun H locs hP hD hS => ?_)
  refine lv_if_eq (tgt := 33) hx hb dX8_depth_6 (by decide) (fun c_1 => ?_) (fun c_1 => ?_)
  · refine lv_iconst (v := 0) hx hb dX8_depth_33 (by decide) ?_
    have er : F_X8_depth nr np d6 row place depth = 0 := by rw [F_X8_depth, if_pos c_1]
    have e1 : F_X8_depth_1 nr np d2 d6 row place depth = d2 := by rw [F_X8_depth_1, if_pos c_1]
    exact W.zret hx hb hr rfl (fun t ht hW => ⟨⟨_, (), rfl, er.symm, by rw [ht, e1]; exact hP, by rw [e1]; exact hD⟩, hS.F ht⟩) hS.2.2 dX8_depth_34
  · obtain ⟨⟨hr1, hr2⟩, hp1, hp2⟩ := has_ix (nr := nr) (np := np) (by omega) (by omega) (by rw [← sq_eq]; exact c_1)
    refine lv_aload_n hx hb dX8_depth_9 rfl (lv_at hl 0 rfl) ?_
    refine va_get (D := D) (ci := 8) (v := .ref m6) (C := RX8) (T := TX8) (N := 34) hx hb hts hiX8 hown hB.1 hP 0 rfl rfl 6 (by decide) (hts _ (List.mem_of_getElem? (i := 1) rfl)) (fun _ h9 => h9) rfl dX8_depth_10 ?_
    refine lv_bipush (v := 8) hx hb dX8_depth_13 (by decide) ?_
    refine lv_iload_n hx hb dX8_depth_15 rfl (lv_at hl 1 rfl) ?_
    refine lv_imul hx hb dX8_depth_16 ?_
    refine lv_iload_n hx hb dX8_depth_17 rfl (lv_at hl 2 rfl) ?_
    refine lv_iadd hx hb dX8_depth_18 ?_
    refine ra_z hx hb hB.1 hP 2 rfl ((8 * row.toNatClampNeg) + place.toNatClampNeg) (nx_add (nx_mul rfl hr1) hp1) (by omega) (by decide) dX8_depth_19 ?_
    refine lv_if_ne (tgt := 33) hx hb dX8_depth_20 (by decide) (fun c_2 => ?_) (fun c_2 => ?_)
    · refine lv_iconst (v := 0) hx hb dX8_depth_33 (by decide) ?_
      have er : F_X8_depth nr np d6 row place depth = 0 := by rw [F_X8_depth, if_neg c_1, if_neg c_2]
      have e1 : F_X8_depth_1 nr np d2 d6 row place depth = d2 := by rw [F_X8_depth_1, if_neg c_1, if_neg c_2]
      exact W.zret hx hb hr rfl (fun t ht hW => ⟨⟨_, (), rfl, er.symm, by rw [ht, e1]; exact hP, by rw [e1]; exact hD⟩, hS.F ht⟩) hS.2.2 dX8_depth_34
    · refine lv_iload_n hx hb dX8_depth_23 rfl (lv_at hl 3 rfl) ?_
      refine lv_iconst (v := 1) hx hb dX8_depth_24 (by decide) ?_
      refine lv_bipush (v := 9) hx hb dX8_depth_25 (by decide) ?_
      refine k_i (w2 := [(mA, .inr (8, .int (nI nr) :: .int (nI np) :: .ref m2 :: .ref m3 :: .ref m4 :: .ref m5 :: .ref m6 :: .ref m7 :: .ref m8 :: .int q9 :: .int q10 :: .int q11 :: .int ((nI dg) - 1) :: .int q13 :: .int q14 :: .int q15 :: .int q16 :: .int q17 :: .int q18 :: .int q19 :: .int q20 :: .ref m21 :: .ref m22 :: .ref m23 :: .ref m24 :: .int (nI nb) :: .int (nI ln) :: .int (nI po) :: .int q28 :: .int (nI tk) :: .ref m30 :: .ref m31 :: .int (nI we) :: .int q33 :: [])), (m2, .inl (cI, 160, .inl d2)), (m6, .inl (cZ, 160, .inl d6))]) (va_runS (As := [.int depth, .int 1, .int 9]) (rest := []) ⟨hx, hb, hml, hown, hts⟩ (c_X8_isIn l _ depth 1 9) (va_cwS 3 hts gX8_depth_X8_isIn rfl rfl rfl (by decide +kernel) ⟨Nat.le_of_ble_eq_true rfl, Nat.le_of_ble_eq_true rfl⟩) (pre_S hB hz hA0 hP hD hS [] rfl rfl) rfl rfl hl.1 rfl (lv_room (Nat.le_of_ble_eq_true rfl)) dX8_depth_27 ⟨Nat.zero_le _, Nat.zero_le _⟩) hP hD hS hA [] [0, 1, 2] [0, 1, 2] rfl rfl rfl rfl rfl (fun H locs hP hD hS => ?_)
      refine lv_if_ne (tgt := 35) hx hb dX8_depth_30 (by decide) (fun c_3 => ?_) (fun c_3 => ?_)
      · refine lv_aload_n hx hb dX8_depth_35 rfl (lv_at hl 0 rfl) ?_
        refine va_get (D := D) (ci := 8) (v := .ref m2) (C := RX8) (T := TX8) (N := 34) hx hb hts hiX8 hown hB.1 hP 0 rfl rfl 2 (by decide) (hts _ (List.mem_of_getElem? (i := 2) rfl)) (fun _ h9 => h9) rfl dX8_depth_36 ?_
        refine lv_bipush (v := 8) hx hb dX8_depth_39 (by decide) ?_
        refine lv_iload_n hx hb dX8_depth_41 rfl (lv_at hl 1 rfl) ?_
        refine lv_imul hx hb dX8_depth_42 ?_
        refine lv_iload_n hx hb dX8_depth_43 rfl (lv_at hl 2 rfl) ?_
        refine lv_iadd hx hb dX8_depth_44 ?_
        refine lv_iload_n hx hb dX8_depth_45 rfl (lv_at hl 3 rfl) ?_
        refine wa_i (w2 := [(mA, .inr (8, .int (nI nr) :: .int (nI np) :: .ref m2 :: .ref m3 :: .ref m4 :: .ref m5 :: .ref m6 :: .ref m7 :: .ref m8 :: .int q9 :: .int q10 :: .int q11 :: .int ((nI dg) - 1) :: .int q13 :: .int q14 :: .int q15 :: .int q16 :: .int q17 :: .int q18 :: .int q19 :: .int q20 :: .ref m21 :: .ref m22 :: .ref m23 :: .ref m24 :: .int (nI nb) :: .int (nI ln) :: .int (nI po) :: .int q28 :: .int (nI tk) :: .ref m30 :: .ref m31 :: .int (nI we) :: .int q33 :: [])), (m2, .inl (cI, 160, .inl (upd d2 ((8 * row.toNatClampNeg) + place.toNatClampNeg) depth))), (m6, .inl (cZ, 160, .inl d6))]) hx hb hB.1 hP hD hS 1 rfl ((8 * row.toNatClampNeg) + place.toNatClampNeg) (nx_add (nx_mul rfl hr1) hp1) (by omega) (by decide) dX8_depth_46 rfl (fun H locs hP hD hS => ?_)
        refine lv_iconst (v := 1) hx hb dX8_depth_47 (by decide) ?_
        have er : F_X8_depth nr np d6 row place depth = 1 := by rw [F_X8_depth, if_neg c_1, if_pos c_2, if_neg c_3]
        have e1 : F_X8_depth_1 nr np d2 d6 row place depth = upd d2 ((8 * row.toNatClampNeg) + place.toNatClampNeg) depth := by rw [F_X8_depth_1, if_neg c_1, if_pos c_2, if_neg c_3]
        exact W.zret hx hb hr rfl (fun t ht hW => ⟨⟨_, (), rfl, er.symm, by rw [ht, e1]; exact hP, by rw [e1]; exact hD⟩, hS.F ht⟩) hS.2.2 dX8_depth_48
      · refine lv_iconst (v := 0) hx hb dX8_depth_33 (by decide) ?_
        have er : F_X8_depth nr np d6 row place depth = 0 := by rw [F_X8_depth, if_neg c_1, if_pos c_2, if_pos c_3]
        have e1 : F_X8_depth_1 nr np d2 d6 row place depth = d2 := by rw [F_X8_depth_1, if_neg c_1, if_pos c_2, if_pos c_3]
        exact W.zret hx hb hr rfl (fun t ht hW => ⟨⟨_, (), rfl, er.symm, by rw [ht, e1]; exact hP, by rw [e1]; exact hD⟩, hS.F ht⟩) hS.2.2 dX8_depth_34

def F_X8_grade (gnew : Int32) : Int32 :=
  if (F_X8_isIn gnew 0 200) = 0 then (if gnew = 1000 then 1 else
    0) else
  1
def F_X8_grade_0_9 (q9 : Int32) (gnew : Int32) : Int32 :=
  if (F_X8_isIn gnew 0 200) = 0 then (if gnew = 1000 then gnew else
    q9) else
  gnew
set_option maxHeartbeats 4000000 in
set_option maxRecDepth 100000 in
theorem c_X8_grade (l : Launch) {D : va_G} {cI cZ cB : ClassId} {au : Nat} {kA kV : Nat → Nat} {z0 : Nat} (sz : Nat) (mA : Nat) (m2 : Nat) (m3 : Nat) (m4 : Nat) (m5 : Nat) (m6 : Nat) (m7 : Nat) (m8 : Nat) (m21 : Nat) (m22 : Nat) (m23 : Nat) (m24 : Nat) (m30 : Nat) (m31 : Nat) (q9 : Int32) (q10 : Int32) (q11 : Int32) (q13 : Int32) (q14 : Int32) (q15 : Int32) (q16 : Int32) (q17 : Int32) (q18 : Int32) (q19 : Int32) (q20 : Int32) (q28 : Int32) (q33 : Int32) (nr : Nat) (np : Nat) (nb : Nat) (ln : Nat) (po : Nat) (tk : Nat) (we : Nat) (dg : Nat) (gnew : Int32) (h20 : nr ≤ 20) (h2r : 2 ≤ nr) (h2p : 2 ≤ np) (h8 : np ≤ 8) : Met l yX8_grade wsX8_grade ({ frames := 1, cells := 0, slots := 0, locals := 22 }) (va_Pc [.ref mA, .int gnew] (PRE D cI cZ cB au kA kV z0 sz [(mA, .inr (8, .int (nI nr) :: .int (nI np) :: .ref m2 :: .ref m3 :: .ref m4 :: .ref m5 :: .ref m6 :: .ref m7 :: .ref m8 :: .int q9 :: .int q10 :: .int q11 :: .int ((nI dg) - 1) :: .int q13 :: .int q14 :: .int q15 :: .int q16 :: .int q17 :: .int q18 :: .int q19 :: .int q20 :: .ref m21 :: .ref m22 :: .ref m23 :: .ref m24 :: .int (nI nb) :: .int (nI ln) :: .int (nI po) :: .int q28 :: .int (nI tk) :: .ref m30 :: .ref m31 :: .int (nI we) :: .int q33 :: []))])) (QI D [(mA, .inr (8, .int (nI nr) :: .int (nI np) :: .ref m2 :: .ref m3 :: .ref m4 :: .ref m5 :: .ref m6 :: .ref m7 :: .ref m8 :: .int q9 :: .int q10 :: .int q11 :: .int ((nI dg) - 1) :: .int q13 :: .int q14 :: .int q15 :: .int q16 :: .int q17 :: .int q18 :: .int q19 :: .int q20 :: .ref m21 :: .ref m22 :: .ref m23 :: .ref m24 :: .int (nI nb) :: .int (nI ln) :: .int (nI po) :: .int q28 :: .int (nI tk) :: .ref m30 :: .ref m31 :: .int (nI we) :: .int q33 :: []))] sz (F_X8_grade gnew) [(mA, .inr (8, .int (nI nr) :: .int (nI np) :: .ref m2 :: .ref m3 :: .ref m4 :: .ref m5 :: .ref m6 :: .ref m7 :: .ref m8 :: .int (F_X8_grade_0_9 q9 gnew) :: .int q10 :: .int q11 :: .int ((nI dg) - 1) :: .int q13 :: .int q14 :: .int q15 :: .int q16 :: .int q17 :: .int q18 :: .int q19 :: .int q20 :: .ref m21 :: .ref m22 :: .ref m23 :: .ref m24 :: .int (nI nb) :: .int (nI ln) :: .int (nI po) :: .int q28 :: .int (nI tk) :: .ref m30 :: .ref m31 :: .int (nI we) :: .int q33 :: []))]) 0 0 (va_A [(mA, .inr (8, .int (nI nr) :: .int (nI np) :: .ref m2 :: .ref m3 :: .ref m4 :: .ref m5 :: .ref m6 :: .ref m7 :: .ref m8 :: .int q9 :: .int q10 :: .int q11 :: .int ((nI dg) - 1) :: .int q13 :: .int q14 :: .int q15 :: .int q16 :: .int q17 :: .int q18 :: .int q19 :: .int q20 :: .ref m21 :: .ref m22 :: .ref m23 :: .ref m24 :: .int (nI nb) :: .int (nI ln) :: .int (nI po) :: .int q28 :: .int (nI tk) :: .ref m30 :: .ref m31 :: .int (nI we) :: .int q33 :: []))] sz) := by
  refine Met.ofW (cc := cX8_grade) (maxL := 2) (ret := (some .boolean)) (by decide) rfl ?_
  intro p e s m args below meth c s₁ B hml hv
  obtain ⟨rfl, hsz, hz, hP, hD0, hB⟩ := hv
  have hx := B.exec
  have hb := B.bytes
  have hr := B.returns
  have hts := atoms_spec (ws := wsX8_grade) B.pre
  have hown : s.vm.findClass RX8 = some m.cls := findClass_of_methodNamed B.named
  have hlocks := B.notSynchronized
  subst hsz
  have hD := hD0.self (sz := s.heap.size)
  have hA0 := va_A0 hD0 hz
  unfold QI
  generalize hAe : va_A [(mA, .inr (8, .int (nI nr) :: .int (nI np) :: .ref m2 :: .ref m3 :: .ref m4 :: .ref m5 :: .ref m6 :: .ref m7 :: .ref m8 :: .int q9 :: .int q10 :: .int q11 :: .int ((nI dg) - 1) :: .int q13 :: .int q14 :: .int q15 :: .int q16 :: .int q17 :: .int q18 :: .int q19 :: .int q20 :: .ref m21 :: .ref m22 :: .ref m23 :: .ref m24 :: .int (nI nb) :: .int (nI ln) :: .int (nI po) :: .int q28 :: .int (nI tk) :: .ref m30 :: .ref m31 :: .int (nI we) :: .int q33 :: []))] s.heap.size = A at hD hA0 ⊢
  have hA : ∀ q : Nat, s.heap.size ≤ q → A q := fun q h => by rw [← hAe]; exact Or.inr h
  have hS : va_S A s.heap s.heap [] := va_S.rf
  have hiX8 : ∀ w ∈ wsX80, w ∈ wsX8_grade := fun w h => List.mem_cons_of_mem _ (List.mem_append_right _ h)
  have hl := lv_entry ([.ref mA, .int gnew]) (n := 2) (Nat.le_of_ble_eq_true rfl)
  rw [lg_entry_eq]
  generalize (lg_sl ([.ref mA, .int gnew]) ++ List.replicate (2 - (lg_sl ([.ref mA, .int gnew])).length) Slot.unset).toArray = ls at hl ⊢
  have hl : lv_has ls 2 [(0, .ref mA), (1, .int gnew)] := hl
  refine lv_iload_n hx hb dX8_grade_0 rfl (lv_at hl 1 rfl) ?_
  refine lv_iconst (v := 0) hx hb dX8_grade_1 (by decide) ?_
  refine lv_sipush (v := 200) hx hb dX8_grade_2 (by decide) ?_
  refine k_i (w2 := [(mA, .inr (8, .int (nI nr) :: .int (nI np) :: .ref m2 :: .ref m3 :: .ref m4 :: .ref m5 :: .ref m6 :: .ref m7 :: .ref m8 :: .int q9 :: .int q10 :: .int q11 :: .int ((nI dg) - 1) :: .int q13 :: .int q14 :: .int q15 :: .int q16 :: .int q17 :: .int q18 :: .int q19 :: .int q20 :: .ref m21 :: .ref m22 :: .ref m23 :: .ref m24 :: .int (nI nb) :: .int (nI ln) :: .int (nI po) :: .int q28 :: .int (nI tk) :: .ref m30 :: .ref m31 :: .int (nI we) :: .int q33 :: []))]) (va_runS (As := [.int gnew, .int 0, .int 200]) (rest := []) ⟨hx, hb, hml, hown, hts⟩ (c_X8_isIn l _ gnew 0 200) (va_cwS 3 hts gX8_grade_X8_isIn rfl rfl rfl (by decide +kernel) ⟨Nat.le_of_ble_eq_true rfl, Nat.le_of_ble_eq_true rfl⟩) (pre_S hB hz hA0 hP hD hS [] rfl rfl) rfl rfl hl.1 rfl (lv_room (Nat.le_of_ble_eq_true rfl)) dX8_grade_5 ⟨Nat.zero_le _, Nat.zero_le _⟩) hP hD hS hA [] [0] [0] rfl rfl rfl rfl rfl (fun H locs hP hD hS => ?_)
  refine lv_if_ne (tgt := 20) hx hb dX8_grade_8 (by decide) (fun c_1 => ?_) (fun c_1 => ?_)
  · refine lv_aload_n hx hb dX8_grade_20 rfl (lv_at hl 0 rfl) ?_
    refine lv_iload_n hx hb dX8_grade_21 rfl (lv_at hl 1 rfl) ?_
    refine pf (w2 := [(mA, .inr (8, .int (nI nr) :: .int (nI np) :: .ref m2 :: .ref m3 :: .ref m4 :: .ref m5 :: .ref m6 :: .ref m7 :: .ref m8 :: .int gnew :: .int q10 :: .int q11 :: .int ((nI dg) - 1) :: .int q13 :: .int q14 :: .int q15 :: .int q16 :: .int q17 :: .int q18 :: .int q19 :: .int q20 :: .ref m21 :: .ref m22 :: .ref m23 :: .ref m24 :: .int (nI nb) :: .int (nI ln) :: .int (nI po) :: .int q28 :: .int (nI tk) :: .ref m30 :: .ref m31 :: .int (nI we) :: .int q33 :: []))]) (ci := 8) (C := RX8) (T := TX8) (N := 34) hx hb hts hiX8 tyX8 tyX8_ok nmX8 hown hB.1 hP hD hS 0 rfl rfl 9 (by decide) (hts _ (List.mem_of_getElem? (i := 1) rfl)) rfl rfl rfl rfl (Nat.le_of_ble_eq_true rfl) rfl dX8_grade_22 (fun H locs hP hD hS => ?_)
    refine lv_iconst (v := 1) hx hb dX8_grade_25 (by decide) ?_
    have er : F_X8_grade gnew = 1 := by rw [F_X8_grade, if_neg c_1]
    have e0_9 : F_X8_grade_0_9 q9 gnew = gnew := by rw [F_X8_grade_0_9, if_neg c_1]
    exact W.zret hx hb hr rfl (fun t ht hW => ⟨⟨_, (), rfl, er.symm, by rw [ht, e0_9]; exact hP, by rw [e0_9]; exact hD⟩, hS.F ht⟩) hS.2.2 dX8_grade_26
  · refine lv_iload_n hx hb dX8_grade_11 rfl (lv_at hl 1 rfl) ?_
    refine lv_sipush (v := 1000) hx hb dX8_grade_12 (by decide) ?_
    refine lv_icmp_eq (tgt := 20) hx hb dX8_grade_15 (by decide) (fun c_2 => ?_) (fun c_2 => ?_)
    · refine lv_aload_n hx hb dX8_grade_20 rfl (lv_at hl 0 rfl) ?_
      refine lv_iload_n hx hb dX8_grade_21 rfl (lv_at hl 1 rfl) ?_
      refine pf (w2 := [(mA, .inr (8, .int (nI nr) :: .int (nI np) :: .ref m2 :: .ref m3 :: .ref m4 :: .ref m5 :: .ref m6 :: .ref m7 :: .ref m8 :: .int gnew :: .int q10 :: .int q11 :: .int ((nI dg) - 1) :: .int q13 :: .int q14 :: .int q15 :: .int q16 :: .int q17 :: .int q18 :: .int q19 :: .int q20 :: .ref m21 :: .ref m22 :: .ref m23 :: .ref m24 :: .int (nI nb) :: .int (nI ln) :: .int (nI po) :: .int q28 :: .int (nI tk) :: .ref m30 :: .ref m31 :: .int (nI we) :: .int q33 :: []))]) (ci := 8) (C := RX8) (T := TX8) (N := 34) hx hb hts hiX8 tyX8 tyX8_ok nmX8 hown hB.1 hP hD hS 0 rfl rfl 9 (by decide) (hts _ (List.mem_of_getElem? (i := 1) rfl)) rfl rfl rfl rfl (Nat.le_of_ble_eq_true rfl) rfl dX8_grade_22 (fun H locs hP hD hS => ?_)
      refine lv_iconst (v := 1) hx hb dX8_grade_25 (by decide) ?_
      have er : F_X8_grade gnew = 1 := by rw [F_X8_grade, if_pos c_1, if_pos c_2]
      have e0_9 : F_X8_grade_0_9 q9 gnew = gnew := by rw [F_X8_grade_0_9, if_pos c_1, if_pos c_2]
      exact W.zret hx hb hr rfl (fun t ht hW => ⟨⟨_, (), rfl, er.symm, by rw [ht, e0_9]; exact hP, by rw [e0_9]; exact hD⟩, hS.F ht⟩) hS.2.2 dX8_grade_26
    · refine lv_iconst (v := 0) hx hb dX8_grade_18 (by decide) ?_
      have er : F_X8_grade gnew = 0 := by rw [F_X8_grade, if_pos c_1, if_neg c_2]
      have e0_9 : F_X8_grade_0_9 q9 gnew = q9 := by rw [F_X8_grade_0_9, if_pos c_1, if_neg c_2]
      exact W.zret hx hb hr rfl (fun t ht hW => ⟨⟨_, (), rfl, er.symm, by rw [ht, e0_9]; exact hP, by rw [e0_9]; exact hD⟩, hS.F ht⟩) hS.2.2 dX8_grade_19

set_option maxHeartbeats 4000000 in
set_option maxRecDepth 100000 in
theorem c_X8_learns (l : Launch) {D : va_G} {cI cZ cB : ClassId} {au : Nat} {kA kV : Nat → Nat} {z0 : Nat} (sz : Nat) (mA : Nat) (m2 : Nat) (m3 : Nat) (m4 : Nat) (m5 : Nat) (m6 : Nat) (m7 : Nat) (m8 : Nat) (m21 : Nat) (m22 : Nat) (m23 : Nat) (m24 : Nat) (m30 : Nat) (m31 : Nat) (q9 : Int32) (q10 : Int32) (q11 : Int32) (q13 : Int32) (q14 : Int32) (q15 : Int32) (q16 : Int32) (q17 : Int32) (q18 : Int32) (q19 : Int32) (q20 : Int32) (q28 : Int32) (q33 : Int32) (nr : Nat) (np : Nat) (nb : Nat) (ln : Nat) (po : Nat) (tk : Nat) (we : Nat) (dg : Nat) (d3 : Nat → Int32) (d5 : Nat → Int32) (kk : Int32) (tin : Int32) (k : Nat) (h20 : nr ≤ 20) (h2r : 2 ≤ nr) (h2p : 2 ≤ np) (h8 : np ≤ 8) (e_k : kk = nI k) (hk : k < 160) : Met l yX8_learns wsX8_learns ({ frames := 0, cells := 0, slots := 0, locals := 0 }) (va_Pc [.ref mA, .int kk, .int tin] (PRE D cI cZ cB au kA kV z0 sz [(mA, .inr (8, .int (nI nr) :: .int (nI np) :: .ref m2 :: .ref m3 :: .ref m4 :: .ref m5 :: .ref m6 :: .ref m7 :: .ref m8 :: .int q9 :: .int q10 :: .int q11 :: .int ((nI dg) - 1) :: .int q13 :: .int q14 :: .int q15 :: .int q16 :: .int q17 :: .int q18 :: .int q19 :: .int q20 :: .ref m21 :: .ref m22 :: .ref m23 :: .ref m24 :: .int (nI nb) :: .int (nI ln) :: .int (nI po) :: .int q28 :: .int (nI tk) :: .ref m30 :: .ref m31 :: .int (nI we) :: .int q33 :: [])), (m3, .inl (cI, 160, .inl d3)), (m5, .inl (cZ, 160, .inl d5))])) (QV D [(mA, .inr (8, .int (nI nr) :: .int (nI np) :: .ref m2 :: .ref m3 :: .ref m4 :: .ref m5 :: .ref m6 :: .ref m7 :: .ref m8 :: .int q9 :: .int q10 :: .int q11 :: .int ((nI dg) - 1) :: .int q13 :: .int q14 :: .int q15 :: .int q16 :: .int q17 :: .int q18 :: .int q19 :: .int q20 :: .ref m21 :: .ref m22 :: .ref m23 :: .ref m24 :: .int (nI nb) :: .int (nI ln) :: .int (nI po) :: .int q28 :: .int (nI tk) :: .ref m30 :: .ref m31 :: .int (nI we) :: .int q33 :: [])), (m3, .inl (cI, 160, .inl d3)), (m5, .inl (cZ, 160, .inl d5))] sz [(mA, .inr (8, .int (nI nr) :: .int (nI np) :: .ref m2 :: .ref m3 :: .ref m4 :: .ref m5 :: .ref m6 :: .ref m7 :: .ref m8 :: .int q9 :: .int q10 :: .int q11 :: .int ((nI dg) - 1) :: .int q13 :: .int q14 :: .int q15 :: .int q16 :: .int q17 :: .int q18 :: .int q19 :: .int q20 :: .ref m21 :: .ref m22 :: .ref m23 :: .ref m24 :: .int (nI nb) :: .int (nI ln) :: .int (nI po) :: .int q28 :: .int (nI tk) :: .ref m30 :: .ref m31 :: .int (nI we) :: .int q33 :: [])), (m3, .inl (cI, 160, .inl (upd d3 k tin))), (m5, .inl (cZ, 160, .inl (upd d5 k 1)))]) 0 0 (va_A [(mA, .inr (8, .int (nI nr) :: .int (nI np) :: .ref m2 :: .ref m3 :: .ref m4 :: .ref m5 :: .ref m6 :: .ref m7 :: .ref m8 :: .int q9 :: .int q10 :: .int q11 :: .int ((nI dg) - 1) :: .int q13 :: .int q14 :: .int q15 :: .int q16 :: .int q17 :: .int q18 :: .int q19 :: .int q20 :: .ref m21 :: .ref m22 :: .ref m23 :: .ref m24 :: .int (nI nb) :: .int (nI ln) :: .int (nI po) :: .int q28 :: .int (nI tk) :: .ref m30 :: .ref m31 :: .int (nI we) :: .int q33 :: [])), (m3, .inl (cI, 160, .inl d3)), (m5, .inl (cZ, 160, .inl d5))] sz) := by
  refine Met.ofW (cc := cX8_learns) (maxL := 3) (ret := none) (by decide) rfl ?_
  intro p e s m args below meth c s₁ B hml hv
  obtain ⟨rfl, hsz, hz, hP, hD0, hB⟩ := hv
  have hx := B.exec
  have hb := B.bytes
  have hr := B.returns
  have hts := atoms_spec (ws := wsX8_learns) B.pre
  have hown : s.vm.findClass RX8 = some m.cls := findClass_of_methodNamed B.named
  have hlocks := B.notSynchronized
  subst hsz
  have hD := hD0.self (sz := s.heap.size)
  have hA0 := va_A0 hD0 hz
  unfold QV
  generalize hAe : va_A [(mA, .inr (8, .int (nI nr) :: .int (nI np) :: .ref m2 :: .ref m3 :: .ref m4 :: .ref m5 :: .ref m6 :: .ref m7 :: .ref m8 :: .int q9 :: .int q10 :: .int q11 :: .int ((nI dg) - 1) :: .int q13 :: .int q14 :: .int q15 :: .int q16 :: .int q17 :: .int q18 :: .int q19 :: .int q20 :: .ref m21 :: .ref m22 :: .ref m23 :: .ref m24 :: .int (nI nb) :: .int (nI ln) :: .int (nI po) :: .int q28 :: .int (nI tk) :: .ref m30 :: .ref m31 :: .int (nI we) :: .int q33 :: [])), (m3, .inl (cI, 160, .inl d3)), (m5, .inl (cZ, 160, .inl d5))] s.heap.size = A at hD hA0 ⊢
  have hA : ∀ q : Nat, s.heap.size ≤ q → A q := fun q h => by rw [← hAe]; exact Or.inr h
  have hS : va_S A s.heap s.heap [] := va_S.rf
  have hiX8 : ∀ w ∈ wsX80, w ∈ wsX8_learns := fun w h => List.mem_cons_of_mem _ (List.mem_append_right _ h)
  have hl := lv_entry ([.ref mA, .int kk, .int tin]) (n := 3) (Nat.le_of_ble_eq_true rfl)
  rw [lg_entry_eq]
  generalize (lg_sl ([.ref mA, .int kk, .int tin]) ++ List.replicate (3 - (lg_sl ([.ref mA, .int kk, .int tin])).length) Slot.unset).toArray = ls at hl ⊢
  have hl : lv_has ls 3 [(0, .ref mA), (1, .int kk), (2, .int tin)] := hl
  refine lv_aload_n hx hb dX8_learns_0 rfl (lv_at hl 0 rfl) ?_
  refine va_get (D := D) (ci := 8) (v := .ref m3) (C := RX8) (T := TX8) (N := 34) hx hb hts hiX8 hown hB.1 hP 0 rfl rfl 3 (by decide) (hts _ (List.mem_of_getElem? (i := 1) rfl)) (fun _ h9 => h9) rfl dX8_learns_1 ?_
  refine lv_iload_n hx hb dX8_learns_4 rfl (lv_at hl 1 rfl) ?_
  refine lv_iload_n hx hb dX8_learns_5 rfl (lv_at hl 2 rfl) ?_
  refine wa_i (w2 := [(mA, .inr (8, .int (nI nr) :: .int (nI np) :: .ref m2 :: .ref m3 :: .ref m4 :: .ref m5 :: .ref m6 :: .ref m7 :: .ref m8 :: .int q9 :: .int q10 :: .int q11 :: .int ((nI dg) - 1) :: .int q13 :: .int q14 :: .int q15 :: .int q16 :: .int q17 :: .int q18 :: .int q19 :: .int q20 :: .ref m21 :: .ref m22 :: .ref m23 :: .ref m24 :: .int (nI nb) :: .int (nI ln) :: .int (nI po) :: .int q28 :: .int (nI tk) :: .ref m30 :: .ref m31 :: .int (nI we) :: .int q33 :: [])), (m3, .inl (cI, 160, .inl (upd d3 k tin))), (m5, .inl (cZ, 160, .inl d5))]) hx hb hB.1 hP hD hS 1 rfl k e_k hk (by decide) dX8_learns_6 rfl (fun H locs hP hD hS => ?_)
  refine lv_aload_n hx hb dX8_learns_7 rfl (lv_at hl 0 rfl) ?_
  refine va_get (D := D) (ci := 8) (v := .ref m5) (C := RX8) (T := TX8) (N := 34) hx hb hts hiX8 hown hB.1 hP 0 rfl rfl 5 (by decide) (hts _ (List.mem_of_getElem? (i := 2) rfl)) (fun _ h9 => h9) rfl dX8_learns_8 ?_
  refine lv_iload_n hx hb dX8_learns_11 rfl (lv_at hl 1 rfl) ?_
  refine lv_iconst (v := 1) hx hb dX8_learns_12 (by decide) ?_
  refine wa_z (w2 := [(mA, .inr (8, .int (nI nr) :: .int (nI np) :: .ref m2 :: .ref m3 :: .ref m4 :: .ref m5 :: .ref m6 :: .ref m7 :: .ref m8 :: .int q9 :: .int q10 :: .int q11 :: .int ((nI dg) - 1) :: .int q13 :: .int q14 :: .int q15 :: .int q16 :: .int q17 :: .int q18 :: .int q19 :: .int q20 :: .ref m21 :: .ref m22 :: .ref m23 :: .ref m24 :: .int (nI nb) :: .int (nI ln) :: .int (nI po) :: .int q28 :: .int (nI tk) :: .ref m30 :: .ref m31 :: .int (nI we) :: .int q33 :: [])), (m3, .inl (cI, 160, .inl (upd d3 k tin))), (m5, .inl (cZ, 160, .inl (upd d5 k 1)))]) hx hb hB.1 hP hD hS 2 rfl k e_k hk (by decide) rfl dX8_learns_13 rfl (fun H locs hP hD hS => ?_)
  exact W.vret hx hb hr (fun t ht hW => ⟨⟨(), rfl, trivial, by rw [ht]; exact hP, hD⟩, hS.F ht⟩) hS.2.2 dX8_learns_14

def F_X8_bore (nr : Nat) (np : Nat) (d6 : Nat → Int32) (row : Int32) (place : Int32) (tin : Int32) : Int32 :=
  if (F_X8_isSquare nr np row place) = 0 then 0 else
  if (d6 ((8 * row.toNatClampNeg) + place.toNatClampNeg)) = 0 then (if (F_X8_isIn tin 0 1000) = 0 then 0 else
    1) else
  0
def F_X8_bore_1 (nr : Nat) (np : Nat) (d3 : Nat → Int32) (d6 : Nat → Int32) (row : Int32) (place : Int32) (tin : Int32) : Nat → Int32 :=
  if (F_X8_isSquare nr np row place) = 0 then d3 else
  if (d6 ((8 * row.toNatClampNeg) + place.toNatClampNeg)) = 0 then (if (F_X8_isIn tin 0 1000) = 0 then d3 else
    upd d3 ((8 * row.toNatClampNeg) + place.toNatClampNeg) tin) else
  d3
def F_X8_bore_2 (nr : Nat) (np : Nat) (d5 : Nat → Int32) (d6 : Nat → Int32) (row : Int32) (place : Int32) (tin : Int32) : Nat → Int32 :=
  if (F_X8_isSquare nr np row place) = 0 then d5 else
  if (d6 ((8 * row.toNatClampNeg) + place.toNatClampNeg)) = 0 then (if (F_X8_isIn tin 0 1000) = 0 then d5 else
    upd d5 ((8 * row.toNatClampNeg) + place.toNatClampNeg) 1) else
  d5
set_option maxHeartbeats 4000000 in
set_option maxRecDepth 100000 in
theorem c_X8_bore (l : Launch) {D : va_G} {cI cZ cB : ClassId} {au : Nat} {kA kV : Nat → Nat} {z0 : Nat} (sz : Nat) (mA : Nat) (m2 : Nat) (m3 : Nat) (m4 : Nat) (m5 : Nat) (m6 : Nat) (m7 : Nat) (m8 : Nat) (m21 : Nat) (m22 : Nat) (m23 : Nat) (m24 : Nat) (m30 : Nat) (m31 : Nat) (q9 : Int32) (q10 : Int32) (q11 : Int32) (q13 : Int32) (q14 : Int32) (q15 : Int32) (q16 : Int32) (q17 : Int32) (q18 : Int32) (q19 : Int32) (q20 : Int32) (q28 : Int32) (q33 : Int32) (nr : Nat) (np : Nat) (nb : Nat) (ln : Nat) (po : Nat) (tk : Nat) (we : Nat) (dg : Nat) (d3 : Nat → Int32) (d5 : Nat → Int32) (d6 : Nat → Int32) (row : Int32) (place : Int32) (tin : Int32) (h20 : nr ≤ 20) (h2r : 2 ≤ nr) (h2p : 2 ≤ np) (h8 : np ≤ 8) : Met l yX8_bore wsX8_bore ({ frames := 2, cells := 0, slots := 0, locals := 44 }) (va_Pc [.ref mA, .int row, .int place, .int tin] (PRE D cI cZ cB au kA kV z0 sz [(mA, .inr (8, .int (nI nr) :: .int (nI np) :: .ref m2 :: .ref m3 :: .ref m4 :: .ref m5 :: .ref m6 :: .ref m7 :: .ref m8 :: .int q9 :: .int q10 :: .int q11 :: .int ((nI dg) - 1) :: .int q13 :: .int q14 :: .int q15 :: .int q16 :: .int q17 :: .int q18 :: .int q19 :: .int q20 :: .ref m21 :: .ref m22 :: .ref m23 :: .ref m24 :: .int (nI nb) :: .int (nI ln) :: .int (nI po) :: .int q28 :: .int (nI tk) :: .ref m30 :: .ref m31 :: .int (nI we) :: .int q33 :: [])), (m3, .inl (cI, 160, .inl d3)), (m5, .inl (cZ, 160, .inl d5)), (m6, .inl (cZ, 160, .inl d6))])) (QI D [(mA, .inr (8, .int (nI nr) :: .int (nI np) :: .ref m2 :: .ref m3 :: .ref m4 :: .ref m5 :: .ref m6 :: .ref m7 :: .ref m8 :: .int q9 :: .int q10 :: .int q11 :: .int ((nI dg) - 1) :: .int q13 :: .int q14 :: .int q15 :: .int q16 :: .int q17 :: .int q18 :: .int q19 :: .int q20 :: .ref m21 :: .ref m22 :: .ref m23 :: .ref m24 :: .int (nI nb) :: .int (nI ln) :: .int (nI po) :: .int q28 :: .int (nI tk) :: .ref m30 :: .ref m31 :: .int (nI we) :: .int q33 :: [])), (m3, .inl (cI, 160, .inl d3)), (m5, .inl (cZ, 160, .inl d5)), (m6, .inl (cZ, 160, .inl d6))] sz (F_X8_bore nr np d6 row place tin) [(mA, .inr (8, .int (nI nr) :: .int (nI np) :: .ref m2 :: .ref m3 :: .ref m4 :: .ref m5 :: .ref m6 :: .ref m7 :: .ref m8 :: .int q9 :: .int q10 :: .int q11 :: .int ((nI dg) - 1) :: .int q13 :: .int q14 :: .int q15 :: .int q16 :: .int q17 :: .int q18 :: .int q19 :: .int q20 :: .ref m21 :: .ref m22 :: .ref m23 :: .ref m24 :: .int (nI nb) :: .int (nI ln) :: .int (nI po) :: .int q28 :: .int (nI tk) :: .ref m30 :: .ref m31 :: .int (nI we) :: .int q33 :: [])), (m3, .inl (cI, 160, .inl (F_X8_bore_1 nr np d3 d6 row place tin))), (m5, .inl (cZ, 160, .inl (F_X8_bore_2 nr np d5 d6 row place tin))), (m6, .inl (cZ, 160, .inl d6))]) 0 0 (va_A [(mA, .inr (8, .int (nI nr) :: .int (nI np) :: .ref m2 :: .ref m3 :: .ref m4 :: .ref m5 :: .ref m6 :: .ref m7 :: .ref m8 :: .int q9 :: .int q10 :: .int q11 :: .int ((nI dg) - 1) :: .int q13 :: .int q14 :: .int q15 :: .int q16 :: .int q17 :: .int q18 :: .int q19 :: .int q20 :: .ref m21 :: .ref m22 :: .ref m23 :: .ref m24 :: .int (nI nb) :: .int (nI ln) :: .int (nI po) :: .int q28 :: .int (nI tk) :: .ref m30 :: .ref m31 :: .int (nI we) :: .int q33 :: [])), (m3, .inl (cI, 160, .inl d3)), (m5, .inl (cZ, 160, .inl d5)), (m6, .inl (cZ, 160, .inl d6))] sz) := by
  refine Met.ofW (cc := cX8_bore) (maxL := 4) (ret := (some .boolean)) (by decide) rfl ?_
  intro p e s m args below meth c s₁ B hml hv
  obtain ⟨rfl, hsz, hz, hP, hD0, hB⟩ := hv
  have hx := B.exec
  have hb := B.bytes
  have hr := B.returns
  have hts := atoms_spec (ws := wsX8_bore) B.pre
  have hown : s.vm.findClass RX8 = some m.cls := findClass_of_methodNamed B.named
  have hlocks := B.notSynchronized
  subst hsz
  have hD := hD0.self (sz := s.heap.size)
  have hA0 := va_A0 hD0 hz
  unfold QI
  generalize hAe : va_A [(mA, .inr (8, .int (nI nr) :: .int (nI np) :: .ref m2 :: .ref m3 :: .ref m4 :: .ref m5 :: .ref m6 :: .ref m7 :: .ref m8 :: .int q9 :: .int q10 :: .int q11 :: .int ((nI dg) - 1) :: .int q13 :: .int q14 :: .int q15 :: .int q16 :: .int q17 :: .int q18 :: .int q19 :: .int q20 :: .ref m21 :: .ref m22 :: .ref m23 :: .ref m24 :: .int (nI nb) :: .int (nI ln) :: .int (nI po) :: .int q28 :: .int (nI tk) :: .ref m30 :: .ref m31 :: .int (nI we) :: .int q33 :: [])), (m3, .inl (cI, 160, .inl d3)), (m5, .inl (cZ, 160, .inl d5)), (m6, .inl (cZ, 160, .inl d6))] s.heap.size = A at hD hA0 ⊢
  have hA : ∀ q : Nat, s.heap.size ≤ q → A q := fun q h => by rw [← hAe]; exact Or.inr h
  have hS : va_S A s.heap s.heap [] := va_S.rf
  have hiX8 : ∀ w ∈ wsX80, w ∈ wsX8_bore := fun w h => List.mem_cons_of_mem _ (List.mem_append_right _ h)
  have hl := lv_entry ([.ref mA, .int row, .int place, .int tin]) (n := 4) (Nat.le_of_ble_eq_true rfl)
  rw [lg_entry_eq]
  generalize (lg_sl ([.ref mA, .int row, .int place, .int tin]) ++ List.replicate (4 - (lg_sl ([.ref mA, .int row, .int place, .int tin])).length) Slot.unset).toArray = ls at hl ⊢
  have hl : lv_has ls 4 [(0, .ref mA), (1, .int row), (2, .int place), (3, .int tin)] := hl
  refine lv_aload_n hx hb dX8_bore_0 rfl (lv_at hl 0 rfl) ?_
  refine lv_iload_n hx hb dX8_bore_1 rfl (lv_at hl 1 rfl) ?_
  refine lv_iload_n hx hb dX8_bore_2 rfl (lv_at hl 2 rfl) ?_
  refine k_i (w2 := [(mA, .inr (8, .int (nI nr) :: .int (nI np) :: .ref m2 :: .ref m3 :: .ref m4 :: .ref m5 :: .ref m6 :: .ref m7 :: .ref m8 :: .int q9 :: .int q10 :: .int q11 :: .int ((nI dg) - 1) :: .int q13 :: .int q14 :: .int q15 :: .int q16 :: .int q17 :: .int q18 :: .int q19 :: .int q20 :: .ref m21 :: .ref m22 :: .ref m23 :: .ref m24 :: .int (nI nb) :: .int (nI ln) :: .int (nI po) :: .int q28 :: .int (nI tk) :: .ref m30 :: .ref m31 :: .int (nI we) :: .int q33 :: [])), (m3, .inl (cI, 160, .inl d3)), (m5, .inl (cZ, 160, .inl d5)), (m6, .inl (cZ, 160, .inl d6))]) (va_runV (As := [.int row, .int place]) (rest := []) ⟨hx, hb, hml, hown, hts⟩ (c_X8_isSquare l _ mA m2 m3 m4 m5 m6 m7 m8 m21 m22 m23 m24 m30 m31 q9 q10 q11 q13 q14 q15 q16 q17 q18 q19 q20 q28 q33 nr np nb ln po tk we dg row place h20 h2r h2p h8) (cwV 2 hts gX8_bore_X8_isSquare rfl rfl rfl (by decide +kernel) ⟨Nat.le_of_ble_eq_true rfl, Nat.le_of_ble_eq_true rfl⟩) (pre_V (ci := 8) (q0 := 0) hB hz hA0 hP hD hS [0] rfl rfl rfl rfl rfl) rfl rfl hl.1 rfl (lv_room (Nat.le_of_ble_eq_true rfl)) dX8_bore_3 ⟨Nat.zero_le _, Nat.zero_le _⟩) hP hD hS hA [0] [1, 2, 3] [3, 0, 1, 2] rfl rfl rfl rfl rfl (fun H locs hP hD hS => ?_)
  refine lv_if_eq (tgt := 34) hx hb dX8_bore_6 (by decide) (fun c_1 => ?_) (fun c_1 => ?_)
  · refine lv_iconst (v := 0) hx hb dX8_bore_34 (by decide) ?_
    have er : F_X8_bore nr np d6 row place tin = 0 := by rw [F_X8_bore, if_pos c_1]
    have e1 : F_X8_bore_1 nr np d3 d6 row place tin = d3 := by rw [F_X8_bore_1, if_pos c_1]
    have e2 : F_X8_bore_2 nr np d5 d6 row place tin = d5 := by rw [F_X8_bore_2, if_pos c_1]
    exact W.zret hx hb hr rfl (fun t ht hW => ⟨⟨_, (), rfl, er.symm, by rw [ht, e1, e2]; exact hP, by rw [e1, e2]; exact hD⟩, hS.F ht⟩) hS.2.2 dX8_bore_35
  · obtain ⟨⟨hr1, hr2⟩, hp1, hp2⟩ := has_ix (nr := nr) (np := np) (by omega) (by omega) (by rw [← sq_eq]; exact c_1)
    refine lv_aload_n hx hb dX8_bore_9 rfl (lv_at hl 0 rfl) ?_
    refine va_get (D := D) (ci := 8) (v := .ref m6) (C := RX8) (T := TX8) (N := 34) hx hb hts hiX8 hown hB.1 hP 0 rfl rfl 6 (by decide) (hts _ (List.mem_of_getElem? (i := 1) rfl)) (fun _ h9 => h9) rfl dX8_bore_10 ?_
    refine lv_bipush (v := 8) hx hb dX8_bore_13 (by decide) ?_
    refine lv_iload_n hx hb dX8_bore_15 rfl (lv_at hl 1 rfl) ?_
    refine lv_imul hx hb dX8_bore_16 ?_
    refine lv_iload_n hx hb dX8_bore_17 rfl (lv_at hl 2 rfl) ?_
    refine lv_iadd hx hb dX8_bore_18 ?_
    refine ra_z hx hb hB.1 hP 3 rfl ((8 * row.toNatClampNeg) + place.toNatClampNeg) (nx_add (nx_mul rfl hr1) hp1) (by omega) (by decide) dX8_bore_19 ?_
    refine lv_if_ne (tgt := 34) hx hb dX8_bore_20 (by decide) (fun c_2 => ?_) (fun c_2 => ?_)
    · refine lv_iconst (v := 0) hx hb dX8_bore_34 (by decide) ?_
      have er : F_X8_bore nr np d6 row place tin = 0 := by rw [F_X8_bore, if_neg c_1, if_neg c_2]
      have e1 : F_X8_bore_1 nr np d3 d6 row place tin = d3 := by rw [F_X8_bore_1, if_neg c_1, if_neg c_2]
      have e2 : F_X8_bore_2 nr np d5 d6 row place tin = d5 := by rw [F_X8_bore_2, if_neg c_1, if_neg c_2]
      exact W.zret hx hb hr rfl (fun t ht hW => ⟨⟨_, (), rfl, er.symm, by rw [ht, e1, e2]; exact hP, by rw [e1, e2]; exact hD⟩, hS.F ht⟩) hS.2.2 dX8_bore_35
    · refine lv_iload_n hx hb dX8_bore_23 rfl (lv_at hl 3 rfl) ?_
      refine lv_iconst (v := 0) hx hb dX8_bore_24 (by decide) ?_
      refine lv_sipush (v := 1000) hx hb dX8_bore_25 (by decide) ?_
      refine k_i (w2 := [(mA, .inr (8, .int (nI nr) :: .int (nI np) :: .ref m2 :: .ref m3 :: .ref m4 :: .ref m5 :: .ref m6 :: .ref m7 :: .ref m8 :: .int q9 :: .int q10 :: .int q11 :: .int ((nI dg) - 1) :: .int q13 :: .int q14 :: .int q15 :: .int q16 :: .int q17 :: .int q18 :: .int q19 :: .int q20 :: .ref m21 :: .ref m22 :: .ref m23 :: .ref m24 :: .int (nI nb) :: .int (nI ln) :: .int (nI po) :: .int q28 :: .int (nI tk) :: .ref m30 :: .ref m31 :: .int (nI we) :: .int q33 :: [])), (m3, .inl (cI, 160, .inl d3)), (m5, .inl (cZ, 160, .inl d5)), (m6, .inl (cZ, 160, .inl d6))]) (va_runS (As := [.int tin, .int 0, .int 1000]) (rest := []) ⟨hx, hb, hml, hown, hts⟩ (c_X8_isIn l _ tin 0 1000) (va_cwS 3 hts gX8_bore_X8_isIn rfl rfl rfl (by decide +kernel) ⟨Nat.le_of_ble_eq_true rfl, Nat.le_of_ble_eq_true rfl⟩) (pre_S hB hz hA0 hP hD hS [] rfl rfl) rfl rfl hl.1 rfl (lv_room (Nat.le_of_ble_eq_true rfl)) dX8_bore_28 ⟨Nat.zero_le _, Nat.zero_le _⟩) hP hD hS hA [] [0, 1, 2, 3] [0, 1, 2, 3] rfl rfl rfl rfl rfl (fun H locs hP hD hS => ?_)
      refine lv_if_ne (tgt := 36) hx hb dX8_bore_31 (by decide) (fun c_3 => ?_) (fun c_3 => ?_)
      · refine lv_aload_n hx hb dX8_bore_36 rfl (lv_at hl 0 rfl) ?_
        refine lv_bipush (v := 8) hx hb dX8_bore_37 (by decide) ?_
        refine lv_iload_n hx hb dX8_bore_39 rfl (lv_at hl 1 rfl) ?_
        refine lv_imul hx hb dX8_bore_40 ?_
        refine lv_iload_n hx hb dX8_bore_41 rfl (lv_at hl 2 rfl) ?_
        refine lv_iadd hx hb dX8_bore_42 ?_
        refine lv_iload_n hx hb dX8_bore_43 rfl (lv_at hl 3 rfl) ?_
        refine k_v (w2 := [(mA, .inr (8, .int (nI nr) :: .int (nI np) :: .ref m2 :: .ref m3 :: .ref m4 :: .ref m5 :: .ref m6 :: .ref m7 :: .ref m8 :: .int q9 :: .int q10 :: .int q11 :: .int ((nI dg) - 1) :: .int q13 :: .int q14 :: .int q15 :: .int q16 :: .int q17 :: .int q18 :: .int q19 :: .int q20 :: .ref m21 :: .ref m22 :: .ref m23 :: .ref m24 :: .int (nI nb) :: .int (nI ln) :: .int (nI po) :: .int q28 :: .int (nI tk) :: .ref m30 :: .ref m31 :: .int (nI we) :: .int q33 :: [])), (m3, .inl (cI, 160, .inl (upd d3 ((8 * row.toNatClampNeg) + place.toNatClampNeg) tin))), (m5, .inl (cZ, 160, .inl (upd d5 ((8 * row.toNatClampNeg) + place.toNatClampNeg) 1))), (m6, .inl (cZ, 160, .inl d6))]) (va_runV (As := [.int ((8 * row) + place), .int tin]) (rest := []) ⟨hx, hb, hml, hown, hts⟩ (c_X8_learns l _ mA m2 m3 m4 m5 m6 m7 m8 m21 m22 m23 m24 m30 m31 q9 q10 q11 q13 q14 q15 q16 q17 q18 q19 q20 q28 q33 nr np nb ln po tk we dg d3 d5 ((8 * row) + place) tin ((8 * row.toNatClampNeg) + place.toNatClampNeg) h20 h2r h2p h8 (nx_add (nx_mul rfl hr1) hp1) (by omega)) (cwV 2 hts gX8_bore_X8_learns rfl rfl rfl (by decide +kernel) ⟨Nat.le_of_ble_eq_true rfl, Nat.le_of_ble_eq_true rfl⟩) (pre_V (ci := 8) (q0 := 0) hB hz hA0 hP hD hS [0, 1, 2] rfl rfl rfl rfl rfl) rfl rfl hl.1 rfl (lv_room (Nat.le_of_ble_eq_true rfl)) dX8_bore_44 ⟨Nat.zero_le _, Nat.zero_le _⟩) hP hD hS hA [0, 1, 2] [3] [1, 2, 3, 0] rfl rfl rfl rfl rfl (fun H locs hP hD hS => ?_)
        refine lv_iconst (v := 1) hx hb dX8_bore_47 (by decide) ?_
        have er : F_X8_bore nr np d6 row place tin = 1 := by rw [F_X8_bore, if_neg c_1, if_pos c_2, if_neg c_3]
        have e1 : F_X8_bore_1 nr np d3 d6 row place tin = upd d3 ((8 * row.toNatClampNeg) + place.toNatClampNeg) tin := by rw [F_X8_bore_1, if_neg c_1, if_pos c_2, if_neg c_3]
        have e2 : F_X8_bore_2 nr np d5 d6 row place tin = upd d5 ((8 * row.toNatClampNeg) + place.toNatClampNeg) 1 := by rw [F_X8_bore_2, if_neg c_1, if_pos c_2, if_neg c_3]
        exact W.zret hx hb hr rfl (fun t ht hW => ⟨⟨_, (), rfl, er.symm, by rw [ht, e1, e2]; exact hP, by rw [e1, e2]; exact hD⟩, hS.F ht⟩) hS.2.2 dX8_bore_48
      · refine lv_iconst (v := 0) hx hb dX8_bore_34 (by decide) ?_
        have er : F_X8_bore nr np d6 row place tin = 0 := by rw [F_X8_bore, if_neg c_1, if_pos c_2, if_pos c_3]
        have e1 : F_X8_bore_1 nr np d3 d6 row place tin = d3 := by rw [F_X8_bore_1, if_neg c_1, if_pos c_2, if_pos c_3]
        have e2 : F_X8_bore_2 nr np d5 d6 row place tin = d5 := by rw [F_X8_bore_2, if_neg c_1, if_pos c_2, if_pos c_3]
        exact W.zret hx hb hr rfl (fun t ht hW => ⟨⟨_, (), rfl, er.symm, by rw [ht, e1, e2]; exact hP, by rw [e1, e2]; exact hD⟩, hS.F ht⟩) hS.2.2 dX8_bore_35

def F_X8_cost (c2 : Int32) : Int32 :=
  if (F_X8_isIn c2 0 1000) = 0 then 0 else
  1
def F_X8_cost_0_10 (q10 : Int32) (c2 : Int32) : Int32 :=
  if (F_X8_isIn c2 0 1000) = 0 then q10 else
  c2
set_option maxHeartbeats 4000000 in
set_option maxRecDepth 100000 in
theorem c_X8_cost (l : Launch) {D : va_G} {cI cZ cB : ClassId} {au : Nat} {kA kV : Nat → Nat} {z0 : Nat} (sz : Nat) (mA : Nat) (m2 : Nat) (m3 : Nat) (m4 : Nat) (m5 : Nat) (m6 : Nat) (m7 : Nat) (m8 : Nat) (m21 : Nat) (m22 : Nat) (m23 : Nat) (m24 : Nat) (m30 : Nat) (m31 : Nat) (q9 : Int32) (q10 : Int32) (q11 : Int32) (q13 : Int32) (q14 : Int32) (q15 : Int32) (q16 : Int32) (q17 : Int32) (q18 : Int32) (q19 : Int32) (q20 : Int32) (q28 : Int32) (q33 : Int32) (nr : Nat) (np : Nat) (nb : Nat) (ln : Nat) (po : Nat) (tk : Nat) (we : Nat) (dg : Nat) (c2 : Int32) (h20 : nr ≤ 20) (h2r : 2 ≤ nr) (h2p : 2 ≤ np) (h8 : np ≤ 8) : Met l yX8_cost wsX8_cost ({ frames := 1, cells := 0, slots := 0, locals := 22 }) (va_Pc [.ref mA, .int c2] (PRE D cI cZ cB au kA kV z0 sz [(mA, .inr (8, .int (nI nr) :: .int (nI np) :: .ref m2 :: .ref m3 :: .ref m4 :: .ref m5 :: .ref m6 :: .ref m7 :: .ref m8 :: .int q9 :: .int q10 :: .int q11 :: .int ((nI dg) - 1) :: .int q13 :: .int q14 :: .int q15 :: .int q16 :: .int q17 :: .int q18 :: .int q19 :: .int q20 :: .ref m21 :: .ref m22 :: .ref m23 :: .ref m24 :: .int (nI nb) :: .int (nI ln) :: .int (nI po) :: .int q28 :: .int (nI tk) :: .ref m30 :: .ref m31 :: .int (nI we) :: .int q33 :: []))])) (QI D [(mA, .inr (8, .int (nI nr) :: .int (nI np) :: .ref m2 :: .ref m3 :: .ref m4 :: .ref m5 :: .ref m6 :: .ref m7 :: .ref m8 :: .int q9 :: .int q10 :: .int q11 :: .int ((nI dg) - 1) :: .int q13 :: .int q14 :: .int q15 :: .int q16 :: .int q17 :: .int q18 :: .int q19 :: .int q20 :: .ref m21 :: .ref m22 :: .ref m23 :: .ref m24 :: .int (nI nb) :: .int (nI ln) :: .int (nI po) :: .int q28 :: .int (nI tk) :: .ref m30 :: .ref m31 :: .int (nI we) :: .int q33 :: []))] sz (F_X8_cost c2) [(mA, .inr (8, .int (nI nr) :: .int (nI np) :: .ref m2 :: .ref m3 :: .ref m4 :: .ref m5 :: .ref m6 :: .ref m7 :: .ref m8 :: .int q9 :: .int (F_X8_cost_0_10 q10 c2) :: .int q11 :: .int ((nI dg) - 1) :: .int q13 :: .int q14 :: .int q15 :: .int q16 :: .int q17 :: .int q18 :: .int q19 :: .int q20 :: .ref m21 :: .ref m22 :: .ref m23 :: .ref m24 :: .int (nI nb) :: .int (nI ln) :: .int (nI po) :: .int q28 :: .int (nI tk) :: .ref m30 :: .ref m31 :: .int (nI we) :: .int q33 :: []))]) 0 0 (va_A [(mA, .inr (8, .int (nI nr) :: .int (nI np) :: .ref m2 :: .ref m3 :: .ref m4 :: .ref m5 :: .ref m6 :: .ref m7 :: .ref m8 :: .int q9 :: .int q10 :: .int q11 :: .int ((nI dg) - 1) :: .int q13 :: .int q14 :: .int q15 :: .int q16 :: .int q17 :: .int q18 :: .int q19 :: .int q20 :: .ref m21 :: .ref m22 :: .ref m23 :: .ref m24 :: .int (nI nb) :: .int (nI ln) :: .int (nI po) :: .int q28 :: .int (nI tk) :: .ref m30 :: .ref m31 :: .int (nI we) :: .int q33 :: []))] sz) := by
  refine Met.ofW (cc := cX8_cost) (maxL := 2) (ret := (some .boolean)) (by decide) rfl ?_
  intro p e s m args below meth c s₁ B hml hv
  obtain ⟨rfl, hsz, hz, hP, hD0, hB⟩ := hv
  have hx := B.exec
  have hb := B.bytes
  have hr := B.returns
  have hts := atoms_spec (ws := wsX8_cost) B.pre
  have hown : s.vm.findClass RX8 = some m.cls := findClass_of_methodNamed B.named
  have hlocks := B.notSynchronized
  subst hsz
  have hD := hD0.self (sz := s.heap.size)
  have hA0 := va_A0 hD0 hz
  unfold QI
  generalize hAe : va_A [(mA, .inr (8, .int (nI nr) :: .int (nI np) :: .ref m2 :: .ref m3 :: .ref m4 :: .ref m5 :: .ref m6 :: .ref m7 :: .ref m8 :: .int q9 :: .int q10 :: .int q11 :: .int ((nI dg) - 1) :: .int q13 :: .int q14 :: .int q15 :: .int q16 :: .int q17 :: .int q18 :: .int q19 :: .int q20 :: .ref m21 :: .ref m22 :: .ref m23 :: .ref m24 :: .int (nI nb) :: .int (nI ln) :: .int (nI po) :: .int q28 :: .int (nI tk) :: .ref m30 :: .ref m31 :: .int (nI we) :: .int q33 :: []))] s.heap.size = A at hD hA0 ⊢
  have hA : ∀ q : Nat, s.heap.size ≤ q → A q := fun q h => by rw [← hAe]; exact Or.inr h
  have hS : va_S A s.heap s.heap [] := va_S.rf
  have hiX8 : ∀ w ∈ wsX80, w ∈ wsX8_cost := fun w h => List.mem_cons_of_mem _ (List.mem_append_right _ h)
  have hl := lv_entry ([.ref mA, .int c2]) (n := 2) (Nat.le_of_ble_eq_true rfl)
  rw [lg_entry_eq]
  generalize (lg_sl ([.ref mA, .int c2]) ++ List.replicate (2 - (lg_sl ([.ref mA, .int c2])).length) Slot.unset).toArray = ls at hl ⊢
  have hl : lv_has ls 2 [(0, .ref mA), (1, .int c2)] := hl
  refine lv_iload_n hx hb dX8_cost_0 rfl (lv_at hl 1 rfl) ?_
  refine lv_iconst (v := 0) hx hb dX8_cost_1 (by decide) ?_
  refine lv_sipush (v := 1000) hx hb dX8_cost_2 (by decide) ?_
  refine k_i (w2 := [(mA, .inr (8, .int (nI nr) :: .int (nI np) :: .ref m2 :: .ref m3 :: .ref m4 :: .ref m5 :: .ref m6 :: .ref m7 :: .ref m8 :: .int q9 :: .int q10 :: .int q11 :: .int ((nI dg) - 1) :: .int q13 :: .int q14 :: .int q15 :: .int q16 :: .int q17 :: .int q18 :: .int q19 :: .int q20 :: .ref m21 :: .ref m22 :: .ref m23 :: .ref m24 :: .int (nI nb) :: .int (nI ln) :: .int (nI po) :: .int q28 :: .int (nI tk) :: .ref m30 :: .ref m31 :: .int (nI we) :: .int q33 :: []))]) (va_runS (As := [.int c2, .int 0, .int 1000]) (rest := []) ⟨hx, hb, hml, hown, hts⟩ (c_X8_isIn l _ c2 0 1000) (va_cwS 3 hts gX8_cost_X8_isIn rfl rfl rfl (by decide +kernel) ⟨Nat.le_of_ble_eq_true rfl, Nat.le_of_ble_eq_true rfl⟩) (pre_S hB hz hA0 hP hD hS [] rfl rfl) rfl rfl hl.1 rfl (lv_room (Nat.le_of_ble_eq_true rfl)) dX8_cost_5 ⟨Nat.zero_le _, Nat.zero_le _⟩) hP hD hS hA [] [0] [0] rfl rfl rfl rfl rfl (fun H locs hP hD hS => ?_)
  refine lv_if_ne (tgt := 13) hx hb dX8_cost_8 (by decide) (fun c_1 => ?_) (fun c_1 => ?_)
  · refine lv_aload_n hx hb dX8_cost_13 rfl (lv_at hl 0 rfl) ?_
    refine lv_iload_n hx hb dX8_cost_14 rfl (lv_at hl 1 rfl) ?_
    refine pf (w2 := [(mA, .inr (8, .int (nI nr) :: .int (nI np) :: .ref m2 :: .ref m3 :: .ref m4 :: .ref m5 :: .ref m6 :: .ref m7 :: .ref m8 :: .int q9 :: .int c2 :: .int q11 :: .int ((nI dg) - 1) :: .int q13 :: .int q14 :: .int q15 :: .int q16 :: .int q17 :: .int q18 :: .int q19 :: .int q20 :: .ref m21 :: .ref m22 :: .ref m23 :: .ref m24 :: .int (nI nb) :: .int (nI ln) :: .int (nI po) :: .int q28 :: .int (nI tk) :: .ref m30 :: .ref m31 :: .int (nI we) :: .int q33 :: []))]) (ci := 8) (C := RX8) (T := TX8) (N := 34) hx hb hts hiX8 tyX8 tyX8_ok nmX8 hown hB.1 hP hD hS 0 rfl rfl 10 (by decide) (hts _ (List.mem_of_getElem? (i := 1) rfl)) rfl rfl rfl rfl (Nat.le_of_ble_eq_true rfl) rfl dX8_cost_15 (fun H locs hP hD hS => ?_)
    refine lv_iconst (v := 1) hx hb dX8_cost_18 (by decide) ?_
    have er : F_X8_cost c2 = 1 := by rw [F_X8_cost, if_neg c_1]
    have e0_10 : F_X8_cost_0_10 q10 c2 = c2 := by rw [F_X8_cost_0_10, if_neg c_1]
    exact W.zret hx hb hr rfl (fun t ht hW => ⟨⟨_, (), rfl, er.symm, by rw [ht, e0_10]; exact hP, by rw [e0_10]; exact hD⟩, hS.F ht⟩) hS.2.2 dX8_cost_19
  · refine lv_iconst (v := 0) hx hb dX8_cost_11 (by decide) ?_
    have er : F_X8_cost c2 = 0 := by rw [F_X8_cost, if_pos c_1]
    have e0_10 : F_X8_cost_0_10 q10 c2 = q10 := by rw [F_X8_cost_0_10, if_pos c_1]
    exact W.zret hx hb hr rfl (fun t ht hW => ⟨⟨_, (), rfl, er.symm, by rw [ht, e0_10]; exact hP, by rw [e0_10]; exact hD⟩, hS.F ht⟩) hS.2.2 dX8_cost_12

def F_X8_jig (speed : Int32) : Int32 :=
  if (F_X8_isIn speed 0 9) = 0 then 0 else
  1
def F_X8_jig_0_17 (q17 : Int32) (speed : Int32) : Int32 :=
  if (F_X8_isIn speed 0 9) = 0 then q17 else
  speed
set_option maxHeartbeats 4000000 in
set_option maxRecDepth 100000 in
theorem c_X8_jig (l : Launch) {D : va_G} {cI cZ cB : ClassId} {au : Nat} {kA kV : Nat → Nat} {z0 : Nat} (sz : Nat) (mA : Nat) (m2 : Nat) (m3 : Nat) (m4 : Nat) (m5 : Nat) (m6 : Nat) (m7 : Nat) (m8 : Nat) (m21 : Nat) (m22 : Nat) (m23 : Nat) (m24 : Nat) (m30 : Nat) (m31 : Nat) (q9 : Int32) (q10 : Int32) (q11 : Int32) (q13 : Int32) (q14 : Int32) (q15 : Int32) (q16 : Int32) (q17 : Int32) (q18 : Int32) (q19 : Int32) (q20 : Int32) (q28 : Int32) (q33 : Int32) (nr : Nat) (np : Nat) (nb : Nat) (ln : Nat) (po : Nat) (tk : Nat) (we : Nat) (dg : Nat) (speed : Int32) (h20 : nr ≤ 20) (h2r : 2 ≤ nr) (h2p : 2 ≤ np) (h8 : np ≤ 8) : Met l yX8_jig wsX8_jig ({ frames := 1, cells := 0, slots := 0, locals := 22 }) (va_Pc [.ref mA, .int speed] (PRE D cI cZ cB au kA kV z0 sz [(mA, .inr (8, .int (nI nr) :: .int (nI np) :: .ref m2 :: .ref m3 :: .ref m4 :: .ref m5 :: .ref m6 :: .ref m7 :: .ref m8 :: .int q9 :: .int q10 :: .int q11 :: .int ((nI dg) - 1) :: .int q13 :: .int q14 :: .int q15 :: .int q16 :: .int q17 :: .int q18 :: .int q19 :: .int q20 :: .ref m21 :: .ref m22 :: .ref m23 :: .ref m24 :: .int (nI nb) :: .int (nI ln) :: .int (nI po) :: .int q28 :: .int (nI tk) :: .ref m30 :: .ref m31 :: .int (nI we) :: .int q33 :: []))])) (QI D [(mA, .inr (8, .int (nI nr) :: .int (nI np) :: .ref m2 :: .ref m3 :: .ref m4 :: .ref m5 :: .ref m6 :: .ref m7 :: .ref m8 :: .int q9 :: .int q10 :: .int q11 :: .int ((nI dg) - 1) :: .int q13 :: .int q14 :: .int q15 :: .int q16 :: .int q17 :: .int q18 :: .int q19 :: .int q20 :: .ref m21 :: .ref m22 :: .ref m23 :: .ref m24 :: .int (nI nb) :: .int (nI ln) :: .int (nI po) :: .int q28 :: .int (nI tk) :: .ref m30 :: .ref m31 :: .int (nI we) :: .int q33 :: []))] sz (F_X8_jig speed) [(mA, .inr (8, .int (nI nr) :: .int (nI np) :: .ref m2 :: .ref m3 :: .ref m4 :: .ref m5 :: .ref m6 :: .ref m7 :: .ref m8 :: .int q9 :: .int q10 :: .int q11 :: .int ((nI dg) - 1) :: .int q13 :: .int q14 :: .int q15 :: .int q16 :: .int (F_X8_jig_0_17 q17 speed) :: .int q18 :: .int q19 :: .int q20 :: .ref m21 :: .ref m22 :: .ref m23 :: .ref m24 :: .int (nI nb) :: .int (nI ln) :: .int (nI po) :: .int q28 :: .int (nI tk) :: .ref m30 :: .ref m31 :: .int (nI we) :: .int q33 :: []))]) 0 0 (va_A [(mA, .inr (8, .int (nI nr) :: .int (nI np) :: .ref m2 :: .ref m3 :: .ref m4 :: .ref m5 :: .ref m6 :: .ref m7 :: .ref m8 :: .int q9 :: .int q10 :: .int q11 :: .int ((nI dg) - 1) :: .int q13 :: .int q14 :: .int q15 :: .int q16 :: .int q17 :: .int q18 :: .int q19 :: .int q20 :: .ref m21 :: .ref m22 :: .ref m23 :: .ref m24 :: .int (nI nb) :: .int (nI ln) :: .int (nI po) :: .int q28 :: .int (nI tk) :: .ref m30 :: .ref m31 :: .int (nI we) :: .int q33 :: []))] sz) := by
  refine Met.ofW (cc := cX8_jig) (maxL := 2) (ret := (some .boolean)) (by decide) rfl ?_
  intro p e s m args below meth c s₁ B hml hv
  obtain ⟨rfl, hsz, hz, hP, hD0, hB⟩ := hv
  have hx := B.exec
  have hb := B.bytes
  have hr := B.returns
  have hts := atoms_spec (ws := wsX8_jig) B.pre
  have hown : s.vm.findClass RX8 = some m.cls := findClass_of_methodNamed B.named
  have hlocks := B.notSynchronized
  subst hsz
  have hD := hD0.self (sz := s.heap.size)
  have hA0 := va_A0 hD0 hz
  unfold QI
  generalize hAe : va_A [(mA, .inr (8, .int (nI nr) :: .int (nI np) :: .ref m2 :: .ref m3 :: .ref m4 :: .ref m5 :: .ref m6 :: .ref m7 :: .ref m8 :: .int q9 :: .int q10 :: .int q11 :: .int ((nI dg) - 1) :: .int q13 :: .int q14 :: .int q15 :: .int q16 :: .int q17 :: .int q18 :: .int q19 :: .int q20 :: .ref m21 :: .ref m22 :: .ref m23 :: .ref m24 :: .int (nI nb) :: .int (nI ln) :: .int (nI po) :: .int q28 :: .int (nI tk) :: .ref m30 :: .ref m31 :: .int (nI we) :: .int q33 :: []))] s.heap.size = A at hD hA0 ⊢
  have hA : ∀ q : Nat, s.heap.size ≤ q → A q := fun q h => by rw [← hAe]; exact Or.inr h
  have hS : va_S A s.heap s.heap [] := va_S.rf
  have hiX8 : ∀ w ∈ wsX80, w ∈ wsX8_jig := fun w h => List.mem_cons_of_mem _ (List.mem_append_right _ h)
  have hl := lv_entry ([.ref mA, .int speed]) (n := 2) (Nat.le_of_ble_eq_true rfl)
  rw [lg_entry_eq]
  generalize (lg_sl ([.ref mA, .int speed]) ++ List.replicate (2 - (lg_sl ([.ref mA, .int speed])).length) Slot.unset).toArray = ls at hl ⊢
  have hl : lv_has ls 2 [(0, .ref mA), (1, .int speed)] := hl
  refine lv_iload_n hx hb dX8_jig_0 rfl (lv_at hl 1 rfl) ?_
  refine lv_iconst (v := 0) hx hb dX8_jig_1 (by decide) ?_
  refine lv_bipush (v := 9) hx hb dX8_jig_2 (by decide) ?_
  refine k_i (w2 := [(mA, .inr (8, .int (nI nr) :: .int (nI np) :: .ref m2 :: .ref m3 :: .ref m4 :: .ref m5 :: .ref m6 :: .ref m7 :: .ref m8 :: .int q9 :: .int q10 :: .int q11 :: .int ((nI dg) - 1) :: .int q13 :: .int q14 :: .int q15 :: .int q16 :: .int q17 :: .int q18 :: .int q19 :: .int q20 :: .ref m21 :: .ref m22 :: .ref m23 :: .ref m24 :: .int (nI nb) :: .int (nI ln) :: .int (nI po) :: .int q28 :: .int (nI tk) :: .ref m30 :: .ref m31 :: .int (nI we) :: .int q33 :: []))]) (va_runS (As := [.int speed, .int 0, .int 9]) (rest := []) ⟨hx, hb, hml, hown, hts⟩ (c_X8_isIn l _ speed 0 9) (va_cwS 3 hts gX8_jig_X8_isIn rfl rfl rfl (by decide +kernel) ⟨Nat.le_of_ble_eq_true rfl, Nat.le_of_ble_eq_true rfl⟩) (pre_S hB hz hA0 hP hD hS [] rfl rfl) rfl rfl hl.1 rfl (lv_room (Nat.le_of_ble_eq_true rfl)) dX8_jig_4 ⟨Nat.zero_le _, Nat.zero_le _⟩) hP hD hS hA [] [0] [0] rfl rfl rfl rfl rfl (fun H locs hP hD hS => ?_)
  refine lv_if_ne (tgt := 12) hx hb dX8_jig_7 (by decide) (fun c_1 => ?_) (fun c_1 => ?_)
  · refine lv_aload_n hx hb dX8_jig_12 rfl (lv_at hl 0 rfl) ?_
    refine lv_iload_n hx hb dX8_jig_13 rfl (lv_at hl 1 rfl) ?_
    refine pf (w2 := [(mA, .inr (8, .int (nI nr) :: .int (nI np) :: .ref m2 :: .ref m3 :: .ref m4 :: .ref m5 :: .ref m6 :: .ref m7 :: .ref m8 :: .int q9 :: .int q10 :: .int q11 :: .int ((nI dg) - 1) :: .int q13 :: .int q14 :: .int q15 :: .int q16 :: .int speed :: .int q18 :: .int q19 :: .int q20 :: .ref m21 :: .ref m22 :: .ref m23 :: .ref m24 :: .int (nI nb) :: .int (nI ln) :: .int (nI po) :: .int q28 :: .int (nI tk) :: .ref m30 :: .ref m31 :: .int (nI we) :: .int q33 :: []))]) (ci := 8) (C := RX8) (T := TX8) (N := 34) hx hb hts hiX8 tyX8 tyX8_ok nmX8 hown hB.1 hP hD hS 0 rfl rfl 17 (by decide) (hts _ (List.mem_of_getElem? (i := 1) rfl)) rfl rfl rfl rfl (Nat.le_of_ble_eq_true rfl) rfl dX8_jig_14 (fun H locs hP hD hS => ?_)
    refine lv_iconst (v := 1) hx hb dX8_jig_17 (by decide) ?_
    have er : F_X8_jig speed = 1 := by rw [F_X8_jig, if_neg c_1]
    have e0_17 : F_X8_jig_0_17 q17 speed = speed := by rw [F_X8_jig_0_17, if_neg c_1]
    exact W.zret hx hb hr rfl (fun t ht hW => ⟨⟨_, (), rfl, er.symm, by rw [ht, e0_17]; exact hP, by rw [e0_17]; exact hD⟩, hS.F ht⟩) hS.2.2 dX8_jig_18
  · refine lv_iconst (v := 0) hx hb dX8_jig_10 (by decide) ?_
    have er : F_X8_jig speed = 0 := by rw [F_X8_jig, if_pos c_1]
    have e0_17 : F_X8_jig_0_17 q17 speed = q17 := by rw [F_X8_jig_0_17, if_pos c_1]
    exact W.zret hx hb hr rfl (fun t ht hW => ⟨⟨_, (), rfl, er.symm, by rw [ht, e0_17]; exact hP, by rw [e0_17]; exact hD⟩, hS.F ht⟩) hS.2.2 dX8_jig_11

set_option maxHeartbeats 4000000 in
set_option maxRecDepth 100000 in
theorem c_X8_fault (l : Launch) {D : va_G} {cI cZ cB : ClassId} {au : Nat} {kA kV : Nat → Nat} {z0 : Nat} (sz : Nat) (mA : Nat) (m2 : Nat) (m3 : Nat) (m4 : Nat) (m5 : Nat) (m6 : Nat) (m7 : Nat) (m8 : Nat) (m21 : Nat) (m22 : Nat) (m23 : Nat) (m24 : Nat) (m30 : Nat) (m31 : Nat) (q9 : Int32) (q10 : Int32) (q11 : Int32) (q13 : Int32) (q14 : Int32) (q15 : Int32) (q16 : Int32) (q17 : Int32) (q18 : Int32) (q19 : Int32) (q20 : Int32) (q28 : Int32) (q33 : Int32) (nr : Nat) (np : Nat) (nb : Nat) (ln : Nat) (po : Nat) (tk : Nat) (we : Nat) (dg : Nat) (h20 : nr ≤ 20) (h2r : 2 ≤ nr) (h2p : 2 ≤ np) (h8 : np ≤ 8) : Met l yX8_fault wsX8_fault ({ frames := 0, cells := 0, slots := 0, locals := 0 }) (va_Pc [.ref mA] (PRE D cI cZ cB au kA kV z0 sz [(mA, .inr (8, .int (nI nr) :: .int (nI np) :: .ref m2 :: .ref m3 :: .ref m4 :: .ref m5 :: .ref m6 :: .ref m7 :: .ref m8 :: .int q9 :: .int q10 :: .int q11 :: .int ((nI dg) - 1) :: .int q13 :: .int q14 :: .int q15 :: .int q16 :: .int q17 :: .int q18 :: .int q19 :: .int q20 :: .ref m21 :: .ref m22 :: .ref m23 :: .ref m24 :: .int (nI nb) :: .int (nI ln) :: .int (nI po) :: .int q28 :: .int (nI tk) :: .ref m30 :: .ref m31 :: .int (nI we) :: .int q33 :: []))])) (QI D [(mA, .inr (8, .int (nI nr) :: .int (nI np) :: .ref m2 :: .ref m3 :: .ref m4 :: .ref m5 :: .ref m6 :: .ref m7 :: .ref m8 :: .int q9 :: .int q10 :: .int q11 :: .int ((nI dg) - 1) :: .int q13 :: .int q14 :: .int q15 :: .int q16 :: .int q17 :: .int q18 :: .int q19 :: .int q20 :: .ref m21 :: .ref m22 :: .ref m23 :: .ref m24 :: .int (nI nb) :: .int (nI ln) :: .int (nI po) :: .int q28 :: .int (nI tk) :: .ref m30 :: .ref m31 :: .int (nI we) :: .int q33 :: []))] sz q28 [(mA, .inr (8, .int (nI nr) :: .int (nI np) :: .ref m2 :: .ref m3 :: .ref m4 :: .ref m5 :: .ref m6 :: .ref m7 :: .ref m8 :: .int q9 :: .int q10 :: .int q11 :: .int ((nI dg) - 1) :: .int q13 :: .int q14 :: .int q15 :: .int q16 :: .int q17 :: .int q18 :: .int q19 :: .int q20 :: .ref m21 :: .ref m22 :: .ref m23 :: .ref m24 :: .int (nI nb) :: .int (nI ln) :: .int (nI po) :: .int q28 :: .int (nI tk) :: .ref m30 :: .ref m31 :: .int (nI we) :: .int q33 :: []))]) 0 0 (va_A [(mA, .inr (8, .int (nI nr) :: .int (nI np) :: .ref m2 :: .ref m3 :: .ref m4 :: .ref m5 :: .ref m6 :: .ref m7 :: .ref m8 :: .int q9 :: .int q10 :: .int q11 :: .int ((nI dg) - 1) :: .int q13 :: .int q14 :: .int q15 :: .int q16 :: .int q17 :: .int q18 :: .int q19 :: .int q20 :: .ref m21 :: .ref m22 :: .ref m23 :: .ref m24 :: .int (nI nb) :: .int (nI ln) :: .int (nI po) :: .int q28 :: .int (nI tk) :: .ref m30 :: .ref m31 :: .int (nI we) :: .int q33 :: []))] sz) := by
  refine Met.ofW (cc := cX8_fault) (maxL := 1) (ret := (some .int)) (by decide) rfl ?_
  intro p e s m args below meth c s₁ B hml hv
  obtain ⟨rfl, hsz, hz, hP, hD0, hB⟩ := hv
  have hx := B.exec
  have hb := B.bytes
  have hr := B.returns
  have hts := atoms_spec (ws := wsX8_fault) B.pre
  have hown : s.vm.findClass RX8 = some m.cls := findClass_of_methodNamed B.named
  have hlocks := B.notSynchronized
  subst hsz
  have hD := hD0.self (sz := s.heap.size)
  have hA0 := va_A0 hD0 hz
  unfold QI
  generalize hAe : va_A [(mA, .inr (8, .int (nI nr) :: .int (nI np) :: .ref m2 :: .ref m3 :: .ref m4 :: .ref m5 :: .ref m6 :: .ref m7 :: .ref m8 :: .int q9 :: .int q10 :: .int q11 :: .int ((nI dg) - 1) :: .int q13 :: .int q14 :: .int q15 :: .int q16 :: .int q17 :: .int q18 :: .int q19 :: .int q20 :: .ref m21 :: .ref m22 :: .ref m23 :: .ref m24 :: .int (nI nb) :: .int (nI ln) :: .int (nI po) :: .int q28 :: .int (nI tk) :: .ref m30 :: .ref m31 :: .int (nI we) :: .int q33 :: []))] s.heap.size = A at hD hA0 ⊢
  have hA : ∀ q : Nat, s.heap.size ≤ q → A q := fun q h => by rw [← hAe]; exact Or.inr h
  have hS : va_S A s.heap s.heap [] := va_S.rf
  have hiX8 : ∀ w ∈ wsX80, w ∈ wsX8_fault := fun w h => List.mem_cons_of_mem _ (List.mem_append_right _ h)
  have hl := lv_entry ([.ref mA]) (n := 1) (Nat.le_of_ble_eq_true rfl)
  rw [lg_entry_eq]
  generalize (lg_sl ([.ref mA]) ++ List.replicate (1 - (lg_sl ([.ref mA])).length) Slot.unset).toArray = ls at hl ⊢
  have hl : lv_has ls 1 [(0, .ref mA)] := hl
  refine lv_aload_n hx hb dX8_fault_0 rfl (lv_at hl 0 rfl) ?_
  refine va_get (D := D) (ci := 8) (v := .int q28) (C := RX8) (T := TX8) (N := 34) hx hb hts hiX8 hown hB.1 hP 0 rfl rfl 28 (by decide) (hts _ (List.mem_of_getElem? (i := 1) rfl)) (fun _ h9 => h9) rfl dX8_fault_1 ?_
  exact W.iret hx hb hr (fun t ht hW => ⟨⟨_, (), rfl, rfl, by rw [ht]; exact hP, hD⟩, hS.F ht⟩) hS.2.2 dX8_fault_4

def F_X8_end0_L54 (q9 : Int32) (d3 : Nat → Int32) (d5 : Nat → Int32) (i : Nat) (j : Nat) (u : Nat) (v : Nat) (s_ : Int32) : Int32 :=
    if (d5 ((8 * u) + v)) = 0 then (s_) else
    (if s_ < ((d3 ((8 * u) + v)) - (q9 * ((if 0 ≤ ((nI u) - (nI i)) then ((nI u) - (nI i)) else 0 - ((nI u) - (nI i))) + (if 0 ≤ ((nI v) - (nI j)) then ((nI v) - (nI j)) else 0 - ((nI v) - (nI j)))))) then ((d3 ((8 * u) + v)) - (q9 * ((if 0 ≤ ((nI u) - (nI i)) then ((nI u) - (nI i)) else 0 - ((nI u) - (nI i))) + (if 0 ≤ ((nI v) - (nI j)) then ((nI v) - (nI j)) else 0 - ((nI v) - (nI j)))))) else s_)
def F_X8_end0_L42 (q9 : Int32) (np : Nat) (d3 : Nat → Int32) (d5 : Nat → Int32) (i : Nat) (j : Nat) (u : Nat) (s_ : Int32) : Int32 :=
    (lp (F_X8_end0_L54 q9 d3 d5 i j u) np s_)
def F_X8_end0 (q9 : Int32) (nr : Nat) (np : Nat) (d3 : Nat → Int32) (d5 : Nat → Int32) (i : Nat) (j : Nat) : Int32 :=
  if (d5 ((8 * i) + j)) = 0 then (lp (F_X8_end0_L42 q9 np d3 d5 i j) nr 0) else
  d3 ((8 * i) + j)
set_option maxHeartbeats 4000000 in
set_option maxRecDepth 100000 in
theorem c_X8_end0 (l : Launch) {D : va_G} {cI cZ cB : ClassId} {au : Nat} {kA kV : Nat → Nat} {z0 : Nat} (sz : Nat) (mA : Nat) (m2 : Nat) (m3 : Nat) (m4 : Nat) (m5 : Nat) (m6 : Nat) (m7 : Nat) (m8 : Nat) (m21 : Nat) (m22 : Nat) (m23 : Nat) (m24 : Nat) (m30 : Nat) (m31 : Nat) (q9 : Int32) (q10 : Int32) (q11 : Int32) (q13 : Int32) (q14 : Int32) (q15 : Int32) (q16 : Int32) (q17 : Int32) (q18 : Int32) (q19 : Int32) (q20 : Int32) (q28 : Int32) (q33 : Int32) (nr : Nat) (np : Nat) (nb : Nat) (ln : Nat) (po : Nat) (tk : Nat) (we : Nat) (dg : Nat) (d3 : Nat → Int32) (d5 : Nat → Int32) (row : Int32) (place : Int32) (i : Nat) (j : Nat) (h20 : nr ≤ 20) (h2r : 2 ≤ nr) (h2p : 2 ≤ np) (h8 : np ≤ 8) (e_i : row = nI i) (e_j : place = nI j) (hi : i < nr) (hj : j < np) : Met l yX8_end wsX8_end ({ frames := 1, cells := 0, slots := 0, locals := 21 }) (va_Pc [.ref mA, .int row, .int place, .int 0] (PRE D cI cZ cB au kA kV z0 sz [(mA, .inr (8, .int (nI nr) :: .int (nI np) :: .ref m2 :: .ref m3 :: .ref m4 :: .ref m5 :: .ref m6 :: .ref m7 :: .ref m8 :: .int q9 :: .int q10 :: .int q11 :: .int ((nI dg) - 1) :: .int q13 :: .int q14 :: .int q15 :: .int q16 :: .int q17 :: .int q18 :: .int q19 :: .int q20 :: .ref m21 :: .ref m22 :: .ref m23 :: .ref m24 :: .int (nI nb) :: .int (nI ln) :: .int (nI po) :: .int q28 :: .int (nI tk) :: .ref m30 :: .ref m31 :: .int (nI we) :: .int q33 :: [])), (m3, .inl (cI, 160, .inl d3)), (m5, .inl (cZ, 160, .inl d5))])) (QI D [(mA, .inr (8, .int (nI nr) :: .int (nI np) :: .ref m2 :: .ref m3 :: .ref m4 :: .ref m5 :: .ref m6 :: .ref m7 :: .ref m8 :: .int q9 :: .int q10 :: .int q11 :: .int ((nI dg) - 1) :: .int q13 :: .int q14 :: .int q15 :: .int q16 :: .int q17 :: .int q18 :: .int q19 :: .int q20 :: .ref m21 :: .ref m22 :: .ref m23 :: .ref m24 :: .int (nI nb) :: .int (nI ln) :: .int (nI po) :: .int q28 :: .int (nI tk) :: .ref m30 :: .ref m31 :: .int (nI we) :: .int q33 :: [])), (m3, .inl (cI, 160, .inl d3)), (m5, .inl (cZ, 160, .inl d5))] sz (F_X8_end0 q9 nr np d3 d5 i j) [(mA, .inr (8, .int (nI nr) :: .int (nI np) :: .ref m2 :: .ref m3 :: .ref m4 :: .ref m5 :: .ref m6 :: .ref m7 :: .ref m8 :: .int q9 :: .int q10 :: .int q11 :: .int ((nI dg) - 1) :: .int q13 :: .int q14 :: .int q15 :: .int q16 :: .int q17 :: .int q18 :: .int q19 :: .int q20 :: .ref m21 :: .ref m22 :: .ref m23 :: .ref m24 :: .int (nI nb) :: .int (nI ln) :: .int (nI po) :: .int q28 :: .int (nI tk) :: .ref m30 :: .ref m31 :: .int (nI we) :: .int q33 :: [])), (m3, .inl (cI, 160, .inl d3)), (m5, .inl (cZ, 160, .inl d5))]) 0 0 (va_A [(mA, .inr (8, .int (nI nr) :: .int (nI np) :: .ref m2 :: .ref m3 :: .ref m4 :: .ref m5 :: .ref m6 :: .ref m7 :: .ref m8 :: .int q9 :: .int q10 :: .int q11 :: .int ((nI dg) - 1) :: .int q13 :: .int q14 :: .int q15 :: .int q16 :: .int q17 :: .int q18 :: .int q19 :: .int q20 :: .ref m21 :: .ref m22 :: .ref m23 :: .ref m24 :: .int (nI nb) :: .int (nI ln) :: .int (nI po) :: .int q28 :: .int (nI tk) :: .ref m30 :: .ref m31 :: .int (nI we) :: .int q33 :: [])), (m3, .inl (cI, 160, .inl d3)), (m5, .inl (cZ, 160, .inl d5))] sz) := by
  subst e_i
  subst e_j
  refine Met.ofW (cc := cX8_end) (maxL := 9) (ret := (some .int)) (by decide) rfl ?_
  intro p e s m args below meth c s₁ B hml hv
  obtain ⟨rfl, hsz, hz, hP, hD0, hB⟩ := hv
  have hx := B.exec
  have hb := B.bytes
  have hr := B.returns
  have hts := atoms_spec (ws := wsX8_end) B.pre
  have hown : s.vm.findClass RX8 = some m.cls := findClass_of_methodNamed B.named
  have hlocks := B.notSynchronized
  subst hsz
  have hD := hD0.self (sz := s.heap.size)
  have hA0 := va_A0 hD0 hz
  unfold QI
  generalize hAe : va_A [(mA, .inr (8, .int (nI nr) :: .int (nI np) :: .ref m2 :: .ref m3 :: .ref m4 :: .ref m5 :: .ref m6 :: .ref m7 :: .ref m8 :: .int q9 :: .int q10 :: .int q11 :: .int ((nI dg) - 1) :: .int q13 :: .int q14 :: .int q15 :: .int q16 :: .int q17 :: .int q18 :: .int q19 :: .int q20 :: .ref m21 :: .ref m22 :: .ref m23 :: .ref m24 :: .int (nI nb) :: .int (nI ln) :: .int (nI po) :: .int q28 :: .int (nI tk) :: .ref m30 :: .ref m31 :: .int (nI we) :: .int q33 :: [])), (m3, .inl (cI, 160, .inl d3)), (m5, .inl (cZ, 160, .inl d5))] s.heap.size = A at hD hA0 ⊢
  have hA : ∀ q : Nat, s.heap.size ≤ q → A q := fun q h => by rw [← hAe]; exact Or.inr h
  have hS : va_S A s.heap s.heap [] := va_S.rf
  have hiX8 : ∀ w ∈ wsX80, w ∈ wsX8_end := fun w h => List.mem_cons_of_mem _ (List.mem_append_right _ h)
  have hl := lv_entry ([.ref mA, .int (nI i), .int (nI j), .int 0]) (n := 9) (Nat.le_of_ble_eq_true rfl)
  rw [lg_entry_eq]
  generalize (lg_sl ([.ref mA, .int (nI i), .int (nI j), .int 0]) ++ List.replicate (9 - (lg_sl ([.ref mA, .int (nI i), .int (nI j), .int 0])).length) Slot.unset).toArray = ls at hl ⊢
  have hl : lv_has ls 9 [(0, .ref mA), (1, .int (nI i)), (2, .int (nI j)), (3, .int 0)] := hl
  refine lv_bipush (v := 8) hx hb dX8_end_0 (by decide) ?_
  refine lv_iload_n hx hb dX8_end_2 rfl (lv_at hl 1 rfl) ?_
  refine lv_imul hx hb dX8_end_3 ?_
  refine lv_iload_n hx hb dX8_end_4 rfl (lv_at hl 2 rfl) ?_
  refine lv_iadd hx hb dX8_end_5 ?_
  refine lv_istore (lv' := [(4, .int ((8 * (nI i)) + (nI j))), (0, .ref mA), (1, .int (nI i)), (2, .int (nI j)), (3, .int 0)]) hx hb dX8_end_6 hl (by decide) rfl (fun ls hl => ?_)
  refine lv_aload_n hx hb dX8_end_8 rfl (lv_at hl 1 rfl) ?_
  refine va_get (D := D) (ci := 8) (v := .ref m5) (C := RX8) (T := TX8) (N := 34) hx hb hts hiX8 hown hB.1 hP 0 rfl rfl 5 (by decide) (hts _ (List.mem_of_getElem? (i := 1) rfl)) (fun _ h9 => h9) rfl dX8_end_9 ?_
  refine lv_iload hx hb dX8_end_12 (lv_at hl 0 rfl) ?_
  refine ra_z hx hb hB.1 hP 2 rfl ((8 * i) + j) (nx_add (nx_mul rfl rfl) rfl) (by omega) (by decide) dX8_end_14 ?_
  refine lv_if_eq (tgt := 26) hx hb dX8_end_15 (by decide) (fun c_1 => ?_) (fun c_1 => ?_)
  · refine lv_iload_n hx hb dX8_end_26 rfl (lv_at hl 4 rfl) ?_
    refine lv_if_eq (tgt := 36) hx hb dX8_end_27 (by decide) (fun c_2 => ?_) (fun c_2 => ?_)
    · refine lv_iconst (v := 0) hx hb dX8_end_36 (by decide) ?_
      refine lv_istore (lv' := [(5, .int 0), (4, .int ((8 * (nI i)) + (nI j))), (0, .ref mA), (1, .int (nI i)), (2, .int (nI j)), (3, .int 0)]) hx hb dX8_end_37 hl (by decide) rfl (fun ls hl => ?_)
      refine lv_iconst (v := 0) hx hb dX8_end_39 (by decide) ?_
      refine lv_istore (lv' := [(6, .int 0), (5, .int 0), (4, .int ((8 * (nI i)) + (nI j))), (0, .ref mA), (1, .int (nI i)), (2, .int (nI j)), (3, .int 0)]) hx hb dX8_end_40 hl (by decide) rfl (fun ls hl => ?_)
      refine lpM (σ := Nat) (fun u => u ≤ nr) (fun u => nr - u) (fun u => [(mA, .inr (8, .int (nI nr) :: .int (nI np) :: .ref m2 :: .ref m3 :: .ref m4 :: .ref m5 :: .ref m6 :: .ref m7 :: .ref m8 :: .int q9 :: .int q10 :: .int q11 :: .int ((nI dg) - 1) :: .int q13 :: .int q14 :: .int q15 :: .int q16 :: .int q17 :: .int q18 :: .int q19 :: .int q20 :: .ref m21 :: .ref m22 :: .ref m23 :: .ref m24 :: .int (nI nb) :: .int (nI ln) :: .int (nI po) :: .int q28 :: .int (nI tk) :: .ref m30 :: .ref m31 :: .int (nI we) :: .int q33 :: [])), (m3, .inl (cI, 160, .inl d3)), (m5, .inl (cZ, 160, .inl d5))]) (fun u => [(6, .int (nI u)), (5, .int (lp (F_X8_end0_L42 q9 np d3 d5 i j) u 0)), (0, .ref mA), (1, .int (nI i)), (2, .int (nI j)), (3, .int 0)]) 0 (Nat.zero_le _) hP hD hS (lv_sub hl [0, 1, 3, 4, 5, 6] rfl) ?_
      intro u h_u ih_u H locs ls hP hD hS hl
      have hP : va_P D vwCl [(mA, .inr (8, .int (nI nr) :: .int (nI np) :: .ref m2 :: .ref m3 :: .ref m4 :: .ref m5 :: .ref m6 :: .ref m7 :: .ref m8 :: .int q9 :: .int q10 :: .int q11 :: .int ((nI dg) - 1) :: .int q13 :: .int q14 :: .int q15 :: .int q16 :: .int q17 :: .int q18 :: .int q19 :: .int q20 :: .ref m21 :: .ref m22 :: .ref m23 :: .ref m24 :: .int (nI nb) :: .int (nI ln) :: .int (nI po) :: .int q28 :: .int (nI tk) :: .ref m30 :: .ref m31 :: .int (nI we) :: .int q33 :: [])), (m3, .inl (cI, 160, .inl d3)), (m5, .inl (cZ, 160, .inl d5))] H := hP
      have hD : va_D A [(mA, .inr (8, .int (nI nr) :: .int (nI np) :: .ref m2 :: .ref m3 :: .ref m4 :: .ref m5 :: .ref m6 :: .ref m7 :: .ref m8 :: .int q9 :: .int q10 :: .int q11 :: .int ((nI dg) - 1) :: .int q13 :: .int q14 :: .int q15 :: .int q16 :: .int q17 :: .int q18 :: .int q19 :: .int q20 :: .ref m21 :: .ref m22 :: .ref m23 :: .ref m24 :: .int (nI nb) :: .int (nI ln) :: .int (nI po) :: .int q28 :: .int (nI tk) :: .ref m30 :: .ref m31 :: .int (nI we) :: .int q33 :: [])), (m3, .inl (cI, 160, .inl d3)), (m5, .inl (cZ, 160, .inl d5))] := hD
      have hl : lv_has ls 9 [(6, .int (nI u)), (5, .int (lp (F_X8_end0_L42 q9 np d3 d5 i j) u 0)), (0, .ref mA), (1, .int (nI i)), (2, .int (nI j)), (3, .int 0)] := hl
      generalize hs_u : lp (F_X8_end0_L42 q9 np d3 d5 i j) u 0 = sv3 at hl
      refine lv_iload hx hb dX8_end_42 (lv_at hl 0 rfl) ?_
      refine lv_aload_n hx hb dX8_end_44 rfl (lv_at hl 2 rfl) ?_
      refine va_get (D := D) (ci := 8) (v := .int (nI nr)) (C := RX8) (T := TX8) (N := 34) hx hb hts hiX8 hown hB.1 hP 0 rfl rfl 0 (by decide) (hts _ (List.mem_of_getElem? (i := 3) rfl)) (fun _ h9 => h9) rfl dX8_end_45 ?_
      refine lv_icmp_ge (tgt := 167) hx hb dX8_end_48 (by decide) (fun c_4 => ?_) (fun c_4 => ?_)
      · have hx_u : nr = u := Eq.symm (le_ex (by omega) h_u c_4)
        subst hx_u
        subst hs_u
        refine lv_iload hx hb dX8_end_167 (lv_at hl 1 rfl) ?_
        have er : F_X8_end0 q9 nr np d3 d5 i j = (lp (F_X8_end0_L42 q9 np d3 d5 i j) nr 0) := by rw [F_X8_end0, if_pos c_1]
        exact W.iret hx hb hr (fun t ht hW => ⟨⟨_, (), rfl, er.symm, by rw [ht]; exact hP, hD⟩, hS.F ht⟩) hS.2.2 dX8_end_169
      · have hlt_u : u < nr := le_go (by omega) h_u c_4
        refine lv_iconst (v := 0) hx hb dX8_end_51 (by decide) ?_
        refine lv_istore (lv' := [(7, .int 0), (6, .int (nI u)), (5, .int sv3), (0, .ref mA), (1, .int (nI i)), (2, .int (nI j)), (3, .int 0)]) hx hb dX8_end_52 hl (by decide) rfl (fun ls hl => ?_)
        refine lpM (σ := Nat) (fun v => v ≤ np) (fun v => np - v) (fun v => [(mA, .inr (8, .int (nI nr) :: .int (nI np) :: .ref m2 :: .ref m3 :: .ref m4 :: .ref m5 :: .ref m6 :: .ref m7 :: .ref m8 :: .int q9 :: .int q10 :: .int q11 :: .int ((nI dg) - 1) :: .int q13 :: .int q14 :: .int q15 :: .int q16 :: .int q17 :: .int q18 :: .int q19 :: .int q20 :: .ref m21 :: .ref m22 :: .ref m23 :: .ref m24 :: .int (nI nb) :: .int (nI ln) :: .int (nI po) :: .int q28 :: .int (nI tk) :: .ref m30 :: .ref m31 :: .int (nI we) :: .int q33 :: [])), (m3, .inl (cI, 160, .inl d3)), (m5, .inl (cZ, 160, .inl d5))]) (fun v => [(7, .int (nI v)), (6, .int (nI u)), (5, .int (lp (F_X8_end0_L54 q9 d3 d5 i j u) v sv3)), (0, .ref mA), (1, .int (nI i)), (2, .int (nI j)), (3, .int 0)]) 0 (Nat.zero_le _) hP hD hS (lv_sub hl [0, 1, 2, 3, 4, 5, 6] rfl) ?_
        intro v h_v ih_v H locs ls hP hD hS hl
        have hP : va_P D vwCl [(mA, .inr (8, .int (nI nr) :: .int (nI np) :: .ref m2 :: .ref m3 :: .ref m4 :: .ref m5 :: .ref m6 :: .ref m7 :: .ref m8 :: .int q9 :: .int q10 :: .int q11 :: .int ((nI dg) - 1) :: .int q13 :: .int q14 :: .int q15 :: .int q16 :: .int q17 :: .int q18 :: .int q19 :: .int q20 :: .ref m21 :: .ref m22 :: .ref m23 :: .ref m24 :: .int (nI nb) :: .int (nI ln) :: .int (nI po) :: .int q28 :: .int (nI tk) :: .ref m30 :: .ref m31 :: .int (nI we) :: .int q33 :: [])), (m3, .inl (cI, 160, .inl d3)), (m5, .inl (cZ, 160, .inl d5))] H := hP
        have hD : va_D A [(mA, .inr (8, .int (nI nr) :: .int (nI np) :: .ref m2 :: .ref m3 :: .ref m4 :: .ref m5 :: .ref m6 :: .ref m7 :: .ref m8 :: .int q9 :: .int q10 :: .int q11 :: .int ((nI dg) - 1) :: .int q13 :: .int q14 :: .int q15 :: .int q16 :: .int q17 :: .int q18 :: .int q19 :: .int q20 :: .ref m21 :: .ref m22 :: .ref m23 :: .ref m24 :: .int (nI nb) :: .int (nI ln) :: .int (nI po) :: .int q28 :: .int (nI tk) :: .ref m30 :: .ref m31 :: .int (nI we) :: .int q33 :: [])), (m3, .inl (cI, 160, .inl d3)), (m5, .inl (cZ, 160, .inl d5))] := hD
        have hl : lv_has ls 9 [(7, .int (nI v)), (6, .int (nI u)), (5, .int (lp (F_X8_end0_L54 q9 d3 d5 i j u) v sv3)), (0, .ref mA), (1, .int (nI i)), (2, .int (nI j)), (3, .int 0)] := hl
        generalize hs_v : lp (F_X8_end0_L54 q9 d3 d5 i j u) v sv3 = sv5 at hl
        refine lv_iload hx hb dX8_end_54 (lv_at hl 0 rfl) ?_
        refine lv_aload_n hx hb dX8_end_56 rfl (lv_at hl 3 rfl) ?_
        refine va_get (D := D) (ci := 8) (v := .int (nI np)) (C := RX8) (T := TX8) (N := 34) hx hb hts hiX8 hown hB.1 hP 0 rfl rfl 1 (by decide) (hts _ (List.mem_of_getElem? (i := 4) rfl)) (fun _ h9 => h9) rfl dX8_end_57 ?_
        refine lv_icmp_ge (tgt := 161) hx hb dX8_end_60 (by decide) (fun c_6 => ?_) (fun c_6 => ?_)
        · have hx_v : np = v := Eq.symm (le_ex (by omega) h_v c_6)
          subst hx_v
          subst hs_v
          refine lv_iinc (v := nI (u + 1)) (lv' := [(6, .int (nI (u + 1))), (7, .int (nI np)), (5, .int (lp (F_X8_end0_L54 q9 d3 d5 i j u) np sv3)), (0, .ref mA), (1, .int (nI i)), (2, .int (nI j)), (3, .int 0)]) hx hb dX8_end_161 hl (k := 1) rfl (nI_1 _) (by decide) rfl (fun ls hl => ?_)
          refine lv_goto (tgt := 42) hx hb dX8_end_164 (by decide) ?_
          have e_step : F_X8_end0_L42 q9 np d3 d5 i j u sv3 = (lp (F_X8_end0_L54 q9 d3 d5 i j u) np sv3) := by rw [F_X8_end0_L42]
          have hP2 : va_P D vwCl [(mA, .inr (8, .int (nI nr) :: .int (nI np) :: .ref m2 :: .ref m3 :: .ref m4 :: .ref m5 :: .ref m6 :: .ref m7 :: .ref m8 :: .int q9 :: .int q10 :: .int q11 :: .int ((nI dg) - 1) :: .int q13 :: .int q14 :: .int q15 :: .int q16 :: .int q17 :: .int q18 :: .int q19 :: .int q20 :: .ref m21 :: .ref m22 :: .ref m23 :: .ref m24 :: .int (nI nb) :: .int (nI ln) :: .int (nI po) :: .int q28 :: .int (nI tk) :: .ref m30 :: .ref m31 :: .int (nI we) :: .int q33 :: [])), (m3, .inl (cI, 160, .inl d3)), (m5, .inl (cZ, 160, .inl d5))] H := hP
          have hD2 : va_D A [(mA, .inr (8, .int (nI nr) :: .int (nI np) :: .ref m2 :: .ref m3 :: .ref m4 :: .ref m5 :: .ref m6 :: .ref m7 :: .ref m8 :: .int q9 :: .int q10 :: .int q11 :: .int ((nI dg) - 1) :: .int q13 :: .int q14 :: .int q15 :: .int q16 :: .int q17 :: .int q18 :: .int q19 :: .int q20 :: .ref m21 :: .ref m22 :: .ref m23 :: .ref m24 :: .int (nI nb) :: .int (nI ln) :: .int (nI po) :: .int q28 :: .int (nI tk) :: .ref m30 :: .ref m31 :: .int (nI we) :: .int q33 :: [])), (m3, .inl (cI, 160, .inl d3)), (m5, .inl (cZ, 160, .inl d5))] := hD
          have hl2 : lv_has ls 9 [(6, .int (nI (u + 1))), (5, .int (F_X8_end0_L42 q9 np d3 d5 i j u sv3)), (0, .ref mA), (1, .int (nI i)), (2, .int (nI j)), (3, .int 0)] := by rw [e_step]; exact lv_sub hl [0, 2, 3, 4, 5, 6] rfl
          subst hs_u
          exact ih_u (u + 1) (by omega) (by omega) _ _ _ hP2 hD2 hS hl2
        · have hlt_v : v < np := le_go (by omega) h_v c_6
          refine lv_aload_n hx hb dX8_end_63 rfl (lv_at hl 3 rfl) ?_
          refine va_get (D := D) (ci := 8) (v := .ref m5) (C := RX8) (T := TX8) (N := 34) hx hb hts hiX8 hown hB.1 hP 0 rfl rfl 5 (by decide) (hts _ (List.mem_of_getElem? (i := 1) rfl)) (fun _ h9 => h9) rfl dX8_end_64 ?_
          refine lv_bipush (v := 8) hx hb dX8_end_67 (by decide) ?_
          refine lv_iload hx hb dX8_end_69 (lv_at hl 1 rfl) ?_
          refine lv_imul hx hb dX8_end_71 ?_
          refine lv_iload hx hb dX8_end_72 (lv_at hl 0 rfl) ?_
          refine lv_iadd hx hb dX8_end_74 ?_
          refine ra_z hx hb hB.1 hP 2 rfl ((8 * u) + v) (nx_add (nx_mul rfl rfl) rfl) (by omega) (by decide) dX8_end_75 ?_
          refine lv_if_ne (tgt := 82) hx hb dX8_end_76 (by decide) (fun c_7 => ?_) (fun c_7 => ?_)
          · refine lv_aload_n hx hb dX8_end_82 rfl (lv_at hl 3 rfl) ?_
            refine va_get (D := D) (ci := 8) (v := .int q9) (C := RX8) (T := TX8) (N := 34) hx hb hts hiX8 hown hB.1 hP 0 rfl rfl 9 (by decide) (hts _ (List.mem_of_getElem? (i := 5) rfl)) (fun _ h9 => h9) rfl dX8_end_83 ?_
            refine lv_iload hx hb dX8_end_86 (lv_at hl 1 rfl) ?_
            refine lv_iload_n hx hb dX8_end_88 rfl (lv_at hl 4 rfl) ?_
            refine lv_isub hx hb dX8_end_89 ?_
            refine va_mabs hx hb (hml.trans hl.1.symm) hown (hts _ (List.mem_of_getElem? (i := 6) rfl)) (hts _ (List.mem_of_getElem? (i := 7) rfl)) (hts _ (List.mem_of_getElem? (i := 8) rfl)) (hts _ (List.mem_of_getElem? (i := 9) rfl)) (Nat.le_of_ble_eq_true rfl) (Nat.le_of_ble_eq_true rfl) (Nat.zero_le _) (Nat.zero_le _) dX8_end_90 ?_
            refine lv_iload hx hb dX8_end_93 (lv_at hl 0 rfl) ?_
            refine lv_iload_n hx hb dX8_end_95 rfl (lv_at hl 5 rfl) ?_
            refine lv_isub hx hb dX8_end_96 ?_
            refine va_mabs hx hb (hml.trans hl.1.symm) hown (hts _ (List.mem_of_getElem? (i := 6) rfl)) (hts _ (List.mem_of_getElem? (i := 7) rfl)) (hts _ (List.mem_of_getElem? (i := 8) rfl)) (hts _ (List.mem_of_getElem? (i := 9) rfl)) (Nat.le_of_ble_eq_true rfl) (Nat.le_of_ble_eq_true rfl) (Nat.zero_le _) (Nat.zero_le _) dX8_end_97 ?_
            refine lv_iadd hx hb dX8_end_100 ?_
            refine lv_imul hx hb dX8_end_101 ?_
            refine lv_istore (lv' := [(8, .int (q9 * ((if 0 ≤ ((nI u) - (nI i)) then ((nI u) - (nI i)) else 0 - ((nI u) - (nI i))) + (if 0 ≤ ((nI v) - (nI j)) then ((nI v) - (nI j)) else 0 - ((nI v) - (nI j)))))), (7, .int (nI v)), (6, .int (nI u)), (5, .int sv5), (0, .ref mA), (1, .int (nI i)), (2, .int (nI j)), (3, .int 0)]) hx hb dX8_end_102 hl (by decide) rfl (fun ls hl => ?_)
            refine lv_iload_n hx hb dX8_end_104 rfl (lv_at hl 7 rfl) ?_
            refine lv_if_eq (tgt := 132) hx hb dX8_end_105 (by decide) (fun c_8 => ?_) (fun c_8 => ?_)
            · refine lv_iload hx hb dX8_end_132 (lv_at hl 3 rfl) ?_
              refine lv_aload_n hx hb dX8_end_134 rfl (lv_at hl 4 rfl) ?_
              refine va_get (D := D) (ci := 8) (v := .ref m3) (C := RX8) (T := TX8) (N := 34) hx hb hts hiX8 hown hB.1 hP 0 rfl rfl 3 (by decide) (hts _ (List.mem_of_getElem? (i := 2) rfl)) (fun _ h9 => h9) rfl dX8_end_135 ?_
              refine lv_bipush (v := 8) hx hb dX8_end_138 (by decide) ?_
              refine lv_iload hx hb dX8_end_140 (lv_at hl 2 rfl) ?_
              refine lv_imul hx hb dX8_end_142 ?_
              refine lv_iload hx hb dX8_end_143 (lv_at hl 1 rfl) ?_
              refine lv_iadd hx hb dX8_end_145 ?_
              refine ra_i hx hb hB.1 hP 1 rfl ((8 * u) + v) (nx_add (nx_mul rfl rfl) rfl) (by omega) (by decide) dX8_end_146 ?_
              refine lv_iload hx hb dX8_end_147 (lv_at hl 0 rfl) ?_
              refine lv_isub hx hb dX8_end_149 ?_
              refine va_mmax hx hb (hml.trans hl.1.symm) hown (hts _ (List.mem_of_getElem? (i := 13) rfl)) (hts _ (List.mem_of_getElem? (i := 14) rfl)) (hts _ (List.mem_of_getElem? (i := 8) rfl)) (hts _ (List.mem_of_getElem? (i := 15) rfl)) (Nat.le_of_ble_eq_true rfl) (Nat.le_of_ble_eq_true rfl) (Nat.zero_le _) (Nat.zero_le _) dX8_end_150 ?_
              refine lv_istore (lv' := [(5, .int (if sv5 < ((d3 ((8 * u) + v)) - (q9 * ((if 0 ≤ ((nI u) - (nI i)) then ((nI u) - (nI i)) else 0 - ((nI u) - (nI i))) + (if 0 ≤ ((nI v) - (nI j)) then ((nI v) - (nI j)) else 0 - ((nI v) - (nI j)))))) then ((d3 ((8 * u) + v)) - (q9 * ((if 0 ≤ ((nI u) - (nI i)) then ((nI u) - (nI i)) else 0 - ((nI u) - (nI i))) + (if 0 ≤ ((nI v) - (nI j)) then ((nI v) - (nI j)) else 0 - ((nI v) - (nI j)))))) else sv5)), (8, .int (q9 * ((if 0 ≤ ((nI u) - (nI i)) then ((nI u) - (nI i)) else 0 - ((nI u) - (nI i))) + (if 0 ≤ ((nI v) - (nI j)) then ((nI v) - (nI j)) else 0 - ((nI v) - (nI j)))))), (7, .int (nI v)), (6, .int (nI u)), (0, .ref mA), (1, .int (nI i)), (2, .int (nI j)), (3, .int 0)]) hx hb dX8_end_153 hl (by decide) rfl (fun ls hl => ?_)
              refine lv_iinc (v := nI (v + 1)) (lv' := [(7, .int (nI (v + 1))), (5, .int (if sv5 < ((d3 ((8 * u) + v)) - (q9 * ((if 0 ≤ ((nI u) - (nI i)) then ((nI u) - (nI i)) else 0 - ((nI u) - (nI i))) + (if 0 ≤ ((nI v) - (nI j)) then ((nI v) - (nI j)) else 0 - ((nI v) - (nI j)))))) then ((d3 ((8 * u) + v)) - (q9 * ((if 0 ≤ ((nI u) - (nI i)) then ((nI u) - (nI i)) else 0 - ((nI u) - (nI i))) + (if 0 ≤ ((nI v) - (nI j)) then ((nI v) - (nI j)) else 0 - ((nI v) - (nI j)))))) else sv5)), (8, .int (q9 * ((if 0 ≤ ((nI u) - (nI i)) then ((nI u) - (nI i)) else 0 - ((nI u) - (nI i))) + (if 0 ≤ ((nI v) - (nI j)) then ((nI v) - (nI j)) else 0 - ((nI v) - (nI j)))))), (6, .int (nI u)), (0, .ref mA), (1, .int (nI i)), (2, .int (nI j)), (3, .int 0)]) hx hb dX8_end_155 hl (k := 2) rfl (nI_1 _) (by decide) rfl (fun ls hl => ?_)
              refine lv_goto (tgt := 54) hx hb dX8_end_158 (by decide) ?_
              have e_step : F_X8_end0_L54 q9 d3 d5 i j u v sv5 = (if sv5 < ((d3 ((8 * u) + v)) - (q9 * ((if 0 ≤ ((nI u) - (nI i)) then ((nI u) - (nI i)) else 0 - ((nI u) - (nI i))) + (if 0 ≤ ((nI v) - (nI j)) then ((nI v) - (nI j)) else 0 - ((nI v) - (nI j)))))) then ((d3 ((8 * u) + v)) - (q9 * ((if 0 ≤ ((nI u) - (nI i)) then ((nI u) - (nI i)) else 0 - ((nI u) - (nI i))) + (if 0 ≤ ((nI v) - (nI j)) then ((nI v) - (nI j)) else 0 - ((nI v) - (nI j)))))) else sv5) := by rw [F_X8_end0_L54, if_neg c_7]
              have hP2 : va_P D vwCl [(mA, .inr (8, .int (nI nr) :: .int (nI np) :: .ref m2 :: .ref m3 :: .ref m4 :: .ref m5 :: .ref m6 :: .ref m7 :: .ref m8 :: .int q9 :: .int q10 :: .int q11 :: .int ((nI dg) - 1) :: .int q13 :: .int q14 :: .int q15 :: .int q16 :: .int q17 :: .int q18 :: .int q19 :: .int q20 :: .ref m21 :: .ref m22 :: .ref m23 :: .ref m24 :: .int (nI nb) :: .int (nI ln) :: .int (nI po) :: .int q28 :: .int (nI tk) :: .ref m30 :: .ref m31 :: .int (nI we) :: .int q33 :: [])), (m3, .inl (cI, 160, .inl d3)), (m5, .inl (cZ, 160, .inl d5))] H := hP
              have hD2 : va_D A [(mA, .inr (8, .int (nI nr) :: .int (nI np) :: .ref m2 :: .ref m3 :: .ref m4 :: .ref m5 :: .ref m6 :: .ref m7 :: .ref m8 :: .int q9 :: .int q10 :: .int q11 :: .int ((nI dg) - 1) :: .int q13 :: .int q14 :: .int q15 :: .int q16 :: .int q17 :: .int q18 :: .int q19 :: .int q20 :: .ref m21 :: .ref m22 :: .ref m23 :: .ref m24 :: .int (nI nb) :: .int (nI ln) :: .int (nI po) :: .int q28 :: .int (nI tk) :: .ref m30 :: .ref m31 :: .int (nI we) :: .int q33 :: [])), (m3, .inl (cI, 160, .inl d3)), (m5, .inl (cZ, 160, .inl d5))] := hD
              have hl2 : lv_has ls 9 [(7, .int (nI (v + 1))), (6, .int (nI u)), (5, .int (F_X8_end0_L54 q9 d3 d5 i j u v sv5)), (0, .ref mA), (1, .int (nI i)), (2, .int (nI j)), (3, .int 0)] := by rw [e_step]; exact lv_sub hl [0, 3, 1, 4, 5, 6, 7] rfl
              subst hs_v
              exact ih_v (v + 1) (by omega) (by omega) _ _ _ hP2 hD2 hS hl2
            · exact absurd c_8 (by decide)
          · refine lv_goto (tgt := 155) hx hb dX8_end_79 (by decide) ?_
            refine lv_iinc (v := nI (v + 1)) (lv' := [(7, .int (nI (v + 1))), (6, .int (nI u)), (5, .int sv5), (0, .ref mA), (1, .int (nI i)), (2, .int (nI j)), (3, .int 0)]) hx hb dX8_end_155 hl (k := 0) rfl (nI_1 _) (by decide) rfl (fun ls hl => ?_)
            refine lv_goto (tgt := 54) hx hb dX8_end_158 (by decide) ?_
            have e_step : F_X8_end0_L54 q9 d3 d5 i j u v sv5 = sv5 := by rw [F_X8_end0_L54, if_pos c_7]
            have hP2 : va_P D vwCl [(mA, .inr (8, .int (nI nr) :: .int (nI np) :: .ref m2 :: .ref m3 :: .ref m4 :: .ref m5 :: .ref m6 :: .ref m7 :: .ref m8 :: .int q9 :: .int q10 :: .int q11 :: .int ((nI dg) - 1) :: .int q13 :: .int q14 :: .int q15 :: .int q16 :: .int q17 :: .int q18 :: .int q19 :: .int q20 :: .ref m21 :: .ref m22 :: .ref m23 :: .ref m24 :: .int (nI nb) :: .int (nI ln) :: .int (nI po) :: .int q28 :: .int (nI tk) :: .ref m30 :: .ref m31 :: .int (nI we) :: .int q33 :: [])), (m3, .inl (cI, 160, .inl d3)), (m5, .inl (cZ, 160, .inl d5))] H := hP
            have hD2 : va_D A [(mA, .inr (8, .int (nI nr) :: .int (nI np) :: .ref m2 :: .ref m3 :: .ref m4 :: .ref m5 :: .ref m6 :: .ref m7 :: .ref m8 :: .int q9 :: .int q10 :: .int q11 :: .int ((nI dg) - 1) :: .int q13 :: .int q14 :: .int q15 :: .int q16 :: .int q17 :: .int q18 :: .int q19 :: .int q20 :: .ref m21 :: .ref m22 :: .ref m23 :: .ref m24 :: .int (nI nb) :: .int (nI ln) :: .int (nI po) :: .int q28 :: .int (nI tk) :: .ref m30 :: .ref m31 :: .int (nI we) :: .int q33 :: [])), (m3, .inl (cI, 160, .inl d3)), (m5, .inl (cZ, 160, .inl d5))] := hD
            have hl2 : lv_has ls 9 [(7, .int (nI (v + 1))), (6, .int (nI u)), (5, .int (F_X8_end0_L54 q9 d3 d5 i j u v sv5)), (0, .ref mA), (1, .int (nI i)), (2, .int (nI j)), (3, .int 0)] := by rw [e_step]; exact lv_sub hl [0, 1, 2, 3, 4, 5, 6] rfl
            subst hs_v
            exact ih_v (v + 1) (by omega) (by omega) _ _ _ hP2 hD2 hS hl2
    · exact absurd c_2 (by decide)
  · refine lv_aload_n hx hb dX8_end_18 rfl (lv_at hl 1 rfl) ?_
    refine va_get (D := D) (ci := 8) (v := .ref m3) (C := RX8) (T := TX8) (N := 34) hx hb hts hiX8 hown hB.1 hP 0 rfl rfl 3 (by decide) (hts _ (List.mem_of_getElem? (i := 2) rfl)) (fun _ h9 => h9) rfl dX8_end_19 ?_
    refine lv_iload hx hb dX8_end_22 (lv_at hl 0 rfl) ?_
    refine ra_i hx hb hB.1 hP 1 rfl ((8 * i) + j) (nx_add (nx_mul rfl rfl) rfl) (by omega) (by decide) dX8_end_24 ?_
    have er : F_X8_end0 q9 nr np d3 d5 i j = d3 ((8 * i) + j) := by rw [F_X8_end0, if_neg c_1]
    exact W.iret hx hb hr (fun t ht hW => ⟨⟨_, (), rfl, er.symm, by rw [ht]; exact hP, hD⟩, hS.F ht⟩) hS.2.2 dX8_end_25

def F_X8_end1_L54 (q9 : Int32) (d3 : Nat → Int32) (d5 : Nat → Int32) (i : Nat) (j : Nat) (u : Nat) (v : Nat) (s_ : Int32) : Int32 :=
    if (d5 ((8 * u) + v)) = 0 then (s_) else
    (if ((d3 ((8 * u) + v)) + (q9 * ((if 0 ≤ ((nI u) - (nI i)) then ((nI u) - (nI i)) else 0 - ((nI u) - (nI i))) + (if 0 ≤ ((nI v) - (nI j)) then ((nI v) - (nI j)) else 0 - ((nI v) - (nI j)))))) < s_ then ((d3 ((8 * u) + v)) + (q9 * ((if 0 ≤ ((nI u) - (nI i)) then ((nI u) - (nI i)) else 0 - ((nI u) - (nI i))) + (if 0 ≤ ((nI v) - (nI j)) then ((nI v) - (nI j)) else 0 - ((nI v) - (nI j)))))) else s_)
def F_X8_end1_L42 (q9 : Int32) (np : Nat) (d3 : Nat → Int32) (d5 : Nat → Int32) (i : Nat) (j : Nat) (u : Nat) (s_ : Int32) : Int32 :=
    (lp (F_X8_end1_L54 q9 d3 d5 i j u) np s_)
def F_X8_end1 (q9 : Int32) (nr : Nat) (np : Nat) (d3 : Nat → Int32) (d5 : Nat → Int32) (i : Nat) (j : Nat) : Int32 :=
  if (d5 ((8 * i) + j)) = 0 then (lp (F_X8_end1_L42 q9 np d3 d5 i j) nr 1000) else
  d3 ((8 * i) + j)
set_option maxHeartbeats 4000000 in
set_option maxRecDepth 100000 in
theorem c_X8_end1 (l : Launch) {D : va_G} {cI cZ cB : ClassId} {au : Nat} {kA kV : Nat → Nat} {z0 : Nat} (sz : Nat) (mA : Nat) (m2 : Nat) (m3 : Nat) (m4 : Nat) (m5 : Nat) (m6 : Nat) (m7 : Nat) (m8 : Nat) (m21 : Nat) (m22 : Nat) (m23 : Nat) (m24 : Nat) (m30 : Nat) (m31 : Nat) (q9 : Int32) (q10 : Int32) (q11 : Int32) (q13 : Int32) (q14 : Int32) (q15 : Int32) (q16 : Int32) (q17 : Int32) (q18 : Int32) (q19 : Int32) (q20 : Int32) (q28 : Int32) (q33 : Int32) (nr : Nat) (np : Nat) (nb : Nat) (ln : Nat) (po : Nat) (tk : Nat) (we : Nat) (dg : Nat) (d3 : Nat → Int32) (d5 : Nat → Int32) (row : Int32) (place : Int32) (i : Nat) (j : Nat) (h20 : nr ≤ 20) (h2r : 2 ≤ nr) (h2p : 2 ≤ np) (h8 : np ≤ 8) (e_i : row = nI i) (e_j : place = nI j) (hi : i < nr) (hj : j < np) : Met l yX8_end wsX8_end ({ frames := 1, cells := 0, slots := 0, locals := 21 }) (va_Pc [.ref mA, .int row, .int place, .int 1] (PRE D cI cZ cB au kA kV z0 sz [(mA, .inr (8, .int (nI nr) :: .int (nI np) :: .ref m2 :: .ref m3 :: .ref m4 :: .ref m5 :: .ref m6 :: .ref m7 :: .ref m8 :: .int q9 :: .int q10 :: .int q11 :: .int ((nI dg) - 1) :: .int q13 :: .int q14 :: .int q15 :: .int q16 :: .int q17 :: .int q18 :: .int q19 :: .int q20 :: .ref m21 :: .ref m22 :: .ref m23 :: .ref m24 :: .int (nI nb) :: .int (nI ln) :: .int (nI po) :: .int q28 :: .int (nI tk) :: .ref m30 :: .ref m31 :: .int (nI we) :: .int q33 :: [])), (m3, .inl (cI, 160, .inl d3)), (m5, .inl (cZ, 160, .inl d5))])) (QI D [(mA, .inr (8, .int (nI nr) :: .int (nI np) :: .ref m2 :: .ref m3 :: .ref m4 :: .ref m5 :: .ref m6 :: .ref m7 :: .ref m8 :: .int q9 :: .int q10 :: .int q11 :: .int ((nI dg) - 1) :: .int q13 :: .int q14 :: .int q15 :: .int q16 :: .int q17 :: .int q18 :: .int q19 :: .int q20 :: .ref m21 :: .ref m22 :: .ref m23 :: .ref m24 :: .int (nI nb) :: .int (nI ln) :: .int (nI po) :: .int q28 :: .int (nI tk) :: .ref m30 :: .ref m31 :: .int (nI we) :: .int q33 :: [])), (m3, .inl (cI, 160, .inl d3)), (m5, .inl (cZ, 160, .inl d5))] sz (F_X8_end1 q9 nr np d3 d5 i j) [(mA, .inr (8, .int (nI nr) :: .int (nI np) :: .ref m2 :: .ref m3 :: .ref m4 :: .ref m5 :: .ref m6 :: .ref m7 :: .ref m8 :: .int q9 :: .int q10 :: .int q11 :: .int ((nI dg) - 1) :: .int q13 :: .int q14 :: .int q15 :: .int q16 :: .int q17 :: .int q18 :: .int q19 :: .int q20 :: .ref m21 :: .ref m22 :: .ref m23 :: .ref m24 :: .int (nI nb) :: .int (nI ln) :: .int (nI po) :: .int q28 :: .int (nI tk) :: .ref m30 :: .ref m31 :: .int (nI we) :: .int q33 :: [])), (m3, .inl (cI, 160, .inl d3)), (m5, .inl (cZ, 160, .inl d5))]) 0 0 (va_A [(mA, .inr (8, .int (nI nr) :: .int (nI np) :: .ref m2 :: .ref m3 :: .ref m4 :: .ref m5 :: .ref m6 :: .ref m7 :: .ref m8 :: .int q9 :: .int q10 :: .int q11 :: .int ((nI dg) - 1) :: .int q13 :: .int q14 :: .int q15 :: .int q16 :: .int q17 :: .int q18 :: .int q19 :: .int q20 :: .ref m21 :: .ref m22 :: .ref m23 :: .ref m24 :: .int (nI nb) :: .int (nI ln) :: .int (nI po) :: .int q28 :: .int (nI tk) :: .ref m30 :: .ref m31 :: .int (nI we) :: .int q33 :: [])), (m3, .inl (cI, 160, .inl d3)), (m5, .inl (cZ, 160, .inl d5))] sz) := by
  subst e_i
  subst e_j
  refine Met.ofW (cc := cX8_end) (maxL := 9) (ret := (some .int)) (by decide) rfl ?_
  intro p e s m args below meth c s₁ B hml hv
  obtain ⟨rfl, hsz, hz, hP, hD0, hB⟩ := hv
  have hx := B.exec
  have hb := B.bytes
  have hr := B.returns
  have hts := atoms_spec (ws := wsX8_end) B.pre
  have hown : s.vm.findClass RX8 = some m.cls := findClass_of_methodNamed B.named
  have hlocks := B.notSynchronized
  subst hsz
  have hD := hD0.self (sz := s.heap.size)
  have hA0 := va_A0 hD0 hz
  unfold QI
  generalize hAe : va_A [(mA, .inr (8, .int (nI nr) :: .int (nI np) :: .ref m2 :: .ref m3 :: .ref m4 :: .ref m5 :: .ref m6 :: .ref m7 :: .ref m8 :: .int q9 :: .int q10 :: .int q11 :: .int ((nI dg) - 1) :: .int q13 :: .int q14 :: .int q15 :: .int q16 :: .int q17 :: .int q18 :: .int q19 :: .int q20 :: .ref m21 :: .ref m22 :: .ref m23 :: .ref m24 :: .int (nI nb) :: .int (nI ln) :: .int (nI po) :: .int q28 :: .int (nI tk) :: .ref m30 :: .ref m31 :: .int (nI we) :: .int q33 :: [])), (m3, .inl (cI, 160, .inl d3)), (m5, .inl (cZ, 160, .inl d5))] s.heap.size = A at hD hA0 ⊢
  have hA : ∀ q : Nat, s.heap.size ≤ q → A q := fun q h => by rw [← hAe]; exact Or.inr h
  have hS : va_S A s.heap s.heap [] := va_S.rf
  have hiX8 : ∀ w ∈ wsX80, w ∈ wsX8_end := fun w h => List.mem_cons_of_mem _ (List.mem_append_right _ h)
  have hl := lv_entry ([.ref mA, .int (nI i), .int (nI j), .int 1]) (n := 9) (Nat.le_of_ble_eq_true rfl)
  rw [lg_entry_eq]
  generalize (lg_sl ([.ref mA, .int (nI i), .int (nI j), .int 1]) ++ List.replicate (9 - (lg_sl ([.ref mA, .int (nI i), .int (nI j), .int 1])).length) Slot.unset).toArray = ls at hl ⊢
  have hl : lv_has ls 9 [(0, .ref mA), (1, .int (nI i)), (2, .int (nI j)), (3, .int 1)] := hl
  refine lv_bipush (v := 8) hx hb dX8_end_0 (by decide) ?_
  refine lv_iload_n hx hb dX8_end_2 rfl (lv_at hl 1 rfl) ?_
  refine lv_imul hx hb dX8_end_3 ?_
  refine lv_iload_n hx hb dX8_end_4 rfl (lv_at hl 2 rfl) ?_
  refine lv_iadd hx hb dX8_end_5 ?_
  refine lv_istore (lv' := [(4, .int ((8 * (nI i)) + (nI j))), (0, .ref mA), (1, .int (nI i)), (2, .int (nI j)), (3, .int 1)]) hx hb dX8_end_6 hl (by decide) rfl (fun ls hl => ?_)
  refine lv_aload_n hx hb dX8_end_8 rfl (lv_at hl 1 rfl) ?_
  refine va_get (D := D) (ci := 8) (v := .ref m5) (C := RX8) (T := TX8) (N := 34) hx hb hts hiX8 hown hB.1 hP 0 rfl rfl 5 (by decide) (hts _ (List.mem_of_getElem? (i := 1) rfl)) (fun _ h9 => h9) rfl dX8_end_9 ?_
  refine lv_iload hx hb dX8_end_12 (lv_at hl 0 rfl) ?_
  refine ra_z hx hb hB.1 hP 2 rfl ((8 * i) + j) (nx_add (nx_mul rfl rfl) rfl) (by omega) (by decide) dX8_end_14 ?_
  refine lv_if_eq (tgt := 26) hx hb dX8_end_15 (by decide) (fun c_1 => ?_) (fun c_1 => ?_)
  · refine lv_iload_n hx hb dX8_end_26 rfl (lv_at hl 4 rfl) ?_
    refine lv_if_eq (tgt := 36) hx hb dX8_end_27 (by decide) (fun c_2 => ?_) (fun c_2 => ?_)
    · exact absurd c_2 (by decide)
    · refine lv_sipush (v := 1000) hx hb dX8_end_30 (by decide) ?_
      refine lv_goto (tgt := 37) hx hb dX8_end_33 (by decide) ?_
      refine lv_istore (lv' := [(5, .int 1000), (4, .int ((8 * (nI i)) + (nI j))), (0, .ref mA), (1, .int (nI i)), (2, .int (nI j)), (3, .int 1)]) hx hb dX8_end_37 hl (by decide) rfl (fun ls hl => ?_)
      refine lv_iconst (v := 0) hx hb dX8_end_39 (by decide) ?_
      refine lv_istore (lv' := [(6, .int 0), (5, .int 1000), (4, .int ((8 * (nI i)) + (nI j))), (0, .ref mA), (1, .int (nI i)), (2, .int (nI j)), (3, .int 1)]) hx hb dX8_end_40 hl (by decide) rfl (fun ls hl => ?_)
      refine lpM (σ := Nat) (fun u => u ≤ nr) (fun u => nr - u) (fun u => [(mA, .inr (8, .int (nI nr) :: .int (nI np) :: .ref m2 :: .ref m3 :: .ref m4 :: .ref m5 :: .ref m6 :: .ref m7 :: .ref m8 :: .int q9 :: .int q10 :: .int q11 :: .int ((nI dg) - 1) :: .int q13 :: .int q14 :: .int q15 :: .int q16 :: .int q17 :: .int q18 :: .int q19 :: .int q20 :: .ref m21 :: .ref m22 :: .ref m23 :: .ref m24 :: .int (nI nb) :: .int (nI ln) :: .int (nI po) :: .int q28 :: .int (nI tk) :: .ref m30 :: .ref m31 :: .int (nI we) :: .int q33 :: [])), (m3, .inl (cI, 160, .inl d3)), (m5, .inl (cZ, 160, .inl d5))]) (fun u => [(6, .int (nI u)), (5, .int (lp (F_X8_end1_L42 q9 np d3 d5 i j) u 1000)), (0, .ref mA), (1, .int (nI i)), (2, .int (nI j)), (3, .int 1)]) 0 (Nat.zero_le _) hP hD hS (lv_sub hl [0, 1, 3, 4, 5, 6] rfl) ?_
      intro u h_u ih_u H locs ls hP hD hS hl
      have hP : va_P D vwCl [(mA, .inr (8, .int (nI nr) :: .int (nI np) :: .ref m2 :: .ref m3 :: .ref m4 :: .ref m5 :: .ref m6 :: .ref m7 :: .ref m8 :: .int q9 :: .int q10 :: .int q11 :: .int ((nI dg) - 1) :: .int q13 :: .int q14 :: .int q15 :: .int q16 :: .int q17 :: .int q18 :: .int q19 :: .int q20 :: .ref m21 :: .ref m22 :: .ref m23 :: .ref m24 :: .int (nI nb) :: .int (nI ln) :: .int (nI po) :: .int q28 :: .int (nI tk) :: .ref m30 :: .ref m31 :: .int (nI we) :: .int q33 :: [])), (m3, .inl (cI, 160, .inl d3)), (m5, .inl (cZ, 160, .inl d5))] H := hP
      have hD : va_D A [(mA, .inr (8, .int (nI nr) :: .int (nI np) :: .ref m2 :: .ref m3 :: .ref m4 :: .ref m5 :: .ref m6 :: .ref m7 :: .ref m8 :: .int q9 :: .int q10 :: .int q11 :: .int ((nI dg) - 1) :: .int q13 :: .int q14 :: .int q15 :: .int q16 :: .int q17 :: .int q18 :: .int q19 :: .int q20 :: .ref m21 :: .ref m22 :: .ref m23 :: .ref m24 :: .int (nI nb) :: .int (nI ln) :: .int (nI po) :: .int q28 :: .int (nI tk) :: .ref m30 :: .ref m31 :: .int (nI we) :: .int q33 :: [])), (m3, .inl (cI, 160, .inl d3)), (m5, .inl (cZ, 160, .inl d5))] := hD
      have hl : lv_has ls 9 [(6, .int (nI u)), (5, .int (lp (F_X8_end1_L42 q9 np d3 d5 i j) u 1000)), (0, .ref mA), (1, .int (nI i)), (2, .int (nI j)), (3, .int 1)] := hl
      generalize hs_u : lp (F_X8_end1_L42 q9 np d3 d5 i j) u 1000 = sv3 at hl
      refine lv_iload hx hb dX8_end_42 (lv_at hl 0 rfl) ?_
      refine lv_aload_n hx hb dX8_end_44 rfl (lv_at hl 2 rfl) ?_
      refine va_get (D := D) (ci := 8) (v := .int (nI nr)) (C := RX8) (T := TX8) (N := 34) hx hb hts hiX8 hown hB.1 hP 0 rfl rfl 0 (by decide) (hts _ (List.mem_of_getElem? (i := 3) rfl)) (fun _ h9 => h9) rfl dX8_end_45 ?_
      refine lv_icmp_ge (tgt := 167) hx hb dX8_end_48 (by decide) (fun c_4 => ?_) (fun c_4 => ?_)
      · have hx_u : nr = u := Eq.symm (le_ex (by omega) h_u c_4)
        subst hx_u
        subst hs_u
        refine lv_iload hx hb dX8_end_167 (lv_at hl 1 rfl) ?_
        have er : F_X8_end1 q9 nr np d3 d5 i j = (lp (F_X8_end1_L42 q9 np d3 d5 i j) nr 1000) := by rw [F_X8_end1, if_pos c_1]
        exact W.iret hx hb hr (fun t ht hW => ⟨⟨_, (), rfl, er.symm, by rw [ht]; exact hP, hD⟩, hS.F ht⟩) hS.2.2 dX8_end_169
      · have hlt_u : u < nr := le_go (by omega) h_u c_4
        refine lv_iconst (v := 0) hx hb dX8_end_51 (by decide) ?_
        refine lv_istore (lv' := [(7, .int 0), (6, .int (nI u)), (5, .int sv3), (0, .ref mA), (1, .int (nI i)), (2, .int (nI j)), (3, .int 1)]) hx hb dX8_end_52 hl (by decide) rfl (fun ls hl => ?_)
        refine lpM (σ := Nat) (fun v => v ≤ np) (fun v => np - v) (fun v => [(mA, .inr (8, .int (nI nr) :: .int (nI np) :: .ref m2 :: .ref m3 :: .ref m4 :: .ref m5 :: .ref m6 :: .ref m7 :: .ref m8 :: .int q9 :: .int q10 :: .int q11 :: .int ((nI dg) - 1) :: .int q13 :: .int q14 :: .int q15 :: .int q16 :: .int q17 :: .int q18 :: .int q19 :: .int q20 :: .ref m21 :: .ref m22 :: .ref m23 :: .ref m24 :: .int (nI nb) :: .int (nI ln) :: .int (nI po) :: .int q28 :: .int (nI tk) :: .ref m30 :: .ref m31 :: .int (nI we) :: .int q33 :: [])), (m3, .inl (cI, 160, .inl d3)), (m5, .inl (cZ, 160, .inl d5))]) (fun v => [(7, .int (nI v)), (6, .int (nI u)), (5, .int (lp (F_X8_end1_L54 q9 d3 d5 i j u) v sv3)), (0, .ref mA), (1, .int (nI i)), (2, .int (nI j)), (3, .int 1)]) 0 (Nat.zero_le _) hP hD hS (lv_sub hl [0, 1, 2, 3, 4, 5, 6] rfl) ?_
        intro v h_v ih_v H locs ls hP hD hS hl
        have hP : va_P D vwCl [(mA, .inr (8, .int (nI nr) :: .int (nI np) :: .ref m2 :: .ref m3 :: .ref m4 :: .ref m5 :: .ref m6 :: .ref m7 :: .ref m8 :: .int q9 :: .int q10 :: .int q11 :: .int ((nI dg) - 1) :: .int q13 :: .int q14 :: .int q15 :: .int q16 :: .int q17 :: .int q18 :: .int q19 :: .int q20 :: .ref m21 :: .ref m22 :: .ref m23 :: .ref m24 :: .int (nI nb) :: .int (nI ln) :: .int (nI po) :: .int q28 :: .int (nI tk) :: .ref m30 :: .ref m31 :: .int (nI we) :: .int q33 :: [])), (m3, .inl (cI, 160, .inl d3)), (m5, .inl (cZ, 160, .inl d5))] H := hP
        have hD : va_D A [(mA, .inr (8, .int (nI nr) :: .int (nI np) :: .ref m2 :: .ref m3 :: .ref m4 :: .ref m5 :: .ref m6 :: .ref m7 :: .ref m8 :: .int q9 :: .int q10 :: .int q11 :: .int ((nI dg) - 1) :: .int q13 :: .int q14 :: .int q15 :: .int q16 :: .int q17 :: .int q18 :: .int q19 :: .int q20 :: .ref m21 :: .ref m22 :: .ref m23 :: .ref m24 :: .int (nI nb) :: .int (nI ln) :: .int (nI po) :: .int q28 :: .int (nI tk) :: .ref m30 :: .ref m31 :: .int (nI we) :: .int q33 :: [])), (m3, .inl (cI, 160, .inl d3)), (m5, .inl (cZ, 160, .inl d5))] := hD
        have hl : lv_has ls 9 [(7, .int (nI v)), (6, .int (nI u)), (5, .int (lp (F_X8_end1_L54 q9 d3 d5 i j u) v sv3)), (0, .ref mA), (1, .int (nI i)), (2, .int (nI j)), (3, .int 1)] := hl
        generalize hs_v : lp (F_X8_end1_L54 q9 d3 d5 i j u) v sv3 = sv5 at hl
        refine lv_iload hx hb dX8_end_54 (lv_at hl 0 rfl) ?_
        refine lv_aload_n hx hb dX8_end_56 rfl (lv_at hl 3 rfl) ?_
        refine va_get (D := D) (ci := 8) (v := .int (nI np)) (C := RX8) (T := TX8) (N := 34) hx hb hts hiX8 hown hB.1 hP 0 rfl rfl 1 (by decide) (hts _ (List.mem_of_getElem? (i := 4) rfl)) (fun _ h9 => h9) rfl dX8_end_57 ?_
        refine lv_icmp_ge (tgt := 161) hx hb dX8_end_60 (by decide) (fun c_6 => ?_) (fun c_6 => ?_)
        · have hx_v : np = v := Eq.symm (le_ex (by omega) h_v c_6)
          subst hx_v
          subst hs_v
          refine lv_iinc (v := nI (u + 1)) (lv' := [(6, .int (nI (u + 1))), (7, .int (nI np)), (5, .int (lp (F_X8_end1_L54 q9 d3 d5 i j u) np sv3)), (0, .ref mA), (1, .int (nI i)), (2, .int (nI j)), (3, .int 1)]) hx hb dX8_end_161 hl (k := 1) rfl (nI_1 _) (by decide) rfl (fun ls hl => ?_)
          refine lv_goto (tgt := 42) hx hb dX8_end_164 (by decide) ?_
          have e_step : F_X8_end1_L42 q9 np d3 d5 i j u sv3 = (lp (F_X8_end1_L54 q9 d3 d5 i j u) np sv3) := by rw [F_X8_end1_L42]
          have hP2 : va_P D vwCl [(mA, .inr (8, .int (nI nr) :: .int (nI np) :: .ref m2 :: .ref m3 :: .ref m4 :: .ref m5 :: .ref m6 :: .ref m7 :: .ref m8 :: .int q9 :: .int q10 :: .int q11 :: .int ((nI dg) - 1) :: .int q13 :: .int q14 :: .int q15 :: .int q16 :: .int q17 :: .int q18 :: .int q19 :: .int q20 :: .ref m21 :: .ref m22 :: .ref m23 :: .ref m24 :: .int (nI nb) :: .int (nI ln) :: .int (nI po) :: .int q28 :: .int (nI tk) :: .ref m30 :: .ref m31 :: .int (nI we) :: .int q33 :: [])), (m3, .inl (cI, 160, .inl d3)), (m5, .inl (cZ, 160, .inl d5))] H := hP
          have hD2 : va_D A [(mA, .inr (8, .int (nI nr) :: .int (nI np) :: .ref m2 :: .ref m3 :: .ref m4 :: .ref m5 :: .ref m6 :: .ref m7 :: .ref m8 :: .int q9 :: .int q10 :: .int q11 :: .int ((nI dg) - 1) :: .int q13 :: .int q14 :: .int q15 :: .int q16 :: .int q17 :: .int q18 :: .int q19 :: .int q20 :: .ref m21 :: .ref m22 :: .ref m23 :: .ref m24 :: .int (nI nb) :: .int (nI ln) :: .int (nI po) :: .int q28 :: .int (nI tk) :: .ref m30 :: .ref m31 :: .int (nI we) :: .int q33 :: [])), (m3, .inl (cI, 160, .inl d3)), (m5, .inl (cZ, 160, .inl d5))] := hD
          have hl2 : lv_has ls 9 [(6, .int (nI (u + 1))), (5, .int (F_X8_end1_L42 q9 np d3 d5 i j u sv3)), (0, .ref mA), (1, .int (nI i)), (2, .int (nI j)), (3, .int 1)] := by rw [e_step]; exact lv_sub hl [0, 2, 3, 4, 5, 6] rfl
          subst hs_u
          exact ih_u (u + 1) (by omega) (by omega) _ _ _ hP2 hD2 hS hl2
        · have hlt_v : v < np := le_go (by omega) h_v c_6
          refine lv_aload_n hx hb dX8_end_63 rfl (lv_at hl 3 rfl) ?_
          refine va_get (D := D) (ci := 8) (v := .ref m5) (C := RX8) (T := TX8) (N := 34) hx hb hts hiX8 hown hB.1 hP 0 rfl rfl 5 (by decide) (hts _ (List.mem_of_getElem? (i := 1) rfl)) (fun _ h9 => h9) rfl dX8_end_64 ?_
          refine lv_bipush (v := 8) hx hb dX8_end_67 (by decide) ?_
          refine lv_iload hx hb dX8_end_69 (lv_at hl 1 rfl) ?_
          refine lv_imul hx hb dX8_end_71 ?_
          refine lv_iload hx hb dX8_end_72 (lv_at hl 0 rfl) ?_
          refine lv_iadd hx hb dX8_end_74 ?_
          refine ra_z hx hb hB.1 hP 2 rfl ((8 * u) + v) (nx_add (nx_mul rfl rfl) rfl) (by omega) (by decide) dX8_end_75 ?_
          refine lv_if_ne (tgt := 82) hx hb dX8_end_76 (by decide) (fun c_7 => ?_) (fun c_7 => ?_)
          · refine lv_aload_n hx hb dX8_end_82 rfl (lv_at hl 3 rfl) ?_
            refine va_get (D := D) (ci := 8) (v := .int q9) (C := RX8) (T := TX8) (N := 34) hx hb hts hiX8 hown hB.1 hP 0 rfl rfl 9 (by decide) (hts _ (List.mem_of_getElem? (i := 5) rfl)) (fun _ h9 => h9) rfl dX8_end_83 ?_
            refine lv_iload hx hb dX8_end_86 (lv_at hl 1 rfl) ?_
            refine lv_iload_n hx hb dX8_end_88 rfl (lv_at hl 4 rfl) ?_
            refine lv_isub hx hb dX8_end_89 ?_
            refine va_mabs hx hb (hml.trans hl.1.symm) hown (hts _ (List.mem_of_getElem? (i := 6) rfl)) (hts _ (List.mem_of_getElem? (i := 7) rfl)) (hts _ (List.mem_of_getElem? (i := 8) rfl)) (hts _ (List.mem_of_getElem? (i := 9) rfl)) (Nat.le_of_ble_eq_true rfl) (Nat.le_of_ble_eq_true rfl) (Nat.zero_le _) (Nat.zero_le _) dX8_end_90 ?_
            refine lv_iload hx hb dX8_end_93 (lv_at hl 0 rfl) ?_
            refine lv_iload_n hx hb dX8_end_95 rfl (lv_at hl 5 rfl) ?_
            refine lv_isub hx hb dX8_end_96 ?_
            refine va_mabs hx hb (hml.trans hl.1.symm) hown (hts _ (List.mem_of_getElem? (i := 6) rfl)) (hts _ (List.mem_of_getElem? (i := 7) rfl)) (hts _ (List.mem_of_getElem? (i := 8) rfl)) (hts _ (List.mem_of_getElem? (i := 9) rfl)) (Nat.le_of_ble_eq_true rfl) (Nat.le_of_ble_eq_true rfl) (Nat.zero_le _) (Nat.zero_le _) dX8_end_97 ?_
            refine lv_iadd hx hb dX8_end_100 ?_
            refine lv_imul hx hb dX8_end_101 ?_
            refine lv_istore (lv' := [(8, .int (q9 * ((if 0 ≤ ((nI u) - (nI i)) then ((nI u) - (nI i)) else 0 - ((nI u) - (nI i))) + (if 0 ≤ ((nI v) - (nI j)) then ((nI v) - (nI j)) else 0 - ((nI v) - (nI j)))))), (7, .int (nI v)), (6, .int (nI u)), (5, .int sv5), (0, .ref mA), (1, .int (nI i)), (2, .int (nI j)), (3, .int 1)]) hx hb dX8_end_102 hl (by decide) rfl (fun ls hl => ?_)
            refine lv_iload_n hx hb dX8_end_104 rfl (lv_at hl 7 rfl) ?_
            refine lv_if_eq (tgt := 132) hx hb dX8_end_105 (by decide) (fun c_8 => ?_) (fun c_8 => ?_)
            · exact absurd c_8 (by decide)
            · refine lv_iload hx hb dX8_end_108 (lv_at hl 3 rfl) ?_
              refine lv_aload_n hx hb dX8_end_110 rfl (lv_at hl 4 rfl) ?_
              refine va_get (D := D) (ci := 8) (v := .ref m3) (C := RX8) (T := TX8) (N := 34) hx hb hts hiX8 hown hB.1 hP 0 rfl rfl 3 (by decide) (hts _ (List.mem_of_getElem? (i := 2) rfl)) (fun _ h9 => h9) rfl dX8_end_111 ?_
              refine lv_bipush (v := 8) hx hb dX8_end_114 (by decide) ?_
              refine lv_iload hx hb dX8_end_116 (lv_at hl 2 rfl) ?_
              refine lv_imul hx hb dX8_end_118 ?_
              refine lv_iload hx hb dX8_end_119 (lv_at hl 1 rfl) ?_
              refine lv_iadd hx hb dX8_end_121 ?_
              refine ra_i hx hb hB.1 hP 1 rfl ((8 * u) + v) (nx_add (nx_mul rfl rfl) rfl) (by omega) (by decide) dX8_end_122 ?_
              refine lv_iload hx hb dX8_end_123 (lv_at hl 0 rfl) ?_
              refine lv_iadd hx hb dX8_end_125 ?_
              refine va_mmin hx hb (hml.trans hl.1.symm) hown (hts _ (List.mem_of_getElem? (i := 10) rfl)) (hts _ (List.mem_of_getElem? (i := 11) rfl)) (hts _ (List.mem_of_getElem? (i := 8) rfl)) (hts _ (List.mem_of_getElem? (i := 12) rfl)) (Nat.le_of_ble_eq_true rfl) (Nat.le_of_ble_eq_true rfl) (Nat.zero_le _) (Nat.zero_le _) dX8_end_126 ?_
              refine lv_goto (tgt := 153) hx hb dX8_end_129 (by decide) ?_
              refine lv_istore (lv' := [(5, .int (if ((d3 ((8 * u) + v)) + (q9 * ((if 0 ≤ ((nI u) - (nI i)) then ((nI u) - (nI i)) else 0 - ((nI u) - (nI i))) + (if 0 ≤ ((nI v) - (nI j)) then ((nI v) - (nI j)) else 0 - ((nI v) - (nI j)))))) < sv5 then ((d3 ((8 * u) + v)) + (q9 * ((if 0 ≤ ((nI u) - (nI i)) then ((nI u) - (nI i)) else 0 - ((nI u) - (nI i))) + (if 0 ≤ ((nI v) - (nI j)) then ((nI v) - (nI j)) else 0 - ((nI v) - (nI j)))))) else sv5)), (8, .int (q9 * ((if 0 ≤ ((nI u) - (nI i)) then ((nI u) - (nI i)) else 0 - ((nI u) - (nI i))) + (if 0 ≤ ((nI v) - (nI j)) then ((nI v) - (nI j)) else 0 - ((nI v) - (nI j)))))), (7, .int (nI v)), (6, .int (nI u)), (0, .ref mA), (1, .int (nI i)), (2, .int (nI j)), (3, .int 1)]) hx hb dX8_end_153 hl (by decide) rfl (fun ls hl => ?_)
              refine lv_iinc (v := nI (v + 1)) (lv' := [(7, .int (nI (v + 1))), (5, .int (if ((d3 ((8 * u) + v)) + (q9 * ((if 0 ≤ ((nI u) - (nI i)) then ((nI u) - (nI i)) else 0 - ((nI u) - (nI i))) + (if 0 ≤ ((nI v) - (nI j)) then ((nI v) - (nI j)) else 0 - ((nI v) - (nI j)))))) < sv5 then ((d3 ((8 * u) + v)) + (q9 * ((if 0 ≤ ((nI u) - (nI i)) then ((nI u) - (nI i)) else 0 - ((nI u) - (nI i))) + (if 0 ≤ ((nI v) - (nI j)) then ((nI v) - (nI j)) else 0 - ((nI v) - (nI j)))))) else sv5)), (8, .int (q9 * ((if 0 ≤ ((nI u) - (nI i)) then ((nI u) - (nI i)) else 0 - ((nI u) - (nI i))) + (if 0 ≤ ((nI v) - (nI j)) then ((nI v) - (nI j)) else 0 - ((nI v) - (nI j)))))), (6, .int (nI u)), (0, .ref mA), (1, .int (nI i)), (2, .int (nI j)), (3, .int 1)]) hx hb dX8_end_155 hl (k := 2) rfl (nI_1 _) (by decide) rfl (fun ls hl => ?_)
              refine lv_goto (tgt := 54) hx hb dX8_end_158 (by decide) ?_
              have e_step : F_X8_end1_L54 q9 d3 d5 i j u v sv5 = (if ((d3 ((8 * u) + v)) + (q9 * ((if 0 ≤ ((nI u) - (nI i)) then ((nI u) - (nI i)) else 0 - ((nI u) - (nI i))) + (if 0 ≤ ((nI v) - (nI j)) then ((nI v) - (nI j)) else 0 - ((nI v) - (nI j)))))) < sv5 then ((d3 ((8 * u) + v)) + (q9 * ((if 0 ≤ ((nI u) - (nI i)) then ((nI u) - (nI i)) else 0 - ((nI u) - (nI i))) + (if 0 ≤ ((nI v) - (nI j)) then ((nI v) - (nI j)) else 0 - ((nI v) - (nI j)))))) else sv5) := by rw [F_X8_end1_L54, if_neg c_7]
              have hP2 : va_P D vwCl [(mA, .inr (8, .int (nI nr) :: .int (nI np) :: .ref m2 :: .ref m3 :: .ref m4 :: .ref m5 :: .ref m6 :: .ref m7 :: .ref m8 :: .int q9 :: .int q10 :: .int q11 :: .int ((nI dg) - 1) :: .int q13 :: .int q14 :: .int q15 :: .int q16 :: .int q17 :: .int q18 :: .int q19 :: .int q20 :: .ref m21 :: .ref m22 :: .ref m23 :: .ref m24 :: .int (nI nb) :: .int (nI ln) :: .int (nI po) :: .int q28 :: .int (nI tk) :: .ref m30 :: .ref m31 :: .int (nI we) :: .int q33 :: [])), (m3, .inl (cI, 160, .inl d3)), (m5, .inl (cZ, 160, .inl d5))] H := hP
              have hD2 : va_D A [(mA, .inr (8, .int (nI nr) :: .int (nI np) :: .ref m2 :: .ref m3 :: .ref m4 :: .ref m5 :: .ref m6 :: .ref m7 :: .ref m8 :: .int q9 :: .int q10 :: .int q11 :: .int ((nI dg) - 1) :: .int q13 :: .int q14 :: .int q15 :: .int q16 :: .int q17 :: .int q18 :: .int q19 :: .int q20 :: .ref m21 :: .ref m22 :: .ref m23 :: .ref m24 :: .int (nI nb) :: .int (nI ln) :: .int (nI po) :: .int q28 :: .int (nI tk) :: .ref m30 :: .ref m31 :: .int (nI we) :: .int q33 :: [])), (m3, .inl (cI, 160, .inl d3)), (m5, .inl (cZ, 160, .inl d5))] := hD
              have hl2 : lv_has ls 9 [(7, .int (nI (v + 1))), (6, .int (nI u)), (5, .int (F_X8_end1_L54 q9 d3 d5 i j u v sv5)), (0, .ref mA), (1, .int (nI i)), (2, .int (nI j)), (3, .int 1)] := by rw [e_step]; exact lv_sub hl [0, 3, 1, 4, 5, 6, 7] rfl
              subst hs_v
              exact ih_v (v + 1) (by omega) (by omega) _ _ _ hP2 hD2 hS hl2
          · refine lv_goto (tgt := 155) hx hb dX8_end_79 (by decide) ?_
            refine lv_iinc (v := nI (v + 1)) (lv' := [(7, .int (nI (v + 1))), (6, .int (nI u)), (5, .int sv5), (0, .ref mA), (1, .int (nI i)), (2, .int (nI j)), (3, .int 1)]) hx hb dX8_end_155 hl (k := 0) rfl (nI_1 _) (by decide) rfl (fun ls hl => ?_)
            refine lv_goto (tgt := 54) hx hb dX8_end_158 (by decide) ?_
            have e_step : F_X8_end1_L54 q9 d3 d5 i j u v sv5 = sv5 := by rw [F_X8_end1_L54, if_pos c_7]
            have hP2 : va_P D vwCl [(mA, .inr (8, .int (nI nr) :: .int (nI np) :: .ref m2 :: .ref m3 :: .ref m4 :: .ref m5 :: .ref m6 :: .ref m7 :: .ref m8 :: .int q9 :: .int q10 :: .int q11 :: .int ((nI dg) - 1) :: .int q13 :: .int q14 :: .int q15 :: .int q16 :: .int q17 :: .int q18 :: .int q19 :: .int q20 :: .ref m21 :: .ref m22 :: .ref m23 :: .ref m24 :: .int (nI nb) :: .int (nI ln) :: .int (nI po) :: .int q28 :: .int (nI tk) :: .ref m30 :: .ref m31 :: .int (nI we) :: .int q33 :: [])), (m3, .inl (cI, 160, .inl d3)), (m5, .inl (cZ, 160, .inl d5))] H := hP
            have hD2 : va_D A [(mA, .inr (8, .int (nI nr) :: .int (nI np) :: .ref m2 :: .ref m3 :: .ref m4 :: .ref m5 :: .ref m6 :: .ref m7 :: .ref m8 :: .int q9 :: .int q10 :: .int q11 :: .int ((nI dg) - 1) :: .int q13 :: .int q14 :: .int q15 :: .int q16 :: .int q17 :: .int q18 :: .int q19 :: .int q20 :: .ref m21 :: .ref m22 :: .ref m23 :: .ref m24 :: .int (nI nb) :: .int (nI ln) :: .int (nI po) :: .int q28 :: .int (nI tk) :: .ref m30 :: .ref m31 :: .int (nI we) :: .int q33 :: [])), (m3, .inl (cI, 160, .inl d3)), (m5, .inl (cZ, 160, .inl d5))] := hD
            have hl2 : lv_has ls 9 [(7, .int (nI (v + 1))), (6, .int (nI u)), (5, .int (F_X8_end1_L54 q9 d3 d5 i j u v sv5)), (0, .ref mA), (1, .int (nI i)), (2, .int (nI j)), (3, .int 1)] := by rw [e_step]; exact lv_sub hl [0, 1, 2, 3, 4, 5, 6] rfl
            subst hs_v
            exact ih_v (v + 1) (by omega) (by omega) _ _ _ hP2 hD2 hS hl2
  · refine lv_aload_n hx hb dX8_end_18 rfl (lv_at hl 1 rfl) ?_
    refine va_get (D := D) (ci := 8) (v := .ref m3) (C := RX8) (T := TX8) (N := 34) hx hb hts hiX8 hown hB.1 hP 0 rfl rfl 3 (by decide) (hts _ (List.mem_of_getElem? (i := 2) rfl)) (fun _ h9 => h9) rfl dX8_end_19 ?_
    refine lv_iload hx hb dX8_end_22 (lv_at hl 0 rfl) ?_
    refine ra_i hx hb hB.1 hP 1 rfl ((8 * i) + j) (nx_add (nx_mul rfl rfl) rfl) (by omega) (by decide) dX8_end_24 ?_
    have er : F_X8_end1 q9 nr np d3 d5 i j = d3 ((8 * i) + j) := by rw [F_X8_end1, if_neg c_1]
    exact W.iret hx hb hr (fun t ht hW => ⟨⟨_, (), rfl, er.symm, by rw [ht]; exact hP, hD⟩, hS.F ht⟩) hS.2.2 dX8_end_25

def F_X8_quarrels (q9 : Int32) (nr : Nat) (np : Nat) (d3 : Nat → Int32) (d5 : Nat → Int32) (i : Nat) (j : Nat) : Int32 :=
  if (F_X8_end0 q9 nr np d3 d5 i j) ≤ (F_X8_end1 q9 nr np d3 d5 i j) then 0 else
  1
set_option maxHeartbeats 4000000 in
set_option maxRecDepth 100000 in
theorem c_X8_quarrels (l : Launch) {D : va_G} {cI cZ cB : ClassId} {au : Nat} {kA kV : Nat → Nat} {z0 : Nat} (sz : Nat) (mA : Nat) (m2 : Nat) (m3 : Nat) (m4 : Nat) (m5 : Nat) (m6 : Nat) (m7 : Nat) (m8 : Nat) (m21 : Nat) (m22 : Nat) (m23 : Nat) (m24 : Nat) (m30 : Nat) (m31 : Nat) (q9 : Int32) (q10 : Int32) (q11 : Int32) (q13 : Int32) (q14 : Int32) (q15 : Int32) (q16 : Int32) (q17 : Int32) (q18 : Int32) (q19 : Int32) (q20 : Int32) (q28 : Int32) (q33 : Int32) (nr : Nat) (np : Nat) (nb : Nat) (ln : Nat) (po : Nat) (tk : Nat) (we : Nat) (dg : Nat) (d3 : Nat → Int32) (d5 : Nat → Int32) (row : Int32) (place : Int32) (i : Nat) (j : Nat) (h20 : nr ≤ 20) (h2r : 2 ≤ nr) (h2p : 2 ≤ np) (h8 : np ≤ 8) (e_i : row = nI i) (e_j : place = nI j) (hi : i < nr) (hj : j < np) : Met l yX8_quarrels wsX8_quarrels ({ frames := 2, cells := 0, slots := 0, locals := 49 }) (va_Pc [.ref mA, .int row, .int place] (PRE D cI cZ cB au kA kV z0 sz [(mA, .inr (8, .int (nI nr) :: .int (nI np) :: .ref m2 :: .ref m3 :: .ref m4 :: .ref m5 :: .ref m6 :: .ref m7 :: .ref m8 :: .int q9 :: .int q10 :: .int q11 :: .int ((nI dg) - 1) :: .int q13 :: .int q14 :: .int q15 :: .int q16 :: .int q17 :: .int q18 :: .int q19 :: .int q20 :: .ref m21 :: .ref m22 :: .ref m23 :: .ref m24 :: .int (nI nb) :: .int (nI ln) :: .int (nI po) :: .int q28 :: .int (nI tk) :: .ref m30 :: .ref m31 :: .int (nI we) :: .int q33 :: [])), (m3, .inl (cI, 160, .inl d3)), (m5, .inl (cZ, 160, .inl d5))])) (QI D [(mA, .inr (8, .int (nI nr) :: .int (nI np) :: .ref m2 :: .ref m3 :: .ref m4 :: .ref m5 :: .ref m6 :: .ref m7 :: .ref m8 :: .int q9 :: .int q10 :: .int q11 :: .int ((nI dg) - 1) :: .int q13 :: .int q14 :: .int q15 :: .int q16 :: .int q17 :: .int q18 :: .int q19 :: .int q20 :: .ref m21 :: .ref m22 :: .ref m23 :: .ref m24 :: .int (nI nb) :: .int (nI ln) :: .int (nI po) :: .int q28 :: .int (nI tk) :: .ref m30 :: .ref m31 :: .int (nI we) :: .int q33 :: [])), (m3, .inl (cI, 160, .inl d3)), (m5, .inl (cZ, 160, .inl d5))] sz (F_X8_quarrels q9 nr np d3 d5 i j) [(mA, .inr (8, .int (nI nr) :: .int (nI np) :: .ref m2 :: .ref m3 :: .ref m4 :: .ref m5 :: .ref m6 :: .ref m7 :: .ref m8 :: .int q9 :: .int q10 :: .int q11 :: .int ((nI dg) - 1) :: .int q13 :: .int q14 :: .int q15 :: .int q16 :: .int q17 :: .int q18 :: .int q19 :: .int q20 :: .ref m21 :: .ref m22 :: .ref m23 :: .ref m24 :: .int (nI nb) :: .int (nI ln) :: .int (nI po) :: .int q28 :: .int (nI tk) :: .ref m30 :: .ref m31 :: .int (nI we) :: .int q33 :: [])), (m3, .inl (cI, 160, .inl d3)), (m5, .inl (cZ, 160, .inl d5))]) 0 0 (va_A [(mA, .inr (8, .int (nI nr) :: .int (nI np) :: .ref m2 :: .ref m3 :: .ref m4 :: .ref m5 :: .ref m6 :: .ref m7 :: .ref m8 :: .int q9 :: .int q10 :: .int q11 :: .int ((nI dg) - 1) :: .int q13 :: .int q14 :: .int q15 :: .int q16 :: .int q17 :: .int q18 :: .int q19 :: .int q20 :: .ref m21 :: .ref m22 :: .ref m23 :: .ref m24 :: .int (nI nb) :: .int (nI ln) :: .int (nI po) :: .int q28 :: .int (nI tk) :: .ref m30 :: .ref m31 :: .int (nI we) :: .int q33 :: [])), (m3, .inl (cI, 160, .inl d3)), (m5, .inl (cZ, 160, .inl d5))] sz) := by
  subst e_i
  subst e_j
  refine Met.ofW (cc := cX8_quarrels) (maxL := 3) (ret := (some .boolean)) (by decide) rfl ?_
  intro p e s m args below meth c s₁ B hml hv
  obtain ⟨rfl, hsz, hz, hP, hD0, hB⟩ := hv
  have hx := B.exec
  have hb := B.bytes
  have hr := B.returns
  have hts := atoms_spec (ws := wsX8_quarrels) B.pre
  have hown : s.vm.findClass RX8 = some m.cls := findClass_of_methodNamed B.named
  have hlocks := B.notSynchronized
  subst hsz
  have hD := hD0.self (sz := s.heap.size)
  have hA0 := va_A0 hD0 hz
  unfold QI
  generalize hAe : va_A [(mA, .inr (8, .int (nI nr) :: .int (nI np) :: .ref m2 :: .ref m3 :: .ref m4 :: .ref m5 :: .ref m6 :: .ref m7 :: .ref m8 :: .int q9 :: .int q10 :: .int q11 :: .int ((nI dg) - 1) :: .int q13 :: .int q14 :: .int q15 :: .int q16 :: .int q17 :: .int q18 :: .int q19 :: .int q20 :: .ref m21 :: .ref m22 :: .ref m23 :: .ref m24 :: .int (nI nb) :: .int (nI ln) :: .int (nI po) :: .int q28 :: .int (nI tk) :: .ref m30 :: .ref m31 :: .int (nI we) :: .int q33 :: [])), (m3, .inl (cI, 160, .inl d3)), (m5, .inl (cZ, 160, .inl d5))] s.heap.size = A at hD hA0 ⊢
  have hA : ∀ q : Nat, s.heap.size ≤ q → A q := fun q h => by rw [← hAe]; exact Or.inr h
  have hS : va_S A s.heap s.heap [] := va_S.rf
  have hl := lv_entry ([.ref mA, .int (nI i), .int (nI j)]) (n := 3) (Nat.le_of_ble_eq_true rfl)
  rw [lg_entry_eq]
  generalize (lg_sl ([.ref mA, .int (nI i), .int (nI j)]) ++ List.replicate (3 - (lg_sl ([.ref mA, .int (nI i), .int (nI j)])).length) Slot.unset).toArray = ls at hl ⊢
  have hl : lv_has ls 3 [(0, .ref mA), (1, .int (nI i)), (2, .int (nI j))] := hl
  refine lv_aload_n hx hb dX8_quarrels_0 rfl (lv_at hl 0 rfl) ?_
  refine lv_iload_n hx hb dX8_quarrels_1 rfl (lv_at hl 1 rfl) ?_
  refine lv_iload_n hx hb dX8_quarrels_2 rfl (lv_at hl 2 rfl) ?_
  refine lv_iconst (v := 0) hx hb dX8_quarrels_3 (by decide) ?_
  refine k_i (w2 := [(mA, .inr (8, .int (nI nr) :: .int (nI np) :: .ref m2 :: .ref m3 :: .ref m4 :: .ref m5 :: .ref m6 :: .ref m7 :: .ref m8 :: .int q9 :: .int q10 :: .int q11 :: .int ((nI dg) - 1) :: .int q13 :: .int q14 :: .int q15 :: .int q16 :: .int q17 :: .int q18 :: .int q19 :: .int q20 :: .ref m21 :: .ref m22 :: .ref m23 :: .ref m24 :: .int (nI nb) :: .int (nI ln) :: .int (nI po) :: .int q28 :: .int (nI tk) :: .ref m30 :: .ref m31 :: .int (nI we) :: .int q33 :: [])), (m3, .inl (cI, 160, .inl d3)), (m5, .inl (cZ, 160, .inl d5))]) (va_runV (As := [.int (nI i), .int (nI j), .int 0]) (rest := []) ⟨hx, hb, hml, hown, hts⟩ (c_X8_end0 l _ mA m2 m3 m4 m5 m6 m7 m8 m21 m22 m23 m24 m30 m31 q9 q10 q11 q13 q14 q15 q16 q17 q18 q19 q20 q28 q33 nr np nb ln po tk we dg d3 d5 (nI i) (nI j) i j h20 h2r h2p h8 rfl rfl hi hj) (cwV 3 hts gX8_quarrels_X8_end rfl rfl rfl (by decide +kernel) ⟨Nat.le_of_ble_eq_true rfl, Nat.le_of_ble_eq_true rfl⟩) (pre_V (ci := 8) (q0 := 0) hB hz hA0 hP hD hS [0, 1, 2] rfl rfl rfl rfl rfl) rfl rfl hl.1 rfl (lv_room (Nat.le_of_ble_eq_true rfl)) dX8_quarrels_4 ⟨Nat.zero_le _, Nat.zero_le _⟩) hP hD hS hA [0, 1, 2] [] [0, 1, 2] rfl rfl rfl rfl rfl (fun H locs hP hD hS => ?_)
  refine lv_aload_n hx hb dX8_quarrels_7 rfl (lv_at hl 0 rfl) ?_
  refine lv_iload_n hx hb dX8_quarrels_8 rfl (lv_at hl 1 rfl) ?_
  refine lv_iload_n hx hb dX8_quarrels_9 rfl (lv_at hl 2 rfl) ?_
  refine lv_iconst (v := 1) hx hb dX8_quarrels_10 (by decide) ?_
  refine k_i (w2 := [(mA, .inr (8, .int (nI nr) :: .int (nI np) :: .ref m2 :: .ref m3 :: .ref m4 :: .ref m5 :: .ref m6 :: .ref m7 :: .ref m8 :: .int q9 :: .int q10 :: .int q11 :: .int ((nI dg) - 1) :: .int q13 :: .int q14 :: .int q15 :: .int q16 :: .int q17 :: .int q18 :: .int q19 :: .int q20 :: .ref m21 :: .ref m22 :: .ref m23 :: .ref m24 :: .int (nI nb) :: .int (nI ln) :: .int (nI po) :: .int q28 :: .int (nI tk) :: .ref m30 :: .ref m31 :: .int (nI we) :: .int q33 :: [])), (m3, .inl (cI, 160, .inl d3)), (m5, .inl (cZ, 160, .inl d5))]) (va_runV (As := [.int (nI i), .int (nI j), .int 1]) (rest := [.int (F_X8_end0 q9 nr np d3 d5 i j)]) ⟨hx, hb, hml, hown, hts⟩ (c_X8_end1 l _ mA m2 m3 m4 m5 m6 m7 m8 m21 m22 m23 m24 m30 m31 q9 q10 q11 q13 q14 q15 q16 q17 q18 q19 q20 q28 q33 nr np nb ln po tk we dg d3 d5 (nI i) (nI j) i j h20 h2r h2p h8 rfl rfl hi hj) (cwV 3 hts gX8_quarrels_X8_end rfl rfl rfl (by decide +kernel) ⟨Nat.le_of_ble_eq_true rfl, Nat.le_of_ble_eq_true rfl⟩) (pre_V (ci := 8) (q0 := 0) hB hz hA0 hP hD hS [0, 1, 2] rfl rfl rfl rfl rfl) rfl rfl hl.1 rfl (lv_room (Nat.le_of_ble_eq_true rfl)) dX8_quarrels_11 ⟨Nat.zero_le _, Nat.zero_le _⟩) hP hD hS hA [0, 1, 2] [] [0, 1, 2] rfl rfl rfl rfl rfl (fun H locs hP hD hS => ?_)
  refine lv_icmp_le (tgt := 21) hx hb dX8_quarrels_14 (by decide) (fun c_1 => ?_) (fun c_1 => ?_)
  · refine lv_iconst (v := 0) hx hb dX8_quarrels_21 (by decide) ?_
    have er : F_X8_quarrels q9 nr np d3 d5 i j = 0 := by rw [F_X8_quarrels, if_pos c_1]
    exact W.zret hx hb hr rfl (fun t ht hW => ⟨⟨_, (), rfl, er.symm, by rw [ht]; exact hP, hD⟩, hS.F ht⟩) hS.2.2 dX8_quarrels_22
  · refine lv_iconst (v := 1) hx hb dX8_quarrels_17 (by decide) ?_
    refine lv_goto (tgt := 22) hx hb dX8_quarrels_18 (by decide) ?_
    have er : F_X8_quarrels q9 nr np d3 d5 i j = 1 := by rw [F_X8_quarrels, if_neg c_1]
    exact W.zret hx hb hr rfl (fun t ht hW => ⟨⟨_, (), rfl, er.symm, by rw [ht]; exact hP, hD⟩, hS.F ht⟩) hS.2.2 dX8_quarrels_22

def F_X8_tinBy (q9 : Int32) (nr : Nat) (np : Nat) (d3 : Nat → Int32) (d5 : Nat → Int32) (way : Int32) (i : Nat) (j : Nat) : Int32 :=
  if way = 0 then F_X8_end0 q9 nr np d3 d5 i j else
  if way = 1 then F_X8_end1 q9 nr np d3 d5 i j else
  ((F_X8_end0 q9 nr np d3 d5 i j) + (F_X8_end1 q9 nr np d3 d5 i j)) / 2
set_option maxHeartbeats 4000000 in
set_option maxRecDepth 100000 in
theorem c_X8_tinBy (l : Launch) {D : va_G} {cI cZ cB : ClassId} {au : Nat} {kA kV : Nat → Nat} {z0 : Nat} (sz : Nat) (mA : Nat) (m2 : Nat) (m3 : Nat) (m4 : Nat) (m5 : Nat) (m6 : Nat) (m7 : Nat) (m8 : Nat) (m21 : Nat) (m22 : Nat) (m23 : Nat) (m24 : Nat) (m30 : Nat) (m31 : Nat) (q9 : Int32) (q10 : Int32) (q11 : Int32) (q13 : Int32) (q14 : Int32) (q15 : Int32) (q16 : Int32) (q17 : Int32) (q18 : Int32) (q19 : Int32) (q20 : Int32) (q28 : Int32) (q33 : Int32) (nr : Nat) (np : Nat) (nb : Nat) (ln : Nat) (po : Nat) (tk : Nat) (we : Nat) (dg : Nat) (d3 : Nat → Int32) (d5 : Nat → Int32) (row : Int32) (place : Int32) (way : Int32) (i : Nat) (j : Nat) (h20 : nr ≤ 20) (h2r : 2 ≤ nr) (h2p : 2 ≤ np) (h8 : np ≤ 8) (e_i : row = nI i) (e_j : place = nI j) (hi : i < nr) (hj : j < np) : Met l yX8_tinBy wsX8_tinBy ({ frames := 2, cells := 0, slots := 0, locals := 49 }) (va_Pc [.ref mA, .int row, .int place, .int way] (PRE D cI cZ cB au kA kV z0 sz [(mA, .inr (8, .int (nI nr) :: .int (nI np) :: .ref m2 :: .ref m3 :: .ref m4 :: .ref m5 :: .ref m6 :: .ref m7 :: .ref m8 :: .int q9 :: .int q10 :: .int q11 :: .int ((nI dg) - 1) :: .int q13 :: .int q14 :: .int q15 :: .int q16 :: .int q17 :: .int q18 :: .int q19 :: .int q20 :: .ref m21 :: .ref m22 :: .ref m23 :: .ref m24 :: .int (nI nb) :: .int (nI ln) :: .int (nI po) :: .int q28 :: .int (nI tk) :: .ref m30 :: .ref m31 :: .int (nI we) :: .int q33 :: [])), (m3, .inl (cI, 160, .inl d3)), (m5, .inl (cZ, 160, .inl d5))])) (QI D [(mA, .inr (8, .int (nI nr) :: .int (nI np) :: .ref m2 :: .ref m3 :: .ref m4 :: .ref m5 :: .ref m6 :: .ref m7 :: .ref m8 :: .int q9 :: .int q10 :: .int q11 :: .int ((nI dg) - 1) :: .int q13 :: .int q14 :: .int q15 :: .int q16 :: .int q17 :: .int q18 :: .int q19 :: .int q20 :: .ref m21 :: .ref m22 :: .ref m23 :: .ref m24 :: .int (nI nb) :: .int (nI ln) :: .int (nI po) :: .int q28 :: .int (nI tk) :: .ref m30 :: .ref m31 :: .int (nI we) :: .int q33 :: [])), (m3, .inl (cI, 160, .inl d3)), (m5, .inl (cZ, 160, .inl d5))] sz (F_X8_tinBy q9 nr np d3 d5 way i j) [(mA, .inr (8, .int (nI nr) :: .int (nI np) :: .ref m2 :: .ref m3 :: .ref m4 :: .ref m5 :: .ref m6 :: .ref m7 :: .ref m8 :: .int q9 :: .int q10 :: .int q11 :: .int ((nI dg) - 1) :: .int q13 :: .int q14 :: .int q15 :: .int q16 :: .int q17 :: .int q18 :: .int q19 :: .int q20 :: .ref m21 :: .ref m22 :: .ref m23 :: .ref m24 :: .int (nI nb) :: .int (nI ln) :: .int (nI po) :: .int q28 :: .int (nI tk) :: .ref m30 :: .ref m31 :: .int (nI we) :: .int q33 :: [])), (m3, .inl (cI, 160, .inl d3)), (m5, .inl (cZ, 160, .inl d5))]) 0 0 (va_A [(mA, .inr (8, .int (nI nr) :: .int (nI np) :: .ref m2 :: .ref m3 :: .ref m4 :: .ref m5 :: .ref m6 :: .ref m7 :: .ref m8 :: .int q9 :: .int q10 :: .int q11 :: .int ((nI dg) - 1) :: .int q13 :: .int q14 :: .int q15 :: .int q16 :: .int q17 :: .int q18 :: .int q19 :: .int q20 :: .ref m21 :: .ref m22 :: .ref m23 :: .ref m24 :: .int (nI nb) :: .int (nI ln) :: .int (nI po) :: .int q28 :: .int (nI tk) :: .ref m30 :: .ref m31 :: .int (nI we) :: .int q33 :: [])), (m3, .inl (cI, 160, .inl d3)), (m5, .inl (cZ, 160, .inl d5))] sz) := by
  subst e_i
  subst e_j
  refine Met.ofW (cc := cX8_tinBy) (maxL := 4) (ret := (some .int)) (by decide) rfl ?_
  intro p e s m args below meth c s₁ B hml hv
  obtain ⟨rfl, hsz, hz, hP, hD0, hB⟩ := hv
  have hx := B.exec
  have hb := B.bytes
  have hr := B.returns
  have hts := atoms_spec (ws := wsX8_tinBy) B.pre
  have hown : s.vm.findClass RX8 = some m.cls := findClass_of_methodNamed B.named
  have hlocks := B.notSynchronized
  subst hsz
  have hD := hD0.self (sz := s.heap.size)
  have hA0 := va_A0 hD0 hz
  unfold QI
  generalize hAe : va_A [(mA, .inr (8, .int (nI nr) :: .int (nI np) :: .ref m2 :: .ref m3 :: .ref m4 :: .ref m5 :: .ref m6 :: .ref m7 :: .ref m8 :: .int q9 :: .int q10 :: .int q11 :: .int ((nI dg) - 1) :: .int q13 :: .int q14 :: .int q15 :: .int q16 :: .int q17 :: .int q18 :: .int q19 :: .int q20 :: .ref m21 :: .ref m22 :: .ref m23 :: .ref m24 :: .int (nI nb) :: .int (nI ln) :: .int (nI po) :: .int q28 :: .int (nI tk) :: .ref m30 :: .ref m31 :: .int (nI we) :: .int q33 :: [])), (m3, .inl (cI, 160, .inl d3)), (m5, .inl (cZ, 160, .inl d5))] s.heap.size = A at hD hA0 ⊢
  have hA : ∀ q : Nat, s.heap.size ≤ q → A q := fun q h => by rw [← hAe]; exact Or.inr h
  have hS : va_S A s.heap s.heap [] := va_S.rf
  have hl := lv_entry ([.ref mA, .int (nI i), .int (nI j), .int way]) (n := 4) (Nat.le_of_ble_eq_true rfl)
  rw [lg_entry_eq]
  generalize (lg_sl ([.ref mA, .int (nI i), .int (nI j), .int way]) ++ List.replicate (4 - (lg_sl ([.ref mA, .int (nI i), .int (nI j), .int way])).length) Slot.unset).toArray = ls at hl ⊢
  have hl : lv_has ls 4 [(0, .ref mA), (1, .int (nI i)), (2, .int (nI j)), (3, .int way)] := hl
  refine lv_iload_n hx hb dX8_tinBy_0 rfl (lv_at hl 3 rfl) ?_
  refine lv_if_ne (tgt := 14) hx hb dX8_tinBy_1 (by decide) (fun c_1 => ?_) (fun c_1 => ?_)
  · refine lv_iload_n hx hb dX8_tinBy_14 rfl (lv_at hl 3 rfl) ?_
    refine lv_iconst (v := 1) hx hb dX8_tinBy_15 (by decide) ?_
    refine lv_icmp_ne (tgt := 29) hx hb dX8_tinBy_16 (by decide) (fun c_2 => ?_) (fun c_2 => ?_)
    · refine lv_aload_n hx hb dX8_tinBy_29 rfl (lv_at hl 0 rfl) ?_
      refine lv_iload_n hx hb dX8_tinBy_30 rfl (lv_at hl 1 rfl) ?_
      refine lv_iload_n hx hb dX8_tinBy_31 rfl (lv_at hl 2 rfl) ?_
      refine lv_iconst (v := 0) hx hb dX8_tinBy_32 (by decide) ?_
      refine k_i (w2 := [(mA, .inr (8, .int (nI nr) :: .int (nI np) :: .ref m2 :: .ref m3 :: .ref m4 :: .ref m5 :: .ref m6 :: .ref m7 :: .ref m8 :: .int q9 :: .int q10 :: .int q11 :: .int ((nI dg) - 1) :: .int q13 :: .int q14 :: .int q15 :: .int q16 :: .int q17 :: .int q18 :: .int q19 :: .int q20 :: .ref m21 :: .ref m22 :: .ref m23 :: .ref m24 :: .int (nI nb) :: .int (nI ln) :: .int (nI po) :: .int q28 :: .int (nI tk) :: .ref m30 :: .ref m31 :: .int (nI we) :: .int q33 :: [])), (m3, .inl (cI, 160, .inl d3)), (m5, .inl (cZ, 160, .inl d5))]) (va_runV (As := [.int (nI i), .int (nI j), .int 0]) (rest := []) ⟨hx, hb, hml, hown, hts⟩ (c_X8_end0 l _ mA m2 m3 m4 m5 m6 m7 m8 m21 m22 m23 m24 m30 m31 q9 q10 q11 q13 q14 q15 q16 q17 q18 q19 q20 q28 q33 nr np nb ln po tk we dg d3 d5 (nI i) (nI j) i j h20 h2r h2p h8 rfl rfl hi hj) (cwV 3 hts gX8_tinBy_X8_end rfl rfl rfl (by decide +kernel) ⟨Nat.le_of_ble_eq_true rfl, Nat.le_of_ble_eq_true rfl⟩) (pre_V (ci := 8) (q0 := 0) hB hz hA0 hP hD hS [0, 1, 2] rfl rfl rfl rfl rfl) rfl rfl hl.1 rfl (lv_room (Nat.le_of_ble_eq_true rfl)) dX8_tinBy_33 ⟨Nat.zero_le _, Nat.zero_le _⟩) hP hD hS hA [0, 1, 2] [] [0, 1, 2] rfl rfl rfl rfl rfl (fun H locs hP hD hS => ?_)
      refine lv_aload_n hx hb dX8_tinBy_36 rfl (lv_at hl 0 rfl) ?_
      refine lv_iload_n hx hb dX8_tinBy_37 rfl (lv_at hl 1 rfl) ?_
      refine lv_iload_n hx hb dX8_tinBy_38 rfl (lv_at hl 2 rfl) ?_
      refine lv_iconst (v := 1) hx hb dX8_tinBy_39 (by decide) ?_
      refine k_i (w2 := [(mA, .inr (8, .int (nI nr) :: .int (nI np) :: .ref m2 :: .ref m3 :: .ref m4 :: .ref m5 :: .ref m6 :: .ref m7 :: .ref m8 :: .int q9 :: .int q10 :: .int q11 :: .int ((nI dg) - 1) :: .int q13 :: .int q14 :: .int q15 :: .int q16 :: .int q17 :: .int q18 :: .int q19 :: .int q20 :: .ref m21 :: .ref m22 :: .ref m23 :: .ref m24 :: .int (nI nb) :: .int (nI ln) :: .int (nI po) :: .int q28 :: .int (nI tk) :: .ref m30 :: .ref m31 :: .int (nI we) :: .int q33 :: [])), (m3, .inl (cI, 160, .inl d3)), (m5, .inl (cZ, 160, .inl d5))]) (va_runV (As := [.int (nI i), .int (nI j), .int 1]) (rest := [.int (F_X8_end0 q9 nr np d3 d5 i j)]) ⟨hx, hb, hml, hown, hts⟩ (c_X8_end1 l _ mA m2 m3 m4 m5 m6 m7 m8 m21 m22 m23 m24 m30 m31 q9 q10 q11 q13 q14 q15 q16 q17 q18 q19 q20 q28 q33 nr np nb ln po tk we dg d3 d5 (nI i) (nI j) i j h20 h2r h2p h8 rfl rfl hi hj) (cwV 3 hts gX8_tinBy_X8_end rfl rfl rfl (by decide +kernel) ⟨Nat.le_of_ble_eq_true rfl, Nat.le_of_ble_eq_true rfl⟩) (pre_V (ci := 8) (q0 := 0) hB hz hA0 hP hD hS [0, 1, 2] rfl rfl rfl rfl rfl) rfl rfl hl.1 rfl (lv_room (Nat.le_of_ble_eq_true rfl)) dX8_tinBy_40 ⟨Nat.zero_le _, Nat.zero_le _⟩) hP hD hS hA [0, 1, 2] [] [0, 1, 2] rfl rfl rfl rfl rfl (fun H locs hP hD hS => ?_)
      refine lv_iadd hx hb dX8_tinBy_43 ?_
      refine lv_iconst (v := 2) hx hb dX8_tinBy_44 (by decide) ?_
      refine lv_idiv hx hb dX8_tinBy_45 (by decide) ?_
      have er : F_X8_tinBy q9 nr np d3 d5 way i j = ((F_X8_end0 q9 nr np d3 d5 i j) + (F_X8_end1 q9 nr np d3 d5 i j)) / 2 := by rw [F_X8_tinBy, if_neg c_1, if_neg c_2]
      exact W.iret hx hb hr (fun t ht hW => ⟨⟨_, (), rfl, er.symm, by rw [ht]; exact hP, hD⟩, hS.F ht⟩) hS.2.2 dX8_tinBy_46
    · refine lv_aload_n hx hb dX8_tinBy_19 rfl (lv_at hl 0 rfl) ?_
      refine lv_iload_n hx hb dX8_tinBy_20 rfl (lv_at hl 1 rfl) ?_
      refine lv_iload_n hx hb dX8_tinBy_21 rfl (lv_at hl 2 rfl) ?_
      refine lv_iconst (v := 1) hx hb dX8_tinBy_22 (by decide) ?_
      refine k_i (w2 := [(mA, .inr (8, .int (nI nr) :: .int (nI np) :: .ref m2 :: .ref m3 :: .ref m4 :: .ref m5 :: .ref m6 :: .ref m7 :: .ref m8 :: .int q9 :: .int q10 :: .int q11 :: .int ((nI dg) - 1) :: .int q13 :: .int q14 :: .int q15 :: .int q16 :: .int q17 :: .int q18 :: .int q19 :: .int q20 :: .ref m21 :: .ref m22 :: .ref m23 :: .ref m24 :: .int (nI nb) :: .int (nI ln) :: .int (nI po) :: .int q28 :: .int (nI tk) :: .ref m30 :: .ref m31 :: .int (nI we) :: .int q33 :: [])), (m3, .inl (cI, 160, .inl d3)), (m5, .inl (cZ, 160, .inl d5))]) (va_runV (As := [.int (nI i), .int (nI j), .int 1]) (rest := []) ⟨hx, hb, hml, hown, hts⟩ (c_X8_end1 l _ mA m2 m3 m4 m5 m6 m7 m8 m21 m22 m23 m24 m30 m31 q9 q10 q11 q13 q14 q15 q16 q17 q18 q19 q20 q28 q33 nr np nb ln po tk we dg d3 d5 (nI i) (nI j) i j h20 h2r h2p h8 rfl rfl hi hj) (cwV 3 hts gX8_tinBy_X8_end rfl rfl rfl (by decide +kernel) ⟨Nat.le_of_ble_eq_true rfl, Nat.le_of_ble_eq_true rfl⟩) (pre_V (ci := 8) (q0 := 0) hB hz hA0 hP hD hS [0, 1, 2] rfl rfl rfl rfl rfl) rfl rfl hl.1 rfl (lv_room (Nat.le_of_ble_eq_true rfl)) dX8_tinBy_23 ⟨Nat.zero_le _, Nat.zero_le _⟩) hP hD hS hA [0, 1, 2] [] [0, 1, 2] rfl rfl rfl rfl rfl (fun H locs hP hD hS => ?_)
      refine lv_goto (tgt := 46) hx hb dX8_tinBy_26 (by decide) ?_
      have er : F_X8_tinBy q9 nr np d3 d5 way i j = F_X8_end1 q9 nr np d3 d5 i j := by rw [F_X8_tinBy, if_neg c_1, if_pos c_2]
      exact W.iret hx hb hr (fun t ht hW => ⟨⟨_, (), rfl, er.symm, by rw [ht]; exact hP, hD⟩, hS.F ht⟩) hS.2.2 dX8_tinBy_46
  · refine lv_aload_n hx hb dX8_tinBy_4 rfl (lv_at hl 0 rfl) ?_
    refine lv_iload_n hx hb dX8_tinBy_5 rfl (lv_at hl 1 rfl) ?_
    refine lv_iload_n hx hb dX8_tinBy_6 rfl (lv_at hl 2 rfl) ?_
    refine lv_iconst (v := 0) hx hb dX8_tinBy_7 (by decide) ?_
    refine k_i (w2 := [(mA, .inr (8, .int (nI nr) :: .int (nI np) :: .ref m2 :: .ref m3 :: .ref m4 :: .ref m5 :: .ref m6 :: .ref m7 :: .ref m8 :: .int q9 :: .int q10 :: .int q11 :: .int ((nI dg) - 1) :: .int q13 :: .int q14 :: .int q15 :: .int q16 :: .int q17 :: .int q18 :: .int q19 :: .int q20 :: .ref m21 :: .ref m22 :: .ref m23 :: .ref m24 :: .int (nI nb) :: .int (nI ln) :: .int (nI po) :: .int q28 :: .int (nI tk) :: .ref m30 :: .ref m31 :: .int (nI we) :: .int q33 :: [])), (m3, .inl (cI, 160, .inl d3)), (m5, .inl (cZ, 160, .inl d5))]) (va_runV (As := [.int (nI i), .int (nI j), .int 0]) (rest := []) ⟨hx, hb, hml, hown, hts⟩ (c_X8_end0 l _ mA m2 m3 m4 m5 m6 m7 m8 m21 m22 m23 m24 m30 m31 q9 q10 q11 q13 q14 q15 q16 q17 q18 q19 q20 q28 q33 nr np nb ln po tk we dg d3 d5 (nI i) (nI j) i j h20 h2r h2p h8 rfl rfl hi hj) (cwV 3 hts gX8_tinBy_X8_end rfl rfl rfl (by decide +kernel) ⟨Nat.le_of_ble_eq_true rfl, Nat.le_of_ble_eq_true rfl⟩) (pre_V (ci := 8) (q0 := 0) hB hz hA0 hP hD hS [0, 1, 2] rfl rfl rfl rfl rfl) rfl rfl hl.1 rfl (lv_room (Nat.le_of_ble_eq_true rfl)) dX8_tinBy_8 ⟨Nat.zero_le _, Nat.zero_le _⟩) hP hD hS hA [0, 1, 2] [] [0, 1, 2] rfl rfl rfl rfl rfl (fun H locs hP hD hS => ?_)
    refine lv_goto (tgt := 46) hx hb dX8_tinBy_11 (by decide) ?_
    have er : F_X8_tinBy q9 nr np d3 d5 way i j = F_X8_end0 q9 nr np d3 d5 i j := by rw [F_X8_tinBy, if_pos c_1]
    exact W.iret hx hb hr (fun t ht hW => ⟨⟨_, (), rfl, er.symm, by rw [ht]; exact hP, hD⟩, hS.F ht⟩) hS.2.2 dX8_tinBy_46

def F_X8_square (q9 : Int32) (nr : Nat) (np : Nat) (d2 : Nat → Int32) (d3 : Nat → Int32) (d5 : Nat → Int32) (d6 : Nat → Int32) (d7 : Nat → Int32) (row : Int32) (place : Int32) (what : Int32) : Int32 :=
  if (F_X8_isSquare nr np row place) = 0 then (-1) else
  if what = 0 then d2 ((8 * row.toNatClampNeg) + place.toNatClampNeg) else
  if what = 1 then F_X8_end0 q9 nr np d3 d5 row.toNatClampNeg place.toNatClampNeg else
  if what = 2 then F_X8_end1 q9 nr np d3 d5 row.toNatClampNeg place.toNatClampNeg else
  if what = 3 then F_X8_one (F_X8_quarrels q9 nr np d3 d5 row.toNatClampNeg place.toNatClampNeg) else
  if what = 4 then F_X8_one (d6 ((8 * row.toNatClampNeg) + place.toNatClampNeg)) else
  if what = 5 then F_X8_one (d7 ((8 * row.toNatClampNeg) + place.toNatClampNeg)) else
  if what = 6 then F_X8_one (d5 ((8 * row.toNatClampNeg) + place.toNatClampNeg)) else
  (-1)
set_option maxHeartbeats 4000000 in
set_option maxRecDepth 100000 in
theorem c_X8_square (l : Launch) {D : va_G} {cI cZ cB : ClassId} {au : Nat} {kA kV : Nat → Nat} {z0 : Nat} (sz : Nat) (mA : Nat) (m2 : Nat) (m3 : Nat) (m4 : Nat) (m5 : Nat) (m6 : Nat) (m7 : Nat) (m8 : Nat) (m21 : Nat) (m22 : Nat) (m23 : Nat) (m24 : Nat) (m30 : Nat) (m31 : Nat) (q9 : Int32) (q10 : Int32) (q11 : Int32) (q13 : Int32) (q14 : Int32) (q15 : Int32) (q16 : Int32) (q17 : Int32) (q18 : Int32) (q19 : Int32) (q20 : Int32) (q28 : Int32) (q33 : Int32) (nr : Nat) (np : Nat) (nb : Nat) (ln : Nat) (po : Nat) (tk : Nat) (we : Nat) (dg : Nat) (d2 : Nat → Int32) (d3 : Nat → Int32) (d5 : Nat → Int32) (d6 : Nat → Int32) (d7 : Nat → Int32) (row : Int32) (place : Int32) (what : Int32) (h20 : nr ≤ 20) (h2r : 2 ≤ nr) (h2p : 2 ≤ np) (h8 : np ≤ 8) : Met l yX8_square wsX8_square ({ frames := 3, cells := 0, slots := 0, locals := 71 }) (va_Pc [.ref mA, .int row, .int place, .int what] (PRE D cI cZ cB au kA kV z0 sz [(mA, .inr (8, .int (nI nr) :: .int (nI np) :: .ref m2 :: .ref m3 :: .ref m4 :: .ref m5 :: .ref m6 :: .ref m7 :: .ref m8 :: .int q9 :: .int q10 :: .int q11 :: .int ((nI dg) - 1) :: .int q13 :: .int q14 :: .int q15 :: .int q16 :: .int q17 :: .int q18 :: .int q19 :: .int q20 :: .ref m21 :: .ref m22 :: .ref m23 :: .ref m24 :: .int (nI nb) :: .int (nI ln) :: .int (nI po) :: .int q28 :: .int (nI tk) :: .ref m30 :: .ref m31 :: .int (nI we) :: .int q33 :: [])), (m2, .inl (cI, 160, .inl d2)), (m3, .inl (cI, 160, .inl d3)), (m5, .inl (cZ, 160, .inl d5)), (m6, .inl (cZ, 160, .inl d6)), (m7, .inl (cZ, 160, .inl d7))])) (QI D [(mA, .inr (8, .int (nI nr) :: .int (nI np) :: .ref m2 :: .ref m3 :: .ref m4 :: .ref m5 :: .ref m6 :: .ref m7 :: .ref m8 :: .int q9 :: .int q10 :: .int q11 :: .int ((nI dg) - 1) :: .int q13 :: .int q14 :: .int q15 :: .int q16 :: .int q17 :: .int q18 :: .int q19 :: .int q20 :: .ref m21 :: .ref m22 :: .ref m23 :: .ref m24 :: .int (nI nb) :: .int (nI ln) :: .int (nI po) :: .int q28 :: .int (nI tk) :: .ref m30 :: .ref m31 :: .int (nI we) :: .int q33 :: [])), (m2, .inl (cI, 160, .inl d2)), (m3, .inl (cI, 160, .inl d3)), (m5, .inl (cZ, 160, .inl d5)), (m6, .inl (cZ, 160, .inl d6)), (m7, .inl (cZ, 160, .inl d7))] sz (F_X8_square q9 nr np d2 d3 d5 d6 d7 row place what) [(mA, .inr (8, .int (nI nr) :: .int (nI np) :: .ref m2 :: .ref m3 :: .ref m4 :: .ref m5 :: .ref m6 :: .ref m7 :: .ref m8 :: .int q9 :: .int q10 :: .int q11 :: .int ((nI dg) - 1) :: .int q13 :: .int q14 :: .int q15 :: .int q16 :: .int q17 :: .int q18 :: .int q19 :: .int q20 :: .ref m21 :: .ref m22 :: .ref m23 :: .ref m24 :: .int (nI nb) :: .int (nI ln) :: .int (nI po) :: .int q28 :: .int (nI tk) :: .ref m30 :: .ref m31 :: .int (nI we) :: .int q33 :: [])), (m2, .inl (cI, 160, .inl d2)), (m3, .inl (cI, 160, .inl d3)), (m5, .inl (cZ, 160, .inl d5)), (m6, .inl (cZ, 160, .inl d6)), (m7, .inl (cZ, 160, .inl d7))]) 0 0 (va_A [(mA, .inr (8, .int (nI nr) :: .int (nI np) :: .ref m2 :: .ref m3 :: .ref m4 :: .ref m5 :: .ref m6 :: .ref m7 :: .ref m8 :: .int q9 :: .int q10 :: .int q11 :: .int ((nI dg) - 1) :: .int q13 :: .int q14 :: .int q15 :: .int q16 :: .int q17 :: .int q18 :: .int q19 :: .int q20 :: .ref m21 :: .ref m22 :: .ref m23 :: .ref m24 :: .int (nI nb) :: .int (nI ln) :: .int (nI po) :: .int q28 :: .int (nI tk) :: .ref m30 :: .ref m31 :: .int (nI we) :: .int q33 :: [])), (m2, .inl (cI, 160, .inl d2)), (m3, .inl (cI, 160, .inl d3)), (m5, .inl (cZ, 160, .inl d5)), (m6, .inl (cZ, 160, .inl d6)), (m7, .inl (cZ, 160, .inl d7))] sz) := by
  refine Met.ofW (cc := cX8_square) (maxL := 5) (ret := (some .int)) (by decide) rfl ?_
  intro p e s m args below meth c s₁ B hml hv
  obtain ⟨rfl, hsz, hz, hP, hD0, hB⟩ := hv
  have hx := B.exec
  have hb := B.bytes
  have hr := B.returns
  have hts := atoms_spec (ws := wsX8_square) B.pre
  have hown : s.vm.findClass RX8 = some m.cls := findClass_of_methodNamed B.named
  have hlocks := B.notSynchronized
  subst hsz
  have hD := hD0.self (sz := s.heap.size)
  have hA0 := va_A0 hD0 hz
  unfold QI
  generalize hAe : va_A [(mA, .inr (8, .int (nI nr) :: .int (nI np) :: .ref m2 :: .ref m3 :: .ref m4 :: .ref m5 :: .ref m6 :: .ref m7 :: .ref m8 :: .int q9 :: .int q10 :: .int q11 :: .int ((nI dg) - 1) :: .int q13 :: .int q14 :: .int q15 :: .int q16 :: .int q17 :: .int q18 :: .int q19 :: .int q20 :: .ref m21 :: .ref m22 :: .ref m23 :: .ref m24 :: .int (nI nb) :: .int (nI ln) :: .int (nI po) :: .int q28 :: .int (nI tk) :: .ref m30 :: .ref m31 :: .int (nI we) :: .int q33 :: [])), (m2, .inl (cI, 160, .inl d2)), (m3, .inl (cI, 160, .inl d3)), (m5, .inl (cZ, 160, .inl d5)), (m6, .inl (cZ, 160, .inl d6)), (m7, .inl (cZ, 160, .inl d7))] s.heap.size = A at hD hA0 ⊢
  have hA : ∀ q : Nat, s.heap.size ≤ q → A q := fun q h => by rw [← hAe]; exact Or.inr h
  have hS : va_S A s.heap s.heap [] := va_S.rf
  have hiX8 : ∀ w ∈ wsX80, w ∈ wsX8_square := fun w h => List.mem_cons_of_mem _ (List.mem_append_right _ h)
  have hl := lv_entry ([.ref mA, .int row, .int place, .int what]) (n := 5) (Nat.le_of_ble_eq_true rfl)
  rw [lg_entry_eq]
  generalize (lg_sl ([.ref mA, .int row, .int place, .int what]) ++ List.replicate (5 - (lg_sl ([.ref mA, .int row, .int place, .int what])).length) Slot.unset).toArray = ls at hl ⊢
  have hl : lv_has ls 5 [(0, .ref mA), (1, .int row), (2, .int place), (3, .int what)] := hl
  refine lv_aload_n hx hb dX8_square_0 rfl (lv_at hl 0 rfl) ?_
  refine lv_iload_n hx hb dX8_square_1 rfl (lv_at hl 1 rfl) ?_
  refine lv_iload_n hx hb dX8_square_2 rfl (lv_at hl 2 rfl) ?_
  refine k_i (w2 := [(mA, .inr (8, .int (nI nr) :: .int (nI np) :: .ref m2 :: .ref m3 :: .ref m4 :: .ref m5 :: .ref m6 :: .ref m7 :: .ref m8 :: .int q9 :: .int q10 :: .int q11 :: .int ((nI dg) - 1) :: .int q13 :: .int q14 :: .int q15 :: .int q16 :: .int q17 :: .int q18 :: .int q19 :: .int q20 :: .ref m21 :: .ref m22 :: .ref m23 :: .ref m24 :: .int (nI nb) :: .int (nI ln) :: .int (nI po) :: .int q28 :: .int (nI tk) :: .ref m30 :: .ref m31 :: .int (nI we) :: .int q33 :: [])), (m2, .inl (cI, 160, .inl d2)), (m3, .inl (cI, 160, .inl d3)), (m5, .inl (cZ, 160, .inl d5)), (m6, .inl (cZ, 160, .inl d6)), (m7, .inl (cZ, 160, .inl d7))]) (va_runV (As := [.int row, .int place]) (rest := []) ⟨hx, hb, hml, hown, hts⟩ (c_X8_isSquare l _ mA m2 m3 m4 m5 m6 m7 m8 m21 m22 m23 m24 m30 m31 q9 q10 q11 q13 q14 q15 q16 q17 q18 q19 q20 q28 q33 nr np nb ln po tk we dg row place h20 h2r h2p h8) (cwV 2 hts gX8_square_X8_isSquare rfl rfl rfl (by decide +kernel) ⟨Nat.le_of_ble_eq_true rfl, Nat.le_of_ble_eq_true rfl⟩) (pre_V (ci := 8) (q0 := 0) hB hz hA0 hP hD hS [0] rfl rfl rfl rfl rfl) rfl rfl hl.1 rfl (lv_room (Nat.le_of_ble_eq_true rfl)) dX8_square_3 ⟨Nat.zero_le _, Nat.zero_le _⟩) hP hD hS hA [0] [1, 2, 3, 4, 5] [5, 0, 1, 2, 3, 4] rfl rfl rfl rfl rfl (fun H locs hP hD hS => ?_)
  refine lv_if_ne (tgt := 11) hx hb dX8_square_6 (by decide) (fun c_1 => ?_) (fun c_1 => ?_)
  · obtain ⟨⟨hr1, hr2⟩, hp1, hp2⟩ := has_ix (nr := nr) (np := np) (by omega) (by omega) (by rw [← sq_eq]; exact c_1)
    refine lv_bipush (v := 8) hx hb dX8_square_11 (by decide) ?_
    refine lv_iload_n hx hb dX8_square_13 rfl (lv_at hl 1 rfl) ?_
    refine lv_imul hx hb dX8_square_14 ?_
    refine lv_iload_n hx hb dX8_square_15 rfl (lv_at hl 2 rfl) ?_
    refine lv_iadd hx hb dX8_square_16 ?_
    refine lv_istore (lv' := [(4, .int ((8 * row) + place)), (0, .ref mA), (1, .int row), (2, .int place), (3, .int what)]) hx hb dX8_square_17 hl (by decide) rfl (fun ls hl => ?_)
    refine lv_iload_n hx hb dX8_square_19 rfl (lv_at hl 4 rfl) ?_
    by_cases c_2 : what = 0
    · refine lv_tableIn (tgt := 64) hx hb dX8_square_20 (by rw [c_2]; decide) (by rw [c_2]; decide) (by rw [c_2] <;> rfl) (by decide) ?_
      refine lv_aload_n hx hb dX8_square_64 rfl (lv_at hl 1 rfl) ?_
      refine va_get (D := D) (ci := 8) (v := .ref m2) (C := RX8) (T := TX8) (N := 34) hx hb hts hiX8 hown hB.1 hP 0 rfl rfl 2 (by decide) (hts _ (List.mem_of_getElem? (i := 1) rfl)) (fun _ h9 => h9) rfl dX8_square_65 ?_
      refine lv_iload hx hb dX8_square_68 (lv_at hl 0 rfl) ?_
      refine ra_i hx hb hB.1 hP 1 rfl ((8 * row.toNatClampNeg) + place.toNatClampNeg) (nx_add (nx_mul rfl hr1) hp1) (by omega) (by decide) dX8_square_70 ?_
      have er : F_X8_square q9 nr np d2 d3 d5 d6 d7 row place what = d2 ((8 * row.toNatClampNeg) + place.toNatClampNeg) := by rw [F_X8_square, if_neg c_1, if_pos c_2]
      exact W.iret hx hb hr (fun t ht hW => ⟨⟨_, (), rfl, er.symm, by rw [ht]; exact hP, hD⟩, hS.F ht⟩) hS.2.2 dX8_square_71
    by_cases c_3 : what = 1
    · refine lv_tableIn (tgt := 72) hx hb dX8_square_20 (by rw [c_3]; decide) (by rw [c_3]; decide) (by rw [c_3] <;> rfl) (by decide) ?_
      refine lv_aload_n hx hb dX8_square_72 rfl (lv_at hl 1 rfl) ?_
      refine lv_iload_n hx hb dX8_square_73 rfl (lv_at hl 2 rfl) ?_
      refine lv_iload_n hx hb dX8_square_74 rfl (lv_at hl 3 rfl) ?_
      refine lv_iconst (v := 0) hx hb dX8_square_75 (by decide) ?_
      refine k_i (w2 := [(mA, .inr (8, .int (nI nr) :: .int (nI np) :: .ref m2 :: .ref m3 :: .ref m4 :: .ref m5 :: .ref m6 :: .ref m7 :: .ref m8 :: .int q9 :: .int q10 :: .int q11 :: .int ((nI dg) - 1) :: .int q13 :: .int q14 :: .int q15 :: .int q16 :: .int q17 :: .int q18 :: .int q19 :: .int q20 :: .ref m21 :: .ref m22 :: .ref m23 :: .ref m24 :: .int (nI nb) :: .int (nI ln) :: .int (nI po) :: .int q28 :: .int (nI tk) :: .ref m30 :: .ref m31 :: .int (nI we) :: .int q33 :: [])), (m2, .inl (cI, 160, .inl d2)), (m3, .inl (cI, 160, .inl d3)), (m5, .inl (cZ, 160, .inl d5)), (m6, .inl (cZ, 160, .inl d6)), (m7, .inl (cZ, 160, .inl d7))]) (va_runV (As := [.int row, .int place, .int 0]) (rest := []) ⟨hx, hb, hml, hown, hts⟩ (c_X8_end0 l _ mA m2 m3 m4 m5 m6 m7 m8 m21 m22 m23 m24 m30 m31 q9 q10 q11 q13 q14 q15 q16 q17 q18 q19 q20 q28 q33 nr np nb ln po tk we dg d3 d5 row place row.toNatClampNeg place.toNatClampNeg h20 h2r h2p h8 hr1 hp1 hr2 hp2) (cwV 3 hts gX8_square_X8_end rfl rfl rfl (by decide +kernel) ⟨Nat.le_of_ble_eq_true rfl, Nat.le_of_ble_eq_true rfl⟩) (pre_V (ci := 8) (q0 := 0) hB hz hA0 hP hD hS [0, 2, 3] rfl rfl rfl rfl rfl) rfl rfl hl.1 rfl (lv_room (Nat.le_of_ble_eq_true rfl)) dX8_square_76 ⟨Nat.zero_le _, Nat.zero_le _⟩) hP hD hS hA [0, 2, 3] [1, 4, 5] [3, 0, 4, 5, 1, 2] rfl rfl rfl rfl rfl (fun H locs hP hD hS => ?_)
      have er : F_X8_square q9 nr np d2 d3 d5 d6 d7 row place what = F_X8_end0 q9 nr np d3 d5 row.toNatClampNeg place.toNatClampNeg := by rw [F_X8_square, if_neg c_1, if_neg c_2, if_pos c_3]
      exact W.iret hx hb hr (fun t ht hW => ⟨⟨_, (), rfl, er.symm, by rw [ht]; exact hP, hD⟩, hS.F ht⟩) hS.2.2 dX8_square_79
    by_cases c_4 : what = 2
    · refine lv_tableIn (tgt := 80) hx hb dX8_square_20 (by rw [c_4]; decide) (by rw [c_4]; decide) (by rw [c_4] <;> rfl) (by decide) ?_
      refine lv_aload_n hx hb dX8_square_80 rfl (lv_at hl 1 rfl) ?_
      refine lv_iload_n hx hb dX8_square_81 rfl (lv_at hl 2 rfl) ?_
      refine lv_iload_n hx hb dX8_square_82 rfl (lv_at hl 3 rfl) ?_
      refine lv_iconst (v := 1) hx hb dX8_square_83 (by decide) ?_
      refine k_i (w2 := [(mA, .inr (8, .int (nI nr) :: .int (nI np) :: .ref m2 :: .ref m3 :: .ref m4 :: .ref m5 :: .ref m6 :: .ref m7 :: .ref m8 :: .int q9 :: .int q10 :: .int q11 :: .int ((nI dg) - 1) :: .int q13 :: .int q14 :: .int q15 :: .int q16 :: .int q17 :: .int q18 :: .int q19 :: .int q20 :: .ref m21 :: .ref m22 :: .ref m23 :: .ref m24 :: .int (nI nb) :: .int (nI ln) :: .int (nI po) :: .int q28 :: .int (nI tk) :: .ref m30 :: .ref m31 :: .int (nI we) :: .int q33 :: [])), (m2, .inl (cI, 160, .inl d2)), (m3, .inl (cI, 160, .inl d3)), (m5, .inl (cZ, 160, .inl d5)), (m6, .inl (cZ, 160, .inl d6)), (m7, .inl (cZ, 160, .inl d7))]) (va_runV (As := [.int row, .int place, .int 1]) (rest := []) ⟨hx, hb, hml, hown, hts⟩ (c_X8_end1 l _ mA m2 m3 m4 m5 m6 m7 m8 m21 m22 m23 m24 m30 m31 q9 q10 q11 q13 q14 q15 q16 q17 q18 q19 q20 q28 q33 nr np nb ln po tk we dg d3 d5 row place row.toNatClampNeg place.toNatClampNeg h20 h2r h2p h8 hr1 hp1 hr2 hp2) (cwV 3 hts gX8_square_X8_end rfl rfl rfl (by decide +kernel) ⟨Nat.le_of_ble_eq_true rfl, Nat.le_of_ble_eq_true rfl⟩) (pre_V (ci := 8) (q0 := 0) hB hz hA0 hP hD hS [0, 2, 3] rfl rfl rfl rfl rfl) rfl rfl hl.1 rfl (lv_room (Nat.le_of_ble_eq_true rfl)) dX8_square_84 ⟨Nat.zero_le _, Nat.zero_le _⟩) hP hD hS hA [0, 2, 3] [1, 4, 5] [3, 0, 4, 5, 1, 2] rfl rfl rfl rfl rfl (fun H locs hP hD hS => ?_)
      have er : F_X8_square q9 nr np d2 d3 d5 d6 d7 row place what = F_X8_end1 q9 nr np d3 d5 row.toNatClampNeg place.toNatClampNeg := by rw [F_X8_square, if_neg c_1, if_neg c_2, if_neg c_3, if_pos c_4]
      exact W.iret hx hb hr (fun t ht hW => ⟨⟨_, (), rfl, er.symm, by rw [ht]; exact hP, hD⟩, hS.F ht⟩) hS.2.2 dX8_square_87
    by_cases c_5 : what = 3
    · refine lv_tableIn (tgt := 88) hx hb dX8_square_20 (by rw [c_5]; decide) (by rw [c_5]; decide) (by rw [c_5] <;> rfl) (by decide) ?_
      refine lv_aload_n hx hb dX8_square_88 rfl (lv_at hl 1 rfl) ?_
      refine lv_iload_n hx hb dX8_square_89 rfl (lv_at hl 2 rfl) ?_
      refine lv_iload_n hx hb dX8_square_90 rfl (lv_at hl 3 rfl) ?_
      refine k_i (w2 := [(mA, .inr (8, .int (nI nr) :: .int (nI np) :: .ref m2 :: .ref m3 :: .ref m4 :: .ref m5 :: .ref m6 :: .ref m7 :: .ref m8 :: .int q9 :: .int q10 :: .int q11 :: .int ((nI dg) - 1) :: .int q13 :: .int q14 :: .int q15 :: .int q16 :: .int q17 :: .int q18 :: .int q19 :: .int q20 :: .ref m21 :: .ref m22 :: .ref m23 :: .ref m24 :: .int (nI nb) :: .int (nI ln) :: .int (nI po) :: .int q28 :: .int (nI tk) :: .ref m30 :: .ref m31 :: .int (nI we) :: .int q33 :: [])), (m2, .inl (cI, 160, .inl d2)), (m3, .inl (cI, 160, .inl d3)), (m5, .inl (cZ, 160, .inl d5)), (m6, .inl (cZ, 160, .inl d6)), (m7, .inl (cZ, 160, .inl d7))]) (va_runV (As := [.int row, .int place]) (rest := []) ⟨hx, hb, hml, hown, hts⟩ (c_X8_quarrels l _ mA m2 m3 m4 m5 m6 m7 m8 m21 m22 m23 m24 m30 m31 q9 q10 q11 q13 q14 q15 q16 q17 q18 q19 q20 q28 q33 nr np nb ln po tk we dg d3 d5 row place row.toNatClampNeg place.toNatClampNeg h20 h2r h2p h8 hr1 hp1 hr2 hp2) (cwV 2 hts gX8_square_X8_quarrels rfl rfl rfl (by decide +kernel) ⟨Nat.le_of_ble_eq_true rfl, Nat.le_of_ble_eq_true rfl⟩) (pre_V (ci := 8) (q0 := 0) hB hz hA0 hP hD hS [0, 2, 3] rfl rfl rfl rfl rfl) rfl rfl hl.1 rfl (lv_room (Nat.le_of_ble_eq_true rfl)) dX8_square_91 ⟨Nat.zero_le _, Nat.zero_le _⟩) hP hD hS hA [0, 2, 3] [1, 4, 5] [3, 0, 4, 5, 1, 2] rfl rfl rfl rfl rfl (fun H locs hP hD hS => ?_)
      refine k_i (w2 := [(mA, .inr (8, .int (nI nr) :: .int (nI np) :: .ref m2 :: .ref m3 :: .ref m4 :: .ref m5 :: .ref m6 :: .ref m7 :: .ref m8 :: .int q9 :: .int q10 :: .int q11 :: .int ((nI dg) - 1) :: .int q13 :: .int q14 :: .int q15 :: .int q16 :: .int q17 :: .int q18 :: .int q19 :: .int q20 :: .ref m21 :: .ref m22 :: .ref m23 :: .ref m24 :: .int (nI nb) :: .int (nI ln) :: .int (nI po) :: .int q28 :: .int (nI tk) :: .ref m30 :: .ref m31 :: .int (nI we) :: .int q33 :: [])), (m2, .inl (cI, 160, .inl d2)), (m3, .inl (cI, 160, .inl d3)), (m5, .inl (cZ, 160, .inl d5)), (m6, .inl (cZ, 160, .inl d6)), (m7, .inl (cZ, 160, .inl d7))]) (va_runS (As := [.int (F_X8_quarrels q9 nr np d3 d5 row.toNatClampNeg place.toNatClampNeg)]) (rest := []) ⟨hx, hb, hml, hown, hts⟩ (c_X8_one l _ (F_X8_quarrels q9 nr np d3 d5 row.toNatClampNeg place.toNatClampNeg)) (va_cwS 1 hts gX8_square_X8_one rfl rfl rfl (by decide +kernel) ⟨Nat.le_of_ble_eq_true rfl, Nat.le_of_ble_eq_true rfl⟩) (pre_S hB hz hA0 hP hD hS [] rfl rfl) rfl rfl hl.1 rfl (lv_room (Nat.le_of_ble_eq_true rfl)) dX8_square_94 ⟨Nat.zero_le _, Nat.zero_le _⟩) hP hD hS hA [] [0, 1, 2, 3, 4, 5] [0, 1, 2, 3, 4, 5] rfl rfl rfl rfl rfl (fun H locs hP hD hS => ?_)
      have er : F_X8_square q9 nr np d2 d3 d5 d6 d7 row place what = F_X8_one (F_X8_quarrels q9 nr np d3 d5 row.toNatClampNeg place.toNatClampNeg) := by rw [F_X8_square, if_neg c_1, if_neg c_2, if_neg c_3, if_neg c_4, if_pos c_5]
      exact W.iret hx hb hr (fun t ht hW => ⟨⟨_, (), rfl, er.symm, by rw [ht]; exact hP, hD⟩, hS.F ht⟩) hS.2.2 dX8_square_97
    by_cases c_6 : what = 4
    · refine lv_tableIn (tgt := 98) hx hb dX8_square_20 (by rw [c_6]; decide) (by rw [c_6]; decide) (by rw [c_6] <;> rfl) (by decide) ?_
      refine lv_aload_n hx hb dX8_square_98 rfl (lv_at hl 1 rfl) ?_
      refine va_get (D := D) (ci := 8) (v := .ref m6) (C := RX8) (T := TX8) (N := 34) hx hb hts hiX8 hown hB.1 hP 0 rfl rfl 6 (by decide) (hts _ (List.mem_of_getElem? (i := 2) rfl)) (fun _ h9 => h9) rfl dX8_square_99 ?_
      refine lv_iload hx hb dX8_square_102 (lv_at hl 0 rfl) ?_
      refine ra_z hx hb hB.1 hP 4 rfl ((8 * row.toNatClampNeg) + place.toNatClampNeg) (nx_add (nx_mul rfl hr1) hp1) (by omega) (by decide) dX8_square_104 ?_
      refine k_i (w2 := [(mA, .inr (8, .int (nI nr) :: .int (nI np) :: .ref m2 :: .ref m3 :: .ref m4 :: .ref m5 :: .ref m6 :: .ref m7 :: .ref m8 :: .int q9 :: .int q10 :: .int q11 :: .int ((nI dg) - 1) :: .int q13 :: .int q14 :: .int q15 :: .int q16 :: .int q17 :: .int q18 :: .int q19 :: .int q20 :: .ref m21 :: .ref m22 :: .ref m23 :: .ref m24 :: .int (nI nb) :: .int (nI ln) :: .int (nI po) :: .int q28 :: .int (nI tk) :: .ref m30 :: .ref m31 :: .int (nI we) :: .int q33 :: [])), (m2, .inl (cI, 160, .inl d2)), (m3, .inl (cI, 160, .inl d3)), (m5, .inl (cZ, 160, .inl d5)), (m6, .inl (cZ, 160, .inl d6)), (m7, .inl (cZ, 160, .inl d7))]) (va_runS (As := [.int (d6 ((8 * row.toNatClampNeg) + place.toNatClampNeg))]) (rest := []) ⟨hx, hb, hml, hown, hts⟩ (c_X8_one l _ (d6 ((8 * row.toNatClampNeg) + place.toNatClampNeg))) (va_cwS 1 hts gX8_square_X8_one rfl rfl rfl (by decide +kernel) ⟨Nat.le_of_ble_eq_true rfl, Nat.le_of_ble_eq_true rfl⟩) (pre_S hB hz hA0 hP hD hS [] rfl rfl) rfl rfl hl.1 rfl (lv_room (Nat.le_of_ble_eq_true rfl)) dX8_square_105 ⟨Nat.zero_le _, Nat.zero_le _⟩) hP hD hS hA [] [0, 1, 2, 3, 4, 5] [0, 1, 2, 3, 4, 5] rfl rfl rfl rfl rfl (fun H locs hP hD hS => ?_)
      have er : F_X8_square q9 nr np d2 d3 d5 d6 d7 row place what = F_X8_one (d6 ((8 * row.toNatClampNeg) + place.toNatClampNeg)) := by rw [F_X8_square, if_neg c_1, if_neg c_2, if_neg c_3, if_neg c_4, if_neg c_5, if_pos c_6]
      exact W.iret hx hb hr (fun t ht hW => ⟨⟨_, (), rfl, er.symm, by rw [ht]; exact hP, hD⟩, hS.F ht⟩) hS.2.2 dX8_square_108
    by_cases c_7 : what = 5
    · refine lv_tableIn (tgt := 109) hx hb dX8_square_20 (by rw [c_7]; decide) (by rw [c_7]; decide) (by rw [c_7] <;> rfl) (by decide) ?_
      refine lv_aload_n hx hb dX8_square_109 rfl (lv_at hl 1 rfl) ?_
      refine va_get (D := D) (ci := 8) (v := .ref m7) (C := RX8) (T := TX8) (N := 34) hx hb hts hiX8 hown hB.1 hP 0 rfl rfl 7 (by decide) (hts _ (List.mem_of_getElem? (i := 3) rfl)) (fun _ h9 => h9) rfl dX8_square_110 ?_
      refine lv_iload hx hb dX8_square_113 (lv_at hl 0 rfl) ?_
      refine ra_z hx hb hB.1 hP 5 rfl ((8 * row.toNatClampNeg) + place.toNatClampNeg) (nx_add (nx_mul rfl hr1) hp1) (by omega) (by decide) dX8_square_115 ?_
      refine k_i (w2 := [(mA, .inr (8, .int (nI nr) :: .int (nI np) :: .ref m2 :: .ref m3 :: .ref m4 :: .ref m5 :: .ref m6 :: .ref m7 :: .ref m8 :: .int q9 :: .int q10 :: .int q11 :: .int ((nI dg) - 1) :: .int q13 :: .int q14 :: .int q15 :: .int q16 :: .int q17 :: .int q18 :: .int q19 :: .int q20 :: .ref m21 :: .ref m22 :: .ref m23 :: .ref m24 :: .int (nI nb) :: .int (nI ln) :: .int (nI po) :: .int q28 :: .int (nI tk) :: .ref m30 :: .ref m31 :: .int (nI we) :: .int q33 :: [])), (m2, .inl (cI, 160, .inl d2)), (m3, .inl (cI, 160, .inl d3)), (m5, .inl (cZ, 160, .inl d5)), (m6, .inl (cZ, 160, .inl d6)), (m7, .inl (cZ, 160, .inl d7))]) (va_runS (As := [.int (d7 ((8 * row.toNatClampNeg) + place.toNatClampNeg))]) (rest := []) ⟨hx, hb, hml, hown, hts⟩ (c_X8_one l _ (d7 ((8 * row.toNatClampNeg) + place.toNatClampNeg))) (va_cwS 1 hts gX8_square_X8_one rfl rfl rfl (by decide +kernel) ⟨Nat.le_of_ble_eq_true rfl, Nat.le_of_ble_eq_true rfl⟩) (pre_S hB hz hA0 hP hD hS [] rfl rfl) rfl rfl hl.1 rfl (lv_room (Nat.le_of_ble_eq_true rfl)) dX8_square_116 ⟨Nat.zero_le _, Nat.zero_le _⟩) hP hD hS hA [] [0, 1, 2, 3, 4, 5] [0, 1, 2, 3, 4, 5] rfl rfl rfl rfl rfl (fun H locs hP hD hS => ?_)
      have er : F_X8_square q9 nr np d2 d3 d5 d6 d7 row place what = F_X8_one (d7 ((8 * row.toNatClampNeg) + place.toNatClampNeg)) := by rw [F_X8_square, if_neg c_1, if_neg c_2, if_neg c_3, if_neg c_4, if_neg c_5, if_neg c_6, if_pos c_7]
      exact W.iret hx hb hr (fun t ht hW => ⟨⟨_, (), rfl, er.symm, by rw [ht]; exact hP, hD⟩, hS.F ht⟩) hS.2.2 dX8_square_119
    by_cases c_8 : what = 6
    · refine lv_tableIn (tgt := 120) hx hb dX8_square_20 (by rw [c_8]; decide) (by rw [c_8]; decide) (by rw [c_8] <;> rfl) (by decide) ?_
      refine lv_aload_n hx hb dX8_square_120 rfl (lv_at hl 1 rfl) ?_
      refine va_get (D := D) (ci := 8) (v := .ref m5) (C := RX8) (T := TX8) (N := 34) hx hb hts hiX8 hown hB.1 hP 0 rfl rfl 5 (by decide) (hts _ (List.mem_of_getElem? (i := 4) rfl)) (fun _ h9 => h9) rfl dX8_square_121 ?_
      refine lv_iload hx hb dX8_square_124 (lv_at hl 0 rfl) ?_
      refine ra_z hx hb hB.1 hP 3 rfl ((8 * row.toNatClampNeg) + place.toNatClampNeg) (nx_add (nx_mul rfl hr1) hp1) (by omega) (by decide) dX8_square_126 ?_
      refine k_i (w2 := [(mA, .inr (8, .int (nI nr) :: .int (nI np) :: .ref m2 :: .ref m3 :: .ref m4 :: .ref m5 :: .ref m6 :: .ref m7 :: .ref m8 :: .int q9 :: .int q10 :: .int q11 :: .int ((nI dg) - 1) :: .int q13 :: .int q14 :: .int q15 :: .int q16 :: .int q17 :: .int q18 :: .int q19 :: .int q20 :: .ref m21 :: .ref m22 :: .ref m23 :: .ref m24 :: .int (nI nb) :: .int (nI ln) :: .int (nI po) :: .int q28 :: .int (nI tk) :: .ref m30 :: .ref m31 :: .int (nI we) :: .int q33 :: [])), (m2, .inl (cI, 160, .inl d2)), (m3, .inl (cI, 160, .inl d3)), (m5, .inl (cZ, 160, .inl d5)), (m6, .inl (cZ, 160, .inl d6)), (m7, .inl (cZ, 160, .inl d7))]) (va_runS (As := [.int (d5 ((8 * row.toNatClampNeg) + place.toNatClampNeg))]) (rest := []) ⟨hx, hb, hml, hown, hts⟩ (c_X8_one l _ (d5 ((8 * row.toNatClampNeg) + place.toNatClampNeg))) (va_cwS 1 hts gX8_square_X8_one rfl rfl rfl (by decide +kernel) ⟨Nat.le_of_ble_eq_true rfl, Nat.le_of_ble_eq_true rfl⟩) (pre_S hB hz hA0 hP hD hS [] rfl rfl) rfl rfl hl.1 rfl (lv_room (Nat.le_of_ble_eq_true rfl)) dX8_square_127 ⟨Nat.zero_le _, Nat.zero_le _⟩) hP hD hS hA [] [0, 1, 2, 3, 4, 5] [0, 1, 2, 3, 4, 5] rfl rfl rfl rfl rfl (fun H locs hP hD hS => ?_)
      have er : F_X8_square q9 nr np d2 d3 d5 d6 d7 row place what = F_X8_one (d5 ((8 * row.toNatClampNeg) + place.toNatClampNeg)) := by rw [F_X8_square, if_neg c_1, if_neg c_2, if_neg c_3, if_neg c_4, if_neg c_5, if_neg c_6, if_neg c_7, if_pos c_8]
      exact W.iret hx hb hr (fun t ht hW => ⟨⟨_, (), rfl, er.symm, by rw [ht]; exact hP, hD⟩, hS.F ht⟩) hS.2.2 dX8_square_130
    refine lv_tableOut (tgt := 131) hx hb dX8_square_20 (by have z0 := lv_neT c_2 (a := 0) (by decide); have z1 := lv_neT c_3 (a := 1) (by decide); have z2 := lv_neT c_4 (a := 2) (by decide); have z3 := lv_neT c_5 (a := 3) (by decide); have z4 := lv_neT c_6 (a := 4) (by decide); have z5 := lv_neT c_7 (a := 5) (by decide); have z6 := lv_neT c_8 (a := 6) (by decide); omega) (by decide) ?_
    refine lv_iconst (v := (-1)) hx hb dX8_square_131 (by decide) ?_
    have er : F_X8_square q9 nr np d2 d3 d5 d6 d7 row place what = (-1) := by rw [F_X8_square, if_neg c_1, if_neg c_2, if_neg c_3, if_neg c_4, if_neg c_5, if_neg c_6, if_neg c_7, if_neg c_8]
    exact W.iret hx hb hr (fun t ht hW => ⟨⟨_, (), rfl, er.symm, by rw [ht]; exact hP, hD⟩, hS.F ht⟩) hS.2.2 dX8_square_132
  · refine lv_iconst (v := (-1)) hx hb dX8_square_9 (by decide) ?_
    have er : F_X8_square q9 nr np d2 d3 d5 d6 d7 row place what = (-1) := by rw [F_X8_square, if_pos c_1]
    exact W.iret hx hb hr (fun t ht hW => ⟨⟨_, (), rfl, er.symm, by rw [ht]; exact hP, hD⟩, hS.F ht⟩) hS.2.2 dX8_square_10
