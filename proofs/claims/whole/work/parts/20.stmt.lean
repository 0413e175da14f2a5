def F_X3_readStatement (ln : Nat) (kd : Int32) (sa : Nat) (so : Nat) (tp : Nat → Int32) : Int32 :=
  if (F_X3_keyword kd sa so tp) = (-1) then 0 else
  if (F_X3_readNumber ln so tp) = 0 then 0 else
  if (F_X3_keyword kd sa so tp) = 0 then (if (isW tp (F_X3_scan_0_4 ln (F_X3_scan_0_6 ln so tp) tp) (F_X3_scan_0_5 ln (F_X3_scan_0_6 ln so tp) tp) (F_X3_scan_0_6 ln (F_X3_scan_0_6 ln so tp) tp) 0) = 0 then 0 else
    if (F_X3_readNumber ln (F_X3_scan_0_6 ln (F_X3_scan_0_6 ln so tp) tp) tp) = 0 then 0 else
    if (F_X3_scan_0_4 ln (F_X3_scan_0_6 ln (F_X3_scan_0_6 ln (F_X3_scan_0_6 ln so tp) tp) tp) tp) = 3 then 1 else
    0) else
  if (F_X3_scan_0_4 ln (F_X3_scan_0_6 ln so tp) tp) = 3 then 1 else
  0
def F_X3_readStatement_0_4 (ln : Nat) (kd : Int32) (sa : Nat) (so : Nat) (tp : Nat → Int32) : Int32 :=
  if (F_X3_keyword kd sa so tp) = (-1) then kd else
  if (F_X3_readNumber ln so tp) = 0 then F_X3_scan_0_4 ln so tp else
  if (F_X3_keyword kd sa so tp) = 0 then (if (isW tp (F_X3_scan_0_4 ln (F_X3_scan_0_6 ln so tp) tp) (F_X3_scan_0_5 ln (F_X3_scan_0_6 ln so tp) tp) (F_X3_scan_0_6 ln (F_X3_scan_0_6 ln so tp) tp) 0) = 0 then (F_X3_scan_0_4 ln (F_X3_scan_0_6 ln so tp) tp) else
    if (F_X3_readNumber ln (F_X3_scan_0_6 ln (F_X3_scan_0_6 ln so tp) tp) tp) = 0 then F_X3_scan_0_4 ln (F_X3_scan_0_6 ln (F_X3_scan_0_6 ln so tp) tp) tp else
    if (F_X3_scan_0_4 ln (F_X3_scan_0_6 ln (F_X3_scan_0_6 ln (F_X3_scan_0_6 ln so tp) tp) tp) tp) = 3 then F_X3_scan_0_4 ln (F_X3_scan_0_6 ln (F_X3_scan_0_6 ln (F_X3_scan_0_6 ln so tp) tp) tp) tp else
    F_X3_scan_0_4 ln (F_X3_scan_0_6 ln (F_X3_scan_0_6 ln (F_X3_scan_0_6 ln so tp) tp) tp) tp) else
  if (F_X3_scan_0_4 ln (F_X3_scan_0_6 ln so tp) tp) = 3 then F_X3_scan_0_4 ln (F_X3_scan_0_6 ln so tp) tp else
  F_X3_scan_0_4 ln (F_X3_scan_0_6 ln so tp) tp
def F_X3_readStatement_0_5 (ln : Nat) (kd : Int32) (sa : Nat) (so : Nat) (tp : Nat → Int32) : Nat :=
  if (F_X3_keyword kd sa so tp) = (-1) then sa else
  if (F_X3_readNumber ln so tp) = 0 then F_X3_scan_0_5 ln so tp else
  if (F_X3_keyword kd sa so tp) = 0 then (if (isW tp (F_X3_scan_0_4 ln (F_X3_scan_0_6 ln so tp) tp) (F_X3_scan_0_5 ln (F_X3_scan_0_6 ln so tp) tp) (F_X3_scan_0_6 ln (F_X3_scan_0_6 ln so tp) tp) 0) = 0 then (F_X3_scan_0_5 ln (F_X3_scan_0_6 ln so tp) tp) else
    if (F_X3_readNumber ln (F_X3_scan_0_6 ln (F_X3_scan_0_6 ln so tp) tp) tp) = 0 then F_X3_scan_0_5 ln (F_X3_scan_0_6 ln (F_X3_scan_0_6 ln so tp) tp) tp else
    if (F_X3_scan_0_4 ln (F_X3_scan_0_6 ln (F_X3_scan_0_6 ln (F_X3_scan_0_6 ln so tp) tp) tp) tp) = 3 then F_X3_scan_0_5 ln (F_X3_scan_0_6 ln (F_X3_scan_0_6 ln (F_X3_scan_0_6 ln so tp) tp) tp) tp else
    F_X3_scan_0_5 ln (F_X3_scan_0_6 ln (F_X3_scan_0_6 ln (F_X3_scan_0_6 ln so tp) tp) tp) tp) else
  if (F_X3_scan_0_4 ln (F_X3_scan_0_6 ln so tp) tp) = 3 then F_X3_scan_0_5 ln (F_X3_scan_0_6 ln so tp) tp else
  F_X3_scan_0_5 ln (F_X3_scan_0_6 ln so tp) tp
def F_X3_readStatement_0_6 (ln : Nat) (kd : Int32) (sa : Nat) (so : Nat) (tp : Nat → Int32) : Nat :=
  if (F_X3_keyword kd sa so tp) = (-1) then so else
  if (F_X3_readNumber ln so tp) = 0 then F_X3_scan_0_6 ln so tp else
  if (F_X3_keyword kd sa so tp) = 0 then (if (isW tp (F_X3_scan_0_4 ln (F_X3_scan_0_6 ln so tp) tp) (F_X3_scan_0_5 ln (F_X3_scan_0_6 ln so tp) tp) (F_X3_scan_0_6 ln (F_X3_scan_0_6 ln so tp) tp) 0) = 0 then (F_X3_scan_0_6 ln (F_X3_scan_0_6 ln so tp) tp) else
    if (F_X3_readNumber ln (F_X3_scan_0_6 ln (F_X3_scan_0_6 ln so tp) tp) tp) = 0 then F_X3_scan_0_6 ln (F_X3_scan_0_6 ln (F_X3_scan_0_6 ln so tp) tp) tp else
    if (F_X3_scan_0_4 ln (F_X3_scan_0_6 ln (F_X3_scan_0_6 ln (F_X3_scan_0_6 ln so tp) tp) tp) tp) = 3 then F_X3_scan_0_6 ln (F_X3_scan_0_6 ln (F_X3_scan_0_6 ln (F_X3_scan_0_6 ln so tp) tp) tp) tp else
    F_X3_scan_0_6 ln (F_X3_scan_0_6 ln (F_X3_scan_0_6 ln (F_X3_scan_0_6 ln so tp) tp) tp) tp) else
  if (F_X3_scan_0_4 ln (F_X3_scan_0_6 ln so tp) tp) = 3 then F_X3_scan_0_6 ln (F_X3_scan_0_6 ln so tp) tp else
  F_X3_scan_0_6 ln (F_X3_scan_0_6 ln so tp) tp
def F_X3_readStatement_2 (ln : Nat) (kd : Int32) (sa : Nat) (so : Nat) (tp : Nat → Int32) (rt : Nat → Int32) : Nat → Int32 :=
  if (F_X3_keyword kd sa so tp) = (-1) then rt else
  if (F_X3_readNumber ln so tp) = 0 then F_X3_readNumber_2 ln so tp rt ((F_X3_keyword kd sa so tp).toNatClampNeg) else
  if (F_X3_keyword kd sa so tp) = 0 then (if (isW tp (F_X3_scan_0_4 ln (F_X3_scan_0_6 ln so tp) tp) (F_X3_scan_0_5 ln (F_X3_scan_0_6 ln so tp) tp) (F_X3_scan_0_6 ln (F_X3_scan_0_6 ln so tp) tp) 0) = 0 then (F_X3_readNumber_2 ln so tp rt ((F_X3_keyword kd sa so tp).toNatClampNeg)) else
    if (F_X3_readNumber ln (F_X3_scan_0_6 ln (F_X3_scan_0_6 ln so tp) tp) tp) = 0 then F_X3_readNumber_2 ln (F_X3_scan_0_6 ln (F_X3_scan_0_6 ln so tp) tp) tp (F_X3_readNumber_2 ln so tp rt ((F_X3_keyword kd sa so tp).toNatClampNeg)) 1 else
    if (F_X3_scan_0_4 ln (F_X3_scan_0_6 ln (F_X3_scan_0_6 ln (F_X3_scan_0_6 ln so tp) tp) tp) tp) = 3 then (F_X3_readNumber_2 ln (F_X3_scan_0_6 ln (F_X3_scan_0_6 ln so tp) tp) tp (F_X3_readNumber_2 ln so tp rt ((F_X3_keyword kd sa so tp).toNatClampNeg)) 1) else
    (F_X3_readNumber_2 ln (F_X3_scan_0_6 ln (F_X3_scan_0_6 ln so tp) tp) tp (F_X3_readNumber_2 ln so tp rt ((F_X3_keyword kd sa so tp).toNatClampNeg)) 1)) else
  if (F_X3_scan_0_4 ln (F_X3_scan_0_6 ln so tp) tp) = 3 then (F_X3_readNumber_2 ln so tp rt ((F_X3_keyword kd sa so tp).toNatClampNeg)) else
  (F_X3_readNumber_2 ln so tp rt ((F_X3_keyword kd sa so tp).toNatClampNeg))
set_option maxHeartbeats 4000000 in
set_option maxRecDepth 100000 in
theorem c_X3_readStatement (l : Launch) {D : va_G} {cI cZ cB : ClassId} {au : Nat} {kA kV : Nat → Nat} {z0 : Nat} (sz : Nat) (h0 : Nat) (a1 : Nat) (a2 : Nat) (nb : Nat) (ln : Nat) (kd : Int32) (sa : Nat) (so : Nat) (tp : Nat → Int32) (rt : Nat → Int32) (hss : sa ≤ so) (hso : so ≤ ln) (hln : ln ≤ 300) : Met l yX3_readStatement wsX3_readStatement ({ frames := 6, cells := 0, slots := 0, locals := 127 }) (va_Pc [.ref h0] (PRE D cI cZ cB au kA kV z0 sz [(h0, .inr (3, [.ref a1, .ref a2, .int (nI nb), .int (nI ln), .int kd, .int (nI sa), .int (nI so)])), (a1, .inl (cI, 300, .inl tp)), (a2, .inl (cI, 7, .inl rt))])) (QI D [(h0, .inr (3, [.ref a1, .ref a2, .int (nI nb), .int (nI ln), .int kd, .int (nI sa), .int (nI so)])), (a1, .inl (cI, 300, .inl tp)), (a2, .inl (cI, 7, .inl rt))] sz (F_X3_readStatement ln kd sa so tp) [(h0, .inr (3, [.ref a1, .ref a2, .int (nI nb), .int (nI ln), .int (F_X3_readStatement_0_4 ln kd sa so tp), .int (nI (F_X3_readStatement_0_5 ln kd sa so tp)), .int (nI (F_X3_readStatement_0_6 ln kd sa so tp))])), (a1, .inl (cI, 300, .inl tp)), (a2, .inl (cI, 7, .inl (F_X3_readStatement_2 ln kd sa so tp rt)))]) 0 0 (va_A [(h0, .inr (3, [.ref a1, .ref a2, .int (nI nb), .int (nI ln), .int kd, .int (nI sa), .int (nI so)])), (a1, .inl (cI, 300, .inl tp)), (a2, .inl (cI, 7, .inl rt))] sz) := by
  refine Met.ofW (cc := cX3_readStatement) (maxL := 2) (ret := (some .boolean)) (by decide) rfl ?_
  intro p e s m args below meth c s₁ B hml hv
  obtain ⟨rfl, hsz, hz, hP, hD0, hB⟩ := hv
  have hx := B.exec
  have hb := B.bytes
  have hr := B.returns
  have hts := atoms_spec (ws := wsX3_readStatement) B.pre
  have hown : s.vm.findClass RX3 = some m.cls := findClass_of_methodNamed B.named
  have hlocks := B.notSynchronized
  subst hsz
  have hD := hD0.self (sz := s.heap.size)
  have hA0 := va_A0 hD0 hz
  unfold QI
  generalize hAe : va_A [(h0, .inr (3, [.ref a1, .ref a2, .int (nI nb), .int (nI ln), .int kd, .int (nI sa), .int (nI so)])), (a1, .inl (cI, 300, .inl tp)), (a2, .inl (cI, 7, .inl rt))] s.heap.size = A at hD hA0 ⊢
  have hA : ∀ q : Nat, s.heap.size ≤ q → A q := fun q h => by rw [← hAe]; exact Or.inr h
  have hS : va_S A s.heap s.heap [] := va_S.rf
  have hiX3 : ∀ w ∈ wsX30, w ∈ wsX3_readStatement := fun w h => List.mem_cons_of_mem _ (List.mem_append_right _ h)
  have hl := lv_entry ([.ref h0]) (n := 2) (Nat.le_of_ble_eq_true rfl)
  rw [lg_entry_eq]
  generalize (lg_sl ([.ref h0]) ++ List.replicate (2 - (lg_sl ([.ref h0])).length) Slot.unset).toArray = ls at hl ⊢
  have hl : lv_has ls 2 [(0, .ref h0)] := hl
  refine lv_aload_n hx hb dX3_readStatement_0 rfl (lv_at hl 0 rfl) ?_
  refine k_i (w2 := [(h0, .inr (3, [.ref a1, .ref a2, .int (nI nb), .int (nI ln), .int kd, .int (nI sa), .int (nI so)])), (a1, .inl (cI, 300, .inl tp)), (a2, .inl (cI, 7, .inl rt))]) (va_runV (As := []) (rest := []) ⟨hx, hb, hml, hown, hts⟩ (c_X3_keyword l _ h0 a1 a2 nb ln kd sa so tp rt hss (by omega)) (cwV 0 hts gX3_readStatement_X3_keyword rfl rfl rfl (by decide +kernel) ⟨Nat.le_of_ble_eq_true rfl, Nat.le_of_ble_eq_true rfl⟩) (pre_V (ci := 3) (q0 := 0) hB hz hA0 hP hD hS [0, 1, 2] rfl rfl rfl rfl rfl) rfl rfl hl.1 rfl (lv_room (Nat.le_of_ble_eq_true rfl)) dX3_readStatement_1 ⟨Nat.zero_le _, Nat.zero_le _⟩) hP hD hS hA [0, 1, 2] [] [0, 1, 2] rfl rfl rfl rfl rfl (fun H locs hP hD hS => ?_)
  refine lv_istore_n (lv' := [(1, .int (F_X3_keyword kd sa so tp)), (0, .ref h0)]) hx hb dX3_readStatement_4 rfl hl (by decide) rfl (fun ls hl => ?_)
  refine lv_iload_n hx hb dX3_readStatement_5 rfl (lv_at hl 0 rfl) ?_
  refine lv_iconst (v := (-1)) hx hb dX3_readStatement_6 (by decide) ?_
  refine lv_icmp_eq (tgt := 18) hx hb dX3_readStatement_7 (by decide) (fun c_1 => ?_) (fun c_1 => ?_)
  · refine lv_iconst (v := 0) hx hb dX3_readStatement_18 (by decide) ?_
    have er : F_X3_readStatement ln kd sa so tp = 0 := by rw [F_X3_readStatement, if_pos c_1]
    have e0_4 : F_X3_readStatement_0_4 ln kd sa so tp = kd := by rw [F_X3_readStatement_0_4, if_pos c_1]
    have e0_5 : nI (F_X3_readStatement_0_5 ln kd sa so tp) = nI sa := by rw [F_X3_readStatement_0_5, if_pos c_1]
    have e0_6 : nI (F_X3_readStatement_0_6 ln kd sa so tp) = nI so := by rw [F_X3_readStatement_0_6, if_pos c_1]
    have e2 : F_X3_readStatement_2 ln kd sa so tp rt = rt := by rw [F_X3_readStatement_2, if_pos c_1]
    exact W.zret hx hb hr rfl (fun t ht hW => ⟨⟨_, (), rfl, er.symm, by rw [ht, e0_4, e0_5, e0_6, e2]; exact hP, by rw [e0_4, e0_5, e0_6, e2]; exact hD⟩, hS.F ht⟩) hS.2.2 dX3_readStatement_19
  · obtain ⟨hk1, hk2⟩ := kw_nat c_1
    obtain ⟨hSE, hEL, hSS, -⟩ := scan_le (tp := tp) hso hln
    refine lv_aload_n hx hb dX3_readStatement_10 rfl (lv_at hl 1 rfl) ?_
    refine lv_iload_n hx hb dX3_readStatement_11 rfl (lv_at hl 0 rfl) ?_
    refine k_i (w2 := [(h0, .inr (3, [.ref a1, .ref a2, .int (nI nb), .int (nI ln), .int (F_X3_scan_0_4 ln so tp), .int (nI (F_X3_scan_0_5 ln so tp)), .int (nI (F_X3_scan_0_6 ln so tp))])), (a1, .inl (cI, 300, .inl tp)), (a2, .inl (cI, 7, .inl (F_X3_readNumber_2 ln so tp rt ((F_X3_keyword kd sa so tp).toNatClampNeg))))]) (va_runV (As := [.int (F_X3_keyword kd sa so tp)]) (rest := []) ⟨hx, hb, hml, hown, hts⟩ (c_X3_readNumber l _ h0 a1 a2 nb ln kd sa so tp rt (F_X3_keyword kd sa so tp) ((F_X3_keyword kd sa so tp).toNatClampNeg) hso hln hk1 hk2) (cwV 1 hts gX3_readStatement_X3_readNumber rfl rfl rfl (by decide +kernel) ⟨Nat.le_of_ble_eq_true rfl, Nat.le_of_ble_eq_true rfl⟩) (pre_V (ci := 3) (q0 := 0) hB hz hA0 hP hD hS [0, 1, 2] rfl rfl rfl rfl rfl) rfl rfl hl.1 rfl (lv_room (Nat.le_of_ble_eq_true rfl)) dX3_readStatement_12 ⟨Nat.zero_le _, Nat.zero_le _⟩) hP hD hS hA [0, 1, 2] [] [0, 1, 2] rfl rfl rfl rfl rfl (fun H locs hP hD hS => ?_)
    refine lv_if_ne (tgt := 20) hx hb dX3_readStatement_15 (by decide) (fun c_2 => ?_) (fun c_2 => ?_)
    · refine lv_iload_n hx hb dX3_readStatement_20 rfl (lv_at hl 0 rfl) ?_
      refine lv_if_ne (tgt := 47) hx hb dX3_readStatement_21 (by decide) (fun c_3 => ?_) (fun c_3 => ?_)
      · refine lv_aload_n hx hb dX3_readStatement_47 rfl (lv_at hl 1 rfl) ?_
        refine k_v (w2 := [(h0, .inr (3, [.ref a1, .ref a2, .int (nI nb), .int (nI ln), .int (F_X3_scan_0_4 ln (F_X3_scan_0_6 ln so tp) tp), .int (nI (F_X3_scan_0_5 ln (F_X3_scan_0_6 ln so tp) tp)), .int (nI (F_X3_scan_0_6 ln (F_X3_scan_0_6 ln so tp) tp))])), (a1, .inl (cI, 300, .inl tp)), (a2, .inl (cI, 7, .inl (F_X3_readNumber_2 ln so tp rt ((F_X3_keyword kd sa so tp).toNatClampNeg))))]) (va_runV (As := []) (rest := []) ⟨hx, hb, hml, hown, hts⟩ (c_X3_scan l _ h0 a1 a2 nb ln (F_X3_scan_0_4 ln so tp) (F_X3_scan_0_5 ln so tp) (F_X3_scan_0_6 ln so tp) tp (F_X3_readNumber_2 ln so tp rt ((F_X3_keyword kd sa so tp).toNatClampNeg)) hEL hln) (cwV 0 hts gX3_readStatement_X3_scan rfl rfl rfl (by decide +kernel) ⟨Nat.le_of_ble_eq_true rfl, Nat.le_of_ble_eq_true rfl⟩) (pre_V (ci := 3) (q0 := 0) hB hz hA0 hP hD hS [0, 1, 2] rfl rfl rfl rfl rfl) rfl rfl hl.1 rfl (lv_room (Nat.le_of_ble_eq_true rfl)) dX3_readStatement_48 ⟨Nat.zero_le _, Nat.zero_le _⟩) hP hD hS hA [0, 1, 2] [] [0, 1, 2] rfl rfl rfl rfl rfl (fun H locs hP hD hS => ?_)
        refine lv_aload_n hx hb dX3_readStatement_51 rfl (lv_at hl 1 rfl) ?_
        refine va_get (D := D) (ci := 3) (v := .int (F_X3_scan_0_4 ln (F_X3_scan_0_6 ln so tp) tp)) (C := RX3) (T := TX3) (N := 7) hx hb hts hiX3 hown hB.1 hP 0 rfl rfl 4 (by decide) (hts _ (List.mem_of_getElem? (i := 1) rfl)) (fun _ h9 => h9) rfl dX3_readStatement_52 ?_
        refine lv_iconst (v := 3) hx hb dX3_readStatement_55 (by decide) ?_
        refine lv_icmp_ne (tgt := 63) hx hb dX3_readStatement_56 (by decide) (fun c_4 => ?_) (fun c_4 => ?_)
        · refine lv_iconst (v := 0) hx hb dX3_readStatement_63 (by decide) ?_
          have er : F_X3_readStatement ln kd sa so tp = 0 := by rw [F_X3_readStatement, if_neg c_1, if_neg c_2, if_neg c_3, if_neg c_4]
          have e0_4 : F_X3_readStatement_0_4 ln kd sa so tp = F_X3_scan_0_4 ln (F_X3_scan_0_6 ln so tp) tp := by rw [F_X3_readStatement_0_4, if_neg c_1, if_neg c_2, if_neg c_3, if_neg c_4]
          have e0_5 : nI (F_X3_readStatement_0_5 ln kd sa so tp) = nI (F_X3_scan_0_5 ln (F_X3_scan_0_6 ln so tp) tp) := by rw [F_X3_readStatement_0_5, if_neg c_1, if_neg c_2, if_neg c_3, if_neg c_4]
          have e0_6 : nI (F_X3_readStatement_0_6 ln kd sa so tp) = nI (F_X3_scan_0_6 ln (F_X3_scan_0_6 ln so tp) tp) := by rw [F_X3_readStatement_0_6, if_neg c_1, if_neg c_2, if_neg c_3, if_neg c_4]
          have e2 : F_X3_readStatement_2 ln kd sa so tp rt = (F_X3_readNumber_2 ln so tp rt ((F_X3_keyword kd sa so tp).toNatClampNeg)) := by rw [F_X3_readStatement_2, if_neg c_1, if_neg c_2, if_neg c_3, if_neg c_4]
          exact W.zret hx hb hr rfl (fun t ht hW => ⟨⟨_, (), rfl, er.symm, by rw [ht, e0_4, e0_5, e0_6, e2]; exact hP, by rw [e0_4, e0_5, e0_6, e2]; exact hD⟩, hS.F ht⟩) hS.2.2 dX3_readStatement_64
        · refine lv_iconst (v := 1) hx hb dX3_readStatement_59 (by decide) ?_
          refine lv_goto (tgt := 64) hx hb dX3_readStatement_60 (by decide) ?_
          have er : F_X3_readStatement ln kd sa so tp = 1 := by rw [F_X3_readStatement, if_neg c_1, if_neg c_2, if_neg c_3, if_pos c_4]
          have e0_4 : F_X3_readStatement_0_4 ln kd sa so tp = F_X3_scan_0_4 ln (F_X3_scan_0_6 ln so tp) tp := by rw [F_X3_readStatement_0_4, if_neg c_1, if_neg c_2, if_neg c_3, if_pos c_4]
          have e0_5 : nI (F_X3_readStatement_0_5 ln kd sa so tp) = nI (F_X3_scan_0_5 ln (F_X3_scan_0_6 ln so tp) tp) := by rw [F_X3_readStatement_0_5, if_neg c_1, if_neg c_2, if_neg c_3, if_pos c_4]
          have e0_6 : nI (F_X3_readStatement_0_6 ln kd sa so tp) = nI (F_X3_scan_0_6 ln (F_X3_scan_0_6 ln so tp) tp) := by rw [F_X3_readStatement_0_6, if_neg c_1, if_neg c_2, if_neg c_3, if_pos c_4]
          have e2 : F_X3_readStatement_2 ln kd sa so tp rt = (F_X3_readNumber_2 ln so tp rt ((F_X3_keyword kd sa so tp).toNatClampNeg)) := by rw [F_X3_readStatement_2, if_neg c_1, if_neg c_2, if_neg c_3, if_pos c_4]
          exact W.zret hx hb hr rfl (fun t ht hW => ⟨⟨_, (), rfl, er.symm, by rw [ht, e0_4, e0_5, e0_6, e2]; exact hP, by rw [e0_4, e0_5, e0_6, e2]; exact hD⟩, hS.F ht⟩) hS.2.2 dX3_readStatement_64
      · refine lv_aload_n hx hb dX3_readStatement_24 rfl (lv_at hl 1 rfl) ?_
        refine k_v (w2 := [(h0, .inr (3, [.ref a1, .ref a2, .int (nI nb), .int (nI ln), .int (F_X3_scan_0_4 ln (F_X3_scan_0_6 ln so tp) tp), .int (nI (F_X3_scan_0_5 ln (F_X3_scan_0_6 ln so tp) tp)), .int (nI (F_X3_scan_0_6 ln (F_X3_scan_0_6 ln so tp) tp))])), (a1, .inl (cI, 300, .inl tp)), (a2, .inl (cI, 7, .inl (F_X3_readNumber_2 ln so tp rt ((F_X3_keyword kd sa so tp).toNatClampNeg))))]) (va_runV (As := []) (rest := []) ⟨hx, hb, hml, hown, hts⟩ (c_X3_scan l _ h0 a1 a2 nb ln (F_X3_scan_0_4 ln so tp) (F_X3_scan_0_5 ln so tp) (F_X3_scan_0_6 ln so tp) tp (F_X3_readNumber_2 ln so tp rt ((F_X3_keyword kd sa so tp).toNatClampNeg)) hEL hln) (cwV 0 hts gX3_readStatement_X3_scan rfl rfl rfl (by decide +kernel) ⟨Nat.le_of_ble_eq_true rfl, Nat.le_of_ble_eq_true rfl⟩) (pre_V (ci := 3) (q0 := 0) hB hz hA0 hP hD hS [0, 1, 2] rfl rfl rfl rfl rfl) rfl rfl hl.1 rfl (lv_room (Nat.le_of_ble_eq_true rfl)) dX3_readStatement_25 ⟨Nat.zero_le _, Nat.zero_le _⟩) hP hD hS hA [0, 1, 2] [] [0, 1, 2] rfl rfl rfl rfl rfl (fun H locs hP hD hS => ?_)
        obtain ⟨hSG, hEG, -, -⟩ := scan_le (tp := tp) hEL hln
        obtain ⟨hSM, hEM, -, -⟩ := scan_le (tp := tp) hEG hln
        refine lv_aload_n hx hb dX3_readStatement_28 rfl (lv_at hl 1 rfl) ?_
        refine va_ldcS hx hb hown hB.2.2.1.1 dX3_readStatement_29 ?_
        refine k_i (w2 := [(h0, .inr (3, [.ref a1, .ref a2, .int (nI nb), .int (nI ln), .int (F_X3_scan_0_4 ln (F_X3_scan_0_6 ln so tp) tp), .int (nI (F_X3_scan_0_5 ln (F_X3_scan_0_6 ln so tp) tp)), .int (nI (F_X3_scan_0_6 ln (F_X3_scan_0_6 ln so tp) tp))])), (a1, .inl (cI, 300, .inl tp)), (a2, .inl (cI, 7, .inl (F_X3_readNumber_2 ln so tp rt ((F_X3_keyword kd sa so tp).toNatClampNeg))))]) (va_runV (As := [.ref (kA 0)]) (rest := []) ⟨hx, hb, hml, hown, hts⟩ (c_X3_isWord l _ h0 a1 a2 nb ln (F_X3_scan_0_4 ln (F_X3_scan_0_6 ln so tp) tp) (F_X3_scan_0_5 ln (F_X3_scan_0_6 ln so tp) tp) (F_X3_scan_0_6 ln (F_X3_scan_0_6 ln so tp) tp) tp (F_X3_readNumber_2 ln so tp rt ((F_X3_keyword kd sa so tp).toNatClampNeg)) 0 hSG (by omega) (by decide)) (cwV 1 hts gX3_readStatement_X3_isWord rfl rfl rfl (by decide +kernel) ⟨Nat.le_of_ble_eq_true rfl, Nat.le_of_ble_eq_true rfl⟩) (pre_V (ci := 3) (q0 := 0) hB hz hA0 hP hD hS [0, 1, 2] rfl rfl rfl rfl rfl) rfl rfl hl.1 rfl (lv_room (Nat.le_of_ble_eq_true rfl)) dX3_readStatement_31 ⟨Nat.zero_le _, Nat.zero_le _⟩) hP hD hS hA [0, 1, 2] [] [0, 1, 2] rfl rfl rfl rfl rfl (fun H locs hP hD hS => ?_)
        refine lv_if_eq (tgt := 45) hx hb dX3_readStatement_34 (by decide) (fun c_5 => ?_) (fun c_5 => ?_)
        · refine lv_iconst (v := 0) hx hb dX3_readStatement_45 (by decide) ?_
          have er : F_X3_readStatement ln kd sa so tp = 0 := by rw [F_X3_readStatement, if_neg c_1, if_neg c_2, if_pos c_3, if_pos c_5]
          have e0_4 : F_X3_readStatement_0_4 ln kd sa so tp = (F_X3_scan_0_4 ln (F_X3_scan_0_6 ln so tp) tp) := by rw [F_X3_readStatement_0_4, if_neg c_1, if_neg c_2, if_pos c_3, if_pos c_5]
          have e0_5 : nI (F_X3_readStatement_0_5 ln kd sa so tp) = nI (F_X3_scan_0_5 ln (F_X3_scan_0_6 ln so tp) tp) := by rw [F_X3_readStatement_0_5, if_neg c_1, if_neg c_2, if_pos c_3, if_pos c_5]
          have e0_6 : nI (F_X3_readStatement_0_6 ln kd sa so tp) = nI (F_X3_scan_0_6 ln (F_X3_scan_0_6 ln so tp) tp) := by rw [F_X3_readStatement_0_6, if_neg c_1, if_neg c_2, if_pos c_3, if_pos c_5]
          have e2 : F_X3_readStatement_2 ln kd sa so tp rt = (F_X3_readNumber_2 ln so tp rt ((F_X3_keyword kd sa so tp).toNatClampNeg)) := by rw [F_X3_readStatement_2, if_neg c_1, if_neg c_2, if_pos c_3, if_pos c_5]
          exact W.zret hx hb hr rfl (fun t ht hW => ⟨⟨_, (), rfl, er.symm, by rw [ht, e0_4, e0_5, e0_6, e2]; exact hP, by rw [e0_4, e0_5, e0_6, e2]; exact hD⟩, hS.F ht⟩) hS.2.2 dX3_readStatement_46
        · refine lv_aload_n hx hb dX3_readStatement_37 rfl (lv_at hl 1 rfl) ?_
          refine lv_iconst (v := 1) hx hb dX3_readStatement_38 (by decide) ?_
          refine k_i (w2 := [(h0, .inr (3, [.ref a1, .ref a2, .int (nI nb), .int (nI ln), .int (F_X3_scan_0_4 ln (F_X3_scan_0_6 ln (F_X3_scan_0_6 ln so tp) tp) tp), .int (nI (F_X3_scan_0_5 ln (F_X3_scan_0_6 ln (F_X3_scan_0_6 ln so tp) tp) tp)), .int (nI (F_X3_scan_0_6 ln (F_X3_scan_0_6 ln (F_X3_scan_0_6 ln so tp) tp) tp))])), (a1, .inl (cI, 300, .inl tp)), (a2, .inl (cI, 7, .inl (F_X3_readNumber_2 ln (F_X3_scan_0_6 ln (F_X3_scan_0_6 ln so tp) tp) tp (F_X3_readNumber_2 ln so tp rt ((F_X3_keyword kd sa so tp).toNatClampNeg)) 1)))]) (va_runV (As := [.int 1]) (rest := []) ⟨hx, hb, hml, hown, hts⟩ (c_X3_readNumber l _ h0 a1 a2 nb ln (F_X3_scan_0_4 ln (F_X3_scan_0_6 ln so tp) tp) (F_X3_scan_0_5 ln (F_X3_scan_0_6 ln so tp) tp) (F_X3_scan_0_6 ln (F_X3_scan_0_6 ln so tp) tp) tp (F_X3_readNumber_2 ln so tp rt ((F_X3_keyword kd sa so tp).toNatClampNeg)) 1 1 hEG hln rfl (by decide)) (cwV 1 hts gX3_readStatement_X3_readNumber rfl rfl rfl (by decide +kernel) ⟨Nat.le_of_ble_eq_true rfl, Nat.le_of_ble_eq_true rfl⟩) (pre_V (ci := 3) (q0 := 0) hB hz hA0 hP hD hS [0, 1, 2] rfl rfl rfl rfl rfl) rfl rfl hl.1 rfl (lv_room (Nat.le_of_ble_eq_true rfl)) dX3_readStatement_39 ⟨Nat.zero_le _, Nat.zero_le _⟩) hP hD hS hA [0, 1, 2] [] [0, 1, 2] rfl rfl rfl rfl rfl (fun H locs hP hD hS => ?_)
          refine lv_if_ne (tgt := 47) hx hb dX3_readStatement_42 (by decide) (fun c_6 => ?_) (fun c_6 => ?_)
          · refine lv_aload_n hx hb dX3_readStatement_47 rfl (lv_at hl 1 rfl) ?_
            refine k_v (w2 := [(h0, .inr (3, [.ref a1, .ref a2, .int (nI nb), .int (nI ln), .int (F_X3_scan_0_4 ln (F_X3_scan_0_6 ln (F_X3_scan_0_6 ln (F_X3_scan_0_6 ln so tp) tp) tp) tp), .int (nI (F_X3_scan_0_5 ln (F_X3_scan_0_6 ln (F_X3_scan_0_6 ln (F_X3_scan_0_6 ln so tp) tp) tp) tp)), .int (nI (F_X3_scan_0_6 ln (F_X3_scan_0_6 ln (F_X3_scan_0_6 ln (F_X3_scan_0_6 ln so tp) tp) tp) tp))])), (a1, .inl (cI, 300, .inl tp)), (a2, .inl (cI, 7, .inl (F_X3_readNumber_2 ln (F_X3_scan_0_6 ln (F_X3_scan_0_6 ln so tp) tp) tp (F_X3_readNumber_2 ln so tp rt ((F_X3_keyword kd sa so tp).toNatClampNeg)) 1)))]) (va_runV (As := []) (rest := []) ⟨hx, hb, hml, hown, hts⟩ (c_X3_scan l _ h0 a1 a2 nb ln (F_X3_scan_0_4 ln (F_X3_scan_0_6 ln (F_X3_scan_0_6 ln so tp) tp) tp) (F_X3_scan_0_5 ln (F_X3_scan_0_6 ln (F_X3_scan_0_6 ln so tp) tp) tp) (F_X3_scan_0_6 ln (F_X3_scan_0_6 ln (F_X3_scan_0_6 ln so tp) tp) tp) tp (F_X3_readNumber_2 ln (F_X3_scan_0_6 ln (F_X3_scan_0_6 ln so tp) tp) tp (F_X3_readNumber_2 ln so tp rt ((F_X3_keyword kd sa so tp).toNatClampNeg)) 1) hEM hln) (cwV 0 hts gX3_readStatement_X3_scan rfl rfl rfl (by decide +kernel) ⟨Nat.le_of_ble_eq_true rfl, Nat.le_of_ble_eq_true rfl⟩) (pre_V (ci := 3) (q0 := 0) hB hz hA0 hP hD hS [0, 1, 2] rfl rfl rfl rfl rfl) rfl rfl hl.1 rfl (lv_room (Nat.le_of_ble_eq_true rfl)) dX3_readStatement_48 ⟨Nat.zero_le _, Nat.zero_le _⟩) hP hD hS hA [0, 1, 2] [] [0, 1, 2] rfl rfl rfl rfl rfl (fun H locs hP hD hS => ?_)
            refine lv_aload_n hx hb dX3_readStatement_51 rfl (lv_at hl 1 rfl) ?_
            refine va_get (D := D) (ci := 3) (v := .int (F_X3_scan_0_4 ln (F_X3_scan_0_6 ln (F_X3_scan_0_6 ln (F_X3_scan_0_6 ln so tp) tp) tp) tp)) (C := RX3) (T := TX3) (N := 7) hx hb hts hiX3 hown hB.1 hP 0 rfl rfl 4 (by decide) (hts _ (List.mem_of_getElem? (i := 1) rfl)) (fun _ h9 => h9) rfl dX3_readStatement_52 ?_
            refine lv_iconst (v := 3) hx hb dX3_readStatement_55 (by decide) ?_
            refine lv_icmp_ne (tgt := 63) hx hb dX3_readStatement_56 (by decide) (fun c_7 => ?_) (fun c_7 => ?_)
            · refine lv_iconst (v := 0) hx hb dX3_readStatement_63 (by decide) ?_
              have er : F_X3_readStatement ln kd sa so tp = 0 := by rw [F_X3_readStatement, if_neg c_1, if_neg c_2, if_pos c_3, if_neg c_5, if_neg c_6, if_neg c_7]
              have e0_4 : F_X3_readStatement_0_4 ln kd sa so tp = F_X3_scan_0_4 ln (F_X3_scan_0_6 ln (F_X3_scan_0_6 ln (F_X3_scan_0_6 ln so tp) tp) tp) tp := by rw [F_X3_readStatement_0_4, if_neg c_1, if_neg c_2, if_pos c_3, if_neg c_5, if_neg c_6, if_neg c_7]
              have e0_5 : nI (F_X3_readStatement_0_5 ln kd sa so tp) = nI (F_X3_scan_0_5 ln (F_X3_scan_0_6 ln (F_X3_scan_0_6 ln (F_X3_scan_0_6 ln so tp) tp) tp) tp) := by rw [F_X3_readStatement_0_5, if_neg c_1, if_neg c_2, if_pos c_3, if_neg c_5, if_neg c_6, if_neg c_7]
              have e0_6 : nI (F_X3_readStatement_0_6 ln kd sa so tp) = nI (F_X3_scan_0_6 ln (F_X3_scan_0_6 ln (F_X3_scan_0_6 ln (F_X3_scan_0_6 ln so tp) tp) tp) tp) := by rw [F_X3_readStatement_0_6, if_neg c_1, if_neg c_2, if_pos c_3, if_neg c_5, if_neg c_6, if_neg c_7]
              have e2 : F_X3_readStatement_2 ln kd sa so tp rt = (F_X3_readNumber_2 ln (F_X3_scan_0_6 ln (F_X3_scan_0_6 ln so tp) tp) tp (F_X3_readNumber_2 ln so tp rt ((F_X3_keyword kd sa so tp).toNatClampNeg)) 1) := by rw [F_X3_readStatement_2, if_neg c_1, if_neg c_2, if_pos c_3, if_neg c_5, if_neg c_6, if_neg c_7]
              exact W.zret hx hb hr rfl (fun t ht hW => ⟨⟨_, (), rfl, er.symm, by rw [ht, e0_4, e0_5, e0_6, e2]; exact hP, by rw [e0_4, e0_5, e0_6, e2]; exact hD⟩, hS.F ht⟩) hS.2.2 dX3_readStatement_64
            · refine lv_iconst (v := 1) hx hb dX3_readStatement_59 (by decide) ?_
              refine lv_goto (tgt := 64) hx hb dX3_readStatement_60 (by decide) ?_
              have er : F_X3_readStatement ln kd sa so tp = 1 := by rw [F_X3_readStatement, if_neg c_1, if_neg c_2, if_pos c_3, if_neg c_5, if_neg c_6, if_pos c_7]
              have e0_4 : F_X3_readStatement_0_4 ln kd sa so tp = F_X3_scan_0_4 ln (F_X3_scan_0_6 ln (F_X3_scan_0_6 ln (F_X3_scan_0_6 ln so tp) tp) tp) tp := by rw [F_X3_readStatement_0_4, if_neg c_1, if_neg c_2, if_pos c_3, if_neg c_5, if_neg c_6, if_pos c_7]
              have e0_5 : nI (F_X3_readStatement_0_5 ln kd sa so tp) = nI (F_X3_scan_0_5 ln (F_X3_scan_0_6 ln (F_X3_scan_0_6 ln (F_X3_scan_0_6 ln so tp) tp) tp) tp) := by rw [F_X3_readStatement_0_5, if_neg c_1, if_neg c_2, if_pos c_3, if_neg c_5, if_neg c_6, if_pos c_7]
              have e0_6 : nI (F_X3_readStatement_0_6 ln kd sa so tp) = nI (F_X3_scan_0_6 ln (F_X3_scan_0_6 ln (F_X3_scan_0_6 ln (F_X3_scan_0_6 ln so tp) tp) tp) tp) := by rw [F_X3_readStatement_0_6, if_neg c_1, if_neg c_2, if_pos c_3, if_neg c_5, if_neg c_6, if_pos c_7]
              have e2 : F_X3_readStatement_2 ln kd sa so tp rt = (F_X3_readNumber_2 ln (F_X3_scan_0_6 ln (F_X3_scan_0_6 ln so tp) tp) tp (F_X3_readNumber_2 ln so tp rt ((F_X3_keyword kd sa so tp).toNatClampNeg)) 1) := by rw [F_X3_readStatement_2, if_neg c_1, if_neg c_2, if_pos c_3, if_neg c_5, if_neg c_6, if_pos c_7]
              exact W.zret hx hb hr rfl (fun t ht hW => ⟨⟨_, (), rfl, er.symm, by rw [ht, e0_4, e0_5, e0_6, e2]; exact hP, by rw [e0_4, e0_5, e0_6, e2]; exact hD⟩, hS.F ht⟩) hS.2.2 dX3_readStatement_64
          · refine lv_iconst (v := 0) hx hb dX3_readStatement_45 (by decide) ?_
            have er : F_X3_readStatement ln kd sa so tp = 0 := by rw [F_X3_readStatement, if_neg c_1, if_neg c_2, if_pos c_3, if_neg c_5, if_pos c_6]
            have e0_4 : F_X3_readStatement_0_4 ln kd sa so tp = F_X3_scan_0_4 ln (F_X3_scan_0_6 ln (F_X3_scan_0_6 ln so tp) tp) tp := by rw [F_X3_readStatement_0_4, if_neg c_1, if_neg c_2, if_pos c_3, if_neg c_5, if_pos c_6]
            have e0_5 : nI (F_X3_readStatement_0_5 ln kd sa so tp) = nI (F_X3_scan_0_5 ln (F_X3_scan_0_6 ln (F_X3_scan_0_6 ln so tp) tp) tp) := by rw [F_X3_readStatement_0_5, if_neg c_1, if_neg c_2, if_pos c_3, if_neg c_5, if_pos c_6]
            have e0_6 : nI (F_X3_readStatement_0_6 ln kd sa so tp) = nI (F_X3_scan_0_6 ln (F_X3_scan_0_6 ln (F_X3_scan_0_6 ln so tp) tp) tp) := by rw [F_X3_readStatement_0_6, if_neg c_1, if_neg c_2, if_pos c_3, if_neg c_5, if_pos c_6]
            have e2 : F_X3_readStatement_2 ln kd sa so tp rt = F_X3_readNumber_2 ln (F_X3_scan_0_6 ln (F_X3_scan_0_6 ln so tp) tp) tp (F_X3_readNumber_2 ln so tp rt ((F_X3_keyword kd sa so tp).toNatClampNeg)) 1 := by rw [F_X3_readStatement_2, if_neg c_1, if_neg c_2, if_pos c_3, if_neg c_5, if_pos c_6]
            exact W.zret hx hb hr rfl (fun t ht hW => ⟨⟨_, (), rfl, er.symm, by rw [ht, e0_4, e0_5, e0_6, e2]; exact hP, by rw [e0_4, e0_5, e0_6, e2]; exact hD⟩, hS.F ht⟩) hS.2.2 dX3_readStatement_46
    · refine lv_iconst (v := 0) hx hb dX3_readStatement_18 (by decide) ?_
      have er : F_X3_readStatement ln kd sa so tp = 0 := by rw [F_X3_readStatement, if_neg c_1, if_pos c_2]
      have e0_4 : F_X3_readStatement_0_4 ln kd sa so tp = F_X3_scan_0_4 ln so tp := by rw [F_X3_readStatement_0_4, if_neg c_1, if_pos c_2]
      have e0_5 : nI (F_X3_readStatement_0_5 ln kd sa so tp) = nI (F_X3_scan_0_5 ln so tp) := by rw [F_X3_readStatement_0_5, if_neg c_1, if_pos c_2]
      have e0_6 : nI (F_X3_readStatement_0_6 ln kd sa so tp) = nI (F_X3_scan_0_6 ln so tp) := by rw [F_X3_readStatement_0_6, if_neg c_1, if_pos c_2]
      have e2 : F_X3_readStatement_2 ln kd sa so tp rt = F_X3_readNumber_2 ln so tp rt ((F_X3_keyword kd sa so tp).toNatClampNeg) := by rw [F_X3_readStatement_2, if_neg c_1, if_pos c_2]
      exact W.zret hx hb hr rfl (fun t ht hW => ⟨⟨_, (), rfl, er.symm, by rw [ht, e0_4, e0_5, e0_6, e2]; exact hP, by rw [e0_4, e0_5, e0_6, e2]; exact hD⟩, hS.F ht⟩) hS.2.2 dX3_readStatement_19
