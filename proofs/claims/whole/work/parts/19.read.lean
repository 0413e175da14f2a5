def F_X3_readNumber_L49 (ln : Nat) (so : Nat) (tp : Nat → Int32) (t : Nat) (s_ : Int32) : Int32 :=
    ((10 * s_) + (tp (F_X3_scan_0_5 ln so tp + t))) - 48
def F_X3_readNumber (ln : Nat) (so : Nat) (tp : Nat → Int32) : Int32 :=
  if (F_X3_scan_0_4 ln so tp) = 2 then (if 4 < ((nI (F_X3_scan_0_6 ln so tp)) - (nI (F_X3_scan_0_5 ln so tp))) then 0 else
    1) else
  0
def F_X3_readNumber_2 (ln : Nat) (so : Nat) (tp : Nat → Int32) (rt : Nat → Int32) (wt : Nat) : Nat → Int32 :=
  if (F_X3_scan_0_4 ln so tp) = 2 then (if 4 < ((nI (F_X3_scan_0_6 ln so tp)) - (nI (F_X3_scan_0_5 ln so tp))) then rt else
    upd rt wt (lp (F_X3_readNumber_L49 ln so tp) (F_X3_scan_0_6 ln so tp - F_X3_scan_0_5 ln so tp) 0)) else
  rt
set_option maxHeartbeats 4000000 in
set_option maxRecDepth 100000 in
theorem c_X3_readNumber (l : Launch) {D : va_G} {cI cZ cB : ClassId} {au : Nat} {kA kV : Nat → Nat} {z0 : Nat} (sz : Nat) (h0 : Nat) (a1 : Nat) (a2 : Nat) (nb : Nat) (ln : Nat) (kd : Int32) (sa : Nat) (so : Nat) (tp : Nat → Int32) (rt : Nat → Int32) (what : Int32) (wt : Nat) (hso : so ≤ ln) (hln : ln ≤ 300) (e_wt : what = nI wt) (hwt : wt < 7) : Met l yX3_readNumber wsX3_readNumber ({ frames := 3, cells := 0, slots := 0, locals := 62 }) (va_Pc [.ref h0, .int what] (PRE D cI cZ cB au kA kV z0 sz [(h0, .inr (3, [.ref a1, .ref a2, .int (nI nb), .int (nI ln), .int kd, .int (nI sa), .int (nI so)])), (a1, .inl (cI, 300, .inl tp)), (a2, .inl (cI, 7, .inl rt))])) (QI D [(h0, .inr (3, [.ref a1, .ref a2, .int (nI nb), .int (nI ln), .int kd, .int (nI sa), .int (nI so)])), (a1, .inl (cI, 300, .inl tp)), (a2, .inl (cI, 7, .inl rt))] sz (F_X3_readNumber ln so tp) [(h0, .inr (3, [.ref a1, .ref a2, .int (nI nb), .int (nI ln), .int (F_X3_scan_0_4 ln so tp), .int (nI (F_X3_scan_0_5 ln so tp)), .int (nI (F_X3_scan_0_6 ln so tp))])), (a1, .inl (cI, 300, .inl tp)), (a2, .inl (cI, 7, .inl (F_X3_readNumber_2 ln so tp rt wt)))]) 0 0 (va_A [(h0, .inr (3, [.ref a1, .ref a2, .int (nI nb), .int (nI ln), .int kd, .int (nI sa), .int (nI so)])), (a1, .inl (cI, 300, .inl tp)), (a2, .inl (cI, 7, .inl rt))] sz) := by
  subst e_wt
  refine Met.ofW (cc := cX3_readNumber) (maxL := 4) (ret := (some .boolean)) (by decide) rfl ?_
  intro p e s m args below meth c s₁ B hml hv
  obtain ⟨rfl, hsz, hz, hP, hD0, hB⟩ := hv
  have hx := B.exec
  have hb := B.bytes
  have hr := B.returns
  have hts := atoms_spec (ws := wsX3_readNumber) B.pre
  have hown : s.vm.findClass RX3 = some m.cls := findClass_of_methodNamed B.named
  have hlocks := B.notSynchronized
  subst hsz
  have hD := hD0.self (sz := s.heap.size)
  have hA0 := va_A0 hD0 hz
  unfold QI
  generalize hAe : va_A [(h0, .inr (3, [.ref a1, .ref a2, .int (nI nb), .int (nI ln), .int kd, .int (nI sa), .int (nI so)])), (a1, .inl (cI, 300, .inl tp)), (a2, .inl (cI, 7, .inl rt))] s.heap.size = A at hD hA0 ⊢
  have hA : ∀ q : Nat, s.heap.size ≤ q → A q := fun q h => by rw [← hAe]; exact Or.inr h
  have hS : va_S A s.heap s.heap [] := va_S.rf
  have hiX3 : ∀ w ∈ wsX30, w ∈ wsX3_readNumber := fun w h => List.mem_cons_of_mem _ (List.mem_append_right _ h)
  have hl := lv_entry ([.ref h0, .int (nI wt)]) (n := 4) (Nat.le_of_ble_eq_true rfl)
  rw [lg_entry_eq]
  generalize (lg_sl ([.ref h0, .int (nI wt)]) ++ List.replicate (4 - (lg_sl ([.ref h0, .int (nI wt)])).length) Slot.unset).toArray = ls at hl ⊢
  have hl : lv_has ls 4 [(0, .ref h0), (1, .int (nI wt))] := hl
  refine lv_aload_n hx hb dX3_readNumber_0 rfl (lv_at hl 0 rfl) ?_
  refine k_v (w2 := [(h0, .inr (3, [.ref a1, .ref a2, .int (nI nb), .int (nI ln), .int (F_X3_scan_0_4 ln so tp), .int (nI (F_X3_scan_0_5 ln so tp)), .int (nI (F_X3_scan_0_6 ln so tp))])), (a1, .inl (cI, 300, .inl tp)), (a2, .inl (cI, 7, .inl rt))]) (va_runV (As := []) (rest := []) ⟨hx, hb, hml, hown, hts⟩ (c_X3_scan l _ h0 a1 a2 nb ln kd sa so tp rt hso hln) (cwV 0 hts gX3_readNumber_X3_scan rfl rfl rfl (by decide +kernel) ⟨Nat.le_of_ble_eq_true rfl, Nat.le_of_ble_eq_true rfl⟩) (pre_V (ci := 3) (q0 := 0) hB hz hA0 hP hD hS [0, 1, 2] rfl rfl rfl rfl rfl) rfl rfl hl.1 rfl (lv_room (Nat.le_of_ble_eq_true rfl)) dX3_readNumber_1 ⟨Nat.zero_le _, Nat.zero_le _⟩) hP hD hS hA [0, 1, 2] [] [0, 1, 2] rfl rfl rfl rfl rfl (fun H locs hP hD hS => ?_)
  obtain ⟨hSE, hEL, hSS, -⟩ := scan_le (tp := tp) hso hln
  refine lv_aload_n hx hb dX3_readNumber_4 rfl (lv_at hl 0 rfl) ?_
  refine va_get (D := D) (ci := 3) (v := .int (F_X3_scan_0_4 ln so tp)) (C := RX3) (T := TX3) (N := 7) hx hb hts hiX3 hown hB.1 hP 0 rfl rfl 4 (by decide) (hts _ (List.mem_of_getElem? (i := 1) rfl)) (fun _ h9 => h9) rfl dX3_readNumber_5 ?_
  refine lv_iconst (v := 2) hx hb dX3_readNumber_8 (by decide) ?_
  refine lv_icmp_ne (tgt := 40) hx hb dX3_readNumber_9 (by decide) (fun c_1 => ?_) (fun c_1 => ?_)
  · refine lv_iconst (v := 0) hx hb dX3_readNumber_40 (by decide) ?_
    have er : F_X3_readNumber ln so tp = 0 := by rw [F_X3_readNumber, if_neg c_1]
    have e2 : F_X3_readNumber_2 ln so tp rt wt = rt := by rw [F_X3_readNumber_2, if_neg c_1]
    exact W.zret hx hb hr rfl (fun t ht hW => ⟨⟨_, (), rfl, er.symm, by rw [ht, e2]; exact hP, by rw [e2]; exact hD⟩, hS.F ht⟩) hS.2.2 dX3_readNumber_41
  · refine lv_aload_n hx hb dX3_readNumber_12 rfl (lv_at hl 0 rfl) ?_
    refine va_get (D := D) (ci := 3) (v := .int (nI (F_X3_scan_0_6 ln so tp))) (C := RX3) (T := TX3) (N := 7) hx hb hts hiX3 hown hB.1 hP 0 rfl rfl 6 (by decide) (hts _ (List.mem_of_getElem? (i := 2) rfl)) (fun _ h9 => h9) rfl dX3_readNumber_13 ?_
    refine lv_aload_n hx hb dX3_readNumber_16 rfl (lv_at hl 0 rfl) ?_
    refine va_get (D := D) (ci := 3) (v := .int (nI (F_X3_scan_0_5 ln so tp))) (C := RX3) (T := TX3) (N := 7) hx hb hts hiX3 hown hB.1 hP 0 rfl rfl 5 (by decide) (hts _ (List.mem_of_getElem? (i := 3) rfl)) (fun _ h9 => h9) rfl dX3_readNumber_17 ?_
    refine lv_isub hx hb dX3_readNumber_20 ?_
    refine lv_iconst (v := 4) hx hb dX3_readNumber_21 (by decide) ?_
    refine lv_icmp_gt (tgt := 40) hx hb dX3_readNumber_22 (by decide) (fun c_2 => ?_) (fun c_2 => ?_)
    · refine lv_iconst (v := 0) hx hb dX3_readNumber_40 (by decide) ?_
      have er : F_X3_readNumber ln so tp = 0 := by rw [F_X3_readNumber, if_pos c_1, if_pos c_2]
      have e2 : F_X3_readNumber_2 ln so tp rt wt = rt := by rw [F_X3_readNumber_2, if_pos c_1, if_pos c_2]
      exact W.zret hx hb hr rfl (fun t ht hW => ⟨⟨_, (), rfl, er.symm, by rw [ht, e2]; exact hP, by rw [e2]; exact hD⟩, hS.F ht⟩) hS.2.2 dX3_readNumber_41
    · refine lv_iload_n hx hb dX3_readNumber_25 rfl (lv_at hl 1 rfl) ?_
      refine lv_iconst (v := 0) hx hb dX3_readNumber_26 (by decide) ?_
      refine lv_aload_n hx hb dX3_readNumber_27 rfl (lv_at hl 0 rfl) ?_
      refine va_get (D := D) (ci := 3) (v := .ref a2) (C := RX3) (T := TX3) (N := 7) hx hb hts hiX3 hown hB.1 hP 0 rfl rfl 1 (by decide) (hts _ (List.mem_of_getElem? (i := 4) rfl)) (fun _ h9 => h9) rfl dX3_readNumber_28 ?_
      refine va_alen (v := nI 7) hx hb hB.1 hP 2 0 rfl rfl rfl dX3_readNumber_31 ?_
      refine lv_iconst (v := 1) hx hb dX3_readNumber_32 (by decide) ?_
      refine lv_isub hx hb dX3_readNumber_33 ?_
      refine k_i (w2 := [(h0, .inr (3, [.ref a1, .ref a2, .int (nI nb), .int (nI ln), .int (F_X3_scan_0_4 ln so tp), .int (nI (F_X3_scan_0_5 ln so tp)), .int (nI (F_X3_scan_0_6 ln so tp))])), (a1, .inl (cI, 300, .inl tp)), (a2, .inl (cI, 7, .inl rt))]) (va_runSN (As := [.int (nI wt), .int 0, .int ((nI 7) - 1)]) (rest := []) ⟨hx, hb, hml, hown, hts⟩ (c_X7_within l _ (nI wt) 0 ((nI 7) - 1)) ⟨va_cnB 3 hts gX3_readNumber_X7_within_n36 rfl rfl rfl hB.2.1.2.2.2.2.2.2.2.2 (hts _ (List.mem_of_getElem? (i := 19) rfl)) (by decide +kernel) ⟨Nat.le_of_ble_eq_true rfl, Nat.le_of_ble_eq_true rfl⟩, hts _ (List.mem_of_getElem? (i := 18) rfl), trivial⟩ (pre_S hB hz hA0 hP hD hS [] rfl rfl) rfl rfl hl.1 rfl (lv_room (Nat.le_of_ble_eq_true rfl)) dX3_readNumber_34 ⟨Nat.zero_le _, Nat.zero_le _⟩) hP hD hS hA [] [0, 1, 2] [0, 1, 2] rfl rfl rfl rfl rfl (fun H locs hP hD hS => ?_)
      refine lv_if_ne (tgt := 42) hx hb dX3_readNumber_37 (by decide) (fun c_3 => ?_) (fun c_3 => ?_)
      · refine lv_iconst (v := 0) hx hb dX3_readNumber_42 (by decide) ?_
        refine lv_istore_n (lv' := [(2, .int 0), (0, .ref h0), (1, .int (nI wt))]) hx hb dX3_readNumber_43 rfl hl (by decide) rfl (fun ls hl => ?_)
        refine lv_aload_n hx hb dX3_readNumber_44 rfl (lv_at hl 1 rfl) ?_
        refine va_get (D := D) (ci := 3) (v := .int (nI (F_X3_scan_0_5 ln so tp))) (C := RX3) (T := TX3) (N := 7) hx hb hts hiX3 hown hB.1 hP 0 rfl rfl 5 (by decide) (hts _ (List.mem_of_getElem? (i := 3) rfl)) (fun _ h9 => h9) rfl dX3_readNumber_45 ?_
        refine lv_istore_n (lv' := [(3, .int (nI (F_X3_scan_0_5 ln so tp))), (2, .int 0), (0, .ref h0), (1, .int (nI wt))]) hx hb dX3_readNumber_48 rfl hl (by decide) rfl (fun ls hl => ?_)
        refine lpM (σ := Nat) (fun t => t ≤ F_X3_scan_0_6 ln so tp - F_X3_scan_0_5 ln so tp) (fun t => (F_X3_scan_0_6 ln so tp - F_X3_scan_0_5 ln so tp) - t) (fun t => [(h0, .inr (3, [.ref a1, .ref a2, .int (nI nb), .int (nI ln), .int (F_X3_scan_0_4 ln so tp), .int (nI (F_X3_scan_0_5 ln so tp)), .int (nI (F_X3_scan_0_6 ln so tp))])), (a1, .inl (cI, 300, .inl tp)), (a2, .inl (cI, 7, .inl rt))]) (fun t => [(3, .int (nI (F_X3_scan_0_5 ln so tp + t))), (2, .int (lp (F_X3_readNumber_L49 ln so tp) t 0)), (0, .ref h0), (1, .int (nI wt))]) 0 (Nat.zero_le _) hP hD hS (lv_sub hl [0, 1, 2, 3] rfl) ?_
        intro t h_t ih_t H locs ls hP hD hS hl
        have hP : va_P D vwCl [(h0, .inr (3, [.ref a1, .ref a2, .int (nI nb), .int (nI ln), .int (F_X3_scan_0_4 ln so tp), .int (nI (F_X3_scan_0_5 ln so tp)), .int (nI (F_X3_scan_0_6 ln so tp))])), (a1, .inl (cI, 300, .inl tp)), (a2, .inl (cI, 7, .inl rt))] H := hP
        have hD : va_D A [(h0, .inr (3, [.ref a1, .ref a2, .int (nI nb), .int (nI ln), .int (F_X3_scan_0_4 ln so tp), .int (nI (F_X3_scan_0_5 ln so tp)), .int (nI (F_X3_scan_0_6 ln so tp))])), (a1, .inl (cI, 300, .inl tp)), (a2, .inl (cI, 7, .inl rt))] := hD
        have hl : lv_has ls 4 [(3, .int (nI (F_X3_scan_0_5 ln so tp + t))), (2, .int (lp (F_X3_readNumber_L49 ln so tp) t 0)), (0, .ref h0), (1, .int (nI wt))] := hl
        generalize hs_t : lp (F_X3_readNumber_L49 ln so tp) t 0 = sv4 at hl
        refine lv_iload_n hx hb dX3_readNumber_49 rfl (lv_at hl 0 rfl) ?_
        refine lv_aload_n hx hb dX3_readNumber_50 rfl (lv_at hl 2 rfl) ?_
        refine va_get (D := D) (ci := 3) (v := .int (nI (F_X3_scan_0_6 ln so tp))) (C := RX3) (T := TX3) (N := 7) hx hb hts hiX3 hown hB.1 hP 0 rfl rfl 6 (by decide) (hts _ (List.mem_of_getElem? (i := 2) rfl)) (fun _ h9 => h9) rfl dX3_readNumber_51 ?_
        refine lv_icmp_ge (tgt := 78) hx hb dX3_readNumber_54 (by decide) (fun c_5 => ?_) (fun c_5 => ?_)
        · have hx_t : F_X3_scan_0_6 ln so tp - F_X3_scan_0_5 ln so tp = t := Eq.symm (le_ex2 (by omega) hSE h_t c_5)
          subst hx_t
          subst hs_t
          refine lv_aload_n hx hb dX3_readNumber_78 rfl (lv_at hl 2 rfl) ?_
          refine va_get (D := D) (ci := 3) (v := .ref a2) (C := RX3) (T := TX3) (N := 7) hx hb hts hiX3 hown hB.1 hP 0 rfl rfl 1 (by decide) (hts _ (List.mem_of_getElem? (i := 4) rfl)) (fun _ h9 => h9) rfl dX3_readNumber_79 ?_
          refine lv_iload_n hx hb dX3_readNumber_82 rfl (lv_at hl 3 rfl) ?_
          refine lv_iload_n hx hb dX3_readNumber_83 rfl (lv_at hl 1 rfl) ?_
          refine wa_i (w2 := [(h0, .inr (3, [.ref a1, .ref a2, .int (nI nb), .int (nI ln), .int (F_X3_scan_0_4 ln so tp), .int (nI (F_X3_scan_0_5 ln so tp)), .int (nI (F_X3_scan_0_6 ln so tp))])), (a1, .inl (cI, 300, .inl tp)), (a2, .inl (cI, 7, .inl (upd rt wt (lp (F_X3_readNumber_L49 ln so tp) (F_X3_scan_0_6 ln so tp - F_X3_scan_0_5 ln so tp) 0))))]) hx hb hB.1 hP hD hS 2 rfl wt rfl hwt (by decide) dX3_readNumber_84 rfl (fun H locs hP hD hS => ?_)
          refine lv_iconst (v := 1) hx hb dX3_readNumber_85 (by decide) ?_
          have er : F_X3_readNumber ln so tp = 1 := by rw [F_X3_readNumber, if_pos c_1, if_neg c_2]
          have e2 : F_X3_readNumber_2 ln so tp rt wt = upd rt wt (lp (F_X3_readNumber_L49 ln so tp) (F_X3_scan_0_6 ln so tp - F_X3_scan_0_5 ln so tp) 0) := by rw [F_X3_readNumber_2, if_pos c_1, if_neg c_2]
          exact W.zret hx hb hr rfl (fun t ht hW => ⟨⟨_, (), rfl, er.symm, by rw [ht, e2]; exact hP, by rw [e2]; exact hD⟩, hS.F ht⟩) hS.2.2 dX3_readNumber_86
        · have hlt_t : t < F_X3_scan_0_6 ln so tp - F_X3_scan_0_5 ln so tp := le_go2 (by omega) hSE h_t c_5
          refine lv_bipush (v := 10) hx hb dX3_readNumber_57 (by decide) ?_
          refine lv_iload_n hx hb dX3_readNumber_59 rfl (lv_at hl 1 rfl) ?_
          refine lv_imul hx hb dX3_readNumber_60 ?_
          refine lv_aload_n hx hb dX3_readNumber_61 rfl (lv_at hl 2 rfl) ?_
          refine va_get (D := D) (ci := 3) (v := .ref a1) (C := RX3) (T := TX3) (N := 7) hx hb hts hiX3 hown hB.1 hP 0 rfl rfl 0 (by decide) (hts _ (List.mem_of_getElem? (i := 5) rfl)) (fun _ h9 => h9) rfl dX3_readNumber_62 ?_
          refine lv_iload_n hx hb dX3_readNumber_65 rfl (lv_at hl 0 rfl) ?_
          refine ra_i hx hb hB.1 hP 1 rfl (F_X3_scan_0_5 ln so tp + t) rfl (by omega) (by decide) dX3_readNumber_66 ?_
          refine lv_iadd hx hb dX3_readNumber_67 ?_
          refine lv_bipush (v := 48) hx hb dX3_readNumber_68 (by decide) ?_
          refine lv_isub hx hb dX3_readNumber_70 ?_
          refine lv_istore_n (lv' := [(2, .int (((10 * sv4) + (tp (F_X3_scan_0_5 ln so tp + t))) - 48)), (3, .int (nI (F_X3_scan_0_5 ln so tp + t))), (0, .ref h0), (1, .int (nI wt))]) hx hb dX3_readNumber_71 rfl hl (by decide) rfl (fun ls hl => ?_)
          refine lv_iinc (v := nI (F_X3_scan_0_5 ln so tp + (t + 1))) (lv' := [(3, .int (nI (F_X3_scan_0_5 ln so tp + (t + 1)))), (2, .int (((10 * sv4) + (tp (F_X3_scan_0_5 ln so tp + t))) - 48)), (0, .ref h0), (1, .int (nI wt))]) hx hb dX3_readNumber_72 hl (k := 1) rfl (nI_1 (F_X3_scan_0_5 ln so tp + t)) (by decide) rfl (fun ls hl => ?_)
          refine lv_goto (tgt := 49) hx hb dX3_readNumber_75 (by decide) ?_
          have e_step : F_X3_readNumber_L49 ln so tp t sv4 = ((10 * sv4) + (tp (F_X3_scan_0_5 ln so tp + t))) - 48 := by rw [F_X3_readNumber_L49]
          have hP2 : va_P D vwCl [(h0, .inr (3, [.ref a1, .ref a2, .int (nI nb), .int (nI ln), .int (F_X3_scan_0_4 ln so tp), .int (nI (F_X3_scan_0_5 ln so tp)), .int (nI (F_X3_scan_0_6 ln so tp))])), (a1, .inl (cI, 300, .inl tp)), (a2, .inl (cI, 7, .inl rt))] H := hP
          have hD2 : va_D A [(h0, .inr (3, [.ref a1, .ref a2, .int (nI nb), .int (nI ln), .int (F_X3_scan_0_4 ln so tp), .int (nI (F_X3_scan_0_5 ln so tp)), .int (nI (F_X3_scan_0_6 ln so tp))])), (a1, .inl (cI, 300, .inl tp)), (a2, .inl (cI, 7, .inl rt))] := hD
          have hl2 : lv_has ls 4 [(3, .int (nI (F_X3_scan_0_5 ln so tp + (t + 1)))), (2, .int (F_X3_readNumber_L49 ln so tp t sv4)), (0, .ref h0), (1, .int (nI wt))] := by rw [e_step]; exact lv_sub hl [0, 1, 2, 3] rfl
          subst hs_t
          exact ih_t (t + 1) (by omega) (by omega) _ _ _ hP2 hD2 hS hl2
      · exact absurd c_3 (wn_in hwt (by decide))
