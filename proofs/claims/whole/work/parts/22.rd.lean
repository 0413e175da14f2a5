def F_X3_read_L28  (t : Nat) (s_ : (Nat → Int32)) : (Nat → Int32) :=
    upd s_ t (F_X2_usual (nI t))
set_option maxHeartbeats 4000000 in
set_option maxRecDepth 100000 in
theorem c_X3_read (l : Launch) {D : va_G} {cI cZ cB : ClassId} {au : Nat} {kA kV : Nat → Nat} {z0 : Nat} (sz : Nat) (h0 : Nat) (a1 : Nat) (a2 : Nat) (nb : Nat) (ln : Nat) (kd : Int32) (sa : Nat) (so : Nat) (tp : Nat → Int32) (rt : Nat → Int32) (n1 : Int32) (nn : Nat) (e_nn : n1 = nI nn) (hnn : nn ≤ nb) (hnb : nb ≤ 300) : Met l yX3_read wsX3_read ({ frames := 7, cells := 0, slots := 0, locals := 148 }) (va_Pc [.ref h0, .int n1] (PRE D cI cZ cB au kA kV z0 sz [(h0, .inr (3, [.ref a1, .ref a2, .int (nI nb), .int (nI ln), .int kd, .int (nI sa), .int (nI so)])), (a1, .inl (cI, 300, .inl tp)), (a2, .inl (cI, 7, .inl rt))])) (QI D [(h0, .inr (3, [.ref a1, .ref a2, .int (nI nb), .int (nI ln), .int kd, .int (nI sa), .int (nI so)])), (a1, .inl (cI, 300, .inl tp)), (a2, .inl (cI, 7, .inl rt))] sz (rd nn tp 12 0 (lp F_X3_read_L28 7 rt)).1 [(h0, .inr (3, [.ref a1, .ref a2, .int (nI 0), .int (nI nn), .int (rd nn tp 12 0 (lp F_X3_read_L28 7 rt)).2.1, .int (nI (rd nn tp 12 0 (lp F_X3_read_L28 7 rt)).2.2.1), .int (nI (rd nn tp 12 0 (lp F_X3_read_L28 7 rt)).2.2.2.1)])), (a1, .inl (cI, 300, .inl tp)), (a2, .inl (cI, 7, .inl (rd nn tp 12 0 (lp F_X3_read_L28 7 rt)).2.2.2.2))]) 0 0 (va_A [(h0, .inr (3, [.ref a1, .ref a2, .int (nI nb), .int (nI ln), .int kd, .int (nI sa), .int (nI so)])), (a1, .inl (cI, 300, .inl tp)), (a2, .inl (cI, 7, .inl rt))] sz) := by
  subst e_nn
  refine Met.ofW (cc := cX3_read) (maxL := 3) (ret := (some .int)) (by decide) rfl ?_
  intro p e s m args below meth c s₁ B hml hv
  obtain ⟨rfl, hsz, hz, hP, hD0, hB⟩ := hv
  have hx := B.exec
  have hb := B.bytes
  have hr := B.returns
  have hts := atoms_spec (ws := wsX3_read) B.pre
  have hown : s.vm.findClass RX3 = some m.cls := findClass_of_methodNamed B.named
  have hlocks := B.notSynchronized
  subst hsz
  have hD := hD0.self (sz := s.heap.size)
  have hA0 := va_A0 hD0 hz
  unfold QI
  generalize hAe : va_A [(h0, .inr (3, [.ref a1, .ref a2, .int (nI nb), .int (nI ln), .int kd, .int (nI sa), .int (nI so)])), (a1, .inl (cI, 300, .inl tp)), (a2, .inl (cI, 7, .inl rt))] s.heap.size = A at hD hA0 ⊢
  have hA : ∀ q : Nat, s.heap.size ≤ q → A q := fun q h => by rw [← hAe]; exact Or.inr h
  have hS : va_S A s.heap s.heap [] := va_S.rf
  have hiX3 : ∀ w ∈ wsX30, w ∈ wsX3_read := fun w h => List.mem_cons_of_mem _ (List.mem_append_right _ h)
  have hl := lv_entry ([.ref h0, .int (nI nn)]) (n := 3) (Nat.le_of_ble_eq_true rfl)
  rw [lg_entry_eq]
  generalize (lg_sl ([.ref h0, .int (nI nn)]) ++ List.replicate (3 - (lg_sl ([.ref h0, .int (nI nn)])).length) Slot.unset).toArray = ls at hl ⊢
  have hl : lv_has ls 3 [(0, .ref h0), (1, .int (nI nn))] := hl
  refine lv_aload_n hx hb dX3_read_0 rfl (lv_at hl 0 rfl) ?_
  refine lv_iconst (v := 0) hx hb dX3_read_1 (by decide) ?_
  refine lv_aload_n hx hb dX3_read_2 rfl (lv_at hl 0 rfl) ?_
  refine va_get (D := D) (ci := 3) (v := .int (nI nb)) (C := RX3) (T := TX3) (N := 7) hx hb hts hiX3 hown hB.1 hP 0 rfl rfl 2 (by decide) (hts _ (List.mem_of_getElem? (i := 1) rfl)) (fun _ h9 => h9) rfl dX3_read_3 ?_
  refine lv_iload_n hx hb dX3_read_6 rfl (lv_at hl 1 rfl) ?_
  refine va_mmin hx hb (hml.trans hl.1.symm) hown (hts _ (List.mem_of_getElem? (i := 2) rfl)) (hts _ (List.mem_of_getElem? (i := 3) rfl)) (hts _ (List.mem_of_getElem? (i := 4) rfl)) (hts _ (List.mem_of_getElem? (i := 5) rfl)) (Nat.le_of_ble_eq_true rfl) (Nat.le_of_ble_eq_true rfl) (Nat.zero_le _) (Nat.zero_le _) dX3_read_7 ?_
  rw [mn_le (by omega) hnn]
  refine va_mmax hx hb (hml.trans hl.1.symm) hown (hts _ (List.mem_of_getElem? (i := 6) rfl)) (hts _ (List.mem_of_getElem? (i := 7) rfl)) (hts _ (List.mem_of_getElem? (i := 4) rfl)) (hts _ (List.mem_of_getElem? (i := 8) rfl)) (Nat.le_of_ble_eq_true rfl) (Nat.le_of_ble_eq_true rfl) (Nat.zero_le _) (Nat.zero_le _) dX3_read_10 ?_
  rw [mx_0 (by omega)]
  refine pf (w2 := [(h0, .inr (3, [.ref a1, .ref a2, .int (nI nb), .int (nI nn), .int kd, .int (nI sa), .int (nI so)])), (a1, .inl (cI, 300, .inl tp)), (a2, .inl (cI, 7, .inl rt))]) (ci := 3) (C := RX3) (T := TX3) (N := 7) hx hb hts hiX3 tyX3 tyX3_ok nmX3 hown hB.1 hP hD hS 0 rfl rfl 3 (by decide) (hts _ (List.mem_of_getElem? (i := 9) rfl)) rfl rfl rfl rfl (Nat.le_of_ble_eq_true rfl) rfl dX3_read_13 (fun H locs hP hD hS => ?_)
  refine lv_aload_n hx hb dX3_read_16 rfl (lv_at hl 0 rfl) ?_
  refine lv_iconst (v := 0) hx hb dX3_read_17 (by decide) ?_
  refine pf (w2 := [(h0, .inr (3, [.ref a1, .ref a2, .int 0, .int (nI nn), .int kd, .int (nI sa), .int (nI so)])), (a1, .inl (cI, 300, .inl tp)), (a2, .inl (cI, 7, .inl rt))]) (ci := 3) (C := RX3) (T := TX3) (N := 7) hx hb hts hiX3 tyX3 tyX3_ok nmX3 hown hB.1 hP hD hS 0 rfl rfl 2 (by decide) (hts _ (List.mem_of_getElem? (i := 1) rfl)) rfl rfl rfl rfl (Nat.le_of_ble_eq_true rfl) rfl dX3_read_18 (fun H locs hP hD hS => ?_)
  refine lv_aload_n hx hb dX3_read_21 rfl (lv_at hl 0 rfl) ?_
  refine lv_iconst (v := 0) hx hb dX3_read_22 (by decide) ?_
  refine pf (w2 := [(h0, .inr (3, [.ref a1, .ref a2, .int 0, .int (nI nn), .int kd, .int (nI sa), .int 0])), (a1, .inl (cI, 300, .inl tp)), (a2, .inl (cI, 7, .inl rt))]) (ci := 3) (C := RX3) (T := TX3) (N := 7) hx hb hts hiX3 tyX3 tyX3_ok nmX3 hown hB.1 hP hD hS 0 rfl rfl 6 (by decide) (hts _ (List.mem_of_getElem? (i := 10) rfl)) rfl rfl rfl rfl (Nat.le_of_ble_eq_true rfl) rfl dX3_read_23 (fun H locs hP hD hS => ?_)
  refine lv_iconst (v := 0) hx hb dX3_read_26 (by decide) ?_
  refine lv_istore_n (lv' := [(2, .int 0), (0, .ref h0), (1, .int (nI nn))]) hx hb dX3_read_27 rfl hl (by decide) rfl (fun ls hl => ?_)
  refine lpM (σ := Nat) (fun t => t ≤ 7) (fun t => 7 - t) (fun t => [(h0, .inr (3, [.ref a1, .ref a2, .int 0, .int (nI nn), .int kd, .int (nI sa), .int 0])), (a1, .inl (cI, 300, .inl tp)), (a2, .inl (cI, 7, .inl (lp (F_X3_read_L28) t rt)))]) (fun t => [(2, .int (nI t)), (0, .ref h0), (1, .int (nI nn))]) 0 (Nat.zero_le _) hP hD hS (lv_sub hl [0, 1, 2] rfl) ?_
  intro t h_t ih_t H locs ls hP hD hS hl
  have hP : va_P D vwCl [(h0, .inr (3, [.ref a1, .ref a2, .int 0, .int (nI nn), .int kd, .int (nI sa), .int 0])), (a1, .inl (cI, 300, .inl tp)), (a2, .inl (cI, 7, .inl (lp (F_X3_read_L28) t rt)))] H := hP
  have hD : va_D A [(h0, .inr (3, [.ref a1, .ref a2, .int 0, .int (nI nn), .int kd, .int (nI sa), .int 0])), (a1, .inl (cI, 300, .inl tp)), (a2, .inl (cI, 7, .inl (lp (F_X3_read_L28) t rt)))] := hD
  have hl : lv_has ls 3 [(2, .int (nI t)), (0, .ref h0), (1, .int (nI nn))] := hl
  generalize hs_t : lp (F_X3_read_L28) t rt = sv1 at hP hD 
  refine lv_iload_n hx hb dX3_read_28 rfl (lv_at hl 0 rfl) ?_
  refine lv_aload_n hx hb dX3_read_29 rfl (lv_at hl 1 rfl) ?_
  refine va_get (D := D) (ci := 3) (v := .ref a2) (C := RX3) (T := TX3) (N := 7) hx hb hts hiX3 hown hB.1 hP 0 rfl rfl 1 (by decide) (hts _ (List.mem_of_getElem? (i := 11) rfl)) (fun _ h9 => h9) rfl dX3_read_30 ?_
  refine va_alen (v := nI 7) hx hb hB.1 hP 2 0 rfl rfl rfl dX3_read_33 ?_
  refine lv_icmp_ge (tgt := 53) hx hb dX3_read_34 (by decide) (fun c_2 => ?_) (fun c_2 => ?_)
  · have hx_t : 7 = t := Eq.symm (le_ex (N := 7) (by decide) h_t c_2)
    subst hx_t
    subst hs_t
    refine lv_iconst (v := 0) hx hb dX3_read_53 (by decide) ?_
    refine lv_istore_n (lv' := [(2, .int 0), (0, .ref h0), (1, .int (nI nn))]) hx hb dX3_read_54 rfl hl (by decide) rfl (fun ls hl => ?_)
    refine lpM (σ := Nat × Int32 × Nat × Nat × (Nat → Int32)) (fun x => x.1 ≤ 12 ∧ x.2.2.2.1 ≤ nn ∧ rd nn tp 12 0 (lp F_X3_read_L28 7 rt) = rd nn tp (12 - x.1) x.2.2.2.1 x.2.2.2.2) (fun x => 12 - x.1) (fun x => [(h0, .inr (3, [.ref a1, .ref a2, .int 0, .int (nI nn), .int x.2.1, .int (nI x.2.2.1), .int (nI x.2.2.2.1)])), (a1, .inl (cI, 300, .inl tp)), (a2, .inl (cI, 7, .inl x.2.2.2.2))]) (fun x => [(2, .int (nI x.1)), (0, .ref h0), (1, .int (nI nn))]) (0, kd, sa, 0, lp F_X3_read_L28 7 rt) ⟨Nat.zero_le _, Nat.zero_le _, rfl⟩ hP hD hS (lv_sub hl [0, 1, 2] rfl) ?_
    intro x ⟨hq1, hq2, hq3⟩ ih_x H locs ls hP hD hS hl
    have hP : va_P D vwCl [(h0, .inr (3, [.ref a1, .ref a2, .int 0, .int (nI nn), .int x.2.1, .int (nI x.2.2.1), .int (nI x.2.2.2.1)])), (a1, .inl (cI, 300, .inl tp)), (a2, .inl (cI, 7, .inl x.2.2.2.2))] H := hP
    have hD : va_D A [(h0, .inr (3, [.ref a1, .ref a2, .int 0, .int (nI nn), .int x.2.1, .int (nI x.2.2.1), .int (nI x.2.2.2.1)])), (a1, .inl (cI, 300, .inl tp)), (a2, .inl (cI, 7, .inl x.2.2.2.2))] := hD
    have hl : lv_has ls 3 [(2, .int (nI x.1)), (0, .ref h0), (1, .int (nI nn))] := hl
    refine lv_iload_n hx hb dX3_read_55 rfl (lv_at hl 0 rfl) ?_
    refine lv_bipush (v := 12) hx hb dX3_read_56 (by decide) ?_
    refine lv_icmp_ge (tgt := 92) hx hb dX3_read_58 (by decide) (fun c_3 => ?_) (fun c_3 => ?_)
    · have hx12 : x.1 = 12 := le_ex (N := 12) (by decide) hq1 c_3
      rw [hx12] at hq3
      refine lv_aload_n hx hb dX3_read_92 rfl (lv_at hl 1 rfl) ?_
      refine k_v (w2 := [(h0, .inr (3, [.ref a1, .ref a2, .int (nI 0), .int (nI nn), .int (F_X3_scan_0_4 nn x.2.2.2.1 tp), .int (nI (F_X3_scan_0_5 nn x.2.2.2.1 tp)), .int (nI (F_X3_scan_0_6 nn x.2.2.2.1 tp))])), (a1, .inl (cI, 300, .inl tp)), (a2, .inl (cI, 7, .inl x.2.2.2.2))]) (va_runV (As := []) (rest := []) ⟨hx, hb, hml, hown, hts⟩ (c_X3_scan l _ h0 a1 a2 0 nn x.2.1 x.2.2.1 x.2.2.2.1 tp x.2.2.2.2 hq2 (by omega)) (cwV 0 hts gX3_read_X3_scan rfl rfl rfl (by decide +kernel) ⟨Nat.le_of_ble_eq_true rfl, Nat.le_of_ble_eq_true rfl⟩) (pre_V (ci := 3) (q0 := 0) hB hz hA0 hP hD hS [0, 1, 2] rfl rfl rfl rfl rfl) rfl rfl hl.1 rfl (lv_room (Nat.le_of_ble_eq_true rfl)) dX3_read_93 ⟨Nat.zero_le _, Nat.zero_le _⟩) hP hD hS hA [0, 1, 2] [] [0, 1, 2] rfl rfl rfl rfl rfl (fun H locs hP hD hS => ?_)
      refine lv_aload_n hx hb dX3_read_96 rfl (lv_at hl 1 rfl) ?_
      refine va_get (D := D) (ci := 3) (v := .int (F_X3_scan_0_4 nn x.2.2.2.1 tp)) (C := RX3) (T := TX3) (N := 7) hx hb hts hiX3 hown hB.1 hP 0 rfl rfl 4 (by decide) (hts _ (List.mem_of_getElem? (i := 12) rfl)) (fun _ h9 => h9) rfl dX3_read_97 ?_
      refine lv_if_ne (tgt := 107) hx hb dX3_read_100 (by decide) (fun c_4 => ?_) (fun c_4 => ?_)
      · have hrd := hq3.trans (rd_more c_4)
        refine lv_aload_n hx hb dX3_read_107 rfl (lv_at hl 1 rfl) ?_
        refine va_get (D := D) (ci := 3) (v := .int (nI (F_X3_scan_0_5 nn x.2.2.2.1 tp))) (C := RX3) (T := TX3) (N := 7) hx hb hts hiX3 hown hB.1 hP 0 rfl rfl 5 (by decide) (hts _ (List.mem_of_getElem? (i := 13) rfl)) (fun _ h9 => h9) rfl dX3_read_108 ?_
        have e0_4 : (rd nn tp 12 0 (lp F_X3_read_L28 7 rt)).2.1 = F_X3_scan_0_4 nn x.2.2.2.1 tp := (by rw [hrd])
        have e0_5 : nI (rd nn tp 12 0 (lp F_X3_read_L28 7 rt)).2.2.1 = nI (F_X3_scan_0_5 nn x.2.2.2.1 tp) := (by rw [hrd])
        have e0_6 : nI (rd nn tp 12 0 (lp F_X3_read_L28 7 rt)).2.2.2.1 = nI (F_X3_scan_0_6 nn x.2.2.2.1 tp) := (by rw [hrd])
        have e2 : (rd nn tp 12 0 (lp F_X3_read_L28 7 rt)).2.2.2.2 = x.2.2.2.2 := (by rw [hrd])
        exact W.iret hx hb hr (fun t ht hW => ⟨⟨_, (), rfl, (by rw [hrd]), by rw [ht, e0_4, e0_5, e0_6, e2]; exact hP, by rw [e0_4, e0_5, e0_6, e2]; exact hD⟩, hS.F ht⟩) hS.2.2 dX3_read_111
      · have hrd := hq3.trans (rd_end _ c_4)
        refine lv_iconst (v := (-1)) hx hb dX3_read_103 (by decide) ?_
        refine lv_goto (tgt := 111) hx hb dX3_read_104 (by decide) ?_
        have e0_4 : (rd nn tp 12 0 (lp F_X3_read_L28 7 rt)).2.1 = F_X3_scan_0_4 nn x.2.2.2.1 tp := (by rw [hrd])
        have e0_5 : nI (rd nn tp 12 0 (lp F_X3_read_L28 7 rt)).2.2.1 = nI (F_X3_scan_0_5 nn x.2.2.2.1 tp) := (by rw [hrd])
        have e0_6 : nI (rd nn tp 12 0 (lp F_X3_read_L28 7 rt)).2.2.2.1 = nI (F_X3_scan_0_6 nn x.2.2.2.1 tp) := (by rw [hrd])
        have e2 : (rd nn tp 12 0 (lp F_X3_read_L28 7 rt)).2.2.2.2 = x.2.2.2.2 := (by rw [hrd])
        exact W.iret hx hb hr (fun t ht hW => ⟨⟨_, (), rfl, (by rw [hrd]), by rw [ht, e0_4, e0_5, e0_6, e2]; exact hP, by rw [e0_4, e0_5, e0_6, e2]; exact hD⟩, hS.F ht⟩) hS.2.2 dX3_read_111
    · have hlt := le_go (N := 12) (by decide) hq1 c_3
      refine lv_aload_n hx hb dX3_read_61 rfl (lv_at hl 1 rfl) ?_
      refine k_v (w2 := [(h0, .inr (3, [.ref a1, .ref a2, .int (nI 0), .int (nI nn), .int (F_X3_scan_0_4 nn x.2.2.2.1 tp), .int (nI (F_X3_scan_0_5 nn x.2.2.2.1 tp)), .int (nI (F_X3_scan_0_6 nn x.2.2.2.1 tp))])), (a1, .inl (cI, 300, .inl tp)), (a2, .inl (cI, 7, .inl x.2.2.2.2))]) (va_runV (As := []) (rest := []) ⟨hx, hb, hml, hown, hts⟩ (c_X3_scan l _ h0 a1 a2 0 nn x.2.1 x.2.2.1 x.2.2.2.1 tp x.2.2.2.2 hq2 (by omega)) (cwV 0 hts gX3_read_X3_scan rfl rfl rfl (by decide +kernel) ⟨Nat.le_of_ble_eq_true rfl, Nat.le_of_ble_eq_true rfl⟩) (pre_V (ci := 3) (q0 := 0) hB hz hA0 hP hD hS [0, 1, 2] rfl rfl rfl rfl rfl) rfl rfl hl.1 rfl (lv_room (Nat.le_of_ble_eq_true rfl)) dX3_read_62 ⟨Nat.zero_le _, Nat.zero_le _⟩) hP hD hS hA [0, 1, 2] [] [0, 1, 2] rfl rfl rfl rfl rfl (fun H locs hP hD hS => ?_)
      obtain ⟨hSE, hEL, hSS, -⟩ := scan_le (tp := tp) hq2 (by omega : nn ≤ 300)
      refine lv_aload_n hx hb dX3_read_65 rfl (lv_at hl 1 rfl) ?_
      refine va_get (D := D) (ci := 3) (v := .int (F_X3_scan_0_4 nn x.2.2.2.1 tp)) (C := RX3) (T := TX3) (N := 7) hx hb hts hiX3 hown hB.1 hP 0 rfl rfl 4 (by decide) (hts _ (List.mem_of_getElem? (i := 12) rfl)) (fun _ h9 => h9) rfl dX3_read_66 ?_
      refine lv_if_ne (tgt := 74) hx hb dX3_read_69 (by decide) (fun c_5 => ?_) (fun c_5 => ?_)
      · have hc1 := c_5
        refine lv_aload_n hx hb dX3_read_74 rfl (lv_at hl 1 rfl) ?_
        refine k_i (w2 := [(h0, .inr (3, [.ref a1, .ref a2, .int (nI 0), .int (nI nn), .int (F_X3_readStatement_0_4 nn (F_X3_scan_0_4 nn x.2.2.2.1 tp) (F_X3_scan_0_5 nn x.2.2.2.1 tp) (F_X3_scan_0_6 nn x.2.2.2.1 tp) tp), .int (nI (F_X3_readStatement_0_5 nn (F_X3_scan_0_4 nn x.2.2.2.1 tp) (F_X3_scan_0_5 nn x.2.2.2.1 tp) (F_X3_scan_0_6 nn x.2.2.2.1 tp) tp)), .int (nI (F_X3_readStatement_0_6 nn (F_X3_scan_0_4 nn x.2.2.2.1 tp) (F_X3_scan_0_5 nn x.2.2.2.1 tp) (F_X3_scan_0_6 nn x.2.2.2.1 tp) tp))])), (a1, .inl (cI, 300, .inl tp)), (a2, .inl (cI, 7, .inl (F_X3_readStatement_2 nn (F_X3_scan_0_4 nn x.2.2.2.1 tp) (F_X3_scan_0_5 nn x.2.2.2.1 tp) (F_X3_scan_0_6 nn x.2.2.2.1 tp) tp x.2.2.2.2)))]) (va_runV (As := []) (rest := []) ⟨hx, hb, hml, hown, hts⟩ (c_X3_readStatement l _ h0 a1 a2 0 nn (F_X3_scan_0_4 nn x.2.2.2.1 tp) (F_X3_scan_0_5 nn x.2.2.2.1 tp) (F_X3_scan_0_6 nn x.2.2.2.1 tp) tp x.2.2.2.2 hSE hEL (by omega)) (cwV 0 hts gX3_read_X3_readStatement rfl rfl rfl (by decide +kernel) ⟨Nat.le_of_ble_eq_true rfl, Nat.le_of_ble_eq_true rfl⟩) (pre_V (ci := 3) (q0 := 0) hB hz hA0 hP hD hS [0, 1, 2] rfl rfl rfl rfl rfl) rfl rfl hl.1 rfl (lv_room (Nat.le_of_ble_eq_true rfl)) dX3_read_75 ⟨Nat.zero_le _, Nat.zero_le _⟩) hP hD hS hA [0, 1, 2] [] [0, 1, 2] rfl rfl rfl rfl rfl (fun H locs hP hD hS => ?_)
        refine lv_if_ne (tgt := 86) hx hb dX3_read_78 (by decide) (fun c_6 => ?_) (fun c_6 => ?_)
        · have hc2 := c_6
          refine lv_iinc (v := nI (x.1 + 1)) (lv' := [(2, .int (nI (x.1 + 1))), (0, .ref h0), (1, .int (nI nn))]) hx hb dX3_read_86 hl (k := 0) rfl (nI_1 _) (by decide) rfl (fun ls hl => ?_)
          refine lv_goto (tgt := 55) hx hb dX3_read_89 (by decide) ?_
          exact ih_x (x.1 + 1, F_X3_readStatement_0_4 nn (F_X3_scan_0_4 nn x.2.2.2.1 tp) (F_X3_scan_0_5 nn x.2.2.2.1 tp) (F_X3_scan_0_6 nn x.2.2.2.1 tp) tp, F_X3_readStatement_0_5 nn (F_X3_scan_0_4 nn x.2.2.2.1 tp) (F_X3_scan_0_5 nn x.2.2.2.1 tp) (F_X3_scan_0_6 nn x.2.2.2.1 tp) tp, F_X3_readStatement_0_6 nn (F_X3_scan_0_4 nn x.2.2.2.1 tp) (F_X3_scan_0_5 nn x.2.2.2.1 tp) (F_X3_scan_0_6 nn x.2.2.2.1 tp) tp, F_X3_readStatement_2 nn (F_X3_scan_0_4 nn x.2.2.2.1 tp) (F_X3_scan_0_5 nn x.2.2.2.1 tp) (F_X3_scan_0_6 nn x.2.2.2.1 tp) tp x.2.2.2.2) ⟨hlt, (rs_le hSE hEL (by omega)).2, hq3.trans (rd_good hlt hc1 hc2)⟩ (show 12 - (x.1 + 1) < 12 - x.1 by omega) _ _ _ hP hD hS (lv_sub hl [0, 1, 2] rfl)
        · have hrd := hq3.trans (rd_bad hlt hc1 c_6)
          refine lv_aload_n hx hb dX3_read_81 rfl (lv_at hl 1 rfl) ?_
          refine va_get (D := D) (ci := 3) (v := .int (nI (F_X3_readStatement_0_5 nn (F_X3_scan_0_4 nn x.2.2.2.1 tp) (F_X3_scan_0_5 nn x.2.2.2.1 tp) (F_X3_scan_0_6 nn x.2.2.2.1 tp) tp))) (C := RX3) (T := TX3) (N := 7) hx hb hts hiX3 hown hB.1 hP 0 rfl rfl 5 (by decide) (hts _ (List.mem_of_getElem? (i := 13) rfl)) (fun _ h9 => h9) rfl dX3_read_82 ?_
          have e0_4 : (rd nn tp 12 0 (lp F_X3_read_L28 7 rt)).2.1 = F_X3_readStatement_0_4 nn (F_X3_scan_0_4 nn x.2.2.2.1 tp) (F_X3_scan_0_5 nn x.2.2.2.1 tp) (F_X3_scan_0_6 nn x.2.2.2.1 tp) tp := (by rw [hrd])
          have e0_5 : nI (rd nn tp 12 0 (lp F_X3_read_L28 7 rt)).2.2.1 = nI (F_X3_readStatement_0_5 nn (F_X3_scan_0_4 nn x.2.2.2.1 tp) (F_X3_scan_0_5 nn x.2.2.2.1 tp) (F_X3_scan_0_6 nn x.2.2.2.1 tp) tp) := (by rw [hrd])
          have e0_6 : nI (rd nn tp 12 0 (lp F_X3_read_L28 7 rt)).2.2.2.1 = nI (F_X3_readStatement_0_6 nn (F_X3_scan_0_4 nn x.2.2.2.1 tp) (F_X3_scan_0_5 nn x.2.2.2.1 tp) (F_X3_scan_0_6 nn x.2.2.2.1 tp) tp) := (by rw [hrd])
          have e2 : (rd nn tp 12 0 (lp F_X3_read_L28 7 rt)).2.2.2.2 = F_X3_readStatement_2 nn (F_X3_scan_0_4 nn x.2.2.2.1 tp) (F_X3_scan_0_5 nn x.2.2.2.1 tp) (F_X3_scan_0_6 nn x.2.2.2.1 tp) tp x.2.2.2.2 := (by rw [hrd])
          exact W.iret hx hb hr (fun t ht hW => ⟨⟨_, (), rfl, (by rw [hrd]), by rw [ht, e0_4, e0_5, e0_6, e2]; exact hP, by rw [e0_4, e0_5, e0_6, e2]; exact hD⟩, hS.F ht⟩) hS.2.2 dX3_read_85
      · have hrd := hq3.trans (rd_end _ c_5)
        refine lv_iconst (v := (-1)) hx hb dX3_read_72 (by decide) ?_
        have e0_4 : (rd nn tp 12 0 (lp F_X3_read_L28 7 rt)).2.1 = F_X3_scan_0_4 nn x.2.2.2.1 tp := (by rw [hrd])
        have e0_5 : nI (rd nn tp 12 0 (lp F_X3_read_L28 7 rt)).2.2.1 = nI (F_X3_scan_0_5 nn x.2.2.2.1 tp) := (by rw [hrd])
        have e0_6 : nI (rd nn tp 12 0 (lp F_X3_read_L28 7 rt)).2.2.2.1 = nI (F_X3_scan_0_6 nn x.2.2.2.1 tp) := (by rw [hrd])
        have e2 : (rd nn tp 12 0 (lp F_X3_read_L28 7 rt)).2.2.2.2 = x.2.2.2.2 := (by rw [hrd])
        exact W.iret hx hb hr (fun t ht hW => ⟨⟨_, (), rfl, (by rw [hrd]), by rw [ht, e0_4, e0_5, e0_6, e2]; exact hP, by rw [e0_4, e0_5, e0_6, e2]; exact hD⟩, hS.F ht⟩) hS.2.2 dX3_read_73
  · have hlt_t : t < 7 := le_go (N := 7) (by decide) h_t c_2
    refine lv_aload_n hx hb dX3_read_37 rfl (lv_at hl 1 rfl) ?_
    refine va_get (D := D) (ci := 3) (v := .ref a2) (C := RX3) (T := TX3) (N := 7) hx hb hts hiX3 hown hB.1 hP 0 rfl rfl 1 (by decide) (hts _ (List.mem_of_getElem? (i := 11) rfl)) (fun _ h9 => h9) rfl dX3_read_38 ?_
    refine lv_iload_n hx hb dX3_read_41 rfl (lv_at hl 0 rfl) ?_
    refine lv_iload_n hx hb dX3_read_42 rfl (lv_at hl 0 rfl) ?_
    refine k_i (w2 := [(h0, .inr (3, [.ref a1, .ref a2, .int 0, .int (nI nn), .int kd, .int (nI sa), .int 0])), (a1, .inl (cI, 300, .inl tp)), (a2, .inl (cI, 7, .inl sv1))]) (va_runS (As := [.int (nI t)]) (rest := [.int (nI t), .ref a2]) ⟨hx, hb, hml, hown, hts⟩ (c_X2_usual l _ (nI t)) (va_cwS 1 hts gX3_read_X2_usual rfl rfl rfl (by decide +kernel) ⟨Nat.le_of_ble_eq_true rfl, Nat.le_of_ble_eq_true rfl⟩) (pre_S hB hz hA0 hP hD hS [] rfl rfl) rfl rfl hl.1 rfl (lv_room (Nat.le_of_ble_eq_true rfl)) dX3_read_43 ⟨Nat.zero_le _, Nat.zero_le _⟩) hP hD hS hA [] [0, 1, 2] [0, 1, 2] rfl rfl rfl rfl rfl (fun H locs hP hD hS => ?_)
    refine wa_i (w2 := [(h0, .inr (3, [.ref a1, .ref a2, .int 0, .int (nI nn), .int kd, .int (nI sa), .int 0])), (a1, .inl (cI, 300, .inl tp)), (a2, .inl (cI, 7, .inl (upd sv1 t (F_X2_usual (nI t)))))]) hx hb hB.1 hP hD hS 2 rfl t rfl (by omega) (by decide) dX3_read_46 rfl (fun H locs hP hD hS => ?_)
    refine lv_iinc (v := nI (t + 1)) (lv' := [(2, .int (nI (t + 1))), (0, .ref h0), (1, .int (nI nn))]) hx hb dX3_read_47 hl (k := 0) rfl (nI_1 _) (by decide) rfl (fun ls hl => ?_)
    refine lv_goto (tgt := 28) hx hb dX3_read_50 (by decide) ?_
    have e_step : F_X3_read_L28 t sv1 = upd sv1 t (F_X2_usual (nI t)) := by rw [F_X3_read_L28]
    have hP2 : va_P D vwCl [(h0, .inr (3, [.ref a1, .ref a2, .int 0, .int (nI nn), .int kd, .int (nI sa), .int 0])), (a1, .inl (cI, 300, .inl tp)), (a2, .inl (cI, 7, .inl (F_X3_read_L28 t sv1)))] H := by rw [e_step]; exact hP
    have hD2 : va_D A [(h0, .inr (3, [.ref a1, .ref a2, .int 0, .int (nI nn), .int kd, .int (nI sa), .int 0])), (a1, .inl (cI, 300, .inl tp)), (a2, .inl (cI, 7, .inl (F_X3_read_L28 t sv1)))] := by rw [e_step]; exact hD
    have hl2 : lv_has ls 3 [(2, .int (nI (t + 1))), (0, .ref h0), (1, .int (nI nn))] := lv_sub hl [0, 1, 2] rfl
    subst hs_t
    exact ih_t (t + 1) (by omega) (by omega) _ _ _ hP2 hD2 hS hl2
