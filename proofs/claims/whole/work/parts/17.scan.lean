set_option maxHeartbeats 4000000 in
set_option maxRecDepth 100000 in
theorem c_X3_isWord (l : Launch) {D : va_G} {cI cZ cB : ClassId} {au : Nat} {kA kV : Nat → Nat} {z0 : Nat} (sz : Nat) (h0 : Nat) (a1 : Nat) (a2 : Nat) (nb : Nat) (ln : Nat) (kd : Int32) (sa : Nat) (so : Nat) (tp : Nat → Int32) (rt : Nat → Int32) (w : Nat) (hss : sa ≤ so) (hso : so ≤ 300) (hw : w < 7) : Met l yX3_isWord wsX3_isWord ({ frames := 4, cells := 0, slots := 0, locals := 85 }) (va_Pc [.ref h0, .ref (kA w)] (PRE D cI cZ cB au kA kV z0 sz [(h0, .inr (3, [.ref a1, .ref a2, .int (nI nb), .int (nI ln), .int kd, .int (nI sa), .int (nI so)])), (a1, .inl (cI, 300, .inl tp)), (a2, .inl (cI, 7, .inl rt))])) (QI D [(h0, .inr (3, [.ref a1, .ref a2, .int (nI nb), .int (nI ln), .int kd, .int (nI sa), .int (nI so)])), (a1, .inl (cI, 300, .inl tp)), (a2, .inl (cI, 7, .inl rt))] sz (isW tp kd sa so w) [(h0, .inr (3, [.ref a1, .ref a2, .int (nI nb), .int (nI ln), .int kd, .int (nI sa), .int (nI so)])), (a1, .inl (cI, 300, .inl tp)), (a2, .inl (cI, 7, .inl rt))]) 0 0 (va_A [(h0, .inr (3, [.ref a1, .ref a2, .int (nI nb), .int (nI ln), .int kd, .int (nI sa), .int (nI so)])), (a1, .inl (cI, 300, .inl tp)), (a2, .inl (cI, 7, .inl rt))] sz) := by
  refine Met.ofW (cc := cX3_isWord) (maxL := 3) (ret := (some .boolean)) (by decide) rfl ?_
  intro p e s m args below meth c s₁ B hml hv
  obtain ⟨rfl, hsz, hz, hP, hD0, hB⟩ := hv
  have hx := B.exec
  have hb := B.bytes
  have hr := B.returns
  have hts := atoms_spec (ws := wsX3_isWord) B.pre
  have hown : s.vm.findClass RX3 = some m.cls := findClass_of_methodNamed B.named
  have hlocks := B.notSynchronized
  subst hsz
  have hD := hD0.self (sz := s.heap.size)
  have hA0 := va_A0 hD0 hz
  unfold QI
  generalize hAe : va_A [(h0, .inr (3, [.ref a1, .ref a2, .int (nI nb), .int (nI ln), .int kd, .int (nI sa), .int (nI so)])), (a1, .inl (cI, 300, .inl tp)), (a2, .inl (cI, 7, .inl rt))] s.heap.size = A at hD hA0 ⊢
  have hA : ∀ q : Nat, s.heap.size ≤ q → A q := fun q h => by rw [← hAe]; exact Or.inr h
  have hS : va_S A s.heap s.heap [] := va_S.rf
  have hiX3 : ∀ w ∈ wsX30, w ∈ wsX3_isWord := fun w h => List.mem_cons_of_mem _ (List.mem_append_right _ h)
  have hl := lv_entry ([.ref h0, .ref (kA w)]) (n := 3) (Nat.le_of_ble_eq_true rfl)
  rw [lg_entry_eq]
  generalize (lg_sl ([.ref h0, .ref (kA w)]) ++ List.replicate (3 - (lg_sl ([.ref h0, .ref (kA w)])).length) Slot.unset).toArray = ls at hl ⊢
  have hl : lv_has ls 3 [(0, .ref h0), (1, .ref (kA w))] := hl
  refine lv_aload_n hx hb dX3_isWord_0 rfl (lv_at hl 0 rfl) ?_
  refine va_get (D := D) (ci := 3) (v := .int kd) (C := RX3) (T := TX3) (N := 7) hx hb hts hiX3 hown hB.1 hP 0 rfl rfl 4 (by decide) (hts _ (List.mem_of_getElem? (i := 1) rfl)) (fun _ h9 => h9) rfl dX3_isWord_1 ?_
  refine lv_iconst (v := 1) hx hb dX3_isWord_4 (by decide) ?_
  refine lv_icmp_ne (tgt := 24) hx hb dX3_isWord_5 (by decide) (fun c_1 => ?_) (fun c_1 => ?_)
  · refine lv_iconst (v := 0) hx hb dX3_isWord_24 (by decide) ?_
    exact W.zret hx hb hr rfl (fun t ht hW => ⟨⟨_, (), rfl, (isW_k c_1).symm, by rw [ht]; exact hP, hD⟩, hS.F ht⟩) hS.2.2 dX3_isWord_25
  · refine lv_aload_n hx hb dX3_isWord_8 rfl (lv_at hl 0 rfl) ?_
    refine va_get (D := D) (ci := 3) (v := .int (nI so)) (C := RX3) (T := TX3) (N := 7) hx hb hts hiX3 hown hB.1 hP 0 rfl rfl 6 (by decide) (hts _ (List.mem_of_getElem? (i := 2) rfl)) (fun _ h9 => h9) rfl dX3_isWord_9 ?_
    refine lv_aload_n hx hb dX3_isWord_12 rfl (lv_at hl 0 rfl) ?_
    refine va_get (D := D) (ci := 3) (v := .int (nI sa)) (C := RX3) (T := TX3) (N := 7) hx hb hts hiX3 hown hB.1 hP 0 rfl rfl 5 (by decide) (hts _ (List.mem_of_getElem? (i := 3) rfl)) (fun _ h9 => h9) rfl dX3_isWord_13 ?_
    refine lv_isub hx hb dX3_isWord_16 ?_
    refine lv_aload_n hx hb dX3_isWord_17 rfl (lv_at hl 1 rfl) ?_
    refine k_i (w2 := [(h0, .inr (3, [.ref a1, .ref a2, .int (nI nb), .int (nI ln), .int kd, .int (nI sa), .int (nI so)])), (a1, .inl (cI, 300, .inl tp)), (a2, .inl (cI, 7, .inl rt))]) (va_runV (As := []) (rest := [.int ((nI so) - (nI sa))]) ⟨hx, hb, hml, hown, hts⟩ (c_J0_length_8abf5 l _ w hw) (cwV 0 hts gX3_isWord_J0_length_8abf5 rfl rfl rfl (by decide +kernel) ⟨Nat.le_of_ble_eq_true rfl, Nat.le_of_ble_eq_true rfl⟩) (pre_VS (vk_recv (hB.2.2.2.2.2.1.narrow hA0) hw hS) hB hz hA0 hP hD hS [] rfl rfl) rfl rfl hl.1 rfl (lv_room (Nat.le_of_ble_eq_true rfl)) dX3_isWord_18 ⟨Nat.zero_le _, Nat.zero_le _⟩) hP hD hS hA [] [0, 1, 2] [0, 1, 2] rfl rfl rfl rfl rfl (fun H locs hP hD hS => ?_)
    refine lv_icmp_eq (tgt := 26) hx hb dX3_isWord_21 (by decide) (fun c_2 => ?_) (fun c_2 => ?_)
    · have hlen2 := len_eq hw hss hso c_2
      refine lv_iconst (v := 0) hx hb dX3_isWord_26 (by decide) ?_
      refine lv_istore_n (lv' := [(2, .int 0), (0, .ref h0), (1, .ref (kA w))]) hx hb dX3_isWord_27 rfl hl (by decide) rfl (fun ls hl => ?_)
      refine lpM (σ := Nat) (fun t => t ≤ tx_len.getD w 0 ∧ ∀ k, k < t → tp (sa + k) = F_J1_charAt_3b067 w k) (fun t => (tx_len.getD w 0) - t) (fun t => [(h0, .inr (3, [.ref a1, .ref a2, .int (nI nb), .int (nI ln), .int kd, .int (nI sa), .int (nI so)])), (a1, .inl (cI, 300, .inl tp)), (a2, .inl (cI, 7, .inl rt))]) (fun t => [(2, .int (nI t)), (0, .ref h0), (1, .ref (kA w))]) 0 ⟨Nat.zero_le _, fun k hk => absurd hk (Nat.not_lt_zero k)⟩ hP hD hS (lv_sub hl [0, 1, 2] rfl) ?_
      intro t ⟨h_t, hv_t⟩ ih_t H locs ls hP hD hS hl
      have hP : va_P D vwCl [(h0, .inr (3, [.ref a1, .ref a2, .int (nI nb), .int (nI ln), .int kd, .int (nI sa), .int (nI so)])), (a1, .inl (cI, 300, .inl tp)), (a2, .inl (cI, 7, .inl rt))] H := hP
      have hD : va_D A [(h0, .inr (3, [.ref a1, .ref a2, .int (nI nb), .int (nI ln), .int kd, .int (nI sa), .int (nI so)])), (a1, .inl (cI, 300, .inl tp)), (a2, .inl (cI, 7, .inl rt))] := hD
      have hl : lv_has ls 3 [(2, .int (nI t)), (0, .ref h0), (1, .ref (kA w))] := hl
      refine lv_iload_n hx hb dX3_isWord_28 rfl (lv_at hl 0 rfl) ?_
      refine lv_aload_n hx hb dX3_isWord_29 rfl (lv_at hl 2 rfl) ?_
      refine k_i (w2 := [(h0, .inr (3, [.ref a1, .ref a2, .int (nI nb), .int (nI ln), .int kd, .int (nI sa), .int (nI so)])), (a1, .inl (cI, 300, .inl tp)), (a2, .inl (cI, 7, .inl rt))]) (va_runV (As := []) (rest := [.int (nI t)]) ⟨hx, hb, hml, hown, hts⟩ (c_J0_length_8abf5 l _ w hw) (cwV 0 hts gX3_isWord_J0_length_8abf5 rfl rfl rfl (by decide +kernel) ⟨Nat.le_of_ble_eq_true rfl, Nat.le_of_ble_eq_true rfl⟩) (pre_VS (vk_recv (hB.2.2.2.2.2.1.narrow hA0) hw hS) hB hz hA0 hP hD hS [] rfl rfl) rfl rfl hl.1 rfl (lv_room (Nat.le_of_ble_eq_true rfl)) dX3_isWord_30 ⟨Nat.zero_le _, Nat.zero_le _⟩) hP hD hS hA [] [0, 1, 2] [0, 1, 2] rfl rfl rfl rfl rfl (fun H locs hP hD hS => ?_)
      refine lv_icmp_ge (tgt := 63) hx hb dX3_isWord_33 (by decide) (fun c_4 => ?_) (fun c_4 => ?_)
      · have hx_t : tx_len.getD w 0 = t := Eq.symm (le_ex (tx_lt hw) h_t c_4)
        subst hx_t
        refine lv_iconst (v := 1) hx hb dX3_isWord_63 (by decide) ?_
        exact W.zret hx hb hr rfl (fun t ht hW => ⟨⟨_, (), rfl, (isW_y c_1 hlen2 hv_t).symm, by rw [ht]; exact hP, hD⟩, hS.F ht⟩) hS.2.2 dX3_isWord_64
      · have hlt_t : t < tx_len.getD w 0 := le_go (tx_lt hw) h_t c_4
        refine lv_aload_n hx hb dX3_isWord_36 rfl (lv_at hl 1 rfl) ?_
        refine va_get (D := D) (ci := 3) (v := .ref a1) (C := RX3) (T := TX3) (N := 7) hx hb hts hiX3 hown hB.1 hP 0 rfl rfl 0 (by decide) (hts _ (List.mem_of_getElem? (i := 4) rfl)) (fun _ h9 => h9) rfl dX3_isWord_37 ?_
        refine lv_aload_n hx hb dX3_isWord_40 rfl (lv_at hl 1 rfl) ?_
        refine va_get (D := D) (ci := 3) (v := .int (nI sa)) (C := RX3) (T := TX3) (N := 7) hx hb hts hiX3 hown hB.1 hP 0 rfl rfl 5 (by decide) (hts _ (List.mem_of_getElem? (i := 3) rfl)) (fun _ h9 => h9) rfl dX3_isWord_41 ?_
        refine lv_iload_n hx hb dX3_isWord_44 rfl (lv_at hl 0 rfl) ?_
        refine lv_iadd hx hb dX3_isWord_45 ?_
        refine ra_i hx hb hB.1 hP 1 rfl (sa + t) (nx_add rfl rfl) (by omega) (by decide) dX3_isWord_46 ?_
        refine lv_aload_n hx hb dX3_isWord_47 rfl (lv_at hl 2 rfl) ?_
        refine lv_iload_n hx hb dX3_isWord_48 rfl (lv_at hl 0 rfl) ?_
        refine k_i (w2 := [(h0, .inr (3, [.ref a1, .ref a2, .int (nI nb), .int (nI ln), .int kd, .int (nI sa), .int (nI so)])), (a1, .inl (cI, 300, .inl tp)), (a2, .inl (cI, 7, .inl rt))]) (va_runV (As := [.int (nI t)]) (rest := [.int (tp (sa + t))]) ⟨hx, hb, hml, hown, hts⟩ (c_J0_charAt_5068e l _ w (nI t) t hw rfl hlt_t) (cwV 1 hts gX3_isWord_J0_charAt_5068e rfl rfl rfl (by decide +kernel) ⟨Nat.le_of_ble_eq_true rfl, Nat.le_of_ble_eq_true rfl⟩) (pre_VS (vk_recv (hB.2.2.2.2.2.1.narrow hA0) hw hS) hB hz hA0 hP hD hS [] rfl rfl) rfl rfl hl.1 rfl (lv_room (Nat.le_of_ble_eq_true rfl)) dX3_isWord_49 ⟨Nat.zero_le _, Nat.zero_le _⟩) hP hD hS hA [] [0, 1, 2] [0, 1, 2] rfl rfl rfl rfl rfl (fun H locs hP hD hS => ?_)
        refine lv_icmp_eq (tgt := 57) hx hb dX3_isWord_52 (by decide) (fun c_5 => ?_) (fun c_5 => ?_)
        · refine lv_iinc (v := nI (t + 1)) (lv' := [(2, .int (nI (t + 1))), (0, .ref h0), (1, .ref (kA w))]) hx hb dX3_isWord_57 hl (k := 0) rfl (nI_1 _) (by decide) rfl (fun ls hl => ?_)
          refine lv_goto (tgt := 28) hx hb dX3_isWord_60 (by decide) ?_
          exact ih_t (t + 1) ⟨by omega, fun k hk => (Nat.lt_succ_iff_lt_or_eq.mp hk).elim (hv_t k) (fun q => by rw [q]; exact c_5)⟩ (by omega) _ _ _ hP hD hS (lv_sub hl [0, 1, 2] rfl)
        · refine lv_iconst (v := 0) hx hb dX3_isWord_55 (by decide) ?_
          exact W.zret hx hb hr rfl (fun t ht hW => ⟨⟨_, (), rfl, (isW_m hlt_t c_5).symm, by rw [ht]; exact hP, hD⟩, hS.F ht⟩) hS.2.2 dX3_isWord_56
    · refine lv_iconst (v := 0) hx hb dX3_isWord_24 (by decide) ?_
      exact W.zret hx hb hr rfl (fun t ht hW => ⟨⟨_, (), rfl, (isW_l hw hss hso c_2).symm, by rw [ht]; exact hP, hD⟩, hS.F ht⟩) hS.2.2 dX3_isWord_25

def F_X3_keyword (kd : Int32) (sa : Nat) (so : Nat) (tp : Nat → Int32) : Int32 :=
  if (isW tp kd sa so 1) = 0 then (if (isW tp kd sa so 2) = 0 then (if (isW tp kd sa so 3) = 0 then (if (isW tp kd sa so 4) = 0 then (if (isW tp kd sa so 5) = 0 then (if (isW tp kd sa so 6) = 0 then (-1) else
            6) else
          5) else
        4) else
      3) else
    2) else
  0
set_option maxHeartbeats 4000000 in
set_option maxRecDepth 100000 in
theorem c_X3_keyword (l : Launch) {D : va_G} {cI cZ cB : ClassId} {au : Nat} {kA kV : Nat → Nat} {z0 : Nat} (sz : Nat) (h0 : Nat) (a1 : Nat) (a2 : Nat) (nb : Nat) (ln : Nat) (kd : Int32) (sa : Nat) (so : Nat) (tp : Nat → Int32) (rt : Nat → Int32) (hss : sa ≤ so) (hso : so ≤ 300) : Met l yX3_keyword wsX3_keyword ({ frames := 5, cells := 0, slots := 0, locals := 107 }) (va_Pc [.ref h0] (PRE D cI cZ cB au kA kV z0 sz [(h0, .inr (3, [.ref a1, .ref a2, .int (nI nb), .int (nI ln), .int kd, .int (nI sa), .int (nI so)])), (a1, .inl (cI, 300, .inl tp)), (a2, .inl (cI, 7, .inl rt))])) (QI D [(h0, .inr (3, [.ref a1, .ref a2, .int (nI nb), .int (nI ln), .int kd, .int (nI sa), .int (nI so)])), (a1, .inl (cI, 300, .inl tp)), (a2, .inl (cI, 7, .inl rt))] sz (F_X3_keyword kd sa so tp) [(h0, .inr (3, [.ref a1, .ref a2, .int (nI nb), .int (nI ln), .int kd, .int (nI sa), .int (nI so)])), (a1, .inl (cI, 300, .inl tp)), (a2, .inl (cI, 7, .inl rt))]) 0 0 (va_A [(h0, .inr (3, [.ref a1, .ref a2, .int (nI nb), .int (nI ln), .int kd, .int (nI sa), .int (nI so)])), (a1, .inl (cI, 300, .inl tp)), (a2, .inl (cI, 7, .inl rt))] sz) := by
  refine Met.ofW (cc := cX3_keyword) (maxL := 1) (ret := (some .int)) (by decide) rfl ?_
  intro p e s m args below meth c s₁ B hml hv
  obtain ⟨rfl, hsz, hz, hP, hD0, hB⟩ := hv
  have hx := B.exec
  have hb := B.bytes
  have hr := B.returns
  have hts := atoms_spec (ws := wsX3_keyword) B.pre
  have hown : s.vm.findClass RX3 = some m.cls := findClass_of_methodNamed B.named
  have hlocks := B.notSynchronized
  subst hsz
  have hD := hD0.self (sz := s.heap.size)
  have hA0 := va_A0 hD0 hz
  unfold QI
  generalize hAe : va_A [(h0, .inr (3, [.ref a1, .ref a2, .int (nI nb), .int (nI ln), .int kd, .int (nI sa), .int (nI so)])), (a1, .inl (cI, 300, .inl tp)), (a2, .inl (cI, 7, .inl rt))] s.heap.size = A at hD hA0 ⊢
  have hA : ∀ q : Nat, s.heap.size ≤ q → A q := fun q h => by rw [← hAe]; exact Or.inr h
  have hS : va_S A s.heap s.heap [] := va_S.rf
  have hl := lv_entry ([.ref h0]) (n := 1) (Nat.le_of_ble_eq_true rfl)
  rw [lg_entry_eq]
  generalize (lg_sl ([.ref h0]) ++ List.replicate (1 - (lg_sl ([.ref h0])).length) Slot.unset).toArray = ls at hl ⊢
  have hl : lv_has ls 1 [(0, .ref h0)] := hl
  refine lv_aload_n hx hb dX3_keyword_0 rfl (lv_at hl 0 rfl) ?_
  refine va_ldcS hx hb hown hB.2.2.1.2.1 dX3_keyword_1 ?_
  refine k_i (w2 := [(h0, .inr (3, [.ref a1, .ref a2, .int (nI nb), .int (nI ln), .int kd, .int (nI sa), .int (nI so)])), (a1, .inl (cI, 300, .inl tp)), (a2, .inl (cI, 7, .inl rt))]) (va_runV (As := [.ref (kA 1)]) (rest := []) ⟨hx, hb, hml, hown, hts⟩ (c_X3_isWord l _ h0 a1 a2 nb ln kd sa so tp rt 1 hss hso (by decide)) (cwV 1 hts gX3_keyword_X3_isWord rfl rfl rfl (by decide +kernel) ⟨Nat.le_of_ble_eq_true rfl, Nat.le_of_ble_eq_true rfl⟩) (pre_V (ci := 3) (q0 := 0) hB hz hA0 hP hD hS [0, 1, 2] rfl rfl rfl rfl rfl) rfl rfl hl.1 rfl (lv_room (Nat.le_of_ble_eq_true rfl)) dX3_keyword_3 ⟨Nat.zero_le _, Nat.zero_le _⟩) hP hD hS hA [0, 1, 2] [] [0, 1, 2] rfl rfl rfl rfl rfl (fun H locs hP hD hS => ?_)
  refine lv_if_eq (tgt := 11) hx hb dX3_keyword_6 (by decide) (fun c_1 => ?_) (fun c_1 => ?_)
  · refine lv_aload_n hx hb dX3_keyword_11 rfl (lv_at hl 0 rfl) ?_
    refine va_ldcS hx hb hown hB.2.2.1.2.2.1 dX3_keyword_12 ?_
    refine k_i (w2 := [(h0, .inr (3, [.ref a1, .ref a2, .int (nI nb), .int (nI ln), .int kd, .int (nI sa), .int (nI so)])), (a1, .inl (cI, 300, .inl tp)), (a2, .inl (cI, 7, .inl rt))]) (va_runV (As := [.ref (kA 2)]) (rest := []) ⟨hx, hb, hml, hown, hts⟩ (c_X3_isWord l _ h0 a1 a2 nb ln kd sa so tp rt 2 hss hso (by decide)) (cwV 1 hts gX3_keyword_X3_isWord rfl rfl rfl (by decide +kernel) ⟨Nat.le_of_ble_eq_true rfl, Nat.le_of_ble_eq_true rfl⟩) (pre_V (ci := 3) (q0 := 0) hB hz hA0 hP hD hS [0, 1, 2] rfl rfl rfl rfl rfl) rfl rfl hl.1 rfl (lv_room (Nat.le_of_ble_eq_true rfl)) dX3_keyword_14 ⟨Nat.zero_le _, Nat.zero_le _⟩) hP hD hS hA [0, 1, 2] [] [0, 1, 2] rfl rfl rfl rfl rfl (fun H locs hP hD hS => ?_)
    refine lv_if_eq (tgt := 22) hx hb dX3_keyword_17 (by decide) (fun c_2 => ?_) (fun c_2 => ?_)
    · refine lv_aload_n hx hb dX3_keyword_22 rfl (lv_at hl 0 rfl) ?_
      refine va_ldcS hx hb hown hB.2.2.1.2.2.2.1 dX3_keyword_23 ?_
      refine k_i (w2 := [(h0, .inr (3, [.ref a1, .ref a2, .int (nI nb), .int (nI ln), .int kd, .int (nI sa), .int (nI so)])), (a1, .inl (cI, 300, .inl tp)), (a2, .inl (cI, 7, .inl rt))]) (va_runV (As := [.ref (kA 3)]) (rest := []) ⟨hx, hb, hml, hown, hts⟩ (c_X3_isWord l _ h0 a1 a2 nb ln kd sa so tp rt 3 hss hso (by decide)) (cwV 1 hts gX3_keyword_X3_isWord rfl rfl rfl (by decide +kernel) ⟨Nat.le_of_ble_eq_true rfl, Nat.le_of_ble_eq_true rfl⟩) (pre_V (ci := 3) (q0 := 0) hB hz hA0 hP hD hS [0, 1, 2] rfl rfl rfl rfl rfl) rfl rfl hl.1 rfl (lv_room (Nat.le_of_ble_eq_true rfl)) dX3_keyword_25 ⟨Nat.zero_le _, Nat.zero_le _⟩) hP hD hS hA [0, 1, 2] [] [0, 1, 2] rfl rfl rfl rfl rfl (fun H locs hP hD hS => ?_)
      refine lv_if_eq (tgt := 33) hx hb dX3_keyword_28 (by decide) (fun c_3 => ?_) (fun c_3 => ?_)
      · refine lv_aload_n hx hb dX3_keyword_33 rfl (lv_at hl 0 rfl) ?_
        refine va_ldcS hx hb hown hB.2.2.1.2.2.2.2.1 dX3_keyword_34 ?_
        refine k_i (w2 := [(h0, .inr (3, [.ref a1, .ref a2, .int (nI nb), .int (nI ln), .int kd, .int (nI sa), .int (nI so)])), (a1, .inl (cI, 300, .inl tp)), (a2, .inl (cI, 7, .inl rt))]) (va_runV (As := [.ref (kA 4)]) (rest := []) ⟨hx, hb, hml, hown, hts⟩ (c_X3_isWord l _ h0 a1 a2 nb ln kd sa so tp rt 4 hss hso (by decide)) (cwV 1 hts gX3_keyword_X3_isWord rfl rfl rfl (by decide +kernel) ⟨Nat.le_of_ble_eq_true rfl, Nat.le_of_ble_eq_true rfl⟩) (pre_V (ci := 3) (q0 := 0) hB hz hA0 hP hD hS [0, 1, 2] rfl rfl rfl rfl rfl) rfl rfl hl.1 rfl (lv_room (Nat.le_of_ble_eq_true rfl)) dX3_keyword_36 ⟨Nat.zero_le _, Nat.zero_le _⟩) hP hD hS hA [0, 1, 2] [] [0, 1, 2] rfl rfl rfl rfl rfl (fun H locs hP hD hS => ?_)
        refine lv_if_eq (tgt := 44) hx hb dX3_keyword_39 (by decide) (fun c_4 => ?_) (fun c_4 => ?_)
        · refine lv_aload_n hx hb dX3_keyword_44 rfl (lv_at hl 0 rfl) ?_
          refine va_ldcS hx hb hown hB.2.2.1.2.2.2.2.2.1 dX3_keyword_45 ?_
          refine k_i (w2 := [(h0, .inr (3, [.ref a1, .ref a2, .int (nI nb), .int (nI ln), .int kd, .int (nI sa), .int (nI so)])), (a1, .inl (cI, 300, .inl tp)), (a2, .inl (cI, 7, .inl rt))]) (va_runV (As := [.ref (kA 5)]) (rest := []) ⟨hx, hb, hml, hown, hts⟩ (c_X3_isWord l _ h0 a1 a2 nb ln kd sa so tp rt 5 hss hso (by decide)) (cwV 1 hts gX3_keyword_X3_isWord rfl rfl rfl (by decide +kernel) ⟨Nat.le_of_ble_eq_true rfl, Nat.le_of_ble_eq_true rfl⟩) (pre_V (ci := 3) (q0 := 0) hB hz hA0 hP hD hS [0, 1, 2] rfl rfl rfl rfl rfl) rfl rfl hl.1 rfl (lv_room (Nat.le_of_ble_eq_true rfl)) dX3_keyword_47 ⟨Nat.zero_le _, Nat.zero_le _⟩) hP hD hS hA [0, 1, 2] [] [0, 1, 2] rfl rfl rfl rfl rfl (fun H locs hP hD hS => ?_)
          refine lv_if_eq (tgt := 55) hx hb dX3_keyword_50 (by decide) (fun c_5 => ?_) (fun c_5 => ?_)
          · refine lv_aload_n hx hb dX3_keyword_55 rfl (lv_at hl 0 rfl) ?_
            refine va_ldcS hx hb hown hB.2.2.1.2.2.2.2.2.2 dX3_keyword_56 ?_
            refine k_i (w2 := [(h0, .inr (3, [.ref a1, .ref a2, .int (nI nb), .int (nI ln), .int kd, .int (nI sa), .int (nI so)])), (a1, .inl (cI, 300, .inl tp)), (a2, .inl (cI, 7, .inl rt))]) (va_runV (As := [.ref (kA 6)]) (rest := []) ⟨hx, hb, hml, hown, hts⟩ (c_X3_isWord l _ h0 a1 a2 nb ln kd sa so tp rt 6 hss hso (by decide)) (cwV 1 hts gX3_keyword_X3_isWord rfl rfl rfl (by decide +kernel) ⟨Nat.le_of_ble_eq_true rfl, Nat.le_of_ble_eq_true rfl⟩) (pre_V (ci := 3) (q0 := 0) hB hz hA0 hP hD hS [0, 1, 2] rfl rfl rfl rfl rfl) rfl rfl hl.1 rfl (lv_room (Nat.le_of_ble_eq_true rfl)) dX3_keyword_58 ⟨Nat.zero_le _, Nat.zero_le _⟩) hP hD hS hA [0, 1, 2] [] [0, 1, 2] rfl rfl rfl rfl rfl (fun H locs hP hD hS => ?_)
            refine lv_if_eq (tgt := 69) hx hb dX3_keyword_61 (by decide) (fun c_6 => ?_) (fun c_6 => ?_)
            · refine lv_iconst (v := (-1)) hx hb dX3_keyword_69 (by decide) ?_
              have er : F_X3_keyword kd sa so tp = (-1) := by rw [F_X3_keyword, if_pos c_1, if_pos c_2, if_pos c_3, if_pos c_4, if_pos c_5, if_pos c_6]
              exact W.iret hx hb hr (fun t ht hW => ⟨⟨_, (), rfl, er.symm, by rw [ht]; exact hP, hD⟩, hS.F ht⟩) hS.2.2 dX3_keyword_70
            · refine lv_bipush (v := 6) hx hb dX3_keyword_64 (by decide) ?_
              refine lv_goto (tgt := 70) hx hb dX3_keyword_66 (by decide) ?_
              have er : F_X3_keyword kd sa so tp = 6 := by rw [F_X3_keyword, if_pos c_1, if_pos c_2, if_pos c_3, if_pos c_4, if_pos c_5, if_neg c_6]
              exact W.iret hx hb hr (fun t ht hW => ⟨⟨_, (), rfl, er.symm, by rw [ht]; exact hP, hD⟩, hS.F ht⟩) hS.2.2 dX3_keyword_70
          · refine lv_iconst (v := 5) hx hb dX3_keyword_53 (by decide) ?_
            have er : F_X3_keyword kd sa so tp = 5 := by rw [F_X3_keyword, if_pos c_1, if_pos c_2, if_pos c_3, if_pos c_4, if_neg c_5]
            exact W.iret hx hb hr (fun t ht hW => ⟨⟨_, (), rfl, er.symm, by rw [ht]; exact hP, hD⟩, hS.F ht⟩) hS.2.2 dX3_keyword_54
        · refine lv_iconst (v := 4) hx hb dX3_keyword_42 (by decide) ?_
          have er : F_X3_keyword kd sa so tp = 4 := by rw [F_X3_keyword, if_pos c_1, if_pos c_2, if_pos c_3, if_neg c_4]
          exact W.iret hx hb hr (fun t ht hW => ⟨⟨_, (), rfl, er.symm, by rw [ht]; exact hP, hD⟩, hS.F ht⟩) hS.2.2 dX3_keyword_43
      · refine lv_iconst (v := 3) hx hb dX3_keyword_31 (by decide) ?_
        have er : F_X3_keyword kd sa so tp = 3 := by rw [F_X3_keyword, if_pos c_1, if_pos c_2, if_neg c_3]
        exact W.iret hx hb hr (fun t ht hW => ⟨⟨_, (), rfl, er.symm, by rw [ht]; exact hP, hD⟩, hS.F ht⟩) hS.2.2 dX3_keyword_32
    · refine lv_iconst (v := 2) hx hb dX3_keyword_20 (by decide) ?_
      have er : F_X3_keyword kd sa so tp = 2 := by rw [F_X3_keyword, if_pos c_1, if_neg c_2]
      exact W.iret hx hb hr (fun t ht hW => ⟨⟨_, (), rfl, er.symm, by rw [ht]; exact hP, hD⟩, hS.F ht⟩) hS.2.2 dX3_keyword_21
  · refine lv_iconst (v := 0) hx hb dX3_keyword_9 (by decide) ?_
    have er : F_X3_keyword kd sa so tp = 0 := by rw [F_X3_keyword, if_neg c_1]
    exact W.iret hx hb hr (fun t ht hW => ⟨⟨_, (), rfl, er.symm, by rw [ht]; exact hP, hD⟩, hS.F ht⟩) hS.2.2 dX3_keyword_10

def F_X3_scan_0_4 (ln : Nat) (so : Nat) (tp : Nat → Int32) : Int32 :=
  if (nI (sk (bl tp) ln so)) < (nI ln) then F_X3_kindOf (tp (sk (bl tp) ln so)) else
  0
def F_X3_scan_0_5 (ln : Nat) (so : Nat) (tp : Nat → Int32) : Nat :=
  if (nI (sk (bl tp) ln so)) < (nI ln) then sk (bl tp) ln so else
  sk (bl tp) ln so
def F_X3_scan_0_6 (ln : Nat) (so : Nat) (tp : Nat → Int32) : Nat :=
  if (nI (sk (bl tp) ln so)) < (nI ln) then skE tp (F_X3_kindOf (tp (sk (bl tp) ln so))) ln (sk (bl tp) ln so + 1) else
  sk (bl tp) ln so
set_option maxHeartbeats 4000000 in
set_option maxRecDepth 100000 in
theorem c_X3_scan (l : Launch) {D : va_G} {cI cZ cB : ClassId} {au : Nat} {kA kV : Nat → Nat} {z0 : Nat} (sz : Nat) (h0 : Nat) (a1 : Nat) (a2 : Nat) (nb : Nat) (ln : Nat) (kd : Int32) (sa : Nat) (so : Nat) (tp : Nat → Int32) (rt : Nat → Int32) (hso : so ≤ ln) (hln : ln ≤ 300) : Met l yX3_scan wsX3_scan ({ frames := 2, cells := 0, slots := 0, locals := 42 }) (va_Pc [.ref h0] (PRE D cI cZ cB au kA kV z0 sz [(h0, .inr (3, [.ref a1, .ref a2, .int (nI nb), .int (nI ln), .int kd, .int (nI sa), .int (nI so)])), (a1, .inl (cI, 300, .inl tp)), (a2, .inl (cI, 7, .inl rt))])) (QV D [(h0, .inr (3, [.ref a1, .ref a2, .int (nI nb), .int (nI ln), .int kd, .int (nI sa), .int (nI so)])), (a1, .inl (cI, 300, .inl tp)), (a2, .inl (cI, 7, .inl rt))] sz [(h0, .inr (3, [.ref a1, .ref a2, .int (nI nb), .int (nI ln), .int (F_X3_scan_0_4 ln so tp), .int (nI (F_X3_scan_0_5 ln so tp)), .int (nI (F_X3_scan_0_6 ln so tp))])), (a1, .inl (cI, 300, .inl tp)), (a2, .inl (cI, 7, .inl rt))]) 0 0 (va_A [(h0, .inr (3, [.ref a1, .ref a2, .int (nI nb), .int (nI ln), .int kd, .int (nI sa), .int (nI so)])), (a1, .inl (cI, 300, .inl tp)), (a2, .inl (cI, 7, .inl rt))] sz) := by
  refine Met.ofW (cc := cX3_scan) (maxL := 1) (ret := none) (by decide) rfl ?_
  intro p e s m args below meth c s₁ B hml hv
  obtain ⟨rfl, hsz, hz, hP, hD0, hB⟩ := hv
  have hx := B.exec
  have hb := B.bytes
  have hr := B.returns
  have hts := atoms_spec (ws := wsX3_scan) B.pre
  have hown : s.vm.findClass RX3 = some m.cls := findClass_of_methodNamed B.named
  have hlocks := B.notSynchronized
  subst hsz
  have hD := hD0.self (sz := s.heap.size)
  have hA0 := va_A0 hD0 hz
  unfold QV
  generalize hAe : va_A [(h0, .inr (3, [.ref a1, .ref a2, .int (nI nb), .int (nI ln), .int kd, .int (nI sa), .int (nI so)])), (a1, .inl (cI, 300, .inl tp)), (a2, .inl (cI, 7, .inl rt))] s.heap.size = A at hD hA0 ⊢
  have hA : ∀ q : Nat, s.heap.size ≤ q → A q := fun q h => by rw [← hAe]; exact Or.inr h
  have hS : va_S A s.heap s.heap [] := va_S.rf
  have hiX3 : ∀ w ∈ wsX30, w ∈ wsX3_scan := fun w h => List.mem_cons_of_mem _ (List.mem_append_right _ h)
  have hl := lv_entry ([.ref h0]) (n := 1) (Nat.le_of_ble_eq_true rfl)
  rw [lg_entry_eq]
  generalize (lg_sl ([.ref h0]) ++ List.replicate (1 - (lg_sl ([.ref h0])).length) Slot.unset).toArray = ls at hl ⊢
  have hl : lv_has ls 1 [(0, .ref h0)] := hl
  refine lv_aload_n hx hb dX3_scan_0 rfl (lv_at hl 0 rfl) ?_
  refine lv_aload_n hx hb dX3_scan_1 rfl (lv_at hl 0 rfl) ?_
  refine va_get (D := D) (ci := 3) (v := .int (nI so)) (C := RX3) (T := TX3) (N := 7) hx hb hts hiX3 hown hB.1 hP 0 rfl rfl 6 (by decide) (hts _ (List.mem_of_getElem? (i := 1) rfl)) (fun _ h9 => h9) rfl dX3_scan_2 ?_
  refine pf (w2 := [(h0, .inr (3, [.ref a1, .ref a2, .int (nI nb), .int (nI ln), .int kd, .int (nI so), .int (nI so)])), (a1, .inl (cI, 300, .inl tp)), (a2, .inl (cI, 7, .inl rt))]) (ci := 3) (C := RX3) (T := TX3) (N := 7) hx hb hts hiX3 tyX3 tyX3_ok nmX3 hown hB.1 hP hD hS 0 rfl rfl 5 (by decide) (hts _ (List.mem_of_getElem? (i := 2) rfl)) rfl rfl rfl rfl (Nat.le_of_ble_eq_true rfl) rfl dX3_scan_5 (fun H locs hP hD hS => ?_)
  refine joinM (nL := 1) (A := A) (D := D) (pc2 := 47) (st2 := []) [(h0, .inr (3, [.ref a1, .ref a2, .int (nI nb), .int (nI ln), .int kd, .int (nI (sk (bl tp) ln so)), .int (nI so)])), (a1, .inl (cI, 300, .inl tp)), (a2, .inl (cI, 7, .inl rt))] [(0, .ref h0)] ?_ ?_
  · intro H locs ls hP hD hS hl
    have hS1 := (sk_le (b := bl tp) hso).1
    refine lv_aload_n hx hb dX3_scan_47 rfl (lv_at hl 0 rfl) ?_
    refine lv_aload_n hx hb dX3_scan_48 rfl (lv_at hl 0 rfl) ?_
    refine va_get (D := D) (ci := 3) (v := .int (nI (sk (bl tp) ln so))) (C := RX3) (T := TX3) (N := 7) hx hb hts hiX3 hown hB.1 hP 0 rfl rfl 5 (by decide) (hts _ (List.mem_of_getElem? (i := 2) rfl)) (fun _ h9 => h9) rfl dX3_scan_49 ?_
    refine pf (w2 := [(h0, .inr (3, [.ref a1, .ref a2, .int (nI nb), .int (nI ln), .int kd, .int (nI (sk (bl tp) ln so)), .int (nI (sk (bl tp) ln so))])), (a1, .inl (cI, 300, .inl tp)), (a2, .inl (cI, 7, .inl rt))]) (ci := 3) (C := RX3) (T := TX3) (N := 7) hx hb hts hiX3 tyX3 tyX3_ok nmX3 hown hB.1 hP hD hS 0 rfl rfl 6 (by decide) (hts _ (List.mem_of_getElem? (i := 1) rfl)) rfl rfl rfl rfl (Nat.le_of_ble_eq_true rfl) rfl dX3_scan_52 (fun H locs hP hD hS => ?_)
    refine lv_aload_n hx hb dX3_scan_55 rfl (lv_at hl 0 rfl) ?_
    refine va_get (D := D) (ci := 3) (v := .int (nI (sk (bl tp) ln so))) (C := RX3) (T := TX3) (N := 7) hx hb hts hiX3 hown hB.1 hP 0 rfl rfl 5 (by decide) (hts _ (List.mem_of_getElem? (i := 2) rfl)) (fun _ h9 => h9) rfl dX3_scan_56 ?_
    refine lv_aload_n hx hb dX3_scan_59 rfl (lv_at hl 0 rfl) ?_
    refine va_get (D := D) (ci := 3) (v := .int (nI ln)) (C := RX3) (T := TX3) (N := 7) hx hb hts hiX3 hown hB.1 hP 0 rfl rfl 3 (by decide) (hts _ (List.mem_of_getElem? (i := 3) rfl)) (fun _ h9 => h9) rfl dX3_scan_60 ?_
    refine lv_icmp_lt (tgt := 72) hx hb dX3_scan_63 (by decide) (fun c_1 => ?_) (fun c_1 => ?_)
    · have hS2 := (nI_ltI (by omega) (by omega)).mp c_1
      refine lv_aload_n hx hb dX3_scan_72 rfl (lv_at hl 0 rfl) ?_
      refine lv_aload_n hx hb dX3_scan_73 rfl (lv_at hl 0 rfl) ?_
      refine va_get (D := D) (ci := 3) (v := .ref a1) (C := RX3) (T := TX3) (N := 7) hx hb hts hiX3 hown hB.1 hP 0 rfl rfl 0 (by decide) (hts _ (List.mem_of_getElem? (i := 4) rfl)) (fun _ h9 => h9) rfl dX3_scan_74 ?_
      refine lv_aload_n hx hb dX3_scan_77 rfl (lv_at hl 0 rfl) ?_
      refine va_get (D := D) (ci := 3) (v := .int (nI (sk (bl tp) ln so))) (C := RX3) (T := TX3) (N := 7) hx hb hts hiX3 hown hB.1 hP 0 rfl rfl 5 (by decide) (hts _ (List.mem_of_getElem? (i := 2) rfl)) (fun _ h9 => h9) rfl dX3_scan_78 ?_
      refine ra_i hx hb hB.1 hP 1 rfl (sk (bl tp) ln so) rfl (by omega) (by decide) dX3_scan_81 ?_
      refine k_i (w2 := [(h0, .inr (3, [.ref a1, .ref a2, .int (nI nb), .int (nI ln), .int kd, .int (nI (sk (bl tp) ln so)), .int (nI (sk (bl tp) ln so))])), (a1, .inl (cI, 300, .inl tp)), (a2, .inl (cI, 7, .inl rt))]) (va_runS (As := [.int (tp (sk (bl tp) ln so))]) (rest := [.ref h0]) ⟨hx, hb, hml, hown, hts⟩ (c_X3_kindOf l _ (tp (sk (bl tp) ln so))) (va_cwS 1 hts gX3_scan_X3_kindOf rfl rfl rfl (by decide +kernel) ⟨Nat.le_of_ble_eq_true rfl, Nat.le_of_ble_eq_true rfl⟩) (pre_S hB hz hA0 hP hD hS [] rfl rfl) rfl rfl hl.1 rfl (lv_room (Nat.le_of_ble_eq_true rfl)) dX3_scan_82 ⟨Nat.zero_le _, Nat.zero_le _⟩) hP hD hS hA [] [0, 1, 2] [0, 1, 2] rfl rfl rfl rfl rfl (fun H locs hP hD hS => ?_)
      refine pf (w2 := [(h0, .inr (3, [.ref a1, .ref a2, .int (nI nb), .int (nI ln), .int (F_X3_kindOf (tp (sk (bl tp) ln so))), .int (nI (sk (bl tp) ln so)), .int (nI (sk (bl tp) ln so))])), (a1, .inl (cI, 300, .inl tp)), (a2, .inl (cI, 7, .inl rt))]) (ci := 3) (C := RX3) (T := TX3) (N := 7) hx hb hts hiX3 tyX3 tyX3_ok nmX3 hown hB.1 hP hD hS 0 rfl rfl 4 (by decide) (hts _ (List.mem_of_getElem? (i := 5) rfl)) rfl rfl rfl rfl (Nat.le_of_ble_eq_true rfl) rfl dX3_scan_85 (fun H locs hP hD hS => ?_)
      refine lv_aload_n hx hb dX3_scan_88 rfl (lv_at hl 0 rfl) ?_
      refine lv_dup hx hb dX3_scan_89 rfl ?_
      refine va_get (D := D) (ci := 3) (v := .int (nI (sk (bl tp) ln so))) (C := RX3) (T := TX3) (N := 7) hx hb hts hiX3 hown hB.1 hP 0 rfl rfl 6 (by decide) (hts _ (List.mem_of_getElem? (i := 1) rfl)) (fun _ h9 => h9) rfl dX3_scan_90 ?_
      refine lv_iconst (v := 1) hx hb dX3_scan_93 (by decide) ?_
      refine lv_iadd hx hb dX3_scan_94 ?_
      rw [show (nI (sk (bl tp) ln so)) + 1 = nI ((sk (bl tp) ln so) + 1) from (nx_add rfl rfl)]
      refine pf (w2 := [(h0, .inr (3, [.ref a1, .ref a2, .int (nI nb), .int (nI ln), .int (F_X3_kindOf (tp (sk (bl tp) ln so))), .int (nI (sk (bl tp) ln so)), .int (nI ((sk (bl tp) ln so) + 1))])), (a1, .inl (cI, 300, .inl tp)), (a2, .inl (cI, 7, .inl rt))]) (ci := 3) (C := RX3) (T := TX3) (N := 7) hx hb hts hiX3 tyX3 tyX3_ok nmX3 hown hB.1 hP hD hS 0 rfl rfl 6 (by decide) (hts _ (List.mem_of_getElem? (i := 1) rfl)) rfl rfl rfl rfl (Nat.le_of_ble_eq_true rfl) rfl dX3_scan_95 (fun H locs hP hD hS => ?_)
      refine joinM (nL := 1) (A := A) (D := D) (pc2 := 157) (st2 := []) [(h0, .inr (3, [.ref a1, .ref a2, .int (nI nb), .int (nI ln), .int (F_X3_kindOf (tp (sk (bl tp) ln so))), .int (nI (sk (bl tp) ln so)), .int (nI (skE tp (F_X3_kindOf (tp (sk (bl tp) ln so))) ln (sk (bl tp) ln so + 1)))])), (a1, .inl (cI, 300, .inl tp)), (a2, .inl (cI, 7, .inl rt))] [(0, .ref h0)] ?_ ?_
      · intro H locs ls hP hD hS hl
        have e0_4 : F_X3_scan_0_4 ln so tp = F_X3_kindOf (tp (sk (bl tp) ln so)) := by rw [F_X3_scan_0_4, if_pos c_1]
        have e0_5 : nI (F_X3_scan_0_5 ln so tp) = nI (sk (bl tp) ln so) := by rw [F_X3_scan_0_5, if_pos c_1]
        have e0_6 : nI (F_X3_scan_0_6 ln so tp) = nI (skE tp (F_X3_kindOf (tp (sk (bl tp) ln so))) ln (sk (bl tp) ln so + 1)) := by rw [F_X3_scan_0_6, if_pos c_1]
        exact W.vret hx hb hr (fun t ht hW => ⟨⟨(), rfl, trivial, by rw [ht, e0_4, e0_5, e0_6]; exact hP, by rw [e0_4, e0_5, e0_6]; exact hD⟩, hS.F ht⟩) hS.2.2 dX3_scan_157
      · intro J_157
        refine lpM (σ := Nat) (fun y => y ≤ ln ∧ skE tp (F_X3_kindOf (tp (sk (bl tp) ln so))) ln (sk (bl tp) ln so + 1) = skE tp (F_X3_kindOf (tp (sk (bl tp) ln so))) ln y) (fun y => ln - y) (fun y => [(h0, .inr (3, [.ref a1, .ref a2, .int (nI nb), .int (nI ln), .int (F_X3_kindOf (tp (sk (bl tp) ln so))), .int (nI (sk (bl tp) ln so)), .int (nI y)])), (a1, .inl (cI, 300, .inl tp)), (a2, .inl (cI, 7, .inl rt))]) (fun y => [(0, .ref h0)]) (sk (bl tp) ln so + 1) ⟨hS2, rfl⟩ hP hD hS (lv_sub hl [0] rfl) ?_
        intro y ⟨hq1, hq2⟩ ih_y H locs ls hP hD hS hl
        have hP : va_P D vwCl [(h0, .inr (3, [.ref a1, .ref a2, .int (nI nb), .int (nI ln), .int (F_X3_kindOf (tp (sk (bl tp) ln so))), .int (nI (sk (bl tp) ln so)), .int (nI y)])), (a1, .inl (cI, 300, .inl tp)), (a2, .inl (cI, 7, .inl rt))] H := hP
        have hD : va_D A [(h0, .inr (3, [.ref a1, .ref a2, .int (nI nb), .int (nI ln), .int (F_X3_kindOf (tp (sk (bl tp) ln so))), .int (nI (sk (bl tp) ln so)), .int (nI y)])), (a1, .inl (cI, 300, .inl tp)), (a2, .inl (cI, 7, .inl rt))] := hD
        have hl : lv_has ls 1 [(0, .ref h0)] := hl
        refine lv_aload_n hx hb dX3_scan_98 rfl (lv_at hl 0 rfl) ?_
        refine va_get (D := D) (ci := 3) (v := .int (F_X3_kindOf (tp (sk (bl tp) ln so)))) (C := RX3) (T := TX3) (N := 7) hx hb hts hiX3 hown hB.1 hP 0 rfl rfl 4 (by decide) (hts _ (List.mem_of_getElem? (i := 5) rfl)) (fun _ h9 => h9) rfl dX3_scan_99 ?_
        refine lv_iconst (v := 1) hx hb dX3_scan_102 (by decide) ?_
        refine lv_icmp_eq (tgt := 114) hx hb dX3_scan_103 (by decide) (fun c_2 => ?_) (fun c_2 => ?_)
        · have hK12 := Or.inl (b := F_X3_kindOf (tp (sk (bl tp) ln so)) = 2) c_2
          refine lv_aload_n hx hb dX3_scan_114 rfl (lv_at hl 0 rfl) ?_
          refine va_get (D := D) (ci := 3) (v := .int (nI y)) (C := RX3) (T := TX3) (N := 7) hx hb hts hiX3 hown hB.1 hP 0 rfl rfl 6 (by decide) (hts _ (List.mem_of_getElem? (i := 1) rfl)) (fun _ h9 => h9) rfl dX3_scan_115 ?_
          refine lv_aload_n hx hb dX3_scan_118 rfl (lv_at hl 0 rfl) ?_
          refine va_get (D := D) (ci := 3) (v := .int (nI ln)) (C := RX3) (T := TX3) (N := 7) hx hb hts hiX3 hown hB.1 hP 0 rfl rfl 3 (by decide) (hts _ (List.mem_of_getElem? (i := 3) rfl)) (fun _ h9 => h9) rfl dX3_scan_119 ?_
          refine lv_icmp_ge (tgt := 157) hx hb dX3_scan_122 (by decide) (fun c_3 => ?_) (fun c_3 => ?_)
          · have e157 := hq2.trans (skE_end (by have := le_ex (by omega) hq1 c_3; omega))
            subst e157
            exact J_157 _ _ _ hP hD hS (lv_sub hl [0] rfl)
          · have hlt := le_go (by omega) hq1 c_3
            refine lv_aload_n hx hb dX3_scan_125 rfl (lv_at hl 0 rfl) ?_
            refine va_get (D := D) (ci := 3) (v := .ref a1) (C := RX3) (T := TX3) (N := 7) hx hb hts hiX3 hown hB.1 hP 0 rfl rfl 0 (by decide) (hts _ (List.mem_of_getElem? (i := 4) rfl)) (fun _ h9 => h9) rfl dX3_scan_126 ?_
            refine lv_aload_n hx hb dX3_scan_129 rfl (lv_at hl 0 rfl) ?_
            refine va_get (D := D) (ci := 3) (v := .int (nI y)) (C := RX3) (T := TX3) (N := 7) hx hb hts hiX3 hown hB.1 hP 0 rfl rfl 6 (by decide) (hts _ (List.mem_of_getElem? (i := 1) rfl)) (fun _ h9 => h9) rfl dX3_scan_130 ?_
            refine ra_i hx hb hB.1 hP 1 rfl y rfl (by omega) (by decide) dX3_scan_133 ?_
            refine k_i (w2 := [(h0, .inr (3, [.ref a1, .ref a2, .int (nI nb), .int (nI ln), .int (F_X3_kindOf (tp (sk (bl tp) ln so))), .int (nI (sk (bl tp) ln so)), .int (nI y)])), (a1, .inl (cI, 300, .inl tp)), (a2, .inl (cI, 7, .inl rt))]) (va_runS (As := [.int (tp y)]) (rest := []) ⟨hx, hb, hml, hown, hts⟩ (c_X3_kindOf l _ (tp y)) (va_cwS 1 hts gX3_scan_X3_kindOf rfl rfl rfl (by decide +kernel) ⟨Nat.le_of_ble_eq_true rfl, Nat.le_of_ble_eq_true rfl⟩) (pre_S hB hz hA0 hP hD hS [] rfl rfl) rfl rfl hl.1 rfl (lv_room (Nat.le_of_ble_eq_true rfl)) dX3_scan_134 ⟨Nat.zero_le _, Nat.zero_le _⟩) hP hD hS hA [] [0, 1, 2] [0, 1, 2] rfl rfl rfl rfl rfl (fun H locs hP hD hS => ?_)
            refine lv_aload_n hx hb dX3_scan_137 rfl (lv_at hl 0 rfl) ?_
            refine va_get (D := D) (ci := 3) (v := .int (F_X3_kindOf (tp (sk (bl tp) ln so)))) (C := RX3) (T := TX3) (N := 7) hx hb hts hiX3 hown hB.1 hP 0 rfl rfl 4 (by decide) (hts _ (List.mem_of_getElem? (i := 5) rfl)) (fun _ h9 => h9) rfl dX3_scan_138 ?_
            refine lv_icmp_ne (tgt := 157) hx hb dX3_scan_141 (by decide) (fun c_4 => ?_) (fun c_4 => ?_)
            · have e157 := hq2.trans (skE_stop c_4)
              subst e157
              exact J_157 _ _ _ hP hD hS (lv_sub hl [0] rfl)
            · have hkk := c_4
              refine lv_aload_n hx hb dX3_scan_144 rfl (lv_at hl 0 rfl) ?_
              refine lv_dup hx hb dX3_scan_145 rfl ?_
              refine va_get (D := D) (ci := 3) (v := .int (nI y)) (C := RX3) (T := TX3) (N := 7) hx hb hts hiX3 hown hB.1 hP 0 rfl rfl 6 (by decide) (hts _ (List.mem_of_getElem? (i := 1) rfl)) (fun _ h9 => h9) rfl dX3_scan_146 ?_
              refine lv_iconst (v := 1) hx hb dX3_scan_149 (by decide) ?_
              refine lv_iadd hx hb dX3_scan_150 ?_
              rw [show (nI y) + 1 = nI (y + 1) from (nx_add rfl rfl)]
              refine pf (w2 := [(h0, .inr (3, [.ref a1, .ref a2, .int (nI nb), .int (nI ln), .int (F_X3_kindOf (tp (sk (bl tp) ln so))), .int (nI (sk (bl tp) ln so)), .int (nI (y + 1))])), (a1, .inl (cI, 300, .inl tp)), (a2, .inl (cI, 7, .inl rt))]) (ci := 3) (C := RX3) (T := TX3) (N := 7) hx hb hts hiX3 tyX3 tyX3_ok nmX3 hown hB.1 hP hD hS 0 rfl rfl 6 (by decide) (hts _ (List.mem_of_getElem? (i := 1) rfl)) rfl rfl rfl rfl (Nat.le_of_ble_eq_true rfl) rfl dX3_scan_151 (fun H locs hP hD hS => ?_)
              refine lv_goto (tgt := 98) hx hb dX3_scan_154 (by decide) ?_
              exact ih_y (y + 1) ⟨by omega, hq2.trans (skE_step hK12 hlt hkk)⟩ (by omega) _ _ _ hP hD hS (lv_sub hl [0] rfl)
        · refine lv_aload_n hx hb dX3_scan_106 rfl (lv_at hl 0 rfl) ?_
          refine va_get (D := D) (ci := 3) (v := .int (F_X3_kindOf (tp (sk (bl tp) ln so)))) (C := RX3) (T := TX3) (N := 7) hx hb hts hiX3 hown hB.1 hP 0 rfl rfl 4 (by decide) (hts _ (List.mem_of_getElem? (i := 5) rfl)) (fun _ h9 => h9) rfl dX3_scan_107 ?_
          refine lv_iconst (v := 2) hx hb dX3_scan_110 (by decide) ?_
          refine lv_icmp_ne (tgt := 157) hx hb dX3_scan_111 (by decide) (fun c_5 => ?_) (fun c_5 => ?_)
          · have e157 := hq2.trans (skE_no c_2 c_5)
            subst e157
            exact J_157 _ _ _ hP hD hS (lv_sub hl [0] rfl)
          · have hK12 := Or.inr (a := F_X3_kindOf (tp (sk (bl tp) ln so)) = 1) c_5
            refine lv_aload_n hx hb dX3_scan_114 rfl (lv_at hl 0 rfl) ?_
            refine va_get (D := D) (ci := 3) (v := .int (nI y)) (C := RX3) (T := TX3) (N := 7) hx hb hts hiX3 hown hB.1 hP 0 rfl rfl 6 (by decide) (hts _ (List.mem_of_getElem? (i := 1) rfl)) (fun _ h9 => h9) rfl dX3_scan_115 ?_
            refine lv_aload_n hx hb dX3_scan_118 rfl (lv_at hl 0 rfl) ?_
            refine va_get (D := D) (ci := 3) (v := .int (nI ln)) (C := RX3) (T := TX3) (N := 7) hx hb hts hiX3 hown hB.1 hP 0 rfl rfl 3 (by decide) (hts _ (List.mem_of_getElem? (i := 3) rfl)) (fun _ h9 => h9) rfl dX3_scan_119 ?_
            refine lv_icmp_ge (tgt := 157) hx hb dX3_scan_122 (by decide) (fun c_6 => ?_) (fun c_6 => ?_)
            · have e157 := hq2.trans (skE_end (by have := le_ex (by omega) hq1 c_6; omega))
              subst e157
              exact J_157 _ _ _ hP hD hS (lv_sub hl [0] rfl)
            · have hlt := le_go (by omega) hq1 c_6
              refine lv_aload_n hx hb dX3_scan_125 rfl (lv_at hl 0 rfl) ?_
              refine va_get (D := D) (ci := 3) (v := .ref a1) (C := RX3) (T := TX3) (N := 7) hx hb hts hiX3 hown hB.1 hP 0 rfl rfl 0 (by decide) (hts _ (List.mem_of_getElem? (i := 4) rfl)) (fun _ h9 => h9) rfl dX3_scan_126 ?_
              refine lv_aload_n hx hb dX3_scan_129 rfl (lv_at hl 0 rfl) ?_
              refine va_get (D := D) (ci := 3) (v := .int (nI y)) (C := RX3) (T := TX3) (N := 7) hx hb hts hiX3 hown hB.1 hP 0 rfl rfl 6 (by decide) (hts _ (List.mem_of_getElem? (i := 1) rfl)) (fun _ h9 => h9) rfl dX3_scan_130 ?_
              refine ra_i hx hb hB.1 hP 1 rfl y rfl (by omega) (by decide) dX3_scan_133 ?_
              refine k_i (w2 := [(h0, .inr (3, [.ref a1, .ref a2, .int (nI nb), .int (nI ln), .int (F_X3_kindOf (tp (sk (bl tp) ln so))), .int (nI (sk (bl tp) ln so)), .int (nI y)])), (a1, .inl (cI, 300, .inl tp)), (a2, .inl (cI, 7, .inl rt))]) (va_runS (As := [.int (tp y)]) (rest := []) ⟨hx, hb, hml, hown, hts⟩ (c_X3_kindOf l _ (tp y)) (va_cwS 1 hts gX3_scan_X3_kindOf rfl rfl rfl (by decide +kernel) ⟨Nat.le_of_ble_eq_true rfl, Nat.le_of_ble_eq_true rfl⟩) (pre_S hB hz hA0 hP hD hS [] rfl rfl) rfl rfl hl.1 rfl (lv_room (Nat.le_of_ble_eq_true rfl)) dX3_scan_134 ⟨Nat.zero_le _, Nat.zero_le _⟩) hP hD hS hA [] [0, 1, 2] [0, 1, 2] rfl rfl rfl rfl rfl (fun H locs hP hD hS => ?_)
              refine lv_aload_n hx hb dX3_scan_137 rfl (lv_at hl 0 rfl) ?_
              refine va_get (D := D) (ci := 3) (v := .int (F_X3_kindOf (tp (sk (bl tp) ln so)))) (C := RX3) (T := TX3) (N := 7) hx hb hts hiX3 hown hB.1 hP 0 rfl rfl 4 (by decide) (hts _ (List.mem_of_getElem? (i := 5) rfl)) (fun _ h9 => h9) rfl dX3_scan_138 ?_
              refine lv_icmp_ne (tgt := 157) hx hb dX3_scan_141 (by decide) (fun c_7 => ?_) (fun c_7 => ?_)
              · have e157 := hq2.trans (skE_stop c_7)
                subst e157
                exact J_157 _ _ _ hP hD hS (lv_sub hl [0] rfl)
              · have hkk := c_7
                refine lv_aload_n hx hb dX3_scan_144 rfl (lv_at hl 0 rfl) ?_
                refine lv_dup hx hb dX3_scan_145 rfl ?_
                refine va_get (D := D) (ci := 3) (v := .int (nI y)) (C := RX3) (T := TX3) (N := 7) hx hb hts hiX3 hown hB.1 hP 0 rfl rfl 6 (by decide) (hts _ (List.mem_of_getElem? (i := 1) rfl)) (fun _ h9 => h9) rfl dX3_scan_146 ?_
                refine lv_iconst (v := 1) hx hb dX3_scan_149 (by decide) ?_
                refine lv_iadd hx hb dX3_scan_150 ?_
                rw [show (nI y) + 1 = nI (y + 1) from (nx_add rfl rfl)]
                refine pf (w2 := [(h0, .inr (3, [.ref a1, .ref a2, .int (nI nb), .int (nI ln), .int (F_X3_kindOf (tp (sk (bl tp) ln so))), .int (nI (sk (bl tp) ln so)), .int (nI (y + 1))])), (a1, .inl (cI, 300, .inl tp)), (a2, .inl (cI, 7, .inl rt))]) (ci := 3) (C := RX3) (T := TX3) (N := 7) hx hb hts hiX3 tyX3 tyX3_ok nmX3 hown hB.1 hP hD hS 0 rfl rfl 6 (by decide) (hts _ (List.mem_of_getElem? (i := 1) rfl)) rfl rfl rfl rfl (Nat.le_of_ble_eq_true rfl) rfl dX3_scan_151 (fun H locs hP hD hS => ?_)
                refine lv_goto (tgt := 98) hx hb dX3_scan_154 (by decide) ?_
                exact ih_y (y + 1) ⟨by omega, hq2.trans (skE_step hK12 hlt hkk)⟩ (by omega) _ _ _ hP hD hS (lv_sub hl [0] rfl)
    · refine lv_aload_n hx hb dX3_scan_66 rfl (lv_at hl 0 rfl) ?_
      refine lv_iconst (v := 0) hx hb dX3_scan_67 (by decide) ?_
      refine pf (w2 := [(h0, .inr (3, [.ref a1, .ref a2, .int (nI nb), .int (nI ln), .int 0, .int (nI (sk (bl tp) ln so)), .int (nI (sk (bl tp) ln so))])), (a1, .inl (cI, 300, .inl tp)), (a2, .inl (cI, 7, .inl rt))]) (ci := 3) (C := RX3) (T := TX3) (N := 7) hx hb hts hiX3 tyX3 tyX3_ok nmX3 hown hB.1 hP hD hS 0 rfl rfl 4 (by decide) (hts _ (List.mem_of_getElem? (i := 5) rfl)) rfl rfl rfl rfl (Nat.le_of_ble_eq_true rfl) rfl dX3_scan_68 (fun H locs hP hD hS => ?_)
      have e0_4 : F_X3_scan_0_4 ln so tp = 0 := by rw [F_X3_scan_0_4, if_neg c_1]
      have e0_5 : nI (F_X3_scan_0_5 ln so tp) = nI (sk (bl tp) ln so) := by rw [F_X3_scan_0_5, if_neg c_1]
      have e0_6 : nI (F_X3_scan_0_6 ln so tp) = nI (sk (bl tp) ln so) := by rw [F_X3_scan_0_6, if_neg c_1]
      exact W.vret hx hb hr (fun t ht hW => ⟨⟨(), rfl, trivial, by rw [ht, e0_4, e0_5, e0_6]; exact hP, by rw [e0_4, e0_5, e0_6]; exact hD⟩, hS.F ht⟩) hS.2.2 dX3_scan_71
  · intro J_47
    refine lpM (σ := Nat) (fun x => x ≤ ln ∧ sk (bl tp) ln so = sk (bl tp) ln x) (fun x => ln - x) (fun x => [(h0, .inr (3, [.ref a1, .ref a2, .int (nI nb), .int (nI ln), .int kd, .int (nI x), .int (nI so)])), (a1, .inl (cI, 300, .inl tp)), (a2, .inl (cI, 7, .inl rt))]) (fun x => [(0, .ref h0)]) so ⟨hso, rfl⟩ hP hD hS (lv_sub hl [0] rfl) ?_
    intro x ⟨hq1, hq2⟩ ih_x H locs ls hP hD hS hl
    have hP : va_P D vwCl [(h0, .inr (3, [.ref a1, .ref a2, .int (nI nb), .int (nI ln), .int kd, .int (nI x), .int (nI so)])), (a1, .inl (cI, 300, .inl tp)), (a2, .inl (cI, 7, .inl rt))] H := hP
    have hD : va_D A [(h0, .inr (3, [.ref a1, .ref a2, .int (nI nb), .int (nI ln), .int kd, .int (nI x), .int (nI so)])), (a1, .inl (cI, 300, .inl tp)), (a2, .inl (cI, 7, .inl rt))] := hD
    have hl : lv_has ls 1 [(0, .ref h0)] := hl
    refine lv_aload_n hx hb dX3_scan_8 rfl (lv_at hl 0 rfl) ?_
    refine va_get (D := D) (ci := 3) (v := .int (nI x)) (C := RX3) (T := TX3) (N := 7) hx hb hts hiX3 hown hB.1 hP 0 rfl rfl 5 (by decide) (hts _ (List.mem_of_getElem? (i := 2) rfl)) (fun _ h9 => h9) rfl dX3_scan_9 ?_
    refine lv_aload_n hx hb dX3_scan_12 rfl (lv_at hl 0 rfl) ?_
    refine va_get (D := D) (ci := 3) (v := .int (nI ln)) (C := RX3) (T := TX3) (N := 7) hx hb hts hiX3 hown hB.1 hP 0 rfl rfl 3 (by decide) (hts _ (List.mem_of_getElem? (i := 3) rfl)) (fun _ h9 => h9) rfl dX3_scan_13 ?_
    refine lv_icmp_ge (tgt := 47) hx hb dX3_scan_16 (by decide) (fun c_8 => ?_) (fun c_8 => ?_)
    · have e47 : sk (bl tp) ln so = x := hq2.trans (sk_end (by have := le_ex (by omega) hq1 c_8; omega))
      subst e47
      exact J_47 _ _ _ hP hD hS (lv_sub hl [0] rfl)
    · have hlt := le_go (by omega) hq1 c_8
      refine lv_aload_n hx hb dX3_scan_19 rfl (lv_at hl 0 rfl) ?_
      refine va_get (D := D) (ci := 3) (v := .ref a1) (C := RX3) (T := TX3) (N := 7) hx hb hts hiX3 hown hB.1 hP 0 rfl rfl 0 (by decide) (hts _ (List.mem_of_getElem? (i := 4) rfl)) (fun _ h9 => h9) rfl dX3_scan_20 ?_
      refine lv_aload_n hx hb dX3_scan_23 rfl (lv_at hl 0 rfl) ?_
      refine va_get (D := D) (ci := 3) (v := .int (nI x)) (C := RX3) (T := TX3) (N := 7) hx hb hts hiX3 hown hB.1 hP 0 rfl rfl 5 (by decide) (hts _ (List.mem_of_getElem? (i := 2) rfl)) (fun _ h9 => h9) rfl dX3_scan_24 ?_
      refine ra_i hx hb hB.1 hP 1 rfl x rfl (by omega) (by decide) dX3_scan_27 ?_
      refine k_i (w2 := [(h0, .inr (3, [.ref a1, .ref a2, .int (nI nb), .int (nI ln), .int kd, .int (nI x), .int (nI so)])), (a1, .inl (cI, 300, .inl tp)), (a2, .inl (cI, 7, .inl rt))]) (va_runS (As := [.int (tp x)]) (rest := []) ⟨hx, hb, hml, hown, hts⟩ (c_X3_isBlank l _ (tp x)) (va_cwS 1 hts gX3_scan_X3_isBlank rfl rfl rfl (by decide +kernel) ⟨Nat.le_of_ble_eq_true rfl, Nat.le_of_ble_eq_true rfl⟩) (pre_S hB hz hA0 hP hD hS [] rfl rfl) rfl rfl hl.1 rfl (lv_room (Nat.le_of_ble_eq_true rfl)) dX3_scan_28 ⟨Nat.zero_le _, Nat.zero_le _⟩) hP hD hS hA [] [0, 1, 2] [0, 1, 2] rfl rfl rfl rfl rfl (fun H locs hP hD hS => ?_)
      refine lv_if_eq (tgt := 47) hx hb dX3_scan_31 (by decide) (fun c_9 => ?_) (fun c_9 => ?_)
      · have e47 : sk (bl tp) ln so = x := hq2.trans (sk_stop (decide_eq_false (fun q => q c_9)))
        subst e47
        exact J_47 _ _ _ hP hD hS (lv_sub hl [0] rfl)
      · have hbl : bl tp x = true := decide_eq_true c_9
        refine lv_aload_n hx hb dX3_scan_34 rfl (lv_at hl 0 rfl) ?_
        refine lv_dup hx hb dX3_scan_35 rfl ?_
        refine va_get (D := D) (ci := 3) (v := .int (nI x)) (C := RX3) (T := TX3) (N := 7) hx hb hts hiX3 hown hB.1 hP 0 rfl rfl 5 (by decide) (hts _ (List.mem_of_getElem? (i := 2) rfl)) (fun _ h9 => h9) rfl dX3_scan_36 ?_
        refine lv_iconst (v := 1) hx hb dX3_scan_39 (by decide) ?_
        refine lv_iadd hx hb dX3_scan_40 ?_
        rw [show (nI x) + 1 = nI (x + 1) from (nx_add rfl rfl)]
        refine pf (w2 := [(h0, .inr (3, [.ref a1, .ref a2, .int (nI nb), .int (nI ln), .int kd, .int (nI (x + 1)), .int (nI so)])), (a1, .inl (cI, 300, .inl tp)), (a2, .inl (cI, 7, .inl rt))]) (ci := 3) (C := RX3) (T := TX3) (N := 7) hx hb hts hiX3 tyX3 tyX3_ok nmX3 hown hB.1 hP hD hS 0 rfl rfl 5 (by decide) (hts _ (List.mem_of_getElem? (i := 2) rfl)) rfl rfl rfl rfl (Nat.le_of_ble_eq_true rfl) rfl dX3_scan_41 (fun H locs hP hD hS => ?_)
        refine lv_goto (tgt := 8) hx hb dX3_scan_44 (by decide) ?_
        exact ih_x (x + 1) ⟨by omega, hq2.trans (sk_step hlt hbl)⟩ (by omega) _ _ _ hP hD hS (lv_sub hl [0] rfl)
