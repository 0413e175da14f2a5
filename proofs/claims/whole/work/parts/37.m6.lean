def F_X8_law_L69 (tk : Nat) (t : Nat) (s_ : (Nat → Int32)) : (Nat → Int32) :=
    upd s_ ((7 * tk) + t) (F_X8_plain (nI t))
def F_X8_law_L29 (d23 : Nat → Int32) (t : Nat) (s_ : (Nat → Int32)) : (Nat → Int32) :=
    upd s_ t (vp_nar .byte (d23 t))
def lawM (nn tk we : Nat) (q33 : Int32) (d23 d24 d30 : Nat → Int32) : Int32 × Nat × Nat × Int32 × (Nat → Int32) := rdM nn tk (lp (F_X8_law_L29 d23) nn d24) 12 (sk (blM (lp (F_X8_law_L29 d23) nn d24)) nn 0) we q33 (lp (F_X8_law_L69 tk) 7 d30)
def F_X8_law (q33 : Int32) (nb : Nat) (tk : Nat) (we : Nat) (d23 : Nat → Int32) (d24 : Nat → Int32) (d30 : Nat → Int32) (nq : Int32) : Int32 :=
  if (F_X8_isIn nq 0 (nI nb)) = 0 then (-2) else
  if (nI tk) = 10 then (-3) else
  if (lawM nq.toNatClampNeg tk we q33 d23 d24 d30).1 = 0 then (if (lawM nq.toNatClampNeg tk we q33 d23 d24 d30).1 = 0 then (-1) else
    (nI (tk + 1)) - 1) else
  if (lawM nq.toNatClampNeg tk we q33 d23 d24 d30).1 = 0 then (-1) else
  (nI (tk + 1)) - 1
def F_X8_law_0_25 (q33 : Int32) (nb : Nat) (tk : Nat) (we : Nat) (d23 : Nat → Int32) (d24 : Nat → Int32) (d30 : Nat → Int32) (nq : Int32) : Nat :=
  if (F_X8_isIn nq 0 (nI nb)) = 0 then nb else
  if (nI tk) = 10 then nb else
  if (lawM nq.toNatClampNeg tk we q33 d23 d24 d30).1 = 0 then (if (lawM nq.toNatClampNeg tk we q33 d23 d24 d30).1 = 0 then 0 else
    0) else
  if (lawM nq.toNatClampNeg tk we q33 d23 d24 d30).1 = 0 then 0 else
  0
def F_X8_law_0_26 (q33 : Int32) (nb : Nat) (ln : Nat) (tk : Nat) (we : Nat) (d23 : Nat → Int32) (d24 : Nat → Int32) (d30 : Nat → Int32) (nq : Int32) : Nat :=
  if (F_X8_isIn nq 0 (nI nb)) = 0 then ln else
  if (nI tk) = 10 then ln else
  if (lawM nq.toNatClampNeg tk we q33 d23 d24 d30).1 = 0 then (if (lawM nq.toNatClampNeg tk we q33 d23 d24 d30).1 = 0 then nq.toNatClampNeg else
    nq.toNatClampNeg) else
  if (lawM nq.toNatClampNeg tk we q33 d23 d24 d30).1 = 0 then nq.toNatClampNeg else
  nq.toNatClampNeg
def F_X8_law_0_27 (q33 : Int32) (nb : Nat) (po : Nat) (tk : Nat) (we : Nat) (d23 : Nat → Int32) (d24 : Nat → Int32) (d30 : Nat → Int32) (nq : Int32) : Nat :=
  if (F_X8_isIn nq 0 (nI nb)) = 0 then po else
  if (nI tk) = 10 then po else
  if (lawM nq.toNatClampNeg tk we q33 d23 d24 d30).1 = 0 then (if (lawM nq.toNatClampNeg tk we q33 d23 d24 d30).1 = 0 then (lawM nq.toNatClampNeg tk we q33 d23 d24 d30).2.1 else
    (lawM nq.toNatClampNeg tk we q33 d23 d24 d30).2.1) else
  if (lawM nq.toNatClampNeg tk we q33 d23 d24 d30).1 = 0 then (lawM nq.toNatClampNeg tk we q33 d23 d24 d30).2.1 else
  (lawM nq.toNatClampNeg tk we q33 d23 d24 d30).2.1
def F_X8_law_0_28 (q28 : Int32) (q33 : Int32) (nb : Nat) (tk : Nat) (we : Nat) (d23 : Nat → Int32) (d24 : Nat → Int32) (d30 : Nat → Int32) (nq : Int32) : Int32 :=
  if (F_X8_isIn nq 0 (nI nb)) = 0 then q28 else
  if (nI tk) = 10 then q28 else
  if (lawM nq.toNatClampNeg tk we q33 d23 d24 d30).1 = 0 then (if (lawM nq.toNatClampNeg tk we q33 d23 d24 d30).1 = 0 then nI (lawM nq.toNatClampNeg tk we q33 d23 d24 d30).2.1 else
    nI (lawM nq.toNatClampNeg tk we q33 d23 d24 d30).2.1) else
  if (lawM nq.toNatClampNeg tk we q33 d23 d24 d30).1 = 0 then (-1) else
  (-1)
def F_X8_law_0_29 (q33 : Int32) (nb : Nat) (tk : Nat) (we : Nat) (d23 : Nat → Int32) (d24 : Nat → Int32) (d30 : Nat → Int32) (nq : Int32) : Nat :=
  if (F_X8_isIn nq 0 (nI nb)) = 0 then tk else
  if (nI tk) = 10 then tk else
  if (lawM nq.toNatClampNeg tk we q33 d23 d24 d30).1 = 0 then (if (lawM nq.toNatClampNeg tk we q33 d23 d24 d30).1 = 0 then tk else
    tk + 1) else
  if (lawM nq.toNatClampNeg tk we q33 d23 d24 d30).1 = 0 then tk else
  tk + 1
def F_X8_law_0_32 (q33 : Int32) (nb : Nat) (tk : Nat) (we : Nat) (d23 : Nat → Int32) (d24 : Nat → Int32) (d30 : Nat → Int32) (nq : Int32) : Nat :=
  if (F_X8_isIn nq 0 (nI nb)) = 0 then we else
  if (nI tk) = 10 then we else
  if (lawM nq.toNatClampNeg tk we q33 d23 d24 d30).1 = 0 then (if (lawM nq.toNatClampNeg tk we q33 d23 d24 d30).1 = 0 then (lawM nq.toNatClampNeg tk we q33 d23 d24 d30).2.2.1 else
    (lawM nq.toNatClampNeg tk we q33 d23 d24 d30).2.2.1) else
  if (lawM nq.toNatClampNeg tk we q33 d23 d24 d30).1 = 0 then (lawM nq.toNatClampNeg tk we q33 d23 d24 d30).2.2.1 else
  (lawM nq.toNatClampNeg tk we q33 d23 d24 d30).2.2.1
def F_X8_law_0_33 (q33 : Int32) (nb : Nat) (tk : Nat) (we : Nat) (d23 : Nat → Int32) (d24 : Nat → Int32) (d30 : Nat → Int32) (nq : Int32) : Int32 :=
  if (F_X8_isIn nq 0 (nI nb)) = 0 then q33 else
  if (nI tk) = 10 then q33 else
  if (lawM nq.toNatClampNeg tk we q33 d23 d24 d30).1 = 0 then (if (lawM nq.toNatClampNeg tk we q33 d23 d24 d30).1 = 0 then (lawM nq.toNatClampNeg tk we q33 d23 d24 d30).2.2.2.1 else
    (lawM nq.toNatClampNeg tk we q33 d23 d24 d30).2.2.2.1) else
  if (lawM nq.toNatClampNeg tk we q33 d23 d24 d30).1 = 0 then (lawM nq.toNatClampNeg tk we q33 d23 d24 d30).2.2.2.1 else
  (lawM nq.toNatClampNeg tk we q33 d23 d24 d30).2.2.2.1
def F_X8_law_2 (q33 : Int32) (nb : Nat) (tk : Nat) (we : Nat) (d23 : Nat → Int32) (d24 : Nat → Int32) (d30 : Nat → Int32) (nq : Int32) : Nat → Int32 :=
  if (F_X8_isIn nq 0 (nI nb)) = 0 then d24 else
  if (nI tk) = 10 then d24 else
  if (lawM nq.toNatClampNeg tk we q33 d23 d24 d30).1 = 0 then (if (lawM nq.toNatClampNeg tk we q33 d23 d24 d30).1 = 0 then (lp (F_X8_law_L29 d23) nq.toNatClampNeg d24) else
    (lp (F_X8_law_L29 d23) nq.toNatClampNeg d24)) else
  if (lawM nq.toNatClampNeg tk we q33 d23 d24 d30).1 = 0 then (lp (F_X8_law_L29 d23) nq.toNatClampNeg d24) else
  (lp (F_X8_law_L29 d23) nq.toNatClampNeg d24)
def F_X8_law_3 (q33 : Int32) (nb : Nat) (tk : Nat) (we : Nat) (d23 : Nat → Int32) (d24 : Nat → Int32) (d30 : Nat → Int32) (nq : Int32) : Nat → Int32 :=
  if (F_X8_isIn nq 0 (nI nb)) = 0 then d30 else
  if (nI tk) = 10 then d30 else
  if (lawM nq.toNatClampNeg tk we q33 d23 d24 d30).1 = 0 then (if (lawM nq.toNatClampNeg tk we q33 d23 d24 d30).1 = 0 then (lawM nq.toNatClampNeg tk we q33 d23 d24 d30).2.2.2.2 else
    (lawM nq.toNatClampNeg tk we q33 d23 d24 d30).2.2.2.2) else
  if (lawM nq.toNatClampNeg tk we q33 d23 d24 d30).1 = 0 then (lawM nq.toNatClampNeg tk we q33 d23 d24 d30).2.2.2.2 else
  (lawM nq.toNatClampNeg tk we q33 d23 d24 d30).2.2.2.2
def F_X8_law_4 (q11 : Int32) (q33 : Int32) (nb : Nat) (tk : Nat) (we : Nat) (d23 : Nat → Int32) (d24 : Nat → Int32) (d30 : Nat → Int32) (d31 : Nat → Int32) (nq : Int32) : Nat → Int32 :=
  if (F_X8_isIn nq 0 (nI nb)) = 0 then d31 else
  if (nI tk) = 10 then d31 else
  if (lawM nq.toNatClampNeg tk we q33 d23 d24 d30).1 = 0 then (if (lawM nq.toNatClampNeg tk we q33 d23 d24 d30).1 = 0 then d31 else
    upd d31 tk q11) else
  if (lawM nq.toNatClampNeg tk we q33 d23 d24 d30).1 = 0 then d31 else
  upd d31 tk q11
set_option maxHeartbeats 4000000 in
set_option maxRecDepth 100000 in
theorem c_X8_law (l : Launch) {D : va_G} {cI cZ cB : ClassId} {au : Nat} {kA kV : Nat → Nat} {z0 : Nat} (sz : Nat) (mA : Nat) (m2 : Nat) (m3 : Nat) (m4 : Nat) (m5 : Nat) (m6 : Nat) (m7 : Nat) (m8 : Nat) (m21 : Nat) (m22 : Nat) (m23 : Nat) (m24 : Nat) (m30 : Nat) (m31 : Nat) (q9 : Int32) (q10 : Int32) (q11 : Int32) (q13 : Int32) (q14 : Int32) (q15 : Int32) (q16 : Int32) (q17 : Int32) (q18 : Int32) (q19 : Int32) (q20 : Int32) (q28 : Int32) (q33 : Int32) (nr : Nat) (np : Nat) (nb : Nat) (ln : Nat) (po : Nat) (tk : Nat) (we : Nat) (dg : Nat) (d23 : Nat → Int32) (d24 : Nat → Int32) (d30 : Nat → Int32) (d31 : Nat → Int32) (nq : Int32) (h20 : nr ≤ 20) (h2r : 2 ≤ nr) (h2p : 2 ≤ np) (h8 : np ≤ 8) (hnb : nb ≤ 300) (htk : tk ≤ 10) : Met l yX8_law wsX8_law ({ frames := 4, cells := 0, slots := 0, locals := 86 }) (va_Pc [.ref mA, .int nq] (PRE D cI cZ cB au kA kV z0 sz [(mA, .inr (8, .int (nI nr) :: .int (nI np) :: .ref m2 :: .ref m3 :: .ref m4 :: .ref m5 :: .ref m6 :: .ref m7 :: .ref m8 :: .int q9 :: .int q10 :: .int q11 :: .int ((nI dg) - 1) :: .int q13 :: .int q14 :: .int q15 :: .int q16 :: .int q17 :: .int q18 :: .int q19 :: .int q20 :: .ref m21 :: .ref m22 :: .ref m23 :: .ref m24 :: .int (nI nb) :: .int (nI ln) :: .int (nI po) :: .int q28 :: .int (nI tk) :: .ref m30 :: .ref m31 :: .int (nI we) :: .int q33 :: [])), (m23, .inl (cB, 300, .inl d23)), (m24, .inl (cB, 300, .inl d24)), (m30, .inl (cI, 77, .inl d30)), (m31, .inl (cI, 11, .inl d31))])) (QI D [(mA, .inr (8, .int (nI nr) :: .int (nI np) :: .ref m2 :: .ref m3 :: .ref m4 :: .ref m5 :: .ref m6 :: .ref m7 :: .ref m8 :: .int q9 :: .int q10 :: .int q11 :: .int ((nI dg) - 1) :: .int q13 :: .int q14 :: .int q15 :: .int q16 :: .int q17 :: .int q18 :: .int q19 :: .int q20 :: .ref m21 :: .ref m22 :: .ref m23 :: .ref m24 :: .int (nI nb) :: .int (nI ln) :: .int (nI po) :: .int q28 :: .int (nI tk) :: .ref m30 :: .ref m31 :: .int (nI we) :: .int q33 :: [])), (m23, .inl (cB, 300, .inl d23)), (m24, .inl (cB, 300, .inl d24)), (m30, .inl (cI, 77, .inl d30)), (m31, .inl (cI, 11, .inl d31))] sz (F_X8_law q33 nb tk we d23 d24 d30 nq) [(mA, .inr (8, .int (nI nr) :: .int (nI np) :: .ref m2 :: .ref m3 :: .ref m4 :: .ref m5 :: .ref m6 :: .ref m7 :: .ref m8 :: .int q9 :: .int q10 :: .int q11 :: .int ((nI dg) - 1) :: .int q13 :: .int q14 :: .int q15 :: .int q16 :: .int q17 :: .int q18 :: .int q19 :: .int q20 :: .ref m21 :: .ref m22 :: .ref m23 :: .ref m24 :: .int (nI (F_X8_law_0_25 q33 nb tk we d23 d24 d30 nq)) :: .int (nI (F_X8_law_0_26 q33 nb ln tk we d23 d24 d30 nq)) :: .int (nI (F_X8_law_0_27 q33 nb po tk we d23 d24 d30 nq)) :: .int (F_X8_law_0_28 q28 q33 nb tk we d23 d24 d30 nq) :: .int (nI (F_X8_law_0_29 q33 nb tk we d23 d24 d30 nq)) :: .ref m30 :: .ref m31 :: .int (nI (F_X8_law_0_32 q33 nb tk we d23 d24 d30 nq)) :: .int (F_X8_law_0_33 q33 nb tk we d23 d24 d30 nq) :: [])), (m23, .inl (cB, 300, .inl d23)), (m24, .inl (cB, 300, .inl (F_X8_law_2 q33 nb tk we d23 d24 d30 nq))), (m30, .inl (cI, 77, .inl (F_X8_law_3 q33 nb tk we d23 d24 d30 nq))), (m31, .inl (cI, 11, .inl (F_X8_law_4 q11 q33 nb tk we d23 d24 d30 d31 nq)))]) 0 0 (va_A [(mA, .inr (8, .int (nI nr) :: .int (nI np) :: .ref m2 :: .ref m3 :: .ref m4 :: .ref m5 :: .ref m6 :: .ref m7 :: .ref m8 :: .int q9 :: .int q10 :: .int q11 :: .int ((nI dg) - 1) :: .int q13 :: .int q14 :: .int q15 :: .int q16 :: .int q17 :: .int q18 :: .int q19 :: .int q20 :: .ref m21 :: .ref m22 :: .ref m23 :: .ref m24 :: .int (nI nb) :: .int (nI ln) :: .int (nI po) :: .int q28 :: .int (nI tk) :: .ref m30 :: .ref m31 :: .int (nI we) :: .int q33 :: [])), (m23, .inl (cB, 300, .inl d23)), (m24, .inl (cB, 300, .inl d24)), (m30, .inl (cI, 77, .inl d30)), (m31, .inl (cI, 11, .inl d31))] sz) := by
  refine Met.ofW (cc := cX8_law) (maxL := 4) (ret := (some .int)) (by decide) rfl ?_
  intro p e s m args below meth c s₁ B hml hv
  obtain ⟨rfl, hsz, hz, hP, hD0, hB⟩ := hv
  have hx := B.exec
  have hb := B.bytes
  have hr := B.returns
  have hts := atoms_spec (ws := wsX8_law) B.pre
  have hown : s.vm.findClass RX8 = some m.cls := findClass_of_methodNamed B.named
  have hlocks := B.notSynchronized
  subst hsz
  have hD := hD0.self (sz := s.heap.size)
  have hA0 := va_A0 hD0 hz
  unfold QI
  generalize hAe : va_A [(mA, .inr (8, .int (nI nr) :: .int (nI np) :: .ref m2 :: .ref m3 :: .ref m4 :: .ref m5 :: .ref m6 :: .ref m7 :: .ref m8 :: .int q9 :: .int q10 :: .int q11 :: .int ((nI dg) - 1) :: .int q13 :: .int q14 :: .int q15 :: .int q16 :: .int q17 :: .int q18 :: .int q19 :: .int q20 :: .ref m21 :: .ref m22 :: .ref m23 :: .ref m24 :: .int (nI nb) :: .int (nI ln) :: .int (nI po) :: .int q28 :: .int (nI tk) :: .ref m30 :: .ref m31 :: .int (nI we) :: .int q33 :: [])), (m23, .inl (cB, 300, .inl d23)), (m24, .inl (cB, 300, .inl d24)), (m30, .inl (cI, 77, .inl d30)), (m31, .inl (cI, 11, .inl d31))] s.heap.size = A at hD hA0 ⊢
  have hA : ∀ q : Nat, s.heap.size ≤ q → A q := fun q h => by rw [← hAe]; exact Or.inr h
  have hS : va_S A s.heap s.heap [] := va_S.rf
  have hiX8 : ∀ w ∈ wsX80, w ∈ wsX8_law := fun w h => List.mem_cons_of_mem _ (List.mem_append_right _ h)
  have hl := lv_entry ([.ref mA, .int nq]) (n := 4) (Nat.le_of_ble_eq_true rfl)
  rw [lg_entry_eq]
  generalize (lg_sl ([.ref mA, .int nq]) ++ List.replicate (4 - (lg_sl ([.ref mA, .int nq])).length) Slot.unset).toArray = ls at hl ⊢
  have hl : lv_has ls 4 [(0, .ref mA), (1, .int nq)] := hl
  refine lv_iload_n hx hb dX8_law_0 rfl (lv_at hl 1 rfl) ?_
  refine lv_iconst (v := 0) hx hb dX8_law_1 (by decide) ?_
  refine lv_aload_n hx hb dX8_law_2 rfl (lv_at hl 0 rfl) ?_
  refine va_get (D := D) (ci := 8) (v := .int (nI nb)) (C := RX8) (T := TX8) (N := 34) hx hb hts hiX8 hown hB.1 hP 0 rfl rfl 25 (by decide) (hts _ (List.mem_of_getElem? (i := 1) rfl)) (fun _ h9 => h9) rfl dX8_law_3 ?_
  refine k_i (w2 := [(mA, .inr (8, .int (nI nr) :: .int (nI np) :: .ref m2 :: .ref m3 :: .ref m4 :: .ref m5 :: .ref m6 :: .ref m7 :: .ref m8 :: .int q9 :: .int q10 :: .int q11 :: .int ((nI dg) - 1) :: .int q13 :: .int q14 :: .int q15 :: .int q16 :: .int q17 :: .int q18 :: .int q19 :: .int q20 :: .ref m21 :: .ref m22 :: .ref m23 :: .ref m24 :: .int (nI nb) :: .int (nI ln) :: .int (nI po) :: .int q28 :: .int (nI tk) :: .ref m30 :: .ref m31 :: .int (nI we) :: .int q33 :: [])), (m23, .inl (cB, 300, .inl d23)), (m24, .inl (cB, 300, .inl d24)), (m30, .inl (cI, 77, .inl d30)), (m31, .inl (cI, 11, .inl d31))]) (va_runS (As := [.int nq, .int 0, .int (nI nb)]) (rest := []) ⟨hx, hb, hml, hown, hts⟩ (c_X8_isIn l _ nq 0 (nI nb)) (va_cwS 3 hts gX8_law_X8_isIn rfl rfl rfl (by decide +kernel) ⟨Nat.le_of_ble_eq_true rfl, Nat.le_of_ble_eq_true rfl⟩) (pre_S hB hz hA0 hP hD hS [] rfl rfl) rfl rfl hl.1 rfl (lv_room (Nat.le_of_ble_eq_true rfl)) dX8_law_6 ⟨Nat.zero_le _, Nat.zero_le _⟩) hP hD hS hA [] [0, 1, 2, 3, 4] [0, 1, 2, 3, 4] rfl rfl rfl rfl rfl (fun H locs hP hD hS => ?_)
  refine lv_if_ne (tgt := 15) hx hb dX8_law_9 (by decide) (fun c_1 => ?_) (fun c_1 => ?_)
  · obtain ⟨hn1, hn2⟩ := wn_le (n := nb) (by omega) c_1
    refine lv_aload_n hx hb dX8_law_15 rfl (lv_at hl 0 rfl) ?_
    refine va_get (D := D) (ci := 8) (v := .int (nI tk)) (C := RX8) (T := TX8) (N := 34) hx hb hts hiX8 hown hB.1 hP 0 rfl rfl 29 (by decide) (hts _ (List.mem_of_getElem? (i := 2) rfl)) (fun _ h9 => h9) rfl dX8_law_16 ?_
    refine lv_bipush (v := 10) hx hb dX8_law_19 (by decide) ?_
    refine lv_icmp_ne (tgt := 27) hx hb dX8_law_21 (by decide) (fun c_2 => ?_) (fun c_2 => ?_)
    · have htk2 := ten_lt htk c_2
      refine lv_iconst (v := 0) hx hb dX8_law_27 (by decide) ?_
      refine lv_istore_n (lv' := [(2, .int 0), (0, .ref mA), (1, .int nq)]) hx hb dX8_law_28 rfl hl (by decide) rfl (fun ls hl => ?_)
      refine lpM (σ := Nat) (fun t => t ≤ nq.toNatClampNeg) (fun t => nq.toNatClampNeg - t) (fun t => [(mA, .inr (8, .int (nI nr) :: .int (nI np) :: .ref m2 :: .ref m3 :: .ref m4 :: .ref m5 :: .ref m6 :: .ref m7 :: .ref m8 :: .int q9 :: .int q10 :: .int q11 :: .int ((nI dg) - 1) :: .int q13 :: .int q14 :: .int q15 :: .int q16 :: .int q17 :: .int q18 :: .int q19 :: .int q20 :: .ref m21 :: .ref m22 :: .ref m23 :: .ref m24 :: .int (nI nb) :: .int (nI ln) :: .int (nI po) :: .int q28 :: .int (nI tk) :: .ref m30 :: .ref m31 :: .int (nI we) :: .int q33 :: [])), (m23, .inl (cB, 300, .inl d23)), (m24, .inl (cB, 300, .inl (lp (F_X8_law_L29 d23) t d24))), (m30, .inl (cI, 77, .inl d30)), (m31, .inl (cI, 11, .inl d31))]) (fun t => [(2, .int (nI t)), (0, .ref mA), (1, .int nq)]) 0 (Nat.zero_le _) hP hD hS (lv_sub hl [0, 1, 2] rfl) ?_
      intro t h_t ih_t H locs ls hP hD hS hl
      have hP : va_P D vwCl [(mA, .inr (8, .int (nI nr) :: .int (nI np) :: .ref m2 :: .ref m3 :: .ref m4 :: .ref m5 :: .ref m6 :: .ref m7 :: .ref m8 :: .int q9 :: .int q10 :: .int q11 :: .int ((nI dg) - 1) :: .int q13 :: .int q14 :: .int q15 :: .int q16 :: .int q17 :: .int q18 :: .int q19 :: .int q20 :: .ref m21 :: .ref m22 :: .ref m23 :: .ref m24 :: .int (nI nb) :: .int (nI ln) :: .int (nI po) :: .int q28 :: .int (nI tk) :: .ref m30 :: .ref m31 :: .int (nI we) :: .int q33 :: [])), (m23, .inl (cB, 300, .inl d23)), (m24, .inl (cB, 300, .inl (lp (F_X8_law_L29 d23) t d24))), (m30, .inl (cI, 77, .inl d30)), (m31, .inl (cI, 11, .inl d31))] H := hP
      have hD : va_D A [(mA, .inr (8, .int (nI nr) :: .int (nI np) :: .ref m2 :: .ref m3 :: .ref m4 :: .ref m5 :: .ref m6 :: .ref m7 :: .ref m8 :: .int q9 :: .int q10 :: .int q11 :: .int ((nI dg) - 1) :: .int q13 :: .int q14 :: .int q15 :: .int q16 :: .int q17 :: .int q18 :: .int q19 :: .int q20 :: .ref m21 :: .ref m22 :: .ref m23 :: .ref m24 :: .int (nI nb) :: .int (nI ln) :: .int (nI po) :: .int q28 :: .int (nI tk) :: .ref m30 :: .ref m31 :: .int (nI we) :: .int q33 :: [])), (m23, .inl (cB, 300, .inl d23)), (m24, .inl (cB, 300, .inl (lp (F_X8_law_L29 d23) t d24))), (m30, .inl (cI, 77, .inl d30)), (m31, .inl (cI, 11, .inl d31))] := hD
      have hl : lv_has ls 4 [(2, .int (nI t)), (0, .ref mA), (1, .int nq)] := hl
      generalize hs_t : lp (F_X8_law_L29 d23) t d24 = sv3 at hP hD 
      refine lv_iload_n hx hb dX8_law_29 rfl (lv_at hl 0 rfl) ?_
      refine lv_iload_n hx hb dX8_law_30 rfl (lv_at hl 2 rfl) ?_
      refine lv_icmp_ge (tgt := 52) hx hb dX8_law_31 (by decide) (fun c_4 => ?_) (fun c_4 => ?_)
      · have hx_t : nq.toNatClampNeg = t := Eq.symm (le_ex (N := nq.toNatClampNeg) (by omega) h_t (by rw [← hn1]; exact c_4))
        subst hx_t
        subst hs_t
        refine lv_aload_n hx hb dX8_law_52 rfl (lv_at hl 1 rfl) ?_
        refine lv_iload_n hx hb dX8_law_53 rfl (lv_at hl 2 rfl) ?_
        refine lv_topi (fun y_ ey_ => ?_)
        obtain rfl := ey_.trans hn1
        refine pf (w2 := [(mA, .inr (8, .int (nI nr) :: .int (nI np) :: .ref m2 :: .ref m3 :: .ref m4 :: .ref m5 :: .ref m6 :: .ref m7 :: .ref m8 :: .int q9 :: .int q10 :: .int q11 :: .int ((nI dg) - 1) :: .int q13 :: .int q14 :: .int q15 :: .int q16 :: .int q17 :: .int q18 :: .int q19 :: .int q20 :: .ref m21 :: .ref m22 :: .ref m23 :: .ref m24 :: .int (nI nb) :: .int (nI nq.toNatClampNeg) :: .int (nI po) :: .int q28 :: .int (nI tk) :: .ref m30 :: .ref m31 :: .int (nI we) :: .int q33 :: [])), (m23, .inl (cB, 300, .inl d23)), (m24, .inl (cB, 300, .inl (lp (F_X8_law_L29 d23) nq.toNatClampNeg d24))), (m30, .inl (cI, 77, .inl d30)), (m31, .inl (cI, 11, .inl d31))]) (ci := 8) (C := RX8) (T := TX8) (N := 34) hx hb hts hiX8 tyX8 tyX8_ok nmX8 hown hB.1 hP hD hS 0 rfl rfl 26 (by decide) (hts _ (List.mem_of_getElem? (i := 5) rfl)) rfl rfl rfl rfl (Nat.le_of_ble_eq_true rfl) rfl dX8_law_54 (fun H locs hP hD hS => ?_)
        refine lv_aload_n hx hb dX8_law_57 rfl (lv_at hl 1 rfl) ?_
        refine lv_iconst (v := 0) hx hb dX8_law_58 (by decide) ?_
        refine pf (w2 := [(mA, .inr (8, .int (nI nr) :: .int (nI np) :: .ref m2 :: .ref m3 :: .ref m4 :: .ref m5 :: .ref m6 :: .ref m7 :: .ref m8 :: .int q9 :: .int q10 :: .int q11 :: .int ((nI dg) - 1) :: .int q13 :: .int q14 :: .int q15 :: .int q16 :: .int q17 :: .int q18 :: .int q19 :: .int q20 :: .ref m21 :: .ref m22 :: .ref m23 :: .ref m24 :: .int 0 :: .int (nI nq.toNatClampNeg) :: .int (nI po) :: .int q28 :: .int (nI tk) :: .ref m30 :: .ref m31 :: .int (nI we) :: .int q33 :: [])), (m23, .inl (cB, 300, .inl d23)), (m24, .inl (cB, 300, .inl (lp (F_X8_law_L29 d23) nq.toNatClampNeg d24))), (m30, .inl (cI, 77, .inl d30)), (m31, .inl (cI, 11, .inl d31))]) (ci := 8) (C := RX8) (T := TX8) (N := 34) hx hb hts hiX8 tyX8 tyX8_ok nmX8 hown hB.1 hP hD hS 0 rfl rfl 25 (by decide) (hts _ (List.mem_of_getElem? (i := 1) rfl)) rfl rfl rfl rfl (Nat.le_of_ble_eq_true rfl) rfl dX8_law_59 (fun H locs hP hD hS => ?_)
        refine lv_aload_n hx hb dX8_law_62 rfl (lv_at hl 1 rfl) ?_
        refine lv_iconst (v := 0) hx hb dX8_law_63 (by decide) ?_
        refine pf (w2 := [(mA, .inr (8, .int (nI nr) :: .int (nI np) :: .ref m2 :: .ref m3 :: .ref m4 :: .ref m5 :: .ref m6 :: .ref m7 :: .ref m8 :: .int q9 :: .int q10 :: .int q11 :: .int ((nI dg) - 1) :: .int q13 :: .int q14 :: .int q15 :: .int q16 :: .int q17 :: .int q18 :: .int q19 :: .int q20 :: .ref m21 :: .ref m22 :: .ref m23 :: .ref m24 :: .int 0 :: .int (nI nq.toNatClampNeg) :: .int 0 :: .int q28 :: .int (nI tk) :: .ref m30 :: .ref m31 :: .int (nI we) :: .int q33 :: [])), (m23, .inl (cB, 300, .inl d23)), (m24, .inl (cB, 300, .inl (lp (F_X8_law_L29 d23) nq.toNatClampNeg d24))), (m30, .inl (cI, 77, .inl d30)), (m31, .inl (cI, 11, .inl d31))]) (ci := 8) (C := RX8) (T := TX8) (N := 34) hx hb hts hiX8 tyX8 tyX8_ok nmX8 hown hB.1 hP hD hS 0 rfl rfl 27 (by decide) (hts _ (List.mem_of_getElem? (i := 6) rfl)) rfl rfl rfl rfl (Nat.le_of_ble_eq_true rfl) rfl dX8_law_64 (fun H locs hP hD hS => ?_)
        refine lv_iconst (v := 0) hx hb dX8_law_67 (by decide) ?_
        refine lv_istore_n (lv' := [(2, .int 0), (0, .ref mA), (1, .int nq)]) hx hb dX8_law_68 rfl hl (by decide) rfl (fun ls hl => ?_)
        refine lpM (σ := Nat) (fun t => t ≤ 7) (fun t => 7 - t) (fun t => [(mA, .inr (8, .int (nI nr) :: .int (nI np) :: .ref m2 :: .ref m3 :: .ref m4 :: .ref m5 :: .ref m6 :: .ref m7 :: .ref m8 :: .int q9 :: .int q10 :: .int q11 :: .int ((nI dg) - 1) :: .int q13 :: .int q14 :: .int q15 :: .int q16 :: .int q17 :: .int q18 :: .int q19 :: .int q20 :: .ref m21 :: .ref m22 :: .ref m23 :: .ref m24 :: .int 0 :: .int (nI nq.toNatClampNeg) :: .int 0 :: .int q28 :: .int (nI tk) :: .ref m30 :: .ref m31 :: .int (nI we) :: .int q33 :: [])), (m23, .inl (cB, 300, .inl d23)), (m24, .inl (cB, 300, .inl (lp (F_X8_law_L29 d23) nq.toNatClampNeg d24))), (m30, .inl (cI, 77, .inl (lp (F_X8_law_L69 tk) t d30))), (m31, .inl (cI, 11, .inl d31))]) (fun t => [(2, .int (nI t)), (0, .ref mA), (1, .int nq)]) 0 (Nat.zero_le _) hP hD hS (lv_sub hl [0, 1, 2] rfl) ?_
        intro t h_t ih_t H locs ls hP hD hS hl
        have hP : va_P D vwCl [(mA, .inr (8, .int (nI nr) :: .int (nI np) :: .ref m2 :: .ref m3 :: .ref m4 :: .ref m5 :: .ref m6 :: .ref m7 :: .ref m8 :: .int q9 :: .int q10 :: .int q11 :: .int ((nI dg) - 1) :: .int q13 :: .int q14 :: .int q15 :: .int q16 :: .int q17 :: .int q18 :: .int q19 :: .int q20 :: .ref m21 :: .ref m22 :: .ref m23 :: .ref m24 :: .int 0 :: .int (nI nq.toNatClampNeg) :: .int 0 :: .int q28 :: .int (nI tk) :: .ref m30 :: .ref m31 :: .int (nI we) :: .int q33 :: [])), (m23, .inl (cB, 300, .inl d23)), (m24, .inl (cB, 300, .inl (lp (F_X8_law_L29 d23) nq.toNatClampNeg d24))), (m30, .inl (cI, 77, .inl (lp (F_X8_law_L69 tk) t d30))), (m31, .inl (cI, 11, .inl d31))] H := hP
        have hD : va_D A [(mA, .inr (8, .int (nI nr) :: .int (nI np) :: .ref m2 :: .ref m3 :: .ref m4 :: .ref m5 :: .ref m6 :: .ref m7 :: .ref m8 :: .int q9 :: .int q10 :: .int q11 :: .int ((nI dg) - 1) :: .int q13 :: .int q14 :: .int q15 :: .int q16 :: .int q17 :: .int q18 :: .int q19 :: .int q20 :: .ref m21 :: .ref m22 :: .ref m23 :: .ref m24 :: .int 0 :: .int (nI nq.toNatClampNeg) :: .int 0 :: .int q28 :: .int (nI tk) :: .ref m30 :: .ref m31 :: .int (nI we) :: .int q33 :: [])), (m23, .inl (cB, 300, .inl d23)), (m24, .inl (cB, 300, .inl (lp (F_X8_law_L29 d23) nq.toNatClampNeg d24))), (m30, .inl (cI, 77, .inl (lp (F_X8_law_L69 tk) t d30))), (m31, .inl (cI, 11, .inl d31))] := hD
        have hl : lv_has ls 4 [(2, .int (nI t)), (0, .ref mA), (1, .int nq)] := hl
        generalize hs_t : lp (F_X8_law_L69 tk) t d30 = sv5 at hP hD 
        refine lv_iload_n hx hb dX8_law_69 rfl (lv_at hl 0 rfl) ?_
        refine lv_bipush (v := 7) hx hb dX8_law_70 (by decide) ?_
        refine lv_icmp_ge (tgt := 99) hx hb dX8_law_72 (by decide) (fun c_6 => ?_) (fun c_6 => ?_)
        · have hx_t : 7 = t := Eq.symm (le_ex (N := 7) (by decide) h_t c_6)
          subst hx_t
          subst hs_t
          refine lv_iconst (v := 0) hx hb dX8_law_99 (by decide) ?_
          refine lv_istore_n (lv' := [(2, .int 0), (0, .ref mA), (1, .int nq)]) hx hb dX8_law_100 rfl hl (by decide) rfl (fun ls hl => ?_)
          refine lv_iconst (v := 1) hx hb dX8_law_101 (by decide) ?_
          refine lv_istore_n (lv' := [(3, .int 1), (2, .int 0), (0, .ref mA), (1, .int nq)]) hx hb dX8_law_102 rfl hl (by decide) rfl (fun ls hl => ?_)
          refine lv_aload_n hx hb dX8_law_103 rfl (lv_at hl 2 rfl) ?_
          refine k_v (w2 := [(mA, .inr (8, .int (nI nr) :: .int (nI np) :: .ref m2 :: .ref m3 :: .ref m4 :: .ref m5 :: .ref m6 :: .ref m7 :: .ref m8 :: .int q9 :: .int q10 :: .int q11 :: .int ((nI dg) - 1) :: .int q13 :: .int q14 :: .int q15 :: .int q16 :: .int q17 :: .int q18 :: .int q19 :: .int q20 :: .ref m21 :: .ref m22 :: .ref m23 :: .ref m24 :: .int (nI 0) :: .int (nI nq.toNatClampNeg) :: .int (nI (sk (blM (lp (F_X8_law_L29 d23) nq.toNatClampNeg d24)) nq.toNatClampNeg 0)) :: .int q28 :: .int (nI tk) :: .ref m30 :: .ref m31 :: .int (nI we) :: .int q33 :: [])), (m23, .inl (cB, 300, .inl d23)), (m24, .inl (cB, 300, .inl (lp (F_X8_law_L29 d23) nq.toNatClampNeg d24))), (m30, .inl (cI, 77, .inl (lp (F_X8_law_L69 tk) 7 d30))), (m31, .inl (cI, 11, .inl d31))]) (va_runV (As := []) (rest := []) ⟨hx, hb, hml, hown, hts⟩ (c_X8_blanks l _ mA m2 m3 m4 m5 m6 m7 m8 m21 m22 m23 m24 m30 m31 q9 q10 q11 q13 q14 q15 q16 q17 q18 q19 q20 q28 q33 nr np 0 nq.toNatClampNeg 0 tk we dg (lp (F_X8_law_L29 d23) nq.toNatClampNeg d24) h20 h2r h2p h8 (Nat.zero_le _) (by omega)) (cwV 0 hts gX8_law_X8_blanks rfl rfl rfl (by decide +kernel) ⟨Nat.le_of_ble_eq_true rfl, Nat.le_of_ble_eq_true rfl⟩) (pre_V (ci := 8) (q0 := 0) hB hz hA0 hP hD hS [0, 2] rfl rfl rfl rfl rfl) rfl rfl hl.1 rfl (lv_room (Nat.le_of_ble_eq_true rfl)) dX8_law_104 ⟨Nat.zero_le _, Nat.zero_le _⟩) hP hD hS hA [0, 2] [1, 3, 4] [3, 0, 4, 1, 2] rfl rfl rfl rfl rfl (fun H locs hP hD hS => ?_)
          refine joinM (nL := 4) (A := A) (D := D) (pc2 := 159) (st2 := []) [(mA, .inr (8, .int (nI nr) :: .int (nI np) :: .ref m2 :: .ref m3 :: .ref m4 :: .ref m5 :: .ref m6 :: .ref m7 :: .ref m8 :: .int q9 :: .int q10 :: .int q11 :: .int ((nI dg) - 1) :: .int q13 :: .int q14 :: .int q15 :: .int q16 :: .int q17 :: .int q18 :: .int q19 :: .int q20 :: .ref m21 :: .ref m22 :: .ref m23 :: .ref m24 :: .int (nI 0) :: .int (nI nq.toNatClampNeg) :: .int (nI (lawM nq.toNatClampNeg tk we q33 d23 d24 d30).2.1) :: .int q28 :: .int (nI tk) :: .ref m30 :: .ref m31 :: .int (nI (lawM nq.toNatClampNeg tk we q33 d23 d24 d30).2.2.1) :: .int (lawM nq.toNatClampNeg tk we q33 d23 d24 d30).2.2.2.1 :: [])), (m23, .inl (cB, 300, .inl d23)), (m24, .inl (cB, 300, .inl (lp (F_X8_law_L29 d23) nq.toNatClampNeg d24))), (m30, .inl (cI, 77, .inl (lawM nq.toNatClampNeg tk we q33 d23 d24 d30).2.2.2.2)), (m31, .inl (cI, 11, .inl d31))] [(3, .int (lawM nq.toNatClampNeg tk we q33 d23 d24 d30).1), (0, .ref mA), (1, .int nq)] ?_ ?_
          · intro H locs ls hP hD hS hl
            refine lv_aload_n hx hb dX8_law_159 rfl (lv_at hl 1 rfl) ?_
            refine lv_iload_n hx hb dX8_law_160 rfl (lv_at hl 0 rfl) ?_
            refine lv_if_eq (tgt := 168) hx hb dX8_law_161 (by decide) (fun c_7 => ?_) (fun c_7 => ?_)
            · refine lv_aload_n hx hb dX8_law_168 rfl (lv_at hl 1 rfl) ?_
              refine va_get (D := D) (ci := 8) (v := .int (nI (lawM nq.toNatClampNeg tk we q33 d23 d24 d30).2.1)) (C := RX8) (T := TX8) (N := 34) hx hb hts hiX8 hown hB.1 hP 0 rfl rfl 27 (by decide) (hts _ (List.mem_of_getElem? (i := 6) rfl)) (fun _ h9 => h9) rfl dX8_law_169 ?_
              refine pf (w2 := [(mA, .inr (8, .int (nI nr) :: .int (nI np) :: .ref m2 :: .ref m3 :: .ref m4 :: .ref m5 :: .ref m6 :: .ref m7 :: .ref m8 :: .int q9 :: .int q10 :: .int q11 :: .int ((nI dg) - 1) :: .int q13 :: .int q14 :: .int q15 :: .int q16 :: .int q17 :: .int q18 :: .int q19 :: .int q20 :: .ref m21 :: .ref m22 :: .ref m23 :: .ref m24 :: .int (nI 0) :: .int (nI nq.toNatClampNeg) :: .int (nI (lawM nq.toNatClampNeg tk we q33 d23 d24 d30).2.1) :: .int (nI (lawM nq.toNatClampNeg tk we q33 d23 d24 d30).2.1) :: .int (nI tk) :: .ref m30 :: .ref m31 :: .int (nI (lawM nq.toNatClampNeg tk we q33 d23 d24 d30).2.2.1) :: .int (lawM nq.toNatClampNeg tk we q33 d23 d24 d30).2.2.2.1 :: [])), (m23, .inl (cB, 300, .inl d23)), (m24, .inl (cB, 300, .inl (lp (F_X8_law_L29 d23) nq.toNatClampNeg d24))), (m30, .inl (cI, 77, .inl (lawM nq.toNatClampNeg tk we q33 d23 d24 d30).2.2.2.2)), (m31, .inl (cI, 11, .inl d31))]) (ci := 8) (C := RX8) (T := TX8) (N := 34) hx hb hts hiX8 tyX8 tyX8_ok nmX8 hown hB.1 hP hD hS 0 rfl rfl 28 (by decide) (hts _ (List.mem_of_getElem? (i := 8) rfl)) rfl rfl rfl rfl (Nat.le_of_ble_eq_true rfl) rfl dX8_law_172 (fun H locs hP hD hS => ?_)
              refine lv_iload_n hx hb dX8_law_175 rfl (lv_at hl 0 rfl) ?_
              refine lv_if_ne (tgt := 181) hx hb dX8_law_176 (by decide) (fun c_8 => ?_) (fun c_8 => ?_)
              · refine lv_aload_n hx hb dX8_law_181 rfl (lv_at hl 1 rfl) ?_
                refine va_get (D := D) (ci := 8) (v := .ref m31) (C := RX8) (T := TX8) (N := 34) hx hb hts hiX8 hown hB.1 hP 0 rfl rfl 31 (by decide) (hts _ (List.mem_of_getElem? (i := 9) rfl)) (fun _ h9 => h9) rfl dX8_law_182 ?_
                refine lv_aload_n hx hb dX8_law_185 rfl (lv_at hl 1 rfl) ?_
                refine va_get (D := D) (ci := 8) (v := .int (nI tk)) (C := RX8) (T := TX8) (N := 34) hx hb hts hiX8 hown hB.1 hP 0 rfl rfl 29 (by decide) (hts _ (List.mem_of_getElem? (i := 2) rfl)) (fun _ h9 => h9) rfl dX8_law_186 ?_
                refine lv_aload_n hx hb dX8_law_189 rfl (lv_at hl 1 rfl) ?_
                refine va_get (D := D) (ci := 8) (v := .int q11) (C := RX8) (T := TX8) (N := 34) hx hb hts hiX8 hown hB.1 hP 0 rfl rfl 11 (by decide) (hts _ (List.mem_of_getElem? (i := 10) rfl)) (fun _ h9 => h9) rfl dX8_law_190 ?_
                refine wa_i (w2 := [(mA, .inr (8, .int (nI nr) :: .int (nI np) :: .ref m2 :: .ref m3 :: .ref m4 :: .ref m5 :: .ref m6 :: .ref m7 :: .ref m8 :: .int q9 :: .int q10 :: .int q11 :: .int ((nI dg) - 1) :: .int q13 :: .int q14 :: .int q15 :: .int q16 :: .int q17 :: .int q18 :: .int q19 :: .int q20 :: .ref m21 :: .ref m22 :: .ref m23 :: .ref m24 :: .int (nI 0) :: .int (nI nq.toNatClampNeg) :: .int (nI (lawM nq.toNatClampNeg tk we q33 d23 d24 d30).2.1) :: .int (nI (lawM nq.toNatClampNeg tk we q33 d23 d24 d30).2.1) :: .int (nI tk) :: .ref m30 :: .ref m31 :: .int (nI (lawM nq.toNatClampNeg tk we q33 d23 d24 d30).2.2.1) :: .int (lawM nq.toNatClampNeg tk we q33 d23 d24 d30).2.2.2.1 :: [])), (m23, .inl (cB, 300, .inl d23)), (m24, .inl (cB, 300, .inl (lp (F_X8_law_L29 d23) nq.toNatClampNeg d24))), (m30, .inl (cI, 77, .inl (lawM nq.toNatClampNeg tk we q33 d23 d24 d30).2.2.2.2)), (m31, .inl (cI, 11, .inl (upd d31 tk q11)))]) hx hb hB.1 hP hD hS 4 rfl tk rfl (by omega) (by decide) dX8_law_193 rfl (fun H locs hP hD hS => ?_)
                refine lv_aload_n hx hb dX8_law_194 rfl (lv_at hl 1 rfl) ?_
                refine lv_dup hx hb dX8_law_195 rfl ?_
                refine va_get (D := D) (ci := 8) (v := .int (nI tk)) (C := RX8) (T := TX8) (N := 34) hx hb hts hiX8 hown hB.1 hP 0 rfl rfl 29 (by decide) (hts _ (List.mem_of_getElem? (i := 2) rfl)) (fun _ h9 => h9) rfl dX8_law_196 ?_
                refine lv_iconst (v := 1) hx hb dX8_law_199 (by decide) ?_
                refine lv_iadd hx hb dX8_law_200 ?_
                rw [show (nI tk) + 1 = nI (tk + 1) from (nx_add rfl rfl)]
                refine pf (w2 := [(mA, .inr (8, .int (nI nr) :: .int (nI np) :: .ref m2 :: .ref m3 :: .ref m4 :: .ref m5 :: .ref m6 :: .ref m7 :: .ref m8 :: .int q9 :: .int q10 :: .int q11 :: .int ((nI dg) - 1) :: .int q13 :: .int q14 :: .int q15 :: .int q16 :: .int q17 :: .int q18 :: .int q19 :: .int q20 :: .ref m21 :: .ref m22 :: .ref m23 :: .ref m24 :: .int (nI 0) :: .int (nI nq.toNatClampNeg) :: .int (nI (lawM nq.toNatClampNeg tk we q33 d23 d24 d30).2.1) :: .int (nI (lawM nq.toNatClampNeg tk we q33 d23 d24 d30).2.1) :: .int (nI (tk + 1)) :: .ref m30 :: .ref m31 :: .int (nI (lawM nq.toNatClampNeg tk we q33 d23 d24 d30).2.2.1) :: .int (lawM nq.toNatClampNeg tk we q33 d23 d24 d30).2.2.2.1 :: [])), (m23, .inl (cB, 300, .inl d23)), (m24, .inl (cB, 300, .inl (lp (F_X8_law_L29 d23) nq.toNatClampNeg d24))), (m30, .inl (cI, 77, .inl (lawM nq.toNatClampNeg tk we q33 d23 d24 d30).2.2.2.2)), (m31, .inl (cI, 11, .inl (upd d31 tk q11)))]) (ci := 8) (C := RX8) (T := TX8) (N := 34) hx hb hts hiX8 tyX8 tyX8_ok nmX8 hown hB.1 hP hD hS 0 rfl rfl 29 (by decide) (hts _ (List.mem_of_getElem? (i := 2) rfl)) rfl rfl rfl rfl (Nat.le_of_ble_eq_true rfl) rfl dX8_law_201 (fun H locs hP hD hS => ?_)
                refine lv_aload_n hx hb dX8_law_204 rfl (lv_at hl 1 rfl) ?_
                refine va_get (D := D) (ci := 8) (v := .int (nI (tk + 1))) (C := RX8) (T := TX8) (N := 34) hx hb hts hiX8 hown hB.1 hP 0 rfl rfl 29 (by decide) (hts _ (List.mem_of_getElem? (i := 2) rfl)) (fun _ h9 => h9) rfl dX8_law_205 ?_
                refine lv_iconst (v := 1) hx hb dX8_law_208 (by decide) ?_
                refine lv_isub hx hb dX8_law_209 ?_
                have er : F_X8_law q33 nb tk we d23 d24 d30 nq = (nI (tk + 1)) - 1 := by rw [F_X8_law, if_neg c_1, if_neg c_2, if_pos c_7, if_neg c_8]
                have e0_25 : nI (F_X8_law_0_25 q33 nb tk we d23 d24 d30 nq) = nI 0 := by rw [F_X8_law_0_25, if_neg c_1, if_neg c_2, if_pos c_7, if_neg c_8]
                have e0_26 : nI (F_X8_law_0_26 q33 nb ln tk we d23 d24 d30 nq) = nI nq.toNatClampNeg := by rw [F_X8_law_0_26, if_neg c_1, if_neg c_2, if_pos c_7, if_neg c_8]
                have e0_27 : nI (F_X8_law_0_27 q33 nb po tk we d23 d24 d30 nq) = nI (lawM nq.toNatClampNeg tk we q33 d23 d24 d30).2.1 := by rw [F_X8_law_0_27, if_neg c_1, if_neg c_2, if_pos c_7, if_neg c_8]
                have e0_28 : F_X8_law_0_28 q28 q33 nb tk we d23 d24 d30 nq = nI (lawM nq.toNatClampNeg tk we q33 d23 d24 d30).2.1 := by rw [F_X8_law_0_28, if_neg c_1, if_neg c_2, if_pos c_7, if_neg c_8]
                have e0_29 : nI (F_X8_law_0_29 q33 nb tk we d23 d24 d30 nq) = nI (tk + 1) := by rw [F_X8_law_0_29, if_neg c_1, if_neg c_2, if_pos c_7, if_neg c_8]
                have e0_32 : nI (F_X8_law_0_32 q33 nb tk we d23 d24 d30 nq) = nI (lawM nq.toNatClampNeg tk we q33 d23 d24 d30).2.2.1 := by rw [F_X8_law_0_32, if_neg c_1, if_neg c_2, if_pos c_7, if_neg c_8]
                have e0_33 : F_X8_law_0_33 q33 nb tk we d23 d24 d30 nq = (lawM nq.toNatClampNeg tk we q33 d23 d24 d30).2.2.2.1 := by rw [F_X8_law_0_33, if_neg c_1, if_neg c_2, if_pos c_7, if_neg c_8]
                have e2 : F_X8_law_2 q33 nb tk we d23 d24 d30 nq = (lp (F_X8_law_L29 d23) nq.toNatClampNeg d24) := by rw [F_X8_law_2, if_neg c_1, if_neg c_2, if_pos c_7, if_neg c_8]
                have e3 : F_X8_law_3 q33 nb tk we d23 d24 d30 nq = (lawM nq.toNatClampNeg tk we q33 d23 d24 d30).2.2.2.2 := by rw [F_X8_law_3, if_neg c_1, if_neg c_2, if_pos c_7, if_neg c_8]
                have e4 : F_X8_law_4 q11 q33 nb tk we d23 d24 d30 d31 nq = upd d31 tk q11 := by rw [F_X8_law_4, if_neg c_1, if_neg c_2, if_pos c_7, if_neg c_8]
                exact W.iret hx hb hr (fun t ht hW => ⟨⟨_, (), rfl, er.symm, by rw [ht, e0_25, e0_26, e0_27, e0_28, e0_29, e0_32, e0_33, e2, e3, e4]; exact hP, by rw [e0_25, e0_26, e0_27, e0_28, e0_29, e0_32, e0_33, e2, e3, e4]; exact hD⟩, hS.F ht⟩) hS.2.2 dX8_law_210
              · refine lv_iconst (v := (-1)) hx hb dX8_law_179 (by decide) ?_
                have er : F_X8_law q33 nb tk we d23 d24 d30 nq = (-1) := by rw [F_X8_law, if_neg c_1, if_neg c_2, if_pos c_7, if_pos c_8]
                have e0_25 : nI (F_X8_law_0_25 q33 nb tk we d23 d24 d30 nq) = nI 0 := by rw [F_X8_law_0_25, if_neg c_1, if_neg c_2, if_pos c_7, if_pos c_8]
                have e0_26 : nI (F_X8_law_0_26 q33 nb ln tk we d23 d24 d30 nq) = nI nq.toNatClampNeg := by rw [F_X8_law_0_26, if_neg c_1, if_neg c_2, if_pos c_7, if_pos c_8]
                have e0_27 : nI (F_X8_law_0_27 q33 nb po tk we d23 d24 d30 nq) = nI (lawM nq.toNatClampNeg tk we q33 d23 d24 d30).2.1 := by rw [F_X8_law_0_27, if_neg c_1, if_neg c_2, if_pos c_7, if_pos c_8]
                have e0_28 : F_X8_law_0_28 q28 q33 nb tk we d23 d24 d30 nq = nI (lawM nq.toNatClampNeg tk we q33 d23 d24 d30).2.1 := by rw [F_X8_law_0_28, if_neg c_1, if_neg c_2, if_pos c_7, if_pos c_8]
                have e0_29 : nI (F_X8_law_0_29 q33 nb tk we d23 d24 d30 nq) = nI tk := by rw [F_X8_law_0_29, if_neg c_1, if_neg c_2, if_pos c_7, if_pos c_8]
                have e0_32 : nI (F_X8_law_0_32 q33 nb tk we d23 d24 d30 nq) = nI (lawM nq.toNatClampNeg tk we q33 d23 d24 d30).2.2.1 := by rw [F_X8_law_0_32, if_neg c_1, if_neg c_2, if_pos c_7, if_pos c_8]
                have e0_33 : F_X8_law_0_33 q33 nb tk we d23 d24 d30 nq = (lawM nq.toNatClampNeg tk we q33 d23 d24 d30).2.2.2.1 := by rw [F_X8_law_0_33, if_neg c_1, if_neg c_2, if_pos c_7, if_pos c_8]
                have e2 : F_X8_law_2 q33 nb tk we d23 d24 d30 nq = (lp (F_X8_law_L29 d23) nq.toNatClampNeg d24) := by rw [F_X8_law_2, if_neg c_1, if_neg c_2, if_pos c_7, if_pos c_8]
                have e3 : F_X8_law_3 q33 nb tk we d23 d24 d30 nq = (lawM nq.toNatClampNeg tk we q33 d23 d24 d30).2.2.2.2 := by rw [F_X8_law_3, if_neg c_1, if_neg c_2, if_pos c_7, if_pos c_8]
                have e4 : F_X8_law_4 q11 q33 nb tk we d23 d24 d30 d31 nq = d31 := by rw [F_X8_law_4, if_neg c_1, if_neg c_2, if_pos c_7, if_pos c_8]
                exact W.iret hx hb hr (fun t ht hW => ⟨⟨_, (), rfl, er.symm, by rw [ht, e0_25, e0_26, e0_27, e0_28, e0_29, e0_32, e0_33, e2, e3, e4]; exact hP, by rw [e0_25, e0_26, e0_27, e0_28, e0_29, e0_32, e0_33, e2, e3, e4]; exact hD⟩, hS.F ht⟩) hS.2.2 dX8_law_180
            · refine lv_iconst (v := (-1)) hx hb dX8_law_164 (by decide) ?_
              refine lv_goto (tgt := 172) hx hb dX8_law_165 (by decide) ?_
              refine pf (w2 := [(mA, .inr (8, .int (nI nr) :: .int (nI np) :: .ref m2 :: .ref m3 :: .ref m4 :: .ref m5 :: .ref m6 :: .ref m7 :: .ref m8 :: .int q9 :: .int q10 :: .int q11 :: .int ((nI dg) - 1) :: .int q13 :: .int q14 :: .int q15 :: .int q16 :: .int q17 :: .int q18 :: .int q19 :: .int q20 :: .ref m21 :: .ref m22 :: .ref m23 :: .ref m24 :: .int (nI 0) :: .int (nI nq.toNatClampNeg) :: .int (nI (lawM nq.toNatClampNeg tk we q33 d23 d24 d30).2.1) :: .int (-1) :: .int (nI tk) :: .ref m30 :: .ref m31 :: .int (nI (lawM nq.toNatClampNeg tk we q33 d23 d24 d30).2.2.1) :: .int (lawM nq.toNatClampNeg tk we q33 d23 d24 d30).2.2.2.1 :: [])), (m23, .inl (cB, 300, .inl d23)), (m24, .inl (cB, 300, .inl (lp (F_X8_law_L29 d23) nq.toNatClampNeg d24))), (m30, .inl (cI, 77, .inl (lawM nq.toNatClampNeg tk we q33 d23 d24 d30).2.2.2.2)), (m31, .inl (cI, 11, .inl d31))]) (ci := 8) (C := RX8) (T := TX8) (N := 34) hx hb hts hiX8 tyX8 tyX8_ok nmX8 hown hB.1 hP hD hS 0 rfl rfl 28 (by decide) (hts _ (List.mem_of_getElem? (i := 8) rfl)) rfl rfl rfl rfl (Nat.le_of_ble_eq_true rfl) rfl dX8_law_172 (fun H locs hP hD hS => ?_)
              refine lv_iload_n hx hb dX8_law_175 rfl (lv_at hl 0 rfl) ?_
              refine lv_if_ne (tgt := 181) hx hb dX8_law_176 (by decide) (fun c_9 => ?_) (fun c_9 => ?_)
              · refine lv_aload_n hx hb dX8_law_181 rfl (lv_at hl 1 rfl) ?_
                refine va_get (D := D) (ci := 8) (v := .ref m31) (C := RX8) (T := TX8) (N := 34) hx hb hts hiX8 hown hB.1 hP 0 rfl rfl 31 (by decide) (hts _ (List.mem_of_getElem? (i := 9) rfl)) (fun _ h9 => h9) rfl dX8_law_182 ?_
                refine lv_aload_n hx hb dX8_law_185 rfl (lv_at hl 1 rfl) ?_
                refine va_get (D := D) (ci := 8) (v := .int (nI tk)) (C := RX8) (T := TX8) (N := 34) hx hb hts hiX8 hown hB.1 hP 0 rfl rfl 29 (by decide) (hts _ (List.mem_of_getElem? (i := 2) rfl)) (fun _ h9 => h9) rfl dX8_law_186 ?_
                refine lv_aload_n hx hb dX8_law_189 rfl (lv_at hl 1 rfl) ?_
                refine va_get (D := D) (ci := 8) (v := .int q11) (C := RX8) (T := TX8) (N := 34) hx hb hts hiX8 hown hB.1 hP 0 rfl rfl 11 (by decide) (hts _ (List.mem_of_getElem? (i := 10) rfl)) (fun _ h9 => h9) rfl dX8_law_190 ?_
                refine wa_i (w2 := [(mA, .inr (8, .int (nI nr) :: .int (nI np) :: .ref m2 :: .ref m3 :: .ref m4 :: .ref m5 :: .ref m6 :: .ref m7 :: .ref m8 :: .int q9 :: .int q10 :: .int q11 :: .int ((nI dg) - 1) :: .int q13 :: .int q14 :: .int q15 :: .int q16 :: .int q17 :: .int q18 :: .int q19 :: .int q20 :: .ref m21 :: .ref m22 :: .ref m23 :: .ref m24 :: .int (nI 0) :: .int (nI nq.toNatClampNeg) :: .int (nI (lawM nq.toNatClampNeg tk we q33 d23 d24 d30).2.1) :: .int (-1) :: .int (nI tk) :: .ref m30 :: .ref m31 :: .int (nI (lawM nq.toNatClampNeg tk we q33 d23 d24 d30).2.2.1) :: .int (lawM nq.toNatClampNeg tk we q33 d23 d24 d30).2.2.2.1 :: [])), (m23, .inl (cB, 300, .inl d23)), (m24, .inl (cB, 300, .inl (lp (F_X8_law_L29 d23) nq.toNatClampNeg d24))), (m30, .inl (cI, 77, .inl (lawM nq.toNatClampNeg tk we q33 d23 d24 d30).2.2.2.2)), (m31, .inl (cI, 11, .inl (upd d31 tk q11)))]) hx hb hB.1 hP hD hS 4 rfl tk rfl (by omega) (by decide) dX8_law_193 rfl (fun H locs hP hD hS => ?_)
                refine lv_aload_n hx hb dX8_law_194 rfl (lv_at hl 1 rfl) ?_
                refine lv_dup hx hb dX8_law_195 rfl ?_
                refine va_get (D := D) (ci := 8) (v := .int (nI tk)) (C := RX8) (T := TX8) (N := 34) hx hb hts hiX8 hown hB.1 hP 0 rfl rfl 29 (by decide) (hts _ (List.mem_of_getElem? (i := 2) rfl)) (fun _ h9 => h9) rfl dX8_law_196 ?_
                refine lv_iconst (v := 1) hx hb dX8_law_199 (by decide) ?_
                refine lv_iadd hx hb dX8_law_200 ?_
                rw [show (nI tk) + 1 = nI (tk + 1) from (nx_add rfl rfl)]
                refine pf (w2 := [(mA, .inr (8, .int (nI nr) :: .int (nI np) :: .ref m2 :: .ref m3 :: .ref m4 :: .ref m5 :: .ref m6 :: .ref m7 :: .ref m8 :: .int q9 :: .int q10 :: .int q11 :: .int ((nI dg) - 1) :: .int q13 :: .int q14 :: .int q15 :: .int q16 :: .int q17 :: .int q18 :: .int q19 :: .int q20 :: .ref m21 :: .ref m22 :: .ref m23 :: .ref m24 :: .int (nI 0) :: .int (nI nq.toNatClampNeg) :: .int (nI (lawM nq.toNatClampNeg tk we q33 d23 d24 d30).2.1) :: .int (-1) :: .int (nI (tk + 1)) :: .ref m30 :: .ref m31 :: .int (nI (lawM nq.toNatClampNeg tk we q33 d23 d24 d30).2.2.1) :: .int (lawM nq.toNatClampNeg tk we q33 d23 d24 d30).2.2.2.1 :: [])), (m23, .inl (cB, 300, .inl d23)), (m24, .inl (cB, 300, .inl (lp (F_X8_law_L29 d23) nq.toNatClampNeg d24))), (m30, .inl (cI, 77, .inl (lawM nq.toNatClampNeg tk we q33 d23 d24 d30).2.2.2.2)), (m31, .inl (cI, 11, .inl (upd d31 tk q11)))]) (ci := 8) (C := RX8) (T := TX8) (N := 34) hx hb hts hiX8 tyX8 tyX8_ok nmX8 hown hB.1 hP hD hS 0 rfl rfl 29 (by decide) (hts _ (List.mem_of_getElem? (i := 2) rfl)) rfl rfl rfl rfl (Nat.le_of_ble_eq_true rfl) rfl dX8_law_201 (fun H locs hP hD hS => ?_)
                refine lv_aload_n hx hb dX8_law_204 rfl (lv_at hl 1 rfl) ?_
                refine va_get (D := D) (ci := 8) (v := .int (nI (tk + 1))) (C := RX8) (T := TX8) (N := 34) hx hb hts hiX8 hown hB.1 hP 0 rfl rfl 29 (by decide) (hts _ (List.mem_of_getElem? (i := 2) rfl)) (fun _ h9 => h9) rfl dX8_law_205 ?_
                refine lv_iconst (v := 1) hx hb dX8_law_208 (by decide) ?_
                refine lv_isub hx hb dX8_law_209 ?_
                have er : F_X8_law q33 nb tk we d23 d24 d30 nq = (nI (tk + 1)) - 1 := by rw [F_X8_law, if_neg c_1, if_neg c_2, if_neg c_7, if_neg c_9]
                have e0_25 : nI (F_X8_law_0_25 q33 nb tk we d23 d24 d30 nq) = nI 0 := by rw [F_X8_law_0_25, if_neg c_1, if_neg c_2, if_neg c_7, if_neg c_9]
                have e0_26 : nI (F_X8_law_0_26 q33 nb ln tk we d23 d24 d30 nq) = nI nq.toNatClampNeg := by rw [F_X8_law_0_26, if_neg c_1, if_neg c_2, if_neg c_7, if_neg c_9]
                have e0_27 : nI (F_X8_law_0_27 q33 nb po tk we d23 d24 d30 nq) = nI (lawM nq.toNatClampNeg tk we q33 d23 d24 d30).2.1 := by rw [F_X8_law_0_27, if_neg c_1, if_neg c_2, if_neg c_7, if_neg c_9]
                have e0_28 : F_X8_law_0_28 q28 q33 nb tk we d23 d24 d30 nq = (-1) := by rw [F_X8_law_0_28, if_neg c_1, if_neg c_2, if_neg c_7, if_neg c_9]
                have e0_29 : nI (F_X8_law_0_29 q33 nb tk we d23 d24 d30 nq) = nI (tk + 1) := by rw [F_X8_law_0_29, if_neg c_1, if_neg c_2, if_neg c_7, if_neg c_9]
                have e0_32 : nI (F_X8_law_0_32 q33 nb tk we d23 d24 d30 nq) = nI (lawM nq.toNatClampNeg tk we q33 d23 d24 d30).2.2.1 := by rw [F_X8_law_0_32, if_neg c_1, if_neg c_2, if_neg c_7, if_neg c_9]
                have e0_33 : F_X8_law_0_33 q33 nb tk we d23 d24 d30 nq = (lawM nq.toNatClampNeg tk we q33 d23 d24 d30).2.2.2.1 := by rw [F_X8_law_0_33, if_neg c_1, if_neg c_2, if_neg c_7, if_neg c_9]
                have e2 : F_X8_law_2 q33 nb tk we d23 d24 d30 nq = (lp (F_X8_law_L29 d23) nq.toNatClampNeg d24) := by rw [F_X8_law_2, if_neg c_1, if_neg c_2, if_neg c_7, if_neg c_9]
                have e3 : F_X8_law_3 q33 nb tk we d23 d24 d30 nq = (lawM nq.toNatClampNeg tk we q33 d23 d24 d30).2.2.2.2 := by rw [F_X8_law_3, if_neg c_1, if_neg c_2, if_neg c_7, if_neg c_9]
                have e4 : F_X8_law_4 q11 q33 nb tk we d23 d24 d30 d31 nq = upd d31 tk q11 := by rw [F_X8_law_4, if_neg c_1, if_neg c_2, if_neg c_7, if_neg c_9]
                exact W.iret hx hb hr (fun t ht hW => ⟨⟨_, (), rfl, er.symm, by rw [ht, e0_25, e0_26, e0_27, e0_28, e0_29, e0_32, e0_33, e2, e3, e4]; exact hP, by rw [e0_25, e0_26, e0_27, e0_28, e0_29, e0_32, e0_33, e2, e3, e4]; exact hD⟩, hS.F ht⟩) hS.2.2 dX8_law_210
              · refine lv_iconst (v := (-1)) hx hb dX8_law_179 (by decide) ?_
                have er : F_X8_law q33 nb tk we d23 d24 d30 nq = (-1) := by rw [F_X8_law, if_neg c_1, if_neg c_2, if_neg c_7, if_pos c_9]
                have e0_25 : nI (F_X8_law_0_25 q33 nb tk we d23 d24 d30 nq) = nI 0 := by rw [F_X8_law_0_25, if_neg c_1, if_neg c_2, if_neg c_7, if_pos c_9]
                have e0_26 : nI (F_X8_law_0_26 q33 nb ln tk we d23 d24 d30 nq) = nI nq.toNatClampNeg := by rw [F_X8_law_0_26, if_neg c_1, if_neg c_2, if_neg c_7, if_pos c_9]
                have e0_27 : nI (F_X8_law_0_27 q33 nb po tk we d23 d24 d30 nq) = nI (lawM nq.toNatClampNeg tk we q33 d23 d24 d30).2.1 := by rw [F_X8_law_0_27, if_neg c_1, if_neg c_2, if_neg c_7, if_pos c_9]
                have e0_28 : F_X8_law_0_28 q28 q33 nb tk we d23 d24 d30 nq = (-1) := by rw [F_X8_law_0_28, if_neg c_1, if_neg c_2, if_neg c_7, if_pos c_9]
                have e0_29 : nI (F_X8_law_0_29 q33 nb tk we d23 d24 d30 nq) = nI tk := by rw [F_X8_law_0_29, if_neg c_1, if_neg c_2, if_neg c_7, if_pos c_9]
                have e0_32 : nI (F_X8_law_0_32 q33 nb tk we d23 d24 d30 nq) = nI (lawM nq.toNatClampNeg tk we q33 d23 d24 d30).2.2.1 := by rw [F_X8_law_0_32, if_neg c_1, if_neg c_2, if_neg c_7, if_pos c_9]
                have e0_33 : F_X8_law_0_33 q33 nb tk we d23 d24 d30 nq = (lawM nq.toNatClampNeg tk we q33 d23 d24 d30).2.2.2.1 := by rw [F_X8_law_0_33, if_neg c_1, if_neg c_2, if_neg c_7, if_pos c_9]
                have e2 : F_X8_law_2 q33 nb tk we d23 d24 d30 nq = (lp (F_X8_law_L29 d23) nq.toNatClampNeg d24) := by rw [F_X8_law_2, if_neg c_1, if_neg c_2, if_neg c_7, if_pos c_9]
                have e3 : F_X8_law_3 q33 nb tk we d23 d24 d30 nq = (lawM nq.toNatClampNeg tk we q33 d23 d24 d30).2.2.2.2 := by rw [F_X8_law_3, if_neg c_1, if_neg c_2, if_neg c_7, if_pos c_9]
                have e4 : F_X8_law_4 q11 q33 nb tk we d23 d24 d30 d31 nq = d31 := by rw [F_X8_law_4, if_neg c_1, if_neg c_2, if_neg c_7, if_pos c_9]
                exact W.iret hx hb hr (fun t ht hW => ⟨⟨_, (), rfl, er.symm, by rw [ht, e0_25, e0_26, e0_27, e0_28, e0_29, e0_32, e0_33, e2, e3, e4]; exact hP, by rw [e0_25, e0_26, e0_27, e0_28, e0_29, e0_32, e0_33, e2, e3, e4]; exact hD⟩, hS.F ht⟩) hS.2.2 dX8_law_180
          · intro J_159
            refine lpM (σ := Nat × Int32 × Nat × Nat × Int32 × (Nat → Int32)) (fun x => x.2.2.1 ≤ nq.toNatClampNeg ∧ ((x.2.1 = 0 ∧ x.1 ≤ 13 ∧ lawM nq.toNatClampNeg tk we q33 d23 d24 d30 = (0, x.2.2.1, x.2.2.2.1, x.2.2.2.2.1, x.2.2.2.2.2)) ∨ (x.2.1 = 1 ∧ x.1 ≤ 12 ∧ lawM nq.toNatClampNeg tk we q33 d23 d24 d30 = rdM nq.toNatClampNeg tk (lp (F_X8_law_L29 d23) nq.toNatClampNeg d24) (12 - x.1) x.2.2.1 x.2.2.2.1 x.2.2.2.2.1 x.2.2.2.2.2))) (fun x => if x.2.1 = 0 then 0 else 14 - x.1) (fun x => [(mA, .inr (8, .int (nI nr) :: .int (nI np) :: .ref m2 :: .ref m3 :: .ref m4 :: .ref m5 :: .ref m6 :: .ref m7 :: .ref m8 :: .int q9 :: .int q10 :: .int q11 :: .int ((nI dg) - 1) :: .int q13 :: .int q14 :: .int q15 :: .int q16 :: .int q17 :: .int q18 :: .int q19 :: .int q20 :: .ref m21 :: .ref m22 :: .ref m23 :: .ref m24 :: .int (nI 0) :: .int (nI nq.toNatClampNeg) :: .int (nI x.2.2.1) :: .int q28 :: .int (nI tk) :: .ref m30 :: .ref m31 :: .int (nI x.2.2.2.1) :: .int x.2.2.2.2.1 :: [])), (m23, .inl (cB, 300, .inl d23)), (m24, .inl (cB, 300, .inl (lp (F_X8_law_L29 d23) nq.toNatClampNeg d24))), (m30, .inl (cI, 77, .inl x.2.2.2.2.2)), (m31, .inl (cI, 11, .inl d31))]) (fun x => [(3, .int x.2.1), (2, .int (nI x.1)), (0, .ref mA), (1, .int nq)]) (0, 1, (sk (blM (lp (F_X8_law_L29 d23) nq.toNatClampNeg d24)) nq.toNatClampNeg 0), we, q33, (lp (F_X8_law_L69 tk) 7 d30)) ⟨(sk_le (Nat.zero_le _)).1, Or.inr ⟨rfl, Nat.zero_le _, rfl⟩⟩ hP hD hS (lv_sub hl [0, 1, 2, 3] rfl) ?_
            intro x ⟨hq1, hq2⟩ ih_x H locs ls hP hD hS hl
            have hP : va_P D vwCl [(mA, .inr (8, .int (nI nr) :: .int (nI np) :: .ref m2 :: .ref m3 :: .ref m4 :: .ref m5 :: .ref m6 :: .ref m7 :: .ref m8 :: .int q9 :: .int q10 :: .int q11 :: .int ((nI dg) - 1) :: .int q13 :: .int q14 :: .int q15 :: .int q16 :: .int q17 :: .int q18 :: .int q19 :: .int q20 :: .ref m21 :: .ref m22 :: .ref m23 :: .ref m24 :: .int (nI 0) :: .int (nI nq.toNatClampNeg) :: .int (nI x.2.2.1) :: .int q28 :: .int (nI tk) :: .ref m30 :: .ref m31 :: .int (nI x.2.2.2.1) :: .int x.2.2.2.2.1 :: [])), (m23, .inl (cB, 300, .inl d23)), (m24, .inl (cB, 300, .inl (lp (F_X8_law_L29 d23) nq.toNatClampNeg d24))), (m30, .inl (cI, 77, .inl x.2.2.2.2.2)), (m31, .inl (cI, 11, .inl d31))] H := hP
            have hD : va_D A [(mA, .inr (8, .int (nI nr) :: .int (nI np) :: .ref m2 :: .ref m3 :: .ref m4 :: .ref m5 :: .ref m6 :: .ref m7 :: .ref m8 :: .int q9 :: .int q10 :: .int q11 :: .int ((nI dg) - 1) :: .int q13 :: .int q14 :: .int q15 :: .int q16 :: .int q17 :: .int q18 :: .int q19 :: .int q20 :: .ref m21 :: .ref m22 :: .ref m23 :: .ref m24 :: .int (nI 0) :: .int (nI nq.toNatClampNeg) :: .int (nI x.2.2.1) :: .int q28 :: .int (nI tk) :: .ref m30 :: .ref m31 :: .int (nI x.2.2.2.1) :: .int x.2.2.2.2.1 :: [])), (m23, .inl (cB, 300, .inl d23)), (m24, .inl (cB, 300, .inl (lp (F_X8_law_L29 d23) nq.toNatClampNeg d24))), (m30, .inl (cI, 77, .inl x.2.2.2.2.2)), (m31, .inl (cI, 11, .inl d31))] := hD
            have hl : lv_has ls 4 [(3, .int x.2.1), (2, .int (nI x.1)), (0, .ref mA), (1, .int nq)] := hl
            refine lv_iload_n hx hb dX8_law_107 rfl (lv_at hl 0 rfl) ?_
            refine lv_if_eq (tgt := 159) hx hb dX8_law_108 (by decide) (fun c_10 => ?_) (fun c_10 => ?_)
            · have hT : lawM nq.toNatClampNeg tk we q33 d23 d24 d30 = (0, x.2.2.1, x.2.2.2.1, x.2.2.2.2.1, x.2.2.2.2.2) := by
                rcases hq2 with ⟨-, -, q⟩ | ⟨q, -, -⟩
                · exact q
                · rw [c_10] at q; exact absurd q (by decide)
              rw [c_10] at hl
              rw [hT] at J_159
              exact J_159 _ _ _ hP hD hS (lv_sub hl [0, 2, 3] rfl)
            · obtain ⟨hr1, hm, hT⟩ : x.2.1 = 1 ∧ x.1 ≤ 12 ∧ lawM nq.toNatClampNeg tk we q33 d23 d24 d30 = rdM nq.toNatClampNeg tk (lp (F_X8_law_L29 d23) nq.toNatClampNeg d24) (12 - x.1) x.2.2.1 x.2.2.2.1 x.2.2.2.2.1 x.2.2.2.2.2 := hq2.resolve_left (fun q => c_10 q.1)
              refine lv_aload_n hx hb dX8_law_111 rfl (lv_at hl 2 rfl) ?_
              refine va_get (D := D) (ci := 8) (v := .int (nI x.2.2.1)) (C := RX8) (T := TX8) (N := 34) hx hb hts hiX8 hown hB.1 hP 0 rfl rfl 27 (by decide) (hts _ (List.mem_of_getElem? (i := 6) rfl)) (fun _ h9 => h9) rfl dX8_law_112 ?_
              refine lv_aload_n hx hb dX8_law_115 rfl (lv_at hl 2 rfl) ?_
              refine va_get (D := D) (ci := 8) (v := .int (nI nq.toNatClampNeg)) (C := RX8) (T := TX8) (N := 34) hx hb hts hiX8 hown hB.1 hP 0 rfl rfl 26 (by decide) (hts _ (List.mem_of_getElem? (i := 5) rfl)) (fun _ h9 => h9) rfl dX8_law_116 ?_
              refine lv_icmp_ge (tgt := 159) hx hb dX8_law_119 (by decide) (fun c_11 => ?_) (fun c_11 => ?_)
              · have hT := hT.trans (rdM_end _ (by have := le_ex (by omega) hq1 c_11; omega))
                rw [hr1] at hl
                rw [hT] at J_159
                exact J_159 _ _ _ hP hD hS (lv_sub hl [0, 2, 3] rfl)
              · have hlt := le_go (by omega) hq1 c_11
                refine lv_iload_n hx hb dX8_law_122 rfl (lv_at hl 1 rfl) ?_
                refine lv_bipush (v := 12) hx hb dX8_law_123 (by decide) ?_
                refine lv_icmp_ge (tgt := 143) hx hb dX8_law_125 (by decide) (fun c_12 => ?_) (fun c_12 => ?_)
                · have hm12 : x.1 = 12 := le_ex (N := 12) (by decide) hm c_12
                  refine lv_iconst (v := 0) hx hb dX8_law_143 (by decide) ?_
                  refine lv_istore_n (lv' := [(3, .int 0), (2, .int (nI x.1)), (0, .ref mA), (1, .int nq)]) hx hb dX8_law_144 rfl hl (by decide) rfl (fun ls hl => ?_)
                  refine lv_iinc (v := nI (x.1 + 1)) (lv' := [(2, .int (nI (x.1 + 1))), (3, .int 0), (0, .ref mA), (1, .int nq)]) hx hb dX8_law_145 hl (k := 1) rfl (nI_1 _) (by decide) rfl (fun ls hl => ?_)
                  refine lv_iload_n hx hb dX8_law_148 rfl (lv_at hl 1 rfl) ?_
                  refine lv_if_eq (tgt := 107) hx hb dX8_law_149 (by decide) (fun c_13 => ?_) (fun c_13 => ?_)
                  · exact ih_x (x.1 + 1, 0, x.2.2.1, x.2.2.2.1, x.2.2.2.2.1, x.2.2.2.2.2) ⟨hq1, Or.inl ⟨rfl, by show x.1 + 1 ≤ 13; omega, hT.trans (rdM_13 hm12 hlt)⟩⟩ (mu0 hr1 hm) _ _ _ hP hD hS (lv_sub hl [1, 0, 2, 3] rfl)
                  · exact absurd c_13 (by decide)
                · have hmlt := le_go (N := 12) (by decide) hm c_12
                  refine lv_aload_n hx hb dX8_law_128 rfl (lv_at hl 2 rfl) ?_
                  refine lv_aload_n hx hb dX8_law_129 rfl (lv_at hl 2 rfl) ?_
                  refine va_get (D := D) (ci := 8) (v := .int (nI tk)) (C := RX8) (T := TX8) (N := 34) hx hb hts hiX8 hown hB.1 hP 0 rfl rfl 29 (by decide) (hts _ (List.mem_of_getElem? (i := 2) rfl)) (fun _ h9 => h9) rfl dX8_law_130 ?_
                  refine k_i (w2 := [(mA, .inr (8, .int (nI nr) :: .int (nI np) :: .ref m2 :: .ref m3 :: .ref m4 :: .ref m5 :: .ref m6 :: .ref m7 :: .ref m8 :: .int q9 :: .int q10 :: .int q11 :: .int ((nI dg) - 1) :: .int q13 :: .int q14 :: .int q15 :: .int q16 :: .int q17 :: .int q18 :: .int q19 :: .int q20 :: .ref m21 :: .ref m22 :: .ref m23 :: .ref m24 :: .int (nI 0) :: .int (nI nq.toNatClampNeg) :: .int (nI (F_X8_statement_0_27 nq.toNatClampNeg x.2.2.1 (lp (F_X8_law_L29 d23) nq.toNatClampNeg d24))) :: .int q28 :: .int (nI tk) :: .ref m30 :: .ref m31 :: .int (nI (F_X8_statement_0_32 nq.toNatClampNeg x.2.2.1 (lp (F_X8_law_L29 d23) nq.toNatClampNeg d24))) :: .int (F_X8_statement_0_33 x.2.2.2.2.1 nq.toNatClampNeg x.2.2.1 (lp (F_X8_law_L29 d23) nq.toNatClampNeg d24)) :: [])), (m23, .inl (cB, 300, .inl d23)), (m24, .inl (cB, 300, .inl (lp (F_X8_law_L29 d23) nq.toNatClampNeg d24))), (m30, .inl (cI, 77, .inl (F_X8_statement_2 nq.toNatClampNeg x.2.2.1 (lp (F_X8_law_L29 d23) nq.toNatClampNeg d24) x.2.2.2.2.2 tk))), (m31, .inl (cI, 11, .inl d31))]) (va_runV (As := [.int (nI tk)]) (rest := []) ⟨hx, hb, hml, hown, hts⟩ (c_X8_statement l _ mA m2 m3 m4 m5 m6 m7 m8 m21 m22 m23 m24 m30 m31 q9 q10 q11 q13 q14 q15 q16 q17 q18 q19 q20 q28 x.2.2.2.2.1 nr np 0 nq.toNatClampNeg x.2.2.1 tk x.2.2.2.1 dg (lp (F_X8_law_L29 d23) nq.toNatClampNeg d24) x.2.2.2.2.2 (nI tk) tk h20 h2r h2p h8 hq1 (by omega) rfl htk) (cwV 1 hts gX8_law_X8_statement rfl rfl rfl (by decide +kernel) ⟨Nat.le_of_ble_eq_true rfl, Nat.le_of_ble_eq_true rfl⟩) (pre_V (ci := 8) (q0 := 0) hB hz hA0 hP hD hS [0, 2, 3] rfl rfl rfl rfl rfl) rfl rfl hl.1 rfl (lv_room (Nat.le_of_ble_eq_true rfl)) dX8_law_133 ⟨Nat.zero_le _, Nat.zero_le _⟩) hP hD hS hA [0, 2, 3] [1, 4] [2, 0, 3, 4, 1] rfl rfl rfl rfl rfl (fun H locs hP hD hS => ?_)
                  refine lv_if_eq (tgt := 143) hx hb dX8_law_136 (by decide) (fun c_14 => ?_) (fun c_14 => ?_)
                  · have hst := c_14
                    refine lv_iconst (v := 0) hx hb dX8_law_143 (by decide) ?_
                    refine lv_istore_n (lv' := [(3, .int 0), (2, .int (nI x.1)), (0, .ref mA), (1, .int nq)]) hx hb dX8_law_144 rfl hl (by decide) rfl (fun ls hl => ?_)
                    refine lv_iinc (v := nI (x.1 + 1)) (lv' := [(2, .int (nI (x.1 + 1))), (3, .int 0), (0, .ref mA), (1, .int nq)]) hx hb dX8_law_145 hl (k := 1) rfl (nI_1 _) (by decide) rfl (fun ls hl => ?_)
                    refine lv_iload_n hx hb dX8_law_148 rfl (lv_at hl 1 rfl) ?_
                    refine lv_if_eq (tgt := 107) hx hb dX8_law_149 (by decide) (fun c_15 => ?_) (fun c_15 => ?_)
                    · exact ih_x (x.1 + 1, 0, F_X8_statement_0_27 nq.toNatClampNeg x.2.2.1 (lp (F_X8_law_L29 d23) nq.toNatClampNeg d24), F_X8_statement_0_32 nq.toNatClampNeg x.2.2.1 (lp (F_X8_law_L29 d23) nq.toNatClampNeg d24), F_X8_statement_0_33 x.2.2.2.2.1 nq.toNatClampNeg x.2.2.1 (lp (F_X8_law_L29 d23) nq.toNatClampNeg d24), F_X8_statement_2 nq.toNatClampNeg x.2.2.1 (lp (F_X8_law_L29 d23) nq.toNatClampNeg d24) x.2.2.2.2.2 tk) ⟨st27_le hq1 (by omega), Or.inl ⟨rfl, by show x.1 + 1 ≤ 13; omega, hT.trans (rdM_bad hmlt hlt hst)⟩⟩ (mu0 hr1 hm) _ _ _ hP hD hS (lv_sub hl [1, 0, 2, 3] rfl)
                    · exact absurd c_15 (by decide)
                  · have hst := c_14
                    refine lv_iconst (v := 1) hx hb dX8_law_139 (by decide) ?_
                    refine lv_goto (tgt := 144) hx hb dX8_law_140 (by decide) ?_
                    refine lv_istore_n (lv' := [(3, .int 1), (2, .int (nI x.1)), (0, .ref mA), (1, .int nq)]) hx hb dX8_law_144 rfl hl (by decide) rfl (fun ls hl => ?_)
                    refine lv_iinc (v := nI (x.1 + 1)) (lv' := [(2, .int (nI (x.1 + 1))), (3, .int 1), (0, .ref mA), (1, .int nq)]) hx hb dX8_law_145 hl (k := 1) rfl (nI_1 _) (by decide) rfl (fun ls hl => ?_)
                    refine lv_iload_n hx hb dX8_law_148 rfl (lv_at hl 1 rfl) ?_
                    refine lv_if_eq (tgt := 107) hx hb dX8_law_149 (by decide) (fun c_16 => ?_) (fun c_16 => ?_)
                    · exact absurd c_16 (by decide)
                    · refine lv_aload_n hx hb dX8_law_152 rfl (lv_at hl 2 rfl) ?_
                      refine k_v (w2 := [(mA, .inr (8, .int (nI nr) :: .int (nI np) :: .ref m2 :: .ref m3 :: .ref m4 :: .ref m5 :: .ref m6 :: .ref m7 :: .ref m8 :: .int q9 :: .int q10 :: .int q11 :: .int ((nI dg) - 1) :: .int q13 :: .int q14 :: .int q15 :: .int q16 :: .int q17 :: .int q18 :: .int q19 :: .int q20 :: .ref m21 :: .ref m22 :: .ref m23 :: .ref m24 :: .int (nI 0) :: .int (nI nq.toNatClampNeg) :: .int (nI (sk (blM (lp (F_X8_law_L29 d23) nq.toNatClampNeg d24)) nq.toNatClampNeg (F_X8_statement_0_27 nq.toNatClampNeg x.2.2.1 (lp (F_X8_law_L29 d23) nq.toNatClampNeg d24)))) :: .int q28 :: .int (nI tk) :: .ref m30 :: .ref m31 :: .int (nI (F_X8_statement_0_32 nq.toNatClampNeg x.2.2.1 (lp (F_X8_law_L29 d23) nq.toNatClampNeg d24))) :: .int (F_X8_statement_0_33 x.2.2.2.2.1 nq.toNatClampNeg x.2.2.1 (lp (F_X8_law_L29 d23) nq.toNatClampNeg d24)) :: [])), (m23, .inl (cB, 300, .inl d23)), (m24, .inl (cB, 300, .inl (lp (F_X8_law_L29 d23) nq.toNatClampNeg d24))), (m30, .inl (cI, 77, .inl (F_X8_statement_2 nq.toNatClampNeg x.2.2.1 (lp (F_X8_law_L29 d23) nq.toNatClampNeg d24) x.2.2.2.2.2 tk))), (m31, .inl (cI, 11, .inl d31))]) (va_runV (As := []) (rest := []) ⟨hx, hb, hml, hown, hts⟩ (c_X8_blanks l _ mA m2 m3 m4 m5 m6 m7 m8 m21 m22 m23 m24 m30 m31 q9 q10 q11 q13 q14 q15 q16 q17 q18 q19 q20 q28 (F_X8_statement_0_33 x.2.2.2.2.1 nq.toNatClampNeg x.2.2.1 (lp (F_X8_law_L29 d23) nq.toNatClampNeg d24)) nr np 0 nq.toNatClampNeg (F_X8_statement_0_27 nq.toNatClampNeg x.2.2.1 (lp (F_X8_law_L29 d23) nq.toNatClampNeg d24)) tk (F_X8_statement_0_32 nq.toNatClampNeg x.2.2.1 (lp (F_X8_law_L29 d23) nq.toNatClampNeg d24)) dg (lp (F_X8_law_L29 d23) nq.toNatClampNeg d24) h20 h2r h2p h8 (st27_le hq1 (by omega)) (by omega)) (cwV 0 hts gX8_law_X8_blanks rfl rfl rfl (by decide +kernel) ⟨Nat.le_of_ble_eq_true rfl, Nat.le_of_ble_eq_true rfl⟩) (pre_V (ci := 8) (q0 := 0) hB hz hA0 hP hD hS [0, 2] rfl rfl rfl rfl rfl) rfl rfl hl.1 rfl (lv_room (Nat.le_of_ble_eq_true rfl)) dX8_law_153 ⟨Nat.zero_le _, Nat.zero_le _⟩) hP hD hS hA [0, 2] [1, 3, 4] [3, 0, 4, 1, 2] rfl rfl rfl rfl rfl (fun H locs hP hD hS => ?_)
                      refine lv_goto (tgt := 107) hx hb dX8_law_156 (by decide) ?_
                      exact ih_x (x.1 + 1, 1, (sk (blM (lp (F_X8_law_L29 d23) nq.toNatClampNeg d24)) nq.toNatClampNeg (F_X8_statement_0_27 nq.toNatClampNeg x.2.2.1 (lp (F_X8_law_L29 d23) nq.toNatClampNeg d24))), (F_X8_statement_0_32 nq.toNatClampNeg x.2.2.1 (lp (F_X8_law_L29 d23) nq.toNatClampNeg d24)), (F_X8_statement_0_33 x.2.2.2.2.1 nq.toNatClampNeg x.2.2.1 (lp (F_X8_law_L29 d23) nq.toNatClampNeg d24)), F_X8_statement_2 nq.toNatClampNeg x.2.2.1 (lp (F_X8_law_L29 d23) nq.toNatClampNeg d24) x.2.2.2.2.2 tk) ⟨(sk_le (st27_le hq1 (by omega))).1, Or.inr ⟨rfl, hmlt, hT.trans (rdM_good hmlt hlt hst)⟩⟩ (mu1 hr1 hm) _ _ _ hP hD hS (lv_sub hl [1, 0, 2, 3] rfl)
        · have hlt_t : t < 7 := le_go (N := 7) (by decide) h_t c_6
          refine lv_aload_n hx hb dX8_law_75 rfl (lv_at hl 1 rfl) ?_
          refine va_get (D := D) (ci := 8) (v := .ref m30) (C := RX8) (T := TX8) (N := 34) hx hb hts hiX8 hown hB.1 hP 0 rfl rfl 30 (by decide) (hts _ (List.mem_of_getElem? (i := 7) rfl)) (fun _ h9 => h9) rfl dX8_law_76 ?_
          refine lv_bipush (v := 7) hx hb dX8_law_79 (by decide) ?_
          refine lv_aload_n hx hb dX8_law_81 rfl (lv_at hl 1 rfl) ?_
          refine va_get (D := D) (ci := 8) (v := .int (nI tk)) (C := RX8) (T := TX8) (N := 34) hx hb hts hiX8 hown hB.1 hP 0 rfl rfl 29 (by decide) (hts _ (List.mem_of_getElem? (i := 2) rfl)) (fun _ h9 => h9) rfl dX8_law_82 ?_
          refine lv_imul hx hb dX8_law_85 ?_
          refine lv_iload_n hx hb dX8_law_86 rfl (lv_at hl 0 rfl) ?_
          refine lv_iadd hx hb dX8_law_87 ?_
          refine lv_iload_n hx hb dX8_law_88 rfl (lv_at hl 0 rfl) ?_
          refine k_i (w2 := [(mA, .inr (8, .int (nI nr) :: .int (nI np) :: .ref m2 :: .ref m3 :: .ref m4 :: .ref m5 :: .ref m6 :: .ref m7 :: .ref m8 :: .int q9 :: .int q10 :: .int q11 :: .int ((nI dg) - 1) :: .int q13 :: .int q14 :: .int q15 :: .int q16 :: .int q17 :: .int q18 :: .int q19 :: .int q20 :: .ref m21 :: .ref m22 :: .ref m23 :: .ref m24 :: .int 0 :: .int (nI nq.toNatClampNeg) :: .int 0 :: .int q28 :: .int (nI tk) :: .ref m30 :: .ref m31 :: .int (nI we) :: .int q33 :: [])), (m23, .inl (cB, 300, .inl d23)), (m24, .inl (cB, 300, .inl (lp (F_X8_law_L29 d23) nq.toNatClampNeg d24))), (m30, .inl (cI, 77, .inl sv5)), (m31, .inl (cI, 11, .inl d31))]) (va_runS (As := [.int (nI t)]) (rest := [.int ((7 * (nI tk)) + (nI t)), .ref m30]) ⟨hx, hb, hml, hown, hts⟩ (c_X8_plain l _ (nI t)) (va_cwS 1 hts gX8_law_X8_plain rfl rfl rfl (by decide +kernel) ⟨Nat.le_of_ble_eq_true rfl, Nat.le_of_ble_eq_true rfl⟩) (pre_S hB hz hA0 hP hD hS [] rfl rfl) rfl rfl hl.1 rfl (lv_room (Nat.le_of_ble_eq_true rfl)) dX8_law_89 ⟨Nat.zero_le _, Nat.zero_le _⟩) hP hD hS hA [] [0, 1, 2, 3, 4] [0, 1, 2, 3, 4] rfl rfl rfl rfl rfl (fun H locs hP hD hS => ?_)
          refine wa_i (w2 := [(mA, .inr (8, .int (nI nr) :: .int (nI np) :: .ref m2 :: .ref m3 :: .ref m4 :: .ref m5 :: .ref m6 :: .ref m7 :: .ref m8 :: .int q9 :: .int q10 :: .int q11 :: .int ((nI dg) - 1) :: .int q13 :: .int q14 :: .int q15 :: .int q16 :: .int q17 :: .int q18 :: .int q19 :: .int q20 :: .ref m21 :: .ref m22 :: .ref m23 :: .ref m24 :: .int 0 :: .int (nI nq.toNatClampNeg) :: .int 0 :: .int q28 :: .int (nI tk) :: .ref m30 :: .ref m31 :: .int (nI we) :: .int q33 :: [])), (m23, .inl (cB, 300, .inl d23)), (m24, .inl (cB, 300, .inl (lp (F_X8_law_L29 d23) nq.toNatClampNeg d24))), (m30, .inl (cI, 77, .inl (upd sv5 ((7 * tk) + t) (F_X8_plain (nI t))))), (m31, .inl (cI, 11, .inl d31))]) hx hb hB.1 hP hD hS 3 rfl ((7 * tk) + t) (nx_add (nx_mul rfl rfl) rfl) (by omega) (by decide) dX8_law_92 rfl (fun H locs hP hD hS => ?_)
          refine lv_iinc (v := nI (t + 1)) (lv' := [(2, .int (nI (t + 1))), (0, .ref mA), (1, .int nq)]) hx hb dX8_law_93 hl (k := 0) rfl (nI_1 _) (by decide) rfl (fun ls hl => ?_)
          refine lv_goto (tgt := 69) hx hb dX8_law_96 (by decide) ?_
          have e_step : F_X8_law_L69 tk t sv5 = upd sv5 ((7 * tk) + t) (F_X8_plain (nI t)) := by rw [F_X8_law_L69]
          have hP2 : va_P D vwCl [(mA, .inr (8, .int (nI nr) :: .int (nI np) :: .ref m2 :: .ref m3 :: .ref m4 :: .ref m5 :: .ref m6 :: .ref m7 :: .ref m8 :: .int q9 :: .int q10 :: .int q11 :: .int ((nI dg) - 1) :: .int q13 :: .int q14 :: .int q15 :: .int q16 :: .int q17 :: .int q18 :: .int q19 :: .int q20 :: .ref m21 :: .ref m22 :: .ref m23 :: .ref m24 :: .int 0 :: .int (nI nq.toNatClampNeg) :: .int 0 :: .int q28 :: .int (nI tk) :: .ref m30 :: .ref m31 :: .int (nI we) :: .int q33 :: [])), (m23, .inl (cB, 300, .inl d23)), (m24, .inl (cB, 300, .inl (lp (F_X8_law_L29 d23) nq.toNatClampNeg d24))), (m30, .inl (cI, 77, .inl (F_X8_law_L69 tk t sv5))), (m31, .inl (cI, 11, .inl d31))] H := by rw [e_step]; exact hP
          have hD2 : va_D A [(mA, .inr (8, .int (nI nr) :: .int (nI np) :: .ref m2 :: .ref m3 :: .ref m4 :: .ref m5 :: .ref m6 :: .ref m7 :: .ref m8 :: .int q9 :: .int q10 :: .int q11 :: .int ((nI dg) - 1) :: .int q13 :: .int q14 :: .int q15 :: .int q16 :: .int q17 :: .int q18 :: .int q19 :: .int q20 :: .ref m21 :: .ref m22 :: .ref m23 :: .ref m24 :: .int 0 :: .int (nI nq.toNatClampNeg) :: .int 0 :: .int q28 :: .int (nI tk) :: .ref m30 :: .ref m31 :: .int (nI we) :: .int q33 :: [])), (m23, .inl (cB, 300, .inl d23)), (m24, .inl (cB, 300, .inl (lp (F_X8_law_L29 d23) nq.toNatClampNeg d24))), (m30, .inl (cI, 77, .inl (F_X8_law_L69 tk t sv5))), (m31, .inl (cI, 11, .inl d31))] := by rw [e_step]; exact hD
          have hl2 : lv_has ls 4 [(2, .int (nI (t + 1))), (0, .ref mA), (1, .int nq)] := lv_sub hl [0, 1, 2] rfl
          subst hs_t
          exact ih_t (t + 1) (by omega) (by omega) _ _ _ hP2 hD2 hS hl2
      · have hlt_t : t < nq.toNatClampNeg := le_go (N := nq.toNatClampNeg) (by omega) h_t (by rw [← hn1]; exact c_4)
        refine lv_aload_n hx hb dX8_law_34 rfl (lv_at hl 1 rfl) ?_
        refine va_get (D := D) (ci := 8) (v := .ref m24) (C := RX8) (T := TX8) (N := 34) hx hb hts hiX8 hown hB.1 hP 0 rfl rfl 24 (by decide) (hts _ (List.mem_of_getElem? (i := 3) rfl)) (fun _ h9 => h9) rfl dX8_law_35 ?_
        refine lv_iload_n hx hb dX8_law_38 rfl (lv_at hl 0 rfl) ?_
        refine lv_aload_n hx hb dX8_law_39 rfl (lv_at hl 1 rfl) ?_
        refine va_get (D := D) (ci := 8) (v := .ref m23) (C := RX8) (T := TX8) (N := 34) hx hb hts hiX8 hown hB.1 hP 0 rfl rfl 23 (by decide) (hts _ (List.mem_of_getElem? (i := 4) rfl)) (fun _ h9 => h9) rfl dX8_law_40 ?_
        refine lv_iload_n hx hb dX8_law_43 rfl (lv_at hl 0 rfl) ?_
        refine ra_b hx hb hB.1 hP 1 rfl t rfl (by omega) (by decide) dX8_law_44 ?_
        refine wa_b (w2 := [(mA, .inr (8, .int (nI nr) :: .int (nI np) :: .ref m2 :: .ref m3 :: .ref m4 :: .ref m5 :: .ref m6 :: .ref m7 :: .ref m8 :: .int q9 :: .int q10 :: .int q11 :: .int ((nI dg) - 1) :: .int q13 :: .int q14 :: .int q15 :: .int q16 :: .int q17 :: .int q18 :: .int q19 :: .int q20 :: .ref m21 :: .ref m22 :: .ref m23 :: .ref m24 :: .int (nI nb) :: .int (nI ln) :: .int (nI po) :: .int q28 :: .int (nI tk) :: .ref m30 :: .ref m31 :: .int (nI we) :: .int q33 :: [])), (m23, .inl (cB, 300, .inl d23)), (m24, .inl (cB, 300, .inl (upd sv3 t (vp_nar .byte (d23 t))))), (m30, .inl (cI, 77, .inl d30)), (m31, .inl (cI, 11, .inl d31))]) hx hb hB.1 hP hD hS 2 rfl t rfl (by omega) (by decide) dX8_law_45 rfl (fun H locs hP hD hS => ?_)
        refine lv_iinc (v := nI (t + 1)) (lv' := [(2, .int (nI (t + 1))), (0, .ref mA), (1, .int nq)]) hx hb dX8_law_46 hl (k := 0) rfl (nI_1 _) (by decide) rfl (fun ls hl => ?_)
        refine lv_goto (tgt := 29) hx hb dX8_law_49 (by decide) ?_
        have e_step : F_X8_law_L29 d23 t sv3 = upd sv3 t (vp_nar .byte (d23 t)) := by rw [F_X8_law_L29]
        have hP2 : va_P D vwCl [(mA, .inr (8, .int (nI nr) :: .int (nI np) :: .ref m2 :: .ref m3 :: .ref m4 :: .ref m5 :: .ref m6 :: .ref m7 :: .ref m8 :: .int q9 :: .int q10 :: .int q11 :: .int ((nI dg) - 1) :: .int q13 :: .int q14 :: .int q15 :: .int q16 :: .int q17 :: .int q18 :: .int q19 :: .int q20 :: .ref m21 :: .ref m22 :: .ref m23 :: .ref m24 :: .int (nI nb) :: .int (nI ln) :: .int (nI po) :: .int q28 :: .int (nI tk) :: .ref m30 :: .ref m31 :: .int (nI we) :: .int q33 :: [])), (m23, .inl (cB, 300, .inl d23)), (m24, .inl (cB, 300, .inl (F_X8_law_L29 d23 t sv3))), (m30, .inl (cI, 77, .inl d30)), (m31, .inl (cI, 11, .inl d31))] H := by rw [e_step]; exact hP
        have hD2 : va_D A [(mA, .inr (8, .int (nI nr) :: .int (nI np) :: .ref m2 :: .ref m3 :: .ref m4 :: .ref m5 :: .ref m6 :: .ref m7 :: .ref m8 :: .int q9 :: .int q10 :: .int q11 :: .int ((nI dg) - 1) :: .int q13 :: .int q14 :: .int q15 :: .int q16 :: .int q17 :: .int q18 :: .int q19 :: .int q20 :: .ref m21 :: .ref m22 :: .ref m23 :: .ref m24 :: .int (nI nb) :: .int (nI ln) :: .int (nI po) :: .int q28 :: .int (nI tk) :: .ref m30 :: .ref m31 :: .int (nI we) :: .int q33 :: [])), (m23, .inl (cB, 300, .inl d23)), (m24, .inl (cB, 300, .inl (F_X8_law_L29 d23 t sv3))), (m30, .inl (cI, 77, .inl d30)), (m31, .inl (cI, 11, .inl d31))] := by rw [e_step]; exact hD
        have hl2 : lv_has ls 4 [(2, .int (nI (t + 1))), (0, .ref mA), (1, .int nq)] := lv_sub hl [0, 1, 2] rfl
        subst hs_t
        exact ih_t (t + 1) (by omega) (by omega) _ _ _ hP2 hD2 hS hl2
    · refine lv_bipush (v := (-3)) hx hb dX8_law_24 (by decide) ?_
      have er : F_X8_law q33 nb tk we d23 d24 d30 nq = (-3) := by rw [F_X8_law, if_neg c_1, if_pos c_2]
      have e0_25 : nI (F_X8_law_0_25 q33 nb tk we d23 d24 d30 nq) = nI nb := by rw [F_X8_law_0_25, if_neg c_1, if_pos c_2]
      have e0_26 : nI (F_X8_law_0_26 q33 nb ln tk we d23 d24 d30 nq) = nI ln := by rw [F_X8_law_0_26, if_neg c_1, if_pos c_2]
      have e0_27 : nI (F_X8_law_0_27 q33 nb po tk we d23 d24 d30 nq) = nI po := by rw [F_X8_law_0_27, if_neg c_1, if_pos c_2]
      have e0_28 : F_X8_law_0_28 q28 q33 nb tk we d23 d24 d30 nq = q28 := by rw [F_X8_law_0_28, if_neg c_1, if_pos c_2]
      have e0_29 : nI (F_X8_law_0_29 q33 nb tk we d23 d24 d30 nq) = nI tk := by rw [F_X8_law_0_29, if_neg c_1, if_pos c_2]
      have e0_32 : nI (F_X8_law_0_32 q33 nb tk we d23 d24 d30 nq) = nI we := by rw [F_X8_law_0_32, if_neg c_1, if_pos c_2]
      have e0_33 : F_X8_law_0_33 q33 nb tk we d23 d24 d30 nq = q33 := by rw [F_X8_law_0_33, if_neg c_1, if_pos c_2]
      have e2 : F_X8_law_2 q33 nb tk we d23 d24 d30 nq = d24 := by rw [F_X8_law_2, if_neg c_1, if_pos c_2]
      have e3 : F_X8_law_3 q33 nb tk we d23 d24 d30 nq = d30 := by rw [F_X8_law_3, if_neg c_1, if_pos c_2]
      have e4 : F_X8_law_4 q11 q33 nb tk we d23 d24 d30 d31 nq = d31 := by rw [F_X8_law_4, if_neg c_1, if_pos c_2]
      exact W.iret hx hb hr (fun t ht hW => ⟨⟨_, (), rfl, er.symm, by rw [ht, e0_25, e0_26, e0_27, e0_28, e0_29, e0_32, e0_33, e2, e3, e4]; exact hP, by rw [e0_25, e0_26, e0_27, e0_28, e0_29, e0_32, e0_33, e2, e3, e4]; exact hD⟩, hS.F ht⟩) hS.2.2 dX8_law_26
  · refine lv_bipush (v := (-2)) hx hb dX8_law_12 (by decide) ?_
    have er : F_X8_law q33 nb tk we d23 d24 d30 nq = (-2) := by rw [F_X8_law, if_pos c_1]
    have e0_25 : nI (F_X8_law_0_25 q33 nb tk we d23 d24 d30 nq) = nI nb := by rw [F_X8_law_0_25, if_pos c_1]
    have e0_26 : nI (F_X8_law_0_26 q33 nb ln tk we d23 d24 d30 nq) = nI ln := by rw [F_X8_law_0_26, if_pos c_1]
    have e0_27 : nI (F_X8_law_0_27 q33 nb po tk we d23 d24 d30 nq) = nI po := by rw [F_X8_law_0_27, if_pos c_1]
    have e0_28 : F_X8_law_0_28 q28 q33 nb tk we d23 d24 d30 nq = q28 := by rw [F_X8_law_0_28, if_pos c_1]
    have e0_29 : nI (F_X8_law_0_29 q33 nb tk we d23 d24 d30 nq) = nI tk := by rw [F_X8_law_0_29, if_pos c_1]
    have e0_32 : nI (F_X8_law_0_32 q33 nb tk we d23 d24 d30 nq) = nI we := by rw [F_X8_law_0_32, if_pos c_1]
    have e0_33 : F_X8_law_0_33 q33 nb tk we d23 d24 d30 nq = q33 := by rw [F_X8_law_0_33, if_pos c_1]
    have e2 : F_X8_law_2 q33 nb tk we d23 d24 d30 nq = d24 := by rw [F_X8_law_2, if_pos c_1]
    have e3 : F_X8_law_3 q33 nb tk we d23 d24 d30 nq = d30 := by rw [F_X8_law_3, if_pos c_1]
    have e4 : F_X8_law_4 q11 q33 nb tk we d23 d24 d30 d31 nq = d31 := by rw [F_X8_law_4, if_pos c_1]
    exact W.iret hx hb hr (fun t ht hW => ⟨⟨_, (), rfl, er.symm, by rw [ht, e0_25, e0_26, e0_27, e0_28, e0_29, e0_32, e0_33, e2, e3, e4]; exact hP, by rw [e0_25, e0_26, e0_27, e0_28, e0_29, e0_32, e0_33, e2, e3, e4]; exact hD⟩, hS.F ht⟩) hS.2.2 dX8_law_14
