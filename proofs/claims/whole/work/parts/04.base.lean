/-! what is ambient: tables, nest links, the table USUAL, the text constants; z0: below it lies what was there before the law began -/
def NW (U : State) : Prop := va_Nw (.methodLinkNest RX7 9 yX4_init RX7) U ∧ va_Nw (.methodLinkNest RX7 18 yX0_init RX7) U ∧ va_Nw (.methodLinkNest RX7 25 yX2_init RX7) U ∧ va_Nw (.methodLinkNest RX7 32 yX3_init RX7) U ∧ va_Nw (.methodLinkNest RX1 34 yX7_within RX7) U ∧ va_Nw (.methodLinkNest RX6 42 yX7_within RX7) U ∧ va_Nw (.methodLinkNest RX2 22 yX7_within RX7) U ∧ va_Nw (.methodLinkNest RX0 25 yX7_within RX7) U ∧ va_Nw (.methodLinkNest RX3 36 yX7_within RX7) U
theorem NW.warm {s U : State} (hW : s.WarmedH U.vm) (h : NW s) : NW U := by
  obtain ⟨h1, h2, h3, h4, h5, h6, h7, h8, h9⟩ := h
  exact ⟨va_Nw.warmM hW h1, va_Nw.warmM hW h2, va_Nw.warmM hW h3, va_Nw.warmM hW h4, va_Nw.warmM hW h5, va_Nw.warmM hW h6, va_Nw.warmM hW h7, va_Nw.warmM hW h8, va_Nw.warmM hW h9⟩
theorem NW.same {u U : State} (e : u.vm = U.vm) (h : NW u) : NW U := by
  obtain ⟨h1, h2, h3, h4, h5, h6, h7, h8, h9⟩ := h
  exact ⟨va_Nw.same rfl e h1, va_Nw.same rfl e h2, va_Nw.same rfl e h3, va_Nw.same rfl e h4, va_Nw.same rfl e h5, va_Nw.same rfl e h6, va_Nw.same rfl e h7, va_Nw.same rfl e h8, va_Nw.same rfl e h9⟩
def us_L : List Int32 := [50, 200, 9, 100, 30, 50, 10]
def us_V : Nat → Value := fun j => .int (us_L.getD j 0)
def tx_len : List Nat := [2, 5, 4, 5, 4, 7, 4]
def tx_byt : List (List Int32) := [[116, 111], [108, 101, 118, 101, 108], [98, 97, 110, 107], [99, 108, 101, 97, 114], [98, 97, 99, 107], [114, 111, 121, 97, 108, 116, 121], [102, 105, 110, 101]]
def TX (kA : Nat → Nat) (U : State) : Prop := vk_R RX3 68 "to" (kA 0) U ∧ vk_R RX3 74 "level" (kA 1) U ∧ vk_R RX3 76 "bank" (kA 2) U ∧ vk_R RX3 78 "clear" (kA 3) U ∧ vk_R RX3 80 "back" (kA 4) U ∧ vk_R RX3 82 "royalty" (kA 5) U ∧ vk_R RX3 84 "fine" (kA 6) U
theorem TX.warm {kA : Nat → Nat} {s U : State} (hW : s.WarmedH U.vm) (h : TX kA s) : TX kA U := by
  obtain ⟨h1, h2, h3, h4, h5, h6, h7⟩ := h
  exact ⟨h1.warm hW, h2.warm hW, h3.warm hW, h4.warm hW, h5.warm hW, h6.warm hW, h7.warm hW⟩
theorem TX.same {kA : Nat → Nat} {u U : State} (e : U.vm = u.vm) (h : TX kA u) : TX kA U := by
  obtain ⟨h1, h2, h3, h4, h5, h6, h7⟩ := h
  exact ⟨h1.same e, h2.same e, h3.same e, h4.same e, h5.same e, h6.same e, h7.same e⟩
def ST (au : Nat) (kA kV : Nat → Nat) (A : Nat → Prop) (U : State) (H : Heap) : Prop := va_Z RX2 "USUAL" "[I" (.ref au) A U H ∧ va_T .int au 7 us_V A U H ∧ vk_S 7 tx_len tx_byt kA kV A U H ∧ va_Z RJ0 "COMPACT_STRINGS" "Z" (.int 1) A U H ∧ va_Zq RJ3 "SIOOBE_FORMATTER" "Ljava/util/function/BiFunction;" A U H
theorem ST.moved {au : Nat} {kA kV : Nat → Nat} {A : Nat → Prop} {u U : State} {H : Heap} (hvm : u.vm.Alike U.vm) (h : ST au kA kV A u H) : ST au kA kV A U H := by
  obtain ⟨h1, h2, h3, h4, h5⟩ := h
  exact ⟨h1.moved hvm, h2.moved hvm, h3.moved hvm, h4.moved hvm, h5.moved hvm⟩
theorem ST.kept {au : Nat} {kA kV : Nat → Nat} {A : Nat → Prop} {U : State} {H H1 : Heap} (h : ST au kA kV A U H) (hq : ∀ a : Nat, a < H.size → ¬ A a → H1[a]? = H[a]?) : ST au kA kV A U H1 := by
  obtain ⟨h1, h2, h3, h4, h5⟩ := h
  exact ⟨h1.kept hq, h2.kept hq, h3.kept hq, h4.kept hq, h5.kept hq⟩
theorem ST.narrow {au : Nat} {kA kV : Nat → Nat} {A B : Nat → Prop} {U : State} {H : Heap} (h : ST au kA kV A U H) (hAB : ∀ q, B q → A q) : ST au kA kV B U H := by
  obtain ⟨h1, h2, h3, h4, h5⟩ := h
  exact ⟨h1.narrow hAB, h2.narrow hAB, h3.narrow hAB, h4.narrow hAB, h5.narrow hAB⟩
abbrev tyL (cI cZ cB : ClassId) : List (ClassId × FieldType) := [(cI, .int), (cZ, .boolean), (cB, .byte)]
def BS (D : va_G) (cI cZ cB : ClassId) (au : Nat) (kA kV : Nat → Nat) (z0 : Nat) (U : State) : Prop := va_K D vwCl (tyL cI cZ cB) U ∧ NW U ∧ TX kA U ∧ ST au kA kV (fun q => z0 ≤ q) U U.heap
theorem BS.go {D : va_G} {cI cZ cB : ClassId} {au : Nat} {kA kV : Nat → Nat} {z0 : Nat} {s : State} {A : Nat → Prop} {H : Heap} {locs : List Loc} (h : BS D cI cZ cB au kA kV z0 s) (hS : va_S A s.heap H locs) (hA0 : ∀ q, A q → z0 ≤ q) {U : State} (hU : U.heap = H) (hW : s.WarmedH U.vm) : BS D cI cZ cB au kA kV z0 U := by
  obtain ⟨h1, h2, h3, h4⟩ := h
  refine ⟨va_K.moved hW.alike h1, h2.warm hW, h3.warm hW, ?_⟩
  rw [hU]
  exact (h4.kept (fun a ha hn => hS.2.1 a ha (fun q => hn (hA0 a q)))).moved hW.alike
def PRE (D : va_G) (cI cZ cB : ClassId) (au : Nat) (kA kV : Nat → Nat) (z0 sz : Nat) (ws : va_W) (U : State) : Prop := U.heap.size = sz ∧ z0 ≤ sz ∧ va_P D vwCl ws U.heap ∧ va_D (fun q => z0 ≤ q) ws ∧ BS D cI cZ cB au kA kV z0 U
theorem PRE.blind {D : va_G} {cI cZ cB : ClassId} {au : Nat} {kA kV : Nat → Nat} {z0 sz : Nat} {ws : va_W} {av : List Value} : FrameBlind (va_Pc av (PRE D cI cZ cB au kA kV z0 sz ws)) := by
  intro a U g mk q
  obtain ⟨q0, q1, q2, q3, q4, q5, q6, q7, q8⟩ := q
  exact ⟨q0, q1, q2, q3, q4, va_K.moved (u := U) (U := U.calling g mk a) (Vm.Alike.refl U.vm) q5, NW.same (u := U) (U := U.calling g mk a) rfl q6, TX.same (u := U) (U := U.calling g mk a) rfl q7, ST.moved (u := U) (U := U.calling g mk a) (Vm.Alike.refl U.vm) q8⟩
theorem fm_map {α β : Type} {f : α → Option β} {is : List α} {w : List β} (h : is.map f = w.map some) : is.filterMap f = w := by
  have h2 := congrArg (List.filterMap id) h
  rw [List.filterMap_map, List.filterMap_map] at h2
  simpa using h2
/-- what a method answers that makes nothing: the answer, the cells behind it -/
def QI (D : va_G) (wc : va_W) (sz : Nat) (r0 : Int32) (w1 : va_W) : Array Value → State → Outcome → State → Prop := va_Qi (S := Unit) (fun r _ => r = r0) (fun _ t => va_P D vwCl w1 t.heap ∧ va_D (va_A wc sz) w1) (va_A wc sz)
def QV (D : va_G) (wc : va_W) (sz : Nat) (w1 : va_W) : Array Value → State → Outcome → State → Prop := va_Qv (S := Unit) (fun _ => True) (fun _ t => va_P D vwCl w1 t.heap ∧ va_D (va_A wc sz) w1) (va_A wc sz)
def QL (D : va_G) (wc : va_W) (sz : Nat) (r0 : Int64) (w1 : va_W) : Array Value → State → Outcome → State → Prop := va_Ql (S := Unit) (fun r _ => r = r0) (fun _ t => va_P D vwCl w1 t.heap ∧ va_D (va_A wc sz) w1) (va_A wc sz)
section KC
variable {p : Program} {l : Launch} {e : Env} {R : Room} {s : State} {m : MethodId} {args : Array Value} {below : List Frame} {meth : Method} {c : Code} {H : Heap} {locs : List Loc} {cells slots : Nat} {Q : State → Prop}
variable {pc : Nat} {ls : Array Slot} {rest st0 As : List Value} {a : Array Value} {A : Nat → Prop} {b : Nat} {D : va_G} {cI cZ cB : ClassId} {au : Nat} {kA kV : Nat → Nat} {z0 : Nat} {ws wc w1 w2 : va_W} {r0 : Int32} {rl : Int64}
/-- the frame rule for a call: cut the callee's cells out, put them back -/
theorem k_i (hr : va_Run p l e R s m args below meth c H locs cells slots 0 0 (F0 m pc ls st0) rest (QI D wc H.size r0 w1 a) (va_A wc H.size)) (hP : va_P D vwCl ws H) (hD : va_D A ws) (hS : va_S A s.heap H locs) (hA : ∀ q, s.heap.size ≤ q → A q) (isC isR isX : List Nat) (hC : isC.map (fun i => ws[i]?) = wc.map some) (hR : isR.map (fun i => ws[i]?) = (isR.filterMap (fun i => ws[i]?)).map some) (hX : isX.map (fun i => (isR.filterMap (fun i => ws[i]?) ++ w1)[i]?) = w2.map some) (hn : (va_nd isR && va_nd isX) = true) (hdis : isR.all (fun i => decide (i ∉ isC)) = true)
    (kk : ∀ (H1 : Heap) (locs1 : List Loc), va_P D vwCl w2 H1 → va_D A w2 → va_S A s.heap H1 locs1 → W p l e R s m args below meth c H1 locs1 cells slots Q (F0 m (pc + 3) ls (.int r0 :: rest))) : W p l e R s m args below meth c H locs cells slots Q (F0 m pc ls st0) := by
  have hFc := va_free (wc := wc) hD hS hA isC hC
  rw [Bool.and_eq_true] at hn
  refine va_calli hr hS (fun q _ h => hFc q h) hFc (fun r u t H1 locs1 ht hvm hw hB hz1 hk1 hS1 => ?_)
  obtain ⟨hP1, hD1⟩ := hB
  rw [ht] at hP1
  obtain ⟨hP2, hD2⟩ := va_join hP hD isC isR hC hR hn.1 (fun i hi => of_decide_eq_true (List.all_eq_true.mp hdis i hi)) hk1 hFc hP1 hD1
  cases hw
  exact kk H1 locs1 (hP2.sub isX (fm_map hX)) (hD2.sub isX hn.2 hX) hS1
theorem k_l (hr : va_Run p l e R s m args below meth c H locs cells slots 0 0 (F0 m pc ls st0) rest (QL D wc H.size rl w1 a) (va_A wc H.size)) (hP : va_P D vwCl ws H) (hD : va_D A ws) (hS : va_S A s.heap H locs) (hA : ∀ q, s.heap.size ≤ q → A q) (isC isR isX : List Nat) (hC : isC.map (fun i => ws[i]?) = wc.map some) (hR : isR.map (fun i => ws[i]?) = (isR.filterMap (fun i => ws[i]?)).map some) (hX : isX.map (fun i => (isR.filterMap (fun i => ws[i]?) ++ w1)[i]?) = w2.map some) (hn : (va_nd isR && va_nd isX) = true) (hdis : isR.all (fun i => decide (i ∉ isC)) = true)
    (kk : ∀ (H1 : Heap) (locs1 : List Loc), va_P D vwCl w2 H1 → va_D A w2 → va_S A s.heap H1 locs1 → W p l e R s m args below meth c H1 locs1 cells slots Q (F0 m (pc + 3) ls (.long rl :: rest))) : W p l e R s m args below meth c H locs cells slots Q (F0 m pc ls st0) := by
  have hFc := va_free (wc := wc) hD hS hA isC hC
  rw [Bool.and_eq_true] at hn
  refine va_calll hr hS (fun q _ h => hFc q h) hFc (fun r u t H1 locs1 ht hvm hw hB hz1 hk1 hS1 => ?_)
  obtain ⟨hP1, hD1⟩ := hB
  rw [ht] at hP1
  obtain ⟨hP2, hD2⟩ := va_join hP hD isC isR hC hR hn.1 (fun i hi => of_decide_eq_true (List.all_eq_true.mp hdis i hi)) hk1 hFc hP1 hD1
  cases hw
  exact kk H1 locs1 (hP2.sub isX (fm_map hX)) (hD2.sub isX hn.2 hX) hS1
theorem k_v (hr : va_Run p l e R s m args below meth c H locs cells slots 0 0 (F0 m pc ls st0) rest (QV D wc H.size w1 a) (va_A wc H.size)) (hP : va_P D vwCl ws H) (hD : va_D A ws) (hS : va_S A s.heap H locs) (hA : ∀ q, s.heap.size ≤ q → A q) (isC isR isX : List Nat) (hC : isC.map (fun i => ws[i]?) = wc.map some) (hR : isR.map (fun i => ws[i]?) = (isR.filterMap (fun i => ws[i]?)).map some) (hX : isX.map (fun i => (isR.filterMap (fun i => ws[i]?) ++ w1)[i]?) = w2.map some) (hn : (va_nd isR && va_nd isX) = true) (hdis : isR.all (fun i => decide (i ∉ isC)) = true)
    (kk : ∀ (H1 : Heap) (locs1 : List Loc), va_P D vwCl w2 H1 → va_D A w2 → va_S A s.heap H1 locs1 → W p l e R s m args below meth c H1 locs1 cells slots Q (F0 m (pc + 3) ls rest)) : W p l e R s m args below meth c H locs cells slots Q (F0 m pc ls st0) := by
  have hFc := va_free (wc := wc) hD hS hA isC hC
  rw [Bool.and_eq_true] at hn
  refine va_callv hr hS (fun q _ h => hFc q h) hFc (fun u t H1 locs1 ht hvm hw hB hz1 hk1 hS1 => ?_)
  obtain ⟨hP1, hD1⟩ := hB
  rw [ht] at hP1
  obtain ⟨hP2, hD2⟩ := va_join hP hD isC isR hC hR hn.1 (fun i hi => of_decide_eq_true (List.all_eq_true.mp hdis i hi)) hk1 hFc hP1 hD1
  exact kk H1 locs1 (hP2.sub isX (fm_map hX)) (hD2.sub isX hn.2 hX) hS1
/-- what a callee finds -/
theorem pre_S (hB : BS D cI cZ cB au kA kV z0 s) (hz : z0 ≤ s.heap.size) (hA0 : ∀ q, A q → z0 ≤ q) (hP : va_P D vwCl ws H) (hD : va_D A ws) (hS : va_S A s.heap H locs) (isC : List Nat) (hC : isC.map (fun i => ws[i]?) = wc.map some) (hn : va_nd isC = true) : PreS s H (va_Pc As (PRE D cI cZ cB au kA kV z0 H.size wc)) As :=
  ⟨PRE.blind, fun U hU hW => ⟨rfl, by rw [hU], Nat.le_trans hz hS.1, by rw [hU]; exact hP.sub isC (fm_map hC), (hD.sub isC hn hC).weaken (fun _ _ _ h => hA0 _ h), hB.go hS hA0 hU hW⟩⟩
theorem pre_V {ci q0 : Nat} {q : vw_C} {fs : List Value} {C : String} (hB : BS D cI cZ cB au kA kV z0 s) (hz : z0 ≤ s.heap.size) (hA0 : ∀ q, A q → z0 ≤ q) (hP : va_P D vwCl ws H) (hD : va_D A ws) (hS : va_S A s.heap H locs) (isC : List Nat) (hC : isC.map (fun i => ws[i]?) = wc.map some) (hn : va_nd isC = true) (hc : vwCl[ci]? = some q) (hq : q.1 = C) (he : ws[q0]? = some (b, .inr (ci, fs))) : PreV s H C b (va_Pc (.ref b :: As) (PRE D cI cZ cB au kA kV z0 H.size wc)) As := by
  obtain ⟨h1, h2⟩ := pre_S (As := .ref b :: As) hB hz hA0 hP hD hS isC hC hn
  exact ⟨h1, by rw [← hq]; exact va_recv hB.1 hP hc he, h2⟩
end KC
