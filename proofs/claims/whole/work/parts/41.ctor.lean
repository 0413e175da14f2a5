/-- what a constructor leaves: its cells, at addresses that come with the answer -/
def QC {S : Type} (D : va_G) (wc : va_W) (sz : Nat) (w1 : S → va_W) : Array Value → State → Outcome → State → Prop := va_Qv (S := S) (fun _ => True) (fun u t => va_P D vwCl (w1 u) t.heap ∧ va_D (va_A wc sz) (w1 u)) (va_A wc sz)
section CT
variable {p : Program} {l : Launch} {e : Env} {R : Room} {s : State} {m : MethodId} {args : Array Value} {below : List Frame} {meth : Method} {c : Code} {H : Heap} {locs : List Loc} {cells slots mc ms : Nat} {Q : State → Prop}
variable {cc : ByteArray} {pc : Nat} {ls : Array Slot} {rest st0 : List Value} {av : Array Value} {D : va_G} {cI cZ cB : ClassId} {A : Nat → Prop} {a : Nat} {ws wc w2 : va_W} {H0 : Heap}
theorem k_c {S : Type} {w1 w2 : S → va_W} (hr : va_Run p l e R s m args below meth c H locs cells slots mc ms (F0 m pc ls st0) rest (QC D wc H.size w1 av) (va_A wc H.size)) (hP : va_P D vwCl ws H) (hD : va_D A ws) (hS : va_S A s.heap H locs) (hA : ∀ q, s.heap.size ≤ q → A q) (isC isR isX : List Nat) (hC : isC.map (fun i => ws[i]?) = wc.map some) (hR : isR.map (fun i => ws[i]?) = (isR.filterMap (fun i => ws[i]?)).map some) (hX : ∀ u, isX.map (fun i => (isR.filterMap (fun i => ws[i]?) ++ w1 u)[i]?) = (w2 u).map some) (hn : (va_nd isR && va_nd isX) = true) (hdis : isR.all (fun i => decide (i ∉ isC)) = true)
    (kk : ∀ (u : S) (H1 : Heap) (locs1 : List Loc), va_P D vwCl (w2 u) H1 → va_D A (w2 u) → va_S A s.heap H1 locs1 → W p l e R s m args below meth c H1 locs1 (cells + mc) (slots + ms) Q (F0 m (pc + 3) ls rest)) : W p l e R s m args below meth c H locs cells slots Q (F0 m pc ls st0) := by
  have hFc := va_free (wc := wc) hD hS hA isC hC
  rw [Bool.and_eq_true] at hn
  refine va_callv hr hS (fun q _ h => hFc q h) hFc (fun u t H1 locs1 ht hvm hw hB hz1 hk1 hS1 => ?_)
  obtain ⟨hP1, hD1⟩ := hB
  rw [ht] at hP1
  obtain ⟨hP2, hD2⟩ := va_join hP hD isC isR hC hR hn.1 (fun i hi => of_decide_eq_true (List.all_eq_true.mp hdis i hi)) hk1 hFc hP1 hD1
  exact kk u H1 locs1 (hP2.sub isX (fm_map (hX u))) (hD2.sub isX hn.2 (hX u)) hS1
theorem pfF {own ref C : String} {T : u_T} {N ci index : Nat} {Ts : List Cond} (hexec : p.tables.exec = Jvm.exec) (hb : c.code = cc) (hts : ∀ w ∈ Ts, w.before args s = true) (hin : ∀ w ∈ u_ws C T N, w ∈ Ts) (ty0 : Nat → FieldType) (hty : ∀ k, k < N → parseFieldDescriptor (T k).2.2.1 = some (ty0 k)) (hnm : ∀ a, a < N → ∀ b, b < N → a ≠ b → (T a).2.1 ≠ (T b).2.1) (hown : s.vm.findClass own = some m.cls) (hK : va_K D vwCl (tyL cI cZ cB) s) (hP : va_P D vwCl ws H) (hD : va_D A ws) (hS0 : va_S A H0 H locs) (q0 : Nat) {fs : List Value} (he : ws[q0]? = some (a, .inr (ci, fs))) (hc : vwCl[ci]? = some (C, T, N)) (k : Nat) (hk : k < N) (hlink : (Cond.fieldLink own index ref (T k).2.1 (T k).2.2.1).before args s = true) (hsame : (T k).1 = ref) (hfin : (T k).2.2.2 = true) (hin2 : meth.name = "<init>") (hdecl : (T k).1 = own) {v : Value} (hn : narrow (ty0 k) v = v) (hfit : fits (ty0 k) v = true) (hl : k < fs.length) (hw : ws.set q0 (a, .inr (ci, fs.set k v)) = w2)
    (hdg : decode cc pc = .ok (.putfield index, 3)) (kk : ∀ (H1 : Heap) (locs1 : List Loc), va_P D vwCl w2 H1 → va_D A w2 → va_S A H0 H1 locs1 → W p l e R s m args below meth c H1 locs1 cells slots Q (F0 m (pc + 3) ls rest)) : W p l e R s m args below meth c H locs cells slots Q (F0 m pc ls (v :: .ref a :: rest)) := by
  subst hw; subst hsame
  exact va_putF hexec hb hts hin ty0 hty hnm hown hK hP hD hS0 q0 he hc k hk hlink (fun _ h => h) hfin hin2 hdecl (hty k hk) hn hfit hl hdg kk
theorem nw_i (hexec : p.tables.exec = Jvm.exec) (hb : c.code = cc) (harr : (Cond.arrayClass .int).before args s = true) (hK : va_K D vwCl (tyL cI cZ cB) s) (hP : va_P D vwCl ws H) (hD : va_D A ws) (hS : va_S A H0 H locs) (hA : ∀ q, H0.size ≤ q → A q) {n : Int32} (N' : Nat) (hn : n = nI N') (hN : N' ≤ 1000) (hcells : cells + 1 ≤ R.cells) (hslots : slots + N' ≤ R.slots) (hdg : decode cc pc = .ok (.newarray .int, 2))
    (kk : ∀ (q : Nat) (H1 : Heap), va_P D vwCl (ws ++ [(q, .inl (cI, N', .inl (fun _ => 0)))]) H1 → va_D A (ws ++ [(q, .inl (cI, N', .inl (fun _ => 0)))]) → va_S A H0 H1 locs → W p l e R s m args below meth c H1 locs (cells + 1) (slots + N') Q (F0 m (pc + 2) ls (.ref q :: rest))) : W p l e R s m args below meth c H locs cells slots Q (F0 m pc ls (.int n :: rest)) := by
  subst hn
  refine va_newa (atype := .int) (ty := .int) (a0 := (N', .inl (fun _ => 0))) hexec hb harr rfl hK hP hD hS hA (fun _ => rfl) (nI_pos (by omega)) (nI_clamp (by omega)) (by show N' * 4 ≤ _; omega) hcells hslots hdg (fun q cA H1 hK1 hP1 hD1 hS1 => ?_)
  have h1 : s.vm.findClass ("[" ++ FieldType.int.toString) = some cA := (hK1.2 3 (cA, .int) rfl).2
  have h2 : s.vm.findClass ("[" ++ FieldType.int.toString) = some cI := (hK.2 0 (cI, .int) rfl).2
  have e : cA = cI := Option.some.inj (h1.symm.trans h2)
  subst e
  exact kk q H1 hP1 hD1 hS1
theorem nw_z (hexec : p.tables.exec = Jvm.exec) (hb : c.code = cc) (harr : (Cond.arrayClass .boolean).before args s = true) (hK : va_K D vwCl (tyL cI cZ cB) s) (hP : va_P D vwCl ws H) (hD : va_D A ws) (hS : va_S A H0 H locs) (hA : ∀ q, H0.size ≤ q → A q) {n : Int32} (N' : Nat) (hn : n = nI N') (hN : N' ≤ 1000) (hcells : cells + 1 ≤ R.cells) (hslots : slots + N' ≤ R.slots) (hdg : decode cc pc = .ok (.newarray .boolean, 2))
    (kk : ∀ (q : Nat) (H1 : Heap), va_P D vwCl (ws ++ [(q, .inl (cZ, N', .inl (fun _ => 0)))]) H1 → va_D A (ws ++ [(q, .inl (cZ, N', .inl (fun _ => 0)))]) → va_S A H0 H1 locs → W p l e R s m args below meth c H1 locs (cells + 1) (slots + N') Q (F0 m (pc + 2) ls (.ref q :: rest))) : W p l e R s m args below meth c H locs cells slots Q (F0 m pc ls (.int n :: rest)) := by
  subst hn
  refine va_newa (atype := .boolean) (ty := .boolean) (a0 := (N', .inl (fun _ => 0))) hexec hb harr rfl hK hP hD hS hA (fun _ => rfl) (nI_pos (by omega)) (nI_clamp (by omega)) (by show N' * 1 ≤ _; omega) hcells hslots hdg (fun q cA H1 hK1 hP1 hD1 hS1 => ?_)
  have h1 : s.vm.findClass ("[" ++ FieldType.boolean.toString) = some cA := (hK1.2 3 (cA, .boolean) rfl).2
  have h2 : s.vm.findClass ("[" ++ FieldType.boolean.toString) = some cZ := (hK.2 1 (cZ, .boolean) rfl).2
  have e : cA = cZ := Option.some.inj (h1.symm.trans h2)
  subst e
  exact kk q H1 hP1 hD1 hS1
theorem nw_b (hexec : p.tables.exec = Jvm.exec) (hb : c.code = cc) (harr : (Cond.arrayClass .byte).before args s = true) (hK : va_K D vwCl (tyL cI cZ cB) s) (hP : va_P D vwCl ws H) (hD : va_D A ws) (hS : va_S A H0 H locs) (hA : ∀ q, H0.size ≤ q → A q) {n : Int32} (N' : Nat) (hn : n = nI N') (hN : N' ≤ 1000) (hcells : cells + 1 ≤ R.cells) (hslots : slots + N' ≤ R.slots) (hdg : decode cc pc = .ok (.newarray .byte, 2))
    (kk : ∀ (q : Nat) (H1 : Heap), va_P D vwCl (ws ++ [(q, .inl (cB, N', .inl (fun _ => 0)))]) H1 → va_D A (ws ++ [(q, .inl (cB, N', .inl (fun _ => 0)))]) → va_S A H0 H1 locs → W p l e R s m args below meth c H1 locs (cells + 1) (slots + N') Q (F0 m (pc + 2) ls (.ref q :: rest))) : W p l e R s m args below meth c H locs cells slots Q (F0 m pc ls (.int n :: rest)) := by
  subst hn
  refine va_newa (atype := .byte) (ty := .byte) (a0 := (N', .inl (fun _ => 0))) hexec hb harr rfl hK hP hD hS hA (fun _ => rfl) (nI_pos (by omega)) (nI_clamp (by omega)) (by show N' * 1 ≤ _; omega) hcells hslots hdg (fun q cA H1 hK1 hP1 hD1 hS1 => ?_)
  have h1 : s.vm.findClass ("[" ++ FieldType.byte.toString) = some cA := (hK1.2 3 (cA, .byte) rfl).2
  have h2 : s.vm.findClass ("[" ++ FieldType.byte.toString) = some cB := (hK.2 2 (cB, .byte) rfl).2
  have e : cA = cB := Option.some.inj (h1.symm.trans h2)
  subst e
  exact kk q H1 hP1 hD1 hS1
end CT
/-- rows and places, held -/
def hRo (x : Int32) : Nat := (if 2 < (if x < 20 then x else 20) then (if x < 20 then x else 20) else (2 : Int32)).toNatClampNeg
def hPl (x : Int32) : Nat := (if 2 < (if x < 8 then x else 8) then (if x < 8 then x else 8) else (2 : Int32)).toNatClampNeg
theorem hRo_ok (x : Int32) : (if 2 < (if x < 20 then x else 20) then (if x < 20 then x else 20) else (2 : Int32)) = nI (hRo x) ∧ 2 ≤ hRo x ∧ hRo x ≤ 20 := by
  have e2 : (2 : Int32).toInt = 2 := by decide
  have e20 : (20 : Int32).toInt = 20 := by decide
  have key : ∀ y : Int32, 2 ≤ y.toInt → y.toInt ≤ 20 → y = nI y.toNatClampNeg ∧ 2 ≤ y.toNatClampNeg ∧ y.toNatClampNeg ≤ 20 := by
    intro y h1 h2
    have h4 : (y.toNatClampNeg : Int) = y.toInt.toNat := rfl
    refine ⟨nx_cl (fun q => ?_), by omega, by omega⟩
    rw [fa_lt] at q
    have : (0 : Int32).toInt = 0 := by decide
    omega
  unfold hRo
  apply key
  · by_cases c1 : x < 20
    · simp only [if_pos c1]
      by_cases c2 : 2 < x
      · rw [if_pos c2]
        rw [fa_lt] at c2
        omega
      · rw [if_neg c2]
        omega
    · simp only [if_neg c1]
      decide
  · by_cases c1 : x < 20
    · simp only [if_pos c1]
      by_cases c2 : 2 < x
      · rw [if_pos c2]
        rw [fa_lt] at c1
        omega
      · rw [if_neg c2]
        omega
    · simp only [if_neg c1]
      decide
theorem hPl_ok (x : Int32) : (if 2 < (if x < 8 then x else 8) then (if x < 8 then x else 8) else (2 : Int32)) = nI (hPl x) ∧ 2 ≤ hPl x ∧ hPl x ≤ 8 := by
  have e2 : (2 : Int32).toInt = 2 := by decide
  have e20 : (8 : Int32).toInt = 8 := by decide
  have key : ∀ y : Int32, 2 ≤ y.toInt → y.toInt ≤ 8 → y = nI y.toNatClampNeg ∧ 2 ≤ y.toNatClampNeg ∧ y.toNatClampNeg ≤ 8 := by
    intro y h1 h2
    have h4 : (y.toNatClampNeg : Int) = y.toInt.toNat := rfl
    refine ⟨nx_cl (fun q => ?_), by omega, by omega⟩
    rw [fa_lt] at q
    have : (0 : Int32).toInt = 0 := by decide
    omega
  unfold hPl
  apply key
  · by_cases c1 : x < 8
    · simp only [if_pos c1]
      by_cases c2 : 2 < x
      · rw [if_pos c2]
        rw [fa_lt] at c2
        omega
      · rw [if_neg c2]
        omega
    · simp only [if_neg c1]
      decide
  · by_cases c1 : x < 8
    · simp only [if_pos c1]
      by_cases c2 : 2 < x
      · rw [if_pos c2]
        rw [fa_lt] at c1
        omega
      · rw [if_neg c2]
        omega
    · simp only [if_neg c1]
      decide
