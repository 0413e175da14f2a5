section PVS
variable {s : State} {H : Heap} {locs : List Loc} {As : List Value} {A : Nat → Prop} {b : Nat} {D : va_G} {cI cZ cB : ClassId} {au : Nat} {kA kV : Nat → Nat} {z0 : Nat} {ws wc : va_W}
theorem pre_VS {C : String} (hrc : ∃ cell : Cell, H[b]? = some cell ∧ cell.vm.isStatics = false ∧ s.vm.findClass C = some cell.cls) (hB : BS D cI cZ cB au kA kV z0 s) (hz : z0 ≤ s.heap.size) (hA0 : ∀ q, A q → z0 ≤ q) (hP : va_P D vwCl ws H) (hD : va_D A ws) (hS : va_S A s.heap H locs) (isC : List Nat) (hC : isC.map (fun i => ws[i]?) = wc.map some) (hn : va_nd isC = true) : PreV s H C b (va_Pc (.ref b :: As) (PRE D cI cZ cB au kA kV z0 H.size wc)) As := by
  obtain ⟨h1, h2⟩ := pre_S (As := .ref b :: As) hB hz hA0 hP hD hS isC hC hn
  exact ⟨h1, hrc, h2⟩
end PVS
theorem tx_lt {w : Nat} (hw : w < 7) : tx_len.getD w 0 < 2 ^ 31 := by
  have : ∀ w, w < 7 → tx_len.getD w 0 < 2 ^ 31 := by decide
  exact this w hw
theorem tx_8 {w : Nat} (hw : w < 7) : tx_len.getD w 0 < 8 := by
  have : ∀ w, w < 7 → tx_len.getD w 0 < 8 := by decide
  exact this w hw
