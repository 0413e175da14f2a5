/-! the law's own: its script, its cell -/
def cel (L : Nat) (xs : Nat → Int32) (k : Nat) : Int32 := if k < L then xs k else 0
section LR
variable {p : Program} {l : Launch} {e : Env} {R : Room} {s : State} {m : MethodId} {args : Array Value} {below : List Frame} {meth : Method} {c : Code} {H H0 : Heap} {locs : List Loc} {cells slots : Nat} {Q : State → Prop}
theorem sld {cc : ByteArray} {A : Nat → Prop} {pc : Nat} {ls : Array Slot} {rest : List Value} (hexec : p.tables.exec = Jvm.exec) (hb : c.code = cc) {b L : Nat} {xs : Nat → Int32} (hX : va_X b L xs s H0) (hbl : b < H0.size) (hbA : ¬ A b) (hS : va_S A H0 H locs) {i : Int32} (k : Nat) (hi : i = nI k) (hk : k < L) (hL : L ≤ 3074) (hdg : decode cc pc = .ok (.iaload, 1)) (kk : W p l e R s m args below meth c H locs cells slots Q (F0 m (pc + 1) ls (.int (xs k) :: rest))) : W p l e R s m args below meth c H locs cells slots Q (F0 m pc ls (.int i :: .ref b :: rest)) := by
  subst hi
  refine va_sld hexec hb hX hbl hbA hS (vin rfl hk (by omega)) hdg ?_
  rw [nI_clamp (by omega)]
  exact kk
end LR
theorem c_L_cell (l : Launch) {D : va_G} {b L : Nat} {xs : Nat → Int32} (sz k : Nat) (hL : L ≤ 3074) (hk : k < 3074) : Met l yL_cell wsL_cell ({ frames := 0, cells := 0, slots := 0, locals := 0 }) (va_Pc [.ref b, .int (nI k)] (fun U => U.heap.size = sz ∧ b < sz ∧ va_X b L xs U U.heap)) (QI D [] sz (cel L xs k) []) 0 0 (va_A [] sz) := by
  refine Met.ofW (cc := cL_cell) (maxL := 2) (ret := (some .int)) (by decide) rfl ?_
  intro p e s m args below meth c s₁ B hml hv
  obtain ⟨rfl, hsz, hbl, hX⟩ := hv
  have hx := B.exec
  have hb := B.bytes
  have hr := B.returns
  subst hsz
  unfold QI
  generalize hAe : va_A [] s.heap.size = A
  have hbA : ¬ A b := by
    rw [← hAe]
    rintro (⟨k, e, h⟩ | h)
    · simp at h
    · omega
  have hS : va_S A s.heap s.heap [] := va_S.rf
  have hP : va_P D vwCl [] s.heap := fun k q h => by simp at h
  have hD : va_D A [] := ⟨fun i j p q h => by simp at h, fun k q h => by simp at h⟩
  have hl := lv_entry ([.ref b, .int (nI k)]) (n := 2) (Nat.le_of_ble_eq_true rfl)
  rw [lg_entry_eq]
  generalize (lg_sl ([.ref b, .int (nI k)]) ++ List.replicate (2 - (lg_sl ([.ref b, .int (nI k)])).length) Slot.unset).toArray = ls at hl ⊢
  have hl : lv_has ls 2 [(0, .ref b), (1, .int (nI k))] := hl
  refine lv_iload_n hx hb dL_cell_0 rfl (lv_at hl 1 rfl) ?_
  refine lv_aload_n hx hb dL_cell_1 rfl (lv_at hl 0 rfl) ?_
  refine va_slen hx hb hX hbl hbA hS dL_cell_2 ?_
  refine lv_icmp_ge (tgt := 12) hx hb dL_cell_3 (by decide) (fun c1 => ?_) (fun c1 => ?_)
  · have h1 : cel L xs k = 0 := by
      unfold cel
      rw [if_neg]
      intro q
      exact nI_ge q (by omega) c1
    refine lv_iconst (v := 0) hx hb dL_cell_12 (by decide) ?_
    exact W.iret hx hb hr (fun t ht hW => ⟨⟨_, (), rfl, h1.symm, by rw [ht]; exact hP, hD⟩, hS.F ht⟩) hS.2.2 dL_cell_13
  · have hlt : k < L := by
      rcases Nat.lt_or_ge k L with q | q
      · exact q
      · exact absurd (nI_le q (by omega)) c1
    have h1 : cel L xs k = xs k := if_pos hlt
    refine lv_aload_n hx hb dL_cell_6 rfl (lv_at hl 0 rfl) ?_
    refine lv_iload_n hx hb dL_cell_7 rfl (lv_at hl 1 rfl) ?_
    refine sld hx hb hX hbl hbA hS k rfl hlt hL dL_cell_8 ?_
    refine lv_goto (tgt := 13) hx hb dL_cell_9 (by decide) ?_
    exact W.iret hx hb hr (fun t ht hW => ⟨⟨_, (), rfl, h1.symm, by rw [ht]; exact hP, hD⟩, hS.F ht⟩) hS.2.2 dL_cell_13
def LAW (p : Program) (s : State) (m : MethodId) (c : Code) (b L : Nat) (xs : Nat → Int32) (D : va_G) (cI cZ cB : ClassId) (au : Nat) (kA kV : Nat → Nat) : Prop := p.tables.exec = Jvm.exec ∧ c.code = code ∧ c.maxLocals = 4 ∧ s.vm.findClass RL = some m.cls ∧ (∀ w ∈ lw_tbl, w.before #[Value.ref b] s = true) ∧ va_X b L xs s s.heap ∧ b < s.heap.size ∧ BS D cI cZ cB au kA kV s.heap.size s
/-- both sides' cells stand in the same state -/
def INV (nr : Nat) (np : Nat) (dg : Nat) (tk : Nat) (nb : Nat) (td : Int32) (g : Int32) (lb : Int32) (pac : Int32) (mp : Int32) (fd : Nat → Int32) (ft : Nat → Int32) (fl : Nat → Int32) (fg : Nat → Int32) (fp : Nat → Int32) (fy : Nat → Int32) (fb : Nat → Int32) (fn : Nat → Int32) (mo : Nat → Int32) (fm : Nat → Int32) (fs : Nat → Int32) (tp : Nat → Int32) (d2 : Nat → Int32) (d3 : Nat → Int32) (d4 : Nat → Int32) (d5 : Nat → Int32) (d6 : Nat → Int32) (d7 : Nat → Int32) (d8 : Nat → Int32) (d21 : Nat → Int32) (d23 : Nat → Int32) (d30 : Nat → Int32) (d31 : Nat → Int32) : Prop := 2 ≤ nr ∧ nr ≤ 20 ∧ 2 ≤ np ∧ np ≤ 8 ∧ dg ≤ nr ∧ tk ≤ 10 ∧ nb ≤ 300 ∧ IGd nr np fd d2 ∧ IGt nr np ft d3 d5 ∧ IGs nr np g fl fg d3 d5 ∧ IGg g ∧ IL tk fm fs d30 d31 ∧ IE nb tp d23 ∧ IMo mo dg ∧ (∀ k, k < 21 → d21 k = mo k) ∧ ITd td ∧ IPa pac ∧ IT nr np dg lb mp fp fy fb fn d4 d6 d7 d8
theorem it_pl {nr np dg : Nat} {lb mp : Int32} {fp fy fb fn d4 d6 d7 d8 : Nat → Int32} (h : IT nr np dg lb mp fp fy fb fn d4 d6 d7 d8) (hdg : dg ≤ nr) (hr2 : nr ≤ 20) : 0 < dg → mp = nI mp.toNatClampNeg ∧ mp.toNatClampNeg < np := by
  intro h0
  rw [h.2.1, dp_s h0 (by omega)]
  exact h.1 _ (by omega)
theorem it_pz {nr np dg : Nat} {lb mp : Int32} {fp fy fb fn d4 d6 d7 d8 : Nat → Int32} (h : IT nr np dg lb mp fp fy fb fn d4 d6 d7 d8) (hdg : dg ≤ nr) (hr2 : nr ≤ 20) : okZ np mp := by
  rcases Nat.eq_zero_or_pos dg with h0 | h0
  · left
    rw [h.2.1, h0]
    rfl
  · exact Or.inr (it_pl h hdg hr2 h0)
