/-- n rounds, the first with 0 -/
def lp {σ : Type} (f : Nat → σ → σ) : Nat → σ → σ
  | 0, x => x
  | n + 1, x => f n (lp f n x)
theorem lp_0 {σ : Type} (f : Nat → σ → σ) (x : σ) : lp f 0 x = x := rfl
theorem lp_s {σ : Type} (f : Nat → σ → σ) (n : Nat) (x : σ) : lp f (n + 1) x = f n (lp f n x) := rfl
theorem nx_add {x y : Int32} {a b : Nat} (h1 : x = nI a) (h2 : y = nI b) : x + y = nI (a + b) := by rw [h1, h2, nI_add]
theorem nx_mul {x y : Int32} {a b : Nat} (h1 : x = nI a) (h2 : y = nI b) : x * y = nI (a * b) := by rw [h1, h2, pk_mul]
theorem nx_sub {x y : Int32} {a b : Nat} (h : b ≤ a) (h1 : x = nI a) (h2 : y = nI b) : x - y = nI (a - b) := by rw [h1, h2, pk_sub h]
theorem nx_cl {x : Int32} (h : ¬ x < 0) : x = nI x.toNatClampNeg := by
  obtain ⟨j, hj, rfl⟩ := nI_of h
  rw [nI_clamp hj]
theorem nx_0 {x : Int32} (h : 0 ≤ x) : x = nI x.toNatClampNeg := nx_cl (Int32.not_lt.mpr h)
theorem ix2 {i r j p : Nat} (hi : i < r) (hj : j < p) : i * p + j < r * p := by
  have h1 : (i + 1) * p ≤ r * p := Nat.mul_le_mul_right p hi
  rw [Nat.succ_mul] at h1
  omega
theorem le_ex {N t : Nat} (hN : N < 2 ^ 31) (h : t ≤ N) (c : nI N ≤ nI t) : t = N := by
  have := (nI_leI hN (Nat.lt_of_le_of_lt h hN)).mp c
  omega
theorem le_go {N t : Nat} (hN : N < 2 ^ 31) (h : t ≤ N) (c : ¬ nI N ≤ nI t) : t < N := by
  rcases Nat.lt_or_ge t N with q | q
  · exact q
  · exact absurd (nI_le q (Nat.lt_of_le_of_lt h hN)) c
theorem va_A0 {ws : va_W} {sz z0 : Nat} (hD : va_D (fun q => z0 ≤ q) ws) (hz : z0 ≤ sz) : ∀ q, va_A ws sz q → z0 ≤ q := by
  intro q h
  rcases h with ⟨k, e, h⟩ | h
  · exact hD.2 k (q, e) h
  · exact Nat.le_trans hz h
section RW
variable {p : Program} {l : Launch} {e : Env} {R : Room} {s : State} {m : MethodId} {args : Array Value} {below : List Frame} {meth : Method} {c : Code} {H : Heap} {locs : List Loc} {cells slots : Nat} {Q : State → Prop}
variable {cc : ByteArray} {pc : Nat} {ls : Array Slot} {rest st : List Value} {D : va_G} {cI cZ cB : ClassId} {A : Nat → Prop} {a n nL : Nat} {f : Nat → Int32} {ws w2 : va_W} {H0 : Heap}
theorem ra_i (hexec : p.tables.exec = Jvm.exec) (hb : c.code = cc) (hK : va_K D vwCl (tyL cI cZ cB) s) (hP : va_P D vwCl ws H) (q0 : Nat) (ha : ws[q0]? = some (a, .inl (cI, n, .inl f))) {i : Int32} (k : Nat) (hi : i = nI k) (hk : k < n) (hn : n < 2 ^ 31) (hdg : decode cc pc = .ok (.iaload, 1)) (kk : W p l e R s m args below meth c H locs cells slots Q (F0 m (pc + 1) ls (.int (f k) :: rest))) : W p l e R s m args below meth c H locs cells slots Q (F0 m pc ls (.int i :: .ref a :: rest)) := by
  subst hi
  refine va_iald hexec hb hK hP q0 0 ha rfl (vp_in_nI hk hn) hdg ?_
  rw [nI_clamp (Nat.lt_trans hk hn)]
  exact kk
theorem ra_z (hexec : p.tables.exec = Jvm.exec) (hb : c.code = cc) (hK : va_K D vwCl (tyL cI cZ cB) s) (hP : va_P D vwCl ws H) (q0 : Nat) (ha : ws[q0]? = some (a, .inl (cZ, n, .inl f))) {i : Int32} (k : Nat) (hi : i = nI k) (hk : k < n) (hn : n < 2 ^ 31) (hdg : decode cc pc = .ok (.baload, 1)) (kk : W p l e R s m args below meth c H locs cells slots Q (F0 m (pc + 1) ls (.int (f k) :: rest))) : W p l e R s m args below meth c H locs cells slots Q (F0 m pc ls (.int i :: .ref a :: rest)) := by
  subst hi
  refine va_zald hexec hb hK hP q0 1 ha rfl (vp_in_nI hk hn) hdg ?_
  rw [nI_clamp (Nat.lt_trans hk hn)]
  exact kk
theorem ra_b (hexec : p.tables.exec = Jvm.exec) (hb : c.code = cc) (hK : va_K D vwCl (tyL cI cZ cB) s) (hP : va_P D vwCl ws H) (q0 : Nat) (ha : ws[q0]? = some (a, .inl (cB, n, .inl f))) {i : Int32} (k : Nat) (hi : i = nI k) (hk : k < n) (hn : n < 2 ^ 31) (hdg : decode cc pc = .ok (.baload, 1)) (kk : W p l e R s m args below meth c H locs cells slots Q (F0 m (pc + 1) ls (.int (f k) :: rest))) : W p l e R s m args below meth c H locs cells slots Q (F0 m pc ls (.int i :: .ref a :: rest)) := by
  subst hi
  refine va_bald hexec hb hK hP q0 2 ha rfl (vp_in_nI hk hn) hdg ?_
  rw [nI_clamp (Nat.lt_trans hk hn)]
  exact kk
theorem wa_i (hexec : p.tables.exec = Jvm.exec) (hb : c.code = cc) (hK : va_K D vwCl (tyL cI cZ cB) s) (hP : va_P D vwCl ws H) (hD : va_D A ws) (hS : va_S A H0 H locs) (q0 : Nat) (ha : ws[q0]? = some (a, .inl (cI, n, .inl f))) {i x : Int32} (k : Nat) (hi : i = nI k) (hk : k < n) (hn : n < 2 ^ 31) (hdg : decode cc pc = .ok (.iastore, 1)) (hw : ws.set q0 (a, .inl (cI, n, .inl (upd f k x))) = w2) (kk : ∀ (H1 : Heap) (locs1 : List Loc), va_P D vwCl w2 H1 → va_D A w2 → va_S A H0 H1 locs1 → W p l e R s m args below meth c H1 locs1 cells slots Q (F0 m (pc + 1) ls rest)) : W p l e R s m args below meth c H locs cells slots Q (F0 m pc ls (.int x :: .int i :: .ref a :: rest)) := by
  subst hi; subst hw
  have e := nI_clamp (Nat.lt_trans hk hn)
  refine va_iast hexec hb hK hP hD hS q0 0 ha rfl (vp_in_nI hk hn) hdg ?_
  rw [e]
  exact kk
theorem wa_z (hexec : p.tables.exec = Jvm.exec) (hb : c.code = cc) (hK : va_K D vwCl (tyL cI cZ cB) s) (hP : va_P D vwCl ws H) (hD : va_D A ws) (hS : va_S A H0 H locs) (q0 : Nat) (ha : ws[q0]? = some (a, .inl (cZ, n, .inl f))) {i x : Int32} (k : Nat) (hi : i = nI k) (hk : k < n) (hn : n < 2 ^ 31) (hv : vp_nar .boolean x = x) (hdg : decode cc pc = .ok (.bastore, 1)) (hw : ws.set q0 (a, .inl (cZ, n, .inl (upd f k x))) = w2) (kk : ∀ (H1 : Heap) (locs1 : List Loc), va_P D vwCl w2 H1 → va_D A w2 → va_S A H0 H1 locs1 → W p l e R s m args below meth c H1 locs1 cells slots Q (F0 m (pc + 1) ls rest)) : W p l e R s m args below meth c H locs cells slots Q (F0 m pc ls (.int x :: .int i :: .ref a :: rest)) := by
  subst hi; subst hw
  have e := nI_clamp (Nat.lt_trans hk hn)
  refine va_zast hexec hb hK hP hD hS q0 1 ha rfl (vp_in_nI hk hn) hdg ?_
  rw [e, hv]
  exact kk
theorem wa_b (hexec : p.tables.exec = Jvm.exec) (hb : c.code = cc) (hK : va_K D vwCl (tyL cI cZ cB) s) (hP : va_P D vwCl ws H) (hD : va_D A ws) (hS : va_S A H0 H locs) (q0 : Nat) (ha : ws[q0]? = some (a, .inl (cB, n, .inl f))) {i x : Int32} (k : Nat) (hi : i = nI k) (hk : k < n) (hn : n < 2 ^ 31) (hdg : decode cc pc = .ok (.bastore, 1)) (hw : ws.set q0 (a, .inl (cB, n, .inl (upd f k (vp_nar .byte x)))) = w2) (kk : ∀ (H1 : Heap) (locs1 : List Loc), va_P D vwCl w2 H1 → va_D A w2 → va_S A H0 H1 locs1 → W p l e R s m args below meth c H1 locs1 cells slots Q (F0 m (pc + 1) ls rest)) : W p l e R s m args below meth c H locs cells slots Q (F0 m pc ls (.int x :: .int i :: .ref a :: rest)) := by
  subst hi; subst hw
  have e := nI_clamp (Nat.lt_trans hk hn)
  refine va_bast hexec hb hK hP hD hS q0 2 ha rfl (vp_in_nI hk hn) hdg ?_
  rw [e]
  exact kk
/-- a field is written; the cells behind it are told -/
theorem pf {own ref C : String} {T : u_T} {N ci index : Nat} {Ts : List Cond} (hexec : p.tables.exec = Jvm.exec) (hb : c.code = cc) (hts : ∀ w ∈ Ts, w.before args s = true) (hin : ∀ w ∈ u_ws C T N, w ∈ Ts) (ty0 : Nat → FieldType) (hty : ∀ k, k < N → parseFieldDescriptor (T k).2.2.1 = some (ty0 k)) (hnm : ∀ a, a < N → ∀ b, b < N → a ≠ b → (T a).2.1 ≠ (T b).2.1) (hown : s.vm.findClass own = some m.cls) (hK : va_K D vwCl (tyL cI cZ cB) s) (hP : va_P D vwCl ws H) (hD : va_D A ws) (hS0 : va_S A H0 H locs) (q0 : Nat) {fs : List Value} (he : ws[q0]? = some (a, .inr (ci, fs))) (hc : vwCl[ci]? = some (C, T, N)) (k : Nat) (hk : k < N) (hlink : (Cond.fieldLink own index ref (T k).2.1 (T k).2.2.1).before args s = true) (hsame : (T k).1 = ref) (hfin : (T k).2.2.2 = false) {v : Value} (hn : narrow (ty0 k) v = v) (hfit : fits (ty0 k) v = true) (hl : k < fs.length) (hw : ws.set q0 (a, .inr (ci, fs.set k v)) = w2)
    (hdg : decode cc pc = .ok (.putfield index, 3)) (kk : ∀ (H1 : Heap) (locs1 : List Loc), va_P D vwCl w2 H1 → va_D A w2 → va_S A H0 H1 locs1 → W p l e R s m args below meth c H1 locs1 cells slots Q (F0 m (pc + 3) ls rest)) : W p l e R s m args below meth c H locs cells slots Q (F0 m pc ls (v :: .ref a :: rest)) := by
  subst hw; subst hsame
  exact va_put hexec hb hts hin ty0 hty hnm hown hK hP hD hS0 q0 he hc k hk hlink (fun _ h => h) hfin (hty k hk) hn hfit hl hdg kk
/-- a loop: its states are told by x, the measure falls -/
theorem lpM {σ : Type} (Φ : σ → Prop) (μ : σ → Nat) (I : σ → va_W) (lvs : σ → List (Nat × Value)) (x0 : σ) (h0 : Φ x0) (hP : va_P D vwCl (I x0) H) (hD : va_D A (I x0)) (hS : va_S A s.heap H locs) (hl : lv_has ls nL (lvs x0))
    (body : ∀ x, Φ x → (∀ y, Φ y → μ y < μ x → ∀ (H : Heap) (locs : List Loc) (ls : Array Slot), va_P D vwCl (I y) H → va_D A (I y) → va_S A s.heap H locs → lv_has ls nL (lvs y) → W p l e R s m args below meth c H locs cells slots Q (F0 m pc ls st)) → ∀ (H : Heap) (locs : List Loc) (ls : Array Slot), va_P D vwCl (I x) H → va_D A (I x) → va_S A s.heap H locs → lv_has ls nL (lvs x) → W p l e R s m args below meth c H locs cells slots Q (F0 m pc ls st)) : W p l e R s m args below meth c H locs cells slots Q (F0 m pc ls st) := by
  have key : ∀ (n : Nat) (x : σ), μ x < n → Φ x → ∀ (H : Heap) (locs : List Loc) (ls : Array Slot), va_P D vwCl (I x) H → va_D A (I x) → va_S A s.heap H locs → lv_has ls nL (lvs x) → W p l e R s m args below meth c H locs cells slots Q (F0 m pc ls st) := by
    intro n
    induction n with
    | zero => intro x hx; exact absurd hx (Nat.not_lt_zero _)
    | succ n ih => intro x hx hΦ; exact body x hΦ (fun y hy hlt => ih y (Nat.lt_of_lt_of_le hlt (Nat.le_of_lt_succ hx)) hy)
  exact key (μ x0 + 1) x0 (Nat.lt_succ_self _) h0 H locs ls hP hD hS hl
end RW
