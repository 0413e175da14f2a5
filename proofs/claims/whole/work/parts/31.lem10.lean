section LC
variable {p : Program} {l : Launch} {e : Env} {R : Room} {s : State} {m : MethodId} {args : Array Value} {below : List Frame} {meth : Method} {c : Code} {H : Heap} {locs : List Loc} {cells slots : Nat} {Q : State → Prop}
theorem lc_0 (x y : Int64) : lg_cmp x y = 0 ↔ x = y := by
  unfold lg_cmp
  constructor
  · intro h
    by_cases h1 : y < x
    · simp [h1] at h
    · by_cases h2 : x = y
      · exact h2
      · simp [h1, h2] at h
  · intro h
    subst h
    simp
theorem lcmp_eq {cc : ByteArray} (hexec : p.tables.exec = Jvm.exec) (hb : c.code = cc) {x y : Int64} {pc : Nat} {ls : Array Slot} {rest : List Value} {off : Int} {tgt : Nat} (hdg : decode cc pc = .ok (.lcmp, 1)) (hdg2 : decode cc (pc + 1) = .ok (.ifCond .eq off, 3)) (ht : ((pc + 1 : Nat) : Int) + off = (tgt : Int))
    (kt : x = y → W p l e R s m args below meth c H locs cells slots Q (F0 m tgt ls rest)) (kf : ¬ x = y → W p l e R s m args below meth c H locs cells slots Q (F0 m (pc + 1 + 3) ls rest)) : W p l e R s m args below meth c H locs cells slots Q (F0 m pc ls (.long y :: .long x :: rest)) := by
  refine W.lcmp hexec hb hdg ?_
  exact lv_if_eq (tgt := tgt) hexec hb hdg2 ht (fun h => kt ((lc_0 x y).mp h)) (fun h => kf (fun q => h ((lc_0 x y).mpr q)))
end LC
theorem m1p1 (d : Nat) : nI d - 1 + 1 = nI d := by
  rcases Nat.eq_zero_or_pos d with z | z
  · subst z
    decide
  · rw [nI_dec z, nI_1]
    congr 1
    omega
theorem m1s (d : Nat) : nI d - 1 + 1 = nI (d + 1) - 1 := by rw [m1p1, nI_pred]
theorem m8_p {d k : Nat} {x : Int32} (h : x = nI k) : 8 * (nI d - 1) + 8 + x = nI (8 * d + k) := by
  rcases Nat.eq_zero_or_pos d with z | z
  · subst z
    rw [h]
    have e : (8 : Int32) * (nI 0 - 1) + 8 = nI 0 := by decide
    rw [e, nI_add]
  · rw [nI_dec z, h]
    have e : (8 : Int32) * nI (d - 1) = nI (8 * (d - 1)) := pk_mul 8 (d - 1)
    have e2 : nI (8 * (d - 1)) + 8 = nI (8 * (d - 1) + 8) := nI_add _ 8
    rw [e, e2, nI_add]
    congr 1
    omega
theorem m8_s {d k : Nat} {x : Int32} (h : x = nI k) : 8 * (nI (d + 1) - 1) + x = nI (8 * d + k) := by
  rw [nI_pred, h]
  have e : (8 : Int32) * nI d = nI (8 * d) := pk_mul 8 d
  rw [e, nI_add]
theorem m8_d {d k : Nat} {x : Int32} (hd : 0 < d) (h : x = nI k) : 8 * (nI d - 1) + x = nI (8 * (d - 1) + k) := by
  rw [nI_dec hd, h]
  have e : (8 : Int32) * nI (d - 1) = nI (8 * (d - 1)) := pk_mul 8 (d - 1)
  rw [e, nI_add]
theorem m1_inj {a b : Nat} (ha : a < 2 ^ 31) (hb : b < 2 ^ 31) (h : nI a - 1 = nI b - 1) : a = b := by
  have h2 : nI a - 1 + 1 = nI b - 1 + 1 := by rw [h]
  rw [m1p1, m1p1] at h2
  exact (nI_eq ha hb).mp h2
theorem m1_ne {a : Nat} (ha : a < 2 ^ 31) (h : ¬ nI a - 1 = (-1)) : 0 < a := by
  rcases Nat.eq_zero_or_pos a with z | z
  · subst z
    exact absurd (by decide) h
  · exact z
theorem m1_lt {a b : Nat} (ha : a ≤ b) (hb : b < 2 ^ 31) (h : ¬ nI a - 1 = nI b - 1) : a < b := by
  rcases Nat.lt_or_ge a b with q | q
  · exact q
  · have e : a = b := by omega
    exact absurd (by rw [e]) h
/-- blanks, letters, digits of the reference's text -/
def blM (d : Nat → Int32) : Nat → Bool := fun k => decide (d k = 32 ∨ d k = 10)
def leM (d : Nat → Int32) : Nat → Bool := fun k => decide (¬ d k < 97 ∧ ¬ 122 < d k)
def diM (d : Nat → Int32) : Nat → Bool := fun k => decide (¬ d k < 48 ∧ ¬ 57 < d k)
/-- the letters packed -/
def pkW (d : Nat → Int32) (a : Nat) : Nat → Int64
  | 0 => 0
  | n + 1 => pkW d a n <<< (Int32.toInt64 8 &&& 63) ||| (d (a + n)).toInt64
def wvM (d : Nat → Int32) (a t : Nat) : Int64 := if t ≤ 7 then pkW d a t else 0
theorem wv_0 {d : Nat → Int32} {a : Nat} : wvM d a (a - a) = 0 := by
  rw [Nat.sub_self, wvM, if_pos (by decide), pkW]
theorem wv_s {d : Nat → Int32} {a x : Nat} (h : a ≤ x) (h7 : x - a < 7) : wvM d a (x + 1 - a) = wvM d a (x - a) <<< (Int32.toInt64 8 &&& 63) ||| (d x).toInt64 := by
  have e : x + 1 - a = (x - a) + 1 := by omega
  have e2 : a + (x - a) = x := by omega
  rw [e, wvM, wvM, if_pos (by omega), if_pos (by omega), pkW, e2]
theorem wv_z {d : Nat → Int32} {a x : Nat} (h7 : ¬ x - a < 7) : wvM d a (x + 1 - a) = 0 := by
  rw [wvM, if_neg (by omega)]
/-- the digits' number, four at most -/
def nuM (d : Nat → Int32) (a : Nat) : Nat → Int32
  | 0 => 0
  | n + 1 => if n < 4 then 10 * nuM d a n + d (a + n) - 48 else nuM d a n
theorem nu_0 {d : Nat → Int32} {a : Nat} : nuM d a (a - a) = 0 := by
  rw [Nat.sub_self, nuM]
theorem nu_s {d : Nat → Int32} {a x : Nat} (h : a ≤ x) (h4 : x - a < 4) : nuM d a (x + 1 - a) = 10 * nuM d a (x - a) + d x - 48 := by
  have e : x + 1 - a = (x - a) + 1 := by omega
  have e2 : a + (x - a) = x := by omega
  rw [e, nuM, if_pos h4, e2]
theorem nu_z {d : Nat → Int32} {a x : Nat} (h : a ≤ x) (h4 : ¬ x - a < 4) : nuM d a (x + 1 - a) = nuM d a (x - a) := by
  have e : x + 1 - a = (x - a) + 1 := by omega
  rw [e, nuM, if_neg h4]
theorem le7 {a b : Nat} (h : b ≤ a) (ha : a < 2 ^ 31) : 7 ≤ nI a - nI b ↔ 7 ≤ a - b := by
  rw [pk_sub h]
  exact nI_leI (a := 7) (by decide) (by omega)
theorem le4 {a b : Nat} (h : b ≤ a) (ha : a < 2 ^ 31) : 4 ≤ nI a - nI b ↔ 4 ≤ a - b := by
  rw [pk_sub h]
  exact nI_leI (a := 4) (by decide) (by omega)
