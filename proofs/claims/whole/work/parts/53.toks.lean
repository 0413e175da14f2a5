/-! the tokens of a law -/
def rel8 (ln : Nat) (tp d : Nat → Int32) : Prop := ∀ k, k < ln → d k = (tp k).toInt8.toInt32 ∧ 0 ≤ (tp k).toInt ∧ (tp k).toInt < 256
theorem sb_I {x : Int32} (h1 : 0 ≤ x.toInt) (h2 : x.toInt < 256) : x.toInt8.toInt32.toInt = if x.toInt < 128 then x.toInt else x.toInt - 256 := by
  rw [Int8.toInt_toInt32, Int32.toInt_toInt8]
  unfold Int.bmod
  show (if x.toInt % ((2 ^ 8 : Nat) : Int) < (((2 ^ 8 : Nat) : Int) + 1) / 2 then x.toInt % ((2 ^ 8 : Nat) : Int) else x.toInt % ((2 ^ 8 : Nat) : Int) - ((2 ^ 8 : Nat) : Int)) = _
  split <;> split <;> omega
theorem wn_iff {x : Int32} {a b : Nat} (ha1 : a < 2 ^ 31) (hb1 : b < 2 ^ 31) : F_X7_within x (nI a) (nI b) = 0 ↔ ¬ ((a : Int) ≤ x.toInt ∧ x.toInt ≤ b) := by
  constructor
  · intro h q
    rcases wn_0 h with q2 | q2
    · rw [fa_lt, nI_toInt ha1] at q2
      omega
    · rw [fa_lt, nI_toInt hb1] at q2
      omega
  · intro h
    by_cases c1 : F_X7_within x (nI a) (nI b) = 0
    · exact c1
    · exact absurd (wn_I hb1 ha1 c1) h
theorem kd_all {x : Int32} : (F_X3_kindOf x = 1 ↔ (97 ≤ x.toInt ∧ x.toInt ≤ 122)) ∧ (F_X3_kindOf x = 2 ↔ (48 ≤ x.toInt ∧ x.toInt ≤ 57)) ∧ (F_X3_kindOf x = 3 ↔ x.toInt = 59) ∧ ¬ F_X3_kindOf x = 0 := by
  have w1 : F_X7_within x 97 122 = 0 ↔ ¬ ((97 : Int) ≤ x.toInt ∧ x.toInt ≤ 122) := wn_iff (a := 97) (b := 122) (by omega) (by omega)
  have w2 : F_X7_within x 48 57 = 0 ↔ ¬ ((48 : Int) ≤ x.toInt ∧ x.toInt ≤ 57) := wn_iff (a := 48) (b := 57) (by omega) (by omega)
  have w3 : x = 59 ↔ x.toInt = 59 := by
    rw [fa_eq, show (59 : Int32).toInt = 59 from by decide]
  have n1 : ¬ (1 : Int32) = 2 ∧ ¬ (1 : Int32) = 3 ∧ ¬ (1 : Int32) = 0 ∧ ¬ (2 : Int32) = 1 ∧ ¬ (2 : Int32) = 3 ∧ ¬ (2 : Int32) = 0 ∧ ¬ (3 : Int32) = 1 ∧ ¬ (3 : Int32) = 2 ∧ ¬ (3 : Int32) = 0 ∧ ¬ (4 : Int32) = 1 ∧ ¬ (4 : Int32) = 2 ∧ ¬ (4 : Int32) = 3 ∧ ¬ (4 : Int32) = 0 := by decide
  obtain ⟨a1, a2, a3, a4, a5, a6, a7, a8, a9, b1, b2, b3, b4⟩ := n1
  unfold F_X3_kindOf
  by_cases c1 : F_X7_within x 97 122 = 0
  · rw [if_pos c1]
    have d1 := w1.mp c1
    by_cases c2 : F_X7_within x 48 57 = 0
    · rw [if_pos c2]
      have d2 := w2.mp c2
      by_cases c3 : x = 59
      · rw [if_pos c3]
        have d3 := w3.mp c3
        exact ⟨⟨fun q => absurd q a7, fun q => absurd q d1⟩, ⟨fun q => absurd q a8, fun q => absurd q d2⟩, ⟨fun _ => d3, fun _ => rfl⟩, a9⟩
      · rw [if_neg c3]
        exact ⟨⟨fun q => absurd q b1, fun q => absurd q d1⟩, ⟨fun q => absurd q b2, fun q => absurd q d2⟩, ⟨fun q => absurd q b3, fun q => absurd (w3.mpr q) c3⟩, b4⟩
    · rw [if_neg c2]
      have d2 : (48 : Int) ≤ x.toInt ∧ x.toInt ≤ 57 := by
        by_cases c3 : (48 : Int) ≤ x.toInt ∧ x.toInt ≤ 57
        · exact c3
        · exact absurd (w2.mpr c3) c2
      exact ⟨⟨fun q => absurd q a4, fun q => absurd q d1⟩, ⟨fun _ => d2, fun _ => rfl⟩, ⟨fun q => absurd q a5, fun q => by omega⟩, a6⟩
  · rw [if_neg c1]
    have d1 : (97 : Int) ≤ x.toInt ∧ x.toInt ≤ 122 := by
      by_cases c3 : (97 : Int) ≤ x.toInt ∧ x.toInt ≤ 122
      · exact c3
      · exact absurd (w1.mpr c3) c1
    exact ⟨⟨fun _ => d1, fun _ => rfl⟩, ⟨fun q => absurd q a1, fun q => by omega⟩, ⟨fun q => absurd q a2, fun q => by omega⟩, a3⟩
theorem ch_all {x y : Int32} (hy : y = x.toInt8.toInt32) (h1 : 0 ≤ x.toInt) (h2 : x.toInt < 256) : (¬ F_X3_isBlank x = 0 ↔ (y = 32 ∨ y = 10)) ∧ ((¬ y < 97 ∧ ¬ 122 < y) ↔ F_X3_kindOf x = 1) ∧ ((¬ y < 48 ∧ ¬ 57 < y) ↔ F_X3_kindOf x = 2) ∧ (y = 59 ↔ F_X3_kindOf x = 3) ∧ (x.toInt < 128 → y = x) := by
  have e1 := sb_I h1 h2
  rw [← hy] at e1
  obtain ⟨k1, k2, k3, -⟩ := kd_all (x := x)
  have z97 : (97 : Int32).toInt = 97 := by decide
  have z122 : (122 : Int32).toInt = 122 := by decide
  have z48 : (48 : Int32).toInt = 48 := by decide
  have z57 : (57 : Int32).toInt = 57 := by decide
  have z59 : (59 : Int32).toInt = 59 := by decide
  have z32 : (32 : Int32).toInt = 32 := by decide
  have z10 : (10 : Int32).toInt = 10 := by decide
  refine ⟨?_, ?_, ?_, ?_, ?_⟩
  · have hb1 : ¬ F_X3_isBlank x = 0 ↔ (x = 32 ∨ x = 10) := by
      unfold F_X3_isBlank
      by_cases c1 : x = 32
      · rw [if_pos c1]
        exact ⟨fun _ => Or.inl c1, fun _ => by decide⟩
      · rw [if_neg c1]
        by_cases c2 : x = 10
        · rw [if_pos c2]
          exact ⟨fun _ => Or.inr c2, fun _ => by decide⟩
        · rw [if_neg c2]
          exact ⟨fun q => absurd rfl q, fun q => absurd q (fun q => q.elim c1 c2)⟩
    rw [hb1, fa_eq, fa_eq, fa_eq, fa_eq, z32, z10, e1]
    split <;> omega
  · rw [k1, fa_lt, fa_lt, z97, z122, e1]
    split <;> omega
  · rw [k2, fa_lt, fa_lt, z48, z57, e1]
    split <;> omega
  · rw [k3, fa_eq, z59, e1]
    split <;> omega
  · intro q
    rw [fa_eq, e1, if_pos q]
theorem sk_cong {b b' : Nat → Bool} {n : Nat} (h : ∀ k, k < n → b k = b' k) (a : Nat) : sk b n a = sk b' n a := by
  have key : ∀ (f a : Nat), adv b n f a = adv b' n f a := by
    intro f
    induction f with
    | zero => intro a; rfl
    | succ f ih =>
      intro a
      rw [adv, adv, ih]
      by_cases c1 : a < n
      · rw [h a c1]
      · rw [if_neg (fun q => c1 q.1), if_neg (fun q => c1 q.1)]
  exact key _ _
theorem sk_all {b : Nat → Bool} {n a : Nat} : ∀ k, a ≤ k → k < sk b n a → b k = true := by
  have key : ∀ (f a k : Nat), a ≤ k → k < adv b n f a → b k = true := by
    intro f
    induction f with
    | zero => intro a k h1 h2; exact absurd h2 (by show ¬ k < a; omega)
    | succ f ih =>
      intro a k h1 h2
      rw [adv] at h2
      by_cases c1 : a < n ∧ b a = true
      · rw [if_pos c1] at h2
        by_cases c2 : k = a
        · rw [c2]
          exact c1.2
        · exact ih (a + 1) k (by omega) h2
      · rw [if_neg c1] at h2
        omega
  exact key _ _
theorem bl_eq {ln : Nat} {tp d : Nat → Int32} (h : rel8 ln tp d) (a : Nat) : sk (bl tp) ln a = sk (blM d) ln a := by
  refine sk_cong (fun k hk => ?_) a
  obtain ⟨h1, h2, h3⟩ := h k hk
  unfold bl blM
  exact decide_eq_decide.mpr (ch_all h1 h2 h3).1
theorem le_eq {ln : Nat} {tp d : Nat → Int32} (h : rel8 ln tp d) (a : Nat) : sk (kb tp 1) ln a = sk (leM d) ln a := by
  refine sk_cong (fun k hk => ?_) a
  obtain ⟨h1, h2, h3⟩ := h k hk
  unfold kb leM
  exact decide_eq_decide.mpr (ch_all h1 h2 h3).2.1.symm
theorem di_eq {ln : Nat} {tp d : Nat → Int32} (h : rel8 ln tp d) (a : Nat) : sk (kb tp 2) ln a = sk (diM d) ln a := by
  refine sk_cong (fun k hk => ?_) a
  obtain ⟨h1, h2, h3⟩ := h k hk
  unfold kb diM
  exact decide_eq_decide.mpr (ch_all h1 h2 h3).2.2.1.symm
/-- a token, by the reference's text -/
theorem tok {ln x : Nat} {tp d : Nat → Int32} (h : rel8 ln tp d) (hxl : x ≤ ln) (hln : ln ≤ 300) : F_X3_scan_0_5 ln x tp = sk (blM d) ln x ∧ ((sk (blM d) ln x = ln ∧ F_X3_scan_0_4 ln x tp = 0 ∧ F_X3_scan_0_6 ln x tp = ln) ∨ (sk (blM d) ln x < ln ∧ F_X3_scan_0_4 ln x tp = F_X3_kindOf (tp (sk (blM d) ln x)) ∧ ((F_X3_scan_0_4 ln x tp = 1 ∧ F_X3_scan_0_6 ln x tp = sk (leM d) ln (sk (blM d) ln x)) ∨ (F_X3_scan_0_4 ln x tp = 2 ∧ F_X3_scan_0_6 ln x tp = sk (diM d) ln (sk (blM d) ln x)) ∨ (¬ F_X3_scan_0_4 ln x tp = 1 ∧ ¬ F_X3_scan_0_4 ln x tp = 2 ∧ ¬ F_X3_scan_0_4 ln x tp = 0 ∧ F_X3_scan_0_6 ln x tp = sk (blM d) ln x + 1)))) := by
  obtain ⟨s1, s2, s3, s4⟩ := scan_le (tp := tp) hxl hln
  have e0 := bl_eq h x
  have hle := (sk_le (b := blM d) hxl).1
  refine ⟨s4.trans e0, ?_⟩
  unfold F_X3_scan_0_4 F_X3_scan_0_6
  rw [e0]
  generalize sk (blM d) ln x = B at *
  by_cases c1 : nI B < nI ln
  · have c2 := (nI_ltI (by omega) (by omega)).mp c1
    rw [if_pos c1, if_pos c1]
    refine Or.inr ⟨c2, rfl, ?_⟩
    obtain ⟨h1, h2, h3⟩ := h B c2
    obtain ⟨-, q1, q2, -, -⟩ := ch_all h1 h2 h3
    by_cases c3 : F_X3_kindOf (tp B) = 1
    · refine Or.inl ⟨c3, ?_⟩
      rw [c3, skE, if_pos (Or.inl rfl), le_eq h]
      exact (sk_step c2 (decide_eq_true (q1.mpr c3))).symm
    · by_cases c4 : F_X3_kindOf (tp B) = 2
      · refine Or.inr (Or.inl ⟨c4, ?_⟩)
        rw [c4, skE, if_pos (Or.inr rfl), di_eq h]
        exact (sk_step c2 (decide_eq_true (q2.mpr c4))).symm
      · exact Or.inr (Or.inr ⟨c3, c4, kd_all.2.2.2, skE_no c3 c4⟩)
  · have c2 : B = ln := by
      rcases Nat.lt_or_ge B ln with q | q
      · exact absurd (nI_lt q (by omega)) c1
      · omega
    rw [if_neg c1, if_neg c1]
    exact Or.inl ⟨c2, rfl, c2⟩
/-- letters, packed: a number -/
def pkN (b : Nat → Nat) : Nat → Nat
  | 0 => 0
  | n + 1 => pkN b n * 256 + b n
def pv : List Nat → Nat
  | [] => 0
  | x :: xs => pv xs * 256 + x
theorem pkN_lt {b : Nat → Nat} : ∀ t, (∀ k, k < t → b k < 256) → pkN b t < 256 ^ t
  | 0, _ => by
    show 0 < 256 ^ 0
    decide
  | t + 1, h => by
    have ih := pkN_lt t (fun k hk => h k (by omega))
    have := h t (Nat.lt_succ_self t)
    rw [pkN, Nat.pow_succ]
    omega
theorem pk_val : ∀ (cs : List Nat) (t : Nat) (b : Nat → Nat), (∀ x ∈ cs, 0 < x ∧ x < 256) → (∀ k, k < t → 0 < b k ∧ b k < 256) → (pkN b t = pv cs ↔ (t = cs.length ∧ ∀ k, k < t → b k = cs.getD (t - 1 - k) 0))
  | [], 0, b, _, _ => ⟨fun _ => ⟨rfl, fun k hk => absurd hk (Nat.not_lt_zero k)⟩, fun _ => rfl⟩
  | [], t + 1, b, _, h2 => by
    refine ⟨fun q => ?_, fun q => ?_⟩
    · have := (h2 t (Nat.lt_succ_self t)).1
      rw [pkN, pv] at q
      omega
    · exact absurd q.1 (by simp)
  | x :: xs, 0, b, h1, _ => by
    refine ⟨fun q => ?_, fun q => ?_⟩
    · have := (h1 x (by simp)).1
      rw [pkN, pv] at q
      omega
    · exact absurd q.1 (by simp)
  | x :: xs, t + 1, b, h1, h2 => by
    have ih := pk_val xs t b (fun y hy => h1 y (by simp [hy])) (fun k hk => h2 k (by omega))
    have b1 := h1 x (by simp)
    have b2 := h2 t (Nat.lt_succ_self t)
    rw [pkN, pv]
    constructor
    · intro q
      have q1 : b t = x := by omega
      have q2 : pkN b t = pv xs := by omega
      obtain ⟨i1, i2⟩ := ih.mp q2
      refine ⟨by rw [i1]; rfl, fun k hk => ?_⟩
      by_cases c1 : k = t
      · subst c1
        rw [q1]
        have e : k + 1 - 1 - k = 0 := by omega
        rw [e]
        rfl
      · rw [i2 k (by omega)]
        have e : t + 1 - 1 - k = (t - 1 - k) + 1 := by omega
        rw [e]
        rfl
    · rintro ⟨q1, q2⟩
      have q3 : t = xs.length := by
        have : t + 1 = xs.length + 1 := q1
        omega
      have q4 := q2 t (Nat.lt_succ_self t)
      have e : t + 1 - 1 - t = 0 := by omega
      rw [e] at q4
      have q5 : b t = x := q4
      have q6 : pkN b t = pv xs := ih.mpr ⟨q3, fun k hk => by
        have := q2 k (by omega)
        have e : t + 1 - 1 - k = (t - 1 - k) + 1 := by omega
        rw [e] at this
        exact this⟩
      rw [q5, q6]
theorem pk_step {n b : Nat} (hn : n < 2 ^ 54) (hb1 : b < 256) : lN n <<< (Int32.toInt64 8 &&& 63) ||| lN b = lN (n * 256 + b) := by
  have e8 : (Int32.toInt64 8 &&& 63 : Int64) = 8 := by decide
  rw [e8]
  apply Int64.toBitVec_inj.mp
  apply BitVec.eq_of_toNat_eq
  rw [Int64.toBitVec_or, Int64.toBitVec_shiftLeft, BitVec.toNat_or]
  have h1 : (Int64.toBitVec 8).smod 64 = 8#64 := by decide
  have t1 : ∀ k : Nat, (lN k).toBitVec.toNat = k % 2 ^ 64 := fun k => BitVec.toNat_ofNat k 64
  rw [h1, BitVec.shiftLeft_eq', BitVec.toNat_shiftLeft, t1, t1, t1, Nat.mod_eq_of_lt (a := n) (by omega), Nat.mod_eq_of_lt (a := b) (by omega), Nat.mod_eq_of_lt (a := n * 256 + b) (by omega)]
  have h2 : (8#64).toNat = 8 := by decide
  rw [h2, Nat.mod_eq_of_lt (by rw [Nat.shiftLeft_eq]; omega), ← Nat.shiftLeft_add_eq_or_of_lt (i := 8) (by omega), Nat.shiftLeft_eq]
theorem pkW_eq {d : Nat → Int32} {a : Nat} : ∀ t, t ≤ 7 → (∀ k, k < t → 0 ≤ (d (a + k)).toInt ∧ (d (a + k)).toInt < 256) → pkW d a t = lN (pkN (fun k => (d (a + k)).toInt.toNat) t)
  | 0, _, _ => rfl
  | t + 1, ht, h => by
    have ih := pkW_eq t (by omega) (fun k hk => h k (by omega))
    have hl := pkN_lt (b := fun k => (d (a + k)).toInt.toNat) t (fun k hk => by have := h k (by omega); show (d (a + k)).toInt.toNat < 256; omega)
    have h256 : 256 ^ t ≤ 256 ^ 6 := Nat.pow_le_pow_right (by omega) (by omega)
    obtain ⟨b1, b2⟩ := h t (Nat.lt_succ_self t)
    obtain ⟨k, hk, e1⟩ := nI_of (x := d (a + t)) (by rw [fa_lt, show (0 : Int32).toInt = 0 from by decide]; omega)
    have e2 : (d (a + t)).toInt = (k : Int) := by rw [e1, nI_toInt hk]
    rw [pkW, ih, pkN]
    show _ = lN (_ * 256 + (d (a + t)).toInt.toNat)
    rw [e2, e1, nI_l hk, Int.toNat_natCast]
    exact pk_step (by omega) (by omega)
