/-! two sweeps over the ground -/
theorem sw_abs (n : Nat) (g : Int) (c : Nat → Nat) (R : Nat → Nat → Prop) (a : Nat → Nat → Int)
    (hinj : ∀ K K', K < n → K' < n → c K = c K' → K = K') (hR : ∀ K p, K < n → R (c K) p → ∃ K', K' < K ∧ p = c K')
    (h1 : ∀ K x, K < n → x ≠ c K → a (K + 1) x = a K x) (h2 : ∀ K, K < n → a K (c K) ≤ a (K + 1) (c K))
    (h3 : ∀ K p, K < n → R (c K) p → a K p - g ≤ a (K + 1) (c K)) (h4 : ∀ K, K < n → a (K + 1) (c K) = a K (c K) ∨ ∃ p, R (c K) p ∧ a (K + 1) (c K) = a K p - g) :
    (∀ K, K < n → a 0 (c K) ≤ a n (c K) ∧ ∀ p, R (c K) p → a n p - g ≤ a n (c K)) ∧ (∀ E : Nat → Int, (∀ x, a 0 x ≤ E x) → (∀ x p, R x p → E p - g ≤ E x) → ∀ x, a n x ≤ E x) := by
  have u1 : ∀ (d K : Nat), K + 1 + d ≤ n → a (K + 1 + d) (c K) = a (K + 1) (c K) := by
    intro d
    induction d with
    | zero => intro K _; rfl
    | succ d ih =>
      intro K hK
      have e : K + 1 + (d + 1) = (K + 1 + d) + 1 := by omega
      rw [e, h1 (K + 1 + d) (c K) (by omega) (fun q => by have := hinj K (K + 1 + d) (by omega) (by omega) q; omega)]
      exact ih K (by omega)
  have u1' : ∀ K K2, K < K2 → K2 ≤ n → a K2 (c K) = a (K + 1) (c K) := by
    intro K K2 h h'
    have := u1 (K2 - (K + 1)) K (by omega)
    rw [show K + 1 + (K2 - (K + 1)) = K2 by omega] at this
    exact this
  have u0 : ∀ (K2 K : Nat), K2 ≤ K → K < n → a K2 (c K) = a 0 (c K) := by
    intro K2
    induction K2 with
    | zero => intro K _ _; rfl
    | succ K2 ih =>
      intro K hK hn
      rw [h1 K2 (c K) (by omega) (fun q => by have := hinj K K2 hn (by omega) q; omega)]
      exact ih K (by omega) hn
  refine ⟨fun K hK => ⟨?_, fun p hp => ?_⟩, fun E hE0 hEL => ?_⟩
  · have e1 := u0 K K (Nat.le_refl _) hK
    have e2 := u1' K n hK (Nat.le_refl _)
    have := h2 K hK
    omega
  · obtain ⟨K', hK', rfl⟩ := hR K p hK hp
    have e1 := u1' K' n (by omega) (Nat.le_refl _)
    have e2 := u1' K' K hK' (by omega)
    have e3 := u1' K n hK (Nat.le_refl _)
    have := h3 K _ hK hp
    omega
  · have key : ∀ K, K ≤ n → ∀ x, a K x ≤ E x := by
      intro K
      induction K with
      | zero => intro _ x; exact hE0 x
      | succ K ih =>
        intro hK x
        by_cases hx : x = c K
        · subst hx
          rcases h4 K (by omega) with q | ⟨p, hp, q⟩
          · rw [q]
            exact ih (by omega) _
          · rw [q]
            have := ih (by omega) p
            have := hEL _ _ hp
            omega
        · rw [h1 K x (by omega) hx]
          exact ih (by omega) x
    exact key n (Nat.le_refl _)
/-- nested loops, one round after the other -/
def nst {σ : Type} (inn : Nat → Nat → σ → σ) (w : Nat) (s0 : σ) (K : Nat) : σ := lp (inn (K / w)) (K % w) (lp (fun i z => lp (inn i) w z) (K / w) s0)
theorem nst_0 {σ : Type} (inn : Nat → Nat → σ → σ) (w : Nat) (s0 : σ) : nst inn w s0 0 = s0 := by
  unfold nst
  rw [Nat.zero_div, Nat.zero_mod]
  rfl
theorem nst_s {σ : Type} (inn : Nat → Nat → σ → σ) {w : Nat} (hw : 0 < w) (s0 : σ) (K : Nat) : nst inn w s0 (K + 1) = inn (K / w) (K % w) (nst inn w s0 K) := by
  have hm := Nat.mod_lt K hw
  have hd := Nat.div_add_mod K w
  by_cases c : K % w + 1 < w
  · have e1 : (K + 1) / w = K / w := by
      rw [Nat.div_eq_of_lt_le] <;> rw [Nat.mul_comm] <;> first | omega | (rw [Nat.mul_succ]; omega)
    have e2 : (K + 1) % w = K % w + 1 := by
      have := Nat.div_add_mod (K + 1) w
      rw [e1] at this
      omega
    unfold nst
    rw [e1, e2, lp_s]
  · have e1 : (K + 1) / w = K / w + 1 := by
      rw [Nat.div_eq_of_lt_le] <;> rw [Nat.mul_comm, Nat.mul_succ] <;> first | omega | (rw [Nat.mul_succ]; omega)
    have e2 : (K + 1) % w = 0 := by
      have := Nat.div_add_mod (K + 1) w
      rw [e1, Nat.mul_succ] at this
      omega
    unfold nst
    rw [e1, e2, lp_0, lp_s]
    have e3 : w = K % w + 1 := by omega
    have key : ∀ (m : Nat) (X : σ), m = K % w + 1 → lp (inn (K / w)) m X = inn (K / w) (K % w) (lp (inn (K / w)) (K % w) X) := by
      intro m X h
      subst h
      rfl
    exact key w _ e3
theorem nst_n {σ : Type} (inn : Nat → Nat → σ → σ) {w : Nat} (hw : 0 < w) (s0 : σ) (n : Nat) : nst inn w s0 (n * w) = lp (fun i z => lp (inn i) w z) n s0 := by
  unfold nst
  rw [Nat.mul_div_cancel n hw, Nat.mul_mod_left]
  rfl
def n1 (g a b : Int32) : Int32 := if a < b - g then b - g else a
def n2 (g a b : Int32) : Int32 := if b + g < a then b + g else a
theorem n1_I {g a b : Int32} (hg : IGg g) (ha : 0 ≤ a.toInt ∧ a.toInt ≤ 1000) (hb : 0 ≤ b.toInt ∧ b.toInt ≤ 1000) : (n1 g a b).toInt = if a.toInt < b.toInt - g.toInt then b.toInt - g.toInt else a.toInt := by
  obtain ⟨g1, g2⟩ := hg
  have e : (b - g).toInt = b.toInt - g.toInt := fb_subI (by omega) (by omega)
  unfold n1
  by_cases c : a < b - g
  · rw [if_pos c, e]
    rw [fa_lt, e] at c
    rw [if_pos c]
  · rw [if_neg c]
    rw [fa_lt, e] at c
    rw [if_neg c]
theorem n2_I {g a b : Int32} (hg : IGg g) (ha : 0 ≤ a.toInt ∧ a.toInt ≤ 1000) (hb : 0 ≤ b.toInt ∧ b.toInt ≤ 1000) : (n2 g a b).toInt = if b.toInt + g.toInt < a.toInt then b.toInt + g.toInt else a.toInt := by
  obtain ⟨g1, g2⟩ := hg
  have e : (b + g).toInt = b.toInt + g.toInt := fb_addI (by omega) (by omega)
  unfold n2
  by_cases c : b + g < a
  · rw [if_pos c, e]
    rw [fa_lt, e] at c
    rw [if_pos c]
  · rw [if_neg c]
    rw [fa_lt, e] at c
    rw [if_neg c]
abbrev P2 : Type := (Nat → Int32) × (Nat → Int32)
def nr1 (g : Int32) (k q : Nat) (z : P2) : P2 := (upd z.1 k (n1 g (z.1 k) (z.1 q)), upd z.2 k (n2 g (z.2 k) (z.2 q)))
/-- up to two neighbours -/
def nrr (g : Int32) (b1 b2 : Prop) [Decidable b1] [Decidable b2] (k q1 q2 : Nat) (z : P2) : P2 := if b1 then (if b2 then z else nr1 g k q2 z) else if b2 then nr1 g k q1 z else nr1 g k q2 (nr1 g k q1 z)
def rng (n : Nat) (z : P2) : Prop := ∀ x, x < n → (0 ≤ (z.1 x).toInt ∧ (z.1 x).toInt ≤ 1000) ∧ (0 ≤ (z.2 x).toInt ∧ (z.2 x).toInt ≤ 1000)
def stOK (g : Int32) (R : Nat → Nat → Prop) (k : Nat) (z y : P2) : Prop := (∀ x, x ≠ k → y.1 x = z.1 x ∧ y.2 x = z.2 x) ∧ ((z.1 k).toInt ≤ (y.1 k).toInt ∧ (∀ q, R k q → (z.1 q).toInt - g.toInt ≤ (y.1 k).toInt) ∧ ((y.1 k).toInt = (z.1 k).toInt ∨ ∃ q, R k q ∧ (y.1 k).toInt = (z.1 q).toInt - g.toInt)) ∧ ((y.2 k).toInt ≤ (z.2 k).toInt ∧ (∀ q, R k q → (y.2 k).toInt ≤ (z.2 q).toInt + g.toInt) ∧ ((y.2 k).toInt = (z.2 k).toInt ∨ ∃ q, R k q ∧ (y.2 k).toInt = (z.2 q).toInt + g.toInt))
theorem nrr_ok {g : Int32} {b1 b2 : Prop} [Decidable b1] [Decidable b2] {k q1 q2 n : Nat} {z : P2} (hg : IGg g) (hz : rng n z) (hk : k < n) (h1 : ¬ b1 → q1 < n ∧ q1 ≠ k) (h2 : ¬ b2 → q2 < n ∧ q2 ≠ k) : stOK g (fun _ q => (¬ b1 ∧ q = q1) ∨ (¬ b2 ∧ q = q2)) k z (nrr g b1 b2 k q1 q2 z) ∧ rng n (nrr g b1 b2 k q1 q2 z) := by
  have key : stOK g (fun _ q => (¬ b1 ∧ q = q1) ∨ (¬ b2 ∧ q = q2)) k z (nrr g b1 b2 k q1 q2 z) := by
    have hzk := hz k hk
    unfold nrr
    by_cases c1 : b1
    · rw [if_pos c1]
      by_cases c2 : b2
      · rw [if_pos c2]
        refine ⟨fun x _ => ⟨rfl, rfl⟩, ⟨Int.le_refl _, fun q hq => ?_, Or.inl rfl⟩, Int.le_refl _, fun q hq => ?_, Or.inl rfl⟩
        · exact absurd hq (fun h => h.elim (fun h => h.1 c1) (fun h => h.1 c2))
        · exact absurd hq (fun h => h.elim (fun h => h.1 c1) (fun h => h.1 c2))
      · rw [if_neg c2]
        obtain ⟨hq, hne⟩ := h2 c2
        have hzq := hz q2 hq
        have e1 := n1_I hg hzk.1 hzq.1
        have e2 := n2_I hg hzk.2 hzq.2
        have f1 : (nr1 g k q2 z).1 k = n1 g (z.1 k) (z.1 q2) := pk_us
        have f2 : (nr1 g k q2 z).2 k = n2 g (z.2 k) (z.2 q2) := pk_us
        refine ⟨fun x hx => ⟨pk_un hx, pk_un hx⟩, ⟨?_, ?_, ?_⟩, ?_, ?_, ?_⟩
        · rw [f1, e1]; split <;> omega
        · intro q hq'
          rcases hq' with ⟨h, -⟩ | ⟨-, rfl⟩
          · exact absurd c1 h
          · rw [f1, e1]; split <;> omega
        · rw [f1, e1]
          split
          · exact Or.inr ⟨q2, Or.inr ⟨c2, rfl⟩, rfl⟩
          · exact Or.inl rfl
        · rw [f2, e2]; split <;> omega
        · intro q hq'
          rcases hq' with ⟨h, -⟩ | ⟨-, rfl⟩
          · exact absurd c1 h
          · rw [f2, e2]; split <;> omega
        · rw [f2, e2]
          split
          · exact Or.inr ⟨q2, Or.inr ⟨c2, rfl⟩, rfl⟩
          · exact Or.inl rfl
    · rw [if_neg c1]
      obtain ⟨hq1, hne1⟩ := h1 c1
      have hzq1 := hz q1 hq1
      have e1 := n1_I hg hzk.1 hzq1.1
      have e2 := n2_I hg hzk.2 hzq1.2
      have f1 : (nr1 g k q1 z).1 k = n1 g (z.1 k) (z.1 q1) := pk_us
      have f2 : (nr1 g k q1 z).2 k = n2 g (z.2 k) (z.2 q1) := pk_us
      by_cases c2 : b2
      · rw [if_pos c2]
        refine ⟨fun x hx => ⟨pk_un hx, pk_un hx⟩, ⟨?_, ?_, ?_⟩, ?_, ?_, ?_⟩
        · rw [f1, e1]; split <;> omega
        · intro q hq'
          rcases hq' with ⟨-, rfl⟩ | ⟨h, -⟩
          · rw [f1, e1]; split <;> omega
          · exact absurd c2 h
        · rw [f1, e1]
          split
          · exact Or.inr ⟨q1, Or.inl ⟨c1, rfl⟩, rfl⟩
          · exact Or.inl rfl
        · rw [f2, e2]; split <;> omega
        · intro q hq'
          rcases hq' with ⟨-, rfl⟩ | ⟨h, -⟩
          · rw [f2, e2]; split <;> omega
          · exact absurd c2 h
        · rw [f2, e2]
          split
          · exact Or.inr ⟨q1, Or.inl ⟨c1, rfl⟩, rfl⟩
          · exact Or.inl rfl
      · rw [if_neg c2]
        obtain ⟨hq2, hne2⟩ := h2 c2
        have hzq2 := hz q2 hq2
        have r1 : 0 ≤ (n1 g (z.1 k) (z.1 q1)).toInt ∧ (n1 g (z.1 k) (z.1 q1)).toInt ≤ 1000 := by
          rw [e1]; have := hg.1; split <;> omega
        have r2 : 0 ≤ (n2 g (z.2 k) (z.2 q1)).toInt ∧ (n2 g (z.2 k) (z.2 q1)).toInt ≤ 1000 := by
          rw [e2]; have := hg.1; split <;> omega
        have d1 := n1_I hg r1 hzq2.1
        have d2 := n2_I hg r2 hzq2.2
        have u1 : (nr1 g k q1 z).1 q2 = z.1 q2 := pk_un hne2
        have u2 : (nr1 g k q1 z).2 q2 = z.2 q2 := pk_un hne2
        have g1 : (nr1 g k q2 (nr1 g k q1 z)).1 k = n1 g (n1 g (z.1 k) (z.1 q1)) (z.1 q2) := by
          show upd _ k _ k = _
          rw [pk_us, f1, u1]
        have g2 : (nr1 g k q2 (nr1 g k q1 z)).2 k = n2 g (n2 g (z.2 k) (z.2 q1)) (z.2 q2) := by
          show upd _ k _ k = _
          rw [pk_us, f2, u2]
        rw [e1] at d1
        rw [e2] at d2
        refine ⟨fun x hx => ⟨(pk_un hx).trans (pk_un hx), (pk_un hx).trans (pk_un hx)⟩, ⟨?_, ?_, ?_⟩, ?_, ?_, ?_⟩
        · rw [g1, d1]; split <;> split <;> omega
        · intro q hq'
          rcases hq' with ⟨-, rfl⟩ | ⟨-, rfl⟩
          · rw [g1, d1]; split <;> split <;> omega
          · rw [g1, d1]; split <;> split <;> omega
        · rw [g1, d1]
          repeat' split
          all_goals first | exact Or.inl rfl | exact Or.inr ⟨q1, Or.inl ⟨c1, rfl⟩, rfl⟩ | exact Or.inr ⟨q2, Or.inr ⟨c2, rfl⟩, rfl⟩
        · rw [g2, d2]; split <;> split <;> omega
        · intro q hq'
          rcases hq' with ⟨-, rfl⟩ | ⟨-, rfl⟩
          · rw [g2, d2]; split <;> split <;> omega
          · rw [g2, d2]; split <;> split <;> omega
        · rw [g2, d2]
          repeat' split
          all_goals first | exact Or.inl rfl | exact Or.inr ⟨q1, Or.inl ⟨c1, rfl⟩, rfl⟩ | exact Or.inr ⟨q2, Or.inr ⟨c2, rfl⟩, rfl⟩
  refine ⟨key, fun x hx => ?_⟩
  by_cases hxk : x = k
  · subst hxk
    obtain ⟨-, ⟨a1, a2, a3⟩, b1', b2', b3⟩ := key
    have hg1 := hg.1
    have hzk := hz x hk
    refine ⟨⟨by omega, ?_⟩, ?_, by omega⟩
    · rcases a3 with q | ⟨q, hq, e⟩
      · omega
      · have hql : q < n := by
          rcases hq with ⟨h, rfl⟩ | ⟨h, rfl⟩
          · exact (h1 h).1
          · exact (h2 h).1
        have := hz q hql
        omega
    · rcases b3 with q | ⟨q, hq, e⟩
      · omega
      · have hql : q < n := by
          rcases hq with ⟨h, rfl⟩ | ⟨h, rfl⟩
          · exact (h1 h).1
          · exact (h2 h).1
        have := hz q hql
        omega
  · rw [(key.1 x hxk).1, (key.1 x hxk).2]
    exact hz x hx
/-- what a sweep leaves: every cell at least what it was and, less g, what those ahead of it are; no more than any row that is so -/
def swL (n : Nat) (g : Int32) (R : Nat → Nat → Prop) (z y : P2) : Prop := (∀ x, x < n → (z.1 x).toInt ≤ (y.1 x).toInt ∧ (y.2 x).toInt ≤ (z.2 x).toInt ∧ ∀ q, R x q → (y.1 q).toInt - g.toInt ≤ (y.1 x).toInt ∧ (y.2 x).toInt ≤ (y.2 q).toInt + g.toInt) ∧ (∀ E : Nat → Int, (∀ x, (z.1 x).toInt ≤ E x) → (∀ x q, R x q → E q - g.toInt ≤ E x) → ∀ x, (y.1 x).toInt ≤ E x) ∧ (∀ E : Nat → Int, (∀ x, E x ≤ (z.2 x).toInt) → (∀ x q, R x q → E x ≤ E q + g.toInt) → ∀ x, E x ≤ (y.2 x).toInt)
theorem sw_run {n : Nat} {g : Int32} {c : Nat → Nat} {R : Nat → Nat → Prop} {f : Nat → P2 → P2} (S : Nat → P2) (hinj : ∀ K K', K < n → K' < n → c K = c K' → K = K') (hsur : ∀ x, x < n → ∃ K, K < n ∧ c K = x) (hR : ∀ K q, K < n → R (c K) q → ∃ K', K' < K ∧ q = c K') (hS : ∀ K, S (K + 1) = f K (S K)) (h0 : rng n (S 0)) (hok : ∀ K z, K < n → rng n z → stOK g R (c K) z (f K z) ∧ rng n (f K z)) : swL n g R (S 0) (S n) ∧ rng n (S n) := by
  have hr : ∀ K, K ≤ n → rng n (S K) := by
    intro K
    induction K with
    | zero => intro _; exact h0
    | succ K ih => intro hK; rw [hS]; exact (hok K _ (by omega) (ih (by omega))).2
  have ho : ∀ K, K < n → stOK g R (c K) (S K) (S (K + 1)) := by
    intro K hK
    rw [hS]
    exact (hok K _ hK (hr K (by omega))).1
  obtain ⟨a1, a2⟩ := sw_abs n g.toInt c R (fun K x => ((S K).1 x).toInt) hinj hR (fun K x hK hx => by show ((S (K + 1)).1 x).toInt = ((S K).1 x).toInt; rw [((ho K hK).1 x hx).1]) (fun K hK => (ho K hK).2.1.1) (fun K q hK hq => (ho K hK).2.1.2.1 q hq) (fun K hK => (ho K hK).2.1.2.2)
  obtain ⟨b1, b2⟩ := sw_abs n g.toInt c R (fun K x => - ((S K).2 x).toInt) hinj hR (fun K x hK hx => by show - ((S (K + 1)).2 x).toInt = - ((S K).2 x).toInt; rw [((ho K hK).1 x hx).2]) (fun K hK => by have := (ho K hK).2.2.1; show - _ ≤ - _; omega) (fun K q hK hq => by have := (ho K hK).2.2.2.1 q hq; show - _ - _ ≤ - _; omega) (fun K hK => by
    rcases (ho K hK).2.2.2.2 with q | ⟨q, hq, e⟩
    · exact Or.inl (by show - _ = - _; omega)
    · exact Or.inr ⟨q, hq, by show - _ = - _ - _; omega⟩)
  refine ⟨⟨fun x hx => ?_, a2, fun E hE1 hE2 x => ?_⟩, hr n (Nat.le_refl _)⟩
  · obtain ⟨K, hK, rfl⟩ := hsur x hx
    have p1 := a1 K hK
    have p2 := b1 K hK
    refine ⟨p1.1, ?_, fun q hq => ⟨p1.2 q hq, ?_⟩⟩
    · have := p2.1
      omega
    · have := p2.2 q hq
      omega
  · have := b2 (fun x => - E x) (fun x => by have := hE1 x; show - _ ≤ - _; omega) (fun x q hq => by have := hE2 x q hq; show - _ - _ ≤ - _; omega) x
    omega
