/-! the spans are the reference's -/
def dst (np x q : Nat) : Nat := (x / np - q / np) + (q / np - x / np) + ((x % np - q % np) + (q % np - x % np))
def mxI (f : Nat → Int) : Nat → Int
  | 0 => f 0
  | n + 1 => if mxI f n < f (n + 1) then f (n + 1) else mxI f n
theorem mxI_ge (f : Nat → Int) : ∀ n q, q ≤ n → f q ≤ mxI f n
  | 0, q, h => by
    have h' : q = 0 := by omega
    subst h'
    exact Int.le_refl _
  | n + 1, q, h => by
    rw [mxI]
    by_cases c : q = n + 1
    · subst c
      split <;> omega
    · have := mxI_ge f n q (by omega)
      split <;> omega
theorem mxI_at (f : Nat → Int) : ∀ n, ∃ q, q ≤ n ∧ mxI f n = f q
  | 0 => ⟨0, Nat.le_refl _, rfl⟩
  | n + 1 => by
    obtain ⟨q, h1, h2⟩ := mxI_at f n
    rw [mxI]
    split
    · exact ⟨n + 1, Nat.le_refl _, rfl⟩
    · exact ⟨q, by omega, h2⟩
theorem dm {np i j : Nat} (h : j < np) : (i * np + j) / np = i ∧ (i * np + j) % np = j := by
  have h0 : 0 < np := by omega
  constructor
  · rw [Nat.mul_comm, Nat.mul_add_div h0, Nat.div_eq_of_lt h]
    rfl
  · rw [Nat.mul_comm, Nat.mul_add_mod, Nat.mod_eq_of_lt h]
theorem dst_nb {np x q : Nat} (h : (x / np = q / np ∧ (x % np = q % np + 1 ∨ q % np = x % np + 1)) ∨ (x % np = q % np ∧ (x / np = q / np + 1 ∨ q / np = x / np + 1))) (r : Nat) : dst np x r ≤ dst np q r + 1 := by
  unfold dst
  generalize x / np = a at *
  generalize x % np = b at *
  generalize q / np = c1 at *
  generalize q % np = d1 at *
  generalize r / np = e1 at *
  generalize r % np = f1 at *
  omega
theorem nb_D {nr np x q : Nat} (hnp : 0 < np) (h : RD np x q) (hx : x < nr * np) : q < nr * np ∧ ∀ r, dst np x r ≤ dst np q r + 1 := by
  rcases h with ⟨h1, h2⟩ | ⟨h1, h2⟩
  · refine ⟨by omega, dst_nb (Or.inr ?_)⟩
    subst h2
    exact ⟨Nat.mod_eq_sub_mod (by omega), Or.inl (Nat.div_eq_sub_div hnp (by omega))⟩
  · have hd : x / np * np + x % np = x := Nat.div_add_mod' x np
    have hm := Nat.mod_lt x hnp
    have hq : q = x / np * np + (x % np - 1) := by omega
    obtain ⟨e1, e2⟩ := dm (i := x / np) (j := x % np - 1) (np := np) (by omega)
    rw [← hq] at e1 e2
    refine ⟨by omega, dst_nb (Or.inl ⟨e1.symm, Or.inl ?_⟩)⟩
    rw [e2]
    omega
theorem nb_U {nr np x q : Nat} (hnp : 0 < np) (h : RU (nr * np) np x q) (hx : x < nr * np) : q < nr * np ∧ ∀ r, dst np x r ≤ dst np q r + 1 := by
  rcases h with ⟨h1, h2⟩ | ⟨h1, h2⟩
  · refine ⟨by omega, dst_nb (Or.inr ?_)⟩
    subst h2
    exact ⟨(Nat.add_mod_right x np).symm, Or.inr (Nat.add_div_right x hnp)⟩
  · have hd : x / np * np + x % np = x := Nat.div_add_mod' x np
    have hm := Nat.mod_lt x hnp
    have hj : x % np + 1 < np := by
      rcases Nat.lt_or_ge (x % np + 1) np with y | y
      · exact y
      · exfalso
        apply h1
        have e : x + 1 = (x / np + 1) * np := by
          rw [Nat.succ_mul]
          omega
        rw [e]
        exact Nat.mul_mod_left _ _
    have hq : q = x / np * np + (x % np + 1) := by omega
    obtain ⟨e1, e2⟩ := dm (i := x / np) (j := x % np + 1) (np := np) hj
    rw [← hq] at e1 e2
    have hl : x / np < nr := Nat.div_lt_of_lt_mul (by rw [Nat.mul_comm]; exact hx)
    have := ix2 hl hj
    exact ⟨by omega, dst_nb (Or.inl ⟨e1.symm, Or.inr e2⟩)⟩
def swA (n : Nat) (G : Int) (R : Nat → Nat → Prop) (a b : Nat → Int) : Prop := (∀ x, x < n → a x ≤ b x ∧ ∀ q, R x q → b q - G ≤ b x) ∧ ∀ E : Nat → Int, (∀ x, a x ≤ E x) → (∀ x q, R x q → E q - G ≤ E x) → ∀ x, b x ≤ E x
theorem swA_1 {n : Nat} {g : Int32} {R : Nat → Nat → Prop} {z y : P2} (h : swL n g R z y) : swA n g.toInt R (fun x => (z.1 x).toInt) (fun x => (y.1 x).toInt) := ⟨fun x hx => ⟨(h.1 x hx).1, fun q hq => ((h.1 x hx).2.2 q hq).1⟩, h.2.1⟩
theorem swA_2 {n : Nat} {g : Int32} {R : Nat → Nat → Prop} {z y : P2} (h : swL n g R z y) : swA n g.toInt R (fun x => - (z.2 x).toInt) (fun x => - (y.2 x).toInt) := by
  refine ⟨fun x hx => ⟨?_, fun q hq => ?_⟩, fun E h1 h2 x => ?_⟩
  · have := (h.1 x hx).2.1
    show - _ ≤ - _
    omega
  · have := ((h.1 x hx).2.2 q hq).2
    show - _ - _ ≤ - _
    omega
  · have := h.2.2 (fun x => - E x) (fun x => by have h9 : - (z.2 x).toInt ≤ E x := h1 x; show - _ ≤ _; omega) (fun x q hq => by have := h2 x q hq; show - _ ≤ - _ + _; omega) x
    show - _ ≤ _
    have h9 : - E x ≤ (y.2 x).toInt := this
    omega
theorem mulS {G : Int} {k : Nat} : G * ((k + 1 : Nat) : Int) = G * (k : Int) + G := by
  rw [Int.natCast_add, Int.mul_add]
  omega
theorem run_R {nr np : Nat} {G : Int} {a b : Nat → Int} (h : swA (nr * np) G (RD np) a b) {i j : Nat} (hi : i < nr) : ∀ k, j + k < np → b (i * np + j) - G * (k : Int) ≤ b (i * np + (j + k))
  | 0, _ => by
    have e : G * ((0 : Nat) : Int) = 0 := Int.mul_zero _
    rw [e, Nat.add_zero]
    omega
  | k + 1, hk => by
    have ih := run_R h hi k (j := j) (by omega)
    have hx : i * np + (j + (k + 1)) < nr * np := ix2 hi (by omega)
    have hr := (h.1 _ hx).2 (i * np + (j + k)) (Or.inr ⟨by rw [(dm (by omega)).2]; omega, by omega⟩)
    rw [mulS]
    omega
theorem run_D {nr np : Nat} {G : Int} {a b : Nat → Int} (h : swA (nr * np) G (RD np) a b) {i j : Nat} (hj : j < np) : ∀ k, i + k < nr → b (i * np + j) - G * (k : Int) ≤ b ((i + k) * np + j)
  | 0, _ => by
    have e : G * ((0 : Nat) : Int) = 0 := Int.mul_zero _
    rw [e, Nat.add_zero]
    omega
  | k + 1, hk => by
    have ih := run_D h hj k (i := i) (by omega)
    have hx : (i + (k + 1)) * np + j < nr * np := ix2 hk hj
    have e : (i + (k + 1)) * np = (i + k) * np + np := by rw [← Nat.succ_mul]; rfl
    have hr := (h.1 _ hx).2 ((i + k) * np + j) (Or.inl ⟨by omega, by omega⟩)
    rw [mulS]
    omega
theorem run_L {nr np : Nat} {G : Int} {a b : Nat → Int} (h : swA (nr * np) G (RU (nr * np) np) a b) {i j : Nat} (hi : i < nr) : ∀ k, j + k < np → b (i * np + (j + k)) - G * (k : Int) ≤ b (i * np + j)
  | 0, _ => by
    have e : G * ((0 : Nat) : Int) = 0 := Int.mul_zero _
    rw [e, Nat.add_zero]
    omega
  | k + 1, hk => by
    have ih := run_L h hi k (j := j + 1) (by omega)
    have hx : i * np + j < nr * np := ix2 hi (by omega)
    have hr := (h.1 _ hx).2 (i * np + (j + 1)) (Or.inr ⟨by
      have e : i * np + j + 1 = i * np + (j + 1) := by omega
      rw [e, (dm (by omega)).2]
      omega, by omega⟩)
    have e2 : j + (k + 1) = j + 1 + k := by omega
    rw [mulS, e2]
    omega
theorem run_U {nr np : Nat} {G : Int} {a b : Nat → Int} (h : swA (nr * np) G (RU (nr * np) np) a b) {i j : Nat} (hj : j < np) : ∀ k, i + k < nr → b ((i + k) * np + j) - G * (k : Int) ≤ b (i * np + j)
  | 0, _ => by
    have e : G * ((0 : Nat) : Int) = 0 := Int.mul_zero _
    rw [e, Nat.add_zero]
    omega
  | k + 1, hk => by
    have ih := run_U h hj k (i := i + 1) (by omega)
    have hx : i * np + j < nr * np := ix2 (by omega) hj
    have hy : (i + 1) * np + j < nr * np := ix2 (by omega) hj
    have e : (i + 1) * np = i * np + np := Nat.succ_mul i np
    have hr := (h.1 _ hx).2 ((i + 1) * np + j) (Or.inl ⟨by omega, by omega⟩)
    have e2 : i + (k + 1) = i + 1 + k := by omega
    rw [mulS, e2]
    omega
theorem two_A {nr np : Nat} {G : Int} {a b d : Nat → Int} (hnp : 0 < np) (hnr : 0 < nr) (hG : 0 ≤ G) (hbd : ∀ x, a x ≤ 2147483648) (h1 : swA (nr * np) G (RD np) a b) (h2 : swA (nr * np) G (RU (nr * np) np) b d) : ∀ x, x < nr * np → (∀ q, q < nr * np → a q - G * (dst np x q : Nat) ≤ d x) ∧ ∃ q, q < nr * np ∧ d x ≤ a q - G * (dst np x q : Nat) := by
  have hn : 0 < nr * np := Nat.mul_pos hnr hnp
  have nn : ∀ k : Nat, 0 ≤ G * (k : Int) := fun k => Int.mul_nonneg hG (Int.natCast_nonneg k)
  have key : ∀ x, d x ≤ (if x < nr * np then mxI (fun q => a q - G * (dst np x q : Nat)) (nr * np - 1) else 2147483648) := by
    have cl : ∀ (R : Nat → Nat → Prop), (∀ x q, R x q → x < nr * np → q < nr * np ∧ ∀ r, dst np x r ≤ dst np q r + 1) → ∀ x q, R x q → (if q < nr * np then mxI (fun r => a r - G * (dst np q r : Nat)) (nr * np - 1) else 2147483648) - G ≤ (if x < nr * np then mxI (fun r => a r - G * (dst np x r : Nat)) (nr * np - 1) else 2147483648) := by
      intro R hR x q hq
      by_cases cx : x < nr * np
      · obtain ⟨cq, hd⟩ := hR x q hq cx
        rw [if_pos cx, if_pos cq]
        obtain ⟨r, hr, e⟩ := mxI_at (fun r => a r - G * (dst np q r : Nat)) (nr * np - 1)
        have e2 := mxI_ge (fun r => a r - G * (dst np x r : Nat)) (nr * np - 1) r hr
        rw [e]
        have e3 : G * ((dst np x r : Nat) : Int) ≤ G * ((dst np q r + 1 : Nat) : Int) := Int.mul_le_mul_of_nonneg_left (by have := hd r; omega) hG
        rw [mulS] at e3
        have e4 : a r - G * (dst np x r : Nat) ≤ mxI (fun r => a r - G * (dst np x r : Nat)) (nr * np - 1) := e2
        show a r - G * (dst np q r : Nat) - G ≤ _
        omega
      · rw [if_neg cx]
        by_cases cq : q < nr * np
        · rw [if_pos cq]
          obtain ⟨r, hr, e⟩ := mxI_at (fun r => a r - G * (dst np q r : Nat)) (nr * np - 1)
          rw [e]
          have := hbd r
          have := nn (dst np q r)
          show a r - G * (dst np q r : Nat) - G ≤ _
          omega
        · rw [if_neg cq]
          omega
    have k1 : ∀ x, b x ≤ (if x < nr * np then mxI (fun q => a q - G * (dst np x q : Nat)) (nr * np - 1) else 2147483648) := h1.2 _ (fun x => by
      by_cases cx : x < nr * np
      · show a x ≤ if x < nr * np then _ else _
        rw [if_pos cx]
        have e2 : a x - G * (dst np x x : Nat) ≤ mxI (fun r => a r - G * (dst np x r : Nat)) (nr * np - 1) := mxI_ge (fun r => a r - G * (dst np x r : Nat)) (nr * np - 1) x (by omega)
        have e3 : dst np x x = 0 := by unfold dst; omega
        rw [e3] at e2
        have e4 : G * ((0 : Nat) : Int) = 0 := Int.mul_zero _
        omega
      · show a x ≤ if x < nr * np then _ else _
        rw [if_neg cx]
        exact hbd x) (cl _ (fun x q hq hx => nb_D hnp hq hx))
    exact h2.2 _ k1 (cl _ (fun x q hq hx => nb_U hnp hq hx))
  intro x hx
  refine ⟨fun q hq => ?_, ?_⟩
  · have hdx : x / np * np + x % np = x := Nat.div_add_mod' x np
    have hmx := Nat.mod_lt x hnp
    have hlx : x / np < nr := Nat.div_lt_of_lt_mul (by rw [Nat.mul_comm]; exact hx)
    have hdq : q / np * np + q % np = q := Nat.div_add_mod' q np
    have hmq := Nat.mod_lt q hnp
    have hlq : q / np < nr := Nat.div_lt_of_lt_mul (by rw [Nat.mul_comm]; exact hq)
    unfold dst
    generalize x / np = xi at *
    generalize x % np = xj at *
    generalize q / np = qi at *
    generalize q % np = qj at *
    subst hdx
    subst hdq
    have s0 := (h1.1 _ hq).1
    have s1 := run_D h1 hmq (i := qi) (xi - qi) (by omega)
    have s2 := run_R h1 (i := qi + (xi - qi)) (j := qj) (by omega) (xj - qj) (by omega)
    have hm : (qi + (xi - qi)) * np + (qj + (xj - qj)) < nr * np := ix2 (by omega) (by omega)
    have s3 := (h2.1 _ hm).1
    have t1 : qi + (xi - qi) = xi + (qi - xi) := by omega
    have t2 : qj + (xj - qj) = xj + (qj - xj) := by omega
    rw [t1] at s1 s2 s3
    rw [t2] at s2 s3
    have s4 := run_U h2 (i := xi) (j := xj + (qj - xj)) (by omega) (qi - xi) (by omega)
    have s5 := run_L h2 (i := xi) (j := xj) (by omega) (qj - xj) (by omega)
    rw [Int.natCast_add, Int.natCast_add, Int.natCast_add, Int.mul_add, Int.mul_add, Int.mul_add]
    omega
  · have := key x
    rw [if_pos hx] at this
    obtain ⟨q, hq, e⟩ := mxI_at (fun q => a q - G * (dst np x q : Nat)) (nr * np - 1)
    rw [e] at this
    exact ⟨q, by omega, this⟩
