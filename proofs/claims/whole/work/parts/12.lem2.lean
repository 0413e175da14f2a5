section JW
variable {p : Program} {l : Launch} {e : Env} {R : Room} {s : State} {m : MethodId} {args : Array Value} {below : List Frame} {meth : Method} {c : Code} {H : Heap} {locs : List Loc} {cells slots : Nat} {Q : State → Prop}
variable {cc : ByteArray} {pc pc2 : Nat} {ls : Array Slot} {st st2 : List Value} {D : va_G} {A : Nat → Prop} {nL : Nat}
/-- a place where roads meet: from there on it is walked once -/
theorem joinM (I : va_W) (lvs : List (Nat × Value)) (after : ∀ (H : Heap) (locs : List Loc) (ls : Array Slot), va_P D vwCl I H → va_D A I → va_S A s.heap H locs → lv_has ls nL lvs → W p l e R s m args below meth c H locs cells slots Q (F0 m pc2 ls st2)) (main : (∀ (H : Heap) (locs : List Loc) (ls : Array Slot), va_P D vwCl I H → va_D A I → va_S A s.heap H locs → lv_has ls nL lvs → W p l e R s m args below meth c H locs cells slots Q (F0 m pc2 ls st2)) → W p l e R s m args below meth c H locs cells slots Q (F0 m pc ls st)) : W p l e R s m args below meth c H locs cells slots Q (F0 m pc ls st) := main after
end JW
theorem vin {x : Int32} {k n : Nat} (h : x = nI k) (hk : k < n) (hn : n < 2 ^ 31) : vp_in x n := by
  subst h
  exact vp_in_nI hk hn
theorem wn_6 {x : Int32} (h : ¬ F_X7_within x 0 6 = 0) : x = nI x.toNatClampNeg ∧ x.toNatClampNeg < 7 := by
  refine wn_ix (by decide) ?_
  have e : nI 7 - 1 = (6 : Int32) := by decide
  rw [e]
  exact h
/-- the law in force on a day, of the first n -/
def lawAt (fs : Nat → Int32) (day : Int32) : Nat → Int32
  | 0 => -1
  | n + 1 => if day < fs n then lawAt fs day n else nI n
theorem lawAt_hit {fs : Nat → Int32} {day : Int32} {n t : Nat} (h : t < n) (c : ¬ day < fs (n - 1 - t)) : lawAt fs day (n - t) = nI (n - 1 - t) := by
  obtain ⟨k, hk⟩ : ∃ k, n - t = k + 1 := ⟨n - t - 1, by omega⟩
  have e : n - 1 - t = k := by omega
  rw [e] at c ⊢
  rw [hk, lawAt, if_neg c]
theorem lawAt_miss {fs : Nat → Int32} {day : Int32} {n t : Nat} (h : t < n) (c : day < fs (n - 1 - t)) : lawAt fs day (n - t) = lawAt fs day (n - (t + 1)) := by
  obtain ⟨k, hk⟩ : ∃ k, n - t = k + 1 := ⟨n - t - 1, by omega⟩
  have e : n - 1 - t = k := by omega
  have e2 : n - (t + 1) = k := by omega
  rw [e] at c
  rw [hk, e2, lawAt, if_pos c]
theorem lawAt_end {fs : Nat → Int32} {day : Int32} {n : Nat} : lawAt fs day (n - n) = -1 := by
  rw [Nat.sub_self, lawAt]
theorem lawAt_nat {fs : Nat → Int32} {day : Int32} : ∀ {n : Nat}, n < 2 ^ 31 → ¬ lawAt fs day n = -1 → lawAt fs day n = nI (lawAt fs day n).toNatClampNeg ∧ (lawAt fs day n).toNatClampNeg < n
  | 0, _, h => absurd rfl h
  | n + 1, hn, h => by
    by_cases c : day < fs n
    · have e : lawAt fs day (n + 1) = lawAt fs day n := by rw [lawAt, if_pos c]
      rw [e] at h ⊢
      obtain ⟨h1, h2⟩ := lawAt_nat (by omega) h
      exact ⟨h1, by omega⟩
    · have e : lawAt fs day (n + 1) = nI n := by rw [lawAt, if_neg c]
      rw [e, nI_clamp (by omega)]
      exact ⟨rfl, Nat.lt_succ_self n⟩
/-- on from a place as long as b holds, to n at most -/
def adv (b : Nat → Bool) (n : Nat) : Nat → Nat → Nat
  | 0, a => a
  | f + 1, a => if a < n ∧ b a = true then adv b n f (a + 1) else a
def sk (b : Nat → Bool) (n a : Nat) : Nat := adv b n (n - a) a
theorem sk_step {b : Nat → Bool} {n a : Nat} (h : a < n) (hb : b a = true) : sk b n a = sk b n (a + 1) := by
  unfold sk
  obtain ⟨f, hf⟩ : ∃ f, n - a = f + 1 := ⟨n - a - 1, by omega⟩
  have e : n - (a + 1) = f := by omega
  rw [hf, e, adv, if_pos ⟨h, hb⟩]
theorem sk_stop {b : Nat → Bool} {n a : Nat} (h : b a = false) : sk b n a = a := by
  unfold sk
  cases hf : n - a with
  | zero => rfl
  | succ f => rw [adv, if_neg (fun q => by rw [h] at q; exact absurd q.2 (by decide))]
theorem sk_end {b : Nat → Bool} {n a : Nat} (h : n ≤ a) : sk b n a = a := by
  unfold sk
  have e : n - a = 0 := by omega
  rw [e]
  rfl
theorem adv_le {b : Nat → Bool} {n : Nat} : ∀ (f a : Nat), a ≤ n → adv b n f a ≤ n ∧ a ≤ adv b n f a
  | 0, a, h => ⟨h, Nat.le_refl _⟩
  | f + 1, a, h => by
    by_cases c : a < n ∧ b a = true
    · rw [adv, if_pos c]
      have := adv_le (b := b) f (a + 1) c.1
      exact ⟨this.1, by omega⟩
    · rw [adv, if_neg c]
      exact ⟨h, Nat.le_refl _⟩
theorem sk_le {b : Nat → Bool} {n a : Nat} (h : a ≤ n) : sk b n a ≤ n ∧ a ≤ sk b n a := adv_le _ _ h
theorem lt300 {n : Nat} (h : n < 300) : ¬ (300 : Int32) ≤ nI n := nI_ge (b := 300) h (by decide)
