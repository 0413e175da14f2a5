theorem pos_sub {a b : Nat} (hb : b ≤ a) (ha : a < 2 ^ 31) (c : ¬ nI a - nI b ≤ 0) : b < a := by
  rw [pk_sub hb] at c
  have := npos c
  omega
theorem k_nat {k : Int32} (h1 : ¬ k < (-1)) (h2 : ¬ k = (-1)) : k = nI k.toNatClampNeg := by
  refine nx_cl (fun h => ?_)
  have a1 := (not_congr Int32.lt_iff_toInt_lt).mp h1
  have a2 : ¬ k.toInt = -1 := fun q => h2 (Int32.toInt_inj.mp (by rw [q]; decide))
  have a3 := Int32.lt_iff_toInt_lt.mp h
  have e1 : (-1 : Int32).toInt = -1 := by decide
  have e0 : (0 : Int32).toInt = 0 := by decide
  omega
theorem k_lt {k : Int32} {a b : Nat} (hb : b ≤ a) (ha : a < 2 ^ 31) (hk : k = nI k.toNatClampNeg) (h : k < nI a - nI b) : k.toNatClampNeg < a - b := by
  rw [pk_sub hb] at h
  rw [hk] at h
  have hh : k.toNatClampNeg < 2 ^ 31 := by
    rcases Nat.lt_or_ge k.toNatClampNeg (2 ^ 31) with q | q
    · exact q
    · have h3 : k.toInt < 2 ^ 31 := Int32.toInt_lt k
      have h4 : (k.toNatClampNeg : Int) = k.toInt.toNat := rfl
      omega
  have := (nI_ltI hh (by omega)).mp h
  exact this
theorem kl_ex {k : Int32} {t : Nat} (hk : k = nI k.toNatClampNeg) (h31 : k.toNatClampNeg < 2 ^ 30) (h : t ≤ k.toNatClampNeg) (c : k < nI (1 + t)) : t = k.toNatClampNeg := by
  rw [hk] at c
  have := (nI_ltI (by omega) (by omega)).mp c
  omega
theorem kl_go {k : Int32} {t : Nat} (hk : k = nI k.toNatClampNeg) (h31 : k.toNatClampNeg < 2 ^ 30) (h : t ≤ k.toNatClampNeg) (c : ¬ k < nI (1 + t)) : t < k.toNatClampNeg := by
  rw [hk] at c
  have := (not_congr (nI_ltI (a := k.toNatClampNeg) (b := 1 + t) (by omega) (by omega))).mp c
  omega
