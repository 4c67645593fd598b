theorem vin {x : Int32} {n : Nat} (h0 : 0 ≤ x) (h1 : x.toInt < n) : vp_in x n := by
  intro h
  rcases h with h | h
  · grind
  · rw [Int32.le_iff_toInt_le] at h0
    have e : (0 : Int32).toInt = 0 := rfl
    rw [e] at h0
    have : (x.toNatClampNeg : Int) = x.toInt := by
      show ((x.toInt.toNat : Nat) : Int) = x.toInt
      omega
    omega
theorem vin_lt {x : Int32} {n : Nat} (m : Int32) (h0 : 0 ≤ x) (h1 : x < m) (hm : m.toInt ≤ n) : vp_in x n := by
  refine vin h0 ?_
  rw [Int32.lt_iff_toInt_lt] at h1
  omega
theorem nI_mul (a b : Nat) : nI a * nI b = nI (a * b) := (Int32.ofNat_mul a b).symm
theorem nI_sub {a b : Nat} (h : b ≤ a) : nI a - nI b = nI (a - b) := by
  have : nI (a - b) + nI b = nI a := by rw [nI_add, Nat.sub_add_cancel h]
  rw [← this]
  grind
theorem tNC {x : Int32} (h : 0 ≤ x) : x = nI x.toNatClampNeg := by
  rw [← Int32.toInt_inj]
  rw [Int32.le_iff_toInt_le] at h
  have e : (0 : Int32).toInt = 0 := rfl
  rw [e] at h
  have h2 : x.toInt < 2147483648 := Int32.toInt_lt x
  have e2 : (x.toNatClampNeg : Int) = x.toInt := by
    show ((x.toInt.toNat : Nat) : Int) = x.toInt
    omega
  rw [nI_toInt (by omega), e2]
theorem tNC_lt {x : Int32} {n : Nat} (h : 0 ≤ x) (h1 : x < nI n) (hn : n < 2 ^ 31) : x.toNatClampNeg < n := by
  have e := tNC h
  rw [e] at h1
  rw [Int32.lt_iff_toInt_lt, nI_toInt hn] at h1
  have h2 : x.toInt < 2147483648 := Int32.toInt_lt x
  have h3 : x.toNatClampNeg < 2 ^ 31 := by
    show x.toInt.toNat < _
    omega
  rw [nI_toInt h3] at h1
  omega
theorem tNC_n {n : Nat} (h : n < 2 ^ 31) : (nI n).toNatClampNeg = n := nI_clamp h
theorem ix4 {r p : Int32} (h0 : 0 ≤ r) (h1 : r < 8) (h2 : 0 ≤ p) (h3 : p < 4) : vp_in (r * 4 + p) 32 := by
  refine vin_lt 32 ?_ ?_ (by decide) <;> grind
theorem nI_lt_iff {a b : Nat} (ha : a < 2 ^ 31) (hb : b < 2 ^ 31) : nI a < nI b ↔ a < b := by
  rw [Int32.lt_iff_toInt_lt, nI_toInt ha, nI_toInt hb]; omega
theorem nI_le_iff {a b : Nat} (ha : a < 2 ^ 31) (hb : b < 2 ^ 31) : nI a ≤ nI b ↔ a ≤ b := by
  rw [Int32.le_iff_toInt_le, nI_toInt ha, nI_toInt hb]; omega
theorem nI_inj {a b : Nat} (ha : a < 2 ^ 31) (hb : b < 2 ^ 31) (h : nI a = nI b) : a = b := by
  have := congrArg Int32.toInt h
  rw [nI_toInt ha, nI_toInt hb] at this; omega
