/-! the rows over the integers: one number behind all remainders -/
def xRow (K N : Nat → Int32) (sz : Int32) (X : Nat → Nat → Int) (q k : Nat) : Int :=
  if ldKind K sz (nI q) = 0 then (itI (ldNum N sz (nI q) 0).toInt (ldNum N sz (nI q) 1).toInt (ldNum N sz (nI q) 2).toInt (ldNum N sz (nI q) 3).toInt k).1
  else if ldKind K sz (nI q) = 1 then X (ldNum N sz (nI q) 0).toNatClampNeg k + X (ldNum N sz (nI q) 1).toNatClampNeg k
  else if ldKind K sz (nI q) = 2 then X (ldNum N sz (nI q) 0).toNatClampNeg k * X (ldNum N sz (nI q) 1).toNatClampNeg k
  else if ldKind K sz (nI q) = 3 then X (ldNum N sz (nI q) 0).toNatClampNeg ((ldNum N sz (nI q) 1).toNatClampNeg * k + (ldNum N sz (nI q) 2).toNatClampNeg)
  else X (ldNum N sz (nI q) 0).toNatClampNeg (k + 1) - X (ldNum N sz (nI q) 0).toNatClampNeg k
def xvF (K N : Nat → Int32) (sz : Int32) : Nat → Nat → Nat → Int
  | 0 => fun _ _ => 0
  | f + 1 => fun q k => xRow K N sz (xvF K N sz f) q k
theorem rz_x {K N : Nat → Int32} {sz : Int32} {T : Nat} (hT : T < 9) (hwf : ldWf K N sz) (hwe : ldWe K N sz) : ∀ f q k, q < 8 → (rzF K N sz T f q k).toInt = xvF K N sz f q k % ((2 + T : Nat) : Int)
  | 0, q, k, _ => by show (0 : Int32).toInt = 0 % _; simp
  | f + 1, q, k, hq => by
    have ih := rz_x hT hwf hwe f
    have bd := rz_bd (K := K) (N := N) (sz := sz) hT f
    show (rzRow K N sz (rzF K N sz T f) T q k).toInt = xRow K N sz (xvF K N sz f) q k % _
    unfold rzRow xRow
    by_cases h0 : ldKind K sz (nI q) = 0
    · rw [if_pos h0, if_pos h0]
      have hw := hwe.2 q hq h0
      exact (ct_it (by omega) (by omega) hw.1 hw.2 k).1
    · rw [if_neg h0, if_neg h0]
      obtain ⟨⟨a, ha, ea⟩, hb⟩ := hwf q hq h0
      by_cases h1 : ldKind K sz (nI q) = 1
      · rw [if_pos h1, if_pos h1]
        obtain ⟨b, hb, eb⟩ := hb (by rw [h1]; decide) (by rw [h1]; decide)
        rw [ea, eb, nI_clamp (by omega), nI_clamp (by omega)]
        have i1 := ih a k (by omega)
        have i2 := ih b k (by omega)
        obtain ⟨x, hx, ex⟩ := bd a k
        obtain ⟨y, hy, ey⟩ := bd b k
        rw [ex, nI_toInt (by omega)] at i1
        rw [ey, nI_toInt (by omega)] at i2
        rw [ex, ey, nI_add, jrem_nI (by omega) (by omega), nI_toInt (by have := Nat.mod_lt (x + y) (show 0 < 2 + T by omega); omega), Int.natCast_emod, Int.natCast_add, i1, i2, ← Int.add_emod]
      · rw [if_neg h1, if_neg h1]
        by_cases h2 : ldKind K sz (nI q) = 2
        · rw [if_pos h2, if_pos h2]
          obtain ⟨b, hb, eb⟩ := hb (by rw [h2]; decide) (by rw [h2]; decide)
          rw [ea, eb, nI_clamp (by omega), nI_clamp (by omega)]
          have i1 := ih a k (by omega)
          have i2 := ih b k (by omega)
          obtain ⟨x, hx, ex⟩ := bd a k
          obtain ⟨y, hy, ey⟩ := bd b k
          have hxy : x * y ≤ 10 * 10 := Nat.mul_le_mul (by omega) (by omega)
          rw [ex, nI_toInt (by omega)] at i1
          rw [ey, nI_toInt (by omega)] at i2
          rw [ex, ey, nI_mul, jrem_nI (by omega) (by omega), nI_toInt (by have := Nat.mod_lt (x * y) (show 0 < 2 + T by omega); omega), Int.natCast_emod, Int.natCast_mul, i1, i2, ← Int.mul_emod]
        · rw [if_neg h2, if_neg h2]
          by_cases h3 : ldKind K sz (nI q) = 3
          · rw [if_pos h3, if_pos h3, ea, nI_clamp (by omega)]
            exact ih a _ (by omega)
          · rw [if_neg h3, if_neg h3, ea, nI_clamp (by omega)]
            have i1 := ih a (k + 1) (by omega)
            have i2 := ih a k (by omega)
            obtain ⟨x, hx, ex⟩ := bd a (k + 1)
            obtain ⟨y, hy, ey⟩ := bd a k
            rw [ex, nI_toInt (by omega)] at i1
            rw [ey, nI_toInt (by omega)] at i2
            rw [ex, ey, jfm_toInt (by omega) (by omega), Int32.toInt_sub, nI_toInt (by omega), nI_toInt (by omega), Int.bmod_eq_of_le (by omega) (by omega), i1, i2, ← Int.sub_emod]
theorem rz_0 {K N : Nat → Int32} {sz : Int32} {T q k : Nat} (hT : T < 9) (hwf : ldWf K N sz) (hwe : ldWe K N sz) (hq : q < 8) : RZ K N sz T q k = 0 ↔ xvF K N sz 8 q k % ((2 + T : Nat) : Int) = 0 := by
  rw [← rz_x hT hwf hwe 8 q k hq, ← Int32.toInt_inj]
  exact Iff.rfl
theorem moB_all {A : Nat → Nat → Int32} {k : Nat} : ∀ j, moB A j k = true ↔ ∀ T, T < j → A T k = 0
  | 0 => ⟨fun _ T hT => absurd hT (by omega), fun _ => rfl⟩
  | j + 1 => by
    rw [moB, Bool.and_eq_true, moB_all j, decide_eq_true_iff]
    constructor
    · rintro ⟨h1, h2⟩ T hT
      rcases Nat.lt_or_ge T j with y | y
      · exact h1 T y
      · rw [show T = j by omega]; exact h2
    · exact fun h => ⟨fun T hT => h T (by omega), h j (by omega)⟩
theorem op_eq {K N : Nat → Int32} {sz : Int32} {q : Nat} (hwf : ldWf K N sz) (hwe : ldWe K N sz) (hq : q < 8) : moB (fun T => RZ K N sz T q) 9 = opB K N sz q := by
  funext k
  rw [Bool.eq_iff_iff, moB_all, opB, decide_eq_true_iff]
  constructor
  · intro h
    exact ⟨h 5 (by decide), h 7 (by decide), h 6 (by decide), h 3 (by decide)⟩
  · rintro ⟨h5, h7, h6, h3⟩ T hT
    rw [rz_0 (by decide) hwf hwe hq] at h5 h7 h6 h3
    show RZ K N sz T q k = 0
    rw [rz_0 hT hwf hwe hq]
    generalize xvF K N sz 8 q k = X at *
    match T, hT with
    | 0, _ => omega
    | 1, _ => omega
    | 2, _ => omega
    | 3, _ => omega
    | 4, _ => omega
    | 5, _ => omega
    | 6, _ => omega
    | 7, _ => omega
    | 8, _ => omega
set_option maxRecDepth 100000 in
theorem rt_eq0 : ∀ a, a < 19 → ∀ b, b < 19 → ∀ k, k < 5 → rtM (nI a - 9) (nI b - 9) (nI k) = rtV (nI a - 9) (nI b - 9) (nI k) ∧ (nI a - 9) * (nI a - 9) + 4 * (nI b - 9) ≤ 144 := by decide +kernel
theorem fin9 {c : Int32} (hc : -9 ≤ c ∧ c ≤ 9) : ∃ a, a < 19 ∧ c = nI a - 9 := by
  have hc0 : 0 ≤ c + 9 := by grind
  exact ⟨(c + 9).toNatClampNeg, tNC_lt (n := 19) hc0 (by show c + 9 < 19; grind) (by decide), by rw [← tNC hc0]; grind⟩
theorem rt_eq {c d k : Int32} (hc : -9 ≤ c ∧ c ≤ 9) (hd : -9 ≤ d ∧ d ≤ 9) (hk : 0 ≤ k ∧ k ≤ 4) : rtM c d k = rtV c d k := by
  obtain ⟨a, ha, rfl⟩ := fin9 hc
  obtain ⟨b, hb, rfl⟩ := fin9 hd
  rw [tNC hk.1]
  exact (rt_eq0 a ha b hb _ (tNC_lt (n := 5) hk.1 (by show k < 5; grind) (by decide))).1
theorem rt_bd {c d : Int32} (hc : -9 ≤ c ∧ c ≤ 9) (hd : -9 ≤ d ∧ d ≤ 9) : c * c + 4 * d ≤ 144 := by
  obtain ⟨a, ha, rfl⟩ := fin9 hc
  obtain ⟨b, hb, rfl⟩ := fin9 hd
  exact (rt_eq0 a ha b hb 0 (by decide)).2
