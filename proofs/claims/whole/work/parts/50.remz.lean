/-- the remainders modulo 2 + t as the ledger says them -/
def rzRow (K N : Nat → Int32) (sz : Int32) (A : Nat → Nat → Int32) (t q k : Nat) : Int32 :=
  if ldKind K sz (nI q) = 0 then ct (nI (2 + t)) (ldNum N sz (nI q) 0) (ldNum N sz (nI q) 1) (ldNum N sz (nI q) 2) (ldNum N sz (nI q) 3) k
  else if ldKind K sz (nI q) = 1 then jrem (A (ldNum N sz (nI q) 0).toNatClampNeg k + A (ldNum N sz (nI q) 1).toNatClampNeg k) (nI (2 + t))
  else if ldKind K sz (nI q) = 2 then jrem (A (ldNum N sz (nI q) 0).toNatClampNeg k * A (ldNum N sz (nI q) 1).toNatClampNeg k) (nI (2 + t))
  else if ldKind K sz (nI q) = 3 then A (ldNum N sz (nI q) 0).toNatClampNeg ((ldNum N sz (nI q) 1).toNatClampNeg * k + (ldNum N sz (nI q) 2).toNatClampNeg)
  else jfm (A (ldNum N sz (nI q) 0).toNatClampNeg (k + 1) - A (ldNum N sz (nI q) 0).toNatClampNeg k) (nI (2 + t))
def rzF (K N : Nat → Int32) (sz : Int32) (t : Nat) : Nat → Nat → Nat → Int32
  | 0 => fun _ _ => 0
  | f + 1 => fun q k => rzRow K N sz (rzF K N sz t f) t q k
def RZ (K N : Nat → Int32) (sz : Int32) (t : Nat) : Nat → Nat → Int32 := rzF K N sz t 8
theorem per_mul {A : Nat → Int32} {R : Nat} (h : ∀ k, 6 ≤ k → A (k + R) = A k) : ∀ (n k : Nat), 6 ≤ k → A (k + n * R) = A k
  | 0, k, _ => by rw [Nat.zero_mul, Nat.add_zero]
  | n + 1, k, hk => by
    rw [show k + (n + 1) * R = (k + n * R) + R by rw [Nat.succ_mul]; omega, h _ (by omega)]
    exact per_mul h n k hk
theorem rz_per {K N : Nat → Int32} {sz : Int32} {t : Nat} (ht : t < 9) (hwf : ldWf K N sz) (hwe : ldWe K N sz) : ∀ (f q : Nat), q < 8 → ∀ k, 6 ≤ k → rzF K N sz t f q (k + rnd t) = rzF K N sz t f q k
  | 0, _, _, _, _ => rfl
  | f + 1, q, hq, k, hk => by
    show rzRow K N sz (rzF K N sz t f) t q (k + rnd t) = rzRow K N sz (rzF K N sz t f) t q k
    unfold rzRow
    by_cases h0 : ldKind K sz (nI q) = 0
    · rw [if_pos h0, if_pos h0]
      have := hwe.2 q hq h0
      exact ct_per ht this.1 this.2 hk
    · obtain ⟨⟨a, ha, ea⟩, hb⟩ := hwf q hq h0
      have ia := rz_per ht hwf hwe f a (by omega)
      rw [if_neg h0, if_neg h0, ea, nI_clamp (by omega)]
      by_cases h3 : ldKind K sz (nI q) = 3
      · obtain ⟨n, s, n1, n2, s2, eb, ec⟩ := hwe.1 q hq h3
        rw [if_neg (by rw [h3]; decide), if_neg (by rw [h3]; decide), if_pos h3, if_neg (by rw [h3]; decide), if_neg (by rw [h3]; decide), if_pos h3, eb, ec, nI_clamp (by omega), nI_clamp (by omega)]
        rw [show n * (k + rnd t) + s = (n * k + s) + n * rnd t by rw [Nat.mul_add]; omega]
        have : 1 * k ≤ n * k := Nat.mul_le_mul_right k n1
        exact per_mul ia n _ (by omega)
      · by_cases h4 : ldKind K sz (nI q) = 4
        · rw [if_neg (by rw [h4]; decide), if_neg (by rw [h4]; decide), if_neg (by rw [h4]; decide), if_neg (by rw [h4]; decide), if_neg (by rw [h4]; decide), if_neg (by rw [h4]; decide)]
          rw [show k + rnd t + 1 = (k + 1) + rnd t by omega, ia _ (by omega), ia _ hk]
        · obtain ⟨b, hb, eb⟩ := hb h3 h4
          have ib := rz_per ht hwf hwe f b (by omega)
          rw [eb, nI_clamp (by omega), ia _ hk, ib _ hk, show k + rnd t + 1 = (k + 1) + rnd t by omega, ia (k + 1) (by omega)]
          rw [if_neg h3, if_neg h3]
theorem per_mod {A : Nat → Int32} {R : Nat} (h : ∀ k, 6 ≤ k → A (k + R) = A k) {k : Nat} (hk : 6 ≤ k) : A (6 + (k - 6) % R) = A k := by
  have e : k = 6 + (k - 6) % R + (k - 6) / R * R := by
    have := Nat.mod_add_div (k - 6) R
    rw [Nat.mul_comm] at this
    omega
  have := per_mul h ((k - 6) / R) (6 + (k - 6) % R) (by omega)
  rw [← this, ← e]
theorem rzRow_cong {K N : Nat → Int32} {sz : Int32} {A A' : Nat → Nat → Int32} {t q k : Nat} (hwf : ldWf K N sz) (hq : q < 8) (h : ∀ x, x < q → A x = A' x) : rzRow K N sz A t q k = rzRow K N sz A' t q k := by
  unfold rzRow
  by_cases h0 : ldKind K sz (nI q) = 0
  · rw [if_pos h0, if_pos h0]
  · obtain ⟨⟨a, ha, ea⟩, hb⟩ := hwf q (by omega) h0
    have e1 : A (ldNum N sz (nI q) 0).toNatClampNeg = A' (ldNum N sz (nI q) 0).toNatClampNeg := by
      rw [ea, nI_clamp (by omega)]; exact h a ha
    rw [if_neg h0, if_neg h0, e1]
    by_cases h3 : ldKind K sz (nI q) = 3
    · simp only [h3]; rfl
    · by_cases h4 : ldKind K sz (nI q) = 4
      · simp only [h4]; rfl
      · obtain ⟨b, hb, eb⟩ := hb h3 h4
        have e2 : A (ldNum N sz (nI q) 1).toNatClampNeg = A' (ldNum N sz (nI q) 1).toNatClampNeg := by
          rw [eb, nI_clamp (by omega)]; exact h b hb
        rw [e2]
theorem cyRow_rz {K N : Nat → Int32} {sz : Int32} {Z : Nat → Nat → Int32} {t q k : Nat} : cyRow K N sz Z t q k = rzRow K N sz (fun x => cyN (Z x) (rnd t)) t q k := rfl
theorem cy_uni {K N : Nat → Int32} {sz : Int32} {Z : Nat → Nat → Int32} {t m : Nat} (ht : t < 9) (hwf : ldWf K N sz) (hwe : ldWe K N sz) (hm : m ≤ 8) (h : ∀ q, q < m → cyEq K N sz Z t q) : ∀ (f q : Nat), q < m → q < f → cyN (Z q) (rnd t) = rzF K N sz t f q
  | 0, q, h1, h2 => absurd h2 (by omega)
  | f + 1, q, h1, h2 => by
    have hR := rnd_bd t ht
    have key : ∀ k, k < 6 + rnd t → cyN (Z q) (rnd t) k = rzF K N sz t (f + 1) q k := by
      intro k hk
      rw [cyN_lt hk, h q h1 k hk, cyRow_rz]
      exact rzRow_cong hwf (by omega) (fun x hx => cy_uni ht hwf hwe hm h f x (by omega) (by omega))
    funext k
    rcases Nat.lt_or_ge k (6 + rnd t) with hk | hk
    · exact key k hk
    · have e : cyN (Z q) (rnd t) k = cyN (Z q) (rnd t) (6 + (k - 6) % rnd t) := by
        have hm2 : (k - 6) % rnd t < rnd t := Nat.mod_lt _ (by omega)
        rw [cyN_lt (show 6 + (k - 6) % rnd t < 6 + rnd t by omega)]
        unfold cyN
        rw [if_neg (by omega)]
      have hm2 : (k - 6) % rnd t < rnd t := Nat.mod_lt _ (by omega)
      rw [e, key _ (by omega)]
      exact per_mod (rz_per ht hwf hwe (f + 1) q (by omega)) (by omega)
theorem cy_RZ {K N : Nat → Int32} {sz : Int32} {Z : Nat → Nat → Int32} {t m q : Nat} (ht : t < 9) (hwf : ldWf K N sz) (hwe : ldWe K N sz) (hm : m ≤ 8) (h : ∀ q, q < m → cyEq K N sz Z t q) (hq : q < m) : cyN (Z q) (rnd t) = RZ K N sz t q := cy_uni ht hwf hwe hm h 8 q hq (by omega)
