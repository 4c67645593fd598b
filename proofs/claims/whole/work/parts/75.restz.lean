theorem tnS_lcm (a b : Nat) : tnS a b = Nat.lcm a b := by
  rw [tnS, Nat.lcm, Nat.div_mul_right_comm (Nat.gcd_dvd_left a b)]
theorem tnS_f {a b R : Nat} (ha : 1 ≤ a) (hb : 1 ≤ b) (h1 : a ∣ R) (h2 : b ∣ R) : tnS a b ∣ R ∧ a ∣ tnS a b ∧ b ∣ tnS a b ∧ 1 ≤ tnS a b := by
  rw [tnS_lcm]
  exact ⟨Nat.lcm_dvd h1 h2, Nat.dvd_lcm_left a b, Nat.dvd_lcm_right a b, Nat.lcm_pos ha hb⟩
theorem mxN_f {a b : Nat} (ha : a ≤ 6) (hb : b ≤ 6) : mxN a b ≤ 6 ∧ a ≤ mxN a b ∧ b ≤ mxN a b := by
  unfold mxN
  split <;> omega
theorem ldE_f {a n s : Nat} (ha : a ≤ 6) (hn : 1 ≤ n) : ldE a n s ≤ 6 ∧ ∀ k, ldE a n s ≤ k → a ≤ n * k + s := by
  unfold ldE
  by_cases h : a ≤ s
  · rw [if_pos h]
    exact ⟨by omega, fun k _ => by omega⟩
  · rw [if_neg h]
    have h1 : (a - s + n - 1) / n ≤ a - s := by
      have h2 : (a - s + n - 1) / n < a - s + 1 := (Nat.div_lt_iff_lt_mul (by omega)).mpr (by
        have h3 : (a - s) * 1 ≤ (a - s) * n := Nat.mul_le_mul_left _ hn
        rw [Nat.succ_mul]
        omega)
      omega
    refine ⟨by omega, fun k hk => ?_⟩
    have h2 : a - s + n - 1 < (k + 1) * n := (Nat.div_lt_iff_lt_mul (by omega)).mp (by omega)
    rw [Nat.succ_mul, Nat.mul_comm] at h2
    omega
theorem tnE_f {a n R : Nat} (ha : 1 ≤ a) (h1 : a ∣ R) : a / Nat.gcd a n ∣ R ∧ a ∣ n * (a / Nat.gcd a n) ∧ 1 ≤ a / Nat.gcd a n := by
  have hg := Nat.gcd_dvd_left a n
  have hg2 := Nat.gcd_dvd_right a n
  have hp : 0 < Nat.gcd a n := Nat.gcd_pos_of_pos_left _ ha
  refine ⟨Nat.dvd_trans (Nat.div_dvd_of_dvd hg) h1, ?_, Nat.div_pos (Nat.gcd_le_left _ ha) hp⟩
  obtain ⟨y, hy⟩ := hg2
  have e : n * (a / Nat.gcd a n) = y * a := by
    have h3 : Nat.gcd a n * (a / Nat.gcd a n) = a := Nat.mul_div_cancel' hg
    calc n * (a / Nat.gcd a n) = Nat.gcd a n * y * (a / Nat.gcd a n) := by rw [← hy]
      _ = y * (Nat.gcd a n * (a / Nat.gcd a n)) := by rw [Nat.mul_comm (Nat.gcd a n) y, Nat.mul_assoc]
      _ = y * a := by rw [h3]
  rw [e]
  exact Nat.dvd_mul_left a y
theorem per_dvd {α : Type} {A : Nat → α} {i L : Nat} (h : ∀ k, i ≤ k → A (k + L) = A k) {D : Nat} (hd : L ∣ D) : ∀ k, i ≤ k → A (k + D) = A k := by
  obtain ⟨n, rfl⟩ := hd
  intro k hk
  induction n with
  | zero => rfl
  | succ n ih =>
    rw [Nat.mul_succ, ← Nat.add_assoc, h _ (by omega)]
    exact ih
theorem rzS {K N : Nat → Int32} {sz : Int32} {T : Nat} (hwf : ldWf K N sz) : ∀ (f q : Nat), q < 8 → q < f → rzF K N sz T f q = rzF K N sz T (f + 1) q
  | 0, q, _, h => absurd h (by omega)
  | f + 1, q, h8, h1 => by
    funext k
    show rzRow K N sz (rzF K N sz T f) T q k = rzRow K N sz (rzF K N sz T (f + 1)) T q k
    exact rzRow_cong hwf h8 (fun x hx => rzS hwf f x (by omega) (by omega))
theorem RZ_fix {K N : Nat → Int32} {sz : Int32} {T : Nat} (hwf : ldWf K N sz) {q : Nat} (hq : q < 8) (k : Nat) : RZ K N sz T q k = rzRow K N sz (RZ K N sz T) T q k := by
  show rzRow K N sz (rzF K N sz T 7) T q k = _
  exact rzRow_cong hwf hq (fun x hx => rzS hwf 7 x (by omega) (by omega))
theorem rz_bd {K N : Nat → Int32} {sz : Int32} {T : Nat} (hT : T < 9) : ∀ (f q k : Nat), ∃ x, x < 2 + T ∧ rzF K N sz T f q k = nI x
  | 0, q, k => ⟨0, by omega, rfl⟩
  | f + 1, q, k => by
    show ∃ x, x < 2 + T ∧ rzRow K N sz (rzF K N sz T f) T q k = nI x
    have ih := rz_bd (K := K) (N := N) (sz := sz) hT f
    unfold rzRow
    split
    · exact ct_bd (by omega) (by omega) k
    · split
      · obtain ⟨x, hx, ex⟩ := ih (ldNum N sz (nI q) 0).toNatClampNeg k
        obtain ⟨y, hy, ey⟩ := ih (ldNum N sz (nI q) 1).toNatClampNeg k
        rw [ex, ey, nI_add, jrem_nI (by omega) (by omega)]
        exact ⟨_, Nat.mod_lt _ (by omega), rfl⟩
      · split
        · obtain ⟨x, hx, ex⟩ := ih (ldNum N sz (nI q) 0).toNatClampNeg k
          obtain ⟨y, hy, ey⟩ := ih (ldNum N sz (nI q) 1).toNatClampNeg k
          have hxy : x * y ≤ 10 * 10 := Nat.mul_le_mul (by omega) (by omega)
          rw [ex, ey, nI_mul, jrem_nI (by omega) (by omega)]
          exact ⟨_, Nat.mod_lt _ (by omega), rfl⟩
        · split
          · exact ih _ _
          · exact jfm_bd (by omega) (by omega)
theorem RZ_bd {K N : Nat → Int32} {sz : Int32} {T : Nat} (hT : T < 9) (q k : Nat) : ∃ x, x < 2 + T ∧ RZ K N sz T q k = nI x := rz_bd hT 8 q k
/-- a made rest is the one that the ledger says -/
theorem mrV_RZ {K N : Nat → Int32} {n q a b nn ss T k : Nat} (hT : T < 9) (hn : n ≤ 8) (hq : q < n) (hwf : ldWf K N (nI n)) (h0 : K q ≠ 0) (ea : N (4 * q) = nI a) (ha : a < 8) (hb : K q = 1 ∨ K q = 2 → N (4 * q + 1) = nI b ∧ b < 8) (hE : K q = 3 → N (4 * q + 1) = nI nn ∧ nn ≤ 5 ∧ N (4 * q + 2) = nI ss ∧ ss ≤ 9) : mrV (K q) (RZ K N (nI n) T a) (RZ K N (nI n) T b) (nI (2 + T)) nn ss k = RZ K N (nI n) T q k := by
  rw [RZ_fix hwf (by omega), rzRow, ldK hn hq, if_neg h0, ldN0 hn hq, ldN1 hn hq, ldN2 hn hq, ea, nI_clamp (show a < 2 ^ 31 by omega), mrV]
  by_cases h1 : K q = 1
  · rw [if_pos h1, if_pos h1, (hb (Or.inl h1)).1, nI_clamp (by have := (hb (Or.inl h1)).2; omega)]
  · rw [if_neg h1, if_neg h1]
    by_cases h2 : K q = 2
    · rw [if_pos h2, if_pos h2, (hb (Or.inr h2)).1, nI_clamp (by have := (hb (Or.inr h2)).2; omega)]
    · rw [if_neg h2, if_neg h2]
      by_cases h3 : K q = 3
      · obtain ⟨e1, e2, e3, e4⟩ := hE h3
        rw [if_pos h3, if_pos h3, e1, e3, nI_clamp (by omega), nI_clamp (by omega)]
      · rw [if_neg h3, if_neg h3]
        exact mdV_jfm (by omega) (by omega)
/-- the made rests come again as the turn says -/
theorem RZ_turn {K N : Nat → Int32} {n q a c nn ss T lda tna ldc tnc : Nat} (hT : T < 9) (hn : n ≤ 8) (hq : q < n) (hwf : ldWf K N (nI n)) (h0 : K q ≠ 0) (h3 : K q ≠ 3) (ea : N (4 * q) = nI a) (ha : a < 8) (hb : K q = 1 ∨ K q = 2 → N (4 * q + 1) = nI c ∧ c < 8) (pa : ∀ k, lda ≤ k → RZ K N (nI n) T a (k + tna) = RZ K N (nI n) T a k) (pc : ∀ k, ldc ≤ k → RZ K N (nI n) T c (k + tnc) = RZ K N (nI n) T c k) {L D : Nat} (hL : lda ≤ L ∧ ldc ≤ L) (d1 : tna ∣ D) (d2 : tnc ∣ D) : ∀ k, L ≤ k → RZ K N (nI n) T q (k + D) = RZ K N (nI n) T q k := by
  intro k hk
  have hE : K q = 3 → N (4 * q + 1) = nI nn ∧ nn ≤ 5 ∧ N (4 * q + 2) = nI ss ∧ ss ≤ 9 := fun z => absurd z h3
  rw [← mrV_RZ hT hn hq hwf h0 ea ha hb hE, ← mrV_RZ hT hn hq hwf h0 ea ha hb hE, mrV, mrV, show k + D + 1 = k + 1 + D by omega, per_dvd pa d1 k (by omega), per_dvd pc d2 k (by omega), per_dvd pa d1 (k + 1) (by omega), if_neg h3, if_neg h3]
theorem RZ_turnE {K N : Nat → Int32} {n q a nn ss T lda tna : Nat} (hT : T < 9) (hn : n ≤ 8) (hq : q < n) (hwf : ldWf K N (nI n)) (h3 : K q = 3) (ea : N (4 * q) = nI a) (ha : a < 8) (hE : N (4 * q + 1) = nI nn ∧ nn ≤ 5 ∧ N (4 * q + 2) = nI ss ∧ ss ≤ 9) (pa : ∀ k, lda ≤ k → RZ K N (nI n) T a (k + tna) = RZ K N (nI n) T a k) {L D : Nat} (hL : ∀ k, L ≤ k → lda ≤ nn * k + ss) (d1 : tna ∣ nn * D) : ∀ k, L ≤ k → RZ K N (nI n) T q (k + D) = RZ K N (nI n) T q k := by
  intro k hk
  have h0 : K q ≠ 0 := by rw [h3]; decide
  have hb : K q = 1 ∨ K q = 2 → N (4 * q + 1) = nI a ∧ a < 8 := fun z => by rw [h3] at z; exact absurd z (by decide)
  rw [← mrV_RZ hT hn hq hwf h0 ea ha hb (fun _ => hE), ← mrV_RZ hT hn hq hwf h0 ea ha hb (fun _ => hE), mrV, mrV, if_neg (by rw [h3]; decide), if_neg (by rw [h3]; decide), if_pos h3, if_neg (by rw [h3]; decide), if_neg (by rw [h3]; decide), if_pos h3, Nat.mul_add, show nn * k + nn * D + ss = nn * k + ss + nn * D by omega]
  exact per_dvd pa d1 _ (hL k hk)
