/-! the readers -/
def kOk (κ : Int32) : Prop := κ = 0 ∨ κ = 1 ∨ κ = 2 ∨ κ = 3 ∨ κ = 4
def vOk (κ : Int32) (q j : Nat) (v : Int32) : Prop := if κ = 0 then (j < 2 → -9 ≤ v ∧ v ≤ 9) else if κ = 3 ∧ j = 1 then ∃ a, 1 ≤ a ∧ a ≤ 5 ∧ v = nI a else if κ = 3 ∧ j = 2 then ∃ a, a ≤ 9 ∧ v = nI a else ∃ a, a < q ∧ v = nI a
/-- a ledger whose rows are as the document asks -/
def vAll (K N : Nat → Int32) (n : Nat) : Prop := ∀ q, q < n → kOk (K q) ∧ ∀ j, j < 4 → nI j < nums (K q) → vOk (K q) q j (N (4 * q + j))
theorem vAll.wf {K N : Nat → Int32} {n : Nat} (hn : n ≤ 8) (h : vAll K N n) : ldWf K N (nI n) := by
  intro q hq hk
  rcases Nat.lt_or_ge q n with y | y
  · obtain ⟨h1, h2⟩ := h q y
    rw [ldK hn y] at hk ⊢
    rw [ldN0 hn y, ldN1 hn y]
    constructor
    · have := h2 0 (by decide) (nums_0 _)
      unfold vOk at this
      rw [if_neg hk, if_neg (fun z => absurd z.2 (by decide)), if_neg (fun z => absurd z.2 (by decide))] at this
      exact this
    · intro h3 h4
      have := h2 1 (by decide) (show (1 : Int32) < nums (K q) by unfold nums; grind)
      unfold vOk at this
      rw [if_neg hk, if_neg (fun z => absurd z.1 h3), if_neg (fun z => absurd z.1 h3)] at this
      exact this
  · exact absurd (ldK_no hn y hq) hk
theorem vAll.we {K N : Nat → Int32} {n : Nat} (hn : n ≤ 8) (h : vAll K N n) : ldWe K N (nI n) := by
  constructor
  · intro q hq hk
    rcases Nat.lt_or_ge q n with y | y
    · obtain ⟨h1, h2⟩ := h q y
      rw [ldK hn y] at hk
      have a1 := h2 1 (by decide) (show (1 : Int32) < nums (K q) by rw [hk]; decide)
      have a2 := h2 2 (by decide) (show (2 : Int32) < nums (K q) by rw [hk]; decide)
      unfold vOk at a1 a2
      rw [if_neg (by rw [hk]; decide), if_pos ⟨hk, rfl⟩] at a1
      rw [if_neg (by rw [hk]; decide), if_neg (fun z => absurd z.2 (by decide)), if_pos ⟨hk, rfl⟩] at a2
      obtain ⟨a, b1, b2, b3⟩ := a1
      obtain ⟨s, c1, c2⟩ := a2
      exact ⟨a, s, b1, b2, c1, by rw [ldN1 hn y]; exact b3, by rw [ldN2 hn y]; exact c2⟩
    · rw [ldK_no hn y hq] at hk
      exact absurd hk (by decide)
  · intro q hq hk
    rcases Nat.lt_or_ge q n with y | y
    · obtain ⟨h1, h2⟩ := h q y
      rw [ldK hn y] at hk
      have a0 := h2 0 (by decide) (nums_0 _)
      have a1 := h2 1 (by decide) (show (1 : Int32) < nums (K q) by rw [hk]; decide)
      unfold vOk at a0 a1
      rw [if_pos hk] at a0 a1
      rw [ldN0 hn y, ldN1 hn y]
      exact ⟨a0 (by decide), a1 (by decide)⟩
    · rw [ldN_no hn y hq, ldN_no hn y hq]
      decide
def dOk (K : Nat → Int32) (n s q j : Nat) : Prop := if q + 1 = n then j < s else nI j < nums (K q)
def LRd (K N K' N' : Nat → Int32) (n s : Nat) : Prop := ∀ q, q < n → K' q = K q ∧ kOk (K q) ∧ ∀ j, j < 4 → (dOk K n s q j → N' (4 * q + j) = N (4 * q + j) ∧ vOk (K q) q j (N (4 * q + j))) ∧ (¬ dOk K n s q j → N' (4 * q + j) = 2000000001)
theorem dOk_full {K : Nat → Int32} {n s q j : Nat} (hj : j < 4) (hs : s ≤ 4) (h : q + 1 = n → nI s = nums (K q)) : dOk K n s q j ↔ nI j < nums (K q) := by
  unfold dOk
  by_cases e : q + 1 = n
  · rw [if_pos e, ← h e, nI_lt_iff (by omega) (by omega)]
  · rw [if_neg e]
theorem LRd.full {K N K' N' : Nat → Int32} {n s : Nat} (H : LRd K N K' N' n s) (hs : s ≤ 4) (h : 1 ≤ n → nI s = nums (K (n - 1))) : LR K N K' N' n ∧ vAll K N n := by
  have hd : ∀ q, q < n → ∀ j, j < 4 → (dOk K n s q j ↔ nI j < nums (K q)) := fun q hq j hj => dOk_full hj hs (fun e => by
    have := h (by omega)
    rw [show n - 1 = q by omega] at this
    exact this)
  constructor
  · intro q hq
    obtain ⟨h1, h2, h3⟩ := H q hq
    refine ⟨h1, h2, fun j hj => ?_⟩
    by_cases z : nI j < nums (K q)
    · rw [if_pos z]; exact ((h3 j hj).1 ((hd q hq j hj).mpr z)).1
    · rw [if_neg z]; exact (h3 j hj).2 (fun y => z ((hd q hq j hj).mp y))
  · intro q hq
    obtain ⟨h1, h2, h3⟩ := H q hq
    exact ⟨h2, fun j hj z => ((h3 j hj).1 ((hd q hq j hj).mpr z)).2⟩
def RS (σ τ : Nat → Nat → Int32) (n s : Nat) : Prop := σ 9 2 = nI n ∧ τ 0 8 = nI n ∧ n ≤ 8 ∧ τ 0 9 = nI s ∧ s ≤ 4 ∧ LRd (σ 10) (σ 11) (τ 5) (τ 6) n s ∧ ((σ 8 2 = 0 ∧ τ 0 12 = 1 ∧ n < 8 ∧ (1 ≤ n → nI s = nums (σ 10 (n - 1)))) ∨ (σ 8 2 = nI (s + 1) ∧ τ 0 12 = 0 ∧ 1 ≤ n ∧ σ 8 1 = σ 10 (n - 1) ∧ nI s ≤ nums (σ 10 (n - 1))))
theorem kd_eq (c : Int32) : (rkd c = -1 ∧ mkd c = 2000000001) ∨ (rkd c = mkd c ∧ kOk (rkd c) ∧ ¬ rkd c = -1 ∧ ¬ mkd c = 2000000001) := by
  unfold rkd mkd kOk
  by_cases h1 : c = 116
  · right; simp [h1]
  · by_cases h2 : c = 43
    · right; simp [h2]
    · by_cases h3 : c = 42
      · right; simp [h3]
      · by_cases h4 : c = 101
        · right; simp [h4]
        · by_cases h5 : c = 100
          · right; simp [h5]
          · left; simp [h1, h2, h3, h4, h5]
theorem tnc_ex {v : Int32} {m : Nat} (h0 : 0 ≤ v) (h1 : v ≤ nI m) (hm : m < 1000) : ∃ a, a ≤ m ∧ v = nI a := by
  refine ⟨v.toNatClampNeg, ?_, tNC h0⟩
  have := tNC_lt (n := m + 1) h0 (by
    have e : nI (m + 1) = nI m + 1 := (nI_1 m).symm
    have h2 := nI_lt (a := m) (b := m + 1) (by omega) (by omega)
    grind) (by omega)
  omega
theorem chr_ex {c : Int32} (hc : 32 ≤ c ∧ c ≤ 126) : ∃ x, x < 127 ∧ 32 ≤ x ∧ c = nI x := by
  obtain ⟨x, hx, ex⟩ := tnc_ex (v := c) (m := 126) (Int32.le_trans (by decide) hc.1) hc.2 (by decide)
  refine ⟨x, by omega, ?_, ex⟩
  rcases Nat.lt_or_ge x 32 with y | y
  · exfalso
    have := nI_lt (a := x) (b := 32) y (by decide)
    rw [← ex] at this
    exact absurd hc.1 (Int32.not_le.mpr this)
  · exact y
set_option maxRecDepth 100000 in
theorem fx_d0 : ∀ x, x < 127 → ∀ n, n < 9 → (32 ≤ x ∧ 1 ≤ n) → ((0 ≤ rvl (nI x) ∧ rvl (nI x) ≤ nI n - 2) ↔ (48 ≤ nI x ∧ nI x ≤ 48 + nI n - 2)) := by decide +kernel
set_option maxRecDepth 100000 in
theorem fx_e0 : ∀ x, x < 127 → 32 ≤ x → ((-9 ≤ rvl (nI x) ∧ rvl (nI x) ≤ 9) ↔ rvl (nI x) ≠ 2000000001) := by decide +kernel
set_option maxRecDepth 100000 in
theorem fx_f0 : ∀ x, x < 127 → 32 ≤ x → ((1 ≤ rvl (nI x) ∧ rvl (nI x) ≤ 5) ↔ (49 ≤ nI x ∧ nI x ≤ 53)) := by decide +kernel
set_option maxRecDepth 100000 in
theorem fx_g0 : ∀ x, x < 127 → 32 ≤ x → ((0 ≤ rvl (nI x) ∧ rvl (nI x) ≤ 9) ↔ (48 ≤ nI x ∧ nI x ≤ 57)) := by decide +kernel
theorem fx_d {c : Int32} {n : Nat} (hc : 32 ≤ c ∧ c ≤ 126) (n1 : 1 ≤ n) (n8 : n ≤ 8) : (0 ≤ rvl c ∧ rvl c ≤ nI n - 2) ↔ (48 ≤ c ∧ c ≤ 48 + nI n - 2) := by
  obtain ⟨x, h1, h2, rfl⟩ := chr_ex hc
  exact fx_d0 x h1 n (by omega) ⟨h2, n1⟩
theorem fx_e {c : Int32} (hc : 32 ≤ c ∧ c ≤ 126) : ((-9 ≤ rvl c ∧ rvl c ≤ 9) ↔ rvl c ≠ 2000000001) := by
  obtain ⟨x, h1, h2, rfl⟩ := chr_ex hc
  exact fx_e0 x h1 h2
theorem fx_f {c : Int32} (hc : 32 ≤ c ∧ c ≤ 126) : (1 ≤ rvl c ∧ rvl c ≤ 5) ↔ (49 ≤ c ∧ c ≤ 53) := by
  obtain ⟨x, h1, h2, rfl⟩ := chr_ex hc
  exact fx_f0 x h1 h2
theorem fx_g {c : Int32} (hc : 32 ≤ c ∧ c ≤ 126) : (0 ≤ rvl c ∧ rvl c ≤ 9) ↔ (48 ≤ c ∧ c ≤ 57) := by
  obtain ⟨x, h1, h2, rfl⟩ := chr_ex hc
  exact fx_g0 x h1 h2
theorem fit_eq {κ c : Int32} {n s : Nat} (hk : kOk κ) (hn1 : 1 ≤ n) (hn : n ≤ 8) (hs : s < 4) (hc : 32 ≤ c ∧ c ≤ 126) : ((rlo κ (nI (s + 1)) ≤ rvl c ∧ rvl c ≤ rhi κ (nI (s + 1)) (nI n)) ↔ mFit κ (nI s) n c) ∧ (mFit κ (nI s) n c → vOk κ (n - 1) s (rvl c)) := by
  have e1 : nI (s + 1) - 1 = nI s := by rw [← nI_1 s]; grind
  have n1 : (1 : Int32) ≤ nI n := nI_le (a := 1) hn1 (by omega)
  have n8 : nI n ≤ (8 : Int32) := nI_le (b := 8) hn (by decide)
  have s1 : nI s = 1 ↔ s = 1 := ⟨fun y => nI_inj (b := 1) (by omega) (by decide) y, fun y => by rw [y]; rfl⟩
  have s2 : nI s = 2 ↔ s = 2 := ⟨fun y => nI_inj (b := 2) (by omega) (by decide) y, fun y => by rw [y]; rfl⟩
  unfold rlo rhi mFit vOk
  rw [e1]
  by_cases k0 : κ = 0
  · rw [if_pos k0, if_pos (Or.inl k0), if_pos k0, if_pos k0]
    exact ⟨fx_e hc, fun h _ => (fx_e hc).mpr h⟩
  · rw [if_neg k0, if_neg k0, if_neg k0]
    by_cases k3 : κ = 3 ∧ nI s = 1
    · have z1 : s = 1 := s1.mp k3.2
      have n2 : ¬ (κ = 0 ∨ κ = 3 ∧ nI s = 2) := fun w => w.elim k0 (fun y => by rw [z1] at y; exact absurd y.2 (by decide))
      rw [if_pos k3, if_neg n2, if_pos k3, if_pos k3, if_pos ⟨k3.1, z1⟩]
      refine ⟨fx_f hc, fun h => ?_⟩
      have g := (fx_f hc).mpr h
      obtain ⟨x, hx, ex⟩ := tnc_ex (v := rvl c) (m := 5) (Int32.le_trans (by decide) g.1) g.2 (by decide)
      refine ⟨x, ?_, hx, ex⟩
      rcases Nat.eq_zero_or_pos x with y | y
      · rw [ex, y] at g; exact absurd g.1 (by decide)
      · exact y
    · by_cases k32 : κ = 3 ∧ nI s = 2
      · have z2 : s = 2 := s2.mp k32.2
        have m1 : ¬ (κ = 3 ∧ s = 1) := fun w => by rw [z2] at w; exact absurd w.2 (by decide)
        rw [if_neg k3, if_pos (Or.inr k32), if_neg k3, if_pos k32, if_neg m1, if_pos ⟨k32.1, z2⟩]
        refine ⟨fx_g hc, fun h => ?_⟩
        have g := (fx_g hc).mpr h
        exact tnc_ex (v := rvl c) (m := 9) g.1 g.2 (by decide)
      · have m1 : ¬ (κ = 3 ∧ s = 1) := fun w => k3 ⟨w.1, s1.mpr w.2⟩
        have m2 : ¬ (κ = 3 ∧ s = 2) := fun w => k32 ⟨w.1, s2.mpr w.2⟩
        have n2 : ¬ (κ = 0 ∨ κ = 3 ∧ nI s = 2) := fun w => w.elim k0 k32
        rw [if_neg k3, if_neg n2, if_neg k3, if_neg k3, if_neg k32, if_neg m1, if_neg m2]
        refine ⟨fx_d hc hn1 hn, fun h => ?_⟩
        have g := (fx_d hc hn1 hn).mpr h
        have hn2 : 2 ≤ n := by
          rcases Nat.lt_or_ge n 2 with y | y
          · exfalso
            have e : n = 1 := by omega
            rw [e] at g
            exact absurd (Int32.le_trans g.1 g.2) (by decide)
          · exact y
        obtain ⟨x, hx, ex⟩ := tnc_ex (v := rvl c) (m := n - 2) g.1 (by rw [← show nI n - 2 = nI (n - 2) from nI_sub (b := 2) hn2]; exact g.2) (by omega)
        exact ⟨x, by omega, ex⟩
