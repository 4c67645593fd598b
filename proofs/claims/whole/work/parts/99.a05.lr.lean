/-! the class's ledger and the reference's -/
def LR (K N K' N' : Nat → Int32) (n : Nat) : Prop := ∀ q, q < n → K' q = K q ∧ (K q = 0 ∨ K q = 1 ∨ K q = 2 ∨ K q = 3 ∨ K q = 4) ∧ ∀ j, j < 4 → N' (4 * q + j) = if nI j < nums (K q) then N (4 * q + j) else 2000000001
theorem ldH_no {n q : Nat} (hn : n ≤ 8) (h : n ≤ q) (hq : q < 8) : ¬ ldH (nI n) (nI q) := fun z => by
  obtain ⟨x, hx, e⟩ := (ldH_iff hn).mp z
  have := nI_inj (by omega) (by omega) e
  omega
theorem ldK_no {K : Nat → Int32} {n q : Nat} (hn : n ≤ 8) (h : n ≤ q) (hq : q < 8) : ldKind K (nI n) (nI q) = 0 := if_neg (ldH_no hn h hq)
theorem ldN_no {N : Nat → Int32} {n q : Nat} {j : Int32} (hn : n ≤ 8) (h : n ≤ q) (hq : q < 8) : ldNum N (nI n) (nI q) j = 0 := if_neg (fun z => ldH_no hn h hq z.1)
theorem LR.eq {K N K' N' : Nat → Int32} {n : Nat} (hn : n ≤ 8) (h : LR K N K' N' n) : ldEq K N K' N' (nI n) := by
  intro q hq
  rcases Nat.lt_or_ge q n with y | y
  · obtain ⟨h1, h2, h3⟩ := h q y
    rw [ldK hn y, ldK hn y]
    refine ⟨h1, fun p hp hlt => ?_⟩
    rw [ldN hn y hp, ldN hn y hp, h3 p hp, if_pos hlt]
  · rw [ldK_no hn y hq, ldK_no hn y hq]
    exact ⟨rfl, fun p hp _ => by rw [ldN_no hn y hq, ldN_no hn y hq]⟩
theorem LR.at {K N K' N' : Nat → Int32} {n q : Nat} (h : LR K N K' N' n) (hq : q < n) : K' q = K q ∧ N' (4 * q) = N (4 * q) ∧ (¬ K q = 4 → N' (4 * q + 1) = N (4 * q + 1)) ∧ (K q = 0 ∨ K q = 3 → N' (4 * q + 2) = N (4 * q + 2)) ∧ (K q = 0 → N' (4 * q + 3) = N (4 * q + 3)) := by
  obtain ⟨h1, h2, h3⟩ := h q hq
  refine ⟨h1, ?_, fun z => ?_, fun z => ?_, fun z => ?_⟩
  · have := h3 0 (by decide)
    rw [if_pos (show nI 0 < nums (K q) from nums_0 _)] at this
    exact this
  · have := h3 1 (by decide)
    rw [if_pos (show nI 1 < nums (K q) by show (1 : Int32) < nums (K q); unfold nums; grind)] at this
    exact this
  · have := h3 2 (by decide)
    rw [if_pos (show nI 2 < nums (K q) by show (2 : Int32) < nums (K q); unfold nums; grind)] at this
    exact this
  · have := h3 3 (by decide)
    rw [if_pos (show nI 3 < nums (K q) by show (3 : Int32) < nums (K q); unfold nums; grind)] at this
    exact this
theorem row_eq {K N K' N' : Nat → Int32} {n q : Nat} {k : Int32} (hn : n ≤ 8) (h : LR K N K' N' n) (hq : q < n) (hk : 0 ≤ k ∧ k ≤ 4) : (if k = 0 then ldKind K (nI n) (nI q) else if k ≤ nums (ldKind K (nI n) (nI q)) then ldNum N (nI n) (nI q) (k - 1) else 2000000001) = if k = 0 then K' q else N' (4 * q + k.toNatClampNeg - 1) := by
  obtain ⟨h1, h2, h3⟩ := h q hq
  rw [ldK hn hq]
  by_cases h0 : k = 0
  · rw [if_pos h0, if_pos h0, h1]
  · rw [if_neg h0, if_neg h0]
    have e := tNC hk.1
    have hk5 := tNC_lt (n := 5) hk.1 (by show k < 5; grind) (by decide)
    have hk1 : 1 ≤ k.toNatClampNeg := by
      rcases Nat.eq_zero_or_pos k.toNatClampNeg with y | y
      · exact absurd (by rw [e, y]; rfl) h0
      · exact y
    generalize k.toNatClampNeg = j at e hk5 hk1
    subst e
    rw [show nI j - 1 = nI (j - 1) from nI_sub (b := 1) hk1, ldN hn hq (by omega), show 4 * q + j - 1 = 4 * q + (j - 1) by omega, h3 (j - 1) (by omega)]
    have hb := nums_ge (K q)
    by_cases c : nI j ≤ nums (K q)
    · rw [if_pos c, if_pos (by rw [← show nI j - 1 = nI (j - 1) from nI_sub (b := 1) hk1]; grind)]
    · rw [if_neg c, if_neg (by rw [← show nI j - 1 = nI (j - 1) from nI_sub (b := 1) hk1]; grind)]
theorem as_eq {κ a : Int32} (h : κ = 0 ∨ κ = 1 ∨ κ = 2 ∨ κ = 3 ∨ κ = 4) (ha : 0 ≤ a ∧ a ≤ 6) : (if κ = a ∨ abov κ = a then κ else 2000000001) = if (if a = 5 then κ = 1 ∨ κ = 2 else if a = 6 then κ = 3 ∨ κ = 4 else κ = a) then κ else 2000000001 := by
  unfold abov
  grind
/-! rules -/
theorem pwM_B {c d : Int32} : ∀ j, pwM c d j = ((pwB c d j).1, (pwB c d j).2.1)
  | 0 => rfl
  | j + 1 => by rw [pwM, pwB, pwM_B j]
theorem pw1_B {c d : Int32} : ∀ j, pw1 (-d) (j + 1) = (pwB c d j).2.2
  | 0 => by show (1 : Int32) * -d = -d; grind
  | j + 1 => by rw [pw1, pw1_B (c := c) j]; rfl
theorem pickP_eq {c d k : Int32} {m : Nat} (hm : 1 ≤ m ∧ m ≤ 5) (hk : 1 ≤ k ∧ k ≤ 4) : pickP k (nI m) c d = rl2M c d m k := by
  unfold pickP pick2 rl2M pwT
  rw [nI_toInt (by omega), show ((m : Int) - 1).toNat = m - 1 by omega]
  have e1 : (pwM c d m).1 = (pwB c d (m - 1)).2.1 := by
    rw [show m = m - 1 + 1 by omega, pwM, pwM_B]
    simp
  have e2 : pw1 (-d) m = (pwB c d (m - 1)).2.2 := by
    rw [← pw1_B (c := c) (m - 1), show m - 1 + 1 = m by omega]
  rw [e1, e2]
  grind
theorem pick2_eq {c d k : Int32} (hk : 1 ≤ k ∧ k ≤ 4) : pick2 k c d = rl2M c d 1 k := by
  unfold pick2 rl2M
  have e1 : (pwM c d 1).1 = c := rfl
  have e2 : -(pw1 (-d) 1) = d := by show -((1 : Int32) * -d) = d; grind
  rw [e1, e2]
  grind
/-- what a row refers to, on both sides -/
def rRf (K N : Nat → Int32) (n q o b m : Nat) : Prop := o < n ∧ b < n ∧ 1 ≤ m ∧ m ≤ 5 ∧ (K q = 0 → o = q) ∧ (K q ≠ 0 → N (4 * q) = nI o) ∧ (K q = 1 ∨ K q = 2 → N (4 * q + 1) = nI b) ∧ (K q = 3 → N (4 * q + 1) = nI m) ∧ (K q ≠ 3 → m = 1)
theorem rRf_ex {K N : Nat → Int32} {n q : Nat} (hn : n ≤ 8) (hq : q < n) (hk : K q = 0 ∨ K q = 1 ∨ K q = 2 ∨ K q = 3 ∨ K q = 4) (hwf : ldWf K N (nI n)) (hwe : ldWe K N (nI n)) : ∃ o b m, rRf K N n q o b m := by
  have eK := ldK (K := K) hn hq
  have e0 := ldN0 (N := N) hn hq
  have e1 := ldN1 (N := N) hn hq
  by_cases h0 : K q = 0
  · exact ⟨q, q, 1, hq, hq, by omega, by omega, fun _ => rfl, fun z => absurd h0 z, fun z => by rw [h0] at z; exact absurd z (by decide), fun z => by rw [h0] at z; exact absurd z (by decide), fun _ => rfl⟩
  · obtain ⟨⟨a, ha, ea⟩, hb⟩ := hwf q (by omega) (by rw [eK]; exact h0)
    rw [e0] at ea
    by_cases h3 : K q = 3
    · obtain ⟨m, s, m1, m2, s1, em, es⟩ := hwe.1 q (by omega) (by rw [eK]; exact h3)
      rw [e1] at em
      exact ⟨a, a, m, by omega, by omega, m1, m2, fun z => absurd z h0, fun _ => ea, fun z => by rw [h3] at z; exact absurd z (by decide), fun _ => em, fun z => absurd h3 z⟩
    · by_cases h4 : K q = 4
      · exact ⟨a, a, 1, by omega, by omega, by omega, by omega, fun z => absurd z h0, fun _ => ea, fun z => by rw [h4] at z; exact absurd z (by decide), fun z => absurd z h3, fun _ => rfl⟩
      · obtain ⟨b, hb, eb⟩ := hb (by rw [eK]; exact h3) (by rw [eK]; exact h4)
        rw [e1] at eb
        exact ⟨a, b, 1, by omega, by omega, by omega, by omega, fun z => absurd z h0, fun _ => ea, fun _ => eb, fun z => absurd z h3, fun _ => rfl⟩
theorem rRf_m {K N : Nat → Int32} {τ : Nat → Nat → Int32} {n q o b m : Nat} (hn : n ≤ 8) (hq : q < n) (h : LR K N (τ 1) (τ 2) n) (H : rRf K N n q o b m) : mRw τ q o b m := by
  obtain ⟨h1, h2, h3, h4, h5, h6, h7, h8, h9⟩ := H
  obtain ⟨g1, g2, g3, g4, g5⟩ := h.at hq
  unfold mRw
  rw [g1]
  exact ⟨by omega, by omega, by omega, h5, fun z => by rw [g2]; exact h6 z, fun z => ⟨by rw [g3 (fun y => by rw [y] at z; exact absurd z (by decide))]; exact h7 z, by omega⟩, fun z => by rw [g3 (fun y => by rw [y] at z; exact absurd z (by decide))]; exact h8 z, h9⟩
theorem tol_n {K : Nat → Int32} {n a : Nat} (hn : n ≤ 8) (ha : a < n) : (ldH (nI n) (nI a) ∧ K (nI a).toNatClampNeg = 0) ↔ K a = 0 := by
  rw [nI_clamp (by omega)]
  exact ⟨fun z => z.2, fun z => ⟨(ldH_iff hn).mpr ⟨a, ha, rfl⟩, z⟩⟩
theorem rlDeg_eq {K N : Nat → Int32} {τ : Nat → Nat → Int32} {n q o b m : Nat} (hn : n ≤ 8) (hq : q < n) (h : LR K N (τ 1) (τ 2) n) (H : rRf K N n q o b m) : rlDeg K N (nI n) (nI q) = if τ 1 q = 0 ∨ mPT τ q o b then (if τ 1 q = 1 ∨ τ 1 q = 2 then 4 else 2) else 0 := by
  obtain ⟨h1, h2, h3, h4, h5, h6, h7, h8, h9⟩ := H
  obtain ⟨g1, -⟩ := h.at hq
  obtain ⟨-, hk, -⟩ := h q hq
  have ko := (h.at h1).1
  have kb := (h.at h2).1
  unfold rlDeg
  rw [ldK hn hq, ldN0 hn hq, ldN1 hn hq]
  unfold mPT
  rw [g1, ko, kb]
  by_cases z0 : K q = 0
  · rw [if_pos z0, if_pos (Or.inl z0), if_neg (by rw [z0]; decide)]
  · rw [if_neg z0, h6 z0]
    by_cases zo : K o = 0
    · rw [if_pos ((tol_n hn h1).mpr zo)]
      by_cases z12 : K q = 1 ∨ K q = 2
      · rw [if_neg (by grind), h7 z12]
        by_cases zb : K b = 0
        · rw [if_pos ((tol_n hn h2).mpr zb), if_pos (Or.inr ⟨z0, zo, fun _ => zb⟩), if_pos z12]
        · rw [if_neg (fun y => zb ((tol_n hn h2).mp y)), if_neg (by grind)]
      · rw [if_pos (by grind), if_pos (Or.inr ⟨z0, zo, fun y => absurd y z12⟩), if_neg z12]
    · rw [if_neg (fun y => zo ((tol_n hn h1).mp y)), if_neg (by grind)]
theorem rlOne_eq {K N : Nat → Int32} {n q o b m : Nat} (hn : n ≤ 8) (hq : q < n) (H : rRf K N n q o b m) : rlOne K N (nI n) (nI q) = nI o := by
  obtain ⟨h1, h2, h3, h4, h5, h6, h7, h8, h9⟩ := H
  unfold rlOne
  rw [ldK hn hq, ldN0 hn hq]
  by_cases z : K q = 0
  · rw [if_pos z, h5 z]
  · rw [if_neg z, h6 z]
theorem rlFac_eq {K N : Nat → Int32} {τ : Nat → Nat → Int32} {n q o b m : Nat} {k : Int32} (hn : n ≤ 8) (hq : q < n) (h : LR K N (τ 1) (τ 2) n) (H : rRf K N n q o b m) (hk : 1 ≤ k ∧ k ≤ 4) (hP : τ 1 q = 0 ∨ mPT τ q o b) : rlFac K N (nI n) (nI q) k = rlM τ q o b m k := by
  have e1 := rlOne_eq hn hq H
  obtain ⟨h1, h2, h3, h4, h5, h6, h7, h8, h9⟩ := H
  obtain ⟨g1, -⟩ := h.at hq
  obtain ⟨-, hkd, -⟩ := h q hq
  have ko := h.at h1
  have kb := h.at h2
  have zo : K o = 0 := by
    rcases hP with z | z
    · rw [g1] at z; rw [h5 z]; exact z
    · rw [← ko.1]; exact z.2.1
  have a0 := ko.2.1
  have a1 := ko.2.2.1 (by rw [zo]; decide)
  unfold rlFac rlM
  rw [e1, ldK hn hq, ldN0 hn h1, ldN1 hn h1, ldN1 hn hq, g1, a0, a1, if_neg (show ¬ k = 0 by grind)]
  by_cases c04 : K q = 0 ∨ K q = 4
  · rw [if_pos c04, if_neg (by grind), if_neg (by grind), h9 (by grind), pick2_eq hk]
  · rw [if_neg c04]
    by_cases c3 : K q = 3
    · rw [if_pos c3, if_neg (by rw [c3]; decide), if_neg (by rw [c3]; decide), h8 c3, pickP_eq ⟨h3, h4⟩ hk]
    · rw [if_neg c3]
      have c12 : K q = 1 ∨ K q = 2 := by grind
      have zb : K b = 0 := by
        rcases hP with z | z
        · rw [g1] at z; exact absurd (Or.inl z) c04
        · rw [← kb.1]; exact z.2.2 (by rw [g1]; exact c12)
      have b0 := kb.2.1
      have b1 := kb.2.2.1 (by rw [zb]; decide)
      rw [h7 c12, ldN0 hn h2, ldN1 hn h2, b0, b1]
      by_cases c1 : K q = 1
      · rw [if_pos c1, if_pos c1]
      · rw [if_neg c1, if_neg c1, if_pos (by grind)]
theorem rule_eq {K N : Nat → Int32} {τ : Nat → Nat → Int32} {n q o b m : Nat} {k : Int32} (hn : n ≤ 8) (hq : q < n) (h : LR K N (τ 1) (τ 2) n) (H : rRf K N n q o b m) (hk : 0 ≤ k ∧ k ≤ 4) : (if rlDeg K N (nI n) (nI q) = 0 then 2000000103 else if k = 0 then rlDeg K N (nI n) (nI q) else rlFac K N (nI n) (nI q) k) = if τ 1 q = 0 ∨ mPT τ q o b then rlM τ q o b m k else 2000000103 := by
  rw [rlDeg_eq hn hq h H]
  by_cases z : τ 1 q = 0 ∨ mPT τ q o b
  · rw [if_pos z, if_pos z]
    have : ¬ (if τ 1 q = 1 ∨ τ 1 q = 2 then (4 : Int32) else 2) = 0 := by split <;> decide
    rw [if_neg this]
    by_cases k0 : k = 0
    · rw [if_pos k0, rlM, if_pos k0]
    · rw [if_neg k0, rlFac_eq hn hq h H ⟨by grind, hk.2⟩ z]
  · rw [if_neg z, if_neg z, if_pos rfl]
/-! easing -/
theorem ez_eq {K N : Nat → Int32} {τ : Nat → Nat → Int32} {n q o b m : Nat} (hn : n ≤ 8) (hq : q < n) (h : LR K N (τ 1) (τ 2) n) (H : rRf K N n q o b m) : (ezP K N (nI n) (nI q) ↔ mCB τ q o b) ∧ (mCB τ q o b → ezC K N (nI n) (nI q) = easC τ q o b m ∧ ezD K N (nI n) (nI q) = easD τ q o b m) := by
  have hD := rlDeg_eq hn hq h H
  have hFc : ∀ k, 1 ≤ k ∧ k ≤ 4 → τ 1 q = 0 ∨ mPT τ q o b → rlFac K N (nI n) (nI q) k = rlM τ q o b m k := fun k hk z => rlFac_eq hn hq h H hk z
  obtain ⟨h1, h2, h3, h4, h5, h6, h7, h8, h9⟩ := id H
  obtain ⟨g1, -⟩ := h.at hq
  obtain ⟨-, hkd, -⟩ := h q hq
  have ko := h.at h1
  have kb := h.at h2
  unfold ezP ezC ezD
  rw [hD, ldK hn hq]
  by_cases z0 : K q = 0
  · have z1 : τ 1 q = 0 := by rw [g1]; exact z0
    exact ⟨⟨fun z => absurd z0 z.1, fun z => absurd z1 z.1.1⟩, fun z => absurd z1 z.1.1⟩
  · have t0 : ¬ τ 1 q = 0 := by rw [g1]; exact z0
    by_cases hm : mPT τ q o b
    · have zo : K o = 0 := by rw [← ko.1]; exact hm.2.1
      have a0 := ko.2.1
      have a1 := ko.2.2.1 (by rw [zo]; decide)
      have a2 := ko.2.2.2.1 (Or.inl zo)
      have a3 := ko.2.2.2.2 zo
      have nz : ¬ (if τ 1 q = 0 ∨ mPT τ q o b then (if τ 1 q = 1 ∨ τ 1 q = 2 then (4 : Int32) else 2) else 0) = 0 := by rw [if_pos (Or.inr hm)]; split <;> decide
      by_cases c12 : K q = 1 ∨ K q = 2
      · have zb : K b = 0 := by rw [← kb.1]; exact hm.2.2 (by rw [g1]; exact c12)
        have b0 := kb.2.1
        have b1 := kb.2.2.1 (by rw [zb]; decide)
        have b2 := kb.2.2.2.1 (Or.inl zb)
        have b3 := kb.2.2.2.2 zb
        have p0 : ∀ j, npV N (nI n) (nI q) 0 j = ldNum N (nI n) (nI o) j := fun j => by unfold npV; rw [ldN0 hn hq, h6 z0]
        have p1 : ∀ j, npV N (nI n) (nI q) 1 j = ldNum N (nI n) (nI b) j := fun j => by unfold npV; rw [ldN1 hn hq, h7 c12]
        by_cases c1 : K q = 1
        · have t1 : τ 1 q = 1 := by rw [g1]; exact c1
          simp only [p0, p1, ldN0 hn h1, ldN1 hn h1, ldN0 hn h2, ldN1 hn h2]
          have eC : easC τ q o b m = τ 2 (4 * o) := by unfold easC; rw [if_neg (by rw [t1]; decide), if_neg (by rw [t1]; decide)]
          have eD : easD τ q o b m = τ 2 (4 * o + 1) := by unfold easD; rw [if_neg (by rw [t1]; decide), if_neg (by rw [t1]; decide)]
          rw [if_pos c1, if_pos c1, if_pos c1, eC, eD]
          generalize (if τ 1 q = 0 ∨ mPT τ q o b then (if τ 1 q = 1 ∨ τ 1 q = 2 then (4 : Int32) else 2) else 0) = dd at nz ⊢
          unfold mCB
          rw [if_pos t1, a0, a1, b0, b1]
          exact ⟨⟨fun z => ⟨hm, z.2.2⟩, fun z => ⟨z0, nz, z.2⟩⟩, fun _ => ⟨rfl, rfl⟩⟩
        · have c2 : K q = 2 := by grind
          have t2 : τ 1 q = 2 := by rw [g1]; exact c2
          have t1 : ¬ τ 1 q = 1 := by rw [t2]; decide
          have io : ippP N (nI n) (nI q) 0 ↔ mIP τ o := by
            unfold ippP mIP
            rw [p0, p0, p0, p0, ldN0 hn h1, ldN1 hn h1, ldN2 hn h1, ldN3 hn h1, a0, a1, a2, a3]
          have ib : ippP N (nI n) (nI q) 1 ↔ mIP τ b := by
            unfold ippP mIP
            rw [p1, p1, p1, p1, ldN0 hn h2, ldN1 hn h2, ldN2 hn h2, ldN3 hn h2, b0, b1, b2, b3]
          rw [if_neg c1, if_neg c1, if_neg c1, hFc 1 (by decide) (Or.inr hm), hFc 2 (by decide) (Or.inr hm)]
          unfold mCB
          rw [if_neg t1, if_pos t2, io, ib]
          refine ⟨⟨fun z => ⟨hm, ?_⟩, fun z => ⟨z0, nz, Or.inr z.2⟩⟩, fun z => ?_⟩
          · rcases z.2.2 with y | y
            · exact absurd c2 y
            · exact y
          · have eC : easC τ q o b m = τ 2 (4 * o) * τ 2 (4 * b) := by unfold easC; rw [if_pos t2]
            have eD : easD τ q o b m = τ 2 (4 * easB τ o b) * τ 2 (4 * easB τ o b) * τ 2 (4 * (o + b - easB τ o b) + 1) := by unfold easD; rw [if_pos t2]
            have r1 : rlM τ q o b m 1 = pickM 1 (τ 2 (4 * o)) (τ 2 (4 * o + 1)) (τ 2 (4 * b)) (τ 2 (4 * b + 1)) := by unfold rlM; rw [if_neg (show ¬ (1 : Int32) = 0 by decide), if_neg t1, if_pos t2]
            have r2 : rlM τ q o b m 2 = pickM 2 (τ 2 (4 * o)) (τ 2 (4 * o + 1)) (τ 2 (4 * b)) (τ 2 (4 * b + 1)) := by unfold rlM; rw [if_neg (show ¬ (2 : Int32) = 0 by decide), if_neg t1, if_pos t2]
            rw [eC, eD, r1, r2]
            refine ⟨by unfold pickM; rw [if_pos rfl], ?_⟩
            unfold pickM easB
            rw [if_neg (show ¬ (2 : Int32) = 1 by decide), if_pos rfl]
            by_cases y : mIP τ o
            · rw [if_pos y, show o + b - o = b by omega, y.1]
              grind
            · have yb : mIP τ b := by rcases z.2 with w | w; exact absurd w y; exact w
              rw [if_neg y, show o + b - b = o by omega, yb.1]
              grind
      · have t12 : ¬ (τ 1 q = 1 ∨ τ 1 q = 2) := by rw [g1]; exact c12
        have c1 : ¬ K q = 1 := fun z => c12 (Or.inl z)
        have c2 : ¬ K q = 2 := fun z => c12 (Or.inr z)
        have t1 : ¬ τ 1 q = 1 := fun z => t12 (Or.inl z)
        have t2 : ¬ τ 1 q = 2 := fun z => t12 (Or.inr z)
        rw [if_neg c1, if_neg c1, if_neg c1, hFc 1 (by decide) (Or.inr hm), hFc 2 (by decide) (Or.inr hm)]
        unfold mCB
        rw [if_neg t1, if_neg t2]
        refine ⟨⟨fun z => ⟨hm, trivial⟩, fun z => ⟨z0, nz, Or.inl c2⟩⟩, fun z => ?_⟩
        have r1 : rlM τ q o b m 1 = rl2M (τ 2 (4 * o)) (τ 2 (4 * o + 1)) m 1 := by unfold rlM; rw [if_neg (show ¬ (1 : Int32) = 0 by decide), if_neg t1, if_neg t2]
        have r2 : rlM τ q o b m 2 = rl2M (τ 2 (4 * o)) (τ 2 (4 * o + 1)) m 2 := by unfold rlM; rw [if_neg (show ¬ (2 : Int32) = 0 by decide), if_neg t1, if_neg t2]
        rw [r1, r2]
        unfold easC easD
        rw [if_neg t2, if_neg t2]
        by_cases c3 : τ 1 q = 3
        · rw [if_pos c3, if_pos c3]
          exact ⟨rfl, rfl⟩
        · rw [if_neg c3, if_neg c3, h9 (by rw [← g1]; exact c3), ← pick2_eq (by decide), ← pick2_eq (by decide)]
          exact ⟨rfl, rfl⟩
    · have nz : (if τ 1 q = 0 ∨ mPT τ q o b then (if τ 1 q = 1 ∨ τ 1 q = 2 then (4 : Int32) else 2) else 0) = 0 := if_neg (fun y => by rcases y with y | y; exact t0 y; exact hm y)
      exact ⟨⟨fun z => absurd nz z.2.1, fun z => absurd z.1 hm⟩, fun z => absurd z.1 hm⟩
/-! counting -/
theorem tc_eq {K N : Nat → Int32} {τ : Nat → Nat → Int32} {n : Nat} (hn : n ≤ 8) (h : LR K N (τ 1) (τ 2) n) : ∀ j, j ≤ n → nI (tcN K (nI n) j) = mTM τ 0 j
  | 0, _ => rfl
  | j + 1, hj => by
    have ih := tc_eq hn h j (by omega)
    have e : tolP K (nI n) (nI j) ↔ τ 1 j = 0 := by rw [(h.at (show j < n by omega)).1]; exact tol_n hn (by omega)
    rw [tcN]
    by_cases z : τ 1 j = 0
    · rw [if_pos (e.mpr z), mTM_t ⟨z, Or.inl rfl⟩, ← ih, nI_1]
    · rw [if_neg (fun y => z (e.mp y)), mTM_f (fun y => z y.1), ← ih, Nat.add_zero, Int32.add_zero]
theorem dc_eq {K N : Nat → Int32} {τ : Nat → Nat → Int32} {n : Nat} (hn : n ≤ 8) (hwe : ldWe K N (nI n)) (h : LR K N (τ 1) (τ 2) n) : ∀ j, j ≤ n → nI (dcN K N (nI n) j) = mTM τ 1 j
  | 0, _ => rfl
  | j + 1, hj => by
    have ih := dc_eq hn hwe h j (by omega)
    have hjn : j < n := by omega
    have e : tolP K (nI n) (nI j) ↔ τ 1 j = 0 := by rw [(h.at hjn).1]; exact tol_n hn hjn
    rw [dcN]
    by_cases z : τ 1 j = 0
    · have zK : K j = 0 := by rw [← (h.at hjn).1]; exact z
      have hw := hwe.2 j (by omega) (by rw [ldK hn hjn]; exact zK)
      have a0 := (h.at hjn).2.1
      have a1 := (h.at hjn).2.2.1 (by rw [zK]; decide)
      rw [ldN0 hn hjn, ldN1 hn hjn] at hw
      rw [ldN0 hn hjn, ldN1 hn hjn]
      have eo : 0 < dgM (τ 2 (4 * j)) (τ 2 (4 * j + 1)) ↔ ordV (N (4 * j)) (N (4 * j + 1)) ≠ 0 := by
        rw [a0, a1, dg_ord hw.1 hw.2]; exact ordV_pos _ _
      by_cases y : ordV (N (4 * j)) (N (4 * j + 1)) ≠ 0
      · rw [if_pos ⟨e.mpr z, y⟩, mTM_t ⟨z, Or.inr (eo.mpr y)⟩, ← ih, nI_1]
      · rw [if_neg (fun w => y w.2), mTM_f (fun w => by rcases w.2 with v | v; exact absurd v (by decide); exact y (eo.mp v)), ← ih, Nat.add_zero, Int32.add_zero]
    · rw [if_neg (fun y => z (e.mp y.1)), mTM_f (fun y => z y.1), ← ih, Nat.add_zero, Int32.add_zero]
