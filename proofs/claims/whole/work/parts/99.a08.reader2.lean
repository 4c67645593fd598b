theorem i32_a {S U : Int32} (h5 : S < U) (hb : U ≤ 4) (hs : S < 4) : S + 1 ≤ U := by grind
theorem i32_b {S U : Int32} : S + 1 = 1 + U ↔ S = U := by grind
theorem i32_c {S U : Int32} (h : S ≤ U) (z : ¬ S = U) : S < U := by grind
theorem i32_d {U : Int32} (h1 : 1 ≤ U) (h2 : U ≤ 4) : ¬ (0 : Int32) = 1 + U := by grind
theorem ldWr_a {σ : Nat → Nat → Int32} {a b r q : Nat} {k A B C D : Int32} (h : a ≠ b) : ldWr σ a b r k A B C D a q = if q = r then k else σ a q := by
  unfold ldWr
  rw [put_ne h, put_ne h, put_ne h, put_ne h, put_ix]
theorem ldWr_b {σ : Nat → Nat → Int32} {a b r i : Nat} {k A B C D : Int32} (h : a ≠ b) : ldWr σ a b r k A B C D b i = if i = 4 * r + 3 then D else if i = 4 * r + 2 then C else if i = 4 * r + 1 then B else if i = 4 * r then A else σ b i := by
  unfold ldWr
  rw [put_ix, put_ix, put_ix, put_ix, put_ne (Ne.symm h)]
theorem ldWr_bo {σ : Nat → Nat → Int32} {a b r i : Nat} {k A B C D : Int32} (h : a ≠ b) (hi : i < 4 * r ∨ 4 * r + 4 ≤ i) : ldWr σ a b r k A B C D b i = σ b i := by
  rw [ldWr_b h, if_neg (by omega), if_neg (by omega), if_neg (by omega), if_neg (by omega)]
theorem rs_mark {σ τ : Nat → Nat → Int32} {n s : Nat} {κ : Int32} (H : RS σ τ n s) (h1 : σ 8 2 = 0) (h2 : τ 0 12 = 1) (h3 : n < 8) (h4 : 1 ≤ n → nI s = nums (σ 10 (n - 1))) (hk : kOk κ) : RS (ldWr (put (put (put σ 8 1 κ) 8 2 1) 9 2 (nI (n + 1))) 10 11 n κ 0 0 0 0) (mTK τ n κ) (n + 1) 0 := by
  obtain ⟨a1, a2, a3, a4, a5, a6, -⟩ := H
  refine ⟨?_, ?_, by omega, ?_, by omega, ?_, Or.inr ⟨?_, ?_, by omega, ?_, ?_⟩⟩
  · rw [ldWr_ne (by decide) (by decide), put_ix, if_pos rfl]
  · unfold mTK
    rw [put_ix, if_neg (by decide), put_ix, if_neg (by decide), put_ix, if_pos rfl]
  · unfold mTK
    rw [put_ix, if_neg (by decide), put_ix, if_pos rfl]; rfl
  · intro q hq
    have e5 : mTK τ n κ 5 q = if q = n then κ else τ 5 q := by
      unfold mTK
      rw [put_ne (by decide), put_ne (by decide), put_ne (by decide), putC_ne (by decide), put_ix]
    have e6 : mTK τ n κ 6 = ru (τ 6) (4 * n) 4 (fun _ => 2000000001) := by
      unfold mTK
      rw [put_ne (by decide), put_ne (by decide), put_ne (by decide), putC_eq]
    have e10 : ∀ x, ldWr (put (put (put σ 8 1 κ) 8 2 1) 9 2 (nI (n + 1))) 10 11 n κ 0 0 0 0 10 x = if x = n then κ else σ 10 x := fun x => by
      rw [ldWr_a (by decide), put_ne (by decide), put_ne (by decide), put_ne (by decide)]
    rw [e5, e6, e10 q]
    rcases Nat.lt_or_ge q n with y | y
    · obtain ⟨b1, b2, b3⟩ := a6 q y
      rw [if_neg (by omega), if_neg (by omega)]
      refine ⟨b1, b2, fun j hj => ?_⟩
      have e11 : ldWr (put (put (put σ 8 1 κ) 8 2 1) 9 2 (nI (n + 1))) 10 11 n κ 0 0 0 0 11 (4 * q + j) = σ 11 (4 * q + j) := by
        rw [ldWr_bo (by decide) (by omega), put_ne (by decide), put_ne (by decide), put_ne (by decide)]
      rw [ru_out (by omega), e11]
      have d1 : dOk (ldWr (put (put (put σ 8 1 κ) 8 2 1) 9 2 (nI (n + 1))) 10 11 n κ 0 0 0 0 10) (n + 1) 0 q j ↔ nI j < nums (σ 10 q) := by
        unfold dOk
        rw [if_neg (by omega), e10 q, if_neg (by omega)]
      have d2 : dOk (σ 10) n s q j ↔ nI j < nums (σ 10 q) := dOk_full hj a5 (fun e => by
        have := h4 (by omega)
        rw [show n - 1 = q by omega] at this
        exact this)
      rw [d1, ← d2]
      exact b3 j hj
    · have e : q = n := by omega
      subst e
      rw [if_pos rfl, if_pos rfl]
      refine ⟨rfl, hk, fun j hj => ?_⟩
      have d1 : ¬ dOk (ldWr (put (put (put σ 8 1 κ) 8 2 1) 9 2 (nI (q + 1))) 10 11 q κ 0 0 0 0 10) (q + 1) 0 q j := by
        unfold dOk
        rw [if_pos rfl]; omega
      exact ⟨fun z => absurd z d1, fun _ => ru_in hj⟩
  · rw [ldWr_ne (by decide) (by decide), put_ne (by decide), put_ix, if_pos rfl]; rfl
  · unfold mTK
    rw [put_ix, if_pos rfl]
  · rw [ldWr_ne (by decide) (by decide), put_ne (by decide), put_ix, if_neg (by decide), put_ix, if_pos rfl, ldWr_a (by decide), if_pos (by omega)]
  · rw [ldWr_a (by decide), if_pos (by omega)]
    exact Int32.le_of_lt (nums_0 κ)
theorem rs_num {σ τ : Nat → Nat → Int32} {n s : Nat} {v : Int32} (H : RS σ τ n s) (h1 : σ 8 2 = nI (s + 1)) (h2 : τ 0 12 = 0) (h3 : 1 ≤ n) (h4 : σ 8 1 = σ 10 (n - 1)) (h5 : nI s < nums (σ 10 (n - 1))) (hs : s < 4) (hv : vOk (σ 10 (n - 1)) (n - 1) s v) : RS (put (put σ 11 (4 * (n - 1) + s) v) 8 2 (nI (s + 2))) (put (put τ 6 (4 * n - 4 + s) v) 0 9 (nI (s + 1))) n (s + 1) := by
  obtain ⟨a1, a2, a3, a4, a5, a6, -⟩ := H
  have e10 : put (put σ 11 (4 * (n - 1) + s) v) 8 2 (nI (s + 2)) 10 = σ 10 := by rw [put_ne (by decide), put_ne (by decide)]
  have e11 : ∀ i, put (put σ 11 (4 * (n - 1) + s) v) 8 2 (nI (s + 2)) 11 i = if i = 4 * (n - 1) + s then v else σ 11 i := fun i => by rw [put_ne (by decide), put_ix]
  have e5 : put (put τ 6 (4 * n - 4 + s) v) 0 9 (nI (s + 1)) 5 = τ 5 := by rw [put_ne (by decide), put_ne (by decide)]
  have e6 : ∀ i, put (put τ 6 (4 * n - 4 + s) v) 0 9 (nI (s + 1)) 6 i = if i = 4 * (n - 1) + s then v else τ 6 i := fun i => by
    rw [put_ne (by decide), put_ix, show 4 * n - 4 + s = 4 * (n - 1) + s by omega]
  refine ⟨?_, ?_, a3, ?_, by omega, ?_, Or.inr ⟨?_, ?_, h3, ?_, ?_⟩⟩
  · rw [put_ne (by decide), put_ne (by decide)]; exact a1
  · rw [put_ix, if_neg (by decide), put_ne (by decide)]; exact a2
  · rw [put_ix, if_pos rfl]
  · rw [e10, e5]
    intro q hq
    obtain ⟨b1, b2, b3⟩ := a6 q hq
    refine ⟨b1, b2, fun j hj => ?_⟩
    rw [e11, e6]
    by_cases e : 4 * q + j = 4 * (n - 1) + s
    · have eq : q = n - 1 := by omega
      have ej : j = s := by omega
      rw [if_pos e, if_pos e, eq, ej]
      have d1 : dOk (σ 10) n (s + 1) (n - 1) s := by
        unfold dOk
        rw [if_pos (by omega)]; omega
      exact ⟨fun _ => ⟨rfl, hv⟩, fun z => absurd d1 z⟩
    · rw [if_neg e, if_neg e]
      have d1 : dOk (σ 10) n (s + 1) q j ↔ dOk (σ 10) n s q j := by
        unfold dOk
        by_cases z : q + 1 = n
        · rw [if_pos z, if_pos z]; omega
        · rw [if_neg z, if_neg z]
      rw [d1]
      exact b3 j hj
  · rw [put_ix, if_pos rfl]
  · rw [put_ix, if_neg (by decide), put_ne (by decide)]; exact h2
  · rw [e10, put_ix, if_neg (by decide), put_ne (by decide)]; exact h4
  · rw [e10, ← nI_1 s]
    have hb := nums_ge (σ 10 (n - 1))
    have hs4 := nI_lt (a := s) (b := 4) hs (by decide)
    exact i32_a h5 hb.2 hs4
theorem rs_step {σ τ : Nat → Nat → Int32} {n s : Nat} {c : Int32} (H : RS σ τ n s) (hc : 32 ≤ c ∧ c ≤ 126) : (rdTk σ c).1 = (mTk τ c n s).1 ∧ ((rdTk σ c).1 = true → ∃ n' s', RS (rdTk σ c).2 (mTk τ c n s).2 n' s') := by
  obtain ⟨a1, a2, a3, a4, a5, a6, a7⟩ := id H
  rcases a7 with ⟨b1, b2, b3, b4⟩ | ⟨b1, b2, b3, b4, b5⟩
  · have e1 : rdTk σ c = rdMark σ c := by unfold rdTk; rw [if_pos b1]
    have e2 : mTk τ c n s = if mkd c = 2000000001 ∨ (mkd c ≠ 0 ∧ n = 0) then (false, τ) else (true, mTK τ n (mkd c)) := by unfold mTk; rw [if_neg (by rw [b2]; decide)]
    have en : rdN σ = n := by unfold rdN; rw [a1, nI_clamp (by omega)]
    rw [e1, e2]
    unfold rdMark
    rw [en]
    rcases kd_eq c with ⟨k1, k2⟩ | ⟨k1, k2, k3, k4⟩
    · rw [if_pos (Or.inl k1), if_pos (Or.inl k2)]
      exact ⟨rfl, fun z => absurd (show false = true from z) (by decide)⟩
    · rw [k1] at k2 k3 ⊢
      by_cases z : mkd c ≠ 0 ∧ n = 0
      · rw [if_pos (Or.inr z), if_pos (Or.inr z)]
        exact ⟨rfl, fun z => absurd (show false = true from z) (by decide)⟩
      · have w1 : ¬ (mkd c = -1 ∨ (mkd c ≠ 0 ∧ n = 0)) := fun w => w.elim k3 z
        have w2 : ¬ (mkd c = 2000000001 ∨ (mkd c ≠ 0 ∧ n = 0)) := fun w => w.elim k4 z
        rw [if_neg w1, if_neg w2]
        exact ⟨rfl, fun _ => ⟨n + 1, 0, rs_mark H b1 b2 b3 b4 k2⟩⟩
  · obtain ⟨g1, g2, g3⟩ := a6 (n - 1) (by omega)
    have hb := nums_ge (σ 10 (n - 1))
    have c0 : ¬ σ 8 2 = 0 := by rw [b1]; exact fun z => absurd ((nI0 (by omega)).mp z) (by omega)
    have cd : σ 8 2 = 1 + nums (σ 8 1) ↔ nI s = nums (σ 10 (n - 1)) := by
      rw [b1, b4, ← nI_1 s]
      exact i32_b
    unfold rdTk mTk
    rw [if_neg c0, if_pos b2, g1]
    by_cases z : nI s = nums (σ 10 (n - 1))
    · rw [if_pos (cd.mpr z), if_pos ⟨by omega, z⟩, a1]
      have hlt : nI n < 8 ↔ n < 8 := nI_lt_iff (b := 8) (by omega) (by decide)
      by_cases y : c = 59 ∧ n < 8
      · rw [if_pos y]
        have yt : decide (c = 59 ∧ nI n < 8) = true := decide_eq_true ⟨y.1, hlt.mpr y.2⟩
        refine ⟨yt, fun _ => ⟨n, s, ?_⟩⟩
        refine ⟨?_, ?_, a3, ?_, a5, ?_, Or.inl ⟨?_, ?_, y.2, fun _ => ?_⟩⟩
        · show put σ 8 2 0 9 2 = _
          rw [put_ne (by decide)]; exact a1
        · show put τ 0 12 1 0 8 = _
          rw [put_ix, if_neg (by decide)]; exact a2
        · show put τ 0 12 1 0 9 = _
          rw [put_ix, if_neg (by decide)]; exact a4
        · show LRd (put σ 8 2 0 10) (put σ 8 2 0 11) (put τ 0 12 1 5) (put τ 0 12 1 6) n s
          rw [put_ne (by decide), put_ne (by decide), put_ne (by decide), put_ne (by decide)]; exact a6
        · show put σ 8 2 0 8 2 = 0
          rw [put_ix, if_pos rfl]
        · show put τ 0 12 1 0 12 = 1
          rw [put_ix, if_pos rfl]
        · show nI s = nums (put σ 8 2 0 10 (n - 1))
          rw [put_ne (by decide)]; exact z
      · rw [if_neg y]
        have yf : decide (c = 59 ∧ nI n < 8) = false := decide_eq_false (fun w => y ⟨w.1, hlt.mp w.2⟩)
        exact ⟨yf, fun w => absurd (yf.symm.trans w) (by decide)⟩
    · have zn : ¬ (0 < n ∧ nI s = nums (σ 10 (n - 1))) := fun w => z w.2
      have hlt : nI s < nums (σ 10 (n - 1)) := i32_c b5 z
      have hs : s < 4 := by
        rcases Nat.lt_or_ge s 4 with y | y
        · exact y
        · exfalso
          have e : s = 4 := by omega
          rw [e] at hlt
          exact absurd (Int32.lt_of_lt_of_le hlt hb.2) (by decide)
      have hF := fit_eq (κ := σ 10 (n - 1)) (n := n) (s := s) g2 b3 a3 hs hc
      rw [if_neg (fun w => z (cd.mp w)), if_neg zn]
      unfold rdNum
      rw [b1, b4, a1]
      by_cases y : mFit (σ 10 (n - 1)) (nI s) n c
      · rw [if_pos (hF.1.mpr y), if_pos y]
        have e1 : nI n - 1 = nI (n - 1) := nI_sub (b := 1) b3
        have e2 : nI (s + 1) - 1 = nI s := nI_sub (a := s + 1) (b := 1) (by omega)
        have hH : ldH (nI n) (nI n - 1) ∧ 0 ≤ nI (s + 1) - 1 ∧ nI (s + 1) - 1 < 4 := by
          rw [e1, e2]
          exact ⟨(ldH_iff a3).mpr ⟨n - 1, by omega, rfl⟩, nI_pos' (by omega), nI_lt (b := 4) hs (by decide)⟩
        have ei : ((nI n - 1) * 4 + (nI (s + 1) - 1)).toNatClampNeg = 4 * (n - 1) + s := by
          rw [e1, e2, show (4 : Int32) = nI 4 from rfl, nI_mul, nI_add, nI_clamp (by omega)]; omega
        rw [if_pos hH, ei]
        refine ⟨rfl, fun _ => ⟨n, s + 1, ?_⟩⟩
        have := rs_num (v := rvl c) H b1 b2 b3 b4 hlt hs (hF.2 y)
        rw [show nI (s + 1) + 1 = nI (s + 2) from nI_1 (s + 1)]
        exact this
      · rw [if_neg (fun w => y (hF.1.mp w)), if_neg y]
        exact ⟨rfl, fun w => absurd (show false = true from w) (by decide)⟩
theorem rd_sim {G G' : Nat → Int32} : ∀ (d j : Nat) (σ τ : Nat → Nat → Int32), (∃ n s, RS σ τ n s) → (∀ i, j ≤ i → i < j + d → G' i = G i ∧ 32 ≤ G i ∧ G i ≤ 126) → (rdGo G d j σ).1 = (rdM G' d j τ).1 ∧ ((rdGo G d j σ).1 = j + d → ∃ n s, RS (rdGo G d j σ).2 (rdM G' d j τ).2 n s)
  | 0, j, σ, τ, H, _ => ⟨rfl, fun _ => H⟩
  | d + 1, j, σ, τ, H, hG => by
    obtain ⟨n, s, H⟩ := H
    obtain ⟨g1, g2⟩ := hG j (by omega) (by omega)
    have hs := rs_step H g2
    have em : mT τ (G' j) = mTk τ (G j) n s := by
      unfold mT
      rw [g1, H.2.1, H.2.2.2.1, nI_clamp (by have := H.2.2.1; omega), nI_clamp (by have := H.2.2.2.2.1; omega)]
    unfold rdGo rdM
    rw [em]
    by_cases z : (rdTk σ (G j)).1 = true
    · rw [if_pos z, if_pos (hs.1 ▸ z)]
      have := rd_sim d (j + 1) _ _ (hs.2 z) (fun i h1 h2 => hG i (by omega) (by omega))
      rw [show j + (d + 1) = j + 1 + d by omega]
      exact this
    · rw [if_neg z, if_neg (hs.1 ▸ z)]
      exact ⟨rfl, fun w => absurd w (by show ¬ j = j + (d + 1); omega)⟩
theorem rs_0 {σ τ : Nat → Nat → Int32} : RS (put (put σ 9 2 0) 8 2 0) (mR0 τ) 0 0 := by
  refine ⟨?_, ?_, by omega, ?_, by omega, fun q hq => absurd hq (by omega), Or.inl ⟨?_, ?_, by omega, fun w => absurd w (by omega)⟩⟩
  · rw [put_ne (by decide), put_ix, if_pos rfl]; rfl
  · unfold mR0; rw [put_ix, if_neg (by decide), put_ix, if_neg (by decide), put_ix, if_pos rfl]; rfl
  · unfold mR0; rw [put_ix, if_neg (by decide), put_ix, if_pos rfl]; rfl
  · rw [put_ix, if_pos rfl]
  · unfold mR0; rw [put_ix, if_pos rfl]
/-- what both readers say of a page -/
theorem rd_eq {σ τ : Nat → Nat → Int32} {p : Nat} (hG : ∀ i, i < p → τ 4 i = σ 7 i ∧ 32 ≤ σ 7 i ∧ σ 7 i ≤ 126) : (rdGo (σ 7) p 0 (put (put σ 9 2 0) 8 2 0)).1 = (mRd τ p).1 ∧ (rdW σ p ↔ mWh τ p) ∧ (rdW σ p → ∃ n, n ≤ 8 ∧ (rdGo (σ 7) p 0 (put (put σ 9 2 0) 8 2 0)).2 9 2 = nI n ∧ (mRd τ p).2 0 8 = nI n ∧ LR ((rdGo (σ 7) p 0 (put (put σ 9 2 0) 8 2 0)).2 10) ((rdGo (σ 7) p 0 (put (put σ 9 2 0) 8 2 0)).2 11) ((mRd τ p).2 5) ((mRd τ p).2 6) n ∧ vAll ((rdGo (σ 7) p 0 (put (put σ 9 2 0) 8 2 0)).2 10) ((rdGo (σ 7) p 0 (put (put σ 9 2 0) 8 2 0)).2 11) n) := by
  have S := rd_sim (G := σ 7) (G' := τ 4) p 0 (put (put σ 9 2 0) 8 2 0) (mR0 τ) ⟨0, 0, rs_0⟩ (fun i _ hi => hG i (by omega))
  rw [Nat.zero_add] at S
  unfold rdW mWh mRd
  generalize rdGo (σ 7) p 0 (put (put σ 9 2 0) 8 2 0) = X at S
  generalize rdM (τ 4) p 0 (mR0 τ) = Y at S
  obtain ⟨S1, S2⟩ := S
  refine ⟨S1, ?_, ?_⟩
  · by_cases z : X.1 = p
    · obtain ⟨n, s, H⟩ := S2 z
      obtain ⟨a1, a2, a3, a4, a5, a6, a7⟩ := H
      rw [S1] at z
      rw [S1, a2, nI_clamp (by omega)]
      rcases a7 with ⟨b1, b2, b3, b4⟩ | ⟨b1, b2, b3, b4, b5⟩
      · rw [b1, b2]
        have hb := nums_ge (X.2 8 1)
        constructor
        · rintro ⟨-, w⟩
          exact absurd w (i32_d hb.1 hb.2)
        · rintro ⟨-, w, -⟩
          exact absurd w (by decide)
      · obtain ⟨g1, -⟩ := a6 (n - 1) (by omega)
        rw [b1, b2, a4, b4, g1, ← nI_1 s]
        constructor
        · rintro ⟨w1, w2⟩
          exact ⟨w1, rfl, by omega, i32_b.mp w2⟩
        · rintro ⟨w1, -, -, w2⟩
          exact ⟨w1, i32_b.mpr w2⟩
    · constructor
      · rintro ⟨w, -⟩; exact absurd w z
      · rintro ⟨w, -⟩; exact absurd (S1.trans w) z
  · rintro ⟨z, w⟩
    obtain ⟨n, s, H⟩ := S2 z
    obtain ⟨a1, a2, a3, a4, a5, a6, a7⟩ := H
    have hfull : 1 ≤ n → nI s = nums (X.2 10 (n - 1)) := by
      rcases a7 with ⟨b1, b2, b3, b4⟩ | ⟨b1, b2, b3, b4, b5⟩
      · exact b4
      · intro _
        rw [b1, b4, ← nI_1 s] at w
        exact i32_b.mp w
    exact ⟨n, a3, a1, a2, a6.full a5 hfull⟩
