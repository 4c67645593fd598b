/-! guesses -/
theorem gAt_lt {G : Nat → Int32} {g k : Nat} (hg : g ≤ 8) (hk : k < g) : gAt G g (nI k) = G k := by
  show nmAt G (nI g) 8 (nI k) = G k
  unfold nmAt
  rw [if_pos ⟨nI_pos' (by omega), nI_lt hk (by omega), nI_lt (by omega) (by decide)⟩, nI_clamp (by omega)]
theorem igB_all {G : Nat → Int32} {dg : Nat} {u v : Int32} : ∀ i, igB G dg u v i = true ↔ ∀ k, k < i → G (dg + k) = byv G dg u v (dg + k)
  | 0 => ⟨fun _ k hk => absurd hk (by omega), fun _ => rfl⟩
  | i + 1 => by
    rw [igB, Bool.and_eq_true, igB_all i, decide_eq_true_iff]
    constructor
    · rintro ⟨h1, h2⟩ k hk
      rcases Nat.lt_or_ge k i with y | y
      · exact h1 k y
      · rw [show k = i by omega]; exact h2
    · exact fun h => ⟨fun k hk => h k (by omega), h i (by omega)⟩
theorem ex_ig {G G' : Nat → Int32} {g dg : Nat} {u v : Int32} (hg : g ≤ 8) (h : ∀ i, i < g → G' i = G i) (hd : (dg = 0 ∧ u = 0 ∧ v = 0) ∨ (dg = 1 ∧ v = 0) ∨ dg = 2) : exOk G g dg u v ↔ igB G' dg u v (g - dg) = true := by
  rw [igB_all]
  have key : ∀ k, k < g → dg ≤ k → (gAt G g (nI k) = u * gAt G g (nI k - 1) + v * gAt G g (nI k - 2) ↔ G' k = byv G' dg u v k) := by
    intro k hk hdk
    rw [gAt_lt hg hk, h k hk]
    unfold byv
    rcases hd with ⟨rfl, rfl, rfl⟩ | ⟨rfl, rfl⟩ | rfl
    · rw [if_pos (show nI 0 = 0 from rfl)]
      rw [show (0 : Int32) * gAt G g (nI k - 1) + 0 * gAt G g (nI k - 2) = 0 by grind]
    · rw [if_neg (show ¬ nI 1 = 0 by decide), if_pos (show nI 1 = 1 from rfl), show nI k - 1 = nI (k - 1) from nI_sub (b := 1) hdk, gAt_lt hg (by omega), h (k - 1) (by omega)]
      rw [show u * G (k - 1) + 0 * gAt G g (nI k - 2) = u * G (k - 1) by grind]
    · rw [if_neg (show ¬ nI 2 = 0 by decide), if_neg (show ¬ nI 2 = 1 by decide), show nI k - 1 = nI (k - 1) from nI_sub (b := 1) (by omega), show nI k - 2 = nI (k - 2) from nI_sub (b := 2) hdk, gAt_lt hg (by omega), gAt_lt hg (by omega), h (k - 1) (by omega), h (k - 2) (by omega)]
  constructor
  · intro H k hk
    exact (key (dg + k) (by omega) (by omega)).mp (H (dg + k) (by omega) (by omega))
  · intro H k hk hdk
    have := H (k - dg) (by omega)
    rw [show dg + (k - dg) = k by omega] at this
    exact (key k hk hdk).mpr this
theorem fs_app {p : Nat → Bool} {b : Nat} : ∀ a j, fs p (a + b) j = if fs p a j < j + a then fs p a j else fs p b (j + a)
  | 0, j => by rw [Nat.zero_add, if_neg (by show ¬ j < j + 0; omega), Nat.add_zero]
  | a + 1, j => by
    rw [show a + 1 + b = a + b + 1 by omega, fs, fs]
    by_cases h : p j = true
    · rw [if_pos h, if_pos h, if_pos (by omega)]
    · rw [if_neg h, if_neg h, fs_app a (j + 1)]
      by_cases h2 : fs p a (j + 1) < j + 1 + a
      · rw [if_pos h2, if_pos (by omega)]
      · rw [if_neg h2, if_neg (by omega), show j + 1 + a = j + (a + 1) by omega]
theorem fs_sh {p : Nat → Bool} {c : Nat} : ∀ b j, fs p b (c + j) = c + fs (fun k => p (c + k)) b j
  | 0, j => rfl
  | b + 1, j => by
    rw [fs, fs]
    by_cases h : p (c + j) = true
    · rw [if_pos h, if_pos h]
    · rw [if_neg h, if_neg h, show c + j + 1 = c + (j + 1) by omega, fs_sh b (j + 1)]
theorem fs_cg {p r : Nat → Bool} : ∀ b j, (∀ k, j ≤ k → k < j + b → p k = r k) → fs p b j = fs r b j
  | 0, j, _ => rfl
  | b + 1, j, h => by
    rw [fs, fs, h j (by omega) (by omega), fs_cg b (j + 1) (fun k a c => h k (by omega) (by omega))]
theorem gs_key {G G' : Nat → Int32} {g : Nat} (hg : g ≤ 8) (h : ∀ i, i < g → G' i = G i) : gsK G g = if igB G' 0 0 0 g then 0 else 1 + mgK G' g := by
  have e0 : exOk G g 0 0 0 ↔ igB G' 0 0 0 g = true := ex_ig hg h (Or.inl ⟨rfl, rfl, rfl⟩)
  unfold gsK
  by_cases z : igB G' 0 0 0 g = true
  · rw [if_pos (e0.mpr z), if_pos z]
  · rw [if_neg (fun y => z (e0.mp y)), if_neg z]
    unfold mgK
    have p1 : ∀ k, k < 19 → mgP G' g k = exP1 G g k := fun k hk => by
      rw [mgP_a hk, Bool.eq_iff_iff, exP1, decide_eq_true_iff, gU, if_pos hk, gV, if_pos hk]
      exact (ex_ig hg h (Or.inr (Or.inl ⟨rfl, rfl⟩))).symm
    have p2 : ∀ k, k < 361 → mgP G' g (19 + k) = exP2 G g k := fun k hk => by
      rw [mgP_b (by omega), Bool.eq_iff_iff, exP2, decide_eq_true_iff, gU, if_neg (by omega), gV, if_neg (by omega)]
      rw [show nI (19 + k) - 19 = nI k from (nI_sub (a := 19 + k) (b := 19) (by omega)).trans (by rw [show 19 + k - 19 = k by omega]), show (19 : Int32) = nI 19 from rfl, nI_rem (by omega) (by decide), nI_div (by omega) (by decide)]
      exact (ex_ig hg h (Or.inr (Or.inr rfl))).symm
    rw [show (380 : Nat) = 19 + 361 from rfl, fs_app, fs_cg 19 0 (fun k _ hk => p1 k (by omega))]
    by_cases y : fs (exP1 G g) 19 0 < 19
    · rw [if_pos y, if_pos (by omega)]
    · rw [if_neg y, if_neg (by omega), show 0 + 19 = 19 + 0 from rfl, fs_sh, fs_cg 361 0 (r := exP2 G g) (fun k _ hk => p2 k (by omega))]
      omega
theorem gs_none {G' : Nat → Int32} {g : Nat} : ((if igB G' 0 0 0 g then 0 else 1 + mgK G' g) < 381) ↔ ¬ mgD G' g = 2000000001 := by
  unfold mgD
  by_cases z : igB G' 0 0 0 g = true
  · rw [if_pos z, if_pos z]
    exact ⟨fun _ => by decide, fun _ => by decide⟩
  · rw [if_neg z, if_neg z]
    by_cases y : mgK G' g < 380
    · rw [if_pos y]
      exact ⟨fun _ => by unfold gDg; split <;> decide, fun _ => by omega⟩
    · rw [if_neg y]
      exact ⟨fun w => by omega, fun w => absurd rfl w⟩
theorem gs_vals {G G' : Nat → Int32} {g : Nat} (hg : g ≤ 8) (h : ∀ i, i < g → G' i = G i) (hk : gsK G g < 381) : gsD (gsK G g) = mgD G' g ∧ gsU (gsK G g) = mgU G' g ∧ gsV (gsK G g) = mgV G' g := by
  rw [gs_key hg h] at hk ⊢
  unfold gsD gsU gsV mgD mgU mgV
  by_cases z : igB G' 0 0 0 g = true
  · simp only [if_pos z]
    exact ⟨rfl, rfl, rfl⟩
  · simp only [if_neg z] at hk ⊢
    have hm : mgK G' g < 380 := by omega
    generalize mgK G' g = q at hk hm
    rw [if_pos hm]
    unfold gDg gU gV
    by_cases y : q < 19
    · refine ⟨?_, ?_, ?_⟩
      · rw [if_neg (show ¬ 1 + q = 0 by omega), if_pos (show 1 + q < 20 by omega), if_pos y]; rfl
      · rw [if_neg (show ¬ 1 + q = 0 by omega), if_pos (show 1 + q < 20 by omega), if_pos y, show 1 + q - 1 = q by omega]
      · rw [if_pos (show 1 + q < 20 by omega), if_pos y]
    · have e1 : nI q - 19 = nI (q - 19) := nI_sub (b := 19) (by omega)
      have e2 : 1 + q - 20 = q - 19 := by omega
      refine ⟨?_, ?_, ?_⟩
      · rw [if_neg (show ¬ 1 + q = 0 by omega), if_neg (show ¬ 1 + q < 20 by omega), if_neg y]; rfl
      · rw [if_neg (show ¬ 1 + q = 0 by omega), if_neg (show ¬ 1 + q < 20 by omega), if_neg y, e1, e2, show (19 : Int32) = nI 19 from rfl, nI_div (by omega) (by decide)]
      · rw [if_neg (show ¬ 1 + q < 20 by omega), if_neg y, e1, e2, show (19 : Int32) = nI 19 from rfl, nI_rem (by omega) (by decide)]
theorem guess_eq {G G' : Nat → Int32} {g : Nat} {k : Int32} (hg : g ≤ 8) (h : ∀ i, i < g → G' i = G i) : (if gsK G g < 381 then (if k = 0 then gsD (gsK G g) else if k = 1 then gsU (gsK G g) else gsV (gsK G g)) else 2000000001) = gtV G' g k := by
  have hn := gs_none (G' := G') (g := g)
  rw [← gs_key hg h] at hn
  unfold gtV
  by_cases z : gsK G g < 381
  · obtain ⟨e1, e2, e3⟩ := gs_vals hg h z
    have := hn.mp z
    rw [if_pos z, e1, e2, e3]
    by_cases k0 : k = 0
    · rw [if_pos k0, if_pos (Or.inr k0)]
    · have hno : ¬ (mgD G' g = 2000000001 ∨ k = 0) := fun w => w.elim this k0
      rw [if_neg k0, if_neg hno]
  · have : mgD G' g = 2000000001 := Classical.byContradiction (fun y => z (hn.mpr y))
    rw [if_neg z, if_pos (Or.inl this), this]
theorem found_eq {G G' : Nat → Int32} {g : Nat} (hg : g ≤ 8) (h : ∀ i, i < g → G' i = G i) (hk : gsK G g < 381) : fdE G g = mgF G' g ∧ fdF G g = mgS G' g := by
  obtain ⟨e1, e2, e3⟩ := gs_vals hg h hk
  have k1 : ¬ gsK G g = 0 → 1 ≤ g := fun z => by
    rcases Nat.eq_zero_or_pos g with y | y
    · exfalso; apply z
      unfold gsK
      rw [if_pos (fun k hk => absurd hk (by omega))]
    · exact y
  have k2 : 20 ≤ gsK G g → 2 ≤ g := fun z => by
    rcases Nat.lt_or_ge g 2 with y | y
    · exfalso
      have hz : fs (exP1 G g) 19 0 = 0 := fs_is (by omega) (by omega) (Or.inr (decide_eq_true (fun k hk hk1 => absurd hk (by omega)))) (fun k _ hk => absurd hk (by omega))
      unfold gsK at z
      rw [hz] at z
      split at z
      · omega
      · rw [if_pos (by decide)] at z; omega
    · exact y
  unfold fdE fdF mgS mgF
  rw [← e1, ← e2]
  by_cases z : gsK G g = 0
  · have d0 : gsD (gsK G g) = 0 := by rw [z]; rfl
    rw [if_pos z, if_pos z, if_pos d0, d0, if_neg (by decide)]
    exact ⟨rfl, by grind⟩
  · have hg1 := k1 z
    have g0 : gAt G g 0 = G' 0 := by rw [h 0 hg1]; exact gAt_lt (k := 0) hg hg1
    have d0 : ¬ gsD (gsK G g) = 0 := by unfold gsD; rw [if_neg z]; split <;> decide
    rw [if_neg z, if_neg z, if_neg d0, g0]
    refine ⟨rfl, ?_⟩
    by_cases y : gsK G g < 20
    · rw [if_pos y, if_neg (by unfold gsD; rw [if_neg z, if_pos y]; decide)]
    · have hg2 := k2 (by omega)
      rw [if_neg y, if_pos (by unfold gsD; rw [if_neg z, if_neg y])]
      rw [h 1 hg2]
      exact gAt_lt (k := 1) hg hg2
/-! the digest -/
theorem hsF_cg {h : Int64} {V V' : Nat → Int32} : ∀ n, (∀ j, j < n → V j = V' j) → hsF h V n = hsF h V' n
  | 0, _ => rfl
  | n + 1, e => by rw [hsF, hsF, hsF_cg n (fun j hj => e j (by omega)), e n (by omega)]
theorem rwQ_eq {K N K' N' : Nat → Int32} {n q j : Nat} (hn : n ≤ 8) (h : LR K N K' N' n) (hq : q < n) (hj : j < 5) : rwQ K N (nI n) q j = rwM K' N' q j := by
  have := row_eq (k := nI j) hn h hq ⟨nI_pos' (by omega), nI_le (b := 4) (by omega) (by decide)⟩
  unfold rwQ rwM
  by_cases z : j = 0
  · rw [if_pos z, if_pos z, ldK hn hq, (h q hq).1]
  · have nz : ¬ nI j = 0 := fun y => z ((nI0 (by omega)).mp y)
    rw [if_neg nz, if_neg nz, nI_clamp (by omega), show 4 * q + j - 1 = 4 * q + (j - 1) by omega] at this
    rw [if_neg z, if_neg z]
    exact this
theorem dgR_eq {K N K' N' : Nat → Int32} {n q : Nat} {h : Int64} (hn : n ≤ 8) (hL : LR K N K' N' n) (hwf : ldWf K N (nI n)) (hq : q < n) : dgR K N (nI n) h q = dgRm K' N' (nI n) h q := by
  have E := hL.eq hn
  unfold dgR dgRm
  rw [hsF_cg 5 (fun j hj => rwQ_eq hn hL hq hj), hsF_cg 8 (V' := fun j => vAt (TT K' N' (nI n)) (nI q) (nI j)) (fun j hj => (TT_eq E hwf (by omega)).symm), ← RZ_eq E hwf (show q < 8 by omega), ← RZ_eq E hwf (show q < 8 by omega), nsF_eq (fun x => (TT_eq E hwf (show q < 8 by omega)).symm)]
theorem dgA_eq {K N K' N' : Nat → Int32} {n : Nat} {h : Int64} (hn : n ≤ 8) (hL : LR K N K' N' n) (hwf : ldWf K N (nI n)) : ∀ q, q ≤ n → dgA K N (nI n) h q = dgAm K' N' (nI n) h q
  | 0, _ => rfl
  | q + 1, hq => by rw [dgA, dgAm, dgA_eq hn hL hwf q (by omega), dgR_eq hn hL hwf (by omega)]
theorem cnt_eq {σ τ : Nat → Nat → Int32} {n : Nat} {k : Int32} (hn : n ≤ 8) (h1 : σ 1 2 = nI n) (hwe : ldWe (σ 2) (σ 3) (nI n)) (hL : LR (σ 2) (σ 3) (τ 1) (τ 2) n) (h0 : τ 0 0 = nI n) (h4 : τ 0 4 = σ 4 1) (h6 : τ 0 6 = σ 6 1) (h3 : τ 0 3 = σ 0 12) : cntV σ n k = hmV τ n k := by
  unfold cntV hmV
  rw [h1, tc_eq hn hL n (Nat.le_refl n), dc_eq hn hwe hL n (Nat.le_refl n), h0, h4, h6, h3]
theorem dgW_eq {σ τ : Nat → Nat → Int32} {n g p : Nat} (hn : n ≤ 8) (hg : g ≤ 8) (h1 : σ 1 2 = nI n) (hwf : ldWf (σ 2) (σ 3) (nI n)) (hwe : ldWe (σ 2) (σ 3) (nI n)) (hL : LR (σ 2) (σ 3) (τ 1) (τ 2) n) (h0 : τ 0 0 = nI n) (h4 : τ 0 4 = σ 4 1) (h6 : τ 0 6 = σ 6 1) (h3 : τ 0 3 = σ 0 12) (hG : ∀ i, i < g → τ 3 i = σ 5 i) (hPg : ∀ i, i < p → τ 4 i = σ 7 i) : dgW σ n g p = dgWm τ n g p := by
  unfold dgW dgWm
  rw [h1, dgA_eq hn hL hwf n (Nat.le_refl n), hsF_cg g (fun j hj => (hG j hj).symm), hsF_cg p (fun j hj => (hPg j hj).symm), hsF_cg 6 (fun j _ => cnt_eq hn h1 hwe hL h0 h4 h6 h3)]
  congr 2
  refine hsF_cg 3 (fun j hj => ?_)
  have := guess_eq (k := nI j) hg hG
  unfold gsV3
  rw [← this]
  by_cases z : gsK (σ 5) g < 381
  · rw [if_pos z, if_pos z]
    have e0 : nI j = 0 ↔ j = 0 := nI0 (by omega)
    have e1 : nI j = 1 ↔ j = 1 := ⟨fun y => nI_inj (b := 1) (by omega) (by decide) y, fun y => by rw [y]; rfl⟩
    by_cases y0 : j = 0
    · rw [if_pos y0, if_pos (e0.mpr y0)]
    · rw [if_neg y0, if_neg (fun w => y0 (e0.mp w))]
      by_cases y1 : j = 1
      · rw [if_pos y1, if_pos (e1.mpr y1)]
      · rw [if_neg y1, if_neg (fun w => y1 (e1.mp w))]
  · rw [if_neg z, if_neg z]
