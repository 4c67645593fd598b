/-! the invariant between the class and the reference -/
theorem rzRow_same {K N K' N' : Nat → Int32} {sz sz' : Int32} {A : Nat → Nat → Int32} {t q k : Nat} (h1 : ldKind K' sz' (nI q) = ldKind K sz (nI q)) (h2 : ∀ p, ldNum N' sz' (nI q) p = ldNum N sz (nI q) p) : rzRow K' N' sz' A t q k = rzRow K N sz A t q k := by
  unfold rzRow
  simp only [h1, h2]
theorem tmRow_same {K N K' N' : Nat → Int32} {sz sz' : Int32} {V : Nat → Int32} {q k : Nat} (h1 : ldKind K' sz' (nI q) = ldKind K sz (nI q)) (h2 : ∀ p, ldNum N' sz' (nI q) p = ldNum N sz (nI q) p) : tmRow K' N' sz' V q k = tmRow K N sz V q k := by
  unfold tmRow
  simp only [h1, h2]
theorem rzS2 {K N : Nat → Int32} {sz sz' : Int32} {t m : Nat} (hm : m ≤ 8) (h : ∀ q, q < m → ldKind K sz' (nI q) = ldKind K sz (nI q) ∧ ∀ p, ldNum N sz' (nI q) p = ldNum N sz (nI q) p) (hwf : ldWf K N sz) : ∀ f q, q < m → rzF K N sz' t f q = rzF K N sz t f q
  | 0, _, _ => rfl
  | f + 1, q, hq => by
    funext k
    show rzRow K N sz' (rzF K N sz' t f) t q k = rzRow K N sz (rzF K N sz t f) t q k
    rw [rzRow_same (h q hq).1 (h q hq).2]
    exact rzRow_cong hwf (by omega) (fun x hx => rzS2 hm h hwf f x (by omega))
theorem tvS2 {K N : Nat → Int32} {sz sz' : Int32} {m : Nat} (hm : m ≤ 8) (h : ∀ q, q < m → ldKind K sz' (nI q) = ldKind K sz (nI q) ∧ ∀ p, ldNum N sz' (nI q) p = ldNum N sz (nI q) p) (hwf : ldWf K N sz) : ∀ f q k, q < m → k ≤ 200 → tvF K N sz' f (201 * q + k) = tvF K N sz f (201 * q + k)
  | 0, _, _, _, _ => rfl
  | f + 1, q, k, hq, hk => by
    show tmRow K N sz' (tvF K N sz' f) ((201 * q + k) / 201) ((201 * q + k) % 201) = tmRow K N sz (tvF K N sz f) ((201 * q + k) / 201) ((201 * q + k) % 201)
    rw [show (201 * q + k) / 201 = q by omega, show (201 * q + k) % 201 = k by omega, tmRow_same (h q hq).1 (h q hq).2]
    exact tmRow_cong hwf (by omega) (fun a ha j hj => tvS2 hm h hwf f a j (by omega) hj)
theorem ldNum_sm {N N' : Nat → Int32} {n n' q : Nat} (hn : n ≤ 8) (hn' : n' ≤ 8) (hq : q < n) (hq' : q < n') (h : ∀ j, j < 4 → N' (4 * q + j) = N (4 * q + j)) (p : Int32) : ldNum N' (nI n') (nI q) p = ldNum N (nI n) (nI q) p := by
  by_cases z : 0 ≤ p ∧ p < 4
  · have e := tNC z.1
    have hj := tNC_lt (n := 4) z.1 z.2 (by decide)
    generalize p.toNatClampNeg = j at e hj
    subst e
    rw [ldN hn' hq' hj, ldN hn hq hj, h j hj]
  · unfold ldNum
    rw [if_neg (fun w => z w.2), if_neg (fun w => z w.2)]
theorem vAll.lt {K N : Nat → Int32} {n m : Nat} (h : vAll K N n) (hm : m ≤ n) : vAll K N m := fun q hq => h q (by omega)
theorem LR.lt {K N K' N' : Nat → Int32} {n m : Nat} (h : LR K N K' N' n) (hm : m ≤ n) : LR K N K' N' m := fun q hq => h q (by omega)
theorem LR.wf {K N K' N' : Nat → Int32} {n : Nat} (hn : n ≤ 8) (h : LR K N K' N' n) (hv : vAll K N n) : ldWf K' N' (nI n) ∧ ldWe K' N' (nI n) := by
  have E := h.eq hn
  have hwf := hv.wf hn
  have hwe := hv.we hn
  refine ⟨fun q hq hk => ?_, fun q hq hk => ?_, fun q hq hk => ?_⟩
  · obtain ⟨n0, n1, n2, n3⟩ := E.n hq
    rw [(E q hq).1] at hk ⊢
    obtain ⟨a1, a2⟩ := hwf q hq hk
    rw [n0 (nums_0 _)]
    refine ⟨a1, fun h3 h4 => ?_⟩
    rw [n1 (by unfold nums; grind)]
    exact a2 h3 h4
  · obtain ⟨n0, n1, n2, n3⟩ := E.n hq
    rw [(E q hq).1] at hk
    obtain ⟨a, s, b1, b2, b3, b4, b5⟩ := hwe.1 q hq hk
    exact ⟨a, s, b1, b2, b3, by rw [n1 (by rw [hk]; decide)]; exact b4, by rw [n2 (by rw [hk]; decide)]; exact b5⟩
  · obtain ⟨n0, n1, n2, n3⟩ := E.n hq
    rw [(E q hq).1] at hk
    rw [n0 (nums_0 _), n1 (by rw [hk]; decide)]
    exact hwe.2 q hq hk
def KP (σ τ : Nat → Nat → Int32) (r : Nat) : Prop :=
  (σ 0 11 = 0 ∧ (τ 0 26 = 2000000001 ∨ ∃ a, a < r ∧ τ 0 26 = nI a)) ∨
  (σ 0 11 = 1 ∧ τ 0 26 = nI r ∧ ∃ n1 g1, 1 ≤ n1 ∧ n1 ≤ 8 ∧ σ 168 2 = nI n1 ∧ τ 0 27 = nI n1 ∧ vAll (σ 169) (σ 170) n1 ∧ LR (σ 169) (σ 170) (τ 15) (τ 16) n1 ∧ g1 ≤ 8 ∧ σ 171 1 = nI g1 ∧ τ 0 28 = nI g1 ∧ ∀ i, i < g1 → τ 17 i = σ 172 i)
def GV (σ τ : Nat → Nat → Int32) (g : Nat) : Prop := g ≤ 8 ∧ σ 4 1 = nI g ∧ τ 0 4 = nI g ∧ ∀ i, i < g → τ 3 i = σ 5 i
def PG (σ τ : Nat → Nat → Int32) (p : Nat) : Prop := p ≤ 47 ∧ σ 6 1 = nI p ∧ τ 0 6 = nI p ∧ ∀ i, i < p → τ 4 i = σ 7 i ∧ 32 ≤ σ 7 i ∧ σ 7 i ≤ 126
def LDG (σ τ : Nat → Nat → Int32) (n : Nat) : Prop := xK σ n ∧ mKK τ n ∧ vAll (σ 2) (σ 3) n ∧ LR (σ 2) (σ 3) (τ 1) (τ 2) n
def RDS (σ τ : Nat → Nat → Int32) (r : Nat) : Prop := σ 0 12 = nI r ∧ τ 0 3 = nI r
def INV (σ τ : Nat → Nat → Int32) (N : Nat) : Prop := ∃ n g p r, LDG σ τ n ∧ GV σ τ g ∧ PG σ τ p ∧ r ≤ N ∧ RDS σ τ r ∧ KP σ τ r
/-- what an answer leaves of the reference -/
def mSw (σ τ : Nat → Nat → Int32) : Prop := (∀ c, c = 1 ∨ c = 3 ∨ c = 4 ∨ c = 15 ∨ c = 16 ∨ c = 17 → τ c = σ c) ∧ (∀ i, i < 32 → τ 2 i = σ 2 i) ∧ ∀ k, k = 0 ∨ k = 3 ∨ k = 4 ∨ k = 6 ∨ k = 26 ∨ k = 27 ∨ k = 28 → τ 0 k = σ 0 k
theorem mSm.sw {σ τ : Nat → Nat → Int32} (h : mSm σ τ) : mSw σ τ := ⟨fun c hc => h.1 c (by omega), fun i _ => by rw [h.c2], h.2⟩
theorem mDr.sw {σ τ : Nat → Nat → Int32} (h : mDr σ τ) : mSw σ τ := ⟨fun c hc => h.1 c (by omega) (by omega) (by omega) (by omega) (by omega), h.2.1, fun k _ => by rw [h.1 0 (by decide) (by decide) (by decide) (by decide) (by decide)]⟩
theorem KP.same {σ τ σ' τ' : Nat → Nat → Int32} {r : Nat} (h : KP σ τ r) (e11 : σ' 0 11 = σ 0 11) (ek : ∀ c, c = 168 ∨ c = 169 ∨ c = 170 ∨ c = 171 ∨ c = 172 → σ' c = σ c) (f : ∀ k, k = 26 ∨ k = 27 ∨ k = 28 → τ' 0 k = τ 0 k) (fc : ∀ c, c = 15 ∨ c = 16 ∨ c = 17 → τ' c = τ c) : KP σ' τ' r := by
  unfold KP
  rw [e11, ek 168 (by decide), ek 169 (by decide), ek 170 (by decide), ek 171 (by decide), ek 172 (by decide), f 26 (by decide), f 27 (by decide), f 28 (by decide), fc 15 (by decide), fc 16 (by decide), fc 17 (by decide)]
  exact h
theorem GV.same {σ τ σ' τ' : Nat → Nat → Int32} {g : Nat} (h : GV σ τ g) (e4 : σ' 4 = σ 4) (e5 : σ' 5 = σ 5) (f4 : τ' 0 4 = τ 0 4) (f3 : τ' 3 = τ 3) : GV σ' τ' g := by
  unfold GV
  rw [e4, e5, f4, f3]; exact h
theorem PG.same {σ τ σ' τ' : Nat → Nat → Int32} {p : Nat} (h : PG σ τ p) (e6 : σ' 6 = σ 6) (e7 : σ' 7 = σ 7) (f6 : τ' 0 6 = τ 0 6) (f4 : τ' 4 = τ 4) : PG σ' τ' p := by
  unfold PG
  rw [e6, e7, f6, f4]; exact h
theorem LR_32 {K N K' N' N'' : Nat → Int32} {n : Nat} (hn : n ≤ 8) (h : LR K N K' N' n) (e : ∀ i, i < 32 → N'' i = N' i) : LR K N K' N'' n := fun q hq => ⟨(h q hq).1, (h q hq).2.1, fun j hj => by rw [e _ (by omega)]; exact (h q hq).2.2 j hj⟩
theorem INVq {σ τ σ' τ' : Nat → Nat → Int32} {N n g p r : Nat} (hL : LDG σ τ n) (hG : GV σ τ g) (hP : PG σ τ p) (hr : r ≤ N) (hR : RDS σ τ r) (hK : KP σ τ r) (xs : xSame σ σ') (xk : xK σ' n) (ms : mSw τ τ') (mk : mKK τ' n) : INV σ' τ' (N + 1) := by
  obtain ⟨l1, l2, l3, l4⟩ := hL
  refine ⟨n, g, p, r, ⟨xk, mk, ?_, ?_⟩, hG.same (xs.1 4 (by decide)) (xs.1 5 (by decide)) (ms.2.2 4 (by decide)) (ms.1 3 (by decide)), hP.same (xs.1 6 (by decide)) (xs.1 7 (by decide)) (ms.2.2 6 (by decide)) (ms.1 4 (by decide)), by omega, ⟨?_, ?_⟩, hK.same ?_ (fun c hc => xs.2 c (by omega)) (fun k hk => ms.2.2 k (by omega)) (fun c hc => ms.1 c (by omega))⟩
  · rw [xs.1 2 (by decide), xs.1 3 (by decide)]; exact l3
  · rw [xs.1 2 (by decide), xs.1 3 (by decide), ms.1 1 (by decide)]
    exact LR_32 l1.1 l4 ms.2.1
  · rw [xs.1 0 (by decide)]; exact hR.1
  · rw [ms.2.2 3 (by decide)]; exact hR.2
  · rw [xs.1 0 (by decide)]
theorem xK_k2 {σ σ' : Nat → Nat → Int32} {n : Nat} (h : ∀ c, c = 1 ∨ c = 2 ∨ c = 3 ∨ (13 ≤ c ∧ c < 162) → σ' c = σ c) (hK : xK σ n) : xK σ' n := by
  obtain ⟨h1, h2, h3, h4, h5, h6⟩ := hK
  have e1 := h 1 (by decide)
  have e2 := h 2 (by decide)
  have e3 := h 3 (by decide)
  have e13 := h 13 (by decide)
  have e14 := h 14 (by decide)
  have e17 := h 17 (by decide)
  refine ⟨h1, by rw [e1]; exact h2, by rw [e1, e2, e3]; exact h3, by rw [e1, e2, e3]; exact h4, ?_, fun t ht => ?_⟩
  · obtain ⟨m, a1, a2, a3⟩ := h5
    exact ⟨m, a1, by rw [e13]; exact a2, by rw [e1, e2, e3, e14]; exact a3⟩
  · obtain ⟨m, a1, a2, a3⟩ := h6 t ht
    refine ⟨m, a1, by rw [e17]; exact a2, fun q hq k hk => ?_⟩
    have ez : ∀ x, x < 8 → cyZ σ' t x = cyZ σ t x := fun x hx => h _ (by unfold cyI; omega)
    rw [e1, e2, e3, ez q (by omega), a3 q hq k hk]
    exact cyRow_cong h3 (by omega) (fun x hx => (ez x (by omega)).symm)
theorem xK_new {σ σ' : Nat → Nat → Int32} {n n' r : Nat} (hK : xK σ n) (hn' : n' ≤ 8) (h1 : σ' 1 2 = nI n') (hv : vAll (σ' 2) (σ' 3) n') (hr : r ≤ n) (hr' : r ≤ n') (hsame : ∀ q, q < r → σ' 2 q = σ 2 q ∧ ∀ j, j < 4 → σ' 3 (4 * q + j) = σ 3 (4 * q + j)) (h14 : σ' 14 = σ 14) (hcy : ∀ c, 18 ≤ c → c < 162 → σ' c = σ c) (h13 : ∀ m, m ≤ n → σ 13 1 = nI m → ∃ m', m' ≤ m ∧ m' ≤ r ∧ σ' 13 1 = nI m') (h17 : ∀ t, t < 9 → ∀ m, m ≤ n → σ 17 t = nI m → ∃ m', m' ≤ m ∧ m' ≤ r ∧ σ' 17 t = nI m') : xK σ' n' := by
  obtain ⟨k1, k2, k3, k4, k5, k6⟩ := hK
  have hk : ∀ q, q < r → ldKind (σ' 2) (nI n') (nI q) = ldKind (σ 2) (nI n) (nI q) := fun q hq => by rw [ldK hn' (by omega), ldK k1 (by omega), (hsame q hq).1]
  have hnm : ∀ q, q < r → ∀ p, ldNum (σ' 3) (nI n') (nI q) p = ldNum (σ 3) (nI n) (nI q) p := fun q hq p => ldNum_sm k1 hn' (by omega) (by omega) (hsame q hq).2 p
  refine ⟨hn', h1, by rw [h1]; exact hv.wf hn', by rw [h1]; exact hv.we hn', ?_, fun t ht => ?_⟩
  · obtain ⟨m, a1, a2, a3⟩ := k5
    obtain ⟨m', b1, b2, b3⟩ := h13 m a1 a2
    refine ⟨m', by omega, b3, fun q hq k hk2 => ?_⟩
    rw [h14, h1, a3 q (by omega) k hk2, k2, tmRow_same (hk q (by omega)) (hnm q (by omega))]
  · obtain ⟨m, a1, a2, a3⟩ := k6 t ht
    obtain ⟨m', b1, b2, b3⟩ := h17 t ht m a1 a2
    refine ⟨m', by omega, b3, fun q hq k hk2 => ?_⟩
    have ez : ∀ x, x < 8 → cyZ σ' t x = cyZ σ t x := fun x hx => hcy _ (by unfold cyI; omega) (by unfold cyI; omega)
    rw [ez q (by omega), a3 q (by omega) k hk2, h1, k2, cyRow_rz, cyRow_rz, rzRow_same (hk q (by omega)) (hnm q (by omega))]
    rw [k2] at k3
    exact rzRow_cong k3 (by omega) (fun x hx => by show cyN (cyZ σ t x) (rnd t) = cyN (cyZ σ' t x) (rnd t); rw [ez x (by omega)])
theorem mnN {ρ m : Nat} (h1 : ρ ≤ 8) (h2 : m ≤ 8) : (if nI ρ < nI m then nI ρ else nI m) = nI (min ρ m) := by
  rcases Nat.lt_or_ge ρ m with y | y
  · rw [if_pos (nI_lt y (by omega)), Nat.min_eq_left (by omega)]
  · rw [if_neg (fun z => absurd ((nI_lt_iff (by omega) (by omega)).mp z) (by omega)), Nat.min_eq_right y]
theorem xChg_ne {σ : Nat → Nat → Int32} {r : Int32} {c : Nat} (h1 : c ≠ 13) (h2 : c ≠ 17) : xChg σ r c = σ c := by
  unfold xChg
  rw [putC_ne h2, put_ne h1]
theorem xChg_13 {σ : Nat → Nat → Int32} {ρ m : Nat} (h1 : ρ ≤ 8) (h2 : m ≤ 8) (e : σ 13 1 = nI m) : xChg σ (nI ρ) 13 1 = nI (min ρ m) := by
  unfold xChg
  rw [putC_ne (by decide), put_ix, if_pos rfl, e]
  exact mnN h1 h2
theorem xChg_17 {σ : Nat → Nat → Int32} {ρ m t : Nat} (h1 : ρ ≤ 8) (h2 : m ≤ 8) (ht : t < 9) (e : σ 17 t = nI m) : xChg σ (nI ρ) 17 t = nI (min ρ m) := by
  unfold xChg
  rw [putC_eq]
  have := ru_in (V := σ 17) (F := mnI (σ 17) (nI ρ)) (s := 0) (j := 9) ht
  rw [Nat.zero_add] at this
  rw [this]
  unfold mnI
  rw [e]
  exact mnN h1 h2
/-- a change from row ρ on -/
theorem xK_chg {σ ς : Nat → Nat → Int32} {n n' ρ : Nat} (hK : xK σ n) (hρ : ρ ≤ n) (hρ' : ρ ≤ n') (hn' : n' ≤ 8) (h1 : ς 1 2 = nI n') (hv : vAll (ς 2) (ς 3) n') (hsame : ∀ q, q < ρ → ς 2 q = σ 2 q ∧ ∀ j, j < 4 → ς 3 (4 * q + j) = σ 3 (4 * q + j)) (hc : ∀ c, 13 ≤ c → c < 162 → ς c = σ c) : xK (xChg ς (nI ρ)) n' := by
  have h8 := hK.1
  have e : ∀ c, c ≠ 13 → c ≠ 17 → xChg ς (nI ρ) c = ς c := fun c a b => xChg_ne a b
  refine xK_new (r := ρ) hK hn' (by rw [e 1 (by decide) (by decide)]; exact h1) (by rw [e 2 (by decide) (by decide), e 3 (by decide) (by decide)]; exact hv) hρ hρ' (by rw [e 2 (by decide) (by decide), e 3 (by decide) (by decide)]; exact hsame) (by rw [e 14 (by decide) (by decide)]; exact hc 14 (by decide) (by decide)) (fun c a b => by rw [e c (by omega) (by omega)]; exact hc c (by omega) b) (fun m hm em => ⟨min ρ m, Nat.min_le_right _ _, Nat.min_le_left _ _, xChg_13 (by omega) (by omega) (by rw [hc 13 (by decide) (by decide)]; exact em)⟩) (fun t ht m hm em => ⟨min ρ m, Nat.min_le_right _ _, Nat.min_le_left _ _, xChg_17 (by omega) (by omega) ht (by rw [hc 17 (by decide) (by decide)]; exact em)⟩)
theorem mKK_new {τ : Nat → Nat → Int32} {K N : Nat → Int32} {n : Nat} (hn : n ≤ 8) (h0 : τ 0 0 = nI n) (h13 : τ 0 13 = 0) (h14 : τ 0 14 = 0) (hL : LR K N (τ 1) (τ 2) n) (hv : vAll K N n) : mKK τ n :=
  ⟨⟨hn, h0, (hL.wf hn hv).1, (hL.wf hn hv).2, Or.inl h13⟩, Or.inl h14⟩
theorem mKK_drop {τ : Nat → Nat → Int32} {K N : Nat → Int32} {n : Nat} (H : mKK τ n) (h1 : 1 ≤ n) (hL : LR K N (τ 1) (τ 2) n) (hv : vAll K N n) : mKK (put τ 0 0 (nI (n - 1))) (n - 1) := by
  obtain ⟨⟨a1, a2, a3, a4, a5⟩, H2⟩ := H
  have w := (hL.lt (show n - 1 ≤ n by omega)).wf (by omega) (hv.lt (show n - 1 ≤ n by omega))
  have e : ∀ c, c ≠ 0 → put τ 0 0 (nI (n - 1)) c = τ c := fun c hc => put_ne hc
  have e0 : ∀ k, k ≠ 0 → put τ 0 0 (nI (n - 1)) 0 k = τ 0 k := fun k hk => by rw [put_ix, if_neg hk]
  have hs : ∀ q, q < n - 1 → ldKind (τ 1) (nI (n - 1)) (nI q) = ldKind (τ 1) (nI n) (nI q) ∧ ∀ p, ldNum (τ 2) (nI (n - 1)) (nI q) p = ldNum (τ 2) (nI n) (nI q) p := fun q hq => ⟨by rw [ldK (by omega) hq, ldK a1 (by omega)], fun p => ldNum_sm a1 (by omega) (by omega) hq (fun _ _ => rfl) p⟩
  refine ⟨⟨by omega, by rw [put_ix, if_pos rfl], by rw [e 1 (by decide), e 2 (by decide)]; exact w.1, by rw [e 1 (by decide), e 2 (by decide)]; exact w.2, ?_⟩, ?_⟩
  · rw [e0 13 (by decide), e 1 (by decide), e 2 (by decide), e 7 (by decide)]
    rcases a5 with y | ⟨y, z⟩
    · exact Or.inl y
    · refine Or.inr ⟨y, fun i hi => ?_⟩
      rw [z i (by omega)]
      have := tvS2 (by omega) hs a3 8 (i / 201) (i % 201) (by omega) (by omega)
      rw [show 201 * (i / 201) + i % 201 = i by omega] at this
      exact this.symm
  · unfold mKr
    rw [e0 14 (by decide)]
    rcases H2 with y | ⟨T, hT, hb, hR⟩
    · exact Or.inl y
    · refine Or.inr ⟨T, hT, hb, fun x hx => ?_⟩
      obtain ⟨ld, tn, ⟨g1, g2, g3, g4, g5, g6⟩, g7, g8, g9⟩ := hR x (by omega)
      have er : RZ (τ 1) (τ 2) (nI (n - 1)) T x = RZ (τ 1) (τ 2) (nI n) T x := rzS2 (by omega) hs a3 8 x hx
      refine ⟨ld, tn, ?_⟩
      unfold mRZ mRq
      rw [e 1 (by decide), e 2 (by decide), e 8 (by decide), e 9 (by decide), e 10 (by decide), er]
      exact ⟨⟨g1, g2, g3, g4, g5, g6⟩, g7, g8, g9⟩
