/-! ledgers that agree on the places that their kinds ask for -/
theorem ldNum_32 {N N' : Nat → Int32} (h : ∀ i, i < 32 → N' i = N i) : ldNum N' = ldNum N := by
  funext sz r p
  unfold ldNum
  by_cases e : ldH sz r ∧ 0 ≤ p ∧ p < 4
  · rw [if_pos e, if_pos e]
    obtain ⟨⟨h1, h2, h3⟩, h4, h5⟩ := e
    exact h _ (tNC_lt (n := 32) (by grind) (by show r * 4 + p < 32; grind) (by decide))
  · rw [if_neg e, if_neg e]
def ldEq (K N K' N' : Nat → Int32) (sz : Int32) : Prop := ∀ q, q < 8 → ldKind K' sz (nI q) = ldKind K sz (nI q) ∧ ∀ p, p < 4 → nI p < nums (ldKind K sz (nI q)) → ldNum N' sz (nI q) (nI p) = ldNum N sz (nI q) (nI p)
theorem ldEq.n {K N K' N' : Nat → Int32} {sz : Int32} {q : Nat} (E : ldEq K N K' N' sz) (hq : q < 8) : ((0 : Int32) < nums (ldKind K sz (nI q)) → ldNum N' sz (nI q) 0 = ldNum N sz (nI q) 0) ∧ ((1 : Int32) < nums (ldKind K sz (nI q)) → ldNum N' sz (nI q) 1 = ldNum N sz (nI q) 1) ∧ ((2 : Int32) < nums (ldKind K sz (nI q)) → ldNum N' sz (nI q) 2 = ldNum N sz (nI q) 2) ∧ ((3 : Int32) < nums (ldKind K sz (nI q)) → ldNum N' sz (nI q) 3 = ldNum N sz (nI q) 3) :=
  ⟨(E q hq).2 0 (by decide), (E q hq).2 1 (by decide), (E q hq).2 2 (by decide), (E q hq).2 3 (by decide)⟩
theorem nums_0 (k : Int32) : 0 < nums k := by unfold nums; grind
theorem rzRow_eq {K N K' N' : Nat → Int32} {sz : Int32} {A A' : Nat → Nat → Int32} {t q k : Nat} (E : ldEq K N K' N' sz) (hwf : ldWf K N sz) (hq : q < 8) (hA : ∀ a, a < q → A' a = A a) : rzRow K' N' sz A' t q k = rzRow K N sz A t q k := by
  obtain ⟨n0, n1, n2, n3⟩ := E.n hq
  have e1 := (E q hq).1
  have n0 := n0 (nums_0 _)
  unfold rzRow
  rw [e1]
  by_cases h0 : ldKind K sz (nI q) = 0
  · rw [if_pos h0, if_pos h0, n0, n1 (by rw [h0]; decide), n2 (by rw [h0]; decide), n3 (by rw [h0]; decide)]
  · obtain ⟨⟨a, ha, ea⟩, hb⟩ := hwf q hq h0
    rw [if_neg h0, if_neg h0]
    have eA : A' (ldNum N' sz (nI q) 0).toNatClampNeg = A (ldNum N sz (nI q) 0).toNatClampNeg := by
      rw [n0, ea, nI_clamp (by omega), hA a ha]
    by_cases h1 : ldKind K sz (nI q) = 1
    · rw [if_pos h1, if_pos h1]
      obtain ⟨b, hb, eb⟩ := hb (by rw [h1]; decide) (by rw [h1]; decide)
      have eB : A' (ldNum N' sz (nI q) 1).toNatClampNeg = A (ldNum N sz (nI q) 1).toNatClampNeg := by
        rw [n1 (by rw [h1]; decide), eb, nI_clamp (by omega), hA b hb]
      rw [eA, eB]
    · rw [if_neg h1, if_neg h1]
      by_cases h2 : ldKind K sz (nI q) = 2
      · rw [if_pos h2, if_pos h2]
        obtain ⟨b, hb, eb⟩ := hb (by rw [h2]; decide) (by rw [h2]; decide)
        have eB : A' (ldNum N' sz (nI q) 1).toNatClampNeg = A (ldNum N sz (nI q) 1).toNatClampNeg := by
          rw [n1 (by rw [h2]; decide), eb, nI_clamp (by omega), hA b hb]
        rw [eA, eB]
      · rw [if_neg h2, if_neg h2]
        by_cases h3 : ldKind K sz (nI q) = 3
        · rw [if_pos h3, if_pos h3, eA, n1 (by rw [h3]; decide), n2 (by rw [h3]; decide)]
        · rw [if_neg h3, if_neg h3, eA]
theorem rzF_eq {K N K' N' : Nat → Int32} {sz : Int32} {t : Nat} (E : ldEq K N K' N' sz) (hwf : ldWf K N sz) : ∀ f q, q < 8 → rzF K' N' sz t f q = rzF K N sz t f q
  | 0, _, _ => rfl
  | f + 1, q, hq => by
    funext k
    exact rzRow_eq E hwf hq (fun a ha => rzF_eq E hwf f a (by omega))
theorem RZ_eq {K N K' N' : Nat → Int32} {sz : Int32} {t q : Nat} (E : ldEq K N K' N' sz) (hwf : ldWf K N sz) (hq : q < 8) : RZ K' N' sz t q = RZ K N sz t q := rzF_eq E hwf 8 q hq
theorem tmRow_eq {K N K' N' : Nat → Int32} {sz : Int32} {V : Nat → Int32} {q k : Nat} (E : ldEq K N K' N' sz) (hq : q < 8) : tmRow K' N' sz V q k = tmRow K N sz V q k := by
  obtain ⟨n0, n1, n2, n3⟩ := E.n hq
  have e1 := (E q hq).1
  have n0 := n0 (nums_0 _)
  unfold tmRow
  rw [e1]
  by_cases h0 : ldKind K sz (nI q) = 0
  · rw [if_pos h0, if_pos h0, n0, n1 (by rw [h0]; decide), n2 (by rw [h0]; decide), n3 (by rw [h0]; decide)]
  · rw [if_neg h0, if_neg h0]
    unfold mAt
    by_cases h3 : ldKind K sz (nI q) = 3
    · rw [if_pos h3, if_pos h3, n0, n1 (by rw [h3]; decide), n2 (by rw [h3]; decide)]
    · rw [if_neg h3, if_neg h3]
      by_cases h4 : ldKind K sz (nI q) = 4
      · rw [if_pos h4, if_pos h4, n0]
      · rw [if_neg h4, if_neg h4, n0, n1 (by unfold nums; grind)]
theorem tvF_eq {K N K' N' : Nat → Int32} {sz : Int32} (E : ldEq K N K' N' sz) (hwf : ldWf K N sz) : ∀ f q k, q < 8 → k ≤ 200 → tvF K' N' sz f (201 * q + k) = tvF K N sz f (201 * q + k)
  | 0, _, _, _, _ => rfl
  | f + 1, q, k, hq, hk => by
    show tmRow K' N' sz (tvF K' N' sz f) ((201 * q + k) / 201) ((201 * q + k) % 201) = tmRow K N sz (tvF K N sz f) ((201 * q + k) / 201) ((201 * q + k) % 201)
    rw [show (201 * q + k) / 201 = q by omega, show (201 * q + k) % 201 = k by omega, tmRow_eq E hq]
    exact tmRow_cong hwf hq (fun a ha j hj => tvF_eq E hwf f a j (by omega) hj)
theorem TT_eq {K N K' N' : Nat → Int32} {sz : Int32} {q : Nat} {x : Int32} (E : ldEq K N K' N' sz) (hwf : ldWf K N sz) (hq : q < 8) : vAt (TT K' N' sz) (nI q) x = vAt (TT K N sz) (nI q) x :=
  vAt_cong hq (fun k hk => tvF_eq E hwf 8 q k hq hk)
theorem nsF_eq {V V' : Nat → Int32} {r : Int32} (h : ∀ x, vAt V' r x = vAt V r x) : ∀ j, nsF V' r j = nsF V r j
  | 0 => rfl
  | j + 1 => by unfold nsF; rw [h, nsF_eq h j]
theorem ldEq_32 {K N N' : Nat → Int32} {sz : Int32} (h : ∀ i, i < 32 → N' i = N i) : ldEq K N K N' sz := fun q hq => ⟨rfl, fun p _ _ => by rw [ldNum_32 h]⟩
theorem ldWf_32 {K N N' : Nat → Int32} {sz : Int32} (h : ∀ i, i < 32 → N' i = N i) (H : ldWf K N sz) : ldWf K N' sz := by
  unfold ldWf
  rw [ldNum_32 h]
  exact H
theorem ldWe_32 {K N N' : Nat → Int32} {sz : Int32} (h : ∀ i, i < 32 → N' i = N i) (H : ldWe K N sz) : ldWe K N' sz := by
  unfold ldWe
  rw [ldNum_32 h]
  exact H
/-- what drawn rows may touch -/
def mDr (σ τ : Nat → Nat → Int32) : Prop := (∀ c, c ≠ 2 → c ≠ 8 → c ≠ 9 → c ≠ 10 → c ≠ 11 → τ c = σ c) ∧ (∀ i, i < 32 → τ 2 i = σ 2 i) ∧ (∀ x, x < 8 → τ 8 x = σ 8 x ∧ τ 9 x = σ 9 x) ∧ ∀ i, i < 4096 → τ 10 i = σ 10 i
theorem mDr.rf {σ : Nat → Nat → Int32} : mDr σ σ := ⟨fun _ _ _ _ _ _ => rfl, fun _ _ => rfl, fun _ _ => ⟨rfl, rfl⟩, fun _ _ => rfl⟩
theorem mDr.tr {σ σ1 σ2 : Nat → Nat → Int32} (h : mDr σ σ1) (g : mDr σ1 σ2) : mDr σ σ2 :=
  ⟨fun c a b d e f => (g.1 c a b d e f).trans (h.1 c a b d e f), fun i hi => (g.2.1 i hi).trans (h.2.1 i hi), fun x hx => ⟨(g.2.2.1 x hx).1.trans (h.2.2.1 x hx).1, (g.2.2.1 x hx).2.trans (h.2.2.1 x hx).2⟩, fun i hi => (g.2.2.2 i hi).trans (h.2.2.2 i hi)⟩
theorem mDr.KK {σ τ : Nat → Nat → Int32} {n : Nat} (h : mDr σ τ) (H : mKK σ n) : mKK τ n := by
  obtain ⟨⟨a1, a2, a3, a4, a5⟩, H2⟩ := H
  have e0 := h.1 0 (by decide) (by decide) (by decide) (by decide) (by decide)
  have e1 := h.1 1 (by decide) (by decide) (by decide) (by decide) (by decide)
  have e7 := h.1 7 (by decide) (by decide) (by decide) (by decide) (by decide)
  refine ⟨⟨a1, by rw [e0]; exact a2, by rw [e1]; exact ldWf_32 h.2.1 a3, by rw [e1]; exact ldWe_32 h.2.1 a4, ?_⟩, ?_⟩
  · rw [e0, e1, e7]
    rcases a5 with y | ⟨y, z⟩
    · exact Or.inl y
    · refine Or.inr ⟨y, fun i hi => ?_⟩
      rw [z i hi]
      have := tvF_eq (ldEq_32 (K := σ 1) (sz := nI n) h.2.1) a3 8 (i / 201) (i % 201) (by omega) (by omega)
      rw [show 201 * (i / 201) + i % 201 = i by omega] at this
      exact this.symm
  · unfold mKr
    rw [e0]
    rcases H2 with y | ⟨T, hT, hb, hR⟩
    · exact Or.inl y
    · refine Or.inr ⟨T, hT, hb, fun x hx => ?_⟩
      obtain ⟨ld, tn, ⟨g1, g2, g3, g4, g5, g6⟩, g7, g8, g9⟩ := hR x hx
      rw [e1, RZ_eq (ldEq_32 h.2.1) a3 (by omega)]
      refine ⟨ld, tn, ⟨g1, by rw [(h.2.2.1 x (by omega)).1]; exact g2, by rw [(h.2.2.1 x (by omega)).2]; exact g3, g4, g5, g6⟩, g7, fun k hk => ?_, g9⟩
      rw [h.2.2.2 _ (by omega)]
      exact g8 k hk
