/-- the rows' rests modulo 2 + T lie ready -/
def mRd0 (σ : Nat → Nat → Int32) (n T j : Nat) : Prop := ∀ x, x < j → ∃ ld tn, mRZ σ (RZ (σ 1) (σ 2) (nI n) T x) T x ld tn
def mKr (σ : Nat → Nat → Int32) (n : Nat) : Prop := σ 0 14 = 0 ∨ ∃ T, T < 9 ∧ σ 0 14 = nI (2 + T) ∧ mRd0 σ n T n
/-- only the rests may have been laid -/
def mSr (σ σ' : Nat → Nat → Int32) : Prop := (∀ c, c ≠ 0 → c ≠ 8 → c ≠ 9 → c ≠ 10 → c ≠ 11 → σ' c = σ c) ∧ ∀ k, k ≠ 14 → σ' 0 k = σ 0 k
theorem mSr.rf {σ : Nat → Nat → Int32} : mSr σ σ := ⟨fun _ _ _ _ _ _ => rfl, fun _ _ => rfl⟩
theorem mSr.tr {σ σ1 σ2 : Nat → Nat → Int32} (h : mSr σ σ1) (h2 : mSr σ1 σ2) : mSr σ σ2 := ⟨fun c a b d e f => (h2.1 c a b d e f).trans (h.1 c a b d e f), fun k a => (h2.2 k a).trans (h.2 k a)⟩
theorem mRd0_up {σ σ1 : Nat → Nat → Int32} {n T q ld tn : Nat} (h : mRd0 σ n T q) (hf : ∀ c, c ≠ 8 → c ≠ 9 → c ≠ 10 → c ≠ 11 → σ1 c = σ c) (h8 : ∀ x, x ≠ q → σ1 8 x = σ 8 x ∧ σ1 9 x = σ 9 x) (h10 : ∀ i, i < 512 * q ∨ 512 * q + 512 ≤ i → σ1 10 i = σ 10 i) (hZ : mRZ σ1 (RZ (σ 1) (σ 2) (nI n) T q) T q ld tn) : mRd0 σ1 n T (q + 1) := by
  intro x hx
  rw [hf 1 (by decide) (by decide) (by decide) (by decide), hf 2 (by decide) (by decide) (by decide) (by decide)]
  rcases Nat.lt_or_ge x q with y | y
  · obtain ⟨a, b, ⟨g1, g2, g3, g4, g5, g6⟩, g7, g8, g9⟩ := h x y
    have e := h8 x (by omega)
    refine ⟨a, b, ⟨g1, by rw [e.1]; exact g2, by rw [e.2]; exact g3, g4, g5, g6⟩, g7, fun k hk => ?_, g9⟩
    rw [h10 _ (by omega)]
    exact g8 k hk
  · have e : x = q := by omega
    subst e
    exact ⟨ld, tn, hZ⟩
section
variable {l : Launch} {σ : Nat → Nat → Int32} {t : Nat → Int64} {n T : Nat}
theorem CX11_layRest {q : Nat} (hT : T < 9) (hn : n ≤ 8) (hq : q < n) (hwf : ldWf (σ 1) (σ 2) (nI n)) (hwe : ldWe (σ 1) (σ 2) (nI n)) (hP : mRd0 σ n T q) : Ct l mX11_layRest [.ref 0, .int (nI q), .int (nI (2 + T))] (mW σ t) (mtZ σ t q T (RZ (σ 1) (σ 2) (nI n) T q)) := by
  by_cases h0 : σ 1 q = 0
  · exact CX11_layRest0 hT hn hq hwf hwe h0
  · exact CX11_layRest1 hT hn hq hwf hwe h0 hP
set_option maxRecDepth 100000 in
set_option maxHeartbeats 4000000 in
theorem CX11_lrsL {n0 : Nat} (hT : T < 9) (hn : n ≤ 8) (h0 : σ 0 0 = nI n) (hwf : ldWf (σ 1) (σ 2) (nI n)) (hwe : ldWe (σ 1) (σ 2) (nI n)) : ∀ (d j : Nat) (τ : Nat → Nat → Int32), j + d = n → mSr σ τ → τ 0 14 = nI (2 + T) → mRd0 τ n T j → Go l mX11_layRests n0 (fun r w' => r = none ∧ ∃ σ', w' = mW σ' t ∧ mSr σ σ' ∧ σ' 0 14 = nI (2 + T) ∧ mRd0 σ' n T n) (0, 0) 16 [some (.ref 0), some (.int (nI (2 + T))), some (.int (nI j))] [] (mW τ t) := by
  intro d
  induction d with
  | zero =>
    intro j τ hj hS hb hR
    have e1 : n = j := by omega
    subst e1
    refine g_iload_n dX11_layRests_16 rfl rfl ?_
    refine g_aload_n dX11_layRests_17 rfl rfl ?_
    refine g_getf dX11_layRests_18 fX11_116 mW_0 rfl ?_
    rw [show τ 0 0 = nI n from (hS.2 0 (by decide)).trans h0]
    refine g_icmp_ge (tgt := 36) dX11_layRests_21 rfl (fun c_21 => ?_) (fun c_21 => by exact absurd (nI_le (by omega) (by omega)) c_21)
    exact g_vret dX11_layRests_36 rfl rfl ⟨rfl, τ, rfl, hS, hb, hR⟩
  | succ d ih =>
    intro j τ hj hS hb hR
    have wf1 : ldWf (τ 1) (τ 2) (nI n) := by rw [(hS.1 1 (by decide) (by decide) (by decide) (by decide) (by decide)), (hS.1 2 (by decide) (by decide) (by decide) (by decide) (by decide))]; exact hwf
    have we1 : ldWe (τ 1) (τ 2) (nI n) := by rw [(hS.1 1 (by decide) (by decide) (by decide) (by decide) (by decide)), (hS.1 2 (by decide) (by decide) (by decide) (by decide) (by decide))]; exact hwe
    refine g_iload_n dX11_layRests_16 rfl rfl ?_
    refine g_aload_n dX11_layRests_17 rfl rfl ?_
    refine g_getf dX11_layRests_18 fX11_116 mW_0 rfl ?_
    rw [show τ 0 0 = nI n from (hS.2 0 (by decide)).trans h0]
    refine g_icmp_ge (tgt := 36) dX11_layRests_21 rfl (fun c_21 => by exact absurd c_21 (nI_ge (by omega) (by omega))) (fun c_21 => ?_)
    refine g_aload_n dX11_layRests_24 rfl rfl ?_
    refine g_iload_n dX11_layRests_25 rfl rfl ?_
    refine g_iload_n dX11_layRests_26 rfl rfl ?_
    refine g_V2p (CX11_layRest hT hn (q := j) (by omega) wf1 we1 hR) kX11_layRests_181 dX11_layRests_27 mW_0 rfl ⟨rfl, rfl⟩ (Nat.le_of_ble_eq_true rfl) ⟨(Nat.le_of_ble_eq_true rfl), (Nat.le_of_ble_eq_true rfl)⟩ ?_
    rintro rv w1 ⟨rfl, τ1, ld, tn, rfl, g1, g2, g3, g4⟩
    refine g_iinc (v := 1) dX11_layRests_30 (by decide) rfl (Nat.le_of_ble_eq_true rfl) rfl ?_
    refine g_goto (tgt := 16) dX11_layRests_33 rfl ?_
    have gS : mSr τ τ1 := ⟨fun c a b d e f => g2 c b d e f, fun k _ => by rw [g2 0 (by decide) (by decide) (by decide) (by decide)]⟩
    exact Go.eq rfl (show _ = _ by rw [← nI_1 j]; rfl) rfl rfl (ih (j + 1) τ1 (by omega) (hS.tr gS) (by rw [g2 0 (by decide) (by decide) (by decide) (by decide)]; exact hb) (mRd0_up hR g2 g3 g4 g1))
set_option maxRecDepth 100000 in
set_option maxHeartbeats 4000000 in
theorem CX11_layRests (hT : T < 9) (hn : n ≤ 8) (h0 : σ 0 0 = nI n) (hwf : ldWf (σ 1) (σ 2) (nI n)) (hwe : ldWe (σ 1) (σ 2) (nI n)) (hK : mKr σ n) : Ct l mX11_layRests [.ref 0, .int (nI (2 + T))] (mW σ t) (fun r w' => r = none ∧ ∃ σ', w' = mW σ' t ∧ mSr σ σ' ∧ σ' 0 14 = nI (2 + T) ∧ mRd0 σ' n T n) := by
  refine Ct.of rfl (Nat.le_of_ble_eq_true rfl) ?_
  refine g_aload_n dX11_layRests_0 rfl rfl ?_
  refine g_getf dX11_layRests_1 fX11_128 mW_0 rfl ?_
  refine g_iload_n dX11_layRests_4 rfl rfl ?_
  refine g_icmp_ne (tgt := 9) dX11_layRests_5 rfl (fun c_5 => ?_) (fun c_5 => ?_)
  · refine g_aload_n dX11_layRests_9 rfl rfl ?_
    refine g_iload_n dX11_layRests_10 rfl rfl ?_
    refine g_putf dX11_layRests_11 pX11_128 mW_0 (Nat.le_of_ble_eq_true rfl) (fun _ => rfl) (fun _ => rfl) (mW_obj rfl) ?_
    refine g_iconst (v := 0) dX11_layRests_14 (by decide) ?_
    refine g_istore_n dX11_layRests_15 rfl (Nat.le_of_ble_eq_true rfl) rfl ?_
    exact Go.eq rfl rfl rfl rfl (CX11_lrsL hT hn h0 hwf hwe n 0 (put σ 0 14 (nI (2 + T))) (by omega) ⟨fun c hc _ _ _ _ => put_ne hc, fun k hk => by simp [put, upd, hk]⟩ rfl (fun x hx => absurd hx (by omega)))
  · exact g_vret dX11_layRests_8 rfl rfl (by rcases hK with h | ⟨T1, hT1, h, hR⟩; exact absurd (h.symm.trans c_5) (fun z => by have := (nI0 (n := 2 + T) (by omega)).mp z.symm; omega); have e : T1 = T := (by have := nI_inj (by omega) (by omega) (h.symm.trans c_5); omega); subst e; exact ⟨rfl, σ, rfl, mSr.rf, h, hR⟩)
end
