/-- only the terms may have been laid -/
def mSt (σ σ' : Nat → Nat → Int32) : Prop := (∀ c, c ≠ 0 → c ≠ 7 → σ' c = σ c) ∧ ∀ k, k ≠ 13 → σ' 0 k = σ 0 k
theorem mSt.rf {σ : Nat → Nat → Int32} : mSt σ σ := ⟨fun _ _ _ => rfl, fun _ _ => rfl⟩
theorem mSt.tr {σ σ1 σ2 : Nat → Nat → Int32} (h : mSt σ σ1) (h2 : mSt σ1 σ2) : mSt σ σ2 := ⟨fun c a b => (h2.1 c a b).trans (h.1 c a b), fun k a => (h2.2 k a).trans (h.2 k a)⟩
theorem mLt_S {σ : Nat → Nat → Int32} {n : Nat} (H : mKt σ n) : mSt σ (mLt σ n) := ⟨(mLt_K H).2.2.1, (mLt_K H).2.2.2⟩
abbrev easC (σ : Nat → Nat → Int32) (q o b m : Nat) : Int32 := if σ 1 q = 2 then σ 2 (4 * o) * σ 2 (4 * b) else if σ 1 q = 3 then rl2M (σ 2 (4 * o)) (σ 2 (4 * o + 1)) m 1 else σ 2 (4 * o)
abbrev easB (σ : Nat → Nat → Int32) (o b : Nat) : Nat := if mIP σ o then o else b
abbrev easD (σ : Nat → Nat → Int32) (q o b m : Nat) : Int32 := if σ 1 q = 2 then σ 2 (4 * easB σ o b) * σ 2 (4 * easB σ o b) * σ 2 (4 * (o + b - easB σ o b) + 1) else if σ 1 q = 3 then rl2M (σ 2 (4 * o)) (σ 2 (4 * o + 1)) m 2 else σ 2 (4 * o + 1)
section
variable {l : Launch} {σ : Nat → Nat → Int32} {t : Nat → Int64} {n q o b m : Nat}
set_option maxRecDepth 100000 in
set_option maxHeartbeats 4000000 in
theorem CX11_noL {n0 : Nat} (hq : q < n) : ∀ (d j : Nat) (τ : Nat → Nat → Int32), j + d = 24 → mKt τ n → mSt σ τ → Go l mX11_noughtsOf n0 (fun r w' => ∃ σ', w' = mW σ' t ∧ mKt σ' n ∧ mSt σ σ' ∧ r = some (.int (nsF (TT (σ 1) (σ 2) (nI n)) (nI q) 24))) (0, 0) 4 [some (.ref 0), some (.int (nI q)), some (.int (nsF (TT (σ 1) (σ 2) (nI n)) (nI q) j)), some (.int (nI j))] [] (mW τ t) := by
  intro d
  induction d with
  | zero =>
    intro j τ hj hK hS
    have e1 : 24 = j := by omega
    subst e1
    refine g_iload_n dX11_noughtsOf_4 rfl rfl ?_
    refine g_bipush (v := 24) dX11_noughtsOf_5 (by decide) ?_
    refine g_icmp_ge (tgt := 35) dX11_noughtsOf_7 rfl (fun c_7 => ?_) (fun c_7 => by exfalso; revert c_7; decide)
    refine g_iload_n dX11_noughtsOf_35 rfl rfl ?_
    exact g_iret dX11_noughtsOf_36 rfl rfl ⟨τ, rfl, hK, hS, rfl⟩
  | succ d ih =>
    intro j τ hj hK hS
    refine g_iload_n dX11_noughtsOf_4 rfl rfl ?_
    refine g_bipush (v := 24) dX11_noughtsOf_5 (by decide) ?_
    refine g_icmp_ge (tgt := 35) dX11_noughtsOf_7 rfl (fun c_7 => by exact absurd c_7 (nI_ge (b := 24) (by omega) (by decide))) (fun c_7 => ?_)
    refine g_iload_n dX11_noughtsOf_10 rfl rfl ?_
    refine g_aload_n dX11_noughtsOf_11 rfl rfl ?_
    refine g_iload_n dX11_noughtsOf_12 rfl rfl ?_
    refine g_iload_n dX11_noughtsOf_13 rfl rfl ?_
    refine g_V2r (CX11_termOf hK hq (k := j) (by omega)) kX11_noughtsOf_201 dX11_noughtsOf_14 mW_0 rfl ⟨rfl, rfl⟩ (Nat.le_of_ble_eq_true rfl) ⟨(Nat.le_of_ble_eq_true rfl), (Nat.le_of_ble_eq_true rfl)⟩ ?_
    rw [hS.1 1 (by decide) (by decide), hS.1 2 (by decide) (by decide)]
    refine g_if_ne (tgt := 26) dX11_noughtsOf_17 rfl (fun c_17 => ?_) (fun c_17 => ?_)
    · refine g_iconst (v := 0) dX11_noughtsOf_26 (by decide) ?_
      refine g_ior dX11_noughtsOf_27 ?_
      refine g_istore_n dX11_noughtsOf_28 rfl (Nat.le_of_ble_eq_true rfl) rfl ?_
      refine g_iinc (v := 1) dX11_noughtsOf_29 (by decide) rfl (Nat.le_of_ble_eq_true rfl) rfl ?_
      refine g_goto (tgt := 4) dX11_noughtsOf_32 rfl ?_
      exact Go.eq rfl (show _ = _ by first | (rw [← nI_1 j, nsF, if_pos c_17]; rfl) | (rw [← nI_1 j, nsF, if_neg c_17, Int32.or_zero]; rfl) | (rw [← nI_1 j, nsF, if_neg c_17]; simp; rfl)) rfl rfl (ih (j + 1) _ (by omega) (mLt_K hK).1 (hS.tr (mLt_S hK)))
    · refine g_iconst (v := 1) dX11_noughtsOf_20 (by decide) ?_
      refine g_iload_n dX11_noughtsOf_21 rfl rfl ?_
      refine g_ishl dX11_noughtsOf_22 ?_
      refine g_goto (tgt := 27) dX11_noughtsOf_23 rfl ?_
      refine g_ior dX11_noughtsOf_27 ?_
      refine g_istore_n dX11_noughtsOf_28 rfl (Nat.le_of_ble_eq_true rfl) rfl ?_
      refine g_iinc (v := 1) dX11_noughtsOf_29 (by decide) rfl (Nat.le_of_ble_eq_true rfl) rfl ?_
      refine g_goto (tgt := 4) dX11_noughtsOf_32 rfl ?_
      exact Go.eq rfl (show _ = _ by first | (rw [← nI_1 j, nsF, if_pos c_17]; rfl) | (rw [← nI_1 j, nsF, if_neg c_17, Int32.or_zero]; rfl) | (rw [← nI_1 j, nsF, if_neg c_17]; simp; rfl)) rfl rfl (ih (j + 1) _ (by omega) (mLt_K hK).1 (hS.tr (mLt_S hK)))
set_option maxRecDepth 100000 in
set_option maxHeartbeats 4000000 in
theorem CX11_noughtsOf (H : mKt σ n) (hq : q < n) : Ct l mX11_noughtsOf [.ref 0, .int (nI q)] (mW σ t) (fun r w' => ∃ σ', w' = mW σ' t ∧ mKt σ' n ∧ mSt σ σ' ∧ r = some (.int (nsF (TT (σ 1) (σ 2) (nI n)) (nI q) 24))) := by
  refine Ct.of rfl (Nat.le_of_ble_eq_true rfl) ?_
  refine g_iconst (v := 0) dX11_noughtsOf_0 (by decide) ?_
  refine g_istore_n dX11_noughtsOf_1 rfl (Nat.le_of_ble_eq_true rfl) rfl ?_
  refine g_iconst (v := 0) dX11_noughtsOf_2 (by decide) ?_
  refine g_istore_n dX11_noughtsOf_3 rfl (Nat.le_of_ble_eq_true rfl) rfl ?_
  exact Go.eq rfl rfl rfl rfl (CX11_noL hq 24 0 σ rfl H mSt.rf)
set_option maxRecDepth 100000 in
set_option maxHeartbeats 4000000 in
theorem CX11_noughts_no {r : Int32} (hn : n ≤ 8) (h0 : σ 0 0 = nI n) (hr : ¬ ldH (nI n) r) : Ct l mX11_noughts [.ref 0, .int r] (mW σ t) (q_eq (some (.int 2000000101)) (mW σ t)) := by
  refine Ct.of rfl (Nat.le_of_ble_eq_true rfl) ?_
  refine g_aload_n dX11_noughts_0 rfl rfl ?_
  refine g_iload_n dX11_noughts_1 rfl rfl ?_
  refine g_V1r (CX11_isRow h0) kX11_noughts_193 dX11_noughts_2 mW_0 rfl ⟨rfl, rfl⟩ (Nat.le_of_ble_eq_true rfl) ⟨(Nat.le_of_ble_eq_true rfl), (Nat.le_of_ble_eq_true rfl)⟩ ?_
  rw [mIsF hn hr]
  refine g_if_eq (tgt := 16) dX11_noughts_5 rfl (fun c_5 => ?_) (fun c_5 => by exfalso; revert c_5; decide)
  refine g_ldc dX11_noughts_16 tb_1020 ?_
  exact g_iret dX11_noughts_18 rfl rfl ⟨rfl, rfl⟩
set_option maxRecDepth 100000 in
set_option maxHeartbeats 4000000 in
theorem CX11_noughts (H : mKt σ n) (hq : q < n) : Ct l mX11_noughts [.ref 0, .int (nI q)] (mW σ t) (fun r w' => ∃ σ', w' = mW σ' t ∧ mKt σ' n ∧ mSt σ σ' ∧ r = some (.int (nsF (TT (σ 1) (σ 2) (nI n)) (nI q) 24))) := by
  refine Ct.of rfl (Nat.le_of_ble_eq_true rfl) ?_
  have hn := H.1
  have h0 := H.2.1
  refine g_aload_n dX11_noughts_0 rfl rfl ?_
  refine g_iload_n dX11_noughts_1 rfl rfl ?_
  refine g_V1r (CX11_isRow h0) kX11_noughts_193 dX11_noughts_2 mW_0 rfl ⟨rfl, rfl⟩ (Nat.le_of_ble_eq_true rfl) ⟨(Nat.le_of_ble_eq_true rfl), (Nat.le_of_ble_eq_true rfl)⟩ ?_
  rw [mIsT hn hq]
  refine g_if_eq (tgt := 16) dX11_noughts_5 rfl (fun c_5 => by exfalso; revert c_5; decide) (fun c_5 => ?_)
  refine g_aload_n dX11_noughts_8 rfl rfl ?_
  refine g_iload_n dX11_noughts_9 rfl rfl ?_
  refine g_V1p (CX11_noughtsOf H hq) kX11_noughts_278 dX11_noughts_10 mW_0 rfl ⟨rfl, rfl⟩ (Nat.le_of_ble_eq_true rfl) ⟨(Nat.le_of_ble_eq_true rfl), (Nat.le_of_ble_eq_true rfl)⟩ ?_
  rintro rv w1 ⟨τ, rfl, hK, hS, rfl⟩
  refine g_goto (tgt := 18) dX11_noughts_13 rfl ?_
  exact g_iret dX11_noughts_18 rfl rfl ⟨τ, rfl, hK, hS, rfl⟩
end
