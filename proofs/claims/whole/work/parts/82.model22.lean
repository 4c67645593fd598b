theorem fs_or {p : Nat → Bool} : ∀ d j, fs p d j = j + d ∨ p (fs p d j) = true
  | 0, j => Or.inl rfl
  | d + 1, j => by
    rw [fs]
    by_cases h : p j = true
    · rw [if_pos h]; exact Or.inr h
    · rw [if_neg h]
      rcases fs_or (p := p) d (j + 1) with e | e
      · exact Or.inl (by omega)
      · exact Or.inr e
theorem mLp_ok {A : Nat → Int32} {ld tn : Nat} (h1 : 1 ≤ tn) (hp : ∀ k, ld ≤ k → A (k + tn) = A k) : caB A ld (mLp A ld tn) tn = true ∧ 1 ≤ mLp A ld tn ∧ mLp A ld tn ≤ tn := by
  have hle := fs_le (fun j => caB A ld (j + 1) tn) (tn - 1) 0
  refine ⟨?_, by unfold mLp; omega, by unfold mLp; omega⟩
  rcases fs_or (p := fun j => caB A ld (j + 1) tn) (tn - 1) 0 with e | e
  · rw [mLp, e, show 1 + (0 + (tn - 1)) = tn by omega]
    exact (caB_all tn).mpr (fun k hk => (hp (ld + k) (by omega)).symm)
  · rw [mLp, Nat.add_comm 1]; exact e
def mHd (A : Nat → Int32) (ld tn : Nat) : Nat := fs (fun f => caB A f (mLp A ld tn) (ld + tn - f)) ld 0
section
variable {l : Launch} {σ : Nat → Nat → Int32} {t : Nat → Int64} {n T q ld tn : Nat} {A : Nat → Int32}
set_option maxRecDepth 100000 in
set_option maxHeartbeats 4000000 in
theorem CX11_hdL {n0 : Nat} (HQ : mRq σ q ld tn) (hv : rsV σ q ld tn = A) (hp : ∀ k, ld ≤ k → A (k + tn) = A k) : ∀ (d j : Nat), j + d = ld → Go l mX11_headOf n0 (q_eq (some (.int (nI (fs (fun f => caB A f (mLp A ld tn) (ld + tn - f)) d j)))) (mW σ t)) (0, 0) 8 [some (.ref 0), some (.int (nI q)), some (.int (nI (mLp A ld tn))), some (.int (nI j))] [] (mW σ t) := by
  intro d
  induction d with
  | zero =>
    intro j hj
    obtain ⟨hq, hl, ht, h1, h6, h3⟩ := id HQ
    have hO := mLp_ok h1 hp
    refine g_aload_n dX11_headOf_8 rfl rfl ?_
    refine g_iload_n dX11_headOf_9 rfl rfl ?_
    refine g_iload_n dX11_headOf_10 rfl rfl ?_
    refine g_iload_n dX11_headOf_11 rfl rfl ?_
    refine g_V3r (CX11_comesAgain HQ hv (fr := j) (b := mLp A ld tn) (by omega) (by omega)) kX11_headOf_184 dX11_headOf_12 mW_0 rfl ⟨rfl, rfl⟩ (Nat.le_of_ble_eq_true rfl) ⟨(Nat.le_of_ble_eq_true rfl), (Nat.le_of_ble_eq_true rfl)⟩ ?_
    refine g_if_ne (tgt := 24) dX11_headOf_15 rfl (fun c_15 => ?_) (fun c_15 => by exact absurd (by rw [show j = ld by omega, show ld + tn - ld = tn by omega]; exact hO.1) (bB_f c_15))
    refine g_iload_n dX11_headOf_24 rfl rfl ?_
    exact g_iret dX11_headOf_25 rfl rfl ⟨rfl, rfl⟩
  | succ d ih =>
    intro j hj
    obtain ⟨hq, hl, ht, h1, h6, h3⟩ := id HQ
    have hO := mLp_ok h1 hp
    refine g_aload_n dX11_headOf_8 rfl rfl ?_
    refine g_iload_n dX11_headOf_9 rfl rfl ?_
    refine g_iload_n dX11_headOf_10 rfl rfl ?_
    refine g_iload_n dX11_headOf_11 rfl rfl ?_
    refine g_V3r (CX11_comesAgain HQ hv (fr := j) (b := mLp A ld tn) (by omega) (by omega)) kX11_headOf_184 dX11_headOf_12 mW_0 rfl ⟨rfl, rfl⟩ (Nat.le_of_ble_eq_true rfl) ⟨(Nat.le_of_ble_eq_true rfl), (Nat.le_of_ble_eq_true rfl)⟩ ?_
    refine g_if_ne (tgt := 24) dX11_headOf_15 rfl (fun c_15 => ?_) (fun c_15 => ?_)
    · refine g_iload_n dX11_headOf_24 rfl rfl ?_
      exact g_iret dX11_headOf_25 rfl rfl ⟨by rw [fs, if_pos (bB_t c_15)], rfl⟩
    · refine g_iinc (v := 1) dX11_headOf_18 (by decide) rfl (Nat.le_of_ble_eq_true rfl) rfl ?_
      refine g_goto (tgt := 8) dX11_headOf_21 rfl ?_
      refine Go.mono (Q' := (q_eq (some (.int (nI (fs (fun f => caB A f (mLp A ld tn) (ld + tn - f)) d (j + 1))))) (mW σ t))) (fun r w2 h => by rw [fs, if_neg (bB_f c_15)]; exact h) ?_
      exact Go.eq rfl (show _ = _ by rw [← nI_1 j]; rfl) rfl rfl (ih (j + 1) (by omega))
set_option maxRecDepth 100000 in
set_option maxHeartbeats 4000000 in
theorem CX11_headOf (HQ : mRq σ q ld tn) (hv : rsV σ q ld tn = A) (hp : ∀ k, ld ≤ k → A (k + tn) = A k) : Ct l mX11_headOf [.ref 0, .int (nI q)] (mW σ t) (q_eq (some (.int (nI (mHd A ld tn)))) (mW σ t)) := by
  refine Ct.of rfl (Nat.le_of_ble_eq_true rfl) ?_
  refine g_aload_n dX11_headOf_0 rfl rfl ?_
  refine g_iload_n dX11_headOf_1 rfl rfl ?_
  refine g_V1r (CX11_lapOf HQ hv hp) kX11_headOf_187 dX11_headOf_2 mW_0 rfl ⟨rfl, rfl⟩ (Nat.le_of_ble_eq_true rfl) ⟨(Nat.le_of_ble_eq_true rfl), (Nat.le_of_ble_eq_true rfl)⟩ ?_
  refine g_istore_n dX11_headOf_5 rfl (Nat.le_of_ble_eq_true rfl) rfl ?_
  refine g_iconst (v := 0) dX11_headOf_6 (by decide) ?_
  refine g_istore_n dX11_headOf_7 rfl (Nat.le_of_ble_eq_true rfl) rfl ?_
  exact Go.eq rfl rfl rfl rfl (CX11_hdL HQ hv hp ld 0 (by omega))
end
