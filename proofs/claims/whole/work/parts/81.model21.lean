theorem caB_all {A : Nat → Int32} {fr b : Nat} : ∀ i, caB A fr b i = true ↔ ∀ k, k < i → A (fr + k) = A (fr + k + b)
  | 0 => ⟨fun _ k hk => absurd hk (by omega), fun _ => rfl⟩
  | i + 1 => by
    rw [caB, Bool.and_eq_true, caB_all i, decide_eq_true_iff]
    constructor
    · rintro ⟨h1, h2⟩ k hk
      rcases Nat.lt_or_ge k i with y | y
      · exact h1 k y
      · rw [show k = i by omega]; exact h2
    · exact fun h => ⟨fun k hk => h k (by omega), h i (by omega)⟩
/-- the reference's lap -/
def mLp (A : Nat → Int32) (ld tn : Nat) : Nat := 1 + fs (fun j => caB A ld (j + 1) tn) (tn - 1) 0
section
variable {l : Launch} {σ : Nat → Nat → Int32} {t : Nat → Int64} {n T q ld tn : Nat} {A : Nat → Int32}
set_option maxRecDepth 100000 in
set_option maxHeartbeats 4000000 in
theorem CX11_lpL {n0 : Nat} (HQ : mRq σ q ld tn) (hv : rsV σ q ld tn = A) (hp : ∀ k, ld ≤ k → A (k + tn) = A k) : ∀ (d j : Nat), j + d = tn - 1 → Go l mX11_lapOf n0 (q_eq (some (.int (nI (1 + fs (fun j => caB A ld (j + 1) tn) d j)))) (mW σ t)) (0, 0) 2 [some (.ref 0), some (.int (nI q)), some (.int (nI (1 + j)))] [] (mW σ t) := by
  intro d
  induction d with
  | zero =>
    intro j hj
    obtain ⟨hq, hl, ht, h1, h6, h3⟩ := id HQ
    refine g_aload_n dX11_lapOf_2 rfl rfl ?_
    refine g_iload_n dX11_lapOf_3 rfl rfl ?_
    refine g_aload_n dX11_lapOf_4 rfl rfl ?_
    refine g_getf dX11_lapOf_5 fX11_32 mW_0 rfl ?_
    refine g_iload_n dX11_lapOf_8 rfl rfl ?_
    refine g_iald dX11_lapOf_9 mA8 (vin_n (by omega) (by decide)) ?_
    rw [nI_clamp (by omega), hl]
    refine g_iload_n dX11_lapOf_10 rfl rfl ?_
    refine g_V3r (CX11_comesAgain HQ hv (fr := ld) (b := 1 + j) (by omega) (by omega)) kX11_lapOf_184 dX11_lapOf_11 mW_0 rfl ⟨rfl, rfl⟩ (Nat.le_of_ble_eq_true rfl) ⟨(Nat.le_of_ble_eq_true rfl), (Nat.le_of_ble_eq_true rfl)⟩ ?_
    rw [show ld + tn - ld = tn by omega]
    refine g_if_ne (tgt := 23) dX11_lapOf_14 rfl (fun c_14 => ?_) (fun c_14 => by exact absurd ((caB_all tn).mpr (fun k hk => by rw [show 1 + j = tn by omega]; exact (hp (ld + k) (by omega)).symm)) (bB_f c_14))
    refine g_iload_n dX11_lapOf_23 rfl rfl ?_
    exact g_iret dX11_lapOf_24 rfl rfl ⟨rfl, rfl⟩
  | succ d ih =>
    intro j hj
    obtain ⟨hq, hl, ht, h1, h6, h3⟩ := id HQ
    refine g_aload_n dX11_lapOf_2 rfl rfl ?_
    refine g_iload_n dX11_lapOf_3 rfl rfl ?_
    refine g_aload_n dX11_lapOf_4 rfl rfl ?_
    refine g_getf dX11_lapOf_5 fX11_32 mW_0 rfl ?_
    refine g_iload_n dX11_lapOf_8 rfl rfl ?_
    refine g_iald dX11_lapOf_9 mA8 (vin_n (by omega) (by decide)) ?_
    rw [nI_clamp (by omega), hl]
    refine g_iload_n dX11_lapOf_10 rfl rfl ?_
    refine g_V3r (CX11_comesAgain HQ hv (fr := ld) (b := 1 + j) (by omega) (by omega)) kX11_lapOf_184 dX11_lapOf_11 mW_0 rfl ⟨rfl, rfl⟩ (Nat.le_of_ble_eq_true rfl) ⟨(Nat.le_of_ble_eq_true rfl), (Nat.le_of_ble_eq_true rfl)⟩ ?_
    rw [show ld + tn - ld = tn by omega]
    refine g_if_ne (tgt := 23) dX11_lapOf_14 rfl (fun c_14 => ?_) (fun c_14 => ?_)
    · refine g_iload_n dX11_lapOf_23 rfl rfl ?_
      exact g_iret dX11_lapOf_24 rfl rfl ⟨by rw [fs, if_pos (by rw [Nat.add_comm j 1]; exact bB_t c_14)], rfl⟩
    · refine g_iinc (v := 1) dX11_lapOf_17 (by decide) rfl (Nat.le_of_ble_eq_true rfl) rfl ?_
      refine g_goto (tgt := 2) dX11_lapOf_20 rfl ?_
      refine Go.mono (Q' := (q_eq (some (.int (nI (1 + fs (fun j => caB A ld (j + 1) tn) d (j + 1))))) (mW σ t))) (fun r w2 h => by rw [fs, if_neg (by rw [Nat.add_comm j 1]; exact bB_f c_14)]; exact h) ?_
      exact Go.eq rfl (show _ = _ by rw [← Nat.add_assoc 1 j 1, ← nI_1 (1 + j)]; rfl) rfl rfl (ih (j + 1) (by omega))
set_option maxRecDepth 100000 in
set_option maxHeartbeats 4000000 in
theorem CX11_lapOf (HQ : mRq σ q ld tn) (hv : rsV σ q ld tn = A) (hp : ∀ k, ld ≤ k → A (k + tn) = A k) : Ct l mX11_lapOf [.ref 0, .int (nI q)] (mW σ t) (q_eq (some (.int (nI (mLp A ld tn)))) (mW σ t)) := by
  refine Ct.of rfl (Nat.le_of_ble_eq_true rfl) ?_
  refine g_iconst (v := 1) dX11_lapOf_0 (by decide) ?_
  refine g_istore_n dX11_lapOf_1 rfl (Nat.le_of_ble_eq_true rfl) rfl ?_
  exact Go.eq rfl rfl rfl rfl (CX11_lpL HQ hv hp (tn - 1) 0 (by omega))
end
