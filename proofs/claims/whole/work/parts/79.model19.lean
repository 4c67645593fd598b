section
variable {l : Launch} {σ : Nat → Nat → Int32} {t : Nat → Int64} {n T q k : Nat}
theorem mSr_RZ {σ τ : Nat → Nat → Int32} (h : mSr σ τ) : RZ (τ 1) (τ 2) (nI n) T q = RZ (σ 1) (σ 2) (nI n) T q := by
  rw [h.1 1 (by decide) (by decide) (by decide) (by decide) (by decide), h.1 2 (by decide) (by decide) (by decide) (by decide) (by decide)]
set_option maxRecDepth 100000 in
set_option maxHeartbeats 4000000 in
theorem CX11_byNow (hT : T < 9) (H : mKt σ n) (hK : mKr σ n) (hq : q < n) (hk : k < 2147483648) : Ct l mX11_byNow [.ref 0, .int (nI q), .int (nI k), .int (nI (2 + T))] (mW σ t) (fun r w' => ∃ σ', w' = mW σ' t ∧ mSr σ σ' ∧ σ' 0 14 = nI (2 + T) ∧ mRd0 σ' n T n ∧ r = some (.int ((RZ (σ 1) (σ 2) (nI n) T q) k))) := by
  refine Ct.of rfl (Nat.le_of_ble_eq_true rfl) ?_
  refine g_aload_n dX11_byNow_0 rfl rfl ?_
  refine g_iload_n dX11_byNow_1 rfl rfl ?_
  refine g_V1p (CX11_layRests hT H.1 H.2.1 H.2.2.1 H.2.2.2.1 hK) kX11_byNow_204 dX11_byNow_2 mW_0 rfl ⟨rfl, rfl⟩ (Nat.le_of_ble_eq_true rfl) ⟨(Nat.le_of_ble_eq_true rfl), (Nat.le_of_ble_eq_true rfl)⟩ ?_
  rintro rv w1 ⟨rfl, τ, rfl, hS, hb, hR⟩
  obtain ⟨ld, tn, HZ⟩ := hR q hq
  refine g_aload_n dX11_byNow_5 rfl rfl ?_
  refine g_iload_n dX11_byNow_6 rfl rfl ?_
  refine g_iload_n dX11_byNow_7 rfl rfl ?_
  refine g_i2l dX11_byNow_8 ?_
  rw [nI_64 (k := k) (by omega)]
  refine g_V2r (CX11_restAt HZ.1 hk) kX11_byNow_162 dX11_byNow_9 mW_0 rfl ⟨rfl, rfl⟩ (Nat.le_of_ble_eq_true rfl) ⟨(Nat.le_of_ble_eq_true rfl), (Nat.le_of_ble_eq_true rfl)⟩ ?_
  exact g_iret dX11_byNow_12 rfl rfl ⟨τ, rfl, hS, hb, hR, by rw [mRZ_v HZ, mSr_RZ hS]⟩
set_option maxRecDepth 100000 in
set_option maxHeartbeats 4000000 in
theorem CX11_by (hT : T < 9) (H : mKt σ n) (hK : mKr σ n) (hq : q < n) (hk : k < 2147483648) : Ct l mX11_by [.ref 0, .int (nI q), .int (nI k), .int (nI (2 + T))] (mW σ t) (fun r w' => ∃ σ', w' = mW σ' t ∧ mSr σ σ' ∧ σ' 0 14 = nI (2 + T) ∧ mRd0 σ' n T n ∧ r = some (.int ((RZ (σ 1) (σ 2) (nI n) T q) k))) := by
  refine Ct.of rfl (Nat.le_of_ble_eq_true rfl) ?_
  have hn := H.1
  have h0 := H.2.1
  refine g_aload_n dX11_by_0 rfl rfl ?_
  refine g_iload_n dX11_by_1 rfl rfl ?_
  refine g_V1r (CX11_isRow h0) kX11_by_193 dX11_by_2 mW_0 rfl ⟨rfl, rfl⟩ (Nat.le_of_ble_eq_true rfl) ⟨(Nat.le_of_ble_eq_true rfl), (Nat.le_of_ble_eq_true rfl)⟩ ?_
  rw [mIsT hn hq]
  refine g_if_ne (tgt := 11) dX11_by_5 rfl (fun c_5 => ?_) (fun c_5 => by exfalso; revert c_5; decide)
  refine g_iload_n dX11_by_11 rfl rfl ?_
  refine g_if_lt (tgt := 35) dX11_by_12 rfl (fun c_12 => by exact absurd c_12 (nI_pos (by omega))) (fun c_12 => ?_)
  refine g_iload_n dX11_by_15 rfl rfl ?_
  refine g_iconst (v := 2) dX11_by_16 (by decide) ?_
  refine g_bipush (v := 10) dX11_by_17 (by decide) ?_
  refine g_S3r CX11_within kX11_by_68 dX11_by_19 ⟨rfl, rfl⟩ (Nat.le_of_ble_eq_true rfl) ⟨(Nat.le_of_ble_eq_true rfl), (Nat.le_of_ble_eq_true rfl)⟩ ?_
  refine g_if_eq (tgt := 35) dX11_by_22 rfl (fun c_22 => by exact absurd ⟨nI_le (a := 2) (by omega) (by omega), nI_le (b := 10) (by omega) (by decide)⟩ (bI_0.mp c_22)) (fun c_22 => ?_)
  refine g_aload_n dX11_by_25 rfl rfl ?_
  refine g_iload_n dX11_by_26 rfl rfl ?_
  refine g_iload_n dX11_by_27 rfl rfl ?_
  refine g_iload_n dX11_by_28 rfl rfl ?_
  refine g_V3p (CX11_byNow hT H hK hq hk) kX11_by_207 dX11_by_29 mW_0 rfl ⟨rfl, rfl⟩ (Nat.le_of_ble_eq_true rfl) ⟨(Nat.le_of_ble_eq_true rfl), (Nat.le_of_ble_eq_true rfl)⟩ ?_
  rintro rv w1 ⟨τ, rfl, hS, hb, hR, rfl⟩
  refine g_goto (tgt := 37) dX11_by_32 rfl ?_
  exact g_iret dX11_by_37 rfl rfl ⟨τ, rfl, hS, hb, hR, rfl⟩
end
