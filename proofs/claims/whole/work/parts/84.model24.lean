def mLpV (A : Nat → Int32) (ld tn : Nat) (x : Int32) : Int32 := if x = 0 then nI (mLp A ld tn) else if x = 1 then nI (mHd A ld tn) else mZr A ld tn
section
variable {l : Launch} {σ : Nat → Nat → Int32} {t : Nat → Int64} {n T q : Nat} {x : Int32}
set_option maxRecDepth 100000 in
set_option maxHeartbeats 4000000 in
theorem CX11_lapNow (hT : T < 9) (H : mKt σ n) (hK : mKr σ n) (hq : q < n) : Ct l mX11_lapNow [.ref 0, .int (nI q), .int (nI (2 + T)), .int x] (mW σ t) (fun r w' => ∃ σ' ld tn, w' = mW σ' t ∧ mSr σ σ' ∧ σ' 0 14 = nI (2 + T) ∧ mRd0 σ' n T n ∧ mRZ σ' (RZ (σ 1) (σ 2) (nI n) T q) T q ld tn ∧ r = some (.int (mLpV (RZ (σ 1) (σ 2) (nI n) T q) ld tn x))) := by
  refine Ct.of rfl (Nat.le_of_ble_eq_true rfl) ?_
  refine g_aload_n dX11_lapNow_0 rfl rfl ?_
  refine g_iload_n dX11_lapNow_1 rfl rfl ?_
  refine g_V1p (CX11_layRests hT H.1 H.2.1 H.2.2.1 H.2.2.2.1 hK) kX11_lapNow_204 dX11_lapNow_2 mW_0 rfl ⟨rfl, rfl⟩ (Nat.le_of_ble_eq_true rfl) ⟨(Nat.le_of_ble_eq_true rfl), (Nat.le_of_ble_eq_true rfl)⟩ ?_
  rintro rv w1 ⟨rfl, τ, rfl, hS, hb, hR⟩
  obtain ⟨ld, tn, HZ⟩ := hR q hq
  rw [mSr_RZ hS] at HZ
  refine g_iload_n dX11_lapNow_5 rfl rfl ?_
  refine g_if_ne (tgt := 17) dX11_lapNow_6 rfl (fun c_6 => ?_) (fun c_6 => ?_)
  · refine g_iload_n dX11_lapNow_17 rfl rfl ?_
    refine g_iconst (v := 1) dX11_lapNow_18 (by decide) ?_
    refine g_icmp_ne (tgt := 30) dX11_lapNow_19 rfl (fun c_19 => ?_) (fun c_19 => ?_)
    · refine g_aload_n dX11_lapNow_30 rfl rfl ?_
      refine g_iload_n dX11_lapNow_31 rfl rfl ?_
      refine g_V1r (CX11_zerosOf HZ.1 (mRZ_v HZ) HZ.2.2.2) kX11_lapNow_210 dX11_lapNow_32 mW_0 rfl ⟨rfl, rfl⟩ (Nat.le_of_ble_eq_true rfl) ⟨(Nat.le_of_ble_eq_true rfl), (Nat.le_of_ble_eq_true rfl)⟩ ?_
      exact g_iret dX11_lapNow_35 rfl rfl ⟨τ, ld, tn, rfl, hS, hb, hR, HZ, by unfold mLpV; grind⟩
    · refine g_aload_n dX11_lapNow_22 rfl rfl ?_
      refine g_iload_n dX11_lapNow_23 rfl rfl ?_
      refine g_V1r (CX11_headOf HZ.1 (mRZ_v HZ) HZ.2.2.2) kX11_lapNow_190 dX11_lapNow_24 mW_0 rfl ⟨rfl, rfl⟩ (Nat.le_of_ble_eq_true rfl) ⟨(Nat.le_of_ble_eq_true rfl), (Nat.le_of_ble_eq_true rfl)⟩ ?_
      refine g_goto (tgt := 35) dX11_lapNow_27 rfl ?_
      exact g_iret dX11_lapNow_35 rfl rfl ⟨τ, ld, tn, rfl, hS, hb, hR, HZ, by unfold mLpV; grind⟩
  · refine g_aload_n dX11_lapNow_9 rfl rfl ?_
    refine g_iload_n dX11_lapNow_10 rfl rfl ?_
    refine g_V1r (CX11_lapOf HZ.1 (mRZ_v HZ) HZ.2.2.2) kX11_lapNow_187 dX11_lapNow_11 mW_0 rfl ⟨rfl, rfl⟩ (Nat.le_of_ble_eq_true rfl) ⟨(Nat.le_of_ble_eq_true rfl), (Nat.le_of_ble_eq_true rfl)⟩ ?_
    refine g_goto (tgt := 35) dX11_lapNow_14 rfl ?_
    exact g_iret dX11_lapNow_35 rfl rfl ⟨τ, ld, tn, rfl, hS, hb, hR, HZ, by unfold mLpV; grind⟩
end
