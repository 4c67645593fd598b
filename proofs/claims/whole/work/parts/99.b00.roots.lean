set_option maxRecDepth 100000 in
set_option maxHeartbeats 4000000 in
theorem CX11_rootsN {l : Launch} {σ : Nat → Nat → Int32} {t : Nat → Int64} {n q : Nat} {k : Int32} (hq : q < n) (hn : n ≤ 8) (h0 : σ 0 0 = nI n) (zt : ¬ σ 1 q = 0) : Ct l mX11_roots [.ref 0, .int (nI q), .int k] (mW σ t) (q_eq (some (.int (if 0 ≤ k ∧ k ≤ 4 then 2000000103 else 2000000102))) (mW σ t)) := by
  refine Ct.of rfl (Nat.le_of_ble_eq_true rfl) ?_
  refine g_aload_n dX11_roots_0 rfl rfl ?_
  refine g_iload_n dX11_roots_1 rfl rfl ?_
  refine g_V1r (CX11_isRow h0) kX11_roots_193 dX11_roots_2 mW_0 rfl ⟨rfl, rfl⟩ (Nat.le_of_ble_eq_true rfl) ⟨(Nat.le_of_ble_eq_true rfl), (Nat.le_of_ble_eq_true rfl)⟩ ?_
  rw [mIsT hn hq]
  refine g_if_ne (tgt := 11) dX11_roots_5 rfl (fun c_5 => ?_) (fun c_5 => by exfalso; revert c_5; decide)
  refine g_iload_n dX11_roots_11 rfl rfl ?_
  refine g_iconst (v := 0) dX11_roots_12 (by decide) ?_
  refine g_iconst (v := 4) dX11_roots_13 (by decide) ?_
  refine g_S3r CX11_within kX11_roots_68 dX11_roots_14 ⟨rfl, rfl⟩ (Nat.le_of_ble_eq_true rfl) ⟨(Nat.le_of_ble_eq_true rfl), (Nat.le_of_ble_eq_true rfl)⟩ ?_
  refine g_if_ne (tgt := 23) dX11_roots_17 rfl (fun c_17 => ?_) (fun c_17 => ?_)
  · refine g_aload_n dX11_roots_23 rfl rfl ?_
    refine g_iload_n dX11_roots_24 rfl rfl ?_
    refine g_V1r (CX11_isTold (q := q) (by omega)) kX11_roots_245 dX11_roots_25 mW_0 rfl ⟨rfl, rfl⟩ (Nat.le_of_ble_eq_true rfl) ⟨(Nat.le_of_ble_eq_true rfl), (Nat.le_of_ble_eq_true rfl)⟩ ?_
    refine g_if_eq (tgt := 56) dX11_roots_28 rfl (fun c_28 => ?_) (fun c_28 => by exact absurd (bI_f zt) c_28)
    refine g_ldc dX11_roots_56 tb_1007 ?_
    exact g_iret dX11_roots_58 rfl rfl ⟨by rw [if_pos (Classical.byContradiction (fun z => c_17 (bI_f z)))], rfl⟩
  · refine g_ldc dX11_roots_20 tb_964 ?_
    exact g_iret dX11_roots_22 rfl rfl ⟨by rw [if_neg (bI_0.mp c_17)], rfl⟩
