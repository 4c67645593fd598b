def mZc (A : Nat → Int32) (h : Nat) : Nat → Int32
  | 0 => 0
  | i + 1 => mZc A h i + (if A (h + i) = 0 then 1 else 0)
def mZr (A : Nat → Int32) (ld tn : Nat) : Int32 := mZc A (mHd A ld tn) (mLp A ld tn)
section
variable {l : Launch} {σ : Nat → Nat → Int32} {t : Nat → Int64} {n T q ld tn : Nat} {A : Nat → Int32}
set_option maxRecDepth 100000 in
set_option maxHeartbeats 4000000 in
theorem CX11_zrL {n0 : Nat} (HQ : mRq σ q ld tn) (hv : rsV σ q ld tn = A) (hp : ∀ k, ld ≤ k → A (k + tn) = A k) : ∀ (d i : Nat), i + d = mLp A ld tn → Go l mX11_zerosOf n0 (q_eq (some (.int (mZr A ld tn))) (mW σ t)) (0, 0) 18 [some (.ref 0), some (.int (nI q)), some (.int (nI (mHd A ld tn))), some (.int (nI (mLp A ld tn))), some (.int (mZc A (mHd A ld tn) i)), some (.int (nI (mHd A ld tn + i)))] [] (mW σ t) := by
  intro d
  induction d with
  | zero =>
    intro i hi
    obtain ⟨hq, hl, ht, h1, h6, h3⟩ := id HQ
    have hO := mLp_ok h1 hp
    have hH : mHd A ld tn ≤ 0 + ld := fs_le _ _ _
    refine g_iload dX11_zerosOf_18 rfl ?_
    refine g_iload_n dX11_zerosOf_20 rfl rfl ?_
    refine g_iload_n dX11_zerosOf_21 rfl rfl ?_
    refine g_iadd dX11_zerosOf_22 ?_
    rw [nI_add]
    refine g_icmp_ge (tgt := 53) dX11_zerosOf_23 rfl (fun c_23 => ?_) (fun c_23 => by exact absurd (nI_le (by omega) (by omega)) c_23)
    refine g_iload dX11_zerosOf_53 rfl ?_
    exact g_iret dX11_zerosOf_55 rfl rfl ⟨by rw [mZr, show mLp A ld tn = i by omega], rfl⟩
  | succ d ih =>
    intro i hi
    obtain ⟨hq, hl, ht, h1, h6, h3⟩ := id HQ
    have hO := mLp_ok h1 hp
    have hH : mHd A ld tn ≤ 0 + ld := fs_le _ _ _
    refine g_iload dX11_zerosOf_18 rfl ?_
    refine g_iload_n dX11_zerosOf_20 rfl rfl ?_
    refine g_iload_n dX11_zerosOf_21 rfl rfl ?_
    refine g_iadd dX11_zerosOf_22 ?_
    rw [nI_add]
    refine g_icmp_ge (tgt := 53) dX11_zerosOf_23 rfl (fun c_23 => by exact absurd c_23 (nI_ge (by omega) (by omega))) (fun c_23 => ?_)
    refine g_iload dX11_zerosOf_26 rfl ?_
    refine g_aload_n dX11_zerosOf_28 rfl rfl ?_
    refine g_iload_n dX11_zerosOf_29 rfl rfl ?_
    refine g_iload dX11_zerosOf_30 rfl ?_
    refine g_i2l dX11_zerosOf_32 ?_
    rw [nI_64 (k := mHd A ld tn + i) (by omega)]
    refine g_V2r (CX11_restAt HQ (by omega)) kX11_zerosOf_162 dX11_zerosOf_33 mW_0 rfl ⟨rfl, rfl⟩ (Nat.le_of_ble_eq_true rfl) ⟨(Nat.le_of_ble_eq_true rfl), (Nat.le_of_ble_eq_true rfl)⟩ ?_
    rw [hv]
    refine g_if_ne (tgt := 43) dX11_zerosOf_36 rfl (fun c_36 => ?_) (fun c_36 => ?_)
    · refine g_iconst (v := 0) dX11_zerosOf_43 (by decide) ?_
      refine g_iadd dX11_zerosOf_44 ?_
      refine g_istore dX11_zerosOf_45 (Nat.le_of_ble_eq_true rfl) rfl ?_
      refine g_iinc (v := 1) dX11_zerosOf_47 (by decide) rfl (Nat.le_of_ble_eq_true rfl) rfl ?_
      refine g_goto (tgt := 18) dX11_zerosOf_50 rfl ?_
      exact Go.eq rfl (show _ = _ by first | (rw [mZc, if_pos c_36, show nI (mHd A ld tn + (i + 1)) = nI (mHd A ld tn + i) + 1 from (nI_1 (mHd A ld tn + i)).symm]; rfl) | (rw [mZc, if_neg c_36, show nI (mHd A ld tn + (i + 1)) = nI (mHd A ld tn + i) + 1 from (nI_1 (mHd A ld tn + i)).symm]; rfl)) rfl rfl (ih (i + 1) (by omega))
    · refine g_iconst (v := 1) dX11_zerosOf_39 (by decide) ?_
      refine g_goto (tgt := 44) dX11_zerosOf_40 rfl ?_
      refine g_iadd dX11_zerosOf_44 ?_
      refine g_istore dX11_zerosOf_45 (Nat.le_of_ble_eq_true rfl) rfl ?_
      refine g_iinc (v := 1) dX11_zerosOf_47 (by decide) rfl (Nat.le_of_ble_eq_true rfl) rfl ?_
      refine g_goto (tgt := 18) dX11_zerosOf_50 rfl ?_
      exact Go.eq rfl (show _ = _ by first | (rw [mZc, if_pos c_36, show nI (mHd A ld tn + (i + 1)) = nI (mHd A ld tn + i) + 1 from (nI_1 (mHd A ld tn + i)).symm]; rfl) | (rw [mZc, if_neg c_36, show nI (mHd A ld tn + (i + 1)) = nI (mHd A ld tn + i) + 1 from (nI_1 (mHd A ld tn + i)).symm]; rfl)) rfl rfl (ih (i + 1) (by omega))
set_option maxRecDepth 100000 in
set_option maxHeartbeats 4000000 in
theorem CX11_zerosOf (HQ : mRq σ q ld tn) (hv : rsV σ q ld tn = A) (hp : ∀ k, ld ≤ k → A (k + tn) = A k) : Ct l mX11_zerosOf [.ref 0, .int (nI q)] (mW σ t) (q_eq (some (.int (mZr A ld tn))) (mW σ t)) := by
  refine Ct.of rfl (Nat.le_of_ble_eq_true rfl) ?_
  refine g_aload_n dX11_zerosOf_0 rfl rfl ?_
  refine g_iload_n dX11_zerosOf_1 rfl rfl ?_
  refine g_V1r (CX11_headOf HQ hv hp) kX11_zerosOf_190 dX11_zerosOf_2 mW_0 rfl ⟨rfl, rfl⟩ (Nat.le_of_ble_eq_true rfl) ⟨(Nat.le_of_ble_eq_true rfl), (Nat.le_of_ble_eq_true rfl)⟩ ?_
  refine g_istore_n dX11_zerosOf_5 rfl (Nat.le_of_ble_eq_true rfl) rfl ?_
  refine g_aload_n dX11_zerosOf_6 rfl rfl ?_
  refine g_iload_n dX11_zerosOf_7 rfl rfl ?_
  refine g_V1r (CX11_lapOf HQ hv hp) kX11_zerosOf_187 dX11_zerosOf_8 mW_0 rfl ⟨rfl, rfl⟩ (Nat.le_of_ble_eq_true rfl) ⟨(Nat.le_of_ble_eq_true rfl), (Nat.le_of_ble_eq_true rfl)⟩ ?_
  refine g_istore_n dX11_zerosOf_11 rfl (Nat.le_of_ble_eq_true rfl) rfl ?_
  refine g_iconst (v := 0) dX11_zerosOf_12 (by decide) ?_
  refine g_istore dX11_zerosOf_13 (Nat.le_of_ble_eq_true rfl) rfl ?_
  refine g_iload_n dX11_zerosOf_15 rfl rfl ?_
  refine g_istore dX11_zerosOf_16 (Nat.le_of_ble_eq_true rfl) rfl ?_
  exact Go.eq rfl rfl rfl rfl (CX11_zrL HQ hv hp (mLp A ld tn) 0 (by omega))
end
