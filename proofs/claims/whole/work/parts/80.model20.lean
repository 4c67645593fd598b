def caB (A : Nat → Int32) (fr b : Nat) : Nat → Bool
  | 0 => true
  | i + 1 => caB A fr b i && decide (A (fr + i) = A (fr + i + b))
theorem caB_t {A : Nat → Int32} {fr b i : Nat} (h1 : ¬ bB (caB A fr b i) = 0) (h2 : A (fr + i) = A (fr + i + b)) : bB (caB A fr b (i + 1)) = 1 := by
  rw [caB, bB_t h1, decide_eq_true h2]; rfl
theorem caB_f {A : Nat → Int32} {fr b i : Nat} (h1 : bB (caB A fr b i) = 0) : bB (caB A fr b (i + 1)) = 0 := by
  rw [caB, Bool.eq_false_iff.mpr (bB_f h1)]; rfl
theorem caB_g {A : Nat → Int32} {fr b i : Nat} (h2 : ¬ A (fr + i) = A (fr + i + b)) : bB (caB A fr b (i + 1)) = 0 := by
  rw [caB, decide_eq_false h2, Bool.and_false]; rfl
section
variable {l : Launch} {σ : Nat → Nat → Int32} {t : Nat → Int64} {n T q fr b ld tn : Nat} {A : Nat → Int32}
set_option maxRecDepth 100000 in
set_option maxHeartbeats 4000000 in
theorem CX11_caL {n0 : Nat} (HQ : mRq σ q ld tn) (hv : rsV σ q ld tn = A) (hf : fr ≤ 1000) (hb : b ≤ 1000) : ∀ (d i : Nat), i + d = ld + tn - fr → Go l mX11_comesAgain n0 (q_eq (some (.int (bB (caB A fr b (ld + tn - fr))))) (mW σ t)) (0, 0) 6 [some (.ref 0), some (.int (nI q)), some (.int (nI fr)), some (.int (nI b)), some (.int (bB (caB A fr b i))), some (.int (nI (fr + i)))] [] (mW σ t) := by
  intro d
  induction d with
  | zero =>
    intro i hi
    obtain ⟨hq, hl, ht, h1, h6, h3⟩ := id HQ
    have e1 : i = ld + tn - fr := by omega
    refine g_iload dX11_comesAgain_6 rfl ?_
    refine g_aload_n dX11_comesAgain_8 rfl rfl ?_
    refine g_getf dX11_comesAgain_9 fX11_32 mW_0 rfl ?_
    refine g_iload_n dX11_comesAgain_12 rfl rfl ?_
    refine g_iald dX11_comesAgain_13 mA8 (vin_n (by omega) (by decide)) ?_
    rw [nI_clamp (by omega), hl]
    refine g_aload_n dX11_comesAgain_14 rfl rfl ?_
    refine g_getf dX11_comesAgain_15 fX11_35 mW_0 rfl ?_
    refine g_iload_n dX11_comesAgain_18 rfl rfl ?_
    refine g_iald dX11_comesAgain_19 mA9 (vin_n (by omega) (by decide)) ?_
    rw [nI_clamp (by omega), ht]
    refine g_iadd dX11_comesAgain_20 ?_
    rw [nI_add]
    refine g_icmp_ge (tgt := 63) dX11_comesAgain_21 rfl (fun c_21 => ?_) (fun c_21 => by exact absurd (nI_le (by omega) (by omega)) c_21)
    refine g_iload dX11_comesAgain_63 rfl ?_
    exact g_zret dX11_comesAgain_65 rfl rfl (by cases caB A fr b i <;> decide) ⟨by rw [e1], rfl⟩
  | succ d ih =>
    intro i hi
    obtain ⟨hq, hl, ht, h1, h6, h3⟩ := id HQ
    refine g_iload dX11_comesAgain_6 rfl ?_
    refine g_aload_n dX11_comesAgain_8 rfl rfl ?_
    refine g_getf dX11_comesAgain_9 fX11_32 mW_0 rfl ?_
    refine g_iload_n dX11_comesAgain_12 rfl rfl ?_
    refine g_iald dX11_comesAgain_13 mA8 (vin_n (by omega) (by decide)) ?_
    rw [nI_clamp (by omega), hl]
    refine g_aload_n dX11_comesAgain_14 rfl rfl ?_
    refine g_getf dX11_comesAgain_15 fX11_35 mW_0 rfl ?_
    refine g_iload_n dX11_comesAgain_18 rfl rfl ?_
    refine g_iald dX11_comesAgain_19 mA9 (vin_n (by omega) (by decide)) ?_
    rw [nI_clamp (by omega), ht]
    refine g_iadd dX11_comesAgain_20 ?_
    rw [nI_add]
    refine g_icmp_ge (tgt := 63) dX11_comesAgain_21 rfl (fun c_21 => by exact absurd c_21 (nI_ge (by omega) (by omega))) (fun c_21 => ?_)
    refine g_iload dX11_comesAgain_24 rfl ?_
    refine g_if_eq (tgt := 54) dX11_comesAgain_26 rfl (fun c_26 => ?_) (fun c_26 => ?_)
    · refine g_iconst (v := 0) dX11_comesAgain_54 (by decide) ?_
      refine g_istore dX11_comesAgain_55 (Nat.le_of_ble_eq_true rfl) rfl ?_
      refine g_iinc (v := 1) dX11_comesAgain_57 (by decide) rfl (Nat.le_of_ble_eq_true rfl) rfl ?_
      refine g_goto (tgt := 6) dX11_comesAgain_60 rfl ?_
      exact Go.eq rfl (show _ = _ by first | (rw [caB_t c_26 c_47, show nI (fr + (i + 1)) = nI (fr + i) + 1 from (nI_1 (fr + i)).symm]; rfl) | (rw [caB_g c_47, show nI (fr + (i + 1)) = nI (fr + i) + 1 from (nI_1 (fr + i)).symm]; rfl) | (rw [caB_f c_26, show nI (fr + (i + 1)) = nI (fr + i) + 1 from (nI_1 (fr + i)).symm]; rfl)) rfl rfl (ih (i + 1) (by omega))
    · refine g_aload_n dX11_comesAgain_29 rfl rfl ?_
      refine g_iload_n dX11_comesAgain_30 rfl rfl ?_
      refine g_iload dX11_comesAgain_31 rfl ?_
      refine g_i2l dX11_comesAgain_33 ?_
      rw [nI_64 (k := fr + i) (by omega)]
      refine g_V2r (CX11_restAt HQ (by omega)) kX11_comesAgain_162 dX11_comesAgain_34 mW_0 rfl ⟨rfl, rfl⟩ (Nat.le_of_ble_eq_true rfl) ⟨(Nat.le_of_ble_eq_true rfl), (Nat.le_of_ble_eq_true rfl)⟩ ?_
      rw [hv]
      refine g_aload_n dX11_comesAgain_37 rfl rfl ?_
      refine g_iload_n dX11_comesAgain_38 rfl rfl ?_
      refine g_iload dX11_comesAgain_39 rfl ?_
      refine g_iload_n dX11_comesAgain_41 rfl rfl ?_
      refine g_iadd dX11_comesAgain_42 ?_
      rw [nI_add]
      refine g_i2l dX11_comesAgain_43 ?_
      rw [nI_64 (k := fr + i + b) (by omega)]
      refine g_V2r (CX11_restAt HQ (by omega)) kX11_comesAgain_162 dX11_comesAgain_44 mW_0 rfl ⟨rfl, rfl⟩ (Nat.le_of_ble_eq_true rfl) ⟨(Nat.le_of_ble_eq_true rfl), (Nat.le_of_ble_eq_true rfl)⟩ ?_
      rw [hv]
      refine g_icmp_ne (tgt := 54) dX11_comesAgain_47 rfl (fun c_47 => ?_) (fun c_47 => ?_)
      · refine g_iconst (v := 0) dX11_comesAgain_54 (by decide) ?_
        refine g_istore dX11_comesAgain_55 (Nat.le_of_ble_eq_true rfl) rfl ?_
        refine g_iinc (v := 1) dX11_comesAgain_57 (by decide) rfl (Nat.le_of_ble_eq_true rfl) rfl ?_
        refine g_goto (tgt := 6) dX11_comesAgain_60 rfl ?_
        exact Go.eq rfl (show _ = _ by first | (rw [caB_t c_26 c_47, show nI (fr + (i + 1)) = nI (fr + i) + 1 from (nI_1 (fr + i)).symm]; rfl) | (rw [caB_g c_47, show nI (fr + (i + 1)) = nI (fr + i) + 1 from (nI_1 (fr + i)).symm]; rfl) | (rw [caB_f c_26, show nI (fr + (i + 1)) = nI (fr + i) + 1 from (nI_1 (fr + i)).symm]; rfl)) rfl rfl (ih (i + 1) (by omega))
      · refine g_iconst (v := 1) dX11_comesAgain_50 (by decide) ?_
        refine g_goto (tgt := 55) dX11_comesAgain_51 rfl ?_
        refine g_istore dX11_comesAgain_55 (Nat.le_of_ble_eq_true rfl) rfl ?_
        refine g_iinc (v := 1) dX11_comesAgain_57 (by decide) rfl (Nat.le_of_ble_eq_true rfl) rfl ?_
        refine g_goto (tgt := 6) dX11_comesAgain_60 rfl ?_
        exact Go.eq rfl (show _ = _ by first | (rw [caB_t c_26 c_47, show nI (fr + (i + 1)) = nI (fr + i) + 1 from (nI_1 (fr + i)).symm]; rfl) | (rw [caB_g c_47, show nI (fr + (i + 1)) = nI (fr + i) + 1 from (nI_1 (fr + i)).symm]; rfl) | (rw [caB_f c_26, show nI (fr + (i + 1)) = nI (fr + i) + 1 from (nI_1 (fr + i)).symm]; rfl)) rfl rfl (ih (i + 1) (by omega))
set_option maxRecDepth 100000 in
set_option maxHeartbeats 4000000 in
theorem CX11_comesAgain (HQ : mRq σ q ld tn) (hv : rsV σ q ld tn = A) (hf : fr ≤ 1000) (hb : b ≤ 1000) : Ct l mX11_comesAgain [.ref 0, .int (nI q), .int (nI fr), .int (nI b)] (mW σ t) (q_eq (some (.int (bB (caB A fr b (ld + tn - fr))))) (mW σ t)) := by
  refine Ct.of rfl (Nat.le_of_ble_eq_true rfl) ?_
  refine g_iconst (v := 1) dX11_comesAgain_0 (by decide) ?_
  refine g_istore dX11_comesAgain_1 (Nat.le_of_ble_eq_true rfl) rfl ?_
  refine g_iload_n dX11_comesAgain_3 rfl rfl ?_
  refine g_istore dX11_comesAgain_4 (Nat.le_of_ble_eq_true rfl) rfl ?_
  exact Go.eq rfl rfl rfl rfl (CX11_caL HQ hv hf hb (ld + tn - fr) 0 (by omega))
end
