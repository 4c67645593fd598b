theorem mKK_keep {σ τ : Nat → Nat → Int32} {n : Nat} (h : ∀ c, c = 1 ∨ c = 2 ∨ c = 7 ∨ c = 8 ∨ c = 9 ∨ c = 10 → τ c = σ c) (h0 : ∀ k, k = 0 ∨ k = 13 ∨ k = 14 → τ 0 k = σ 0 k) (H : mKK σ n) : mKK τ n := by
  have e1 := h 1 (by decide)
  have e2 := h 2 (by decide)
  have e7 := h 7 (by decide)
  have e8 := h 8 (by decide)
  have e9 := h 9 (by decide)
  have e10 := h 10 (by decide)
  obtain ⟨H1, H2⟩ := H
  constructor
  · unfold mKt
    rw [e1, e2, e7, h0 0 (by decide), h0 13 (by decide)]
    exact H1
  · unfold mKr mRd0 mRZ mRq
    rw [h0 14 (by decide), e1, e2, e8, e9, e10]
    exact H2
theorem mKK_put {σ : Nat → Nat → Int32} {n c k : Nat} {v : Int32} (hc : 11 ≤ c) (H : mKK σ n) : mKK (put σ c k v) n :=
  mKK_keep (fun j hj => put_ne (by omega)) (fun k _ => by rw [put_ne (by omega)]) H
theorem mSm_put {σ τ : Nat → Nat → Int32} {c k : Nat} {v : Int32} (hc : 11 ≤ c) (hc2 : c < 15) (H : mSm σ τ) : mSm σ (put τ c k v) :=
  H.tr ⟨fun j hj => put_ne (by omega), fun k _ => by rw [put_ne (by omega)]⟩
theorem mRZ_put {σ : Nat → Nat → Int32} {A : Nat → Int32} {T q ld tn c k : Nat} {v : Int32} (hc : 11 ≤ c) (H : mRZ σ A T q ld tn) : mRZ (put σ c k v) A T q ld tn := by
  unfold mRZ mRq
  rw [put_ne (by omega), put_ne (by omega), put_ne (by omega)]
  exact H
def moB (A : Nat → Nat → Int32) : Nat → Nat → Bool
  | 0, _ => true
  | j + 1, k => moB A j k && decide (A j k = 0)
theorem put_ix {σ : Nat → Nat → Int32} {c k i : Nat} {v : Int32} : put σ c k v c i = if i = k then v else σ c i := by rw [put_eq]; rfl
section
variable {l : Launch} {σ : Nat → Nat → Int32} {t : Nat → Int64} {n T q k : Nat}
theorem opS {j : Nat} {τ : Nat → Nat → Int32} {A : Nat → Nat → Int32} {v : Int32} (hO : ∀ i, i < 1000 → τ 14 i = if i < k then bB (moB A (j + 1) i) else bB (moB A j i)) (hv : v = bB (moB A (j + 1) k)) : ∀ i, i < 1000 → put τ 14 k v 14 i = if i < k + 1 then bB (moB A (j + 1) i) else bB (moB A j i) := by
  intro i hi
  rw [put_ix]
  by_cases h : i = k
  · subst h
    rw [if_pos rfl, if_pos (by omega)]; exact hv
  · rw [if_neg h, hO i hi]
    by_cases h2 : i < k
    · rw [if_pos h2, if_pos (by omega)]
    · rw [if_neg h2, if_neg (by omega)]
theorem moB_f {A : Nat → Nat → Int32} {j k : Nat} (h : bB (moB A j k) = 0) : (0 : Int32) = bB (moB A (j + 1) k) := by
  rw [moB, Bool.eq_false_iff.mpr (bB_f h)]; rfl
theorem moB_g {A : Nat → Nat → Int32} {j k : Nat} (h : ¬ A j k = 0) : (0 : Int32) = bB (moB A (j + 1) k) := by
  rw [moB, decide_eq_false h, Bool.and_false]; rfl
theorem moB_t {A : Nat → Nat → Int32} {j k : Nat} (h : ¬ bB (moB A j k) = 0) (h2 : A j k = 0) : (1 : Int32) = bB (moB A (j + 1) k) := by
  rw [moB, bB_t h, decide_eq_true h2]; rfl
set_option maxRecDepth 100000 in
set_option maxHeartbeats 4000000 in
theorem CX11_loI {n0 j ld tn : Nat} (hj : j < 9) (hX : ∀ τ (x3 : Option Value), mKK τ n → mSm σ τ → (∀ i, i < 1000 → τ 14 i = bB (moB (fun T => RZ (σ 1) (σ 2) (nI n) T q) (j + 1) i)) → Go l mX11_layOpen n0 (fun r w' => r = none ∧ ∃ σ', w' = mW σ' t ∧ mKK σ' n ∧ mSm σ σ' ∧ ∀ i, i < 1000 → σ' 14 i = bB (moB (fun T => RZ (σ 1) (σ 2) (nI n) T q) 9 i)) (0, 0) 24 [some (.ref 0), some (.int (nI q)), some (.int (nI (2 + (j + 1)))), x3] [] (mW τ t)) : ∀ (d k : Nat) (τ : Nat → Nat → Int32), k + d = 1000 → mKK τ n → mSm σ τ → mRZ τ (RZ (σ 1) (σ 2) (nI n) j q) j q ld tn → (∀ i, i < 1000 → τ 14 i = if i < k then bB (moB (fun T => RZ (σ 1) (σ 2) (nI n) T q) (j + 1) i) else bB (moB (fun T => RZ (σ 1) (σ 2) (nI n) T q) j i)) → Go l mX11_layOpen n0 (fun r w' => r = none ∧ ∃ σ', w' = mW σ' t ∧ mKK σ' n ∧ mSm σ σ' ∧ ∀ i, i < 1000 → σ' 14 i = bB (moB (fun T => RZ (σ 1) (σ 2) (nI n) T q) 9 i)) (0, 0) 37 [some (.ref 0), some (.int (nI q)), some (.int (nI (2 + j))), some (.int (nI k))] [] (mW τ t) := by
  intro d
  induction d with
  | zero =>
    intro k τ hk hK hS HZ hO
    refine g_iload_n dX11_layOpen_37 rfl rfl ?_
    refine g_sipush (v := 1000) dX11_layOpen_38 (by decide) ?_
    refine g_icmp_ge (tgt := 80) dX11_layOpen_41 rfl (fun c_41 => ?_) (fun c_41 => by exact absurd (nI_le (a := 1000) (by omega) (by omega)) c_41)
    refine g_iinc (v := 1) dX11_layOpen_80 (by decide) rfl (Nat.le_of_ble_eq_true rfl) rfl ?_
    refine g_goto (tgt := 24) dX11_layOpen_83 rfl ?_
    exact Go.eq rfl (show _ = _ by rw [show 2 + (j + 1) = 2 + j + 1 by omega, ← nI_1 (2 + j)]; rfl) rfl rfl (hX τ _ hK hS (fun i hi => by rw [hO i hi, if_pos (by omega)]))
  | succ d ih =>
    intro k τ hk hK hS HZ hO
    refine g_iload_n dX11_layOpen_37 rfl rfl ?_
    refine g_sipush (v := 1000) dX11_layOpen_38 (by decide) ?_
    refine g_icmp_ge (tgt := 80) dX11_layOpen_41 rfl (fun c_41 => by exact absurd c_41 (nI_ge (b := 1000) (by omega) (by omega))) (fun c_41 => ?_)
    refine g_aload_n dX11_layOpen_44 rfl rfl ?_
    refine g_getf dX11_layOpen_45 fX11_50 mW_0 rfl ?_
    refine g_iload_n dX11_layOpen_48 rfl rfl ?_
    refine g_aload_n dX11_layOpen_49 rfl rfl ?_
    refine g_getf dX11_layOpen_50 fX11_50 mW_0 rfl ?_
    refine g_iload_n dX11_layOpen_53 rfl rfl ?_
    refine g_zald dX11_layOpen_54 mA14 (vin_n (by omega) (by decide)) ?_
    rw [nI_clamp (by omega), hO k (by omega), if_neg (Nat.lt_irrefl k)]
    refine g_if_eq (tgt := 72) dX11_layOpen_55 rfl (fun c_55 => ?_) (fun c_55 => ?_)
    · refine g_iconst (v := 0) dX11_layOpen_72 (by decide) ?_
      refine g_zast dX11_layOpen_73 mA14 (vin_n (by omega) (by decide)) (mW_arrB (k' := k) (fun _ => rfl) (nI_clamp (by omega)) rfl) ?_
      refine g_iinc (v := 1) dX11_layOpen_74 (by decide) rfl (Nat.le_of_ble_eq_true rfl) rfl ?_
      refine g_goto (tgt := 37) dX11_layOpen_77 rfl ?_
      exact Go.eq rfl (show _ = _ by rw [← nI_1 k]; rfl) rfl rfl (ih (k + 1) (put τ 14 k 0) (by omega) (mKK_put (by omega) hK) (mSm_put (by omega) (by omega) hS) (mRZ_put (by omega) HZ) (opS hO (moB_f c_55)))
    · refine g_aload_n dX11_layOpen_58 rfl rfl ?_
      refine g_iload_n dX11_layOpen_59 rfl rfl ?_
      refine g_iload_n dX11_layOpen_60 rfl rfl ?_
      refine g_i2l dX11_layOpen_61 ?_
      rw [nI_64 (k := k) (by omega)]
      refine g_V2r (CX11_restAt HZ.1 (by omega)) kX11_layOpen_162 dX11_layOpen_62 mW_0 rfl ⟨rfl, rfl⟩ (Nat.le_of_ble_eq_true rfl) ⟨(Nat.le_of_ble_eq_true rfl), (Nat.le_of_ble_eq_true rfl)⟩ ?_
      rw [mRZ_v HZ]
      refine g_if_ne (tgt := 72) dX11_layOpen_65 rfl (fun c_65 => ?_) (fun c_65 => ?_)
      · refine g_iconst (v := 0) dX11_layOpen_72 (by decide) ?_
        refine g_zast dX11_layOpen_73 mA14 (vin_n (by omega) (by decide)) (mW_arrB (k' := k) (fun _ => rfl) (nI_clamp (by omega)) rfl) ?_
        refine g_iinc (v := 1) dX11_layOpen_74 (by decide) rfl (Nat.le_of_ble_eq_true rfl) rfl ?_
        refine g_goto (tgt := 37) dX11_layOpen_77 rfl ?_
        exact Go.eq rfl (show _ = _ by rw [← nI_1 k]; rfl) rfl rfl (ih (k + 1) (put τ 14 k 0) (by omega) (mKK_put (by omega) hK) (mSm_put (by omega) (by omega) hS) (mRZ_put (by omega) HZ) (opS hO (moB_g c_65)))
      · refine g_iconst (v := 1) dX11_layOpen_68 (by decide) ?_
        refine g_goto (tgt := 73) dX11_layOpen_69 rfl ?_
        refine g_zast dX11_layOpen_73 mA14 (vin_n (by omega) (by decide)) (mW_arrB (k' := k) (fun _ => rfl) (nI_clamp (by omega)) rfl) ?_
        refine g_iinc (v := 1) dX11_layOpen_74 (by decide) rfl (Nat.le_of_ble_eq_true rfl) rfl ?_
        refine g_goto (tgt := 37) dX11_layOpen_77 rfl ?_
        exact Go.eq rfl (show _ = _ by rw [← nI_1 k]; rfl) rfl rfl (ih (k + 1) (put τ 14 k 1) (by omega) (mKK_put (by omega) hK) (mSm_put (by omega) (by omega) hS) (mRZ_put (by omega) HZ) (opS hO (moB_t c_55 c_65)))
set_option maxRecDepth 100000 in
set_option maxHeartbeats 4000000 in
theorem CX11_loM {n0 : Nat} (hq : q < n) : ∀ (d j : Nat) (τ : Nat → Nat → Int32) (x3 : Option Value), j + d = 9 → mKK τ n → mSm σ τ → (∀ i, i < 1000 → τ 14 i = bB (moB (fun T => RZ (σ 1) (σ 2) (nI n) T q) j i)) → Go l mX11_layOpen n0 (fun r w' => r = none ∧ ∃ σ', w' = mW σ' t ∧ mKK σ' n ∧ mSm σ σ' ∧ ∀ i, i < 1000 → σ' 14 i = bB (moB (fun T => RZ (σ 1) (σ 2) (nI n) T q) 9 i)) (0, 0) 24 [some (.ref 0), some (.int (nI q)), some (.int (nI (2 + j))), x3] [] (mW τ t) := by
  intro d
  induction d with
  | zero =>
    intro j τ x3 hj hK hS hO
    have e1 : j = 9 := by omega
    subst e1
    refine g_iload_n dX11_layOpen_24 rfl rfl ?_
    refine g_bipush (v := 10) dX11_layOpen_25 (by decide) ?_
    refine g_icmp_gt (tgt := 86) dX11_layOpen_27 rfl (fun c_27 => ?_) (fun c_27 => by exfalso; revert c_27; decide)
    exact g_vret dX11_layOpen_86 rfl rfl ⟨rfl, τ, rfl, hK, hS, hO⟩
  | succ d ih =>
    intro j τ x3 hj hK hS hO
    have hT : j < 9 := by omega
    refine g_iload_n dX11_layOpen_24 rfl rfl ?_
    refine g_bipush (v := 10) dX11_layOpen_25 (by decide) ?_
    refine g_icmp_gt (tgt := 86) dX11_layOpen_27 rfl (fun c_27 => by exact absurd c_27 (nI_nlt (a := 10) (b := 2 + j) (by omega) (by decide))) (fun c_27 => ?_)
    refine g_aload_n dX11_layOpen_30 rfl rfl ?_
    refine g_iload_n dX11_layOpen_31 rfl rfl ?_
    refine g_V1p (CX11_layRests hT (T := j) hK.1.1 hK.1.2.1 hK.1.2.2.1 hK.1.2.2.2.1 hK.2) kX11_layOpen_204 dX11_layOpen_32 mW_0 rfl ⟨rfl, rfl⟩ (Nat.le_of_ble_eq_true rfl) ⟨(Nat.le_of_ble_eq_true rfl), (Nat.le_of_ble_eq_true rfl)⟩ ?_
    rintro rv w1 ⟨rfl, τ1, rfl, hS1, hb, hR⟩
    obtain ⟨ld, tn, HZ⟩ := hR q hq
    have hK1 := mKK_Sr hT hK hS1 hb hR
    have hS2 := hS.tr hS1.sm
    rw [hS2.c1, hS2.c2] at HZ
    have e14 := hS1.1 14 (by decide) (by decide) (by decide) (by decide) (by decide)
    refine g_iconst (v := 0) dX11_layOpen_35 (by decide) ?_
    refine g_istore_n dX11_layOpen_36 rfl (Nat.le_of_ble_eq_true rfl) rfl ?_
    exact Go.eq rfl rfl rfl rfl (CX11_loI hT (fun τ2 y3 k2 s2 o2 => ih (j + 1) τ2 y3 (by omega) k2 s2 o2) 1000 0 τ1 (by omega) hK1 hS2 HZ (fun i hi => by rw [e14, hO i hi, if_neg (by omega)]))
set_option maxRecDepth 100000 in
set_option maxHeartbeats 4000000 in
theorem CX11_loA {n0 : Nat} (hq : q < n) : ∀ (d k : Nat) (τ : Nat → Nat → Int32), k + d = 1000 → mKK τ n → mSm σ τ → (∀ i, i < k → τ 14 i = 1) → Go l mX11_layOpen n0 (fun r w' => r = none ∧ ∃ σ', w' = mW σ' t ∧ mKK σ' n ∧ mSm σ σ' ∧ ∀ i, i < 1000 → σ' 14 i = bB (moB (fun T => RZ (σ 1) (σ 2) (nI n) T q) 9 i)) (0, 0) 2 [some (.ref 0), some (.int (nI q)), some (.int (nI k)), none] [] (mW τ t) := by
  intro d
  induction d with
  | zero =>
    intro k τ hk hK hS hO
    refine g_iload_n dX11_layOpen_2 rfl rfl ?_
    refine g_sipush (v := 1000) dX11_layOpen_3 (by decide) ?_
    refine g_icmp_ge (tgt := 22) dX11_layOpen_6 rfl (fun c_6 => ?_) (fun c_6 => by exact absurd (nI_le (a := 1000) (by omega) (by omega)) c_6)
    refine g_iconst (v := 2) dX11_layOpen_22 (by decide) ?_
    refine g_istore_n dX11_layOpen_23 rfl (Nat.le_of_ble_eq_true rfl) rfl ?_
    exact Go.eq rfl rfl rfl rfl (CX11_loM hq 9 0 τ _ (by omega) hK hS (fun i hi => by rw [hO i (by omega)]; rfl))
  | succ d ih =>
    intro k τ hk hK hS hO
    refine g_iload_n dX11_layOpen_2 rfl rfl ?_
    refine g_sipush (v := 1000) dX11_layOpen_3 (by decide) ?_
    refine g_icmp_ge (tgt := 22) dX11_layOpen_6 rfl (fun c_6 => by exact absurd c_6 (nI_ge (b := 1000) (by omega) (by omega))) (fun c_6 => ?_)
    refine g_aload_n dX11_layOpen_9 rfl rfl ?_
    refine g_getf dX11_layOpen_10 fX11_50 mW_0 rfl ?_
    refine g_iload_n dX11_layOpen_13 rfl rfl ?_
    refine g_iconst (v := 1) dX11_layOpen_14 (by decide) ?_
    refine g_zast dX11_layOpen_15 mA14 (vin_n (by omega) (by decide)) (mW_arrB (k' := k) (fun _ => rfl) (nI_clamp (by omega)) rfl) ?_
    refine g_iinc (v := 1) dX11_layOpen_16 (by decide) rfl (Nat.le_of_ble_eq_true rfl) rfl ?_
    refine g_goto (tgt := 2) dX11_layOpen_19 rfl ?_
    exact Go.eq rfl (show _ = _ by rw [← nI_1 k]; rfl) rfl rfl (ih (k + 1) (put τ 14 k 1) (by omega) (mKK_put (by omega) hK) (mSm_put (by omega) (by omega) hS) (fun i hi => by rw [put_ix]; by_cases h : i = k; rw [if_pos h]; rw [if_neg h]; exact hO i (by omega)))
set_option maxRecDepth 100000 in
set_option maxHeartbeats 4000000 in
theorem CX11_layOpen (H : mKK σ n) (hq : q < n) : Ct l mX11_layOpen [.ref 0, .int (nI q)] (mW σ t) (fun r w' => r = none ∧ ∃ σ', w' = mW σ' t ∧ mKK σ' n ∧ mSm σ σ' ∧ ∀ i, i < 1000 → σ' 14 i = bB (moB (fun T => RZ (σ 1) (σ 2) (nI n) T q) 9 i)) := by
  refine Ct.of rfl (Nat.le_of_ble_eq_true rfl) ?_
  refine g_iconst (v := 0) dX11_layOpen_0 (by decide) ?_
  refine g_istore_n dX11_layOpen_1 rfl (Nat.le_of_ble_eq_true rfl) rfl ?_
  exact Go.eq rfl rfl rfl rfl (CX11_loA hq 1000 0 σ (by omega) H mSm.rf (fun i hi => absurd hi (by omega)))
set_option maxRecDepth 100000 in
set_option maxHeartbeats 4000000 in
theorem CX11_onL {n0 : Nat} {x : Int32} {τ : Nat → Nat → Int32} (hO : ∀ i, i < 1000 → τ 14 i = bB ((moB (fun T => RZ (σ 1) (σ 2) (nI n) T q) 9) i)) : ∀ (d k : Nat), k + d = 1000 → Go l mX11_openNow n0 (q_eq (some (.int (if x = 0 then nI (opN (moB (fun T => RZ (σ 1) (σ 2) (nI n) T q) 9) 1000) else opG (moB (fun T => RZ (σ 1) (σ 2) (nI n) T q) 9) 1000))) (mW τ t)) (0, 0) 14 [some (.ref 0), some (.int (nI q)), some (.int x), some (.int (nI (opN (moB (fun T => RZ (σ 1) (σ 2) (nI n) T q) 9) k))), some (.int (opG (moB (fun T => RZ (σ 1) (σ 2) (nI n) T q) 9) k)), some (.int (nI k))] [] (mW τ t) := by
  intro d
  induction d with
  | zero =>
    intro k hk
    have e1 : k = 1000 := by omega
    subst e1
    refine g_iload dX11_openNow_14 rfl ?_
    refine g_sipush (v := 1000) dX11_openNow_16 (by decide) ?_
    refine g_icmp_ge (tgt := 65) dX11_openNow_19 rfl (fun c_19 => ?_) (fun c_19 => by exact absurd (nI_le (a := 1000) (by omega) (by omega)) c_19)
    refine g_iload_n dX11_openNow_65 rfl rfl ?_
    refine g_if_ne (tgt := 73) dX11_openNow_66 rfl (fun c_66 => ?_) (fun c_66 => ?_)
    · refine g_iload dX11_openNow_73 rfl ?_
      exact g_iret dX11_openNow_75 rfl rfl ⟨by first | rw [if_pos c_66] | rw [if_neg c_66], rfl⟩
    · refine g_iload_n dX11_openNow_69 rfl rfl ?_
      refine g_goto (tgt := 75) dX11_openNow_70 rfl ?_
      exact g_iret dX11_openNow_75 rfl rfl ⟨by first | rw [if_pos c_66] | rw [if_neg c_66], rfl⟩
  | succ d ih =>
    intro k hk
    refine g_iload dX11_openNow_14 rfl ?_
    refine g_sipush (v := 1000) dX11_openNow_16 (by decide) ?_
    refine g_icmp_ge (tgt := 65) dX11_openNow_19 rfl (fun c_19 => by exact absurd c_19 (nI_ge (b := 1000) (by omega) (by omega))) (fun c_19 => ?_)
    refine g_iload_n dX11_openNow_22 rfl rfl ?_
    refine g_aload_n dX11_openNow_23 rfl rfl ?_
    refine g_getf dX11_openNow_24 fX11_50 mW_0 rfl ?_
    refine g_iload dX11_openNow_27 rfl ?_
    refine g_zald dX11_openNow_29 mA14 (vin_n (by omega) (by decide)) ?_
    rw [nI_clamp (by omega), hO k (by omega)]
    refine g_if_eq (tgt := 37) dX11_openNow_30 rfl (fun c_30 => ?_) (fun c_30 => ?_)
    · refine g_iconst (v := 0) dX11_openNow_37 (by decide) ?_
      refine g_iadd dX11_openNow_38 ?_
      refine g_istore_n dX11_openNow_39 rfl (Nat.le_of_ble_eq_true rfl) rfl ?_
      refine g_aload_n dX11_openNow_40 rfl rfl ?_
      refine g_getf dX11_openNow_41 fX11_50 mW_0 rfl ?_
      refine g_iload dX11_openNow_44 rfl ?_
      refine g_zald dX11_openNow_46 mA14 (vin_n (by omega) (by decide)) ?_
      rw [nI_clamp (by omega), hO k (by omega)]
      refine g_if_eq (tgt := 55) dX11_openNow_47 rfl (fun c_47 => ?_) (fun c_47 => ?_)
      · refine g_iload dX11_openNow_55 rfl ?_
        refine g_istore dX11_openNow_57 (Nat.le_of_ble_eq_true rfl) rfl ?_
        refine g_iinc (v := 1) dX11_openNow_59 (by decide) rfl (Nat.le_of_ble_eq_true rfl) rfl ?_
        refine g_goto (tgt := 14) dX11_openNow_62 rfl ?_
        first | exact absurd c_47 c_30 | exact absurd c_30 c_47 | exact Go.eq rfl (show _ = _ by first | (rw [opN, opG, if_pos (bB_t c_30), if_pos (bB_t c_47), ← nI_1 k, ← nI_1 (opN (moB (fun T => RZ (σ 1) (σ 2) (nI n) T q) 9) k)]; rfl) | (rw [opN, opG, if_neg (bB_f c_30), if_neg (bB_f c_47), ← nI_1 k, Nat.add_zero, Int32.add_zero]; rfl)) rfl rfl (ih (k + 1) (by omega))
      · refine g_iload dX11_openNow_50 rfl ?_
        refine g_goto (tgt := 57) dX11_openNow_52 rfl ?_
        refine g_istore dX11_openNow_57 (Nat.le_of_ble_eq_true rfl) rfl ?_
        refine g_iinc (v := 1) dX11_openNow_59 (by decide) rfl (Nat.le_of_ble_eq_true rfl) rfl ?_
        refine g_goto (tgt := 14) dX11_openNow_62 rfl ?_
        first | exact absurd c_47 c_30 | exact absurd c_30 c_47 | exact Go.eq rfl (show _ = _ by first | (rw [opN, opG, if_pos (bB_t c_30), if_pos (bB_t c_47), ← nI_1 k, ← nI_1 (opN (moB (fun T => RZ (σ 1) (σ 2) (nI n) T q) 9) k)]; rfl) | (rw [opN, opG, if_neg (bB_f c_30), if_neg (bB_f c_47), ← nI_1 k, Nat.add_zero, Int32.add_zero]; rfl)) rfl rfl (ih (k + 1) (by omega))
    · refine g_iconst (v := 1) dX11_openNow_33 (by decide) ?_
      refine g_goto (tgt := 38) dX11_openNow_34 rfl ?_
      refine g_iadd dX11_openNow_38 ?_
      refine g_istore_n dX11_openNow_39 rfl (Nat.le_of_ble_eq_true rfl) rfl ?_
      refine g_aload_n dX11_openNow_40 rfl rfl ?_
      refine g_getf dX11_openNow_41 fX11_50 mW_0 rfl ?_
      refine g_iload dX11_openNow_44 rfl ?_
      refine g_zald dX11_openNow_46 mA14 (vin_n (by omega) (by decide)) ?_
      rw [nI_clamp (by omega), hO k (by omega)]
      refine g_if_eq (tgt := 55) dX11_openNow_47 rfl (fun c_47 => ?_) (fun c_47 => ?_)
      · refine g_iload dX11_openNow_55 rfl ?_
        refine g_istore dX11_openNow_57 (Nat.le_of_ble_eq_true rfl) rfl ?_
        refine g_iinc (v := 1) dX11_openNow_59 (by decide) rfl (Nat.le_of_ble_eq_true rfl) rfl ?_
        refine g_goto (tgt := 14) dX11_openNow_62 rfl ?_
        first | exact absurd c_47 c_30 | exact absurd c_30 c_47 | exact Go.eq rfl (show _ = _ by first | (rw [opN, opG, if_pos (bB_t c_30), if_pos (bB_t c_47), ← nI_1 k, ← nI_1 (opN (moB (fun T => RZ (σ 1) (σ 2) (nI n) T q) 9) k)]; rfl) | (rw [opN, opG, if_neg (bB_f c_30), if_neg (bB_f c_47), ← nI_1 k, Nat.add_zero, Int32.add_zero]; rfl)) rfl rfl (ih (k + 1) (by omega))
      · refine g_iload dX11_openNow_50 rfl ?_
        refine g_goto (tgt := 57) dX11_openNow_52 rfl ?_
        refine g_istore dX11_openNow_57 (Nat.le_of_ble_eq_true rfl) rfl ?_
        refine g_iinc (v := 1) dX11_openNow_59 (by decide) rfl (Nat.le_of_ble_eq_true rfl) rfl ?_
        refine g_goto (tgt := 14) dX11_openNow_62 rfl ?_
        first | exact absurd c_47 c_30 | exact absurd c_30 c_47 | exact Go.eq rfl (show _ = _ by first | (rw [opN, opG, if_pos (bB_t c_30), if_pos (bB_t c_47), ← nI_1 k, ← nI_1 (opN (moB (fun T => RZ (σ 1) (σ 2) (nI n) T q) 9) k)]; rfl) | (rw [opN, opG, if_neg (bB_f c_30), if_neg (bB_f c_47), ← nI_1 k, Nat.add_zero, Int32.add_zero]; rfl)) rfl rfl (ih (k + 1) (by omega))
set_option maxRecDepth 100000 in
set_option maxHeartbeats 4000000 in
theorem CX11_openNow {x : Int32} (H : mKK σ n) (hq : q < n) : Ct l mX11_openNow [.ref 0, .int (nI q), .int x] (mW σ t) (fun r w' => ∃ σ', w' = mW σ' t ∧ mKK σ' n ∧ mSm σ σ' ∧ r = some (.int (if x = 0 then nI (opN (moB (fun T => RZ (σ 1) (σ 2) (nI n) T q) 9) 1000) else opG (moB (fun T => RZ (σ 1) (σ 2) (nI n) T q) 9) 1000))) := by
  refine Ct.of rfl (Nat.le_of_ble_eq_true rfl) ?_
  refine g_aload_n dX11_openNow_0 rfl rfl ?_
  refine g_iload_n dX11_openNow_1 rfl rfl ?_
  refine g_V1p (CX11_layOpen H hq) kX11_openNow_281 dX11_openNow_2 mW_0 rfl ⟨rfl, rfl⟩ (Nat.le_of_ble_eq_true rfl) ⟨(Nat.le_of_ble_eq_true rfl), (Nat.le_of_ble_eq_true rfl)⟩ ?_
  rintro rv w1 ⟨rfl, τ, rfl, hK, hS, hO⟩
  refine g_iconst (v := 0) dX11_openNow_5 (by decide) ?_
  refine g_istore_n dX11_openNow_6 rfl (Nat.le_of_ble_eq_true rfl) rfl ?_
  refine g_ldc dX11_openNow_7 tb_854 ?_
  refine g_istore dX11_openNow_9 (Nat.le_of_ble_eq_true rfl) rfl ?_
  refine g_iconst (v := 0) dX11_openNow_11 (by decide) ?_
  refine g_istore dX11_openNow_12 (Nat.le_of_ble_eq_true rfl) rfl ?_
  refine Go.mono (fun r w2 h => ?_) (Go.eq rfl rfl rfl rfl (CX11_onL hO 1000 0 (by omega)))
  exact ⟨τ, h.2, hK, hS, h.1⟩
set_option maxRecDepth 100000 in
set_option maxHeartbeats 4000000 in
theorem CX11_open_no {r : Int32} {x : Int32} (hn : n ≤ 8) (h0 : σ 0 0 = nI n) (hr : ¬ ldH (nI n) r) : Ct l mX11_open [.ref 0, .int r, .int x] (mW σ t) (q_eq (some (.int 2000000101)) (mW σ t)) := by
  refine Ct.of rfl (Nat.le_of_ble_eq_true rfl) ?_
  refine g_aload_n dX11_open_0 rfl rfl ?_
  refine g_iload_n dX11_open_1 rfl rfl ?_
  refine g_V1r (CX11_isRow h0) kX11_open_193 dX11_open_2 mW_0 rfl ⟨rfl, rfl⟩ (Nat.le_of_ble_eq_true rfl) ⟨(Nat.le_of_ble_eq_true rfl), (Nat.le_of_ble_eq_true rfl)⟩ ?_
  rw [mIsF hn hr]
  refine g_if_ne (tgt := 11) dX11_open_5 rfl (fun c_5 => by exfalso; revert c_5; decide) (fun c_5 => ?_)
  refine g_ldc dX11_open_8 tb_1020 ?_
  exact g_iret dX11_open_10 rfl rfl ⟨rfl, rfl⟩
set_option maxRecDepth 100000 in
set_option maxHeartbeats 4000000 in
theorem CX11_open_out {x : Int32} (hn : n ≤ 8) (h0 : σ 0 0 = nI n) (hq : q < n) (ho : ¬ (0 ≤ x ∧ x ≤ 1)) : Ct l mX11_open [.ref 0, .int (nI q), .int x] (mW σ t) (q_eq (some (.int 2000000102)) (mW σ t)) := by
  refine Ct.of rfl (Nat.le_of_ble_eq_true rfl) ?_
  refine g_aload_n dX11_open_0 rfl rfl ?_
  refine g_iload_n dX11_open_1 rfl rfl ?_
  refine g_V1r (CX11_isRow h0) kX11_open_193 dX11_open_2 mW_0 rfl ⟨rfl, rfl⟩ (Nat.le_of_ble_eq_true rfl) ⟨(Nat.le_of_ble_eq_true rfl), (Nat.le_of_ble_eq_true rfl)⟩ ?_
  rw [mIsT hn hq]
  refine g_if_ne (tgt := 11) dX11_open_5 rfl (fun c_5 => ?_) (fun c_5 => by exfalso; revert c_5; decide)
  refine g_iload_n dX11_open_11 rfl rfl ?_
  refine g_iconst (v := 0) dX11_open_12 (by decide) ?_
  refine g_iconst (v := 1) dX11_open_13 (by decide) ?_
  refine g_S3r CX11_within kX11_open_68 dX11_open_14 ⟨rfl, rfl⟩ (Nat.le_of_ble_eq_true rfl) ⟨(Nat.le_of_ble_eq_true rfl), (Nat.le_of_ble_eq_true rfl)⟩ ?_
  refine g_if_eq (tgt := 29) dX11_open_17 rfl (fun c_17 => ?_) (fun c_17 => by exact absurd (Classical.byContradiction (fun z => c_17 (bI_f z))) ho)
  refine g_ldc dX11_open_29 tb_964 ?_
  exact g_iret dX11_open_31 rfl rfl ⟨rfl, rfl⟩
set_option maxRecDepth 100000 in
set_option maxHeartbeats 4000000 in
theorem CX11_open {x : Int32} (H : mKK σ n) (hq : q < n) (hx : 0 ≤ x ∧ x ≤ 1) : Ct l mX11_open [.ref 0, .int (nI q), .int x] (mW σ t) (fun r w' => ∃ σ', w' = mW σ' t ∧ mKK σ' n ∧ mSm σ σ' ∧ r = some (.int (if x = 0 then nI (opN (moB (fun T => RZ (σ 1) (σ 2) (nI n) T q) 9) 1000) else opG (moB (fun T => RZ (σ 1) (σ 2) (nI n) T q) 9) 1000))) := by
  refine Ct.of rfl (Nat.le_of_ble_eq_true rfl) ?_
  have hn := H.1.1
  have h0 := H.1.2.1
  refine g_aload_n dX11_open_0 rfl rfl ?_
  refine g_iload_n dX11_open_1 rfl rfl ?_
  refine g_V1r (CX11_isRow h0) kX11_open_193 dX11_open_2 mW_0 rfl ⟨rfl, rfl⟩ (Nat.le_of_ble_eq_true rfl) ⟨(Nat.le_of_ble_eq_true rfl), (Nat.le_of_ble_eq_true rfl)⟩ ?_
  rw [mIsT hn hq]
  refine g_if_ne (tgt := 11) dX11_open_5 rfl (fun c_5 => ?_) (fun c_5 => by exfalso; revert c_5; decide)
  refine g_iload_n dX11_open_11 rfl rfl ?_
  refine g_iconst (v := 0) dX11_open_12 (by decide) ?_
  refine g_iconst (v := 1) dX11_open_13 (by decide) ?_
  refine g_S3r CX11_within kX11_open_68 dX11_open_14 ⟨rfl, rfl⟩ (Nat.le_of_ble_eq_true rfl) ⟨(Nat.le_of_ble_eq_true rfl), (Nat.le_of_ble_eq_true rfl)⟩ ?_
  refine g_if_eq (tgt := 29) dX11_open_17 rfl (fun c_17 => by exact absurd hx (bI_0.mp c_17)) (fun c_17 => ?_)
  refine g_aload_n dX11_open_20 rfl rfl ?_
  refine g_iload_n dX11_open_21 rfl rfl ?_
  refine g_iload_n dX11_open_22 rfl rfl ?_
  refine g_V2p (CX11_openNow H hq) kX11_open_284 dX11_open_23 mW_0 rfl ⟨rfl, rfl⟩ (Nat.le_of_ble_eq_true rfl) ⟨(Nat.le_of_ble_eq_true rfl), (Nat.le_of_ble_eq_true rfl)⟩ ?_
  rintro rv w1 ⟨τ, rfl, hK, hS, rfl⟩
  refine g_goto (tgt := 31) dX11_open_26 rfl ?_
  exact g_iret dX11_open_31 rfl rfl ⟨τ, rfl, hK, hS, rfl⟩
end
