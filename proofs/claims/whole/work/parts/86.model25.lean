/-- the reference's rows and their tables -/
def mKK (σ : Nat → Nat → Int32) (n : Nat) : Prop := mKt σ n ∧ mKr σ n
/-- what is kept while the reference only answers -/
def mSm (σ σ' : Nat → Nat → Int32) : Prop := (∀ c, c = 1 ∨ c = 2 ∨ c = 3 ∨ c = 4 ∨ c = 15 ∨ c = 16 ∨ c = 17 → σ' c = σ c) ∧ ∀ k, k = 0 ∨ k = 3 ∨ k = 4 ∨ k = 6 ∨ k = 26 ∨ k = 27 ∨ k = 28 → σ' 0 k = σ 0 k
theorem mSm.rf {σ : Nat → Nat → Int32} : mSm σ σ := ⟨fun _ _ => rfl, fun _ _ => rfl⟩
theorem mSm.tr {σ σ1 σ2 : Nat → Nat → Int32} (h : mSm σ σ1) (h2 : mSm σ1 σ2) : mSm σ σ2 := ⟨fun c a => (h2.1 c a).trans (h.1 c a), fun k a => (h2.2 k a).trans (h.2 k a)⟩
theorem mSr.sm {σ τ : Nat → Nat → Int32} (h : mSr σ τ) : mSm σ τ := ⟨fun c a => h.1 c (by omega) (by omega) (by omega) (by omega) (by omega), fun k a => h.2 k (by omega)⟩
theorem mSt.sm {σ τ : Nat → Nat → Int32} (h : mSt σ τ) : mSm σ τ := ⟨fun c a => h.1 c (by omega) (by omega), fun k a => h.2 k (by omega)⟩
theorem mKt_Sr {σ τ : Nat → Nat → Int32} {n : Nat} (h : mSr σ τ) (H : mKt σ n) : mKt τ n := by
  have e1 := h.1 1 (by decide) (by decide) (by decide) (by decide) (by decide)
  have e2 := h.1 2 (by decide) (by decide) (by decide) (by decide) (by decide)
  have e7 := h.1 7 (by decide) (by decide) (by decide) (by decide) (by decide)
  unfold mKt
  rw [e1, e2, e7, h.2 0 (by decide), h.2 13 (by decide)]
  exact H
theorem mKr_St {σ τ : Nat → Nat → Int32} {n : Nat} (h : mSt σ τ) (H : mKr σ n) : mKr τ n := by
  have e1 := h.1 1 (by decide) (by decide)
  have e2 := h.1 2 (by decide) (by decide)
  have e8 := h.1 8 (by decide) (by decide)
  have e9 := h.1 9 (by decide) (by decide)
  have e10 := h.1 10 (by decide) (by decide)
  unfold mKr mRd0 mRZ mRq
  rw [h.2 14 (by decide), e1, e2, e8, e9, e10]
  exact H
theorem mKK_Sr {σ τ : Nat → Nat → Int32} {n T : Nat} (hT : T < 9) (H : mKK σ n) (h : mSr σ τ) (hb : τ 0 14 = nI (2 + T)) (hR : mRd0 τ n T n) : mKK τ n := ⟨mKt_Sr h H.1, Or.inr ⟨T, hT, hb, hR⟩⟩
theorem mKK_St {σ τ : Nat → Nat → Int32} {n : Nat} (H : mKK σ n) (h : mSt σ τ) (ht : mKt τ n) : mKK τ n := ⟨ht, mKr_St h H.2⟩
theorem mSm.c1 {σ τ : Nat → Nat → Int32} (h : mSm σ τ) : τ 1 = σ 1 := h.1 1 (by decide)
theorem mSm.c2 {σ τ : Nat → Nat → Int32} (h : mSm σ τ) : τ 2 = σ 2 := h.1 2 (by decide)
theorem mRZ_zr {σ : Nat → Nat → Int32} {A : Nat → Int32} {T q ld tn : Nat} (hT : T < 9) (H : mRZ σ A T q ld tn) : mZr A ld tn = nI (zrA A (rnd T)) := by
  have := mRZ_lap hT H 2
  unfold mLpV lapV at this
  rw [if_neg (by decide), if_neg (by decide), if_neg (by decide), if_neg (by decide)] at this
  exact this
section
variable {l : Launch} {σ : Nat → Nat → Int32} {t : Nat → Int64} {n T q k : Nat}
theorem CX11_byK (hT : T < 9) (H : mKK σ n) (hq : q < n) (hk : k < 2147483648) : Ct l mX11_by [.ref 0, .int (nI q), .int (nI k), .int (nI (2 + T))] (mW σ t) (fun r w' => ∃ σ', w' = mW σ' t ∧ mKK σ' n ∧ mSm σ σ' ∧ r = some (.int (RZ (σ 1) (σ 2) (nI n) T q k))) :=
  Ct.mono (CX11_by hT H.1 H.2 hq hk) (fun r w' ⟨τ, e, hS, hb, hR, hr⟩ => ⟨τ, e, mKK_Sr hT H hS hb hR, hS.sm, hr⟩)
theorem CX11_byNowK (hT : T < 9) (H : mKK σ n) (hq : q < n) (hk : k < 2147483648) : Ct l mX11_byNow [.ref 0, .int (nI q), .int (nI k), .int (nI (2 + T))] (mW σ t) (fun r w' => ∃ σ', w' = mW σ' t ∧ mKK σ' n ∧ mSm σ σ' ∧ r = some (.int (RZ (σ 1) (σ 2) (nI n) T q k))) :=
  Ct.mono (CX11_byNow hT H.1 H.2 hq hk) (fun r w' ⟨τ, e, hS, hb, hR, hr⟩ => ⟨τ, e, mKK_Sr hT H hS hb hR, hS.sm, hr⟩)
theorem CX11_lapNowK {x : Int32} (hT : T < 9) (H : mKK σ n) (hq : q < n) : Ct l mX11_lapNow [.ref 0, .int (nI q), .int (nI (2 + T)), .int x] (mW σ t) (fun r w' => ∃ σ', w' = mW σ' t ∧ mKK σ' n ∧ mSm σ σ' ∧ r = some (.int (lapV (RZ (σ 1) (σ 2) (nI n) T q) (rnd T) x))) :=
  Ct.mono (CX11_lapNow hT H.1 H.2 hq) (fun r w' ⟨τ, ld, tn, e, hS, hb, hR, hZ, hr⟩ => ⟨τ, e, mKK_Sr hT H hS hb hR, hS.sm, by rw [hr, mRZ_lap hT hZ]⟩)
set_option maxRecDepth 100000 in
set_option maxHeartbeats 4000000 in
theorem CX11_by_no {r : Int32} {k m : Int32} (hn : n ≤ 8) (h0 : σ 0 0 = nI n) (hr : ¬ ldH (nI n) r) : Ct l mX11_by [.ref 0, .int r, .int k, .int m] (mW σ t) (q_eq (some (.int 2000000101)) (mW σ t)) := by
  refine Ct.of rfl (Nat.le_of_ble_eq_true rfl) ?_
  refine g_aload_n dX11_by_0 rfl rfl ?_
  refine g_iload_n dX11_by_1 rfl rfl ?_
  refine g_V1r (CX11_isRow h0) kX11_by_193 dX11_by_2 mW_0 rfl ⟨rfl, rfl⟩ (Nat.le_of_ble_eq_true rfl) ⟨(Nat.le_of_ble_eq_true rfl), (Nat.le_of_ble_eq_true rfl)⟩ ?_
  rw [mIsF hn hr]
  refine g_if_ne (tgt := 11) dX11_by_5 rfl (fun c_5 => by exfalso; revert c_5; decide) (fun c_5 => ?_)
  refine g_ldc dX11_by_8 tb_1020 ?_
  exact g_iret dX11_by_10 rfl rfl ⟨rfl, rfl⟩
set_option maxRecDepth 100000 in
set_option maxHeartbeats 4000000 in
theorem CX11_by_out {k m : Int32} (hn : n ≤ 8) (h0 : σ 0 0 = nI n) (hq : q < n) (ho : ¬ (0 ≤ k ∧ 2 ≤ m ∧ m ≤ 10)) : Ct l mX11_by [.ref 0, .int (nI q), .int k, .int m] (mW σ t) (q_eq (some (.int 2000000102)) (mW σ t)) := by
  refine Ct.of rfl (Nat.le_of_ble_eq_true rfl) ?_
  refine g_aload_n dX11_by_0 rfl rfl ?_
  refine g_iload_n dX11_by_1 rfl rfl ?_
  refine g_V1r (CX11_isRow h0) kX11_by_193 dX11_by_2 mW_0 rfl ⟨rfl, rfl⟩ (Nat.le_of_ble_eq_true rfl) ⟨(Nat.le_of_ble_eq_true rfl), (Nat.le_of_ble_eq_true rfl)⟩ ?_
  rw [mIsT hn hq]
  refine g_if_ne (tgt := 11) dX11_by_5 rfl (fun c_5 => ?_) (fun c_5 => by exfalso; revert c_5; decide)
  refine g_iload_n dX11_by_11 rfl rfl ?_
  refine g_if_lt (tgt := 35) dX11_by_12 rfl (fun c_12 => ?_) (fun c_12 => ?_)
  · refine g_ldc dX11_by_35 tb_964 ?_
    exact g_iret dX11_by_37 rfl rfl ⟨rfl, rfl⟩
  · refine g_iload_n dX11_by_15 rfl rfl ?_
    refine g_iconst (v := 2) dX11_by_16 (by decide) ?_
    refine g_bipush (v := 10) dX11_by_17 (by decide) ?_
    refine g_S3r CX11_within kX11_by_68 dX11_by_19 ⟨rfl, rfl⟩ (Nat.le_of_ble_eq_true rfl) ⟨(Nat.le_of_ble_eq_true rfl), (Nat.le_of_ble_eq_true rfl)⟩ ?_
    refine g_if_eq (tgt := 35) dX11_by_22 rfl (fun c_22 => ?_) (fun c_22 => by exact absurd ⟨Int32.not_lt.mp c_12, Classical.byContradiction (fun z => c_22 (bI_f z))⟩ ho)
    refine g_ldc dX11_by_35 tb_964 ?_
    exact g_iret dX11_by_37 rfl rfl ⟨rfl, rfl⟩
set_option maxRecDepth 100000 in
set_option maxHeartbeats 4000000 in
theorem CX11_lap_no {r : Int32} {k m : Int32} (hn : n ≤ 8) (h0 : σ 0 0 = nI n) (hr : ¬ ldH (nI n) r) : Ct l mX11_lap [.ref 0, .int r, .int k, .int m] (mW σ t) (q_eq (some (.int 2000000101)) (mW σ t)) := by
  refine Ct.of rfl (Nat.le_of_ble_eq_true rfl) ?_
  refine g_aload_n dX11_lap_0 rfl rfl ?_
  refine g_iload_n dX11_lap_1 rfl rfl ?_
  refine g_V1r (CX11_isRow h0) kX11_lap_193 dX11_lap_2 mW_0 rfl ⟨rfl, rfl⟩ (Nat.le_of_ble_eq_true rfl) ⟨(Nat.le_of_ble_eq_true rfl), (Nat.le_of_ble_eq_true rfl)⟩ ?_
  rw [mIsF hn hr]
  refine g_if_ne (tgt := 11) dX11_lap_5 rfl (fun c_5 => by exfalso; revert c_5; decide) (fun c_5 => ?_)
  refine g_ldc dX11_lap_8 tb_1020 ?_
  exact g_iret dX11_lap_10 rfl rfl ⟨rfl, rfl⟩
set_option maxRecDepth 100000 in
set_option maxHeartbeats 4000000 in
theorem CX11_lap_out {m x : Int32} (hn : n ≤ 8) (h0 : σ 0 0 = nI n) (hq : q < n) (ho : ¬ ((2 ≤ m ∧ m ≤ 10) ∧ 0 ≤ x ∧ x ≤ 2)) : Ct l mX11_lap [.ref 0, .int (nI q), .int m, .int x] (mW σ t) (q_eq (some (.int 2000000102)) (mW σ t)) := by
  refine Ct.of rfl (Nat.le_of_ble_eq_true rfl) ?_
  refine g_aload_n dX11_lap_0 rfl rfl ?_
  refine g_iload_n dX11_lap_1 rfl rfl ?_
  refine g_V1r (CX11_isRow h0) kX11_lap_193 dX11_lap_2 mW_0 rfl ⟨rfl, rfl⟩ (Nat.le_of_ble_eq_true rfl) ⟨(Nat.le_of_ble_eq_true rfl), (Nat.le_of_ble_eq_true rfl)⟩ ?_
  rw [mIsT hn hq]
  refine g_if_ne (tgt := 11) dX11_lap_5 rfl (fun c_5 => ?_) (fun c_5 => by exfalso; revert c_5; decide)
  refine g_iload_n dX11_lap_11 rfl rfl ?_
  refine g_iconst (v := 2) dX11_lap_12 (by decide) ?_
  refine g_bipush (v := 10) dX11_lap_13 (by decide) ?_
  refine g_S3r CX11_within kX11_lap_68 dX11_lap_15 ⟨rfl, rfl⟩ (Nat.le_of_ble_eq_true rfl) ⟨(Nat.le_of_ble_eq_true rfl), (Nat.le_of_ble_eq_true rfl)⟩ ?_
  refine g_if_eq (tgt := 40) dX11_lap_18 rfl (fun c_18 => ?_) (fun c_18 => ?_)
  · refine g_ldc dX11_lap_40 tb_964 ?_
    exact g_iret dX11_lap_42 rfl rfl ⟨rfl, rfl⟩
  · refine g_iload_n dX11_lap_21 rfl rfl ?_
    refine g_iconst (v := 0) dX11_lap_22 (by decide) ?_
    refine g_iconst (v := 2) dX11_lap_23 (by decide) ?_
    refine g_S3r CX11_within kX11_lap_68 dX11_lap_24 ⟨rfl, rfl⟩ (Nat.le_of_ble_eq_true rfl) ⟨(Nat.le_of_ble_eq_true rfl), (Nat.le_of_ble_eq_true rfl)⟩ ?_
    refine g_if_eq (tgt := 40) dX11_lap_27 rfl (fun c_27 => ?_) (fun c_27 => by exact absurd ⟨Classical.byContradiction (fun z => c_18 (bI_f z)), Classical.byContradiction (fun z => c_27 (bI_f z))⟩ ho)
    refine g_ldc dX11_lap_40 tb_964 ?_
    exact g_iret dX11_lap_42 rfl rfl ⟨rfl, rfl⟩
set_option maxRecDepth 100000 in
set_option maxHeartbeats 4000000 in
theorem CX11_lap {x : Int32} (hT : T < 9) (H : mKK σ n) (hq : q < n) (hx : 0 ≤ x ∧ x ≤ 2) : Ct l mX11_lap [.ref 0, .int (nI q), .int (nI (2 + T)), .int x] (mW σ t) (fun r w' => ∃ σ', w' = mW σ' t ∧ mKK σ' n ∧ mSm σ σ' ∧ r = some (.int (lapV (RZ (σ 1) (σ 2) (nI n) T q) (rnd T) x))) := by
  refine Ct.of rfl (Nat.le_of_ble_eq_true rfl) ?_
  have hn := H.1.1
  have h0 := H.1.2.1
  refine g_aload_n dX11_lap_0 rfl rfl ?_
  refine g_iload_n dX11_lap_1 rfl rfl ?_
  refine g_V1r (CX11_isRow h0) kX11_lap_193 dX11_lap_2 mW_0 rfl ⟨rfl, rfl⟩ (Nat.le_of_ble_eq_true rfl) ⟨(Nat.le_of_ble_eq_true rfl), (Nat.le_of_ble_eq_true rfl)⟩ ?_
  rw [mIsT hn hq]
  refine g_if_ne (tgt := 11) dX11_lap_5 rfl (fun c_5 => ?_) (fun c_5 => by exfalso; revert c_5; decide)
  refine g_iload_n dX11_lap_11 rfl rfl ?_
  refine g_iconst (v := 2) dX11_lap_12 (by decide) ?_
  refine g_bipush (v := 10) dX11_lap_13 (by decide) ?_
  refine g_S3r CX11_within kX11_lap_68 dX11_lap_15 ⟨rfl, rfl⟩ (Nat.le_of_ble_eq_true rfl) ⟨(Nat.le_of_ble_eq_true rfl), (Nat.le_of_ble_eq_true rfl)⟩ ?_
  refine g_if_eq (tgt := 40) dX11_lap_18 rfl (fun c_18 => by exact absurd ⟨nI_le (a := 2) (by omega) (by omega), nI_le (b := 10) (by omega) (by decide)⟩ (bI_0.mp c_18)) (fun c_18 => ?_)
  refine g_iload_n dX11_lap_21 rfl rfl ?_
  refine g_iconst (v := 0) dX11_lap_22 (by decide) ?_
  refine g_iconst (v := 2) dX11_lap_23 (by decide) ?_
  refine g_S3r CX11_within kX11_lap_68 dX11_lap_24 ⟨rfl, rfl⟩ (Nat.le_of_ble_eq_true rfl) ⟨(Nat.le_of_ble_eq_true rfl), (Nat.le_of_ble_eq_true rfl)⟩ ?_
  refine g_if_eq (tgt := 40) dX11_lap_27 rfl (fun c_27 => by exact absurd hx (bI_0.mp c_27)) (fun c_27 => ?_)
  refine g_aload_n dX11_lap_30 rfl rfl ?_
  refine g_iload_n dX11_lap_31 rfl rfl ?_
  refine g_iload_n dX11_lap_32 rfl rfl ?_
  refine g_iload_n dX11_lap_33 rfl rfl ?_
  refine g_V3p (CX11_lapNowK hT H hq) kX11_lap_213 dX11_lap_34 mW_0 rfl ⟨rfl, rfl⟩ (Nat.le_of_ble_eq_true rfl) ⟨(Nat.le_of_ble_eq_true rfl), (Nat.le_of_ble_eq_true rfl)⟩ ?_
  rintro rv w1 ⟨τ, rfl, hK, hS, rfl⟩
  refine g_goto (tgt := 42) dX11_lap_37 rfl ?_
  exact g_iret dX11_lap_42 rfl rfl ⟨τ, rfl, hK, hS, rfl⟩
set_option maxRecDepth 100000 in
set_option maxHeartbeats 4000000 in
theorem CX11_ends_no {r : Int32} (hn : n ≤ 8) (h0 : σ 0 0 = nI n) (hr : ¬ ldH (nI n) r) : Ct l mX11_ends [.ref 0, .int r] (mW σ t) (q_eq (some (.int 2000000101)) (mW σ t)) := by
  refine Ct.of rfl (Nat.le_of_ble_eq_true rfl) ?_
  refine g_aload_n dX11_ends_0 rfl rfl ?_
  refine g_iload_n dX11_ends_1 rfl rfl ?_
  refine g_V1r (CX11_isRow h0) kX11_ends_193 dX11_ends_2 mW_0 rfl ⟨rfl, rfl⟩ (Nat.le_of_ble_eq_true rfl) ⟨(Nat.le_of_ble_eq_true rfl), (Nat.le_of_ble_eq_true rfl)⟩ ?_
  rw [mIsF hn hr]
  refine g_if_ne (tgt := 11) dX11_ends_5 rfl (fun c_5 => by exfalso; revert c_5; decide) (fun c_5 => ?_)
  refine g_ldc dX11_ends_8 tb_1020 ?_
  exact g_iret dX11_ends_10 rfl rfl ⟨rfl, rfl⟩
set_option maxRecDepth 100000 in
set_option maxHeartbeats 4000000 in
theorem CX11_endsL {n0 : Nat} (hq : q < n) : ∀ (d j : Nat) (τ : Nat → Nat → Int32), j + d = 9 → mKK τ n → mSm σ τ → Go l mX11_ends n0 (fun r w' => ∃ σ', w' = mW σ' t ∧ mKK σ' n ∧ mSm σ σ' ∧ r = some (.int (enF (zrQ (σ 1) (σ 2) (nI n) q) d j))) (0, 0) 13 [some (.ref 0), some (.int (nI q)), some (.int (nI (2 + j)))] [] (mW τ t) := by
  intro d
  induction d with
  | zero =>
    intro j τ hj hK hS
    have e1 : j = 9 := by omega
    subst e1
    refine g_iload_n dX11_ends_13 rfl rfl ?_
    refine g_bipush (v := 10) dX11_ends_14 (by decide) ?_
    refine g_icmp_gt (tgt := 40) dX11_ends_16 rfl (fun c_16 => ?_) (fun c_16 => by exfalso; revert c_16; decide)
    refine g_ldc dX11_ends_40 tb_854 ?_
    exact g_iret dX11_ends_42 rfl rfl ⟨τ, rfl, hK, hS, rfl⟩
  | succ d ih =>
    intro j τ hj hK hS
    have hT : j < 9 := by omega
    refine g_iload_n dX11_ends_13 rfl rfl ?_
    refine g_bipush (v := 10) dX11_ends_14 (by decide) ?_
    refine g_icmp_gt (tgt := 40) dX11_ends_16 rfl (fun c_16 => by exact absurd c_16 (nI_nlt (a := 10) (b := 2 + j) (by omega) (by decide))) (fun c_16 => ?_)
    refine g_aload_n dX11_ends_19 rfl rfl ?_
    refine g_iload_n dX11_ends_20 rfl rfl ?_
    refine g_V1p (CX11_layRests hT (T := j) hK.1.1 hK.1.2.1 hK.1.2.2.1 hK.1.2.2.2.1 hK.2) kX11_ends_204 dX11_ends_21 mW_0 rfl ⟨rfl, rfl⟩ (Nat.le_of_ble_eq_true rfl) ⟨(Nat.le_of_ble_eq_true rfl), (Nat.le_of_ble_eq_true rfl)⟩ ?_
    rintro rv w1 ⟨rfl, τ1, rfl, hS1, hb, hR⟩
    obtain ⟨ld, tn, HZ⟩ := hR q hq
    have hK1 := mKK_Sr hT hK hS1 hb hR
    have hS2 := hS.tr hS1.sm
    rw [hS2.c1, hS2.c2] at HZ
    refine g_aload_n dX11_ends_24 rfl rfl ?_
    refine g_iload_n dX11_ends_25 rfl rfl ?_
    refine g_V1r (CX11_zerosOf HZ.1 (mRZ_v HZ) HZ.2.2.2) kX11_ends_210 dX11_ends_26 mW_0 rfl ⟨rfl, rfl⟩ (Nat.le_of_ble_eq_true rfl) ⟨(Nat.le_of_ble_eq_true rfl), (Nat.le_of_ble_eq_true rfl)⟩ ?_
    rw [show mZr (RZ (σ 1) (σ 2) (nI n) j q) ld tn = nI (zrQ (σ 1) (σ 2) (nI n) q j) from mRZ_zr hT HZ]
    refine g_if_ne (tgt := 34) dX11_ends_29 rfl (fun c_29 => ?_) (fun c_29 => ?_)
    · refine g_iinc (v := 1) dX11_ends_34 (by decide) rfl (Nat.le_of_ble_eq_true rfl) rfl ?_
      refine g_goto (tgt := 13) dX11_ends_37 rfl ?_
      rw [show enF (zrQ (σ 1) (σ 2) (nI n) q) (d + 1) j = enF (zrQ (σ 1) (σ 2) (nI n) q) d (j + 1) by rw [enF, if_neg (fun z => c_29 (by rw [z]; rfl))]]
      exact Go.eq rfl (show _ = _ by rw [show 2 + (j + 1) = 2 + j + 1 by omega, ← nI_1 (2 + j)]; rfl) rfl rfl (ih (j + 1) τ1 (by omega) hK1 hS2)
    · refine g_iload_n dX11_ends_32 rfl rfl ?_
      exact g_iret dX11_ends_33 rfl rfl ⟨τ1, rfl, hK1, hS2, by rw [enF, if_pos (by have hz := (zrA_le (RZ (σ 1) (σ 2) (nI n) j q) (rnd_bd j hT).1); have hr := rnd_bd j hT; exact (nI0 (n := zrQ (σ 1) (σ 2) (nI n) q j) (by unfold zrQ; omega)).mp c_29)]⟩
set_option maxRecDepth 100000 in
set_option maxHeartbeats 4000000 in
theorem CX11_ends (H : mKK σ n) (hq : q < n) : Ct l mX11_ends [.ref 0, .int (nI q)] (mW σ t) (fun r w' => ∃ σ', w' = mW σ' t ∧ mKK σ' n ∧ mSm σ σ' ∧ r = some (.int (enF (zrQ (σ 1) (σ 2) (nI n) q) 9 0))) := by
  refine Ct.of rfl (Nat.le_of_ble_eq_true rfl) ?_
  have hn := H.1.1
  have h0 := H.1.2.1
  refine g_aload_n dX11_ends_0 rfl rfl ?_
  refine g_iload_n dX11_ends_1 rfl rfl ?_
  refine g_V1r (CX11_isRow h0) kX11_ends_193 dX11_ends_2 mW_0 rfl ⟨rfl, rfl⟩ (Nat.le_of_ble_eq_true rfl) ⟨(Nat.le_of_ble_eq_true rfl), (Nat.le_of_ble_eq_true rfl)⟩ ?_
  rw [mIsT hn hq]
  refine g_if_ne (tgt := 11) dX11_ends_5 rfl (fun c_5 => ?_) (fun c_5 => by exfalso; revert c_5; decide)
  refine g_iconst (v := 2) dX11_ends_11 (by decide) ?_
  refine g_istore_n dX11_ends_12 rfl (Nat.le_of_ble_eq_true rfl) rfl ?_
  exact Go.eq rfl rfl rfl rfl (CX11_endsL hq 9 0 σ (by omega) H mSm.rf)
end
