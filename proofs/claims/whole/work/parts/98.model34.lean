def rwM (K N : Nat → Int32) (q j : Nat) : Int32 := if j = 0 then K q else N (4 * q + (j - 1))
def dgRm (K N : Nat → Int32) (sz : Int32) (h : Int64) (q : Nat) : Int64 :=
  31 * hsF (31 * hsF (hsF h (rwM K N q) 5) (fun j => vAt (TT K N sz) (nI q) (nI j)) 8 + (RZ K N sz 5 q 1000000).toInt64) (fun j => lapV (RZ K N sz 3 q) (rnd 3) (nI j)) 3 + (nsF (TT K N sz) (nI q) 24).toInt64
def dgAm (K N : Nat → Int32) (sz : Int32) (h : Int64) : Nat → Int64
  | 0 => h
  | q + 1 => dgRm K N sz (dgAm K N sz h q) q
def hmV (σ : Nat → Nat → Int32) (n : Nat) (k : Int32) : Int32 := if k = 0 then σ 0 0 else if k = 1 then mTM σ 0 n else if k = 2 then mTM σ 1 n else if k = 3 then σ 0 4 else if k = 4 then σ 0 6 else if k = 5 then σ 0 3 else 2000000102
def dgWm (σ : Nat → Nat → Int32) (n g p : Nat) : Int64 :=
  hsF (hsF (hsF (hsF (dgAm (σ 1) (σ 2) (nI n) 1493 n) (σ 3) g) (fun j => gtV (σ 3) g (nI j)) 3) (σ 4) p) (fun j => hmV σ n (nI j)) 6
theorem mTM_sm {σ τ : Nat → Nat → Int32} {wt : Int32} (h1 : τ 1 = σ 1) (h2 : τ 2 = σ 2) : ∀ j, mTM τ wt j = mTM σ wt j
  | 0 => rfl
  | j + 1 => by unfold mTM; rw [mTM_sm h1 h2 j, h1, h2]
theorem hmV_sm {σ τ : Nat → Nat → Int32} {n : Nat} {k : Int32} (h : mSm σ τ) : hmV τ n k = hmV σ n k := by
  unfold hmV
  rw [mTM_sm h.c1 h.c2, mTM_sm h.c1 h.c2, h.2 0 (by decide), h.2 4 (by decide), h.2 6 (by decide), h.2 3 (by decide)]
theorem mG2_KK {σ : Nat → Nat → Int32} {n : Nat} {u v : Int32} (H : mKK σ n) : mKK (mG2 σ u v) n := mKK_keep (fun c hc => by unfold mG2; rw [put_ne (by omega), put_ne (by omega)]) (fun k hk => by unfold mG2; rw [put_ix, if_neg (by omega), put_ix, if_neg (by omega)]) H
theorem mG2_sm {σ : Nat → Nat → Int32} {u v : Int32} : mSm σ (mG2 σ u v) := ⟨fun c hc => by unfold mG2; rw [put_ne (by omega), put_ne (by omega)], fun k hk => by unfold mG2; rw [put_ix, if_neg (by omega), put_ix, if_neg (by omega)]⟩
section
variable {l : Launch} {σ : Nat → Nat → Int32} {n q : Nat} {h : Int64}
set_option maxRecDepth 100000 in
set_option maxHeartbeats 4000000 in
theorem CX11_mrA {n0 : Nat} (hq : q < n) (hX : ∀ (τ : Nat → Nat → Int32) (t : Nat → Int64) (x2 : Option Value), mKK τ n → mSm σ τ → t 32 = (hsF h (rwM (σ 1) (σ 2) q) 5) → Go l mX11_mixRow n0 (fun r w' => r = none ∧ ∃ σ' t', w' = mW σ' t' ∧ mKK σ' n ∧ mSm σ σ' ∧ t' 32 = dgRm (σ 1) (σ 2) (nI n) h q) (0, 0) 39 [some (.ref 0), some (.int (nI q)), x2] [] (mW τ t)) : ∀ (d k : Nat) (τ : Nat → Nat → Int32) (t : Nat → Int64), k + d = 4 → mKK τ n → mSm σ τ → t 32 = (hsF h (rwM (σ 1) (σ 2) q) (k + 1)) → Go l mX11_mixRow n0 (fun r w' => r = none ∧ ∃ σ' t', w' = mW σ' t' ∧ mKK σ' n ∧ mSm σ σ' ∧ t' 32 = dgRm (σ 1) (σ 2) (nI n) h q) (0, 0) 13 [some (.ref 0), some (.int (nI q)), some (.int (nI k))] [] (mW τ t) := by
  intro d
  induction d with
  | zero =>
    intro k τ t hk hK hS ht
    have e1 : 4 = k := by omega
    subst e1
    refine g_iload_n dX11_mixRow_13 rfl rfl ?_
    refine g_iconst (v := 4) dX11_mixRow_14 (by decide) ?_
    refine g_icmp_ge (tgt := 39) dX11_mixRow_15 rfl (fun c_15 => ?_) (fun c_15 => by exfalso; revert c_15; decide)
    exact hX τ t _ hK hS ht
  | succ d ih =>
    intro k τ t hk hK hS ht
    have hn := hK.1.1
    refine g_iload_n dX11_mixRow_13 rfl rfl ?_
    refine g_iconst (v := 4) dX11_mixRow_14 (by decide) ?_
    refine g_icmp_ge (tgt := 39) dX11_mixRow_15 rfl (fun c_15 => by exact absurd c_15 (nI_ge (b := 4) (by omega) (by omega))) (fun c_15 => ?_)
    refine g_aload_n dX11_mixRow_18 rfl rfl ?_
    refine g_aload_n dX11_mixRow_19 rfl rfl ?_
    refine g_getf dX11_mixRow_20 fX11_13 mW_0 rfl ?_
    refine g_iconst (v := 4) dX11_mixRow_23 (by decide) ?_
    refine g_iload_n dX11_mixRow_24 rfl rfl ?_
    refine g_imul dX11_mixRow_25 ?_
    rw [show (4 : Int32) * nI q = nI (4 * q) from nI_mul 4 q]
    refine g_iload_n dX11_mixRow_26 rfl rfl ?_
    refine g_iadd dX11_mixRow_27 ?_
    rw [nI_add]
    refine g_iald dX11_mixRow_28 mA2 (vin_n (by omega) (by decide)) ?_
    rw [nI_clamp (by omega), hS.c2]
    refine g_i2l dX11_mixRow_29 ?_
    refine g_V1v CX11_mix kX11_mixRow_377 dX11_mixRow_30 mW_0 rfl ⟨rfl, rfl⟩ (Nat.le_of_ble_eq_true rfl) ⟨(Nat.le_of_ble_eq_true rfl), (Nat.le_of_ble_eq_true rfl)⟩ ?_
    refine g_iinc (v := 1) dX11_mixRow_33 (by decide) rfl (Nat.le_of_ble_eq_true rfl) rfl ?_
    refine g_goto (tgt := 13) dX11_mixRow_36 rfl ?_
    exact Go.eq rfl (show _ = _ by rw [← nI_1 k]; rfl) rfl rfl (ih (k + 1) τ _ (by omega) hK hS (by show 31 * t 32 + _ = _; rw [ht]; rfl))
set_option maxRecDepth 100000 in
set_option maxHeartbeats 4000000 in
theorem CX11_mrB {n0 : Nat} {h2 : Int64} (hq : q < n) (hX : ∀ (τ : Nat → Nat → Int32) (t : Nat → Int64) (x2 : Option Value), mKK τ n → mSm σ τ → t 32 = (hsF h2 (fun j => vAt (TT (σ 1) (σ 2) (nI n)) (nI q) (nI j)) 8) → Go l mX11_mixRow n0 (fun r w' => r = none ∧ ∃ σ' t', w' = mW σ' t' ∧ mKK σ' n ∧ mSm σ σ' ∧ t' 32 = dgRm (σ 1) (σ 2) (nI n) h q) (0, 0) 64 [some (.ref 0), some (.int (nI q)), x2] [] (mW τ t)) : ∀ (d k : Nat) (τ : Nat → Nat → Int32) (t : Nat → Int64), k + d = 8 → mKK τ n → mSm σ τ → t 32 = (hsF h2 (fun j => vAt (TT (σ 1) (σ 2) (nI n)) (nI q) (nI j)) k) → Go l mX11_mixRow n0 (fun r w' => r = none ∧ ∃ σ' t', w' = mW σ' t' ∧ mKK σ' n ∧ mSm σ σ' ∧ t' 32 = dgRm (σ 1) (σ 2) (nI n) h q) (0, 0) 41 [some (.ref 0), some (.int (nI q)), some (.int (nI k))] [] (mW τ t) := by
  intro d
  induction d with
  | zero =>
    intro k τ t hk hK hS ht
    have e1 : 8 = k := by omega
    subst e1
    refine g_iload_n dX11_mixRow_41 rfl rfl ?_
    refine g_bipush (v := 8) dX11_mixRow_42 (by decide) ?_
    refine g_icmp_ge (tgt := 64) dX11_mixRow_44 rfl (fun c_44 => ?_) (fun c_44 => by exfalso; revert c_44; decide)
    exact hX τ t _ hK hS ht
  | succ d ih =>
    intro k τ t hk hK hS ht
    refine g_iload_n dX11_mixRow_41 rfl rfl ?_
    refine g_bipush (v := 8) dX11_mixRow_42 (by decide) ?_
    refine g_icmp_ge (tgt := 64) dX11_mixRow_44 rfl (fun c_44 => by exact absurd c_44 (nI_ge (b := 8) (by omega) (by omega))) (fun c_44 => ?_)
    refine g_aload_n dX11_mixRow_47 rfl rfl ?_
    refine g_aload_n dX11_mixRow_48 rfl rfl ?_
    refine g_iload_n dX11_mixRow_49 rfl rfl ?_
    refine g_iload_n dX11_mixRow_50 rfl rfl ?_
    refine g_V2r (CX11_termOf hK.1 hq (k := k) (by omega)) kX11_mixRow_201 dX11_mixRow_51 mW_0 rfl ⟨rfl, rfl⟩ (Nat.le_of_ble_eq_true rfl) ⟨(Nat.le_of_ble_eq_true rfl), (Nat.le_of_ble_eq_true rfl)⟩ ?_
    rw [hS.c1, hS.c2]
    refine g_i2l dX11_mixRow_54 ?_
    refine g_V1v CX11_mix kX11_mixRow_377 dX11_mixRow_55 mW_0 rfl ⟨rfl, rfl⟩ (Nat.le_of_ble_eq_true rfl) ⟨(Nat.le_of_ble_eq_true rfl), (Nat.le_of_ble_eq_true rfl)⟩ ?_
    refine g_iinc (v := 1) dX11_mixRow_58 (by decide) rfl (Nat.le_of_ble_eq_true rfl) rfl ?_
    refine g_goto (tgt := 41) dX11_mixRow_61 rfl ?_
    exact Go.eq rfl (show _ = _ by rw [← nI_1 k]; rfl) rfl rfl (ih (k + 1) (mLt τ n) _ (by omega) (mKK_St hK (mLt_S hK.1) (mLt_K hK.1).1) (hS.tr (mLt_S hK.1).sm) (by show 31 * t 32 + _ = _; rw [ht]; rfl))
set_option maxRecDepth 100000 in
set_option maxHeartbeats 4000000 in
theorem CX11_mrC {n0 : Nat} {h2 : Int64} (hq : q < n) (hX : ∀ (τ : Nat → Nat → Int32) (t : Nat → Int64) (x2 : Option Value), mKK τ n → mSm σ τ → t 32 = (hsF h2 (fun j => lapV (RZ (σ 1) (σ 2) (nI n) 3 q) (rnd 3) (nI j)) 3) → Go l mX11_mixRow n0 (fun r w' => r = none ∧ ∃ σ' t', w' = mW σ' t' ∧ mKK σ' n ∧ mSm σ σ' ∧ t' 32 = dgRm (σ 1) (σ 2) (nI n) h q) (0, 0) 104 [some (.ref 0), some (.int (nI q)), x2] [] (mW τ t)) : ∀ (d k : Nat) (τ : Nat → Nat → Int32) (t : Nat → Int64), k + d = 3 → mKK τ n → mSm σ τ → t 32 = (hsF h2 (fun j => lapV (RZ (σ 1) (σ 2) (nI n) 3 q) (rnd 3) (nI j)) k) → Go l mX11_mixRow n0 (fun r w' => r = none ∧ ∃ σ' t', w' = mW σ' t' ∧ mKK σ' n ∧ mSm σ σ' ∧ t' 32 = dgRm (σ 1) (σ 2) (nI n) h q) (0, 0) 81 [some (.ref 0), some (.int (nI q)), some (.int (nI k))] [] (mW τ t) := by
  intro d
  induction d with
  | zero =>
    intro k τ t hk hK hS ht
    have e1 : 3 = k := by omega
    subst e1
    refine g_iload_n dX11_mixRow_81 rfl rfl ?_
    refine g_iconst (v := 3) dX11_mixRow_82 (by decide) ?_
    refine g_icmp_ge (tgt := 104) dX11_mixRow_83 rfl (fun c_83 => ?_) (fun c_83 => by exfalso; revert c_83; decide)
    exact hX τ t _ hK hS ht
  | succ d ih =>
    intro k τ t hk hK hS ht
    have LP : Ct l mX11_lapNow [.ref 0, .int (nI q), .int 5, .int (nI k)] (mW τ t) (fun r w' => ∃ σ', w' = mW σ' t ∧ mKK σ' n ∧ mSm τ σ' ∧ r = some (.int (lapV (RZ (τ 1) (τ 2) (nI n) 3 q) (rnd 3) (nI k)))) := CX11_lapNowK (T := 3) (by decide) hK hq
    refine g_iload_n dX11_mixRow_81 rfl rfl ?_
    refine g_iconst (v := 3) dX11_mixRow_82 (by decide) ?_
    refine g_icmp_ge (tgt := 104) dX11_mixRow_83 rfl (fun c_83 => by exact absurd c_83 (nI_ge (b := 3) (by omega) (by omega))) (fun c_83 => ?_)
    refine g_aload_n dX11_mixRow_86 rfl rfl ?_
    refine g_aload_n dX11_mixRow_87 rfl rfl ?_
    refine g_iload_n dX11_mixRow_88 rfl rfl ?_
    refine g_iconst (v := 5) dX11_mixRow_89 (by decide) ?_
    refine g_iload_n dX11_mixRow_90 rfl rfl ?_
    refine g_V3p LP kX11_mixRow_213 dX11_mixRow_91 mW_0 rfl ⟨rfl, rfl⟩ (Nat.le_of_ble_eq_true rfl) ⟨(Nat.le_of_ble_eq_true rfl), (Nat.le_of_ble_eq_true rfl)⟩ ?_
    rintro rv w1 ⟨τ1, rfl, hK1, hS1, rfl⟩
    rw [hS.c1, hS.c2]
    refine g_i2l dX11_mixRow_94 ?_
    refine g_V1v CX11_mix kX11_mixRow_377 dX11_mixRow_95 mW_0 rfl ⟨rfl, rfl⟩ (Nat.le_of_ble_eq_true rfl) ⟨(Nat.le_of_ble_eq_true rfl), (Nat.le_of_ble_eq_true rfl)⟩ ?_
    refine g_iinc (v := 1) dX11_mixRow_98 (by decide) rfl (Nat.le_of_ble_eq_true rfl) rfl ?_
    refine g_goto (tgt := 81) dX11_mixRow_101 rfl ?_
    exact Go.eq rfl (show _ = _ by rw [← nI_1 k]; rfl) rfl rfl (ih (k + 1) τ1 _ (by omega) hK1 (hS.tr hS1) (by show 31 * t 32 + _ = _; rw [ht]; rfl))
set_option maxRecDepth 100000 in
set_option maxHeartbeats 4000000 in
theorem CX11_mrT {n0 : Nat} (hq : q < n) (τ : Nat → Nat → Int32) (t : Nat → Int64) (x2 : Option Value) (hK : mKK τ n) (hS : mSm σ τ) (ht : t 32 = (hsF (31 * hsF (hsF h (rwM (σ 1) (σ 2) q) 5) (fun j => vAt (TT (σ 1) (σ 2) (nI n)) (nI q) (nI j)) 8 + (RZ (σ 1) (σ 2) (nI n) 5 q 1000000).toInt64) (fun j => lapV (RZ (σ 1) (σ 2) (nI n) 3 q) (rnd 3) (nI j)) 3)) : Go l mX11_mixRow n0 (fun r w' => r = none ∧ ∃ σ' t', w' = mW σ' t' ∧ mKK σ' n ∧ mSm σ σ' ∧ t' 32 = dgRm (σ 1) (σ 2) (nI n) h q) (0, 0) 104 [some (.ref 0), some (.int (nI q)), x2] [] (mW τ t) := by
  refine g_aload_n dX11_mixRow_104 rfl rfl ?_
  refine g_aload_n dX11_mixRow_105 rfl rfl ?_
  refine g_iload_n dX11_mixRow_106 rfl rfl ?_
  refine g_V1p (CX11_noughtsOf hK.1 hq) kX11_mixRow_278 dX11_mixRow_107 mW_0 rfl ⟨rfl, rfl⟩ (Nat.le_of_ble_eq_true rfl) ⟨(Nat.le_of_ble_eq_true rfl), (Nat.le_of_ble_eq_true rfl)⟩ ?_
  rintro rv w1 ⟨τ1, rfl, hK1, hS1, rfl⟩
  rw [hS.c1, hS.c2]
  refine g_i2l dX11_mixRow_110 ?_
  refine g_V1v CX11_mix kX11_mixRow_377 dX11_mixRow_111 mW_0 rfl ⟨rfl, rfl⟩ (Nat.le_of_ble_eq_true rfl) ⟨(Nat.le_of_ble_eq_true rfl), (Nat.le_of_ble_eq_true rfl)⟩ ?_
  exact g_vret dX11_mixRow_114 rfl rfl ⟨rfl, τ1, _, rfl, mKK_St hK hS1 hK1, hS.tr hS1.sm, by show 31 * t 32 + _ = _; rw [ht]; rfl⟩
set_option maxRecDepth 100000 in
set_option maxHeartbeats 4000000 in
theorem CX11_mrS {n0 : Nat} (hq : q < n) (τ : Nat → Nat → Int32) (t : Nat → Int64) (x2 : Option Value) (hK : mKK τ n) (hS : mSm σ τ) (ht : t 32 = (hsF (hsF h (rwM (σ 1) (σ 2) q) 5) (fun j => vAt (TT (σ 1) (σ 2) (nI n)) (nI q) (nI j)) 8)) : Go l mX11_mixRow n0 (fun r w' => r = none ∧ ∃ σ' t', w' = mW σ' t' ∧ mKK σ' n ∧ mSm σ σ' ∧ t' 32 = dgRm (σ 1) (σ 2) (nI n) h q) (0, 0) 64 [some (.ref 0), some (.int (nI q)), x2] [] (mW τ t) := by
  have BY : Ct l mX11_byNow [.ref 0, .int (nI q), .int 1000000, .int 7] (mW τ t) (fun r w' => ∃ σ', w' = mW σ' t ∧ mKK σ' n ∧ mSm τ σ' ∧ r = some (.int (RZ (τ 1) (τ 2) (nI n) 5 q 1000000))) := CX11_byNowK (T := 5) (k := 1000000) (by decide) hK hq (by decide)
  refine g_aload_n dX11_mixRow_64 rfl rfl ?_
  refine g_aload_n dX11_mixRow_65 rfl rfl ?_
  refine g_iload_n dX11_mixRow_66 rfl rfl ?_
  refine g_ldcw dX11_mixRow_67 tb_1392 ?_
  refine g_bipush (v := 7) dX11_mixRow_70 (by decide) ?_
  refine g_V3p BY kX11_mixRow_207 dX11_mixRow_72 mW_0 rfl ⟨rfl, rfl⟩ (Nat.le_of_ble_eq_true rfl) ⟨(Nat.le_of_ble_eq_true rfl), (Nat.le_of_ble_eq_true rfl)⟩ ?_
  rintro rv w1 ⟨τ1, rfl, hK1, hS1, rfl⟩
  rw [hS.c1, hS.c2]
  refine g_i2l dX11_mixRow_75 ?_
  refine g_V1v CX11_mix kX11_mixRow_377 dX11_mixRow_76 mW_0 rfl ⟨rfl, rfl⟩ (Nat.le_of_ble_eq_true rfl) ⟨(Nat.le_of_ble_eq_true rfl), (Nat.le_of_ble_eq_true rfl)⟩ ?_
  refine g_iconst (v := 0) dX11_mixRow_79 (by decide) ?_
  refine g_istore_n dX11_mixRow_80 rfl (Nat.le_of_ble_eq_true rfl) rfl ?_
  exact Go.eq rfl rfl rfl rfl (CX11_mrC hq (fun τ2 t2 y k2 s2 e2 => CX11_mrT hq τ2 t2 y k2 s2 e2) 3 0 τ1 _ (by omega) hK1 (hS.tr hS1) (by show 31 * t 32 + _ = _; rw [ht]; rfl))
set_option maxRecDepth 100000 in
set_option maxHeartbeats 4000000 in
theorem CX11_mixRow {t : Nat → Int64} (H : mKK σ n) (hq : q < n) (ht : t 32 = h) : Ct l mX11_mixRow [.ref 0, .int (nI q)] (mW σ t) (fun r w' => r = none ∧ ∃ σ' t', w' = mW σ' t' ∧ mKK σ' n ∧ mSm σ σ' ∧ t' 32 = dgRm (σ 1) (σ 2) (nI n) h q) := by
  refine Ct.of rfl (Nat.le_of_ble_eq_true rfl) ?_
  have hn := H.1.1
  refine g_aload_n dX11_mixRow_0 rfl rfl ?_
  refine g_aload_n dX11_mixRow_1 rfl rfl ?_
  refine g_getf dX11_mixRow_2 fX11_7 mW_0 rfl ?_
  refine g_iload_n dX11_mixRow_5 rfl rfl ?_
  refine g_iald dX11_mixRow_6 mA1 (vin_n (by omega) (by decide)) ?_
  rw [nI_clamp (by omega)]
  refine g_i2l dX11_mixRow_7 ?_
  refine g_V1v CX11_mix kX11_mixRow_377 dX11_mixRow_8 mW_0 rfl ⟨rfl, rfl⟩ (Nat.le_of_ble_eq_true rfl) ⟨(Nat.le_of_ble_eq_true rfl), (Nat.le_of_ble_eq_true rfl)⟩ ?_
  refine g_iconst (v := 0) dX11_mixRow_11 (by decide) ?_
  refine g_istore_n dX11_mixRow_12 rfl (Nat.le_of_ble_eq_true rfl) rfl ?_
  refine Go.eq rfl rfl rfl rfl (CX11_mrA hq (fun τ t x2 hK hS ht => ?_) 4 0 σ _ (by omega) H mSm.rf (by show 31 * t 32 + _ = _; rw [ht]; rfl))
  refine g_iconst (v := 0) dX11_mixRow_39 (by decide) ?_
  refine g_istore_n dX11_mixRow_40 rfl (Nat.le_of_ble_eq_true rfl) rfl ?_
  exact Go.eq rfl rfl rfl rfl (CX11_mrB hq (fun τ2 t2 y k2 s2 e2 => CX11_mrS hq τ2 t2 y k2 s2 e2) 8 0 τ t (by omega) hK hS ht)
end
section
variable {l : Launch} {σ : Nat → Nat → Int32} {n g p : Nat} {h : Int64}
set_option maxRecDepth 100000 in
set_option maxHeartbeats 4000000 in
theorem CX11_dwA {n0 : Nat} (hg : g ≤ 8) (h4 : σ 0 4 = nI g) (hp : p ≤ 47) (h6 : σ 0 6 = nI p)  (hX : ∀ (τ : Nat → Nat → Int32) (t : Nat → Int64) (x2 : Option Value), mKK τ n → mSm σ τ → t 32 = (dgAm (σ 1) (σ 2) (nI n) h n) → Go l mX11_digest n0 (fun r w' => ∃ σ' t', w' = mW σ' t' ∧ mKK σ' n ∧ mSm σ σ' ∧ r = some (.long (dgWm σ n g p))) (0, 0) 28 [some (.ref 0), x2] [] (mW τ t)) : ∀ (d k : Nat) (τ : Nat → Nat → Int32) (t : Nat → Int64), k + d = n → mKK τ n → mSm σ τ → t 32 = (dgAm (σ 1) (σ 2) (nI n) h k) → Go l mX11_digest n0 (fun r w' => ∃ σ' t', w' = mW σ' t' ∧ mKK σ' n ∧ mSm σ σ' ∧ r = some (.long (dgWm σ n g p))) (0, 0) 9 [some (.ref 0), some (.int (nI k))] [] (mW τ t) := by
  intro d
  induction d with
  | zero =>
    intro k τ t hk hK hS ht
    have e1 : n = k := by omega
    have hn := hK.1.1
    subst e1
    refine g_iload_n dX11_digest_9 rfl rfl ?_
    refine g_aload_n dX11_digest_10 rfl rfl ?_
    refine g_getf dX11_digest_11 fX11_116 mW_0 rfl ?_
    rw [hK.1.2.1]
    refine g_icmp_ge (tgt := 28) dX11_digest_14 rfl (fun c_14 => ?_) (fun c_14 => by exact absurd (nI_le (by omega) (by omega)) c_14)
    exact hX τ t _ hK hS ht
  | succ d ih =>
    intro k τ t hk hK hS ht
    have hn := hK.1.1
    refine g_iload_n dX11_digest_9 rfl rfl ?_
    refine g_aload_n dX11_digest_10 rfl rfl ?_
    refine g_getf dX11_digest_11 fX11_116 mW_0 rfl ?_
    rw [hK.1.2.1]
    refine g_icmp_ge (tgt := 28) dX11_digest_14 rfl (fun c_14 => by exact absurd c_14 (nI_ge (by omega) (by omega))) (fun c_14 => ?_)
    refine g_aload_n dX11_digest_17 rfl rfl ?_
    refine g_iload_n dX11_digest_18 rfl rfl ?_
    refine g_V1p (CX11_mixRow hK (q := k) (by omega) ht) kX11_digest_384 dX11_digest_19 mW_0 rfl ⟨rfl, rfl⟩ (Nat.le_of_ble_eq_true rfl) ⟨(Nat.le_of_ble_eq_true rfl), (Nat.le_of_ble_eq_true rfl)⟩ ?_
    rintro rv w1 ⟨rfl, τ1, t1, rfl, hK1, hS1, e1⟩
    rw [hS.c1, hS.c2] at e1
    refine g_iinc (v := 1) dX11_digest_22 (by decide) rfl (Nat.le_of_ble_eq_true rfl) rfl ?_
    refine g_goto (tgt := 9) dX11_digest_25 rfl ?_
    exact Go.eq rfl (show _ = _ by rw [← nI_1 k]; rfl) rfl rfl (ih (k + 1) τ1 t1 (by omega) hK1 (hS.tr hS1) e1)
set_option maxRecDepth 100000 in
set_option maxHeartbeats 4000000 in
theorem CX11_dwB {n0 : Nat} (hg : g ≤ 8) (h4 : σ 0 4 = nI g) (hp : p ≤ 47) (h6 : σ 0 6 = nI p)  (hX : ∀ (τ : Nat → Nat → Int32) (t : Nat → Int64) (x2 : Option Value), mKK τ n → mSm σ τ → t 32 = (hsF h (σ 3) g) → Go l mX11_digest n0 (fun r w' => ∃ σ' t', w' = mW σ' t' ∧ mKK σ' n ∧ mSm σ σ' ∧ r = some (.long (dgWm σ n g p))) (0, 0) 55 [some (.ref 0), x2] [] (mW τ t)) : ∀ (d k : Nat) (τ : Nat → Nat → Int32) (t : Nat → Int64), k + d = g → mKK τ n → mSm σ τ → t 32 = (hsF h (σ 3) k) → Go l mX11_digest n0 (fun r w' => ∃ σ' t', w' = mW σ' t' ∧ mKK σ' n ∧ mSm σ σ' ∧ r = some (.long (dgWm σ n g p))) (0, 0) 30 [some (.ref 0), some (.int (nI k))] [] (mW τ t) := by
  intro d
  induction d with
  | zero =>
    intro k τ t hk hK hS ht
    have e1 : g = k := by omega
    subst e1
    refine g_iload_n dX11_digest_30 rfl rfl ?_
    refine g_aload_n dX11_digest_31 rfl rfl ?_
    refine g_getf dX11_digest_32 fX11_319 mW_0 rfl ?_
    rw [show τ 0 4 = nI g from (hS.2 4 (by decide)).trans h4]
    refine g_icmp_ge (tgt := 55) dX11_digest_35 rfl (fun c_35 => ?_) (fun c_35 => by exact absurd (nI_le (by omega) (by omega)) c_35)
    exact hX τ t _ hK hS ht
  | succ d ih =>
    intro k τ t hk hK hS ht
    refine g_iload_n dX11_digest_30 rfl rfl ?_
    refine g_aload_n dX11_digest_31 rfl rfl ?_
    refine g_getf dX11_digest_32 fX11_319 mW_0 rfl ?_
    rw [show τ 0 4 = nI g from (hS.2 4 (by decide)).trans h4]
    refine g_icmp_ge (tgt := 55) dX11_digest_35 rfl (fun c_35 => by exact absurd c_35 (nI_ge (by omega) (by omega))) (fun c_35 => ?_)
    refine g_aload_n dX11_digest_38 rfl rfl ?_
    refine g_aload_n dX11_digest_39 rfl rfl ?_
    refine g_getf dX11_digest_40 fX11_16 mW_0 rfl ?_
    refine g_iload_n dX11_digest_43 rfl rfl ?_
    refine g_iald dX11_digest_44 mA3 (vin_n (by omega) (by decide)) ?_
    rw [nI_clamp (by omega), hS.1 3 (by decide)]
    refine g_i2l dX11_digest_45 ?_
    refine g_V1v CX11_mix kX11_digest_377 dX11_digest_46 mW_0 rfl ⟨rfl, rfl⟩ (Nat.le_of_ble_eq_true rfl) ⟨(Nat.le_of_ble_eq_true rfl), (Nat.le_of_ble_eq_true rfl)⟩ ?_
    refine g_iinc (v := 1) dX11_digest_49 (by decide) rfl (Nat.le_of_ble_eq_true rfl) rfl ?_
    refine g_goto (tgt := 30) dX11_digest_52 rfl ?_
    exact Go.eq rfl (show _ = _ by rw [← nI_1 k]; rfl) rfl rfl (ih (k + 1) τ _ (by omega) hK hS (by show 31 * t 32 + _ = _; rw [ht]; rfl))
set_option maxRecDepth 100000 in
set_option maxHeartbeats 4000000 in
theorem CX11_dwC {n0 : Nat} (hg : g ≤ 8) (h4 : σ 0 4 = nI g) (hp : p ≤ 47) (h6 : σ 0 6 = nI p)  (hX : ∀ (τ : Nat → Nat → Int32) (t : Nat → Int64) (x2 : Option Value), mKK τ n → mSm σ τ → t 32 = (hsF h (fun j => gtV (σ 3) g (nI j)) 3) → Go l mX11_digest n0 (fun r w' => ∃ σ' t', w' = mW σ' t' ∧ mKK σ' n ∧ mSm σ σ' ∧ r = some (.long (dgWm σ n g p))) (0, 0) 78 [some (.ref 0), x2] [] (mW τ t)) : ∀ (d k : Nat) (τ : Nat → Nat → Int32) (t : Nat → Int64), k + d = 3 → mKK τ n → mSm σ τ → t 32 = (hsF h (fun j => gtV (σ 3) g (nI j)) k) → Go l mX11_digest n0 (fun r w' => ∃ σ' t', w' = mW σ' t' ∧ mKK σ' n ∧ mSm σ σ' ∧ r = some (.long (dgWm σ n g p))) (0, 0) 57 [some (.ref 0), some (.int (nI k))] [] (mW τ t) := by
  intro d
  induction d with
  | zero =>
    intro k τ t hk hK hS ht
    have e1 : 3 = k := by omega
    subst e1
    refine g_iload_n dX11_digest_57 rfl rfl ?_
    refine g_iconst (v := 3) dX11_digest_58 (by decide) ?_
    refine g_icmp_ge (tgt := 78) dX11_digest_59 rfl (fun c_59 => ?_) (fun c_59 => by exfalso; revert c_59; decide)
    exact hX τ t _ hK hS ht
  | succ d ih =>
    intro k τ t hk hK hS ht
    refine g_iload_n dX11_digest_57 rfl rfl ?_
    refine g_iconst (v := 3) dX11_digest_58 (by decide) ?_
    refine g_icmp_ge (tgt := 78) dX11_digest_59 rfl (fun c_59 => by exact absurd c_59 (nI_ge (b := 3) (by omega) (by omega))) (fun c_59 => ?_)
    refine g_aload_n dX11_digest_62 rfl rfl ?_
    refine g_aload_n dX11_digest_63 rfl rfl ?_
    refine g_iload_n dX11_digest_64 rfl rfl ?_
    refine g_V1p (CX11_guessTold hg ((hS.2 4 (by decide)).trans h4)) kX11_digest_334 dX11_digest_65 mW_0 rfl ⟨rfl, rfl⟩ (Nat.le_of_ble_eq_true rfl) ⟨(Nat.le_of_ble_eq_true rfl), (Nat.le_of_ble_eq_true rfl)⟩ ?_
    rintro rv w1 ⟨u, v, rfl, rfl⟩
    rw [hS.1 3 (by decide)]
    refine g_i2l dX11_digest_68 ?_
    refine g_V1v CX11_mix kX11_digest_377 dX11_digest_69 mW_0 rfl ⟨rfl, rfl⟩ (Nat.le_of_ble_eq_true rfl) ⟨(Nat.le_of_ble_eq_true rfl), (Nat.le_of_ble_eq_true rfl)⟩ ?_
    refine g_iinc (v := 1) dX11_digest_72 (by decide) rfl (Nat.le_of_ble_eq_true rfl) rfl ?_
    refine g_goto (tgt := 57) dX11_digest_75 rfl ?_
    exact Go.eq rfl (show _ = _ by rw [← nI_1 k]; rfl) rfl rfl (ih (k + 1) _ _ (by omega) (mG2_KK hK) (hS.tr mG2_sm) (by show 31 * t 32 + _ = _; rw [ht]; rfl))
set_option maxRecDepth 100000 in
set_option maxHeartbeats 4000000 in
theorem CX11_dwD {n0 : Nat} (hg : g ≤ 8) (h4 : σ 0 4 = nI g) (hp : p ≤ 47) (h6 : σ 0 6 = nI p)  (hX : ∀ (τ : Nat → Nat → Int32) (t : Nat → Int64) (x2 : Option Value), mKK τ n → mSm σ τ → t 32 = (hsF h (σ 4) p) → Go l mX11_digest n0 (fun r w' => ∃ σ' t', w' = mW σ' t' ∧ mKK σ' n ∧ mSm σ σ' ∧ r = some (.long (dgWm σ n g p))) (0, 0) 105 [some (.ref 0), x2] [] (mW τ t)) : ∀ (d k : Nat) (τ : Nat → Nat → Int32) (t : Nat → Int64), k + d = p → mKK τ n → mSm σ τ → t 32 = (hsF h (σ 4) k) → Go l mX11_digest n0 (fun r w' => ∃ σ' t', w' = mW σ' t' ∧ mKK σ' n ∧ mSm σ σ' ∧ r = some (.long (dgWm σ n g p))) (0, 0) 80 [some (.ref 0), some (.int (nI k))] [] (mW τ t) := by
  intro d
  induction d with
  | zero =>
    intro k τ t hk hK hS ht
    have e1 : p = k := by omega
    subst e1
    refine g_iload_n dX11_digest_80 rfl rfl ?_
    refine g_aload_n dX11_digest_81 rfl rfl ?_
    refine g_getf dX11_digest_82 fX11_73 mW_0 rfl ?_
    rw [show τ 0 6 = nI p from (hS.2 6 (by decide)).trans h6]
    refine g_icmp_ge (tgt := 105) dX11_digest_85 rfl (fun c_85 => ?_) (fun c_85 => by exact absurd (nI_le (by omega) (by omega)) c_85)
    exact hX τ t _ hK hS ht
  | succ d ih =>
    intro k τ t hk hK hS ht
    refine g_iload_n dX11_digest_80 rfl rfl ?_
    refine g_aload_n dX11_digest_81 rfl rfl ?_
    refine g_getf dX11_digest_82 fX11_73 mW_0 rfl ?_
    rw [show τ 0 6 = nI p from (hS.2 6 (by decide)).trans h6]
    refine g_icmp_ge (tgt := 105) dX11_digest_85 rfl (fun c_85 => by exact absurd c_85 (nI_ge (by omega) (by omega))) (fun c_85 => ?_)
    refine g_aload_n dX11_digest_88 rfl rfl ?_
    refine g_aload_n dX11_digest_89 rfl rfl ?_
    refine g_getf dX11_digest_90 fX11_19 mW_0 rfl ?_
    refine g_iload_n dX11_digest_93 rfl rfl ?_
    refine g_bald dX11_digest_94 mA4 (vin_n (by omega) (by decide)) ?_
    rw [nI_clamp (by omega), hS.1 4 (by decide)]
    refine g_i2l dX11_digest_95 ?_
    refine g_V1v CX11_mix kX11_digest_377 dX11_digest_96 mW_0 rfl ⟨rfl, rfl⟩ (Nat.le_of_ble_eq_true rfl) ⟨(Nat.le_of_ble_eq_true rfl), (Nat.le_of_ble_eq_true rfl)⟩ ?_
    refine g_iinc (v := 1) dX11_digest_99 (by decide) rfl (Nat.le_of_ble_eq_true rfl) rfl ?_
    refine g_goto (tgt := 80) dX11_digest_102 rfl ?_
    exact Go.eq rfl (show _ = _ by rw [← nI_1 k]; rfl) rfl rfl (ih (k + 1) τ _ (by omega) hK hS (by show 31 * t 32 + _ = _; rw [ht]; rfl))
set_option maxRecDepth 100000 in
set_option maxHeartbeats 4000000 in
theorem CX11_dwE {n0 : Nat} (hg : g ≤ 8) (h4 : σ 0 4 = nI g) (hp : p ≤ 47) (h6 : σ 0 6 = nI p)  (hX : ∀ (τ : Nat → Nat → Int32) (t : Nat → Int64) (x2 : Option Value), mKK τ n → mSm σ τ → t 32 = (hsF h (fun j => hmV σ n (nI j)) 6) → Go l mX11_digest n0 (fun r w' => ∃ σ' t', w' = mW σ' t' ∧ mKK σ' n ∧ mSm σ σ' ∧ r = some (.long (dgWm σ n g p))) (0, 0) 129 [some (.ref 0), x2] [] (mW τ t)) : ∀ (d k : Nat) (τ : Nat → Nat → Int32) (t : Nat → Int64), k + d = 6 → mKK τ n → mSm σ τ → t 32 = (hsF h (fun j => hmV σ n (nI j)) k) → Go l mX11_digest n0 (fun r w' => ∃ σ' t', w' = mW σ' t' ∧ mKK σ' n ∧ mSm σ σ' ∧ r = some (.long (dgWm σ n g p))) (0, 0) 107 [some (.ref 0), some (.int (nI k))] [] (mW τ t) := by
  intro d
  induction d with
  | zero =>
    intro k τ t hk hK hS ht
    have e1 : 6 = k := by omega
    subst e1
    refine g_iload_n dX11_digest_107 rfl rfl ?_
    refine g_bipush (v := 6) dX11_digest_108 (by decide) ?_
    refine g_icmp_ge (tgt := 129) dX11_digest_110 rfl (fun c_110 => ?_) (fun c_110 => by exfalso; revert c_110; decide)
    exact hX τ t _ hK hS ht
  | succ d ih =>
    intro k τ t hk hK hS ht
    have HM : Ct l mX11_howMany [.ref 0, .int (nI k)] (mW τ t) (q_eq (some (.int (hmV τ n (nI k)))) (mW τ t)) := CX11_howMany hK.1.1 hK.1.2.1
    refine g_iload_n dX11_digest_107 rfl rfl ?_
    refine g_bipush (v := 6) dX11_digest_108 (by decide) ?_
    refine g_icmp_ge (tgt := 129) dX11_digest_110 rfl (fun c_110 => by exact absurd c_110 (nI_ge (b := 6) (by omega) (by omega))) (fun c_110 => ?_)
    refine g_aload_n dX11_digest_113 rfl rfl ?_
    refine g_aload_n dX11_digest_114 rfl rfl ?_
    refine g_iload_n dX11_digest_115 rfl rfl ?_
    refine g_V1r HM kX11_digest_369 dX11_digest_116 mW_0 rfl ⟨rfl, rfl⟩ (Nat.le_of_ble_eq_true rfl) ⟨(Nat.le_of_ble_eq_true rfl), (Nat.le_of_ble_eq_true rfl)⟩ ?_
    rw [hmV_sm hS]
    refine g_i2l dX11_digest_119 ?_
    refine g_V1v CX11_mix kX11_digest_377 dX11_digest_120 mW_0 rfl ⟨rfl, rfl⟩ (Nat.le_of_ble_eq_true rfl) ⟨(Nat.le_of_ble_eq_true rfl), (Nat.le_of_ble_eq_true rfl)⟩ ?_
    refine g_iinc (v := 1) dX11_digest_123 (by decide) rfl (Nat.le_of_ble_eq_true rfl) rfl ?_
    refine g_goto (tgt := 107) dX11_digest_126 rfl ?_
    exact Go.eq rfl (show _ = _ by rw [← nI_1 k]; rfl) rfl rfl (ih (k + 1) τ _ (by omega) hK hS (by show 31 * t 32 + _ = _; rw [ht]; rfl))
set_option maxRecDepth 100000 in
set_option maxHeartbeats 4000000 in
theorem CX11_digest {t : Nat → Int64} (H : mKK σ n) (hg : g ≤ 8) (h4 : σ 0 4 = nI g) (hp : p ≤ 47) (h6 : σ 0 6 = nI p) : Ct l mX11_digest [.ref 0] (mW σ t) (fun r w' => ∃ σ' t', w' = mW σ' t' ∧ mKK σ' n ∧ mSm σ σ' ∧ r = some (.long (dgWm σ n g p))) := by
  refine Ct.of rfl (Nat.le_of_ble_eq_true rfl) ?_
  refine g_aload_n dX11_digest_0 rfl rfl ?_
  refine g_ldc2 dX11_digest_1 tb_1382 ?_
  refine g_putf dX11_digest_4 pX11_374 mW_0 (Nat.le_of_ble_eq_true rfl) (fun _ => rfl) (fun _ => rfl) (mW_lng rfl) ?_
  refine g_iconst (v := 0) dX11_digest_7 (by decide) ?_
  refine g_istore_n dX11_digest_8 rfl (Nat.le_of_ble_eq_true rfl) rfl ?_
  refine Go.eq rfl rfl rfl rfl (CX11_dwA hg h4 hp h6 (fun τ t x2 hK hS ht => ?_) n 0 σ _ (by omega) H mSm.rf rfl)
  refine g_iconst (v := 0) dX11_digest_28 (by decide) ?_
  refine g_istore_n dX11_digest_29 rfl (Nat.le_of_ble_eq_true rfl) rfl ?_
  refine Go.eq rfl rfl rfl rfl (CX11_dwB hg h4 hp h6 (fun τ t x2 hK hS ht => ?_) g 0 τ t (by omega) hK hS ht)
  refine g_iconst (v := 0) dX11_digest_55 (by decide) ?_
  refine g_istore_n dX11_digest_56 rfl (Nat.le_of_ble_eq_true rfl) rfl ?_
  refine Go.eq rfl rfl rfl rfl (CX11_dwC hg h4 hp h6 (fun τ t x2 hK hS ht => ?_) 3 0 τ t (by omega) hK hS ht)
  refine g_iconst (v := 0) dX11_digest_78 (by decide) ?_
  refine g_istore_n dX11_digest_79 rfl (Nat.le_of_ble_eq_true rfl) rfl ?_
  refine Go.eq rfl rfl rfl rfl (CX11_dwD hg h4 hp h6 (fun τ t x2 hK hS ht => ?_) p 0 τ t (by omega) hK hS ht)
  refine g_iconst (v := 0) dX11_digest_105 (by decide) ?_
  refine g_istore_n dX11_digest_106 rfl (Nat.le_of_ble_eq_true rfl) rfl ?_
  refine Go.eq rfl rfl rfl rfl (CX11_dwE hg h4 hp h6 (fun τ t x2 hK hS ht => ?_) 6 0 τ t (by omega) hK hS ht)
  refine g_aload_n dX11_digest_129 rfl rfl ?_
  refine g_getf dX11_digest_130 fX11_374 mW_0 rfl ?_
  rw [ht]
  exact g_lret dX11_digest_133 rfl rfl ⟨τ, t, rfl, hK, hS, rfl⟩
end
