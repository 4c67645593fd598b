/-- the reference's answer: s is the least size whose equations can be met, F meets them -/
def lsM (s : Nat) (F : Nat → Nat) (x : Int32) : Int32 := if x = 0 then nI s else if 8 < nI s then 2000000001 else if nI s < x then 0 else nI (F (x - 1).toNatClampNeg)
def lsOk (P : Nat) (a : Nat → Nat) (s : Nat) (F : Nat → Nat) : Prop := s ≤ 16 ∧ (∀ z, z < s → ∀ x, ¬ sol P (16 - z) z (eT a z (16 - z) 0) x) ∧ sol P (16 - s) s (eT a s (16 - s) 0) (fun k => (F k : Int)) ∧ ∀ k, k < s → F k < P
def aN (A : Nat → Int32) (k : Nat) : Nat := (A k).toNatClampNeg
theorem mGg.KK {σ τ : Nat → Nat → Int32} {n : Nat} (h : mGg σ τ) (H : mKK σ n) : mKK τ n := mKK_keep (fun c hc => h c (by omega) (by omega)) (fun k _ => by rw [h 0 (by decide) (by decide)]) H
theorem mGg.sm {σ τ : Nat → Nat → Int32} (h : mGg σ τ) : mSm σ τ := ⟨fun c hc => h c (by omega) (by omega), fun k _ => by rw [h 0 (by decide) (by decide)]⟩
theorem mGg.rz {σ τ : Nat → Nat → Int32} {A : Nat → Int32} {T q ld tn : Nat} (h : mGg σ τ) (H : mRZ σ A T q ld tn) : mRZ τ A T q ld tn := by
  unfold mRZ mRq
  rw [h 8 (by decide) (by decide), h 9 (by decide) (by decide), h 10 (by decide) (by decide)]
  exact H
section
variable {l : Launch} {σ : Nat → Nat → Int32} {t : Nat → Int64} {n q ld tn P : Nat} {A : Nat → Int32}
theorem lsIx {x : Int32} (hx : 0 ≤ x ∧ x ≤ 8) (h0 : ¬ x = 0) : vp_in (x - 1) 17 := vin_lt 8 (by grind) (by grind) (by decide)
theorem lsK {x : Int32} {s : Nat} (hx : 0 ≤ x ∧ x ≤ 8) (h0 : ¬ x = 0) (hs : s ≤ 16) (h : x ≤ nI s) : (x - 1).toNatClampNeg < s := by
  refine tNC_lt (by grind) ?_ (by omega)
  grind
set_option maxRecDepth 100000 in
set_option maxHeartbeats 4000000 in
theorem CX11_lnL {n0 T : Nat} {x : Int32} (hP : prm P) (HZ : mRZ σ A T q ld tn) (hA : ∀ k, A k = nI (aN A k)) (ha : ∀ k, aN A k < P) (hx : 0 ≤ x ∧ x ≤ 8) : ∀ (d s : Nat) (τ : Nat → Nat → Int32), s + d = 16 → mGg σ τ → (∀ z, z < s → ∀ x, ¬ sol P (16 - z) z (eT (aN A) z (16 - z) 0) x) → Go l mX11_leastNow n0 (fun r w' => ∃ τ' s F, w' = mW τ' t ∧ mGg σ τ' ∧ lsOk P (aN A) s F ∧ r = some (.int (lsM s F x))) (0, 0) 8 [some (.ref 0), some (.int (nI q)), some (.int (nI P)), some (.int x), some (.int (nI s))] [] (mW τ t) := by
  intro d
  induction d with
  | zero =>
    intro s τ hs hg hno
    refine g_aload_n dX11_leastNow_8 rfl rfl ?_
    refine g_iload_n dX11_leastNow_9 rfl rfl ?_
    refine g_iload dX11_leastNow_10 rfl ?_
    refine g_iload_n dX11_leastNow_12 rfl rfl ?_
    refine g_V3p (CX11_isSolved hP (by omega) (hg.rz HZ).1 (mRZ_v (hg.rz HZ)) hA ha) kX11_leastNow_236 dX11_leastNow_13 mW_0 rfl ⟨rfl, rfl⟩ (Nat.le_of_ble_eq_true rfl) ⟨(Nat.le_of_ble_eq_true rfl), (Nat.le_of_ble_eq_true rfl)⟩ ?_
    rintro rv w1 ⟨τ1, b, rfl, rfl, g1, gT, gF⟩
    refine g_if_ne (tgt := 25) dX11_leastNow_16 rfl (fun c_16 => ?_) (fun c_16 => by exact absurd (fun i hi => absurd hi (by omega)) (gF (Bool.eq_false_iff.mpr (bB_f c_16)) (fun _ => 0)))
    obtain ⟨F, hF, hsol⟩ := gT (bB_t c_16)
    have hg1 : mGg σ τ1 := fun c a b => (g1 c a b).trans (hg c a b)
    have hok : lsOk P (aN A) s F := ⟨by omega, hno, hsol, fun k hk => (hF k hk).2⟩
    refine g_iload_n dX11_leastNow_25 rfl rfl ?_
    refine g_if_ne (tgt := 32) dX11_leastNow_26 rfl (fun c_26 => ?_) (fun c_26 => ?_)
    · refine g_iload dX11_leastNow_32 rfl ?_
      refine g_bipush (v := 8) dX11_leastNow_34 (by decide) ?_
      refine g_icmp_le (tgt := 44) dX11_leastNow_36 rfl (fun c_36 => ?_) (fun c_36 => ?_)
      · refine g_iload_n dX11_leastNow_44 rfl rfl ?_
        refine g_iload dX11_leastNow_45 rfl ?_
        refine g_icmp_le (tgt := 54) dX11_leastNow_47 rfl (fun c_47 => ?_) (fun c_47 => ?_)
        · refine g_aload_n dX11_leastNow_54 rfl rfl ?_
          refine g_getf dX11_leastNow_55 fX11_47 mW_0 rfl ?_
          refine g_iload_n dX11_leastNow_58 rfl rfl ?_
          refine g_iconst (v := 1) dX11_leastNow_59 (by decide) ?_
          refine g_isub dX11_leastNow_60 ?_
          refine g_iald dX11_leastNow_61 mA13 (lsIx hx c_26) ?_
          exact g_iret dX11_leastNow_62 rfl rfl ⟨τ1, s, F, rfl, hg1, hok, by unfold lsM; first | (rw [if_neg c_26, if_pos (Int32.not_le.mp c_36)]) | (rw [if_neg c_26, if_neg (Int32.not_lt.mpr c_36), if_pos (Int32.not_le.mp c_47)]) | (rw [if_neg c_26, if_neg (Int32.not_lt.mpr c_36), if_neg (Int32.not_lt.mpr c_47)]; rw [(hF _ (lsK hx c_26 (by omega) c_47)).1])⟩
        · refine g_iconst (v := 0) dX11_leastNow_50 (by decide) ?_
          refine g_goto (tgt := 62) dX11_leastNow_51 rfl ?_
          exact g_iret dX11_leastNow_62 rfl rfl ⟨τ1, s, F, rfl, hg1, hok, by unfold lsM; first | (rw [if_neg c_26, if_pos (Int32.not_le.mp c_36)]) | (rw [if_neg c_26, if_neg (Int32.not_lt.mpr c_36), if_pos (Int32.not_le.mp c_47)]) | (rw [if_neg c_26, if_neg (Int32.not_lt.mpr c_36), if_neg (Int32.not_lt.mpr c_47)]; rw [(hF _ (lsK hx c_26 (by omega) c_47)).1])⟩
      · refine g_ldc dX11_leastNow_39 tb_854 ?_
        refine g_goto (tgt := 62) dX11_leastNow_41 rfl ?_
        exact g_iret dX11_leastNow_62 rfl rfl ⟨τ1, s, F, rfl, hg1, hok, by unfold lsM; first | (rw [if_neg c_26, if_pos (Int32.not_le.mp c_36)]) | (rw [if_neg c_26, if_neg (Int32.not_lt.mpr c_36), if_pos (Int32.not_le.mp c_47)]) | (rw [if_neg c_26, if_neg (Int32.not_lt.mpr c_36), if_neg (Int32.not_lt.mpr c_47)]; rw [(hF _ (lsK hx c_26 (by omega) c_47)).1])⟩
    · refine g_iload dX11_leastNow_29 rfl ?_
      exact g_iret dX11_leastNow_31 rfl rfl ⟨τ1, s, F, rfl, hg1, hok, by unfold lsM; rw [if_pos c_26]⟩
  | succ d ih =>
    intro s τ hs hg hno
    refine g_aload_n dX11_leastNow_8 rfl rfl ?_
    refine g_iload_n dX11_leastNow_9 rfl rfl ?_
    refine g_iload dX11_leastNow_10 rfl ?_
    refine g_iload_n dX11_leastNow_12 rfl rfl ?_
    refine g_V3p (CX11_isSolved hP (by omega) (hg.rz HZ).1 (mRZ_v (hg.rz HZ)) hA ha) kX11_leastNow_236 dX11_leastNow_13 mW_0 rfl ⟨rfl, rfl⟩ (Nat.le_of_ble_eq_true rfl) ⟨(Nat.le_of_ble_eq_true rfl), (Nat.le_of_ble_eq_true rfl)⟩ ?_
    rintro rv w1 ⟨τ1, b, rfl, rfl, g1, gT, gF⟩
    refine g_if_ne (tgt := 25) dX11_leastNow_16 rfl (fun c_16 => ?_) (fun c_16 => ?_)
    · obtain ⟨F, hF, hsol⟩ := gT (bB_t c_16)
      have hg1 : mGg σ τ1 := fun c a b => (g1 c a b).trans (hg c a b)
      have hok : lsOk P (aN A) s F := ⟨by omega, hno, hsol, fun k hk => (hF k hk).2⟩
      refine g_iload_n dX11_leastNow_25 rfl rfl ?_
      refine g_if_ne (tgt := 32) dX11_leastNow_26 rfl (fun c_26 => ?_) (fun c_26 => ?_)
      · refine g_iload dX11_leastNow_32 rfl ?_
        refine g_bipush (v := 8) dX11_leastNow_34 (by decide) ?_
        refine g_icmp_le (tgt := 44) dX11_leastNow_36 rfl (fun c_36 => ?_) (fun c_36 => ?_)
        · refine g_iload_n dX11_leastNow_44 rfl rfl ?_
          refine g_iload dX11_leastNow_45 rfl ?_
          refine g_icmp_le (tgt := 54) dX11_leastNow_47 rfl (fun c_47 => ?_) (fun c_47 => ?_)
          · refine g_aload_n dX11_leastNow_54 rfl rfl ?_
            refine g_getf dX11_leastNow_55 fX11_47 mW_0 rfl ?_
            refine g_iload_n dX11_leastNow_58 rfl rfl ?_
            refine g_iconst (v := 1) dX11_leastNow_59 (by decide) ?_
            refine g_isub dX11_leastNow_60 ?_
            refine g_iald dX11_leastNow_61 mA13 (lsIx hx c_26) ?_
            exact g_iret dX11_leastNow_62 rfl rfl ⟨τ1, s, F, rfl, hg1, hok, by unfold lsM; first | (rw [if_neg c_26, if_pos (Int32.not_le.mp c_36)]) | (rw [if_neg c_26, if_neg (Int32.not_lt.mpr c_36), if_pos (Int32.not_le.mp c_47)]) | (rw [if_neg c_26, if_neg (Int32.not_lt.mpr c_36), if_neg (Int32.not_lt.mpr c_47)]; rw [(hF _ (lsK hx c_26 (by omega) c_47)).1])⟩
          · refine g_iconst (v := 0) dX11_leastNow_50 (by decide) ?_
            refine g_goto (tgt := 62) dX11_leastNow_51 rfl ?_
            exact g_iret dX11_leastNow_62 rfl rfl ⟨τ1, s, F, rfl, hg1, hok, by unfold lsM; first | (rw [if_neg c_26, if_pos (Int32.not_le.mp c_36)]) | (rw [if_neg c_26, if_neg (Int32.not_lt.mpr c_36), if_pos (Int32.not_le.mp c_47)]) | (rw [if_neg c_26, if_neg (Int32.not_lt.mpr c_36), if_neg (Int32.not_lt.mpr c_47)]; rw [(hF _ (lsK hx c_26 (by omega) c_47)).1])⟩
        · refine g_ldc dX11_leastNow_39 tb_854 ?_
          refine g_goto (tgt := 62) dX11_leastNow_41 rfl ?_
          exact g_iret dX11_leastNow_62 rfl rfl ⟨τ1, s, F, rfl, hg1, hok, by unfold lsM; first | (rw [if_neg c_26, if_pos (Int32.not_le.mp c_36)]) | (rw [if_neg c_26, if_neg (Int32.not_lt.mpr c_36), if_pos (Int32.not_le.mp c_47)]) | (rw [if_neg c_26, if_neg (Int32.not_lt.mpr c_36), if_neg (Int32.not_lt.mpr c_47)]; rw [(hF _ (lsK hx c_26 (by omega) c_47)).1])⟩
      · refine g_iload dX11_leastNow_29 rfl ?_
        exact g_iret dX11_leastNow_31 rfl rfl ⟨τ1, s, F, rfl, hg1, hok, by unfold lsM; rw [if_pos c_26]⟩
    · refine g_iinc (v := 1) dX11_leastNow_19 (by decide) rfl (Nat.le_of_ble_eq_true rfl) rfl ?_
      refine g_goto (tgt := 8) dX11_leastNow_22 rfl ?_
      exact Go.eq rfl (show _ = _ by rw [← nI_1 s]; rfl) rfl rfl (ih (s + 1) τ1 (by omega) (fun c a b => (g1 c a b).trans (hg c a b)) (fun z hz x => by rcases Nat.lt_or_ge z s with y | y; exact hno z y x; rw [show z = s by omega]; exact gF (Bool.eq_false_iff.mpr (bB_f c_16)) x))
theorem aN_ok {K N : Nat → Int32} {sz : Int32} (hP : prm P) : (∀ k, RZ K N sz (P - 2) q k = nI (aN (RZ K N sz (P - 2) q) k)) ∧ ∀ k, aN (RZ K N sz (P - 2) q) k < P := by
  have hb := prm_bd hP
  have e : ∀ k, ∃ x, x < P ∧ RZ K N sz (P - 2) q k = nI x := fun k => by
    obtain ⟨x, hx, ex⟩ := rz_bd (K := K) (N := N) (sz := sz) (T := P - 2) (by omega) 8 q k
    exact ⟨x, by omega, ex⟩
  constructor
  · intro k
    obtain ⟨x, hx, ex⟩ := e k
    unfold aN
    rw [ex, nI_clamp (by omega)]
  · intro k
    obtain ⟨x, hx, ex⟩ := e k
    unfold aN
    rw [ex, nI_clamp (by omega)]
    exact hx
set_option maxRecDepth 100000 in
set_option maxHeartbeats 4000000 in
theorem CX11_leastNow {x : Int32} (hP : prm P) (H : mKK σ n) (hq : q < n) (hx : 0 ≤ x ∧ x ≤ 8) : Ct l mX11_leastNow [.ref 0, .int (nI q), .int (nI P), .int x] (mW σ t) (fun r w' => ∃ σ' s F, w' = mW σ' t ∧ mKK σ' n ∧ mSm σ σ' ∧ lsOk P (aN (RZ (σ 1) (σ 2) (nI n) (P - 2) q)) s F ∧ r = some (.int (lsM s F x))) := by
  refine Ct.of rfl (Nat.le_of_ble_eq_true rfl) ?_
  have hB := prm_bd hP
  have hT : P - 2 < 9 := by omega
  have hA := aN_ok (K := σ 1) (N := σ 2) (sz := nI n) (q := q) hP
  have LR := CX11_layRests (l := l) (t := t) (T := P - 2) hT H.1.1 H.1.2.1 H.1.2.2.1 H.1.2.2.2.1 H.2
  rw [show 2 + (P - 2) = P by omega] at LR
  refine g_aload_n dX11_leastNow_0 rfl rfl ?_
  refine g_iload_n dX11_leastNow_1 rfl rfl ?_
  refine g_V1p LR kX11_leastNow_204 dX11_leastNow_2 mW_0 rfl ⟨rfl, rfl⟩ (Nat.le_of_ble_eq_true rfl) ⟨(Nat.le_of_ble_eq_true rfl), (Nat.le_of_ble_eq_true rfl)⟩ ?_
  rintro rv w1 ⟨rfl, τ, rfl, hS1, hb0, hR⟩
  have hK1 := mKK_Sr hT H hS1 (by rw [show 2 + (P - 2) = P by omega]; exact hb0) hR
  obtain ⟨la, ta, HA⟩ := hR q hq
  rw [hS1.sm.c1, hS1.sm.c2] at HA
  refine g_iconst (v := 0) dX11_leastNow_5 (by decide) ?_
  refine g_istore dX11_leastNow_6 (Nat.le_of_ble_eq_true rfl) rfl ?_
  refine Go.mono (fun r w2 h => ?_) (Go.eq rfl rfl rfl rfl (CX11_lnL hP HA hA.1 hA.2 hx 16 0 τ (by omega) (fun _ _ _ => rfl) (fun z hz => absurd hz (by omega))))
  obtain ⟨τ2, s, F, e, g, k, r2⟩ := h
  exact ⟨τ2, s, F, e, g.KK hK1, hS1.sm.tr g.sm, k, r2⟩
set_option maxRecDepth 100000 in
set_option maxHeartbeats 4000000 in
theorem CX11_least_no {r : Int32} {p x : Int32} (hn : n ≤ 8) (h0 : σ 0 0 = nI n) (hr : ¬ ldH (nI n) r) : Ct l mX11_least [.ref 0, .int r, .int p, .int x] (mW σ t) (q_eq (some (.int 2000000101)) (mW σ t)) := by
  refine Ct.of rfl (Nat.le_of_ble_eq_true rfl) ?_
  refine g_aload_n dX11_least_0 rfl rfl ?_
  refine g_iload_n dX11_least_1 rfl rfl ?_
  refine g_V1r (CX11_isRow h0) kX11_least_193 dX11_least_2 mW_0 rfl ⟨rfl, rfl⟩ (Nat.le_of_ble_eq_true rfl) ⟨(Nat.le_of_ble_eq_true rfl), (Nat.le_of_ble_eq_true rfl)⟩ ?_
  rw [mIsF hn hr]
  refine g_if_ne (tgt := 11) dX11_least_5 rfl (fun c_5 => by exfalso; revert c_5; decide) (fun c_5 => ?_)
  refine g_ldc dX11_least_8 tb_1020 ?_
  exact g_iret dX11_least_10 rfl rfl ⟨rfl, rfl⟩
set_option maxRecDepth 100000 in
set_option maxHeartbeats 4000000 in
theorem CX11_least_out {p x : Int32} (hn : n ≤ 8) (h0 : σ 0 0 = nI n) (hq : q < n) (ho : ¬ ((p = 2 ∨ p = 3 ∨ p = 5 ∨ p = 7) ∧ 0 ≤ x ∧ x ≤ 8)) : Ct l mX11_least [.ref 0, .int (nI q), .int p, .int x] (mW σ t) (q_eq (some (.int 2000000102)) (mW σ t)) := by
  refine Ct.of rfl (Nat.le_of_ble_eq_true rfl) ?_
  refine g_aload_n dX11_least_0 rfl rfl ?_
  refine g_iload_n dX11_least_1 rfl rfl ?_
  refine g_V1r (CX11_isRow h0) kX11_least_193 dX11_least_2 mW_0 rfl ⟨rfl, rfl⟩ (Nat.le_of_ble_eq_true rfl) ⟨(Nat.le_of_ble_eq_true rfl), (Nat.le_of_ble_eq_true rfl)⟩ ?_
  rw [mIsT hn hq]
  refine g_if_ne (tgt := 11) dX11_least_5 rfl (fun c_5 => ?_) (fun c_5 => by exfalso; revert c_5; decide)
  refine g_iload_n dX11_least_11 rfl rfl ?_
  refine g_S1r CX11_isPrime kX11_least_239 dX11_least_12 ⟨rfl, rfl⟩ (Nat.le_of_ble_eq_true rfl) ⟨(Nat.le_of_ble_eq_true rfl), (Nat.le_of_ble_eq_true rfl)⟩ ?_
  refine g_if_eq (tgt := 38) dX11_least_15 rfl (fun c_15 => ?_) (fun c_15 => ?_)
  · refine g_ldc dX11_least_38 tb_964 ?_
    exact g_iret dX11_least_40 rfl rfl ⟨rfl, rfl⟩
  · refine g_iload_n dX11_least_18 rfl rfl ?_
    refine g_iconst (v := 0) dX11_least_19 (by decide) ?_
    refine g_bipush (v := 8) dX11_least_20 (by decide) ?_
    refine g_S3r CX11_within kX11_least_68 dX11_least_22 ⟨rfl, rfl⟩ (Nat.le_of_ble_eq_true rfl) ⟨(Nat.le_of_ble_eq_true rfl), (Nat.le_of_ble_eq_true rfl)⟩ ?_
    refine g_if_eq (tgt := 38) dX11_least_25 rfl (fun c_25 => ?_) (fun c_25 => by exact absurd ⟨Classical.byContradiction (fun z => c_15 (bI_f z)), Classical.byContradiction (fun z => c_25 (bI_f z))⟩ ho)
    refine g_ldc dX11_least_38 tb_964 ?_
    exact g_iret dX11_least_40 rfl rfl ⟨rfl, rfl⟩
set_option maxRecDepth 100000 in
set_option maxHeartbeats 4000000 in
theorem CX11_least {x : Int32} (hP : prm P) (H : mKK σ n) (hq : q < n) (hx : 0 ≤ x ∧ x ≤ 8) : Ct l mX11_least [.ref 0, .int (nI q), .int (nI P), .int x] (mW σ t) (fun r w' => ∃ σ' s F, w' = mW σ' t ∧ mKK σ' n ∧ mSm σ σ' ∧ lsOk P (aN (RZ (σ 1) (σ 2) (nI n) (P - 2) q)) s F ∧ r = some (.int (lsM s F x))) := by
  refine Ct.of rfl (Nat.le_of_ble_eq_true rfl) ?_
  have hn := H.1.1
  have h0 := H.1.2.1
  refine g_aload_n dX11_least_0 rfl rfl ?_
  refine g_iload_n dX11_least_1 rfl rfl ?_
  refine g_V1r (CX11_isRow h0) kX11_least_193 dX11_least_2 mW_0 rfl ⟨rfl, rfl⟩ (Nat.le_of_ble_eq_true rfl) ⟨(Nat.le_of_ble_eq_true rfl), (Nat.le_of_ble_eq_true rfl)⟩ ?_
  rw [mIsT hn hq]
  refine g_if_ne (tgt := 11) dX11_least_5 rfl (fun c_5 => ?_) (fun c_5 => by exfalso; revert c_5; decide)
  refine g_iload_n dX11_least_11 rfl rfl ?_
  refine g_S1r CX11_isPrime kX11_least_239 dX11_least_12 ⟨rfl, rfl⟩ (Nat.le_of_ble_eq_true rfl) ⟨(Nat.le_of_ble_eq_true rfl), (Nat.le_of_ble_eq_true rfl)⟩ ?_
  refine g_if_eq (tgt := 38) dX11_least_15 rfl (fun c_15 => by exact absurd (by rcases hP with rfl | rfl | rfl | rfl <;> decide) (bI_0.mp c_15)) (fun c_15 => ?_)
  refine g_iload_n dX11_least_18 rfl rfl ?_
  refine g_iconst (v := 0) dX11_least_19 (by decide) ?_
  refine g_bipush (v := 8) dX11_least_20 (by decide) ?_
  refine g_S3r CX11_within kX11_least_68 dX11_least_22 ⟨rfl, rfl⟩ (Nat.le_of_ble_eq_true rfl) ⟨(Nat.le_of_ble_eq_true rfl), (Nat.le_of_ble_eq_true rfl)⟩ ?_
  refine g_if_eq (tgt := 38) dX11_least_25 rfl (fun c_25 => by exact absurd hx (bI_0.mp c_25)) (fun c_25 => ?_)
  refine g_aload_n dX11_least_28 rfl rfl ?_
  refine g_iload_n dX11_least_29 rfl rfl ?_
  refine g_iload_n dX11_least_30 rfl rfl ?_
  refine g_iload_n dX11_least_31 rfl rfl ?_
  refine g_V3p (CX11_leastNow hP H hq hx) kX11_least_242 dX11_least_32 mW_0 rfl ⟨rfl, rfl⟩ (Nat.le_of_ble_eq_true rfl) ⟨(Nat.le_of_ble_eq_true rfl), (Nat.le_of_ble_eq_true rfl)⟩ ?_
  rintro rv w1 ⟨τ, s, F, rfl, hK, hS, hL, rfl⟩
  refine g_goto (tgt := 40) dX11_least_35 rfl ?_
  exact g_iret dX11_least_40 rfl rfl ⟨τ, s, F, rfl, hK, hS, hL, rfl⟩
end
