theorem fs_orN {p : Nat → Bool} {n m : Nat} (hn : ∀ k, p k = true → ∃ x, x < n ∧ p x = true) (hm : ∀ k, p k = true → ∃ x, x < m ∧ p x = true) : orNone n (fs p n 0) = orNone m (fs p m 0) := by
  have key : ∀ {a : Nat}, (∀ k, p k = true → ∃ x, x < a ∧ p x = true) → (∀ k, ¬ p k = true) → orNone a (fs p a 0) = 2000000001 := by
    intro a _ h
    rw [fs_is (x := a) (by omega) (by omega) (Or.inl (by omega)) (fun k _ _ => h k), orNone, if_neg (by omega)]
  by_cases h : ∃ k, p k = true
  · obtain ⟨k, hk⟩ := h
    have fl : ∀ {a : Nat}, (∃ x, x < a ∧ p x = true) → fs p a 0 < a ∧ p (fs p a 0) = true := by
      rintro a ⟨x, hx, px⟩
      have h1 : ¬ x < fs p a 0 := fun z => fs_no a 0 x (by omega) z px
      rcases fs_or (p := p) a 0 with e | e
      · omega
      · exact ⟨by omega, e⟩
    have a1 := fl (hn k hk)
    have a2 := fl (hm k hk)
    have e : fs p n 0 = fs p m 0 := by
      rcases Nat.lt_trichotomy (fs p n 0) (fs p m 0) with y | y | y
      · exact absurd a1.2 (fs_no m 0 _ (by omega) y)
      · exact y
      · exact absurd a2.2 (fs_no n 0 _ (by omega) y)
    rw [e, orNone, orNone, if_pos a2.1, if_pos (by omega)]
  · have h2 : ∀ k, ¬ p k = true := fun k hk => h ⟨k, hk⟩
    rw [key hn h2, key hm h2]
/-- two rows that come again meet early -/
theorem mt_bd {A B : Nat → Int32} {i D : Nat} (hD : 1 ≤ D) (hA : ∀ k, i ≤ k → A (k + D) = A k) (hB : ∀ k, i ≤ k → B (k + D) = B k) {N : Nat} (hN : i + D ≤ N) : ∀ k, mtA A B k = true → ∃ x, x < N ∧ mtA A B x = true := by
  intro k hk
  unfold mtA at *
  rw [decide_eq_true_iff] at hk
  rcases Nat.lt_or_ge k i with y | y
  · exact ⟨k, by omega, decide_eq_true hk⟩
  · refine ⟨i + (k - i) % D, by have := Nat.mod_lt (k - i) (show 0 < D by omega); omega, decide_eq_true ?_⟩
    rw [← per_red (P := A) (show 0 < D by omega) hA k y, ← per_red (P := B) (show 0 < D by omega) hB k y]
    exact hk
theorem mt_eq {σ : Nat → Nat → Int32} {A B : Nat → Int32} {T a b la ta lb tb : Nat} (hT : T < 9) (HA : mRZ σ A T a la ta) (HB : mRZ σ B T b lb tb) : orNone (la + lb + ta * tb) (fs (mtA A B) (la + lb + ta * tb) 0) = orNone (6 + rnd T) (fs (mtA A B) (6 + rnd T) 0) := by
  obtain ⟨⟨g1, g2, g3, g4, g5, g6⟩, h2, h3, h4⟩ := HA
  obtain ⟨⟨f1, f2, f3, f4, f5, f6⟩, e2, e3, e4⟩ := HB
  have hr := rnd_bd T hT
  have hm : 1 * 1 ≤ ta * tb := Nat.mul_le_mul g4 f4
  refine fs_orN (mt_bd (i := la + lb) (D := ta * tb) (by omega) (fun k hk => per_dvd h4 (Nat.dvd_mul_right _ _) k (by omega)) (fun k hk => per_dvd e4 (Nat.dvd_mul_left _ _) k (by omega)) (Nat.le_refl _)) (mt_bd (i := 6) (D := rnd T) hr.1 (fun k hk => per_dvd h4 h2 k (by omega)) (fun k hk => per_dvd e4 e2 k (by omega)) (Nat.le_refl _))
section
variable {l : Launch} {σ : Nat → Nat → Int32} {t : Nat → Int64} {n T q k : Nat}
set_option maxRecDepth 100000 in
set_option maxHeartbeats 4000000 in
theorem CX11_mtL {n0 a b la ta lb tb M : Nat} {m : Int32} {A B : Nat → Int32} (hM : M < 2 ^ 30) (HA : mRq σ a la ta) (hva : rsV σ a la ta = A) (HB : mRq σ b lb tb) (hvb : rsV σ b lb tb = B) : ∀ (d k : Nat), k + d = M → Go l mX11_meetsNow n0 (q_eq (some (.int (orNone M (fs (mtA A B) d k)))) (mW σ t)) (0, 0) 37 [some (.ref 0), some (.int (nI a)), some (.int (nI b)), some (.int m), some (.int (nI M)), some (.int (nI k))] [] (mW σ t) := by
  intro d
  induction d with
  | zero =>
    intro k hk
    refine g_iload dX11_meetsNow_37 rfl ?_
    refine g_iload dX11_meetsNow_39 rfl ?_
    refine g_icmp_ge (tgt := 72) dX11_meetsNow_41 rfl (fun c_41 => ?_) (fun c_41 => by exact absurd (nI_le (by omega) (by omega)) c_41)
    refine g_ldc dX11_meetsNow_72 tb_854 ?_
    exact g_iret dX11_meetsNow_74 rfl rfl ⟨by rw [fs, orNone, if_neg (by omega)], rfl⟩
  | succ d ih =>
    intro k hk
    refine g_iload dX11_meetsNow_37 rfl ?_
    refine g_iload dX11_meetsNow_39 rfl ?_
    refine g_icmp_ge (tgt := 72) dX11_meetsNow_41 rfl (fun c_41 => by exact absurd c_41 (nI_ge (by omega) (by omega))) (fun c_41 => ?_)
    refine g_aload_n dX11_meetsNow_44 rfl rfl ?_
    refine g_iload_n dX11_meetsNow_45 rfl rfl ?_
    refine g_iload dX11_meetsNow_46 rfl ?_
    refine g_i2l dX11_meetsNow_48 ?_
    rw [nI_64 (k := k) (by omega)]
    refine g_V2r (CX11_restAt HA (by omega)) kX11_meetsNow_162 dX11_meetsNow_49 mW_0 rfl ⟨rfl, rfl⟩ (Nat.le_of_ble_eq_true rfl) ⟨(Nat.le_of_ble_eq_true rfl), (Nat.le_of_ble_eq_true rfl)⟩ ?_
    rw [hva]
    refine g_aload_n dX11_meetsNow_52 rfl rfl ?_
    refine g_iload_n dX11_meetsNow_53 rfl rfl ?_
    refine g_iload dX11_meetsNow_54 rfl ?_
    refine g_i2l dX11_meetsNow_56 ?_
    rw [nI_64 (k := k) (by omega)]
    refine g_V2r (CX11_restAt HB (by omega)) kX11_meetsNow_162 dX11_meetsNow_57 mW_0 rfl ⟨rfl, rfl⟩ (Nat.le_of_ble_eq_true rfl) ⟨(Nat.le_of_ble_eq_true rfl), (Nat.le_of_ble_eq_true rfl)⟩ ?_
    rw [hvb]
    refine g_icmp_ne (tgt := 66) dX11_meetsNow_60 rfl (fun c_60 => ?_) (fun c_60 => ?_)
    · refine g_iinc (v := 1) dX11_meetsNow_66 (by decide) rfl (Nat.le_of_ble_eq_true rfl) rfl ?_
      refine g_goto (tgt := 37) dX11_meetsNow_69 rfl ?_
      refine Go.mono (Q' := q_eq (some (.int (orNone M (fs (mtA A B) d (k + 1))))) (mW σ t)) (fun r w2 h => by rw [fs, if_neg (show ¬ mtA A B k = true from fun z => c_60 (of_decide_eq_true z))]; exact h) ?_
      exact Go.eq rfl (show _ = _ by rw [← nI_1 k]; rfl) rfl rfl (ih (k + 1) (by omega))
    · refine g_iload dX11_meetsNow_63 rfl ?_
      exact g_iret dX11_meetsNow_65 rfl rfl ⟨by rw [fs, if_pos (show mtA A B k = true from decide_eq_true c_60), orNone, if_pos (by omega)], rfl⟩
set_option maxRecDepth 100000 in
set_option maxHeartbeats 4000000 in
theorem CX11_meetsNow {a b : Nat} (hT : T < 9) (H : mKK σ n) (ha : a < n) (hb : b < n) : Ct l mX11_meetsNow [.ref 0, .int (nI a), .int (nI b), .int (nI (2 + T))] (mW σ t) (fun r w' => ∃ σ', w' = mW σ' t ∧ mKK σ' n ∧ mSm σ σ' ∧ r = some (.int (orNone (6 + rnd T) (fs (mtA (RZ (σ 1) (σ 2) (nI n) T a) (RZ (σ 1) (σ 2) (nI n) T b)) (6 + rnd T) 0)))) := by
  refine Ct.of rfl (Nat.le_of_ble_eq_true rfl) ?_
  have hn := H.1.1
  refine g_aload_n dX11_meetsNow_0 rfl rfl ?_
  refine g_iload_n dX11_meetsNow_1 rfl rfl ?_
  refine g_V1p (CX11_layRests hT (T := T) H.1.1 H.1.2.1 H.1.2.2.1 H.1.2.2.2.1 H.2) kX11_meetsNow_204 dX11_meetsNow_2 mW_0 rfl ⟨rfl, rfl⟩ (Nat.le_of_ble_eq_true rfl) ⟨(Nat.le_of_ble_eq_true rfl), (Nat.le_of_ble_eq_true rfl)⟩ ?_
  rintro rv w1 ⟨rfl, τ, rfl, hS1, hb0, hR⟩
  have hK1 := mKK_Sr hT H hS1 hb0 hR
  obtain ⟨la, ta, HA⟩ := hR a ha
  obtain ⟨lb, tb, HB⟩ := hR b hb
  rw [hS1.sm.c1, hS1.sm.c2] at HA HB
  obtain ⟨qa, la2, ta2, ta1, la6, ta3⟩ := id HA.1
  obtain ⟨qb, lb2, tb2, tb1, lb6, tb3⟩ := id HB.1
  have hmm : ta * tb ≤ 336 * 336 := Nat.mul_le_mul ta3 tb3
  refine g_aload_n dX11_meetsNow_5 rfl rfl ?_
  refine g_getf dX11_meetsNow_6 fX11_32 mW_0 rfl ?_
  refine g_iload_n dX11_meetsNow_9 rfl rfl ?_
  refine g_iald dX11_meetsNow_10 mA8 (vin_n (by omega) (by decide)) ?_
  rw [nI_clamp (by omega), la2]
  refine g_aload_n dX11_meetsNow_11 rfl rfl ?_
  refine g_getf dX11_meetsNow_12 fX11_32 mW_0 rfl ?_
  refine g_iload_n dX11_meetsNow_15 rfl rfl ?_
  refine g_iald dX11_meetsNow_16 mA8 (vin_n (by omega) (by decide)) ?_
  rw [nI_clamp (by omega), lb2]
  refine g_iadd dX11_meetsNow_17 ?_
  rw [nI_add]
  refine g_aload_n dX11_meetsNow_18 rfl rfl ?_
  refine g_getf dX11_meetsNow_19 fX11_35 mW_0 rfl ?_
  refine g_iload_n dX11_meetsNow_22 rfl rfl ?_
  refine g_iald dX11_meetsNow_23 mA9 (vin_n (by omega) (by decide)) ?_
  rw [nI_clamp (by omega), ta2]
  refine g_aload_n dX11_meetsNow_24 rfl rfl ?_
  refine g_getf dX11_meetsNow_25 fX11_35 mW_0 rfl ?_
  refine g_iload_n dX11_meetsNow_28 rfl rfl ?_
  refine g_iald dX11_meetsNow_29 mA9 (vin_n (by omega) (by decide)) ?_
  rw [nI_clamp (by omega), tb2]
  refine g_imul dX11_meetsNow_30 ?_
  rw [nI_mul]
  refine g_iadd dX11_meetsNow_31 ?_
  rw [nI_add]
  refine g_istore dX11_meetsNow_32 (Nat.le_of_ble_eq_true rfl) rfl ?_
  refine g_iconst (v := 0) dX11_meetsNow_34 (by decide) ?_
  refine g_istore dX11_meetsNow_35 (Nat.le_of_ble_eq_true rfl) rfl ?_
  refine Go.mono (fun r w2 h => ?_) (Go.eq rfl rfl rfl rfl (CX11_mtL (by omega) HA.1 (mRZ_v HA) HB.1 (mRZ_v HB) (la + lb + ta * tb) 0 (by omega)))
  exact ⟨τ, h.2, hK1, hS1.sm, by rw [h.1, mt_eq hT HA HB]⟩
set_option maxRecDepth 100000 in
set_option maxHeartbeats 4000000 in
theorem CX11_meets_no {r r2 m : Int32} (hn : n ≤ 8) (h0 : σ 0 0 = nI n) (hr : ¬ ldH (nI n) r) : Ct l mX11_meets [.ref 0, .int r, .int r2, .int m] (mW σ t) (q_eq (some (.int 2000000101)) (mW σ t)) := by
  refine Ct.of rfl (Nat.le_of_ble_eq_true rfl) ?_
  refine g_aload_n dX11_meets_0 rfl rfl ?_
  refine g_iload_n dX11_meets_1 rfl rfl ?_
  refine g_V1r (CX11_isRow h0) kX11_meets_193 dX11_meets_2 mW_0 rfl ⟨rfl, rfl⟩ (Nat.le_of_ble_eq_true rfl) ⟨(Nat.le_of_ble_eq_true rfl), (Nat.le_of_ble_eq_true rfl)⟩ ?_
  rw [mIsF hn hr]
  refine g_if_eq (tgt := 16) dX11_meets_5 rfl (fun c_5 => ?_) (fun c_5 => by exfalso; revert c_5; decide)
  refine g_ldc dX11_meets_16 tb_1020 ?_
  exact g_iret dX11_meets_18 rfl rfl ⟨rfl, rfl⟩
set_option maxRecDepth 100000 in
set_option maxHeartbeats 4000000 in
theorem CX11_meets_no2 {r m : Int32} (hn : n ≤ 8) (h0 : σ 0 0 = nI n) (hq : q < n) (hr : ¬ ldH (nI n) r) : Ct l mX11_meets [.ref 0, .int (nI q), .int r, .int m] (mW σ t) (q_eq (some (.int 2000000101)) (mW σ t)) := by
  refine Ct.of rfl (Nat.le_of_ble_eq_true rfl) ?_
  refine g_aload_n dX11_meets_0 rfl rfl ?_
  refine g_iload_n dX11_meets_1 rfl rfl ?_
  refine g_V1r (CX11_isRow h0) kX11_meets_193 dX11_meets_2 mW_0 rfl ⟨rfl, rfl⟩ (Nat.le_of_ble_eq_true rfl) ⟨(Nat.le_of_ble_eq_true rfl), (Nat.le_of_ble_eq_true rfl)⟩ ?_
  rw [mIsT hn hq]
  refine g_if_eq (tgt := 16) dX11_meets_5 rfl (fun c_5 => by exfalso; revert c_5; decide) (fun c_5 => ?_)
  refine g_aload_n dX11_meets_8 rfl rfl ?_
  refine g_iload_n dX11_meets_9 rfl rfl ?_
  refine g_V1r (CX11_isRow h0) kX11_meets_193 dX11_meets_10 mW_0 rfl ⟨rfl, rfl⟩ (Nat.le_of_ble_eq_true rfl) ⟨(Nat.le_of_ble_eq_true rfl), (Nat.le_of_ble_eq_true rfl)⟩ ?_
  rw [mIsF hn hr]
  refine g_if_ne (tgt := 19) dX11_meets_13 rfl (fun c_13 => by exfalso; revert c_13; decide) (fun c_13 => ?_)
  refine g_ldc dX11_meets_16 tb_1020 ?_
  exact g_iret dX11_meets_18 rfl rfl ⟨rfl, rfl⟩
set_option maxRecDepth 100000 in
set_option maxHeartbeats 4000000 in
theorem CX11_meets_out {a b : Nat} {m : Int32} (hn : n ≤ 8) (h0 : σ 0 0 = nI n) (ha : a < n) (hb : b < n) (ho : ¬ (2 ≤ m ∧ m ≤ 10)) : Ct l mX11_meets [.ref 0, .int (nI a), .int (nI b), .int m] (mW σ t) (q_eq (some (.int 2000000102)) (mW σ t)) := by
  refine Ct.of rfl (Nat.le_of_ble_eq_true rfl) ?_
  refine g_aload_n dX11_meets_0 rfl rfl ?_
  refine g_iload_n dX11_meets_1 rfl rfl ?_
  refine g_V1r (CX11_isRow h0) kX11_meets_193 dX11_meets_2 mW_0 rfl ⟨rfl, rfl⟩ (Nat.le_of_ble_eq_true rfl) ⟨(Nat.le_of_ble_eq_true rfl), (Nat.le_of_ble_eq_true rfl)⟩ ?_
  rw [mIsT hn ha]
  refine g_if_eq (tgt := 16) dX11_meets_5 rfl (fun c_5 => by exfalso; revert c_5; decide) (fun c_5 => ?_)
  refine g_aload_n dX11_meets_8 rfl rfl ?_
  refine g_iload_n dX11_meets_9 rfl rfl ?_
  refine g_V1r (CX11_isRow h0) kX11_meets_193 dX11_meets_10 mW_0 rfl ⟨rfl, rfl⟩ (Nat.le_of_ble_eq_true rfl) ⟨(Nat.le_of_ble_eq_true rfl), (Nat.le_of_ble_eq_true rfl)⟩ ?_
  rw [mIsT hn hb]
  refine g_if_ne (tgt := 19) dX11_meets_13 rfl (fun c_13 => ?_) (fun c_13 => by exfalso; revert c_13; decide)
  refine g_iload_n dX11_meets_19 rfl rfl ?_
  refine g_iconst (v := 2) dX11_meets_20 (by decide) ?_
  refine g_bipush (v := 10) dX11_meets_21 (by decide) ?_
  refine g_S3r CX11_within kX11_meets_68 dX11_meets_23 ⟨rfl, rfl⟩ (Nat.le_of_ble_eq_true rfl) ⟨(Nat.le_of_ble_eq_true rfl), (Nat.le_of_ble_eq_true rfl)⟩ ?_
  refine g_if_eq (tgt := 39) dX11_meets_26 rfl (fun c_26 => ?_) (fun c_26 => by exact absurd (Classical.byContradiction (fun z => c_26 (bI_f z))) ho)
  refine g_ldc dX11_meets_39 tb_964 ?_
  exact g_iret dX11_meets_41 rfl rfl ⟨rfl, rfl⟩
set_option maxRecDepth 100000 in
set_option maxHeartbeats 4000000 in
theorem CX11_meets {a b : Nat} (hT : T < 9) (H : mKK σ n) (ha : a < n) (hb : b < n) : Ct l mX11_meets [.ref 0, .int (nI a), .int (nI b), .int (nI (2 + T))] (mW σ t) (fun r w' => ∃ σ', w' = mW σ' t ∧ mKK σ' n ∧ mSm σ σ' ∧ r = some (.int (orNone (6 + rnd T) (fs (mtA (RZ (σ 1) (σ 2) (nI n) T a) (RZ (σ 1) (σ 2) (nI n) T b)) (6 + rnd T) 0)))) := by
  refine Ct.of rfl (Nat.le_of_ble_eq_true rfl) ?_
  have hn := H.1.1
  have h0 := H.1.2.1
  refine g_aload_n dX11_meets_0 rfl rfl ?_
  refine g_iload_n dX11_meets_1 rfl rfl ?_
  refine g_V1r (CX11_isRow h0) kX11_meets_193 dX11_meets_2 mW_0 rfl ⟨rfl, rfl⟩ (Nat.le_of_ble_eq_true rfl) ⟨(Nat.le_of_ble_eq_true rfl), (Nat.le_of_ble_eq_true rfl)⟩ ?_
  rw [mIsT hn ha]
  refine g_if_eq (tgt := 16) dX11_meets_5 rfl (fun c_5 => by exfalso; revert c_5; decide) (fun c_5 => ?_)
  refine g_aload_n dX11_meets_8 rfl rfl ?_
  refine g_iload_n dX11_meets_9 rfl rfl ?_
  refine g_V1r (CX11_isRow h0) kX11_meets_193 dX11_meets_10 mW_0 rfl ⟨rfl, rfl⟩ (Nat.le_of_ble_eq_true rfl) ⟨(Nat.le_of_ble_eq_true rfl), (Nat.le_of_ble_eq_true rfl)⟩ ?_
  rw [mIsT hn hb]
  refine g_if_ne (tgt := 19) dX11_meets_13 rfl (fun c_13 => ?_) (fun c_13 => by exfalso; revert c_13; decide)
  refine g_iload_n dX11_meets_19 rfl rfl ?_
  refine g_iconst (v := 2) dX11_meets_20 (by decide) ?_
  refine g_bipush (v := 10) dX11_meets_21 (by decide) ?_
  refine g_S3r CX11_within kX11_meets_68 dX11_meets_23 ⟨rfl, rfl⟩ (Nat.le_of_ble_eq_true rfl) ⟨(Nat.le_of_ble_eq_true rfl), (Nat.le_of_ble_eq_true rfl)⟩ ?_
  refine g_if_eq (tgt := 39) dX11_meets_26 rfl (fun c_26 => by exact absurd ⟨nI_le (a := 2) (by omega) (by omega), nI_le (b := 10) (by omega) (by decide)⟩ (bI_0.mp c_26)) (fun c_26 => ?_)
  refine g_aload_n dX11_meets_29 rfl rfl ?_
  refine g_iload_n dX11_meets_30 rfl rfl ?_
  refine g_iload_n dX11_meets_31 rfl rfl ?_
  refine g_iload_n dX11_meets_32 rfl rfl ?_
  refine g_V3p (CX11_meetsNow hT H ha hb) kX11_meets_287 dX11_meets_33 mW_0 rfl ⟨rfl, rfl⟩ (Nat.le_of_ble_eq_true rfl) ⟨(Nat.le_of_ble_eq_true rfl), (Nat.le_of_ble_eq_true rfl)⟩ ?_
  rintro rv w1 ⟨τ, rfl, hK, hS, rfl⟩
  refine g_goto (tgt := 41) dX11_meets_36 rfl ?_
  exact g_iret dX11_meets_41 rfl rfl ⟨τ, rfl, hK, hS, rfl⟩
end
