section
variable {l : Launch} {σ : Nat → Nat → Int32}
set_option maxRecDepth 100000 in
set_option maxHeartbeats 4000000 in
theorem CX10_found {n g : Nat} (hn : n ≤ 8) (hs : σ 1 2 = nI n) (hg : g ≤ 8) (h4 : σ 4 1 = nI g) : Ct l mX10_found [.ref 0] (xW σ) (fun rv w' => ∃ x y z, if (gsK (σ 5) g) < 381 then rv = some (.int (adR n)) ∧ w' = xW (adS (ex3 σ x y z) n 0 (gsU (gsK (σ 5) g)) (gsV (gsK (σ 5) g)) (fdE (σ 5) g) (fdF (σ 5) g)) else rv = some (.int 2000000103) ∧ w' = xW (ex3 σ x y z)) := by
  refine Ct.of rfl (Nat.le_of_ble_eq_true rfl) ?_
  refine g_aload_n dX10_found_0 rfl rfl ?_
  refine g_getf dX10_found_1 fX10_38 (xW_at (by decide) xC0) rfl ?_
  refine g_aload_n dX10_found_4 rfl rfl ?_
  refine g_getf dX10_found_5 fX10_21 (xW_at (by decide) xC0) rfl ?_
  refine g_V1p (CX2_isFoundFor h4 hg) kX10_found_242 dX10_found_8 (xW_at (by decide) xC12) rfl ⟨rfl, rfl⟩ (Nat.le_of_ble_eq_true rfl) ⟨(Nat.le_of_ble_eq_true rfl), (Nat.le_of_ble_eq_true rfl)⟩ ?_
  rintro rv w1 ⟨x, y, z, rfl, rfl, hx⟩
  refine g_if_ne (tgt := 17) dX10_found_11 rfl (fun c_11 => ?_) (fun c_11 => ?_)
  · have hq : gsK (σ 5) g < 381 := Classical.byContradiction (fun z => c_11 (bI_f z))
    obtain ⟨e1, e2, e3⟩ := hx hq
    subst e1 e2 e3
    refine g_aload_n dX10_found_17 rfl rfl ?_
    refine g_getf dX10_found_18 fX10_38 (xW_at (by decide) xC0) rfl ?_
    refine g_V0r CX2_degree kX10_found_245 dX10_found_21 (xW_at (by decide) xC12) rfl ⟨rfl, rfl⟩ (Nat.le_of_ble_eq_true rfl) ⟨(Nat.le_of_ble_eq_true rfl), (Nat.le_of_ble_eq_true rfl)⟩ ?_
    refine g_case (0) (fun s_24_0 => ?_) (fun s_24_0 => ?_)
    · refine g_lkEq (off := 28) (tgt := 52) dX10_found_24 s_24_0 rfl rfl rfl ?_
      have k0 : gsK (σ 5) g = 0 := by
        have : gsD (gsK (σ 5) g) = 0 := s_24_0
        unfold gsD at this; grind
      refine g_aload_n dX10_found_52 rfl rfl ?_
      refine g_iconst (v := 0) dX10_found_53 (by decide) ?_
      refine g_iconst (v := 0) dX10_found_54 (by decide) ?_
      refine g_iconst (v := 0) dX10_found_55 (by decide) ?_
      refine g_iconst (v := 0) dX10_found_56 (by decide) ?_
      refine g_iconst (v := 0) dX10_found_57 (by decide) ?_
      refine g_V5r (CX10_added (σ := (ex3 σ (gsD (gsK (σ 5) g)) (gsU (gsK (σ 5) g)) (gsV (gsK (σ 5) g)))) hn hs) kX10_found_221 dX10_found_58 (xW_at (by decide) xC0) rfl ⟨rfl, rfl⟩ (Nat.le_of_ble_eq_true rfl) ⟨(Nat.le_of_ble_eq_true rfl), (Nat.le_of_ble_eq_true rfl)⟩ ?_
      exact g_iret dX10_found_61 rfl rfl ⟨_, _, _, by rw [if_pos hq]; refine ⟨rfl, ?_⟩; rw [fdE, fdF, if_pos k0, if_pos k0, show gsU (gsK (σ 5) g) = 0 by rw [k0]; rfl, show gsV (gsK (σ 5) g) = 0 by rw [k0]; rfl]⟩
    · refine g_case (1) (fun s_24_1 => ?_) (fun s_24_1 => ?_)
      · refine g_lkEq (off := 38) (tgt := 62) dX10_found_24 s_24_1 rfl rfl rfl ?_
        have k1 : gsK (σ 5) g ≠ 0 ∧ gsK (σ 5) g < 20 := by
          have : gsD (gsK (σ 5) g) = 1 := s_24_1
          unfold gsD at this; grind
        refine g_aload_n dX10_found_62 rfl rfl ?_
        refine g_iconst (v := 0) dX10_found_63 (by decide) ?_
        refine g_aload_n dX10_found_64 rfl rfl ?_
        refine g_getf dX10_found_65 fX10_38 (xW_at (by decide) xC0) rfl ?_
        refine g_V0r CX2_u kX10_found_248 dX10_found_68 (xW_at (by decide) xC12) rfl ⟨rfl, rfl⟩ (Nat.le_of_ble_eq_true rfl) ⟨(Nat.le_of_ble_eq_true rfl), (Nat.le_of_ble_eq_true rfl)⟩ ?_
        refine g_iconst (v := 0) dX10_found_71 (by decide) ?_
        refine g_aload_n dX10_found_72 rfl rfl ?_
        refine g_getf dX10_found_73 fX10_21 (xW_at (by decide) xC0) rfl ?_
        refine g_iconst (v := 0) dX10_found_76 (by decide) ?_
        refine g_V1r (CX4_at xNum4 (by decide)) kX10_found_254 dX10_found_77 (xW_at xNum4.1.1 xNum4.2.1) rfl ⟨rfl, rfl⟩ (Nat.le_of_ble_eq_true rfl) ⟨(Nat.le_of_ble_eq_true rfl), (Nat.le_of_ble_eq_true rfl)⟩ ?_
        refine g_aload_n dX10_found_80 rfl rfl ?_
        refine g_getf dX10_found_81 fX10_38 (xW_at (by decide) xC0) rfl ?_
        refine g_V0r CX2_u kX10_found_248 dX10_found_84 (xW_at (by decide) xC12) rfl ⟨rfl, rfl⟩ (Nat.le_of_ble_eq_true rfl) ⟨(Nat.le_of_ble_eq_true rfl), (Nat.le_of_ble_eq_true rfl)⟩ ?_
        refine g_aload_n dX10_found_87 rfl rfl ?_
        refine g_getf dX10_found_88 fX10_21 (xW_at (by decide) xC0) rfl ?_
        refine g_iconst (v := 0) dX10_found_91 (by decide) ?_
        refine g_V1r (CX4_at xNum4 (by decide)) kX10_found_254 dX10_found_92 (xW_at xNum4.1.1 xNum4.2.1) rfl ⟨rfl, rfl⟩ (Nat.le_of_ble_eq_true rfl) ⟨(Nat.le_of_ble_eq_true rfl), (Nat.le_of_ble_eq_true rfl)⟩ ?_
        refine g_imul dX10_found_95 ?_
        refine g_V5r (CX10_added (σ := (ex3 σ (gsD (gsK (σ 5) g)) (gsU (gsK (σ 5) g)) (gsV (gsK (σ 5) g)))) hn hs) kX10_found_221 dX10_found_96 (xW_at (by decide) xC0) rfl ⟨rfl, rfl⟩ (Nat.le_of_ble_eq_true rfl) ⟨(Nat.le_of_ble_eq_true rfl), (Nat.le_of_ble_eq_true rfl)⟩ ?_
        exact g_iret dX10_found_99 rfl rfl ⟨_, _, _, by rw [if_pos hq]; refine ⟨rfl, ?_⟩; rw [fdE, fdF, if_neg k1.1, if_neg k1.1, if_pos k1.2, show gsV (gsK (σ 5) g) = 0 by rw [gsV, if_pos k1.2], gAt, ← h4]; rfl⟩
      · refine g_lookup (off := 76) (tgt := 100) dX10_found_24 rfl (lk_out _ _ _ (by have a0 := ne_toInt (z := 0) rfl s_24_0; have a1 := ne_toInt (z := 1) rfl s_24_1; intro q hq; replace hq : q ∈ ([(0, 28), (1, 38)] : List (Int × Int)) := hq; simp only [List.mem_cons, List.not_mem_nil, or_false] at hq; rcases hq with rfl | rfl <;> (intro e; simp only at e; omega))) rfl ?_
        have k2 : ¬ gsK (σ 5) g < 20 := by
          have a0 : gsD (gsK (σ 5) g) ≠ 0 := s_24_0
          have a1 : gsD (gsK (σ 5) g) ≠ 1 := s_24_1
          unfold gsD at a0 a1; grind
        refine g_aload_n dX10_found_100 rfl rfl ?_
        refine g_iconst (v := 0) dX10_found_101 (by decide) ?_
        refine g_aload_n dX10_found_102 rfl rfl ?_
        refine g_getf dX10_found_103 fX10_38 (xW_at (by decide) xC0) rfl ?_
        refine g_V0r CX2_u kX10_found_248 dX10_found_106 (xW_at (by decide) xC12) rfl ⟨rfl, rfl⟩ (Nat.le_of_ble_eq_true rfl) ⟨(Nat.le_of_ble_eq_true rfl), (Nat.le_of_ble_eq_true rfl)⟩ ?_
        refine g_aload_n dX10_found_109 rfl rfl ?_
        refine g_getf dX10_found_110 fX10_38 (xW_at (by decide) xC0) rfl ?_
        refine g_V0r CX2_v kX10_found_251 dX10_found_113 (xW_at (by decide) xC12) rfl ⟨rfl, rfl⟩ (Nat.le_of_ble_eq_true rfl) ⟨(Nat.le_of_ble_eq_true rfl), (Nat.le_of_ble_eq_true rfl)⟩ ?_
        refine g_aload_n dX10_found_116 rfl rfl ?_
        refine g_getf dX10_found_117 fX10_21 (xW_at (by decide) xC0) rfl ?_
        refine g_iconst (v := 0) dX10_found_120 (by decide) ?_
        refine g_V1r (CX4_at xNum4 (by decide)) kX10_found_254 dX10_found_121 (xW_at xNum4.1.1 xNum4.2.1) rfl ⟨rfl, rfl⟩ (Nat.le_of_ble_eq_true rfl) ⟨(Nat.le_of_ble_eq_true rfl), (Nat.le_of_ble_eq_true rfl)⟩ ?_
        refine g_aload_n dX10_found_124 rfl rfl ?_
        refine g_getf dX10_found_125 fX10_21 (xW_at (by decide) xC0) rfl ?_
        refine g_iconst (v := 1) dX10_found_128 (by decide) ?_
        refine g_V1r (CX4_at xNum4 (by decide)) kX10_found_254 dX10_found_129 (xW_at xNum4.1.1 xNum4.2.1) rfl ⟨rfl, rfl⟩ (Nat.le_of_ble_eq_true rfl) ⟨(Nat.le_of_ble_eq_true rfl), (Nat.le_of_ble_eq_true rfl)⟩ ?_
        refine g_V5r (CX10_added (σ := (ex3 σ (gsD (gsK (σ 5) g)) (gsU (gsK (σ 5) g)) (gsV (gsK (σ 5) g)))) hn hs) kX10_found_221 dX10_found_132 (xW_at (by decide) xC0) rfl ⟨rfl, rfl⟩ (Nat.le_of_ble_eq_true rfl) ⟨(Nat.le_of_ble_eq_true rfl), (Nat.le_of_ble_eq_true rfl)⟩ ?_
        exact g_iret dX10_found_135 rfl rfl ⟨_, _, _, by rw [if_pos hq]; refine ⟨rfl, ?_⟩; rw [fdE, fdF, if_neg (by omega), if_neg (by omega), if_neg k2, gAt, gAt, ← h4]; rfl⟩
  · refine g_ldc dX10_found_14 tb_405 ?_
    exact g_iret dX10_found_16 rfl rfl ⟨x, y, z, by rw [if_neg (bI_0.mp c_11)]; exact ⟨rfl, rfl⟩⟩
set_option maxRecDepth 100000 in
set_option maxHeartbeats 4000000 in
theorem CX10_toldRows_loop {n n0 : Nat} (hn : n ≤ 8) (hs : σ 1 2 = nI n) : ∀ (d j : Nat), j + d = n → Go l mX10_toldRows n0 (q_eq (some (.int (nI (tcN (σ 2) (σ 1 2) n)))) (xW σ)) (0, 0) 4 [some (.ref 0), some (.int (nI (tcN (σ 2) (σ 1 2) j))), some (.int (nI j))] [] (xW σ) := by
  intro d
  induction d with
  | zero =>
    intro j hj
    refine g_iload_n dX10_toldRows_4 rfl rfl ?_
    refine g_aload_n dX10_toldRows_5 rfl rfl ?_
    refine g_getf dX10_toldRows_6 fX10_10 (xW_at (by decide) xC0) rfl ?_
    refine g_V0r (CX3_size xLed1) kX10_toldRows_121 dX10_toldRows_9 (xW_at xLed1.1.1 xLed1.2.1) rfl ⟨rfl, rfl⟩ (Nat.le_of_ble_eq_true rfl) ⟨(Nat.le_of_ble_eq_true rfl), (Nat.le_of_ble_eq_true rfl)⟩ ?_
    refine g_icmp_ge (tgt := 35) dX10_toldRows_12 rfl (fun c_12 => ?_) (fun c_12 => by exact absurd (by rw [hs]; exact nI_le (by omega) (by omega)) c_12)
    refine g_iload_n dX10_toldRows_35 rfl rfl ?_
    exact g_iret dX10_toldRows_36 rfl rfl ⟨by rw [show j = n by omega], rfl⟩
  | succ d ih =>
    intro j hj
    refine g_iload_n dX10_toldRows_4 rfl rfl ?_
    refine g_aload_n dX10_toldRows_5 rfl rfl ?_
    refine g_getf dX10_toldRows_6 fX10_10 (xW_at (by decide) xC0) rfl ?_
    refine g_V0r (CX3_size xLed1) kX10_toldRows_121 dX10_toldRows_9 (xW_at xLed1.1.1 xLed1.2.1) rfl ⟨rfl, rfl⟩ (Nat.le_of_ble_eq_true rfl) ⟨(Nat.le_of_ble_eq_true rfl), (Nat.le_of_ble_eq_true rfl)⟩ ?_
    refine g_icmp_ge (tgt := 35) dX10_toldRows_12 rfl (fun c_12 => by rw [hs] at c_12; exact absurd c_12 (nI_ge (by omega) (by omega))) (fun c_12 => ?_)
    refine g_aload_n dX10_toldRows_15 rfl rfl ?_
    refine g_getf dX10_toldRows_16 fX10_10 (xW_at (by decide) xC0) rfl ?_
    refine g_iload_n dX10_toldRows_19 rfl rfl ?_
    refine g_V1r (CX3_isTold xLed1) kX10_toldRows_185 dX10_toldRows_20 (xW_at xLed1.1.1 xLed1.2.1) rfl ⟨rfl, rfl⟩ (Nat.le_of_ble_eq_true rfl) ⟨(Nat.le_of_ble_eq_true rfl), (Nat.le_of_ble_eq_true rfl)⟩ ?_
    refine g_if_eq (tgt := 29) dX10_toldRows_23 rfl (fun c_23 => ?_) (fun c_23 => ?_)
    · refine g_iinc (v := 1) dX10_toldRows_29 (by decide) rfl (Nat.le_of_ble_eq_true rfl) rfl ?_
      refine g_goto (tgt := 4) dX10_toldRows_32 rfl ?_
      exact Go.eq rfl (show _ = _ by rw [← nI_1 j, tcN, if_neg (bI_0.mp c_23), Nat.add_zero]; rfl) rfl rfl (ih (j + 1) (by omega))
    · refine g_iinc (v := 1) dX10_toldRows_26 (by decide) rfl (Nat.le_of_ble_eq_true rfl) rfl ?_
      refine g_iinc (v := 1) dX10_toldRows_29 (by decide) rfl (Nat.le_of_ble_eq_true rfl) rfl ?_
      refine g_goto (tgt := 4) dX10_toldRows_32 rfl ?_
      exact Go.eq rfl (show _ = _ by rw [← nI_1 j, tcN, if_pos (Classical.byContradiction (fun z => c_23 (bI_f z))), ← nI_1]; rfl) rfl rfl (ih (j + 1) (by omega))
set_option maxRecDepth 100000 in
set_option maxHeartbeats 4000000 in
theorem CX10_toldRows {n : Nat} (hn : n ≤ 8) (hs : σ 1 2 = nI n) : Ct l mX10_toldRows [.ref 0] (xW σ) (q_eq (some (.int (nI (tcN (σ 2) (σ 1 2) n)))) (xW σ)) := by
  refine Ct.of rfl (Nat.le_of_ble_eq_true rfl) ?_
  refine g_iconst (v := 0) dX10_toldRows_0 (by decide) ?_
  refine g_istore_n dX10_toldRows_1 rfl (Nat.le_of_ble_eq_true rfl) rfl ?_
  refine g_iconst (v := 0) dX10_toldRows_2 (by decide) ?_
  refine g_istore_n dX10_toldRows_3 rfl (Nat.le_of_ble_eq_true rfl) rfl ?_
  exact CX10_toldRows_loop hn hs n 0 (by omega)
set_option maxRecDepth 100000 in
set_option maxHeartbeats 4000000 in
theorem CX10_degenerateRows_loop {n n0 : Nat} (hn : n ≤ 8) (hs : σ 1 2 = nI n) : ∀ (d j : Nat), j + d = n → Go l mX10_degenerateRows n0 (q_eq (some (.int (nI (dcN (σ 2) (σ 3) (σ 1 2) n)))) (xW σ)) (0, 0) 4 [some (.ref 0), some (.int (nI (dcN (σ 2) (σ 3) (σ 1 2) j))), some (.int (nI j))] [] (xW σ) := by
  intro d
  induction d with
  | zero =>
    intro j hj
    refine g_iload_n dX10_degenerateRows_4 rfl rfl ?_
    refine g_aload_n dX10_degenerateRows_5 rfl rfl ?_
    refine g_getf dX10_degenerateRows_6 fX10_10 (xW_at (by decide) xC0) rfl ?_
    refine g_V0r (CX3_size xLed1) kX10_degenerateRows_121 dX10_degenerateRows_9 (xW_at xLed1.1.1 xLed1.2.1) rfl ⟨rfl, rfl⟩ (Nat.le_of_ble_eq_true rfl) ⟨(Nat.le_of_ble_eq_true rfl), (Nat.le_of_ble_eq_true rfl)⟩ ?_
    refine g_icmp_ge (tgt := 59) dX10_degenerateRows_12 rfl (fun c_12 => ?_) (fun c_12 => by exact absurd (by rw [hs]; exact nI_le (by omega) (by omega)) c_12)
    refine g_iload_n dX10_degenerateRows_59 rfl rfl ?_
    exact g_iret dX10_degenerateRows_60 rfl rfl ⟨by rw [show j = n by omega], rfl⟩
  | succ d ih =>
    intro j hj
    refine g_iload_n dX10_degenerateRows_4 rfl rfl ?_
    refine g_aload_n dX10_degenerateRows_5 rfl rfl ?_
    refine g_getf dX10_degenerateRows_6 fX10_10 (xW_at (by decide) xC0) rfl ?_
    refine g_V0r (CX3_size xLed1) kX10_degenerateRows_121 dX10_degenerateRows_9 (xW_at xLed1.1.1 xLed1.2.1) rfl ⟨rfl, rfl⟩ (Nat.le_of_ble_eq_true rfl) ⟨(Nat.le_of_ble_eq_true rfl), (Nat.le_of_ble_eq_true rfl)⟩ ?_
    refine g_icmp_ge (tgt := 59) dX10_degenerateRows_12 rfl (fun c_12 => by rw [hs] at c_12; exact absurd c_12 (nI_ge (by omega) (by omega))) (fun c_12 => ?_)
    refine g_aload_n dX10_degenerateRows_15 rfl rfl ?_
    refine g_getf dX10_degenerateRows_16 fX10_10 (xW_at (by decide) xC0) rfl ?_
    refine g_iload_n dX10_degenerateRows_19 rfl rfl ?_
    refine g_V1r (CX3_isTold xLed1) kX10_degenerateRows_185 dX10_degenerateRows_20 (xW_at xLed1.1.1 xLed1.2.1) rfl ⟨rfl, rfl⟩ (Nat.le_of_ble_eq_true rfl) ⟨(Nat.le_of_ble_eq_true rfl), (Nat.le_of_ble_eq_true rfl)⟩ ?_
    refine g_if_eq (tgt := 53) dX10_degenerateRows_23 rfl (fun c_23 => ?_) (fun c_23 => ?_)
    · refine g_iinc (v := 1) dX10_degenerateRows_53 (by decide) rfl (Nat.le_of_ble_eq_true rfl) rfl ?_
      refine g_goto (tgt := 4) dX10_degenerateRows_56 rfl ?_
      exact Go.eq rfl (show _ = _ by rw [← nI_1 j, dcN, if_neg (fun q => bI_0.mp c_23 q.1), Nat.add_zero]; rfl) rfl rfl (ih (j + 1) (by omega))
    · refine g_aload_n dX10_degenerateRows_26 rfl rfl ?_
      refine g_getf dX10_degenerateRows_27 fX10_10 (xW_at (by decide) xC0) rfl ?_
      refine g_iload_n dX10_degenerateRows_30 rfl rfl ?_
      refine g_iconst (v := 0) dX10_degenerateRows_31 (by decide) ?_
      refine g_V2r (CX3_numberOf xLed1) kX10_degenerateRows_133 dX10_degenerateRows_32 (xW_at xLed1.1.1 xLed1.2.1) rfl ⟨rfl, rfl⟩ (Nat.le_of_ble_eq_true rfl) ⟨(Nat.le_of_ble_eq_true rfl), (Nat.le_of_ble_eq_true rfl)⟩ ?_
      refine g_aload_n dX10_degenerateRows_35 rfl rfl ?_
      refine g_getf dX10_degenerateRows_36 fX10_10 (xW_at (by decide) xC0) rfl ?_
      refine g_iload_n dX10_degenerateRows_39 rfl rfl ?_
      refine g_iconst (v := 1) dX10_degenerateRows_40 (by decide) ?_
      refine g_V2r (CX3_numberOf xLed1) kX10_degenerateRows_133 dX10_degenerateRows_41 (xW_at xLed1.1.1 xLed1.2.1) rfl ⟨rfl, rfl⟩ (Nat.le_of_ble_eq_true rfl) ⟨(Nat.le_of_ble_eq_true rfl), (Nat.le_of_ble_eq_true rfl)⟩ ?_
      refine g_S2r CX7_order kX10_degenerateRows_199 dX10_degenerateRows_44 ⟨rfl, rfl⟩ (Nat.le_of_ble_eq_true rfl) ⟨(Nat.le_of_ble_eq_true rfl), (Nat.le_of_ble_eq_true rfl)⟩ ?_
      refine g_if_eq (tgt := 53) dX10_degenerateRows_47 rfl (fun c_47 => ?_) (fun c_47 => ?_)
      · refine g_iinc (v := 1) dX10_degenerateRows_53 (by decide) rfl (Nat.le_of_ble_eq_true rfl) rfl ?_
        refine g_goto (tgt := 4) dX10_degenerateRows_56 rfl ?_
        exact Go.eq rfl (show _ = _ by rw [← nI_1 j, dcN, if_neg (fun q => q.2 c_47), Nat.add_zero]; rfl) rfl rfl (ih (j + 1) (by omega))
      · refine g_iinc (v := 1) dX10_degenerateRows_50 (by decide) rfl (Nat.le_of_ble_eq_true rfl) rfl ?_
        refine g_iinc (v := 1) dX10_degenerateRows_53 (by decide) rfl (Nat.le_of_ble_eq_true rfl) rfl ?_
        refine g_goto (tgt := 4) dX10_degenerateRows_56 rfl ?_
        exact Go.eq rfl (show _ = _ by rw [← nI_1 j, dcN, if_pos ⟨Classical.byContradiction (fun z => c_23 (bI_f z)), c_47⟩, ← nI_1]; rfl) rfl rfl (ih (j + 1) (by omega))
set_option maxRecDepth 100000 in
set_option maxHeartbeats 4000000 in
theorem CX10_degenerateRows {n : Nat} (hn : n ≤ 8) (hs : σ 1 2 = nI n) : Ct l mX10_degenerateRows [.ref 0] (xW σ) (q_eq (some (.int (nI (dcN (σ 2) (σ 3) (σ 1 2) n)))) (xW σ)) := by
  refine Ct.of rfl (Nat.le_of_ble_eq_true rfl) ?_
  refine g_iconst (v := 0) dX10_degenerateRows_0 (by decide) ?_
  refine g_istore_n dX10_degenerateRows_1 rfl (Nat.le_of_ble_eq_true rfl) rfl ?_
  refine g_iconst (v := 0) dX10_degenerateRows_2 (by decide) ?_
  refine g_istore_n dX10_degenerateRows_3 rfl (Nat.le_of_ble_eq_true rfl) rfl ?_
  exact CX10_degenerateRows_loop hn hs n 0 (by omega)
def cntV (σ : Nat → Nat → Int32) (n : Nat) (k : Int32) : Int32 := if k = 0 then σ 1 2 else if k = 1 then nI (tcN (σ 2) (σ 1 2) n) else if k = 2 then nI (dcN (σ 2) (σ 3) (σ 1 2) n) else if k = 3 then σ 4 1 else if k = 4 then σ 6 1 else if k = 5 then σ 0 12 else 2000000102
set_option maxRecDepth 100000 in
set_option maxHeartbeats 4000000 in
theorem CX10_count {n : Nat} (hn : n ≤ 8) (hs : σ 1 2 = nI n) {k : Int32} : Ct l mX10_count [.ref 0, .int k] (xW σ) (q_eq (some (.int (cntV σ n k))) (xW σ)) := by
  refine Ct.of rfl (Nat.le_of_ble_eq_true rfl) ?_
  refine g_iload_n dX10_count_0 rfl rfl ?_
  refine g_case (0) (fun s_1_0 => ?_) (fun s_1_0 => ?_)
  · refine g_tblEq (off := 39) (tgt := 40) dX10_count_1 s_1_0 (by decide) (by decide) rfl rfl ?_
    refine g_aload_n dX10_count_40 rfl rfl ?_
    refine g_getf dX10_count_41 fX10_10 (xW_at (by decide) xC0) rfl ?_
    refine g_V0r (CX3_size xLed1) kX10_count_121 dX10_count_44 (xW_at xLed1.1.1 xLed1.2.1) rfl ⟨rfl, rfl⟩ (Nat.le_of_ble_eq_true rfl) ⟨(Nat.le_of_ble_eq_true rfl), (Nat.le_of_ble_eq_true rfl)⟩ ?_
    exact g_iret dX10_count_47 rfl rfl ⟨by grind [cntV], rfl⟩
  · refine g_case (1) (fun s_1_1 => ?_) (fun s_1_1 => ?_)
    · refine g_tblEq (off := 47) (tgt := 48) dX10_count_1 s_1_1 (by decide) (by decide) rfl rfl ?_
      refine g_aload_n dX10_count_48 rfl rfl ?_
      refine g_V0r (CX10_toldRows hn hs) kX10_count_268 dX10_count_49 (xW_at (by decide) xC0) rfl ⟨rfl, rfl⟩ (Nat.le_of_ble_eq_true rfl) ⟨(Nat.le_of_ble_eq_true rfl), (Nat.le_of_ble_eq_true rfl)⟩ ?_
      exact g_iret dX10_count_52 rfl rfl ⟨by grind [cntV], rfl⟩
    · refine g_case (2) (fun s_1_2 => ?_) (fun s_1_2 => ?_)
      · refine g_tblEq (off := 52) (tgt := 53) dX10_count_1 s_1_2 (by decide) (by decide) rfl rfl ?_
        refine g_aload_n dX10_count_53 rfl rfl ?_
        refine g_V0r (CX10_degenerateRows hn hs) kX10_count_271 dX10_count_54 (xW_at (by decide) xC0) rfl ⟨rfl, rfl⟩ (Nat.le_of_ble_eq_true rfl) ⟨(Nat.le_of_ble_eq_true rfl), (Nat.le_of_ble_eq_true rfl)⟩ ?_
        exact g_iret dX10_count_57 rfl rfl ⟨by grind [cntV], rfl⟩
      · refine g_case (3) (fun s_1_3 => ?_) (fun s_1_3 => ?_)
        · refine g_tblEq (off := 57) (tgt := 58) dX10_count_1 s_1_3 (by decide) (by decide) rfl rfl ?_
          refine g_aload_n dX10_count_58 rfl rfl ?_
          refine g_getf dX10_count_59 fX10_21 (xW_at (by decide) xC0) rfl ?_
          refine g_V0r (CX4_size xNum4) kX10_count_85 dX10_count_62 (xW_at xNum4.1.1 xNum4.2.1) rfl ⟨rfl, rfl⟩ (Nat.le_of_ble_eq_true rfl) ⟨(Nat.le_of_ble_eq_true rfl), (Nat.le_of_ble_eq_true rfl)⟩ ?_
          exact g_iret dX10_count_65 rfl rfl ⟨by grind [cntV], rfl⟩
        · refine g_case (4) (fun s_1_4 => ?_) (fun s_1_4 => ?_)
          · refine g_tblEq (off := 65) (tgt := 66) dX10_count_1 s_1_4 (by decide) (by decide) rfl rfl ?_
            refine g_aload_n dX10_count_66 rfl rfl ?_
            refine g_getf dX10_count_67 fX10_25 (xW_at (by decide) xC0) rfl ?_
            refine g_V0r (CX4_size xNum6) kX10_count_85 dX10_count_70 (xW_at xNum6.1.1 xNum6.2.1) rfl ⟨rfl, rfl⟩ (Nat.le_of_ble_eq_true rfl) ⟨(Nat.le_of_ble_eq_true rfl), (Nat.le_of_ble_eq_true rfl)⟩ ?_
            exact g_iret dX10_count_73 rfl rfl ⟨by grind [cntV], rfl⟩
          · refine g_case (5) (fun s_1_5 => ?_) (fun s_1_5 => ?_)
            · refine g_tblEq (off := 73) (tgt := 74) dX10_count_1 s_1_5 (by decide) (by decide) rfl rfl ?_
              refine g_aload_n dX10_count_74 rfl rfl ?_
              refine g_getf dX10_count_75 fX10_117 (xW_at (by decide) xC0) rfl ?_
              exact g_iret dX10_count_78 rfl rfl ⟨by grind [cntV], rfl⟩
            · refine g_tableOut (tgt := 79) dX10_count_1 (by have a0 := ne_toInt (z := 0) rfl s_1_0; have a1 := ne_toInt (z := 1) rfl s_1_1; have a2 := ne_toInt (z := 2) rfl s_1_2; have a3 := ne_toInt (z := 3) rfl s_1_3; have a4 := ne_toInt (z := 4) rfl s_1_4; have a5 := ne_toInt (z := 5) rfl s_1_5; omega) rfl ?_
              refine g_ldc dX10_count_79 tb_299 ?_
              exact g_iret dX10_count_81 rfl rfl ⟨by grind [cntV], rfl⟩
abbrev eaP (K N : Nat → Int32) (sz r : Int32) : Prop := ezP K N sz r ∧ tellP (ezC K N sz r) (ezD K N sz r) (vAt (TT K N sz) r 0) (vAt (TT K N sz) r 1)
set_option maxRecDepth 100000 in
set_option maxHeartbeats 4000000 in
theorem CX10_ease {n : Nat} (hK : xK σ n) {r : Int32} : Ct l mX10_ease [.ref 0, .int r] (xW σ) (fun rv w' => ∃ τ, xK τ n ∧ xSame σ τ ∧ if ∃ q, q < n ∧ r = nI q then (if eaP (σ 2) (σ 3) (σ 1 2) r then rv = some (.int (ldKind (σ 2) (σ 1 2) r)) ∧ w' = xW (xChg (ldWr τ 2 3 r.toNatClampNeg 0 (ezC (σ 2) (σ 3) (σ 1 2) r) (ezD (σ 2) (σ 3) (σ 1 2) r) (vAt (TT (σ 2) (σ 3) (σ 1 2)) r 0) (vAt (TT (σ 2) (σ 3) (σ 1 2)) r 1)) r) else rv = some (.int 2000000103) ∧ w' = xW τ) else rv = some (.int 2000000101) ∧ w' = xW τ) := by
  refine Ct.of rfl (Nat.le_of_ble_eq_true rfl) ?_
  refine g_aload_n dX10_ease_0 rfl rfl ?_
  refine g_getf dX10_ease_1 fX10_10 (xW_at (by decide) xC0) rfl ?_
  refine g_iload_n dX10_ease_4 rfl rfl ?_
  refine g_V1r (CX3_holds xLed1) kX10_ease_122 dX10_ease_5 (xW_at xLed1.1.1 xLed1.2.1) rfl ⟨rfl, rfl⟩ (Nat.le_of_ble_eq_true rfl) ⟨(Nat.le_of_ble_eq_true rfl), (Nat.le_of_ble_eq_true rfl)⟩ ?_
  refine g_if_ne (tgt := 14) dX10_ease_8 rfl (fun c_8 => ?_) (fun c_8 => ?_)
  · have hH : ldH (σ 1 2) r := Classical.byContradiction (fun z => c_8 (bI_f z))
    obtain ⟨q, hq, er⟩ := (ldH_iff hK.1).mp (hK.2.1 ▸ hH)
    subst er
    refine g_aload_n dX10_ease_14 rfl rfl ?_
    refine g_getf dX10_ease_15 fX10_10 (xW_at (by decide) xC0) rfl ?_
    refine g_iload_n dX10_ease_18 rfl rfl ?_
    refine g_V1r (CX3_kindOf xLed1) kX10_ease_126 dX10_ease_19 (xW_at xLed1.1.1 xLed1.2.1) rfl ⟨rfl, rfl⟩ (Nat.le_of_ble_eq_true rfl) ⟨(Nat.le_of_ble_eq_true rfl), (Nat.le_of_ble_eq_true rfl)⟩ ?_
    refine g_istore_n dX10_ease_22 rfl (Nat.le_of_ble_eq_true rfl) rfl ?_
    refine g_aload_n dX10_ease_23 rfl rfl ?_
    refine g_iload_n dX10_ease_24 rfl rfl ?_
    refine g_V1r CX10_isEasy kX10_ease_232 dX10_ease_25 (xW_at (by decide) xC0) rfl ⟨rfl, rfl⟩ (Nat.le_of_ble_eq_true rfl) ⟨(Nat.le_of_ble_eq_true rfl), (Nat.le_of_ble_eq_true rfl)⟩ ?_
    refine g_if_ne (tgt := 34) dX10_ease_28 rfl (fun c_28 => ?_) (fun c_28 => ?_)
    · refine g_iload_n dX10_ease_34 rfl rfl ?_
      refine g_iconst (v := 1) dX10_ease_35 (by decide) ?_
      refine g_icmp_ne (tgt := 49) dX10_ease_36 rfl (fun c_36 => ?_) (fun c_36 => ?_)
      · refine g_aload_n dX10_ease_49 rfl rfl ?_
        refine g_getf dX10_ease_50 fX10_10 (xW_at (by decide) xC0) rfl ?_
        refine g_iload_n dX10_ease_53 rfl rfl ?_
        refine g_iconst (v := 1) dX10_ease_54 (by decide) ?_
        refine g_S3r (CX8_factorOf xLed1) kX10_ease_182 dX10_ease_55 ⟨rfl, rfl⟩ (Nat.le_of_ble_eq_true rfl) ⟨(Nat.le_of_ble_eq_true rfl), (Nat.le_of_ble_eq_true rfl)⟩ ?_
        refine g_istore_n dX10_ease_58 rfl (Nat.le_of_ble_eq_true rfl) rfl ?_
        refine g_iload_n dX10_ease_59 rfl rfl ?_
        refine g_iconst (v := 1) dX10_ease_60 (by decide) ?_
        refine g_icmp_ne (tgt := 74) dX10_ease_61 rfl (fun c_61 => ?_) (fun c_61 => ?_)
        · refine g_aload_n dX10_ease_74 rfl rfl ?_
          refine g_getf dX10_ease_75 fX10_10 (xW_at (by decide) xC0) rfl ?_
          refine g_iload_n dX10_ease_78 rfl rfl ?_
          refine g_iconst (v := 2) dX10_ease_79 (by decide) ?_
          refine g_S3r (CX8_factorOf xLed1) kX10_ease_182 dX10_ease_80 ⟨rfl, rfl⟩ (Nat.le_of_ble_eq_true rfl) ⟨(Nat.le_of_ble_eq_true rfl), (Nat.le_of_ble_eq_true rfl)⟩ ?_
          refine g_istore dX10_ease_83 (Nat.le_of_ble_eq_true rfl) rfl ?_
          refine g_aload_n dX10_ease_85 rfl rfl ?_
          refine g_getf dX10_ease_86 fX10_45 (xW_at (by decide) xC0) rfl ?_
          refine g_aload_n dX10_ease_89 rfl rfl ?_
          refine g_getf dX10_ease_90 fX10_10 (xW_at (by decide) xC0) rfl ?_
          refine g_iload_n dX10_ease_93 rfl rfl ?_
          refine g_iconst (v := 0) dX10_ease_94 (by decide) ?_
          refine g_V3p (CX9_atK hK hq) kX10_ease_141 dX10_ease_95 (xW_at (by decide) xC13) rfl ⟨rfl, rfl⟩ (Nat.le_of_ble_eq_true rfl) ⟨(Nat.le_of_ble_eq_true rfl), (Nat.le_of_ble_eq_true rfl)⟩ ?_
          rintro rv w1 ⟨τ1, rfl, hK1, hS1, rfl⟩
          refine g_istore dX10_ease_98 (Nat.le_of_ble_eq_true rfl) rfl ?_
          refine g_aload_n dX10_ease_100 rfl rfl ?_
          refine g_getf dX10_ease_101 fX10_45 (xW_at (by decide) xC0) rfl ?_
          refine g_aload_n dX10_ease_104 rfl rfl ?_
          refine g_getf dX10_ease_105 fX10_10 (xW_at (by decide) xC0) rfl ?_
          refine g_iload_n dX10_ease_108 rfl rfl ?_
          refine g_iconst (v := 1) dX10_ease_109 (by decide) ?_
          refine g_V3p (CX9_atK hK1 hq) kX10_ease_141 dX10_ease_110 (xW_at (by decide) xC13) rfl ⟨rfl, rfl⟩ (Nat.le_of_ble_eq_true rfl) ⟨(Nat.le_of_ble_eq_true rfl), (Nat.le_of_ble_eq_true rfl)⟩ ?_
          rintro rv w1 ⟨τ2, rfl, hK2, hS2, rfl⟩
          rw [show TT (τ1 2) (τ1 3) (τ1 1 2) = TT (σ 2) (σ 3) (σ 1 2) by rw [hS1.1 2 (by decide), hS1.1 3 (by decide), hS1.1 1 (by decide)]]
          refine g_istore dX10_ease_113 (Nat.le_of_ble_eq_true rfl) rfl ?_
          refine g_iload_n dX10_ease_115 rfl rfl ?_
          refine g_iload dX10_ease_116 rfl ?_
          refine g_iload dX10_ease_118 rfl ?_
          refine g_iload dX10_ease_120 rfl ?_
          refine g_S4r CX10_isTellable kX10_ease_217 dX10_ease_122 ⟨rfl, rfl⟩ (Nat.le_of_ble_eq_true rfl) ⟨(Nat.le_of_ble_eq_true rfl), (Nat.le_of_ble_eq_true rfl)⟩ ?_
          refine g_if_ne (tgt := 131) dX10_ease_125 rfl (fun c_125 => ?_) (fun c_125 => ?_)
          · refine g_aload_n dX10_ease_131 rfl rfl ?_
            refine g_getf dX10_ease_132 fX10_10 (xW_at (by decide) xC0) rfl ?_
            refine g_iload_n dX10_ease_135 rfl rfl ?_
            refine g_iconst (v := 0) dX10_ease_136 (by decide) ?_
            refine g_iload_n dX10_ease_137 rfl rfl ?_
            refine g_iload dX10_ease_138 rfl ?_
            refine g_iload dX10_ease_140 rfl ?_
            refine g_iload dX10_ease_142 rfl ?_
            refine g_V6v (CX3_write xLed1 (n := q) (by have := hK.1; omega)) kX10_ease_238 dX10_ease_144 (xW_at xLed1.1.1 xLed1.2.1) rfl ⟨rfl, rfl⟩ (Nat.le_of_ble_eq_true rfl) ⟨(Nat.le_of_ble_eq_true rfl), (Nat.le_of_ble_eq_true rfl)⟩ ?_
            refine g_aload_n dX10_ease_147 rfl rfl ?_
            refine g_iload_n dX10_ease_148 rfl rfl ?_
            refine g_V1v CX10_changedFrom kX10_ease_110 dX10_ease_149 (xW_at (by decide) xC0) rfl ⟨rfl, rfl⟩ (Nat.le_of_ble_eq_true rfl) ⟨(Nat.le_of_ble_eq_true rfl), (Nat.le_of_ble_eq_true rfl)⟩ ?_
            refine g_iload_n dX10_ease_152 rfl rfl ?_
            exact g_iret dX10_ease_153 rfl rfl (by first | exact absurd c_61 c_36 | exact absurd c_36 c_61 | exact ⟨τ2, hK2, hS1.tr hS2, by rw [if_pos ⟨q, hq, rfl⟩, if_pos ⟨Classical.byContradiction (fun z => c_28 (bI_f z)), by simp only [ezC, ezD, if_neg c_36, if_neg c_61]; exact Classical.byContradiction (fun z => c_125 (bI_f z))⟩]; refine ⟨rfl, ?_⟩; simp only [ezC, ezD, if_neg c_36, if_neg c_61, nI_clamp (show q < 2 ^ 31 by have := hK.1; omega)]⟩)
          · refine g_ldc dX10_ease_128 tb_405 ?_
            exact g_iret dX10_ease_130 rfl rfl (by first | exact absurd c_61 c_36 | exact absurd c_36 c_61 | exact ⟨τ2, hK2, hS1.tr hS2, by rw [if_pos ⟨q, hq, rfl⟩, if_neg (fun h => bI_0.mp c_125 (by have := h.2; simp only [ezC, ezD, if_neg c_36, if_neg c_61] at this; exact this))]; exact ⟨rfl, rfl⟩⟩)
        · refine g_aload_n dX10_ease_64 rfl rfl ?_
          refine g_iload_n dX10_ease_65 rfl rfl ?_
          refine g_iconst (v := 0) dX10_ease_66 (by decide) ?_
          refine g_iconst (v := 1) dX10_ease_67 (by decide) ?_
          refine g_V3r CX10_numberOfPart kX10_ease_235 dX10_ease_68 (xW_at (by decide) xC0) rfl ⟨rfl, rfl⟩ (Nat.le_of_ble_eq_true rfl) ⟨(Nat.le_of_ble_eq_true rfl), (Nat.le_of_ble_eq_true rfl)⟩ ?_
          refine g_goto (tgt := 83) dX10_ease_71 rfl ?_
          refine g_istore dX10_ease_83 (Nat.le_of_ble_eq_true rfl) rfl ?_
          refine g_aload_n dX10_ease_85 rfl rfl ?_
          refine g_getf dX10_ease_86 fX10_45 (xW_at (by decide) xC0) rfl ?_
          refine g_aload_n dX10_ease_89 rfl rfl ?_
          refine g_getf dX10_ease_90 fX10_10 (xW_at (by decide) xC0) rfl ?_
          refine g_iload_n dX10_ease_93 rfl rfl ?_
          refine g_iconst (v := 0) dX10_ease_94 (by decide) ?_
          refine g_V3p (CX9_atK hK hq) kX10_ease_141 dX10_ease_95 (xW_at (by decide) xC13) rfl ⟨rfl, rfl⟩ (Nat.le_of_ble_eq_true rfl) ⟨(Nat.le_of_ble_eq_true rfl), (Nat.le_of_ble_eq_true rfl)⟩ ?_
          rintro rv w1 ⟨τ1, rfl, hK1, hS1, rfl⟩
          refine g_istore dX10_ease_98 (Nat.le_of_ble_eq_true rfl) rfl ?_
          refine g_aload_n dX10_ease_100 rfl rfl ?_
          refine g_getf dX10_ease_101 fX10_45 (xW_at (by decide) xC0) rfl ?_
          refine g_aload_n dX10_ease_104 rfl rfl ?_
          refine g_getf dX10_ease_105 fX10_10 (xW_at (by decide) xC0) rfl ?_
          refine g_iload_n dX10_ease_108 rfl rfl ?_
          refine g_iconst (v := 1) dX10_ease_109 (by decide) ?_
          refine g_V3p (CX9_atK hK1 hq) kX10_ease_141 dX10_ease_110 (xW_at (by decide) xC13) rfl ⟨rfl, rfl⟩ (Nat.le_of_ble_eq_true rfl) ⟨(Nat.le_of_ble_eq_true rfl), (Nat.le_of_ble_eq_true rfl)⟩ ?_
          rintro rv w1 ⟨τ2, rfl, hK2, hS2, rfl⟩
          rw [show TT (τ1 2) (τ1 3) (τ1 1 2) = TT (σ 2) (σ 3) (σ 1 2) by rw [hS1.1 2 (by decide), hS1.1 3 (by decide), hS1.1 1 (by decide)]]
          refine g_istore dX10_ease_113 (Nat.le_of_ble_eq_true rfl) rfl ?_
          refine g_iload_n dX10_ease_115 rfl rfl ?_
          refine g_iload dX10_ease_116 rfl ?_
          refine g_iload dX10_ease_118 rfl ?_
          refine g_iload dX10_ease_120 rfl ?_
          refine g_S4r CX10_isTellable kX10_ease_217 dX10_ease_122 ⟨rfl, rfl⟩ (Nat.le_of_ble_eq_true rfl) ⟨(Nat.le_of_ble_eq_true rfl), (Nat.le_of_ble_eq_true rfl)⟩ ?_
          refine g_if_ne (tgt := 131) dX10_ease_125 rfl (fun c_125 => ?_) (fun c_125 => ?_)
          · refine g_aload_n dX10_ease_131 rfl rfl ?_
            refine g_getf dX10_ease_132 fX10_10 (xW_at (by decide) xC0) rfl ?_
            refine g_iload_n dX10_ease_135 rfl rfl ?_
            refine g_iconst (v := 0) dX10_ease_136 (by decide) ?_
            refine g_iload_n dX10_ease_137 rfl rfl ?_
            refine g_iload dX10_ease_138 rfl ?_
            refine g_iload dX10_ease_140 rfl ?_
            refine g_iload dX10_ease_142 rfl ?_
            refine g_V6v (CX3_write xLed1 (n := q) (by have := hK.1; omega)) kX10_ease_238 dX10_ease_144 (xW_at xLed1.1.1 xLed1.2.1) rfl ⟨rfl, rfl⟩ (Nat.le_of_ble_eq_true rfl) ⟨(Nat.le_of_ble_eq_true rfl), (Nat.le_of_ble_eq_true rfl)⟩ ?_
            refine g_aload_n dX10_ease_147 rfl rfl ?_
            refine g_iload_n dX10_ease_148 rfl rfl ?_
            refine g_V1v CX10_changedFrom kX10_ease_110 dX10_ease_149 (xW_at (by decide) xC0) rfl ⟨rfl, rfl⟩ (Nat.le_of_ble_eq_true rfl) ⟨(Nat.le_of_ble_eq_true rfl), (Nat.le_of_ble_eq_true rfl)⟩ ?_
            refine g_iload_n dX10_ease_152 rfl rfl ?_
            exact g_iret dX10_ease_153 rfl rfl (by first | exact absurd c_61 c_36 | exact absurd c_36 c_61 | exact ⟨τ2, hK2, hS1.tr hS2, by rw [if_pos ⟨q, hq, rfl⟩, if_pos ⟨Classical.byContradiction (fun z => c_28 (bI_f z)), by simp only [ezC, ezD, if_neg c_36, if_pos c_61]; exact Classical.byContradiction (fun z => c_125 (bI_f z))⟩]; refine ⟨rfl, ?_⟩; simp only [ezC, ezD, if_neg c_36, if_pos c_61, nI_clamp (show q < 2 ^ 31 by have := hK.1; omega)]⟩)
          · refine g_ldc dX10_ease_128 tb_405 ?_
            exact g_iret dX10_ease_130 rfl rfl (by first | exact absurd c_61 c_36 | exact absurd c_36 c_61 | exact ⟨τ2, hK2, hS1.tr hS2, by rw [if_pos ⟨q, hq, rfl⟩, if_neg (fun h => bI_0.mp c_125 (by have := h.2; simp only [ezC, ezD, if_neg c_36, if_pos c_61] at this; exact this))]; exact ⟨rfl, rfl⟩⟩)
      · refine g_aload_n dX10_ease_39 rfl rfl ?_
        refine g_iload_n dX10_ease_40 rfl rfl ?_
        refine g_iconst (v := 0) dX10_ease_41 (by decide) ?_
        refine g_iconst (v := 0) dX10_ease_42 (by decide) ?_
        refine g_V3r CX10_numberOfPart kX10_ease_235 dX10_ease_43 (xW_at (by decide) xC0) rfl ⟨rfl, rfl⟩ (Nat.le_of_ble_eq_true rfl) ⟨(Nat.le_of_ble_eq_true rfl), (Nat.le_of_ble_eq_true rfl)⟩ ?_
        refine g_goto (tgt := 58) dX10_ease_46 rfl ?_
        refine g_istore_n dX10_ease_58 rfl (Nat.le_of_ble_eq_true rfl) rfl ?_
        refine g_iload_n dX10_ease_59 rfl rfl ?_
        refine g_iconst (v := 1) dX10_ease_60 (by decide) ?_
        refine g_icmp_ne (tgt := 74) dX10_ease_61 rfl (fun c_61 => ?_) (fun c_61 => ?_)
        · refine g_aload_n dX10_ease_74 rfl rfl ?_
          refine g_getf dX10_ease_75 fX10_10 (xW_at (by decide) xC0) rfl ?_
          refine g_iload_n dX10_ease_78 rfl rfl ?_
          refine g_iconst (v := 2) dX10_ease_79 (by decide) ?_
          refine g_S3r (CX8_factorOf xLed1) kX10_ease_182 dX10_ease_80 ⟨rfl, rfl⟩ (Nat.le_of_ble_eq_true rfl) ⟨(Nat.le_of_ble_eq_true rfl), (Nat.le_of_ble_eq_true rfl)⟩ ?_
          refine g_istore dX10_ease_83 (Nat.le_of_ble_eq_true rfl) rfl ?_
          refine g_aload_n dX10_ease_85 rfl rfl ?_
          refine g_getf dX10_ease_86 fX10_45 (xW_at (by decide) xC0) rfl ?_
          refine g_aload_n dX10_ease_89 rfl rfl ?_
          refine g_getf dX10_ease_90 fX10_10 (xW_at (by decide) xC0) rfl ?_
          refine g_iload_n dX10_ease_93 rfl rfl ?_
          refine g_iconst (v := 0) dX10_ease_94 (by decide) ?_
          refine g_V3p (CX9_atK hK hq) kX10_ease_141 dX10_ease_95 (xW_at (by decide) xC13) rfl ⟨rfl, rfl⟩ (Nat.le_of_ble_eq_true rfl) ⟨(Nat.le_of_ble_eq_true rfl), (Nat.le_of_ble_eq_true rfl)⟩ ?_
          rintro rv w1 ⟨τ1, rfl, hK1, hS1, rfl⟩
          refine g_istore dX10_ease_98 (Nat.le_of_ble_eq_true rfl) rfl ?_
          refine g_aload_n dX10_ease_100 rfl rfl ?_
          refine g_getf dX10_ease_101 fX10_45 (xW_at (by decide) xC0) rfl ?_
          refine g_aload_n dX10_ease_104 rfl rfl ?_
          refine g_getf dX10_ease_105 fX10_10 (xW_at (by decide) xC0) rfl ?_
          refine g_iload_n dX10_ease_108 rfl rfl ?_
          refine g_iconst (v := 1) dX10_ease_109 (by decide) ?_
          refine g_V3p (CX9_atK hK1 hq) kX10_ease_141 dX10_ease_110 (xW_at (by decide) xC13) rfl ⟨rfl, rfl⟩ (Nat.le_of_ble_eq_true rfl) ⟨(Nat.le_of_ble_eq_true rfl), (Nat.le_of_ble_eq_true rfl)⟩ ?_
          rintro rv w1 ⟨τ2, rfl, hK2, hS2, rfl⟩
          rw [show TT (τ1 2) (τ1 3) (τ1 1 2) = TT (σ 2) (σ 3) (σ 1 2) by rw [hS1.1 2 (by decide), hS1.1 3 (by decide), hS1.1 1 (by decide)]]
          refine g_istore dX10_ease_113 (Nat.le_of_ble_eq_true rfl) rfl ?_
          refine g_iload_n dX10_ease_115 rfl rfl ?_
          refine g_iload dX10_ease_116 rfl ?_
          refine g_iload dX10_ease_118 rfl ?_
          refine g_iload dX10_ease_120 rfl ?_
          refine g_S4r CX10_isTellable kX10_ease_217 dX10_ease_122 ⟨rfl, rfl⟩ (Nat.le_of_ble_eq_true rfl) ⟨(Nat.le_of_ble_eq_true rfl), (Nat.le_of_ble_eq_true rfl)⟩ ?_
          refine g_if_ne (tgt := 131) dX10_ease_125 rfl (fun c_125 => ?_) (fun c_125 => ?_)
          · refine g_aload_n dX10_ease_131 rfl rfl ?_
            refine g_getf dX10_ease_132 fX10_10 (xW_at (by decide) xC0) rfl ?_
            refine g_iload_n dX10_ease_135 rfl rfl ?_
            refine g_iconst (v := 0) dX10_ease_136 (by decide) ?_
            refine g_iload_n dX10_ease_137 rfl rfl ?_
            refine g_iload dX10_ease_138 rfl ?_
            refine g_iload dX10_ease_140 rfl ?_
            refine g_iload dX10_ease_142 rfl ?_
            refine g_V6v (CX3_write xLed1 (n := q) (by have := hK.1; omega)) kX10_ease_238 dX10_ease_144 (xW_at xLed1.1.1 xLed1.2.1) rfl ⟨rfl, rfl⟩ (Nat.le_of_ble_eq_true rfl) ⟨(Nat.le_of_ble_eq_true rfl), (Nat.le_of_ble_eq_true rfl)⟩ ?_
            refine g_aload_n dX10_ease_147 rfl rfl ?_
            refine g_iload_n dX10_ease_148 rfl rfl ?_
            refine g_V1v CX10_changedFrom kX10_ease_110 dX10_ease_149 (xW_at (by decide) xC0) rfl ⟨rfl, rfl⟩ (Nat.le_of_ble_eq_true rfl) ⟨(Nat.le_of_ble_eq_true rfl), (Nat.le_of_ble_eq_true rfl)⟩ ?_
            refine g_iload_n dX10_ease_152 rfl rfl ?_
            exact g_iret dX10_ease_153 rfl rfl (by first | exact absurd c_61 c_36 | exact absurd c_36 c_61 | exact ⟨τ2, hK2, hS1.tr hS2, by rw [if_pos ⟨q, hq, rfl⟩, if_pos ⟨Classical.byContradiction (fun z => c_28 (bI_f z)), by simp only [ezC, ezD, if_pos c_36, if_neg c_61]; exact Classical.byContradiction (fun z => c_125 (bI_f z))⟩]; refine ⟨rfl, ?_⟩; simp only [ezC, ezD, if_pos c_36, if_neg c_61, nI_clamp (show q < 2 ^ 31 by have := hK.1; omega)]⟩)
          · refine g_ldc dX10_ease_128 tb_405 ?_
            exact g_iret dX10_ease_130 rfl rfl (by first | exact absurd c_61 c_36 | exact absurd c_36 c_61 | exact ⟨τ2, hK2, hS1.tr hS2, by rw [if_pos ⟨q, hq, rfl⟩, if_neg (fun h => bI_0.mp c_125 (by have := h.2; simp only [ezC, ezD, if_pos c_36, if_neg c_61] at this; exact this))]; exact ⟨rfl, rfl⟩⟩)
        · refine g_aload_n dX10_ease_64 rfl rfl ?_
          refine g_iload_n dX10_ease_65 rfl rfl ?_
          refine g_iconst (v := 0) dX10_ease_66 (by decide) ?_
          refine g_iconst (v := 1) dX10_ease_67 (by decide) ?_
          refine g_V3r CX10_numberOfPart kX10_ease_235 dX10_ease_68 (xW_at (by decide) xC0) rfl ⟨rfl, rfl⟩ (Nat.le_of_ble_eq_true rfl) ⟨(Nat.le_of_ble_eq_true rfl), (Nat.le_of_ble_eq_true rfl)⟩ ?_
          refine g_goto (tgt := 83) dX10_ease_71 rfl ?_
          refine g_istore dX10_ease_83 (Nat.le_of_ble_eq_true rfl) rfl ?_
          refine g_aload_n dX10_ease_85 rfl rfl ?_
          refine g_getf dX10_ease_86 fX10_45 (xW_at (by decide) xC0) rfl ?_
          refine g_aload_n dX10_ease_89 rfl rfl ?_
          refine g_getf dX10_ease_90 fX10_10 (xW_at (by decide) xC0) rfl ?_
          refine g_iload_n dX10_ease_93 rfl rfl ?_
          refine g_iconst (v := 0) dX10_ease_94 (by decide) ?_
          refine g_V3p (CX9_atK hK hq) kX10_ease_141 dX10_ease_95 (xW_at (by decide) xC13) rfl ⟨rfl, rfl⟩ (Nat.le_of_ble_eq_true rfl) ⟨(Nat.le_of_ble_eq_true rfl), (Nat.le_of_ble_eq_true rfl)⟩ ?_
          rintro rv w1 ⟨τ1, rfl, hK1, hS1, rfl⟩
          refine g_istore dX10_ease_98 (Nat.le_of_ble_eq_true rfl) rfl ?_
          refine g_aload_n dX10_ease_100 rfl rfl ?_
          refine g_getf dX10_ease_101 fX10_45 (xW_at (by decide) xC0) rfl ?_
          refine g_aload_n dX10_ease_104 rfl rfl ?_
          refine g_getf dX10_ease_105 fX10_10 (xW_at (by decide) xC0) rfl ?_
          refine g_iload_n dX10_ease_108 rfl rfl ?_
          refine g_iconst (v := 1) dX10_ease_109 (by decide) ?_
          refine g_V3p (CX9_atK hK1 hq) kX10_ease_141 dX10_ease_110 (xW_at (by decide) xC13) rfl ⟨rfl, rfl⟩ (Nat.le_of_ble_eq_true rfl) ⟨(Nat.le_of_ble_eq_true rfl), (Nat.le_of_ble_eq_true rfl)⟩ ?_
          rintro rv w1 ⟨τ2, rfl, hK2, hS2, rfl⟩
          rw [show TT (τ1 2) (τ1 3) (τ1 1 2) = TT (σ 2) (σ 3) (σ 1 2) by rw [hS1.1 2 (by decide), hS1.1 3 (by decide), hS1.1 1 (by decide)]]
          refine g_istore dX10_ease_113 (Nat.le_of_ble_eq_true rfl) rfl ?_
          refine g_iload_n dX10_ease_115 rfl rfl ?_
          refine g_iload dX10_ease_116 rfl ?_
          refine g_iload dX10_ease_118 rfl ?_
          refine g_iload dX10_ease_120 rfl ?_
          refine g_S4r CX10_isTellable kX10_ease_217 dX10_ease_122 ⟨rfl, rfl⟩ (Nat.le_of_ble_eq_true rfl) ⟨(Nat.le_of_ble_eq_true rfl), (Nat.le_of_ble_eq_true rfl)⟩ ?_
          refine g_if_ne (tgt := 131) dX10_ease_125 rfl (fun c_125 => ?_) (fun c_125 => ?_)
          · refine g_aload_n dX10_ease_131 rfl rfl ?_
            refine g_getf dX10_ease_132 fX10_10 (xW_at (by decide) xC0) rfl ?_
            refine g_iload_n dX10_ease_135 rfl rfl ?_
            refine g_iconst (v := 0) dX10_ease_136 (by decide) ?_
            refine g_iload_n dX10_ease_137 rfl rfl ?_
            refine g_iload dX10_ease_138 rfl ?_
            refine g_iload dX10_ease_140 rfl ?_
            refine g_iload dX10_ease_142 rfl ?_
            refine g_V6v (CX3_write xLed1 (n := q) (by have := hK.1; omega)) kX10_ease_238 dX10_ease_144 (xW_at xLed1.1.1 xLed1.2.1) rfl ⟨rfl, rfl⟩ (Nat.le_of_ble_eq_true rfl) ⟨(Nat.le_of_ble_eq_true rfl), (Nat.le_of_ble_eq_true rfl)⟩ ?_
            refine g_aload_n dX10_ease_147 rfl rfl ?_
            refine g_iload_n dX10_ease_148 rfl rfl ?_
            refine g_V1v CX10_changedFrom kX10_ease_110 dX10_ease_149 (xW_at (by decide) xC0) rfl ⟨rfl, rfl⟩ (Nat.le_of_ble_eq_true rfl) ⟨(Nat.le_of_ble_eq_true rfl), (Nat.le_of_ble_eq_true rfl)⟩ ?_
            refine g_iload_n dX10_ease_152 rfl rfl ?_
            exact g_iret dX10_ease_153 rfl rfl (by first | exact absurd c_61 c_36 | exact absurd c_36 c_61 | exact ⟨τ2, hK2, hS1.tr hS2, by rw [if_pos ⟨q, hq, rfl⟩, if_pos ⟨Classical.byContradiction (fun z => c_28 (bI_f z)), by simp only [ezC, ezD, if_pos c_36, if_pos c_61]; exact Classical.byContradiction (fun z => c_125 (bI_f z))⟩]; refine ⟨rfl, ?_⟩; simp only [ezC, ezD, if_pos c_36, if_pos c_61, nI_clamp (show q < 2 ^ 31 by have := hK.1; omega)]⟩)
          · refine g_ldc dX10_ease_128 tb_405 ?_
            exact g_iret dX10_ease_130 rfl rfl (by first | exact absurd c_61 c_36 | exact absurd c_36 c_61 | exact ⟨τ2, hK2, hS1.tr hS2, by rw [if_pos ⟨q, hq, rfl⟩, if_neg (fun h => bI_0.mp c_125 (by have := h.2; simp only [ezC, ezD, if_pos c_36, if_pos c_61] at this; exact this))]; exact ⟨rfl, rfl⟩⟩)
    · refine g_ldc dX10_ease_31 tb_405 ?_
      exact g_iret dX10_ease_33 rfl rfl ⟨σ, hK, xSame.rf, by rw [if_pos ⟨q, hq, rfl⟩, if_neg (fun h => bI_0.mp c_28 h.1)]; exact ⟨rfl, rfl⟩⟩
  · refine g_ldc dX10_ease_11 tb_439 ?_
    exact g_iret dX10_ease_13 rfl rfl ⟨σ, hK, xSame.rf, by rw [if_neg (fun h => bI_0.mp c_8 (hK.2.1 ▸ (ldH_iff hK.1).mpr h))]; exact ⟨rfl, rfl⟩⟩
end
