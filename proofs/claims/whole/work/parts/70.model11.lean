section
variable {l : Launch} {σ : Nat → Nat → Int32} {t : Nat → Int64} {n q o b m : Nat}
set_option maxRecDepth 100000 in
set_option maxHeartbeats 4000000 in
theorem CX11_easedC (H : mRw σ q o b m) (hz : σ 1 q ≠ 0) : Ct l mX11_easedC [.ref 0, .int (nI q)] (mW σ t) (q_eq (some (.int (easC σ q o b m))) (mW σ t)) := by
  refine Ct.of rfl (Nat.le_of_ble_eq_true rfl) ?_
  have H0 := H
  obtain ⟨hq, ho8, hm8, ho1, ho2, hb, hm1, hm2⟩ := H
  refine g_aload_n dX11_easedC_0 rfl rfl ?_
  refine g_getf dX11_easedC_1 fX11_13 mW_0 rfl ?_
  refine g_iconst (v := 4) dX11_easedC_4 (by decide) ?_
  refine g_iload_n dX11_easedC_5 rfl rfl ?_
  refine g_imul dX11_easedC_6 ?_
  rw [jx4]
  refine g_iald dX11_easedC_7 mA2 (vin_n (by omega) (by decide)) ?_
  rw [nI_clamp (by omega), ho2 hz]
  refine g_istore_n dX11_easedC_8 rfl (Nat.le_of_ble_eq_true rfl) rfl ?_
  refine g_aload_n dX11_easedC_9 rfl rfl ?_
  refine g_getf dX11_easedC_10 fX11_7 mW_0 rfl ?_
  refine g_iload_n dX11_easedC_13 rfl rfl ?_
  refine g_iald dX11_easedC_14 mA1 (vin_n (by omega) (by decide)) ?_
  rw [nI_clamp (by omega)]
  refine g_case (2) (fun s_15_0 => ?_) (fun s_15_0 => ?_)
  · refine g_lkEq (off := 25) (tgt := 40) dX11_easedC_15 s_15_0 rfl rfl rfl ?_
    obtain ⟨hb2, hb8⟩ := hb (Or.inr s_15_0)
    refine g_aload_n dX11_easedC_40 rfl rfl ?_
    refine g_getf dX11_easedC_41 fX11_13 mW_0 rfl ?_
    refine g_iconst (v := 4) dX11_easedC_44 (by decide) ?_
    refine g_iload_n dX11_easedC_45 rfl rfl ?_
    refine g_imul dX11_easedC_46 ?_
    rw [jx4]
    refine g_iald dX11_easedC_47 mA2 (vin_n (by omega) (by decide)) ?_
    rw [nI_clamp (by omega)]
    refine g_aload_n dX11_easedC_48 rfl rfl ?_
    refine g_getf dX11_easedC_49 fX11_13 mW_0 rfl ?_
    refine g_iconst (v := 4) dX11_easedC_52 (by decide) ?_
    refine g_aload_n dX11_easedC_53 rfl rfl ?_
    refine g_getf dX11_easedC_54 fX11_13 mW_0 rfl ?_
    refine g_iconst (v := 4) dX11_easedC_57 (by decide) ?_
    refine g_iload_n dX11_easedC_58 rfl rfl ?_
    refine g_imul dX11_easedC_59 ?_
    refine g_iconst (v := 1) dX11_easedC_60 (by decide) ?_
    refine g_iadd dX11_easedC_61 ?_
    rw [jx41]
    refine g_iald dX11_easedC_62 mA2 (vin_n (by omega) (by decide)) ?_
    rw [nI_clamp (by omega), hb2]
    refine g_imul dX11_easedC_63 ?_
    rw [jx4]
    refine g_iald dX11_easedC_64 mA2 (vin_n (by omega) (by decide)) ?_
    rw [nI_clamp (by omega)]
    refine g_imul dX11_easedC_65 ?_
    exact g_iret dX11_easedC_66 rfl rfl ⟨by rw [easC, if_pos s_15_0], rfl⟩
  · refine g_case (3) (fun s_15_1 => ?_) (fun s_15_1 => ?_)
    · refine g_lkEq (off := 52) (tgt := 67) dX11_easedC_15 s_15_1 rfl rfl rfl ?_
      refine g_aload_n dX11_easedC_67 rfl rfl ?_
      refine g_iload_n dX11_easedC_68 rfl rfl ?_
      refine g_iconst (v := 1) dX11_easedC_69 (by decide) ?_
      refine g_V2r (CX11_twoRule H0) kX11_easedC_257 dX11_easedC_70 mW_0 rfl ⟨rfl, rfl⟩ (Nat.le_of_ble_eq_true rfl) ⟨(Nat.le_of_ble_eq_true rfl), (Nat.le_of_ble_eq_true rfl)⟩ ?_
      exact g_iret dX11_easedC_73 rfl rfl ⟨by rw [easC, if_neg s_15_0, if_pos s_15_1], rfl⟩
    · refine g_lookup (off := 59) (tgt := 74) dX11_easedC_15 rfl (lk_out _ _ _ (by have a0 := ne_toInt (z := 2) rfl s_15_0; have a1 := ne_toInt (z := 3) rfl s_15_1; intro q hq; replace hq : q ∈ ([(2, 25), (3, 52)] : List (Int × Int)) := hq; simp only [List.mem_cons, List.not_mem_nil, or_false] at hq; rcases hq with rfl | rfl <;> (intro e; simp only at e; omega))) rfl ?_
      refine g_aload_n dX11_easedC_74 rfl rfl ?_
      refine g_getf dX11_easedC_75 fX11_13 mW_0 rfl ?_
      refine g_iconst (v := 4) dX11_easedC_78 (by decide) ?_
      refine g_iload_n dX11_easedC_79 rfl rfl ?_
      refine g_imul dX11_easedC_80 ?_
      rw [jx4]
      refine g_iald dX11_easedC_81 mA2 (vin_n (by omega) (by decide)) ?_
      rw [nI_clamp (by omega)]
      exact g_iret dX11_easedC_82 rfl rfl ⟨by rw [easC, if_neg s_15_0, if_neg s_15_1], rfl⟩
theorem piE {σ : Nat → Nat → Int32} {o b : Nat} (h : mIP σ o ∨ mIP σ b) : (if mIP σ o then nI o else if mIP σ b then nI b else (2000000001 : Int32)) = nI (easB σ o b) := by
  by_cases h1 : mIP σ o
  · rw [if_pos h1, easB, if_pos h1]
  · rw [if_neg h1, easB, if_neg h1, if_pos (h.resolve_left h1)]
theorem easB_le {σ : Nat → Nat → Int32} {o b : Nat} (ho : o ≤ 8) (hb : b ≤ 8) : easB σ o b ≤ 8 ∧ easB σ o b ≤ o + b ∧ o + b - easB σ o b ≤ 8 := by
  unfold easB
  split <;> omega
set_option maxRecDepth 100000 in
set_option maxHeartbeats 4000000 in
theorem CX11_easedD (H : mRw σ q o b m) (hz : σ 1 q ≠ 0) (hI : σ 1 q = 2 → mIP σ o ∨ mIP σ b) : Ct l mX11_easedD [.ref 0, .int (nI q)] (mW σ t) (q_eq (some (.int (easD σ q o b m))) (mW σ t)) := by
  refine Ct.of rfl (Nat.le_of_ble_eq_true rfl) ?_
  have H0 := H
  obtain ⟨hq, ho8, hm8, ho1, ho2, hb, hm1, hm2⟩ := H
  refine g_aload_n dX11_easedD_0 rfl rfl ?_
  refine g_getf dX11_easedD_1 fX11_13 mW_0 rfl ?_
  refine g_iconst (v := 4) dX11_easedD_4 (by decide) ?_
  refine g_iload_n dX11_easedD_5 rfl rfl ?_
  refine g_imul dX11_easedD_6 ?_
  rw [jx4]
  refine g_iald dX11_easedD_7 mA2 (vin_n (by omega) (by decide)) ?_
  rw [nI_clamp (by omega), ho2 hz]
  refine g_istore_n dX11_easedD_8 rfl (Nat.le_of_ble_eq_true rfl) rfl ?_
  refine g_aload_n dX11_easedD_9 rfl rfl ?_
  refine g_getf dX11_easedD_10 fX11_7 mW_0 rfl ?_
  refine g_iload_n dX11_easedD_13 rfl rfl ?_
  refine g_iald dX11_easedD_14 mA1 (vin_n (by omega) (by decide)) ?_
  rw [nI_clamp (by omega)]
  refine g_case (2) (fun s_15_0 => ?_) (fun s_15_0 => ?_)
  · refine g_lkEq (off := 25) (tgt := 40) dX11_easedD_15 s_15_0 rfl rfl rfl ?_
    obtain ⟨hb2, hb8⟩ := hb (Or.inr s_15_0)
    obtain ⟨e1, e2, e3⟩ := easB_le (σ := σ) ho8 hb8
    have hP := hI s_15_0
    refine g_aload_n dX11_easedD_40 rfl rfl ?_
    refine g_iload_n dX11_easedD_41 rfl rfl ?_
    refine g_V1r (CX11_powersIn hq (ho2 hz) ho8 hb2 hb8) kX11_easedD_307 dX11_easedD_42 mW_0 rfl ⟨rfl, rfl⟩ (Nat.le_of_ble_eq_true rfl) ⟨(Nat.le_of_ble_eq_true rfl), (Nat.le_of_ble_eq_true rfl)⟩ ?_
    rw [piE hP]
    generalize hB : easB σ o b = y at *
    refine g_istore_n dX11_easedD_45 rfl (Nat.le_of_ble_eq_true rfl) rfl ?_
    refine g_iload_n dX11_easedD_46 rfl rfl ?_
    refine g_aload_n dX11_easedD_47 rfl rfl ?_
    refine g_getf dX11_easedD_48 fX11_13 mW_0 rfl ?_
    refine g_iconst (v := 4) dX11_easedD_51 (by decide) ?_
    refine g_iload_n dX11_easedD_52 rfl rfl ?_
    refine g_imul dX11_easedD_53 ?_
    refine g_iconst (v := 1) dX11_easedD_54 (by decide) ?_
    refine g_iadd dX11_easedD_55 ?_
    rw [jx41]
    refine g_iald dX11_easedD_56 mA2 (vin_n (by omega) (by decide)) ?_
    rw [nI_clamp (by omega), hb2]
    refine g_iadd dX11_easedD_57 ?_
    refine g_iload_n dX11_easedD_58 rfl rfl ?_
    refine g_isub dX11_easedD_59 ?_
    rw [nI_add, nI_sub e2]
    refine g_istore dX11_easedD_60 (Nat.le_of_ble_eq_true rfl) rfl ?_
    refine g_aload_n dX11_easedD_62 rfl rfl ?_
    refine g_getf dX11_easedD_63 fX11_13 mW_0 rfl ?_
    refine g_iconst (v := 4) dX11_easedD_66 (by decide) ?_
    refine g_iload_n dX11_easedD_67 rfl rfl ?_
    refine g_imul dX11_easedD_68 ?_
    rw [jx4]
    refine g_iald dX11_easedD_69 mA2 (vin_n (by omega) (by decide)) ?_
    rw [nI_clamp (by omega)]
    refine g_aload_n dX11_easedD_70 rfl rfl ?_
    refine g_getf dX11_easedD_71 fX11_13 mW_0 rfl ?_
    refine g_iconst (v := 4) dX11_easedD_74 (by decide) ?_
    refine g_iload_n dX11_easedD_75 rfl rfl ?_
    refine g_imul dX11_easedD_76 ?_
    rw [jx4]
    refine g_iald dX11_easedD_77 mA2 (vin_n (by omega) (by decide)) ?_
    rw [nI_clamp (by omega)]
    refine g_imul dX11_easedD_78 ?_
    refine g_aload_n dX11_easedD_79 rfl rfl ?_
    refine g_getf dX11_easedD_80 fX11_13 mW_0 rfl ?_
    refine g_iconst (v := 4) dX11_easedD_83 (by decide) ?_
    refine g_iload dX11_easedD_84 rfl ?_
    refine g_imul dX11_easedD_86 ?_
    refine g_iconst (v := 1) dX11_easedD_87 (by decide) ?_
    refine g_iadd dX11_easedD_88 ?_
    rw [jx41]
    refine g_iald dX11_easedD_89 mA2 (vin_n (by omega) (by decide)) ?_
    rw [nI_clamp (by omega)]
    refine g_imul dX11_easedD_90 ?_
    exact g_iret dX11_easedD_91 rfl rfl ⟨by rw [easD, if_pos s_15_0, hB], rfl⟩
  · refine g_case (3) (fun s_15_1 => ?_) (fun s_15_1 => ?_)
    · refine g_lkEq (off := 77) (tgt := 92) dX11_easedD_15 s_15_1 rfl rfl rfl ?_
      refine g_aload_n dX11_easedD_92 rfl rfl ?_
      refine g_iload_n dX11_easedD_93 rfl rfl ?_
      refine g_iconst (v := 2) dX11_easedD_94 (by decide) ?_
      refine g_V2r (CX11_twoRule H0) kX11_easedD_257 dX11_easedD_95 mW_0 rfl ⟨rfl, rfl⟩ (Nat.le_of_ble_eq_true rfl) ⟨(Nat.le_of_ble_eq_true rfl), (Nat.le_of_ble_eq_true rfl)⟩ ?_
      exact g_iret dX11_easedD_98 rfl rfl ⟨by rw [easD, if_neg s_15_0, if_pos s_15_1], rfl⟩
    · refine g_lookup (off := 84) (tgt := 99) dX11_easedD_15 rfl (lk_out _ _ _ (by have a0 := ne_toInt (z := 2) rfl s_15_0; have a1 := ne_toInt (z := 3) rfl s_15_1; intro q hq; replace hq : q ∈ ([(2, 25), (3, 77)] : List (Int × Int)) := hq; simp only [List.mem_cons, List.not_mem_nil, or_false] at hq; rcases hq with rfl | rfl <;> (intro e; simp only at e; omega))) rfl ?_
      refine g_aload_n dX11_easedD_99 rfl rfl ?_
      refine g_getf dX11_easedD_100 fX11_13 mW_0 rfl ?_
      refine g_iconst (v := 4) dX11_easedD_103 (by decide) ?_
      refine g_iload_n dX11_easedD_104 rfl rfl ?_
      refine g_imul dX11_easedD_105 ?_
      refine g_iconst (v := 1) dX11_easedD_106 (by decide) ?_
      refine g_iadd dX11_easedD_107 ?_
      rw [jx41]
      refine g_iald dX11_easedD_108 mA2 (vin_n (by omega) (by decide)) ?_
      rw [nI_clamp (by omega)]
      exact g_iret dX11_easedD_109 rfl rfl ⟨by rw [easD, if_neg s_15_0, if_neg s_15_1], rfl⟩
theorem mLt_2 {σ : Nat → Nat → Int32} {n : Nat} (H : mKt σ n) : mLt (mLt σ n) n = mLt σ n := by
  have h := (mLt_K H).2.1
  have e : mLt (mLt σ n) n = if (mLt σ n) 0 13 = 0 then put (putC (mLt σ n) 7 (ru ((mLt σ n) 7) 0 (201 * n) (TT ((mLt σ n) 1) ((mLt σ n) 2) (nI n)))) 0 13 1 else mLt σ n := rfl
  rw [e, if_neg (by rw [h]; decide)]
set_option maxRecDepth 100000 in
set_option maxHeartbeats 4000000 in
theorem CX11_ease_no {r : Int32} (hn : n ≤ 8) (h0 : σ 0 0 = nI n) (hr : ¬ ldH (nI n) r) : Ct l mX11_ease [.ref 0, .int r] (mW σ t) (q_eq (some (.int 2000000101)) (mW σ t)) := by
  refine Ct.of rfl (Nat.le_of_ble_eq_true rfl) ?_
  refine g_aload_n dX11_ease_0 rfl rfl ?_
  refine g_iload_n dX11_ease_1 rfl rfl ?_
  refine g_V1r (CX11_isRow h0) kX11_ease_193 dX11_ease_2 mW_0 rfl ⟨rfl, rfl⟩ (Nat.le_of_ble_eq_true rfl) ⟨(Nat.le_of_ble_eq_true rfl), (Nat.le_of_ble_eq_true rfl)⟩ ?_
  rw [mIsF hn hr]
  refine g_if_ne (tgt := 11) dX11_ease_5 rfl (fun c_5 => by exfalso; revert c_5; decide) (fun c_5 => ?_)
  refine g_ldc dX11_ease_8 tb_1020 ?_
  exact g_iret dX11_ease_10 rfl rfl ⟨rfl, rfl⟩
set_option maxRecDepth 100000 in
set_option maxHeartbeats 4000000 in
theorem CX11_ease (HK : mKt σ n) (hq : q < n) (HR : mRw σ q o b m) : Ct l mX11_ease [.ref 0, .int (nI q)] (mW σ t) (q_eq (some (.int (if (mCB σ q o b ∧ tellP (easC σ q o b m) (easD σ q o b m) (vAt (TT (σ 1) (σ 2) (nI n)) (nI q) 0) (vAt (TT (σ 1) (σ 2) (nI n)) (nI q) 1)) then σ 1 q else 2000000103))) (mW (if mCB σ q o b then (if tellP (easC σ q o b m) (easD σ q o b m) (vAt (TT (σ 1) (σ 2) (nI n)) (nI q) 0) (vAt (TT (σ 1) (σ 2) (nI n)) (nI q) 1) then mLay (mLt σ n) q 0 (easC σ q o b m) (easD σ q o b m) (vAt (TT (σ 1) (σ 2) (nI n)) (nI q) 0) (vAt (TT (σ 1) (σ 2) (nI n)) (nI q) 1) else mLt σ n) else σ) t)) := by
  refine Ct.of rfl (Nat.le_of_ble_eq_true rfl) ?_
  have hn := HK.1
  have h0 := HK.2.1
  have H := HK
  refine g_aload_n dX11_ease_0 rfl rfl ?_
  refine g_iload_n dX11_ease_1 rfl rfl ?_
  refine g_V1r (CX11_isRow h0) kX11_ease_193 dX11_ease_2 mW_0 rfl ⟨rfl, rfl⟩ (Nat.le_of_ble_eq_true rfl) ⟨(Nat.le_of_ble_eq_true rfl), (Nat.le_of_ble_eq_true rfl)⟩ ?_
  rw [mIsT hn hq]
  refine g_if_ne (tgt := 11) dX11_ease_5 rfl (fun c_5 => ?_) (fun c_5 => by exfalso; revert c_5; decide)
  refine g_aload_n dX11_ease_11 rfl rfl ?_
  refine g_iload_n dX11_ease_12 rfl rfl ?_
  refine g_V1r (CX11_canBe HR) kX11_ease_310 dX11_ease_13 mW_0 rfl ⟨rfl, rfl⟩ (Nat.le_of_ble_eq_true rfl) ⟨(Nat.le_of_ble_eq_true rfl), (Nat.le_of_ble_eq_true rfl)⟩ ?_
  refine g_if_ne (tgt := 22) dX11_ease_16 rfl (fun c_16 => ?_) (fun c_16 => ?_)
  · have hC : mCB σ q o b := (Classical.byContradiction (fun z => c_16 (bI_f z)))
    refine g_aload_n dX11_ease_22 rfl rfl ?_
    refine g_iload_n dX11_ease_23 rfl rfl ?_
    refine g_V1r (CX11_easedC HR hC.1.1) kX11_ease_313 dX11_ease_24 mW_0 rfl ⟨rfl, rfl⟩ (Nat.le_of_ble_eq_true rfl) ⟨(Nat.le_of_ble_eq_true rfl), (Nat.le_of_ble_eq_true rfl)⟩ ?_
    refine g_istore_n dX11_ease_27 rfl (Nat.le_of_ble_eq_true rfl) rfl ?_
    refine g_aload_n dX11_ease_28 rfl rfl ?_
    refine g_iload_n dX11_ease_29 rfl rfl ?_
    refine g_V1r (CX11_easedD HR hC.1.1 (fun z => by have h := hC.2; rw [if_neg (by rw [z]; decide), if_pos z] at h; exact h)) kX11_ease_316 dX11_ease_30 mW_0 rfl ⟨rfl, rfl⟩ (Nat.le_of_ble_eq_true rfl) ⟨(Nat.le_of_ble_eq_true rfl), (Nat.le_of_ble_eq_true rfl)⟩ ?_
    refine g_istore_n dX11_ease_33 rfl (Nat.le_of_ble_eq_true rfl) rfl ?_
    refine g_aload_n dX11_ease_34 rfl rfl ?_
    refine g_iload_n dX11_ease_35 rfl rfl ?_
    refine g_iconst (v := 0) dX11_ease_36 (by decide) ?_
    refine g_V2r (CX11_termOf HK hq (k := 0) (by decide)) kX11_ease_201 dX11_ease_37 mW_0 rfl ⟨rfl, rfl⟩ (Nat.le_of_ble_eq_true rfl) ⟨(Nat.le_of_ble_eq_true rfl), (Nat.le_of_ble_eq_true rfl)⟩ ?_
    refine g_istore dX11_ease_40 (Nat.le_of_ble_eq_true rfl) rfl ?_
    refine g_aload_n dX11_ease_42 rfl rfl ?_
    refine g_iload_n dX11_ease_43 rfl rfl ?_
    refine g_iconst (v := 1) dX11_ease_44 (by decide) ?_
    refine g_V2r (CX11_termOf (mLt_K HK).1 hq (k := 1) (by decide)) kX11_ease_201 dX11_ease_45 mW_0 rfl ⟨rfl, rfl⟩ (Nat.le_of_ble_eq_true rfl) ⟨(Nat.le_of_ble_eq_true rfl), (Nat.le_of_ble_eq_true rfl)⟩ ?_
    rw [mLt_2 H, (mLt_K H).2.2.1 1 (by decide) (by decide), (mLt_K H).2.2.1 2 (by decide) (by decide)]
    refine g_istore dX11_ease_48 (Nat.le_of_ble_eq_true rfl) rfl ?_
    refine g_iload_n dX11_ease_50 rfl rfl ?_
    refine g_S1r CX11_isFew kX11_ease_294 dX11_ease_51 ⟨rfl, rfl⟩ (Nat.le_of_ble_eq_true rfl) ⟨(Nat.le_of_ble_eq_true rfl), (Nat.le_of_ble_eq_true rfl)⟩ ?_
    refine g_if_eq (tgt := 80) dX11_ease_54 rfl (fun c_54 => ?_) (fun c_54 => ?_)
    · refine g_ldc dX11_ease_80 tb_1007 ?_
      exact g_iret dX11_ease_82 rfl rfl (by have hN : ¬ (mCB σ q o b ∧ tellP (easC σ q o b m) (easD σ q o b m) (vAt (TT (σ 1) (σ 2) (nI n)) (nI q) 0) (vAt (TT (σ 1) (σ 2) (nI n)) (nI q) 1)) := (by first | exact fun z => bI_0.mp c_54 z.2.1 | exact fun z => bI_0.mp c_61 z.2.2.1 | exact fun z => bI_0.mp c_69 z.2.2.2.1 | exact fun z => bI_0.mp c_77 z.2.2.2.2); rw [if_neg hN, if_pos hC, if_neg (fun z => hN ⟨hC, z⟩)]; exact ⟨rfl, rfl⟩)
    · refine g_iload_n dX11_ease_57 rfl rfl ?_
      refine g_S1r CX11_isFew kX11_ease_294 dX11_ease_58 ⟨rfl, rfl⟩ (Nat.le_of_ble_eq_true rfl) ⟨(Nat.le_of_ble_eq_true rfl), (Nat.le_of_ble_eq_true rfl)⟩ ?_
      refine g_if_eq (tgt := 80) dX11_ease_61 rfl (fun c_61 => ?_) (fun c_61 => ?_)
      · refine g_ldc dX11_ease_80 tb_1007 ?_
        exact g_iret dX11_ease_82 rfl rfl (by have hN : ¬ (mCB σ q o b ∧ tellP (easC σ q o b m) (easD σ q o b m) (vAt (TT (σ 1) (σ 2) (nI n)) (nI q) 0) (vAt (TT (σ 1) (σ 2) (nI n)) (nI q) 1)) := (by first | exact fun z => bI_0.mp c_54 z.2.1 | exact fun z => bI_0.mp c_61 z.2.2.1 | exact fun z => bI_0.mp c_69 z.2.2.2.1 | exact fun z => bI_0.mp c_77 z.2.2.2.2); rw [if_neg hN, if_pos hC, if_neg (fun z => hN ⟨hC, z⟩)]; exact ⟨rfl, rfl⟩)
      · refine g_iload dX11_ease_64 rfl ?_
        refine g_S1r CX11_isMany kX11_ease_297 dX11_ease_66 ⟨rfl, rfl⟩ (Nat.le_of_ble_eq_true rfl) ⟨(Nat.le_of_ble_eq_true rfl), (Nat.le_of_ble_eq_true rfl)⟩ ?_
        refine g_if_eq (tgt := 80) dX11_ease_69 rfl (fun c_69 => ?_) (fun c_69 => ?_)
        · refine g_ldc dX11_ease_80 tb_1007 ?_
          exact g_iret dX11_ease_82 rfl rfl (by have hN : ¬ (mCB σ q o b ∧ tellP (easC σ q o b m) (easD σ q o b m) (vAt (TT (σ 1) (σ 2) (nI n)) (nI q) 0) (vAt (TT (σ 1) (σ 2) (nI n)) (nI q) 1)) := (by first | exact fun z => bI_0.mp c_54 z.2.1 | exact fun z => bI_0.mp c_61 z.2.2.1 | exact fun z => bI_0.mp c_69 z.2.2.2.1 | exact fun z => bI_0.mp c_77 z.2.2.2.2); rw [if_neg hN, if_pos hC, if_neg (fun z => hN ⟨hC, z⟩)]; exact ⟨rfl, rfl⟩)
        · refine g_iload dX11_ease_72 rfl ?_
          refine g_S1r CX11_isMany kX11_ease_297 dX11_ease_74 ⟨rfl, rfl⟩ (Nat.le_of_ble_eq_true rfl) ⟨(Nat.le_of_ble_eq_true rfl), (Nat.le_of_ble_eq_true rfl)⟩ ?_
          refine g_if_ne (tgt := 83) dX11_ease_77 rfl (fun c_77 => ?_) (fun c_77 => ?_)
          · refine g_aload_n dX11_ease_83 rfl rfl ?_
            refine g_getf dX11_ease_84 fX11_7 mW_0 rfl ?_
            refine g_iload_n dX11_ease_87 rfl rfl ?_
            refine g_iald dX11_ease_88 mA1 (vin_n (by omega) (by decide)) ?_
            rw [nI_clamp (by omega), (mLt_K H).2.2.1 1 (by decide) (by decide)]
            refine g_istore dX11_ease_89 (Nat.le_of_ble_eq_true rfl) rfl ?_
            refine g_aload_n dX11_ease_91 rfl rfl ?_
            refine g_iload_n dX11_ease_92 rfl rfl ?_
            refine g_iconst (v := 0) dX11_ease_93 (by decide) ?_
            refine g_iload_n dX11_ease_94 rfl rfl ?_
            refine g_iload_n dX11_ease_95 rfl rfl ?_
            refine g_iload dX11_ease_96 rfl ?_
            refine g_iload dX11_ease_98 rfl ?_
            refine g_V6v (CX11_lay (q := q) (by omega)) kX11_ease_290 dX11_ease_100 mW_0 rfl ⟨rfl, rfl⟩ (Nat.le_of_ble_eq_true rfl) ⟨(Nat.le_of_ble_eq_true rfl), (Nat.le_of_ble_eq_true rfl)⟩ ?_
            refine g_iload dX11_ease_103 rfl ?_
            exact g_iret dX11_ease_105 rfl rfl (by have hT : tellP (easC σ q o b m) (easD σ q o b m) (vAt (TT (σ 1) (σ 2) (nI n)) (nI q) 0) (vAt (TT (σ 1) (σ 2) (nI n)) (nI q) 1) := ⟨(Classical.byContradiction (fun z => c_54 (bI_f z))), (Classical.byContradiction (fun z => c_61 (bI_f z))), (Classical.byContradiction (fun z => c_69 (bI_f z))), (Classical.byContradiction (fun z => c_77 (bI_f z)))⟩; rw [if_pos ⟨hC, hT⟩, if_pos hC, if_pos hT]; exact ⟨rfl, rfl⟩)
          · refine g_ldc dX11_ease_80 tb_1007 ?_
            exact g_iret dX11_ease_82 rfl rfl (by have hN : ¬ (mCB σ q o b ∧ tellP (easC σ q o b m) (easD σ q o b m) (vAt (TT (σ 1) (σ 2) (nI n)) (nI q) 0) (vAt (TT (σ 1) (σ 2) (nI n)) (nI q) 1)) := (by first | exact fun z => bI_0.mp c_54 z.2.1 | exact fun z => bI_0.mp c_61 z.2.2.1 | exact fun z => bI_0.mp c_69 z.2.2.2.1 | exact fun z => bI_0.mp c_77 z.2.2.2.2); rw [if_neg hN, if_pos hC, if_neg (fun z => hN ⟨hC, z⟩)]; exact ⟨rfl, rfl⟩)
  · refine g_ldc dX11_ease_19 tb_1007 ?_
    exact g_iret dX11_ease_21 rfl rfl (by have hN : ¬ mCB σ q o b := bI_0.mp c_16; rw [if_neg (fun z => hN z.1), if_neg hN]; exact ⟨rfl, rfl⟩)
end
