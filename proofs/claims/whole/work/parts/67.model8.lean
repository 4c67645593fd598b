theorem vAt_n {V : Nat → Int32} {a k : Nat} (ha : a < 8) (hk : k < 100000) : vAt V (nI a) (nI k) = if k ≤ 200 then V (201 * a + k) else 2000000002 := by
  unfold vAt
  by_cases h : k ≤ 200
  · rw [if_pos ⟨nI_pos' (by omega), nI_lt (b := 8) ha (by decide), nI_pos' (by omega), nI_le (b := 200) h (by decide)⟩, if_pos h, show (201 : Int32) = nI 201 from rfl, nI_mul, nI_add, nI_clamp (by omega), Nat.mul_comm]
  · rw [if_neg (fun z => absurd z.2.2.2 (nI_ge (a := 200) (by omega) (by omega))), if_neg h]
theorem jx201 (a k : Nat) : 201 * nI a + nI k = nI (201 * a + k) := by
  rw [show (201 : Int32) = nI 201 from rfl, nI_mul, nI_add]
def nrV (v : Int64) : Int32 := if 1000000000 < v ∨ v < -1000000000 then 2000000002 else v.toInt32
theorem eof_n {a b : Int32} {v : Int64} (ha : ¬ a = 2000000002) (hb : ¬ b = 2000000002) : eof a b v = nrV v := by
  unfold eof nrV
  grind
theorem eof_a {a b : Int32} {v : Int64} (ha : a = 2000000002) : eof a b v = 2000000002 := by
  unfold eof
  rw [if_pos (Or.inl ha)]
theorem eof_b {a b : Int32} {v : Int64} (hb : b = 2000000002) : eof a b v = 2000000002 := by
  unfold eof
  rw [if_pos (Or.inr (Or.inl hb))]
def mtT (σ : Nat → Nat → Int32) (q k : Nat) : Int32 := if k < 2 then σ 2 (4 * q + 2 + k) else eof (vAt (σ 7) (nI q) (nI (k - 2))) (vAt (σ 7) (nI q) (nI (k - 1))) ((σ 2 (4 * q)).toInt64 * (vAt (σ 7) (nI q) (nI (k - 1))).toInt64 + (σ 2 (4 * q + 1)).toInt64 * (vAt (σ 7) (nI q) (nI (k - 2))).toInt64)
def mtM (σ : Nat → Nat → Int32) (q k : Nat) : Int32 := if σ 1 q = 0 then mtT σ q k else mAt (σ 7) (σ 1 q) (σ 2 (4 * q)) (σ 2 (4 * q + 1)) (σ 2 (4 * q + 2)) (nI k)
section
variable {l : Launch} {σ : Nat → Nat → Int32} {t : Nat → Int64} {n q k a b m s : Nat}
set_option maxRecDepth 100000 in
set_option maxHeartbeats 4000000 in
theorem CX11_near {v : Int64} {w : q_Wd} : Ct l mX11_near [.long v] w (q_eq (some (.int (nrV v))) w) := by
  refine Ct.of rfl (Nat.le_of_ble_eq_true rfl) ?_
  refine g_lload_n dX11_near_0 rfl rfl ?_
  refine g_ldc2 dX11_near_1 tb_1056 ?_
  refine g_lcmp dX11_near_4 ?_
  refine g_if_gt (tgt := 16) dX11_near_5 rfl (fun c_5 => ?_) (fun c_5 => ?_)
  · refine g_ldc dX11_near_16 tb_1052 ?_
    refine g_goto (tgt := 23) dX11_near_18 rfl ?_
    exact g_iret dX11_near_23 rfl rfl ⟨by unfold nrV; first | rw [if_pos (Or.inl (cmp_gt.mp c_5))] | rw [if_pos (Or.inr (cmp_lt.mp (Int32.not_le.mp c_13)))] | rw [if_neg (fun z => z.elim (fun z => c_5 (cmp_gt.mpr z)) (fun z => absurd (cmp_lt.mpr z) (Int32.not_lt.mpr c_13)))], rfl⟩
  · refine g_lload_n dX11_near_8 rfl rfl ?_
    refine g_ldc2 dX11_near_9 tb_1057 ?_
    refine g_lcmp dX11_near_12 ?_
    refine g_if_ge (tgt := 21) dX11_near_13 rfl (fun c_13 => ?_) (fun c_13 => ?_)
    · refine g_lload_n dX11_near_21 rfl rfl ?_
      refine g_l2i dX11_near_22 ?_
      exact g_iret dX11_near_23 rfl rfl ⟨by unfold nrV; first | rw [if_pos (Or.inl (cmp_gt.mp c_5))] | rw [if_pos (Or.inr (cmp_lt.mp (Int32.not_le.mp c_13)))] | rw [if_neg (fun z => z.elim (fun z => c_5 (cmp_gt.mpr z)) (fun z => absurd (cmp_lt.mpr z) (Int32.not_lt.mpr c_13)))], rfl⟩
    · refine g_ldc dX11_near_16 tb_1052 ?_
      refine g_goto (tgt := 23) dX11_near_18 rfl ?_
      exact g_iret dX11_near_23 rfl rfl ⟨by unfold nrV; first | rw [if_pos (Or.inl (cmp_gt.mp c_5))] | rw [if_pos (Or.inr (cmp_lt.mp (Int32.not_le.mp c_13)))] | rw [if_neg (fun z => z.elim (fun z => c_5 (cmp_gt.mpr z)) (fun z => absurd (cmp_lt.mpr z) (Int32.not_lt.mpr c_13)))], rfl⟩
set_option maxRecDepth 100000 in
set_option maxHeartbeats 4000000 in
theorem CX11_termAt (ha : a < 8) (hk : k < 100000) : Ct l mX11_termAt [.ref 0, .int (nI a), .int (nI k)] (mW σ t) (q_eq (some (.int (vAt (σ 7) (nI a) (nI k)))) (mW σ t)) := by
  refine Ct.of rfl (Nat.le_of_ble_eq_true rfl) ?_
  rcases (show k ≤ 200 ∨ 200 < k by omega) with q | q
  · refine g_iload_n dX11_termAt_0 rfl rfl ?_
    refine g_sipush (v := 200) dX11_termAt_1 (by decide) ?_
    refine g_icmp_le (tgt := 12) dX11_termAt_4 rfl (fun c_4 => ?_) (fun c_4 => by exact absurd (nI_le (b := 200) q (by decide)) c_4)
    refine g_aload_n dX11_termAt_12 rfl rfl ?_
    refine g_getf dX11_termAt_13 fX11_29 mW_0 rfl ?_
    refine g_sipush (v := 201) dX11_termAt_16 (by decide) ?_
    refine g_iload_n dX11_termAt_19 rfl rfl ?_
    refine g_imul dX11_termAt_20 ?_
    refine g_iload_n dX11_termAt_21 rfl rfl ?_
    refine g_iadd dX11_termAt_22 ?_
    rw [jx201]
    refine g_iald dX11_termAt_23 mA7 (vin_n (by omega) (by decide)) ?_
    rw [nI_clamp (by omega)]
    exact g_iret dX11_termAt_24 rfl rfl ⟨by rw [vAt_n ha hk, if_pos q], rfl⟩
  · refine g_iload_n dX11_termAt_0 rfl rfl ?_
    refine g_sipush (v := 200) dX11_termAt_1 (by decide) ?_
    refine g_icmp_le (tgt := 12) dX11_termAt_4 rfl (fun c_4 => by exact absurd c_4 (nI_ge (a := 200) (by omega) (by omega))) (fun c_4 => ?_)
    refine g_ldc dX11_termAt_7 tb_1052 ?_
    refine g_goto (tgt := 24) dX11_termAt_9 rfl ?_
    exact g_iret dX11_termAt_24 rfl rfl ⟨by rw [vAt_n ha hk, if_neg (by omega)], rfl⟩
set_option maxRecDepth 100000 in
set_option maxHeartbeats 4000000 in
theorem CX11_toldTerm (hq : q < 8) (hk : k ≤ 200) : Ct l mX11_toldTerm [.ref 0, .int (nI q), .int (nI k)] (mW σ t) (q_eq (some (.int (mtT σ q k))) (mW σ t)) := by
  refine Ct.of rfl (Nat.le_of_ble_eq_true rfl) ?_
  rcases Nat.lt_or_ge k 2 with h | h
  · refine g_iload_n dX11_toldTerm_0 rfl rfl ?_
    refine g_iconst (v := 2) dX11_toldTerm_1 (by decide) ?_
    refine g_icmp_ge (tgt := 18) dX11_toldTerm_2 rfl (fun c_2 => by exact absurd c_2 (nI_ge (b := 2) h (by decide))) (fun c_2 => ?_)
    refine g_aload_n dX11_toldTerm_5 rfl rfl ?_
    refine g_getf dX11_toldTerm_6 fX11_13 mW_0 rfl ?_
    refine g_iconst (v := 4) dX11_toldTerm_9 (by decide) ?_
    refine g_iload_n dX11_toldTerm_10 rfl rfl ?_
    refine g_imul dX11_toldTerm_11 ?_
    refine g_iconst (v := 2) dX11_toldTerm_12 (by decide) ?_
    refine g_iadd dX11_toldTerm_13 ?_
    rw [jx42]
    refine g_iload_n dX11_toldTerm_14 rfl rfl ?_
    refine g_iadd dX11_toldTerm_15 ?_
    rw [nI_add]
    refine g_iald dX11_toldTerm_16 mA2 (vin_n (by omega) (by decide)) ?_
    rw [nI_clamp (by omega)]
    exact g_iret dX11_toldTerm_17 rfl rfl ⟨by rw [mtT, if_pos h], rfl⟩
  · refine g_iload_n dX11_toldTerm_0 rfl rfl ?_
    refine g_iconst (v := 2) dX11_toldTerm_1 (by decide) ?_
    refine g_icmp_ge (tgt := 18) dX11_toldTerm_2 rfl (fun c_2 => ?_) (fun c_2 => by exact absurd (nI_le (a := 2) h (by omega)) c_2)
    refine g_aload_n dX11_toldTerm_18 rfl rfl ?_
    refine g_iload_n dX11_toldTerm_19 rfl rfl ?_
    refine g_iload_n dX11_toldTerm_20 rfl rfl ?_
    refine g_iconst (v := 1) dX11_toldTerm_21 (by decide) ?_
    refine g_isub dX11_toldTerm_22 ?_
    rw [show nI k - 1 = nI (k - 1) from nI_sub (b := 1) (by omega)]
    refine g_V2r (CX11_termAt hq (by omega)) kX11_toldTerm_136 dX11_toldTerm_23 mW_0 rfl ⟨rfl, rfl⟩ (Nat.le_of_ble_eq_true rfl) ⟨(Nat.le_of_ble_eq_true rfl), (Nat.le_of_ble_eq_true rfl)⟩ ?_
    refine g_istore_n dX11_toldTerm_26 rfl (Nat.le_of_ble_eq_true rfl) rfl ?_
    refine g_aload_n dX11_toldTerm_27 rfl rfl ?_
    refine g_iload_n dX11_toldTerm_28 rfl rfl ?_
    refine g_iload_n dX11_toldTerm_29 rfl rfl ?_
    refine g_iconst (v := 2) dX11_toldTerm_30 (by decide) ?_
    refine g_isub dX11_toldTerm_31 ?_
    rw [show nI k - 2 = nI (k - 2) from nI_sub (b := 2) (by omega)]
    refine g_V2r (CX11_termAt hq (by omega)) kX11_toldTerm_136 dX11_toldTerm_32 mW_0 rfl ⟨rfl, rfl⟩ (Nat.le_of_ble_eq_true rfl) ⟨(Nat.le_of_ble_eq_true rfl), (Nat.le_of_ble_eq_true rfl)⟩ ?_
    refine g_istore dX11_toldTerm_35 (Nat.le_of_ble_eq_true rfl) rfl ?_
    refine g_iload_n dX11_toldTerm_37 rfl rfl ?_
    refine g_ldc dX11_toldTerm_38 tb_1052 ?_
    refine g_icmp_eq (tgt := 50) dX11_toldTerm_40 rfl (fun c_40 => ?_) (fun c_40 => ?_)
    · refine g_ldc dX11_toldTerm_50 tb_1052 ?_
      refine g_goto (tgt := 86) dX11_toldTerm_52 rfl ?_
      exact g_iret dX11_toldTerm_86 rfl rfl ⟨by rw [mtT, if_neg (by omega)]; first | rw [eof_b c_40] | rw [eof_a c_47] | rw [eof_n c_47 c_40], rfl⟩
    · refine g_iload dX11_toldTerm_43 rfl ?_
      refine g_ldc dX11_toldTerm_45 tb_1052 ?_
      refine g_icmp_ne (tgt := 55) dX11_toldTerm_47 rfl (fun c_47 => ?_) (fun c_47 => ?_)
      · refine g_aload_n dX11_toldTerm_55 rfl rfl ?_
        refine g_getf dX11_toldTerm_56 fX11_13 mW_0 rfl ?_
        refine g_iconst (v := 4) dX11_toldTerm_59 (by decide) ?_
        refine g_iload_n dX11_toldTerm_60 rfl rfl ?_
        refine g_imul dX11_toldTerm_61 ?_
        rw [jx4]
        refine g_iald dX11_toldTerm_62 mA2 (vin_n (by omega) (by decide)) ?_
        rw [nI_clamp (by omega)]
        refine g_i2l dX11_toldTerm_63 ?_
        refine g_iload_n dX11_toldTerm_64 rfl rfl ?_
        refine g_i2l dX11_toldTerm_65 ?_
        refine g_lmul dX11_toldTerm_66 ?_
        refine g_aload_n dX11_toldTerm_67 rfl rfl ?_
        refine g_getf dX11_toldTerm_68 fX11_13 mW_0 rfl ?_
        refine g_iconst (v := 4) dX11_toldTerm_71 (by decide) ?_
        refine g_iload_n dX11_toldTerm_72 rfl rfl ?_
        refine g_imul dX11_toldTerm_73 ?_
        refine g_iconst (v := 1) dX11_toldTerm_74 (by decide) ?_
        refine g_iadd dX11_toldTerm_75 ?_
        rw [jx41]
        refine g_iald dX11_toldTerm_76 mA2 (vin_n (by omega) (by decide)) ?_
        rw [nI_clamp (by omega)]
        refine g_i2l dX11_toldTerm_77 ?_
        refine g_iload dX11_toldTerm_78 rfl ?_
        refine g_i2l dX11_toldTerm_80 ?_
        refine g_lmul dX11_toldTerm_81 ?_
        refine g_ladd dX11_toldTerm_82 ?_
        refine g_S1r CX11_near kX11_toldTerm_140 dX11_toldTerm_83 ⟨rfl, rfl⟩ (Nat.le_of_ble_eq_true rfl) ⟨(Nat.le_of_ble_eq_true rfl), (Nat.le_of_ble_eq_true rfl)⟩ ?_
        exact g_iret dX11_toldTerm_86 rfl rfl ⟨by rw [mtT, if_neg (by omega)]; first | rw [eof_b c_40] | rw [eof_a c_47] | rw [eof_n c_47 c_40], rfl⟩
      · refine g_ldc dX11_toldTerm_50 tb_1052 ?_
        refine g_goto (tgt := 86) dX11_toldTerm_52 rfl ?_
        exact g_iret dX11_toldTerm_86 rfl rfl ⟨by rw [mtT, if_neg (by omega)]; first | rw [eof_b c_40] | rw [eof_a c_47] | rw [eof_n c_47 c_40], rfl⟩
set_option maxRecDepth 100000 in
set_option maxHeartbeats 4000000 in
theorem CX11_bothTerm (hq : q < 8) (hk : k ≤ 200) (ea : σ 2 (4 * q) = nI a) (ha : a < 8) (eb : σ 2 (4 * q + 1) = nI b) (hb : b < 8) : Ct l mX11_bothTerm [.ref 0, .int (nI q), .int (nI k)] (mW σ t) (q_eq (some (.int (eof (vAt (σ 7) (nI a) (nI k)) (vAt (σ 7) (nI b) (nI k)) (if σ 1 q = 1 then (vAt (σ 7) (nI a) (nI k)).toInt64 + (vAt (σ 7) (nI b) (nI k)).toInt64 else (vAt (σ 7) (nI a) (nI k)).toInt64 * (vAt (σ 7) (nI b) (nI k)).toInt64)))) (mW σ t)) := by
  refine Ct.of rfl (Nat.le_of_ble_eq_true rfl) ?_
  refine g_aload_n dX11_bothTerm_0 rfl rfl ?_
  refine g_aload_n dX11_bothTerm_1 rfl rfl ?_
  refine g_getf dX11_bothTerm_2 fX11_13 mW_0 rfl ?_
  refine g_iconst (v := 4) dX11_bothTerm_5 (by decide) ?_
  refine g_iload_n dX11_bothTerm_6 rfl rfl ?_
  refine g_imul dX11_bothTerm_7 ?_
  rw [jx4]
  refine g_iald dX11_bothTerm_8 mA2 (vin_n (by omega) (by decide)) ?_
  rw [nI_clamp (by omega), ea]
  refine g_iload_n dX11_bothTerm_9 rfl rfl ?_
  refine g_V2r (CX11_termAt ha (by omega)) kX11_bothTerm_136 dX11_bothTerm_10 mW_0 rfl ⟨rfl, rfl⟩ (Nat.le_of_ble_eq_true rfl) ⟨(Nat.le_of_ble_eq_true rfl), (Nat.le_of_ble_eq_true rfl)⟩ ?_
  refine g_istore_n dX11_bothTerm_13 rfl (Nat.le_of_ble_eq_true rfl) rfl ?_
  refine g_aload_n dX11_bothTerm_14 rfl rfl ?_
  refine g_aload_n dX11_bothTerm_15 rfl rfl ?_
  refine g_getf dX11_bothTerm_16 fX11_13 mW_0 rfl ?_
  refine g_iconst (v := 4) dX11_bothTerm_19 (by decide) ?_
  refine g_iload_n dX11_bothTerm_20 rfl rfl ?_
  refine g_imul dX11_bothTerm_21 ?_
  refine g_iconst (v := 1) dX11_bothTerm_22 (by decide) ?_
  refine g_iadd dX11_bothTerm_23 ?_
  rw [jx41]
  refine g_iald dX11_bothTerm_24 mA2 (vin_n (by omega) (by decide)) ?_
  rw [nI_clamp (by omega), eb]
  refine g_iload_n dX11_bothTerm_25 rfl rfl ?_
  refine g_V2r (CX11_termAt hb (by omega)) kX11_bothTerm_136 dX11_bothTerm_26 mW_0 rfl ⟨rfl, rfl⟩ (Nat.le_of_ble_eq_true rfl) ⟨(Nat.le_of_ble_eq_true rfl), (Nat.le_of_ble_eq_true rfl)⟩ ?_
  refine g_istore dX11_bothTerm_29 (Nat.le_of_ble_eq_true rfl) rfl ?_
  refine g_iload_n dX11_bothTerm_31 rfl rfl ?_
  refine g_ldc dX11_bothTerm_32 tb_1052 ?_
  refine g_icmp_eq (tgt := 44) dX11_bothTerm_34 rfl (fun c_34 => ?_) (fun c_34 => ?_)
  · refine g_ldc dX11_bothTerm_44 tb_1052 ?_
    exact g_iret dX11_bothTerm_46 rfl rfl ⟨by first | rw [eof_a c_34] | rw [eof_b c_41] | (rw [eof_n c_34 c_41, if_pos c_54]) | (rw [eof_n c_34 c_41, if_neg c_54]), rfl⟩
  · refine g_iload dX11_bothTerm_37 rfl ?_
    refine g_ldc dX11_bothTerm_39 tb_1052 ?_
    refine g_icmp_ne (tgt := 47) dX11_bothTerm_41 rfl (fun c_41 => ?_) (fun c_41 => ?_)
    · refine g_aload_n dX11_bothTerm_47 rfl rfl ?_
      refine g_getf dX11_bothTerm_48 fX11_7 mW_0 rfl ?_
      refine g_iload_n dX11_bothTerm_51 rfl rfl ?_
      refine g_iald dX11_bothTerm_52 mA1 (vin_n (by omega) (by decide)) ?_
      rw [nI_clamp (by omega)]
      refine g_iconst (v := 1) dX11_bothTerm_53 (by decide) ?_
      refine g_icmp_ne (tgt := 66) dX11_bothTerm_54 rfl (fun c_54 => ?_) (fun c_54 => ?_)
      · refine g_iload_n dX11_bothTerm_66 rfl rfl ?_
        refine g_i2l dX11_bothTerm_67 ?_
        refine g_iload dX11_bothTerm_68 rfl ?_
        refine g_i2l dX11_bothTerm_70 ?_
        refine g_lmul dX11_bothTerm_71 ?_
        refine g_S1r CX11_near kX11_bothTerm_140 dX11_bothTerm_72 ⟨rfl, rfl⟩ (Nat.le_of_ble_eq_true rfl) ⟨(Nat.le_of_ble_eq_true rfl), (Nat.le_of_ble_eq_true rfl)⟩ ?_
        exact g_iret dX11_bothTerm_75 rfl rfl ⟨by first | rw [eof_a c_34] | rw [eof_b c_41] | (rw [eof_n c_34 c_41, if_pos c_54]) | (rw [eof_n c_34 c_41, if_neg c_54]), rfl⟩
      · refine g_iload_n dX11_bothTerm_57 rfl rfl ?_
        refine g_i2l dX11_bothTerm_58 ?_
        refine g_iload dX11_bothTerm_59 rfl ?_
        refine g_i2l dX11_bothTerm_61 ?_
        refine g_ladd dX11_bothTerm_62 ?_
        refine g_goto (tgt := 72) dX11_bothTerm_63 rfl ?_
        refine g_S1r CX11_near kX11_bothTerm_140 dX11_bothTerm_72 ⟨rfl, rfl⟩ (Nat.le_of_ble_eq_true rfl) ⟨(Nat.le_of_ble_eq_true rfl), (Nat.le_of_ble_eq_true rfl)⟩ ?_
        exact g_iret dX11_bothTerm_75 rfl rfl ⟨by first | rw [eof_a c_34] | rw [eof_b c_41] | (rw [eof_n c_34 c_41, if_pos c_54]) | (rw [eof_n c_34 c_41, if_neg c_54]), rfl⟩
    · refine g_ldc dX11_bothTerm_44 tb_1052 ?_
      exact g_iret dX11_bothTerm_46 rfl rfl ⟨by first | rw [eof_a c_34] | rw [eof_b c_41] | (rw [eof_n c_34 c_41, if_pos c_54]) | (rw [eof_n c_34 c_41, if_neg c_54]), rfl⟩
set_option maxRecDepth 100000 in
set_option maxHeartbeats 4000000 in
theorem CX11_stepTerm (hq : q < 8) (hk : k ≤ 200) (ea : σ 2 (4 * q) = nI a) (ha : a < 8) : Ct l mX11_stepTerm [.ref 0, .int (nI q), .int (nI k)] (mW σ t) (q_eq (some (.int (eof (vAt (σ 7) (nI a) (nI k)) (vAt (σ 7) (nI a) (nI k + 1)) ((vAt (σ 7) (nI a) (nI k + 1)).toInt64 - (vAt (σ 7) (nI a) (nI k)).toInt64)))) (mW σ t)) := by
  refine Ct.of rfl (Nat.le_of_ble_eq_true rfl) ?_
  rw [nI_1 k]
  refine g_aload_n dX11_stepTerm_0 rfl rfl ?_
  refine g_aload_n dX11_stepTerm_1 rfl rfl ?_
  refine g_getf dX11_stepTerm_2 fX11_13 mW_0 rfl ?_
  refine g_iconst (v := 4) dX11_stepTerm_5 (by decide) ?_
  refine g_iload_n dX11_stepTerm_6 rfl rfl ?_
  refine g_imul dX11_stepTerm_7 ?_
  rw [jx4]
  refine g_iald dX11_stepTerm_8 mA2 (vin_n (by omega) (by decide)) ?_
  rw [nI_clamp (by omega), ea]
  refine g_iload_n dX11_stepTerm_9 rfl rfl ?_
  refine g_V2r (CX11_termAt ha (by omega)) kX11_stepTerm_136 dX11_stepTerm_10 mW_0 rfl ⟨rfl, rfl⟩ (Nat.le_of_ble_eq_true rfl) ⟨(Nat.le_of_ble_eq_true rfl), (Nat.le_of_ble_eq_true rfl)⟩ ?_
  refine g_istore_n dX11_stepTerm_13 rfl (Nat.le_of_ble_eq_true rfl) rfl ?_
  refine g_aload_n dX11_stepTerm_14 rfl rfl ?_
  refine g_aload_n dX11_stepTerm_15 rfl rfl ?_
  refine g_getf dX11_stepTerm_16 fX11_13 mW_0 rfl ?_
  refine g_iconst (v := 4) dX11_stepTerm_19 (by decide) ?_
  refine g_iload_n dX11_stepTerm_20 rfl rfl ?_
  refine g_imul dX11_stepTerm_21 ?_
  rw [jx4]
  refine g_iald dX11_stepTerm_22 mA2 (vin_n (by omega) (by decide)) ?_
  rw [nI_clamp (by omega), ea]
  refine g_iload_n dX11_stepTerm_23 rfl rfl ?_
  refine g_iconst (v := 1) dX11_stepTerm_24 (by decide) ?_
  refine g_iadd dX11_stepTerm_25 ?_
  rw [nI_1 k]
  refine g_V2r (CX11_termAt ha (by omega)) kX11_stepTerm_136 dX11_stepTerm_26 mW_0 rfl ⟨rfl, rfl⟩ (Nat.le_of_ble_eq_true rfl) ⟨(Nat.le_of_ble_eq_true rfl), (Nat.le_of_ble_eq_true rfl)⟩ ?_
  refine g_istore dX11_stepTerm_29 (Nat.le_of_ble_eq_true rfl) rfl ?_
  refine g_iload_n dX11_stepTerm_31 rfl rfl ?_
  refine g_ldc dX11_stepTerm_32 tb_1052 ?_
  refine g_icmp_eq (tgt := 44) dX11_stepTerm_34 rfl (fun c_34 => ?_) (fun c_34 => ?_)
  · refine g_ldc dX11_stepTerm_44 tb_1052 ?_
    refine g_goto (tgt := 58) dX11_stepTerm_46 rfl ?_
    exact g_iret dX11_stepTerm_58 rfl rfl ⟨by first | rw [eof_a c_34] | rw [eof_b c_41] | rw [eof_n c_34 c_41], rfl⟩
  · refine g_iload dX11_stepTerm_37 rfl ?_
    refine g_ldc dX11_stepTerm_39 tb_1052 ?_
    refine g_icmp_ne (tgt := 49) dX11_stepTerm_41 rfl (fun c_41 => ?_) (fun c_41 => ?_)
    · refine g_iload dX11_stepTerm_49 rfl ?_
      refine g_i2l dX11_stepTerm_51 ?_
      refine g_iload_n dX11_stepTerm_52 rfl rfl ?_
      refine g_i2l dX11_stepTerm_53 ?_
      refine g_lsub dX11_stepTerm_54 ?_
      refine g_S1r CX11_near kX11_stepTerm_140 dX11_stepTerm_55 ⟨rfl, rfl⟩ (Nat.le_of_ble_eq_true rfl) ⟨(Nat.le_of_ble_eq_true rfl), (Nat.le_of_ble_eq_true rfl)⟩ ?_
      exact g_iret dX11_stepTerm_58 rfl rfl ⟨by first | rw [eof_a c_34] | rw [eof_b c_41] | rw [eof_n c_34 c_41], rfl⟩
    · refine g_ldc dX11_stepTerm_44 tb_1052 ?_
      refine g_goto (tgt := 58) dX11_stepTerm_46 rfl ?_
      exact g_iret dX11_stepTerm_58 rfl rfl ⟨by first | rw [eof_a c_34] | rw [eof_b c_41] | rw [eof_n c_34 c_41], rfl⟩
set_option maxRecDepth 100000 in
set_option maxHeartbeats 4000000 in
theorem CX11_madeTerm (hq : q < 8) (hk : k ≤ 200) (hA : σ 1 q ≠ 0 → σ 2 (4 * q) = nI a ∧ a < 8) (hB : σ 1 q ≠ 0 → σ 1 q ≠ 3 → σ 1 q ≠ 4 → σ 2 (4 * q + 1) = nI b ∧ b < 8) (hE : σ 1 q = 3 → σ 2 (4 * q + 1) = nI m ∧ m ≤ 5 ∧ σ 2 (4 * q + 2) = nI s ∧ s ≤ 9) : Ct l mX11_madeTerm [.ref 0, .int (nI q), .int (nI k)] (mW σ t) (q_eq (some (.int (mtM σ q k))) (mW σ t)) := by
  refine Ct.of rfl (Nat.le_of_ble_eq_true rfl) ?_
  refine g_aload_n dX11_madeTerm_0 rfl rfl ?_
  refine g_getf dX11_madeTerm_1 fX11_7 mW_0 rfl ?_
  refine g_iload_n dX11_madeTerm_4 rfl rfl ?_
  refine g_iald dX11_madeTerm_5 mA1 (vin_n (by omega) (by decide)) ?_
  rw [nI_clamp (by omega)]
  refine g_case (0) (fun s_6_0 => ?_) (fun s_6_0 => ?_)
  · refine g_tblEq (off := 34) (tgt := 40) dX11_madeTerm_6 s_6_0 (by decide) (by decide) rfl rfl ?_
    refine g_aload_n dX11_madeTerm_40 rfl rfl ?_
    refine g_iload_n dX11_madeTerm_41 rfl rfl ?_
    refine g_iload_n dX11_madeTerm_42 rfl rfl ?_
    refine g_V2r (CX11_toldTerm hq hk) kX11_madeTerm_144 dX11_madeTerm_43 mW_0 rfl ⟨rfl, rfl⟩ (Nat.le_of_ble_eq_true rfl) ⟨(Nat.le_of_ble_eq_true rfl), (Nat.le_of_ble_eq_true rfl)⟩ ?_
    exact g_iret dX11_madeTerm_46 rfl rfl ⟨by rw [mtM, if_pos s_6_0], rfl⟩
  · refine g_case (1) (fun s_6_1 => ?_) (fun s_6_1 => ?_)
    · refine g_tblEq (off := 84) (tgt := 90) dX11_madeTerm_6 s_6_1 (by decide) (by decide) rfl rfl ?_
      have h0 : σ 1 q ≠ 0 := s_6_0
      have h3 : σ 1 q ≠ 3 := by first | exact s_6_3 | (rw [s_6_1]; decide) | (rw [s_6_2]; decide)
      have h4 : σ 1 q ≠ 4 := by first | exact s_6_4 | (rw [s_6_1]; decide) | (rw [s_6_2]; decide)
      obtain ⟨ea, ha⟩ := hA h0
      obtain ⟨eb, hb⟩ := hB h0 h3 h4
      refine g_aload_n dX11_madeTerm_90 rfl rfl ?_
      refine g_iload_n dX11_madeTerm_91 rfl rfl ?_
      refine g_iload_n dX11_madeTerm_92 rfl rfl ?_
      refine g_V2r (CX11_bothTerm hq hk ea ha eb hb) kX11_madeTerm_150 dX11_madeTerm_93 mW_0 rfl ⟨rfl, rfl⟩ (Nat.le_of_ble_eq_true rfl) ⟨(Nat.le_of_ble_eq_true rfl), (Nat.le_of_ble_eq_true rfl)⟩ ?_
      exact g_iret dX11_madeTerm_96 rfl rfl ⟨by rw [mtM, if_neg h0, mAt, if_neg h3, if_neg h4, ea, eb], rfl⟩
    · refine g_case (2) (fun s_6_2 => ?_) (fun s_6_2 => ?_)
      · refine g_tblEq (off := 84) (tgt := 90) dX11_madeTerm_6 s_6_2 (by decide) (by decide) rfl rfl ?_
        have h0 : σ 1 q ≠ 0 := s_6_0
        have h3 : σ 1 q ≠ 3 := by first | exact s_6_3 | (rw [s_6_1]; decide) | (rw [s_6_2]; decide)
        have h4 : σ 1 q ≠ 4 := by first | exact s_6_4 | (rw [s_6_1]; decide) | (rw [s_6_2]; decide)
        obtain ⟨ea, ha⟩ := hA h0
        obtain ⟨eb, hb⟩ := hB h0 h3 h4
        refine g_aload_n dX11_madeTerm_90 rfl rfl ?_
        refine g_iload_n dX11_madeTerm_91 rfl rfl ?_
        refine g_iload_n dX11_madeTerm_92 rfl rfl ?_
        refine g_V2r (CX11_bothTerm hq hk ea ha eb hb) kX11_madeTerm_150 dX11_madeTerm_93 mW_0 rfl ⟨rfl, rfl⟩ (Nat.le_of_ble_eq_true rfl) ⟨(Nat.le_of_ble_eq_true rfl), (Nat.le_of_ble_eq_true rfl)⟩ ?_
        exact g_iret dX11_madeTerm_96 rfl rfl ⟨by rw [mtM, if_neg h0, mAt, if_neg h3, if_neg h4, ea, eb], rfl⟩
      · refine g_case (3) (fun s_6_3 => ?_) (fun s_6_3 => ?_)
        · refine g_tblEq (off := 41) (tgt := 47) dX11_madeTerm_6 s_6_3 (by decide) (by decide) rfl rfl ?_
          obtain ⟨ea, ha⟩ := hA (by rw [s_6_3]; decide)
          obtain ⟨em, hm, es, hs⟩ := hE s_6_3
          have hmk : m * k ≤ 5 * 200 := Nat.mul_le_mul hm hk
          refine g_aload_n dX11_madeTerm_47 rfl rfl ?_
          refine g_aload_n dX11_madeTerm_48 rfl rfl ?_
          refine g_getf dX11_madeTerm_49 fX11_13 mW_0 rfl ?_
          refine g_iconst (v := 4) dX11_madeTerm_52 (by decide) ?_
          refine g_iload_n dX11_madeTerm_53 rfl rfl ?_
          refine g_imul dX11_madeTerm_54 ?_
          rw [jx4]
          refine g_iald dX11_madeTerm_55 mA2 (vin_n (by omega) (by decide)) ?_
          rw [nI_clamp (by omega), ea]
          refine g_aload_n dX11_madeTerm_56 rfl rfl ?_
          refine g_getf dX11_madeTerm_57 fX11_13 mW_0 rfl ?_
          refine g_iconst (v := 4) dX11_madeTerm_60 (by decide) ?_
          refine g_iload_n dX11_madeTerm_61 rfl rfl ?_
          refine g_imul dX11_madeTerm_62 ?_
          refine g_iconst (v := 1) dX11_madeTerm_63 (by decide) ?_
          refine g_iadd dX11_madeTerm_64 ?_
          rw [jx41]
          refine g_iald dX11_madeTerm_65 mA2 (vin_n (by omega) (by decide)) ?_
          rw [nI_clamp (by omega), em]
          refine g_iload_n dX11_madeTerm_66 rfl rfl ?_
          refine g_imul dX11_madeTerm_67 ?_
          refine g_aload_n dX11_madeTerm_68 rfl rfl ?_
          refine g_getf dX11_madeTerm_69 fX11_13 mW_0 rfl ?_
          refine g_iconst (v := 4) dX11_madeTerm_72 (by decide) ?_
          refine g_iload_n dX11_madeTerm_73 rfl rfl ?_
          refine g_imul dX11_madeTerm_74 ?_
          refine g_iconst (v := 2) dX11_madeTerm_75 (by decide) ?_
          refine g_iadd dX11_madeTerm_76 ?_
          rw [jx42]
          refine g_iald dX11_madeTerm_77 mA2 (vin_n (by omega) (by decide)) ?_
          rw [nI_clamp (by omega), es]
          refine g_iadd dX11_madeTerm_78 ?_
          rw [nI_mul, nI_add]
          refine g_V2r (CX11_termAt ha (by omega)) kX11_madeTerm_136 dX11_madeTerm_79 mW_0 rfl ⟨rfl, rfl⟩ (Nat.le_of_ble_eq_true rfl) ⟨(Nat.le_of_ble_eq_true rfl), (Nat.le_of_ble_eq_true rfl)⟩ ?_
          exact g_iret dX11_madeTerm_82 rfl rfl ⟨by rw [mtM, if_neg (by rw [s_6_3]; decide), mAt, if_pos s_6_3, ea, em, es, nI_mul, nI_add], rfl⟩
        · refine g_case (4) (fun s_6_4 => ?_) (fun s_6_4 => ?_)
          · refine g_tblEq (off := 77) (tgt := 83) dX11_madeTerm_6 s_6_4 (by decide) (by decide) rfl rfl ?_
            obtain ⟨ea, ha⟩ := hA (by rw [s_6_4]; decide)
            refine g_aload_n dX11_madeTerm_83 rfl rfl ?_
            refine g_iload_n dX11_madeTerm_84 rfl rfl ?_
            refine g_iload_n dX11_madeTerm_85 rfl rfl ?_
            refine g_V2r (CX11_stepTerm hq hk ea ha) kX11_madeTerm_147 dX11_madeTerm_86 mW_0 rfl ⟨rfl, rfl⟩ (Nat.le_of_ble_eq_true rfl) ⟨(Nat.le_of_ble_eq_true rfl), (Nat.le_of_ble_eq_true rfl)⟩ ?_
            exact g_iret dX11_madeTerm_89 rfl rfl ⟨by rw [mtM, if_neg (by rw [s_6_4]; decide), mAt, if_neg (by rw [s_6_4]; decide), if_pos s_6_4, ea], rfl⟩
          · refine g_tableOut (tgt := 90) dX11_madeTerm_6 (by have a0 := ne_toInt (z := 0) rfl s_6_0; have a1 := ne_toInt (z := 1) rfl s_6_1; have a2 := ne_toInt (z := 2) rfl s_6_2; have a3 := ne_toInt (z := 3) rfl s_6_3; have a4 := ne_toInt (z := 4) rfl s_6_4; omega) rfl ?_
            have h0 : σ 1 q ≠ 0 := s_6_0
            have h3 : σ 1 q ≠ 3 := by first | exact s_6_3 | (rw [s_6_1]; decide) | (rw [s_6_2]; decide)
            have h4 : σ 1 q ≠ 4 := by first | exact s_6_4 | (rw [s_6_1]; decide) | (rw [s_6_2]; decide)
            obtain ⟨ea, ha⟩ := hA h0
            obtain ⟨eb, hb⟩ := hB h0 h3 h4
            refine g_aload_n dX11_madeTerm_90 rfl rfl ?_
            refine g_iload_n dX11_madeTerm_91 rfl rfl ?_
            refine g_iload_n dX11_madeTerm_92 rfl rfl ?_
            refine g_V2r (CX11_bothTerm hq hk ea ha eb hb) kX11_madeTerm_150 dX11_madeTerm_93 mW_0 rfl ⟨rfl, rfl⟩ (Nat.le_of_ble_eq_true rfl) ⟨(Nat.le_of_ble_eq_true rfl), (Nat.le_of_ble_eq_true rfl)⟩ ?_
            exact g_iret dX11_madeTerm_96 rfl rfl ⟨by rw [mtM, if_neg h0, mAt, if_neg h3, if_neg h4, ea, eb], rfl⟩
end
