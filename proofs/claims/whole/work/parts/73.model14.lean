def mxN (a b : Nat) : Nat := if b < a then a else b
def tnS (a b : Nat) : Nat := a / Nat.gcd a b * b
def ldE (ld n s : Nat) : Nat := if ld ≤ s then 0 else (ld - s + n - 1) / n
theorem put98 {σ : Nat → Nat → Int32} {q a : Nat} {x y : Int32} (h : a ≠ q) : put (put σ 8 q x) 9 q y 8 a = σ 8 a ∧ put (put σ 8 q x) 9 q y 9 a = σ 9 a := by
  simp [put, upd, h]
theorem put989 {σ : Nat → Nat → Int32} {q a : Nat} {x y z : Int32} (h : a ≠ q) : put (put (put σ 8 q x) 9 q y) 8 q z 9 a = σ 9 a := by
  simp [put, upd, h]
theorem put4 {σ : Nat → Nat → Int32} {q : Nat} {x y z u : Int32} : put (put (put (put σ 8 q x) 9 q y) 8 q z) 9 q u = put (put σ 8 q z) 9 q u := by
  funext c i
  unfold put upd
  by_cases h : c = 9 <;> by_cases h2 : c = 8 <;> by_cases h3 : i = q <;> simp [h, h2, h3]
section
variable {l : Launch} {σ : Nat → Nat → Int32} {t : Nat → Int64} {q a c lda tna ldc tnc nn ss : Nat}
set_option maxRecDepth 100000 in
set_option maxHeartbeats 4000000 in
theorem CX11_layTurn (hq : q ≤ 8) (ea : σ 2 (4 * q) = nI a) (haq : a ≠ q) (HA : mRq σ a lda tna) (HC : mRq σ c ldc tnc) (hc1 : σ 1 q = 1 ∨ σ 1 q = 2 → σ 2 (4 * q + 1) = nI c) (hc2 : ¬ (σ 1 q = 1 ∨ σ 1 q = 2) → c = a) (h3 : ¬ σ 1 q = 3) : Ct l mX11_layTurn [.ref 0, .int (nI q)] (mW σ t) (q_eq none (mW (put (put σ 8 q (nI (mxN lda ldc))) 9 q (nI (tnS tna tnc))) t)) := by
  refine Ct.of rfl (Nat.le_of_ble_eq_true rfl) ?_
  obtain ⟨ha8, hla, hta, ha1, ha6, ha3⟩ := HA
  obtain ⟨hc8, hlc, htc, hcc1, hc6, hc3⟩ := HC
  have hg1 : 0 < Nat.gcd tna tnc := Nat.gcd_pos_of_pos_left _ ha1
  have hg2 : Nat.gcd tna tnc ≤ tna := Nat.gcd_le_left _ ha1
  refine g_aload_n dX11_layTurn_0 rfl rfl ?_
  refine g_getf dX11_layTurn_1 fX11_13 mW_0 rfl ?_
  refine g_iconst (v := 4) dX11_layTurn_4 (by decide) ?_
  refine g_iload_n dX11_layTurn_5 rfl rfl ?_
  refine g_imul dX11_layTurn_6 ?_
  rw [jx4]
  refine g_iald dX11_layTurn_7 mA2 (vin_n (by omega) (by decide)) ?_
  rw [nI_clamp (by omega), ea]
  refine g_istore_n dX11_layTurn_8 rfl (Nat.le_of_ble_eq_true rfl) rfl ?_
  refine g_aload_n dX11_layTurn_9 rfl rfl ?_
  refine g_getf dX11_layTurn_10 fX11_7 mW_0 rfl ?_
  refine g_iload_n dX11_layTurn_13 rfl rfl ?_
  refine g_iald dX11_layTurn_14 mA1 (vin_n (by omega) (by decide)) ?_
  rw [nI_clamp (by omega)]
  refine g_iconst (v := 1) dX11_layTurn_15 (by decide) ?_
  refine g_icmp_eq (tgt := 29) dX11_layTurn_16 rfl (fun c_16 => ?_) (fun c_16 => ?_)
  · refine g_aload_n dX11_layTurn_29 rfl rfl ?_
    refine g_getf dX11_layTurn_30 fX11_13 mW_0 rfl ?_
    refine g_iconst (v := 4) dX11_layTurn_33 (by decide) ?_
    refine g_iload_n dX11_layTurn_34 rfl rfl ?_
    refine g_imul dX11_layTurn_35 ?_
    refine g_iconst (v := 1) dX11_layTurn_36 (by decide) ?_
    refine g_iadd dX11_layTurn_37 ?_
    rw [jx41]
    refine g_iald dX11_layTurn_38 mA2 (vin_n (by omega) (by decide)) ?_
    rw [nI_clamp (by omega), hc1 (by grind)]
    refine g_goto (tgt := 43) dX11_layTurn_39 rfl ?_
    refine g_istore_n dX11_layTurn_43 rfl (Nat.le_of_ble_eq_true rfl) rfl ?_
    refine g_aload_n dX11_layTurn_44 rfl rfl ?_
    refine g_getf dX11_layTurn_45 fX11_32 mW_0 rfl ?_
    refine g_iload_n dX11_layTurn_48 rfl rfl ?_
    refine g_aload_n dX11_layTurn_49 rfl rfl ?_
    refine g_getf dX11_layTurn_50 fX11_32 mW_0 rfl ?_
    refine g_iload_n dX11_layTurn_53 rfl rfl ?_
    refine g_iald dX11_layTurn_54 mA8 (vin_n (by omega) (by decide)) ?_
    rw [nI_clamp (by omega), hla]
    refine g_aload_n dX11_layTurn_55 rfl rfl ?_
    refine g_getf dX11_layTurn_56 fX11_32 mW_0 rfl ?_
    refine g_iload_n dX11_layTurn_59 rfl rfl ?_
    refine g_iald dX11_layTurn_60 mA8 (vin_n (by omega) (by decide)) ?_
    rw [nI_clamp (by omega), hlc]
    refine g_icmp_le (tgt := 73) dX11_layTurn_61 rfl (fun c_61 => ?_) (fun c_61 => ?_)
    · refine g_aload_n dX11_layTurn_73 rfl rfl ?_
      refine g_getf dX11_layTurn_74 fX11_32 mW_0 rfl ?_
      refine g_iload_n dX11_layTurn_77 rfl rfl ?_
      refine g_iald dX11_layTurn_78 mA8 (vin_n (by omega) (by decide)) ?_
      rw [nI_clamp (by omega), hlc]
      refine g_topi (fun y hy => ?_)
      obtain rfl : y = nI (mxN lda ldc) := by rw [hy, mxN, if_neg (fun z => absurd c_61 (nI_ge z (by omega)))]
      refine g_iast dX11_layTurn_79 mA8 (vin_n (by omega) (by decide)) (mW_arrN (k' := q) (fun _ => rfl) (nI_clamp (by omega))) ?_
      refine g_aload_n dX11_layTurn_80 rfl rfl ?_
      refine g_getf dX11_layTurn_81 fX11_35 mW_0 rfl ?_
      refine g_iload_n dX11_layTurn_84 rfl rfl ?_
      refine g_aload_n dX11_layTurn_85 rfl rfl ?_
      refine g_getf dX11_layTurn_86 fX11_35 mW_0 rfl ?_
      refine g_iload_n dX11_layTurn_89 rfl rfl ?_
      refine g_iald dX11_layTurn_90 mA9 (vin_n (by omega) (by decide)) ?_
      refine Go.eq rfl rfl (show _ = [Value.int (nI tna), Value.int (nI q), Value.ref 9] by rw [nI_clamp (by omega)]; exact congrArg (fun z => [Value.int z, Value.int (nI q), Value.ref 9]) (show (put σ 8 q (nI (mxN lda ldc))) 9 a = nI tna from hta)) rfl ?_
      refine g_aload_n dX11_layTurn_91 rfl rfl ?_
      refine g_getf dX11_layTurn_92 fX11_35 mW_0 rfl ?_
      refine g_iload_n dX11_layTurn_95 rfl rfl ?_
      refine g_iald dX11_layTurn_96 mA9 (vin_n (by omega) (by decide)) ?_
      refine Go.eq rfl rfl (show _ = [Value.int (nI tna), Value.int (nI tna), Value.int (nI q), Value.ref 9] by rw [nI_clamp (by omega)]; exact congrArg (fun z => [Value.int z, Value.int (nI tna), Value.int (nI q), Value.ref 9]) (show (put σ 8 q (nI (mxN lda ldc))) 9 a = nI tna from hta)) rfl ?_
      refine g_aload_n dX11_layTurn_97 rfl rfl ?_
      refine g_getf dX11_layTurn_98 fX11_35 mW_0 rfl ?_
      refine g_iload_n dX11_layTurn_101 rfl rfl ?_
      refine g_iald dX11_layTurn_102 mA9 (vin_n (by omega) (by decide)) ?_
      refine Go.eq rfl rfl (show _ = [Value.int (nI tnc), Value.int (nI tna), Value.int (nI tna), Value.int (nI q), Value.ref 9] by rw [nI_clamp (by omega)]; exact congrArg (fun z => [Value.int z, Value.int (nI tna), Value.int (nI tna), Value.int (nI q), Value.ref 9]) (show (put σ 8 q (nI (mxN lda ldc))) 9 c = nI tnc from htc)) rfl ?_
      refine g_S2r (CX11_common (by omega) (by omega)) kX11_layTurn_166 dX11_layTurn_103 ⟨rfl, rfl⟩ (Nat.le_of_ble_eq_true rfl) ⟨(Nat.le_of_ble_eq_true rfl), (Nat.le_of_ble_eq_true rfl)⟩ ?_
      refine g_idiv dX11_layTurn_106 (fun z => by have := (nI0 (by omega)).mp z; omega) ?_
      rw [nI_div (by omega) (by omega)]
      refine g_aload_n dX11_layTurn_107 rfl rfl ?_
      refine g_getf dX11_layTurn_108 fX11_35 mW_0 rfl ?_
      refine g_iload_n dX11_layTurn_111 rfl rfl ?_
      refine g_iald dX11_layTurn_112 mA9 (vin_n (by omega) (by decide)) ?_
      refine Go.eq rfl rfl (show _ = [Value.int (nI tnc), Value.int (nI (tna / Nat.gcd tna tnc)), Value.int (nI q), Value.ref 9] by rw [nI_clamp (by omega)]; exact congrArg (fun z => [Value.int z, Value.int (nI (tna / Nat.gcd tna tnc)), Value.int (nI q), Value.ref 9]) (show (put σ 8 q (nI (mxN lda ldc))) 9 c = nI tnc from htc)) rfl ?_
      refine g_imul dX11_layTurn_113 ?_
      rw [nI_mul, show tna / Nat.gcd tna tnc * tnc = tnS tna tnc from rfl]
      refine g_iast dX11_layTurn_114 mA9 (vin_n (by omega) (by decide)) (mW_arrN (k' := q) (fun _ => rfl) (nI_clamp (by omega))) ?_
      refine g_aload_n dX11_layTurn_115 rfl rfl ?_
      refine g_getf dX11_layTurn_116 fX11_7 mW_0 rfl ?_
      refine g_iload_n dX11_layTurn_119 rfl rfl ?_
      refine g_iald dX11_layTurn_120 mA1 (vin_n (by omega) (by decide)) ?_
      refine Go.eq rfl rfl (show _ = [Value.int (σ 1 q)] by rw [nI_clamp (by omega)]; rfl) rfl ?_
      refine g_iconst (v := 3) dX11_layTurn_121 (by decide) ?_
      refine g_icmp_ne (tgt := 217) dX11_layTurn_122 rfl (fun c_122 => ?_) (fun c_122 => by exact absurd c_122 h3)
      exact g_vret dX11_layTurn_217 rfl rfl ⟨rfl, rfl⟩
    · refine g_aload_n dX11_layTurn_64 rfl rfl ?_
      refine g_getf dX11_layTurn_65 fX11_32 mW_0 rfl ?_
      refine g_iload_n dX11_layTurn_68 rfl rfl ?_
      refine g_iald dX11_layTurn_69 mA8 (vin_n (by omega) (by decide)) ?_
      rw [nI_clamp (by omega), hla]
      refine g_topi (fun y hy => ?_)
      obtain rfl : y = nI (mxN lda ldc) := by rw [hy, mxN, if_pos (Nat.lt_of_not_le (fun z => c_61 (nI_le z (by omega))))]
      refine g_goto (tgt := 79) dX11_layTurn_70 rfl ?_
      refine g_iast dX11_layTurn_79 mA8 (vin_n (by omega) (by decide)) (mW_arrN (k' := q) (fun _ => rfl) (nI_clamp (by omega))) ?_
      refine g_aload_n dX11_layTurn_80 rfl rfl ?_
      refine g_getf dX11_layTurn_81 fX11_35 mW_0 rfl ?_
      refine g_iload_n dX11_layTurn_84 rfl rfl ?_
      refine g_aload_n dX11_layTurn_85 rfl rfl ?_
      refine g_getf dX11_layTurn_86 fX11_35 mW_0 rfl ?_
      refine g_iload_n dX11_layTurn_89 rfl rfl ?_
      refine g_iald dX11_layTurn_90 mA9 (vin_n (by omega) (by decide)) ?_
      refine Go.eq rfl rfl (show _ = [Value.int (nI tna), Value.int (nI q), Value.ref 9] by rw [nI_clamp (by omega)]; exact congrArg (fun z => [Value.int z, Value.int (nI q), Value.ref 9]) (show (put σ 8 q (nI (mxN lda ldc))) 9 a = nI tna from hta)) rfl ?_
      refine g_aload_n dX11_layTurn_91 rfl rfl ?_
      refine g_getf dX11_layTurn_92 fX11_35 mW_0 rfl ?_
      refine g_iload_n dX11_layTurn_95 rfl rfl ?_
      refine g_iald dX11_layTurn_96 mA9 (vin_n (by omega) (by decide)) ?_
      refine Go.eq rfl rfl (show _ = [Value.int (nI tna), Value.int (nI tna), Value.int (nI q), Value.ref 9] by rw [nI_clamp (by omega)]; exact congrArg (fun z => [Value.int z, Value.int (nI tna), Value.int (nI q), Value.ref 9]) (show (put σ 8 q (nI (mxN lda ldc))) 9 a = nI tna from hta)) rfl ?_
      refine g_aload_n dX11_layTurn_97 rfl rfl ?_
      refine g_getf dX11_layTurn_98 fX11_35 mW_0 rfl ?_
      refine g_iload_n dX11_layTurn_101 rfl rfl ?_
      refine g_iald dX11_layTurn_102 mA9 (vin_n (by omega) (by decide)) ?_
      refine Go.eq rfl rfl (show _ = [Value.int (nI tnc), Value.int (nI tna), Value.int (nI tna), Value.int (nI q), Value.ref 9] by rw [nI_clamp (by omega)]; exact congrArg (fun z => [Value.int z, Value.int (nI tna), Value.int (nI tna), Value.int (nI q), Value.ref 9]) (show (put σ 8 q (nI (mxN lda ldc))) 9 c = nI tnc from htc)) rfl ?_
      refine g_S2r (CX11_common (by omega) (by omega)) kX11_layTurn_166 dX11_layTurn_103 ⟨rfl, rfl⟩ (Nat.le_of_ble_eq_true rfl) ⟨(Nat.le_of_ble_eq_true rfl), (Nat.le_of_ble_eq_true rfl)⟩ ?_
      refine g_idiv dX11_layTurn_106 (fun z => by have := (nI0 (by omega)).mp z; omega) ?_
      rw [nI_div (by omega) (by omega)]
      refine g_aload_n dX11_layTurn_107 rfl rfl ?_
      refine g_getf dX11_layTurn_108 fX11_35 mW_0 rfl ?_
      refine g_iload_n dX11_layTurn_111 rfl rfl ?_
      refine g_iald dX11_layTurn_112 mA9 (vin_n (by omega) (by decide)) ?_
      refine Go.eq rfl rfl (show _ = [Value.int (nI tnc), Value.int (nI (tna / Nat.gcd tna tnc)), Value.int (nI q), Value.ref 9] by rw [nI_clamp (by omega)]; exact congrArg (fun z => [Value.int z, Value.int (nI (tna / Nat.gcd tna tnc)), Value.int (nI q), Value.ref 9]) (show (put σ 8 q (nI (mxN lda ldc))) 9 c = nI tnc from htc)) rfl ?_
      refine g_imul dX11_layTurn_113 ?_
      rw [nI_mul, show tna / Nat.gcd tna tnc * tnc = tnS tna tnc from rfl]
      refine g_iast dX11_layTurn_114 mA9 (vin_n (by omega) (by decide)) (mW_arrN (k' := q) (fun _ => rfl) (nI_clamp (by omega))) ?_
      refine g_aload_n dX11_layTurn_115 rfl rfl ?_
      refine g_getf dX11_layTurn_116 fX11_7 mW_0 rfl ?_
      refine g_iload_n dX11_layTurn_119 rfl rfl ?_
      refine g_iald dX11_layTurn_120 mA1 (vin_n (by omega) (by decide)) ?_
      refine Go.eq rfl rfl (show _ = [Value.int (σ 1 q)] by rw [nI_clamp (by omega)]; rfl) rfl ?_
      refine g_iconst (v := 3) dX11_layTurn_121 (by decide) ?_
      refine g_icmp_ne (tgt := 217) dX11_layTurn_122 rfl (fun c_122 => ?_) (fun c_122 => by exact absurd c_122 h3)
      exact g_vret dX11_layTurn_217 rfl rfl ⟨rfl, rfl⟩
  · refine g_aload_n dX11_layTurn_19 rfl rfl ?_
    refine g_getf dX11_layTurn_20 fX11_7 mW_0 rfl ?_
    refine g_iload_n dX11_layTurn_23 rfl rfl ?_
    refine g_iald dX11_layTurn_24 mA1 (vin_n (by omega) (by decide)) ?_
    rw [nI_clamp (by omega)]
    refine g_iconst (v := 2) dX11_layTurn_25 (by decide) ?_
    refine g_icmp_ne (tgt := 42) dX11_layTurn_26 rfl (fun c_26 => ?_) (fun c_26 => ?_)
    · refine g_iload_n dX11_layTurn_42 rfl rfl ?_
      refine g_topi (fun y hy => ?_)
      obtain rfl : y = nI c := by rw [hy, hc2 (by grind)]
      refine g_istore_n dX11_layTurn_43 rfl (Nat.le_of_ble_eq_true rfl) rfl ?_
      refine g_aload_n dX11_layTurn_44 rfl rfl ?_
      refine g_getf dX11_layTurn_45 fX11_32 mW_0 rfl ?_
      refine g_iload_n dX11_layTurn_48 rfl rfl ?_
      refine g_aload_n dX11_layTurn_49 rfl rfl ?_
      refine g_getf dX11_layTurn_50 fX11_32 mW_0 rfl ?_
      refine g_iload_n dX11_layTurn_53 rfl rfl ?_
      refine g_iald dX11_layTurn_54 mA8 (vin_n (by omega) (by decide)) ?_
      rw [nI_clamp (by omega), hla]
      refine g_aload_n dX11_layTurn_55 rfl rfl ?_
      refine g_getf dX11_layTurn_56 fX11_32 mW_0 rfl ?_
      refine g_iload_n dX11_layTurn_59 rfl rfl ?_
      refine g_iald dX11_layTurn_60 mA8 (vin_n (by omega) (by decide)) ?_
      rw [nI_clamp (by omega), hlc]
      refine g_icmp_le (tgt := 73) dX11_layTurn_61 rfl (fun c_61 => ?_) (fun c_61 => ?_)
      · refine g_aload_n dX11_layTurn_73 rfl rfl ?_
        refine g_getf dX11_layTurn_74 fX11_32 mW_0 rfl ?_
        refine g_iload_n dX11_layTurn_77 rfl rfl ?_
        refine g_iald dX11_layTurn_78 mA8 (vin_n (by omega) (by decide)) ?_
        rw [nI_clamp (by omega), hlc]
        refine g_topi (fun y hy => ?_)
        obtain rfl : y = nI (mxN lda ldc) := by rw [hy, mxN, if_neg (fun z => absurd c_61 (nI_ge z (by omega)))]
        refine g_iast dX11_layTurn_79 mA8 (vin_n (by omega) (by decide)) (mW_arrN (k' := q) (fun _ => rfl) (nI_clamp (by omega))) ?_
        refine g_aload_n dX11_layTurn_80 rfl rfl ?_
        refine g_getf dX11_layTurn_81 fX11_35 mW_0 rfl ?_
        refine g_iload_n dX11_layTurn_84 rfl rfl ?_
        refine g_aload_n dX11_layTurn_85 rfl rfl ?_
        refine g_getf dX11_layTurn_86 fX11_35 mW_0 rfl ?_
        refine g_iload_n dX11_layTurn_89 rfl rfl ?_
        refine g_iald dX11_layTurn_90 mA9 (vin_n (by omega) (by decide)) ?_
        refine Go.eq rfl rfl (show _ = [Value.int (nI tna), Value.int (nI q), Value.ref 9] by rw [nI_clamp (by omega)]; exact congrArg (fun z => [Value.int z, Value.int (nI q), Value.ref 9]) (show (put σ 8 q (nI (mxN lda ldc))) 9 a = nI tna from hta)) rfl ?_
        refine g_aload_n dX11_layTurn_91 rfl rfl ?_
        refine g_getf dX11_layTurn_92 fX11_35 mW_0 rfl ?_
        refine g_iload_n dX11_layTurn_95 rfl rfl ?_
        refine g_iald dX11_layTurn_96 mA9 (vin_n (by omega) (by decide)) ?_
        refine Go.eq rfl rfl (show _ = [Value.int (nI tna), Value.int (nI tna), Value.int (nI q), Value.ref 9] by rw [nI_clamp (by omega)]; exact congrArg (fun z => [Value.int z, Value.int (nI tna), Value.int (nI q), Value.ref 9]) (show (put σ 8 q (nI (mxN lda ldc))) 9 a = nI tna from hta)) rfl ?_
        refine g_aload_n dX11_layTurn_97 rfl rfl ?_
        refine g_getf dX11_layTurn_98 fX11_35 mW_0 rfl ?_
        refine g_iload_n dX11_layTurn_101 rfl rfl ?_
        refine g_iald dX11_layTurn_102 mA9 (vin_n (by omega) (by decide)) ?_
        refine Go.eq rfl rfl (show _ = [Value.int (nI tnc), Value.int (nI tna), Value.int (nI tna), Value.int (nI q), Value.ref 9] by rw [nI_clamp (by omega)]; exact congrArg (fun z => [Value.int z, Value.int (nI tna), Value.int (nI tna), Value.int (nI q), Value.ref 9]) (show (put σ 8 q (nI (mxN lda ldc))) 9 c = nI tnc from htc)) rfl ?_
        refine g_S2r (CX11_common (by omega) (by omega)) kX11_layTurn_166 dX11_layTurn_103 ⟨rfl, rfl⟩ (Nat.le_of_ble_eq_true rfl) ⟨(Nat.le_of_ble_eq_true rfl), (Nat.le_of_ble_eq_true rfl)⟩ ?_
        refine g_idiv dX11_layTurn_106 (fun z => by have := (nI0 (by omega)).mp z; omega) ?_
        rw [nI_div (by omega) (by omega)]
        refine g_aload_n dX11_layTurn_107 rfl rfl ?_
        refine g_getf dX11_layTurn_108 fX11_35 mW_0 rfl ?_
        refine g_iload_n dX11_layTurn_111 rfl rfl ?_
        refine g_iald dX11_layTurn_112 mA9 (vin_n (by omega) (by decide)) ?_
        refine Go.eq rfl rfl (show _ = [Value.int (nI tnc), Value.int (nI (tna / Nat.gcd tna tnc)), Value.int (nI q), Value.ref 9] by rw [nI_clamp (by omega)]; exact congrArg (fun z => [Value.int z, Value.int (nI (tna / Nat.gcd tna tnc)), Value.int (nI q), Value.ref 9]) (show (put σ 8 q (nI (mxN lda ldc))) 9 c = nI tnc from htc)) rfl ?_
        refine g_imul dX11_layTurn_113 ?_
        rw [nI_mul, show tna / Nat.gcd tna tnc * tnc = tnS tna tnc from rfl]
        refine g_iast dX11_layTurn_114 mA9 (vin_n (by omega) (by decide)) (mW_arrN (k' := q) (fun _ => rfl) (nI_clamp (by omega))) ?_
        refine g_aload_n dX11_layTurn_115 rfl rfl ?_
        refine g_getf dX11_layTurn_116 fX11_7 mW_0 rfl ?_
        refine g_iload_n dX11_layTurn_119 rfl rfl ?_
        refine g_iald dX11_layTurn_120 mA1 (vin_n (by omega) (by decide)) ?_
        refine Go.eq rfl rfl (show _ = [Value.int (σ 1 q)] by rw [nI_clamp (by omega)]; rfl) rfl ?_
        refine g_iconst (v := 3) dX11_layTurn_121 (by decide) ?_
        refine g_icmp_ne (tgt := 217) dX11_layTurn_122 rfl (fun c_122 => ?_) (fun c_122 => by exact absurd c_122 h3)
        exact g_vret dX11_layTurn_217 rfl rfl ⟨rfl, rfl⟩
      · refine g_aload_n dX11_layTurn_64 rfl rfl ?_
        refine g_getf dX11_layTurn_65 fX11_32 mW_0 rfl ?_
        refine g_iload_n dX11_layTurn_68 rfl rfl ?_
        refine g_iald dX11_layTurn_69 mA8 (vin_n (by omega) (by decide)) ?_
        rw [nI_clamp (by omega), hla]
        refine g_topi (fun y hy => ?_)
        obtain rfl : y = nI (mxN lda ldc) := by rw [hy, mxN, if_pos (Nat.lt_of_not_le (fun z => c_61 (nI_le z (by omega))))]
        refine g_goto (tgt := 79) dX11_layTurn_70 rfl ?_
        refine g_iast dX11_layTurn_79 mA8 (vin_n (by omega) (by decide)) (mW_arrN (k' := q) (fun _ => rfl) (nI_clamp (by omega))) ?_
        refine g_aload_n dX11_layTurn_80 rfl rfl ?_
        refine g_getf dX11_layTurn_81 fX11_35 mW_0 rfl ?_
        refine g_iload_n dX11_layTurn_84 rfl rfl ?_
        refine g_aload_n dX11_layTurn_85 rfl rfl ?_
        refine g_getf dX11_layTurn_86 fX11_35 mW_0 rfl ?_
        refine g_iload_n dX11_layTurn_89 rfl rfl ?_
        refine g_iald dX11_layTurn_90 mA9 (vin_n (by omega) (by decide)) ?_
        refine Go.eq rfl rfl (show _ = [Value.int (nI tna), Value.int (nI q), Value.ref 9] by rw [nI_clamp (by omega)]; exact congrArg (fun z => [Value.int z, Value.int (nI q), Value.ref 9]) (show (put σ 8 q (nI (mxN lda ldc))) 9 a = nI tna from hta)) rfl ?_
        refine g_aload_n dX11_layTurn_91 rfl rfl ?_
        refine g_getf dX11_layTurn_92 fX11_35 mW_0 rfl ?_
        refine g_iload_n dX11_layTurn_95 rfl rfl ?_
        refine g_iald dX11_layTurn_96 mA9 (vin_n (by omega) (by decide)) ?_
        refine Go.eq rfl rfl (show _ = [Value.int (nI tna), Value.int (nI tna), Value.int (nI q), Value.ref 9] by rw [nI_clamp (by omega)]; exact congrArg (fun z => [Value.int z, Value.int (nI tna), Value.int (nI q), Value.ref 9]) (show (put σ 8 q (nI (mxN lda ldc))) 9 a = nI tna from hta)) rfl ?_
        refine g_aload_n dX11_layTurn_97 rfl rfl ?_
        refine g_getf dX11_layTurn_98 fX11_35 mW_0 rfl ?_
        refine g_iload_n dX11_layTurn_101 rfl rfl ?_
        refine g_iald dX11_layTurn_102 mA9 (vin_n (by omega) (by decide)) ?_
        refine Go.eq rfl rfl (show _ = [Value.int (nI tnc), Value.int (nI tna), Value.int (nI tna), Value.int (nI q), Value.ref 9] by rw [nI_clamp (by omega)]; exact congrArg (fun z => [Value.int z, Value.int (nI tna), Value.int (nI tna), Value.int (nI q), Value.ref 9]) (show (put σ 8 q (nI (mxN lda ldc))) 9 c = nI tnc from htc)) rfl ?_
        refine g_S2r (CX11_common (by omega) (by omega)) kX11_layTurn_166 dX11_layTurn_103 ⟨rfl, rfl⟩ (Nat.le_of_ble_eq_true rfl) ⟨(Nat.le_of_ble_eq_true rfl), (Nat.le_of_ble_eq_true rfl)⟩ ?_
        refine g_idiv dX11_layTurn_106 (fun z => by have := (nI0 (by omega)).mp z; omega) ?_
        rw [nI_div (by omega) (by omega)]
        refine g_aload_n dX11_layTurn_107 rfl rfl ?_
        refine g_getf dX11_layTurn_108 fX11_35 mW_0 rfl ?_
        refine g_iload_n dX11_layTurn_111 rfl rfl ?_
        refine g_iald dX11_layTurn_112 mA9 (vin_n (by omega) (by decide)) ?_
        refine Go.eq rfl rfl (show _ = [Value.int (nI tnc), Value.int (nI (tna / Nat.gcd tna tnc)), Value.int (nI q), Value.ref 9] by rw [nI_clamp (by omega)]; exact congrArg (fun z => [Value.int z, Value.int (nI (tna / Nat.gcd tna tnc)), Value.int (nI q), Value.ref 9]) (show (put σ 8 q (nI (mxN lda ldc))) 9 c = nI tnc from htc)) rfl ?_
        refine g_imul dX11_layTurn_113 ?_
        rw [nI_mul, show tna / Nat.gcd tna tnc * tnc = tnS tna tnc from rfl]
        refine g_iast dX11_layTurn_114 mA9 (vin_n (by omega) (by decide)) (mW_arrN (k' := q) (fun _ => rfl) (nI_clamp (by omega))) ?_
        refine g_aload_n dX11_layTurn_115 rfl rfl ?_
        refine g_getf dX11_layTurn_116 fX11_7 mW_0 rfl ?_
        refine g_iload_n dX11_layTurn_119 rfl rfl ?_
        refine g_iald dX11_layTurn_120 mA1 (vin_n (by omega) (by decide)) ?_
        refine Go.eq rfl rfl (show _ = [Value.int (σ 1 q)] by rw [nI_clamp (by omega)]; rfl) rfl ?_
        refine g_iconst (v := 3) dX11_layTurn_121 (by decide) ?_
        refine g_icmp_ne (tgt := 217) dX11_layTurn_122 rfl (fun c_122 => ?_) (fun c_122 => by exact absurd c_122 h3)
        exact g_vret dX11_layTurn_217 rfl rfl ⟨rfl, rfl⟩
    · refine g_aload_n dX11_layTurn_29 rfl rfl ?_
      refine g_getf dX11_layTurn_30 fX11_13 mW_0 rfl ?_
      refine g_iconst (v := 4) dX11_layTurn_33 (by decide) ?_
      refine g_iload_n dX11_layTurn_34 rfl rfl ?_
      refine g_imul dX11_layTurn_35 ?_
      refine g_iconst (v := 1) dX11_layTurn_36 (by decide) ?_
      refine g_iadd dX11_layTurn_37 ?_
      rw [jx41]
      refine g_iald dX11_layTurn_38 mA2 (vin_n (by omega) (by decide)) ?_
      rw [nI_clamp (by omega), hc1 (by grind)]
      refine g_goto (tgt := 43) dX11_layTurn_39 rfl ?_
      refine g_istore_n dX11_layTurn_43 rfl (Nat.le_of_ble_eq_true rfl) rfl ?_
      refine g_aload_n dX11_layTurn_44 rfl rfl ?_
      refine g_getf dX11_layTurn_45 fX11_32 mW_0 rfl ?_
      refine g_iload_n dX11_layTurn_48 rfl rfl ?_
      refine g_aload_n dX11_layTurn_49 rfl rfl ?_
      refine g_getf dX11_layTurn_50 fX11_32 mW_0 rfl ?_
      refine g_iload_n dX11_layTurn_53 rfl rfl ?_
      refine g_iald dX11_layTurn_54 mA8 (vin_n (by omega) (by decide)) ?_
      rw [nI_clamp (by omega), hla]
      refine g_aload_n dX11_layTurn_55 rfl rfl ?_
      refine g_getf dX11_layTurn_56 fX11_32 mW_0 rfl ?_
      refine g_iload_n dX11_layTurn_59 rfl rfl ?_
      refine g_iald dX11_layTurn_60 mA8 (vin_n (by omega) (by decide)) ?_
      rw [nI_clamp (by omega), hlc]
      refine g_icmp_le (tgt := 73) dX11_layTurn_61 rfl (fun c_61 => ?_) (fun c_61 => ?_)
      · refine g_aload_n dX11_layTurn_73 rfl rfl ?_
        refine g_getf dX11_layTurn_74 fX11_32 mW_0 rfl ?_
        refine g_iload_n dX11_layTurn_77 rfl rfl ?_
        refine g_iald dX11_layTurn_78 mA8 (vin_n (by omega) (by decide)) ?_
        rw [nI_clamp (by omega), hlc]
        refine g_topi (fun y hy => ?_)
        obtain rfl : y = nI (mxN lda ldc) := by rw [hy, mxN, if_neg (fun z => absurd c_61 (nI_ge z (by omega)))]
        refine g_iast dX11_layTurn_79 mA8 (vin_n (by omega) (by decide)) (mW_arrN (k' := q) (fun _ => rfl) (nI_clamp (by omega))) ?_
        refine g_aload_n dX11_layTurn_80 rfl rfl ?_
        refine g_getf dX11_layTurn_81 fX11_35 mW_0 rfl ?_
        refine g_iload_n dX11_layTurn_84 rfl rfl ?_
        refine g_aload_n dX11_layTurn_85 rfl rfl ?_
        refine g_getf dX11_layTurn_86 fX11_35 mW_0 rfl ?_
        refine g_iload_n dX11_layTurn_89 rfl rfl ?_
        refine g_iald dX11_layTurn_90 mA9 (vin_n (by omega) (by decide)) ?_
        refine Go.eq rfl rfl (show _ = [Value.int (nI tna), Value.int (nI q), Value.ref 9] by rw [nI_clamp (by omega)]; exact congrArg (fun z => [Value.int z, Value.int (nI q), Value.ref 9]) (show (put σ 8 q (nI (mxN lda ldc))) 9 a = nI tna from hta)) rfl ?_
        refine g_aload_n dX11_layTurn_91 rfl rfl ?_
        refine g_getf dX11_layTurn_92 fX11_35 mW_0 rfl ?_
        refine g_iload_n dX11_layTurn_95 rfl rfl ?_
        refine g_iald dX11_layTurn_96 mA9 (vin_n (by omega) (by decide)) ?_
        refine Go.eq rfl rfl (show _ = [Value.int (nI tna), Value.int (nI tna), Value.int (nI q), Value.ref 9] by rw [nI_clamp (by omega)]; exact congrArg (fun z => [Value.int z, Value.int (nI tna), Value.int (nI q), Value.ref 9]) (show (put σ 8 q (nI (mxN lda ldc))) 9 a = nI tna from hta)) rfl ?_
        refine g_aload_n dX11_layTurn_97 rfl rfl ?_
        refine g_getf dX11_layTurn_98 fX11_35 mW_0 rfl ?_
        refine g_iload_n dX11_layTurn_101 rfl rfl ?_
        refine g_iald dX11_layTurn_102 mA9 (vin_n (by omega) (by decide)) ?_
        refine Go.eq rfl rfl (show _ = [Value.int (nI tnc), Value.int (nI tna), Value.int (nI tna), Value.int (nI q), Value.ref 9] by rw [nI_clamp (by omega)]; exact congrArg (fun z => [Value.int z, Value.int (nI tna), Value.int (nI tna), Value.int (nI q), Value.ref 9]) (show (put σ 8 q (nI (mxN lda ldc))) 9 c = nI tnc from htc)) rfl ?_
        refine g_S2r (CX11_common (by omega) (by omega)) kX11_layTurn_166 dX11_layTurn_103 ⟨rfl, rfl⟩ (Nat.le_of_ble_eq_true rfl) ⟨(Nat.le_of_ble_eq_true rfl), (Nat.le_of_ble_eq_true rfl)⟩ ?_
        refine g_idiv dX11_layTurn_106 (fun z => by have := (nI0 (by omega)).mp z; omega) ?_
        rw [nI_div (by omega) (by omega)]
        refine g_aload_n dX11_layTurn_107 rfl rfl ?_
        refine g_getf dX11_layTurn_108 fX11_35 mW_0 rfl ?_
        refine g_iload_n dX11_layTurn_111 rfl rfl ?_
        refine g_iald dX11_layTurn_112 mA9 (vin_n (by omega) (by decide)) ?_
        refine Go.eq rfl rfl (show _ = [Value.int (nI tnc), Value.int (nI (tna / Nat.gcd tna tnc)), Value.int (nI q), Value.ref 9] by rw [nI_clamp (by omega)]; exact congrArg (fun z => [Value.int z, Value.int (nI (tna / Nat.gcd tna tnc)), Value.int (nI q), Value.ref 9]) (show (put σ 8 q (nI (mxN lda ldc))) 9 c = nI tnc from htc)) rfl ?_
        refine g_imul dX11_layTurn_113 ?_
        rw [nI_mul, show tna / Nat.gcd tna tnc * tnc = tnS tna tnc from rfl]
        refine g_iast dX11_layTurn_114 mA9 (vin_n (by omega) (by decide)) (mW_arrN (k' := q) (fun _ => rfl) (nI_clamp (by omega))) ?_
        refine g_aload_n dX11_layTurn_115 rfl rfl ?_
        refine g_getf dX11_layTurn_116 fX11_7 mW_0 rfl ?_
        refine g_iload_n dX11_layTurn_119 rfl rfl ?_
        refine g_iald dX11_layTurn_120 mA1 (vin_n (by omega) (by decide)) ?_
        refine Go.eq rfl rfl (show _ = [Value.int (σ 1 q)] by rw [nI_clamp (by omega)]; rfl) rfl ?_
        refine g_iconst (v := 3) dX11_layTurn_121 (by decide) ?_
        refine g_icmp_ne (tgt := 217) dX11_layTurn_122 rfl (fun c_122 => ?_) (fun c_122 => by exact absurd c_122 h3)
        exact g_vret dX11_layTurn_217 rfl rfl ⟨rfl, rfl⟩
      · refine g_aload_n dX11_layTurn_64 rfl rfl ?_
        refine g_getf dX11_layTurn_65 fX11_32 mW_0 rfl ?_
        refine g_iload_n dX11_layTurn_68 rfl rfl ?_
        refine g_iald dX11_layTurn_69 mA8 (vin_n (by omega) (by decide)) ?_
        rw [nI_clamp (by omega), hla]
        refine g_topi (fun y hy => ?_)
        obtain rfl : y = nI (mxN lda ldc) := by rw [hy, mxN, if_pos (Nat.lt_of_not_le (fun z => c_61 (nI_le z (by omega))))]
        refine g_goto (tgt := 79) dX11_layTurn_70 rfl ?_
        refine g_iast dX11_layTurn_79 mA8 (vin_n (by omega) (by decide)) (mW_arrN (k' := q) (fun _ => rfl) (nI_clamp (by omega))) ?_
        refine g_aload_n dX11_layTurn_80 rfl rfl ?_
        refine g_getf dX11_layTurn_81 fX11_35 mW_0 rfl ?_
        refine g_iload_n dX11_layTurn_84 rfl rfl ?_
        refine g_aload_n dX11_layTurn_85 rfl rfl ?_
        refine g_getf dX11_layTurn_86 fX11_35 mW_0 rfl ?_
        refine g_iload_n dX11_layTurn_89 rfl rfl ?_
        refine g_iald dX11_layTurn_90 mA9 (vin_n (by omega) (by decide)) ?_
        refine Go.eq rfl rfl (show _ = [Value.int (nI tna), Value.int (nI q), Value.ref 9] by rw [nI_clamp (by omega)]; exact congrArg (fun z => [Value.int z, Value.int (nI q), Value.ref 9]) (show (put σ 8 q (nI (mxN lda ldc))) 9 a = nI tna from hta)) rfl ?_
        refine g_aload_n dX11_layTurn_91 rfl rfl ?_
        refine g_getf dX11_layTurn_92 fX11_35 mW_0 rfl ?_
        refine g_iload_n dX11_layTurn_95 rfl rfl ?_
        refine g_iald dX11_layTurn_96 mA9 (vin_n (by omega) (by decide)) ?_
        refine Go.eq rfl rfl (show _ = [Value.int (nI tna), Value.int (nI tna), Value.int (nI q), Value.ref 9] by rw [nI_clamp (by omega)]; exact congrArg (fun z => [Value.int z, Value.int (nI tna), Value.int (nI q), Value.ref 9]) (show (put σ 8 q (nI (mxN lda ldc))) 9 a = nI tna from hta)) rfl ?_
        refine g_aload_n dX11_layTurn_97 rfl rfl ?_
        refine g_getf dX11_layTurn_98 fX11_35 mW_0 rfl ?_
        refine g_iload_n dX11_layTurn_101 rfl rfl ?_
        refine g_iald dX11_layTurn_102 mA9 (vin_n (by omega) (by decide)) ?_
        refine Go.eq rfl rfl (show _ = [Value.int (nI tnc), Value.int (nI tna), Value.int (nI tna), Value.int (nI q), Value.ref 9] by rw [nI_clamp (by omega)]; exact congrArg (fun z => [Value.int z, Value.int (nI tna), Value.int (nI tna), Value.int (nI q), Value.ref 9]) (show (put σ 8 q (nI (mxN lda ldc))) 9 c = nI tnc from htc)) rfl ?_
        refine g_S2r (CX11_common (by omega) (by omega)) kX11_layTurn_166 dX11_layTurn_103 ⟨rfl, rfl⟩ (Nat.le_of_ble_eq_true rfl) ⟨(Nat.le_of_ble_eq_true rfl), (Nat.le_of_ble_eq_true rfl)⟩ ?_
        refine g_idiv dX11_layTurn_106 (fun z => by have := (nI0 (by omega)).mp z; omega) ?_
        rw [nI_div (by omega) (by omega)]
        refine g_aload_n dX11_layTurn_107 rfl rfl ?_
        refine g_getf dX11_layTurn_108 fX11_35 mW_0 rfl ?_
        refine g_iload_n dX11_layTurn_111 rfl rfl ?_
        refine g_iald dX11_layTurn_112 mA9 (vin_n (by omega) (by decide)) ?_
        refine Go.eq rfl rfl (show _ = [Value.int (nI tnc), Value.int (nI (tna / Nat.gcd tna tnc)), Value.int (nI q), Value.ref 9] by rw [nI_clamp (by omega)]; exact congrArg (fun z => [Value.int z, Value.int (nI (tna / Nat.gcd tna tnc)), Value.int (nI q), Value.ref 9]) (show (put σ 8 q (nI (mxN lda ldc))) 9 c = nI tnc from htc)) rfl ?_
        refine g_imul dX11_layTurn_113 ?_
        rw [nI_mul, show tna / Nat.gcd tna tnc * tnc = tnS tna tnc from rfl]
        refine g_iast dX11_layTurn_114 mA9 (vin_n (by omega) (by decide)) (mW_arrN (k' := q) (fun _ => rfl) (nI_clamp (by omega))) ?_
        refine g_aload_n dX11_layTurn_115 rfl rfl ?_
        refine g_getf dX11_layTurn_116 fX11_7 mW_0 rfl ?_
        refine g_iload_n dX11_layTurn_119 rfl rfl ?_
        refine g_iald dX11_layTurn_120 mA1 (vin_n (by omega) (by decide)) ?_
        refine Go.eq rfl rfl (show _ = [Value.int (σ 1 q)] by rw [nI_clamp (by omega)]; rfl) rfl ?_
        refine g_iconst (v := 3) dX11_layTurn_121 (by decide) ?_
        refine g_icmp_ne (tgt := 217) dX11_layTurn_122 rfl (fun c_122 => ?_) (fun c_122 => by exact absurd c_122 h3)
        exact g_vret dX11_layTurn_217 rfl rfl ⟨rfl, rfl⟩
theorem sub_le {a b : Nat} (h : a ≤ b) (ha : a < 2 ^ 30) (hb : b < 2 ^ 30) : nI a - nI b ≤ 0 := by
  have h1 := nI_le h (by omega)
  have h2 := nI_pos' (n := a) (by omega)
  grind
set_option maxRecDepth 100000 in
set_option maxHeartbeats 4000000 in
theorem CX11_layTurnE (hq : q ≤ 8) (ea : σ 2 (4 * q) = nI a) (haq : a ≠ q) (HA : mRq σ a lda tna) (HC : mRq σ c ldc tnc) (hc1 : σ 1 q = 1 ∨ σ 1 q = 2 → σ 2 (4 * q + 1) = nI c) (hc2 : ¬ (σ 1 q = 1 ∨ σ 1 q = 2) → c = a) (h3 : σ 1 q = 3) (en : σ 2 (4 * q + 1) = nI nn) (hn : 1 ≤ nn ∧ nn ≤ 5) (es : σ 2 (4 * q + 2) = nI ss) (hs : ss ≤ 9) : Ct l mX11_layTurn [.ref 0, .int (nI q)] (mW σ t) (q_eq none (mW (put (put σ 8 q (nI (ldE lda nn ss))) 9 q (nI (tna / Nat.gcd tna nn))) t)) := by
  obtain ⟨ha8, hla, hta, ha1, ha6, ha3⟩ := HA
  obtain ⟨hc8, hlc, htc, hcc1, hc6, hc3⟩ := HC
  have hg1 : 0 < Nat.gcd tna tnc := Nat.gcd_pos_of_pos_left _ ha1
  have hg2 : Nat.gcd tna tnc ≤ tna := Nat.gcd_le_left _ ha1
  have hg3 : 0 < Nat.gcd tna nn := Nat.gcd_pos_of_pos_left _ ha1
  have hg4 : Nat.gcd tna nn ≤ tna := Nat.gcd_le_left _ ha1
  refine Ct.of rfl (Nat.le_of_ble_eq_true rfl) ?_
  rcases Nat.lt_or_ge ss lda with h | h
  · refine g_aload_n dX11_layTurn_0 rfl rfl ?_
    refine g_getf dX11_layTurn_1 fX11_13 mW_0 rfl ?_
    refine g_iconst (v := 4) dX11_layTurn_4 (by decide) ?_
    refine g_iload_n dX11_layTurn_5 rfl rfl ?_
    refine g_imul dX11_layTurn_6 ?_
    rw [jx4]
    refine g_iald dX11_layTurn_7 mA2 (vin_n (by omega) (by decide)) ?_
    rw [nI_clamp (by omega), ea]
    refine g_istore_n dX11_layTurn_8 rfl (Nat.le_of_ble_eq_true rfl) rfl ?_
    refine g_aload_n dX11_layTurn_9 rfl rfl ?_
    refine g_getf dX11_layTurn_10 fX11_7 mW_0 rfl ?_
    refine g_iload_n dX11_layTurn_13 rfl rfl ?_
    refine g_iald dX11_layTurn_14 mA1 (vin_n (by omega) (by decide)) ?_
    rw [nI_clamp (by omega)]
    refine g_iconst (v := 1) dX11_layTurn_15 (by decide) ?_
    refine g_icmp_eq (tgt := 29) dX11_layTurn_16 rfl (fun c_16 => by exact absurd (c_16.symm.trans h3) (by decide)) (fun c_16 => ?_)
    refine g_aload_n dX11_layTurn_19 rfl rfl ?_
    refine g_getf dX11_layTurn_20 fX11_7 mW_0 rfl ?_
    refine g_iload_n dX11_layTurn_23 rfl rfl ?_
    refine g_iald dX11_layTurn_24 mA1 (vin_n (by omega) (by decide)) ?_
    rw [nI_clamp (by omega)]
    refine g_iconst (v := 2) dX11_layTurn_25 (by decide) ?_
    refine g_icmp_ne (tgt := 42) dX11_layTurn_26 rfl (fun c_26 => ?_) (fun c_26 => by exact absurd (c_26.symm.trans h3) (by decide))
    refine g_iload_n dX11_layTurn_42 rfl rfl ?_
    refine g_topi (fun y hy => ?_)
    obtain rfl : y = nI c := by rw [hy, hc2 (by grind)]
    refine g_istore_n dX11_layTurn_43 rfl (Nat.le_of_ble_eq_true rfl) rfl ?_
    refine g_aload_n dX11_layTurn_44 rfl rfl ?_
    refine g_getf dX11_layTurn_45 fX11_32 mW_0 rfl ?_
    refine g_iload_n dX11_layTurn_48 rfl rfl ?_
    refine g_aload_n dX11_layTurn_49 rfl rfl ?_
    refine g_getf dX11_layTurn_50 fX11_32 mW_0 rfl ?_
    refine g_iload_n dX11_layTurn_53 rfl rfl ?_
    refine g_iald dX11_layTurn_54 mA8 (vin_n (by omega) (by decide)) ?_
    rw [nI_clamp (by omega), hla]
    refine g_aload_n dX11_layTurn_55 rfl rfl ?_
    refine g_getf dX11_layTurn_56 fX11_32 mW_0 rfl ?_
    refine g_iload_n dX11_layTurn_59 rfl rfl ?_
    refine g_iald dX11_layTurn_60 mA8 (vin_n (by omega) (by decide)) ?_
    rw [nI_clamp (by omega), hlc]
    refine g_icmp_le (tgt := 73) dX11_layTurn_61 rfl (fun c_61 => ?_) (fun c_61 => ?_)
    · refine g_aload_n dX11_layTurn_73 rfl rfl ?_
      refine g_getf dX11_layTurn_74 fX11_32 mW_0 rfl ?_
      refine g_iload_n dX11_layTurn_77 rfl rfl ?_
      refine g_iald dX11_layTurn_78 mA8 (vin_n (by omega) (by decide)) ?_
      rw [nI_clamp (by omega), hlc]
      refine g_topi (fun y hy => ?_)
      obtain rfl : y = nI (mxN lda ldc) := by rw [hy, mxN, if_neg (fun z => absurd c_61 (nI_ge z (by omega)))]
      refine g_iast dX11_layTurn_79 mA8 (vin_n (by omega) (by decide)) (mW_arrN (k' := q) (fun _ => rfl) (nI_clamp (by omega))) ?_
      refine g_aload_n dX11_layTurn_80 rfl rfl ?_
      refine g_getf dX11_layTurn_81 fX11_35 mW_0 rfl ?_
      refine g_iload_n dX11_layTurn_84 rfl rfl ?_
      refine g_aload_n dX11_layTurn_85 rfl rfl ?_
      refine g_getf dX11_layTurn_86 fX11_35 mW_0 rfl ?_
      refine g_iload_n dX11_layTurn_89 rfl rfl ?_
      refine g_iald dX11_layTurn_90 mA9 (vin_n (by omega) (by decide)) ?_
      refine Go.eq rfl rfl (show _ = [Value.int (nI tna), Value.int (nI q), Value.ref 9] by rw [nI_clamp (by omega)]; exact congrArg (fun z => [Value.int z, Value.int (nI q), Value.ref 9]) (show (put σ 8 q (nI (mxN lda ldc))) 9 a = nI tna from hta)) rfl ?_
      refine g_aload_n dX11_layTurn_91 rfl rfl ?_
      refine g_getf dX11_layTurn_92 fX11_35 mW_0 rfl ?_
      refine g_iload_n dX11_layTurn_95 rfl rfl ?_
      refine g_iald dX11_layTurn_96 mA9 (vin_n (by omega) (by decide)) ?_
      refine Go.eq rfl rfl (show _ = [Value.int (nI tna), Value.int (nI tna), Value.int (nI q), Value.ref 9] by rw [nI_clamp (by omega)]; exact congrArg (fun z => [Value.int z, Value.int (nI tna), Value.int (nI q), Value.ref 9]) (show (put σ 8 q (nI (mxN lda ldc))) 9 a = nI tna from hta)) rfl ?_
      refine g_aload_n dX11_layTurn_97 rfl rfl ?_
      refine g_getf dX11_layTurn_98 fX11_35 mW_0 rfl ?_
      refine g_iload_n dX11_layTurn_101 rfl rfl ?_
      refine g_iald dX11_layTurn_102 mA9 (vin_n (by omega) (by decide)) ?_
      refine Go.eq rfl rfl (show _ = [Value.int (nI tnc), Value.int (nI tna), Value.int (nI tna), Value.int (nI q), Value.ref 9] by rw [nI_clamp (by omega)]; exact congrArg (fun z => [Value.int z, Value.int (nI tna), Value.int (nI tna), Value.int (nI q), Value.ref 9]) (show (put σ 8 q (nI (mxN lda ldc))) 9 c = nI tnc from htc)) rfl ?_
      refine g_S2r (CX11_common (by omega) (by omega)) kX11_layTurn_166 dX11_layTurn_103 ⟨rfl, rfl⟩ (Nat.le_of_ble_eq_true rfl) ⟨(Nat.le_of_ble_eq_true rfl), (Nat.le_of_ble_eq_true rfl)⟩ ?_
      refine g_idiv dX11_layTurn_106 (fun z => by have := (nI0 (by omega)).mp z; omega) ?_
      rw [nI_div (by omega) (by omega)]
      refine g_aload_n dX11_layTurn_107 rfl rfl ?_
      refine g_getf dX11_layTurn_108 fX11_35 mW_0 rfl ?_
      refine g_iload_n dX11_layTurn_111 rfl rfl ?_
      refine g_iald dX11_layTurn_112 mA9 (vin_n (by omega) (by decide)) ?_
      refine Go.eq rfl rfl (show _ = [Value.int (nI tnc), Value.int (nI (tna / Nat.gcd tna tnc)), Value.int (nI q), Value.ref 9] by rw [nI_clamp (by omega)]; exact congrArg (fun z => [Value.int z, Value.int (nI (tna / Nat.gcd tna tnc)), Value.int (nI q), Value.ref 9]) (show (put σ 8 q (nI (mxN lda ldc))) 9 c = nI tnc from htc)) rfl ?_
      refine g_imul dX11_layTurn_113 ?_
      rw [nI_mul, show tna / Nat.gcd tna tnc * tnc = tnS tna tnc from rfl]
      refine g_iast dX11_layTurn_114 mA9 (vin_n (by omega) (by decide)) (mW_arrN (k' := q) (fun _ => rfl) (nI_clamp (by omega))) ?_
      refine g_aload_n dX11_layTurn_115 rfl rfl ?_
      refine g_getf dX11_layTurn_116 fX11_7 mW_0 rfl ?_
      refine g_iload_n dX11_layTurn_119 rfl rfl ?_
      refine g_iald dX11_layTurn_120 mA1 (vin_n (by omega) (by decide)) ?_
      refine Go.eq rfl rfl (show _ = [Value.int (σ 1 q)] by rw [nI_clamp (by omega)]; rfl) rfl ?_
      refine g_iconst (v := 3) dX11_layTurn_121 (by decide) ?_
      refine g_icmp_ne (tgt := 217) dX11_layTurn_122 rfl (fun c_122 => by exact absurd h3 c_122) (fun c_122 => ?_)
      refine g_aload_n dX11_layTurn_125 rfl rfl ?_
      refine g_getf dX11_layTurn_126 fX11_32 mW_0 rfl ?_
      refine g_iload_n dX11_layTurn_129 rfl rfl ?_
      refine g_iald dX11_layTurn_130 mA8 (vin_n (by omega) (by decide)) ?_
      refine Go.eq rfl rfl (show _ = [Value.int (nI lda)] by rw [nI_clamp (by omega)]; exact congrArg (fun z => [Value.int z]) ((put98 haq).1.trans hla)) rfl ?_
      refine g_aload_n dX11_layTurn_131 rfl rfl ?_
      refine g_getf dX11_layTurn_132 fX11_13 mW_0 rfl ?_
      refine g_iconst (v := 4) dX11_layTurn_135 (by decide) ?_
      refine g_iload_n dX11_layTurn_136 rfl rfl ?_
      refine g_imul dX11_layTurn_137 ?_
      refine g_iconst (v := 2) dX11_layTurn_138 (by decide) ?_
      refine g_iadd dX11_layTurn_139 ?_
      rw [jx42]
      refine g_iald dX11_layTurn_140 mA2 (vin_n (by omega) (by decide)) ?_
      refine Go.eq rfl rfl (show _ = [Value.int (nI ss), Value.int (nI lda)] by rw [nI_clamp (by omega)]; exact congrArg (fun z => [Value.int z, Value.int (nI lda)]) (show (put (put σ 8 q (nI (mxN lda ldc))) 9 q (nI (tnS tna tnc))) 2 (4 * q + 2) = nI ss from es)) rfl ?_
      refine g_isub dX11_layTurn_141 ?_
      rw [nI_sub (show ss ≤ lda by omega)]
      refine g_istore dX11_layTurn_142 (Nat.le_of_ble_eq_true rfl) rfl ?_
      refine g_aload_n dX11_layTurn_144 rfl rfl ?_
      refine g_getf dX11_layTurn_145 fX11_32 mW_0 rfl ?_
      refine g_iload_n dX11_layTurn_148 rfl rfl ?_
      refine g_iload dX11_layTurn_149 rfl ?_
      refine g_if_gt (tgt := 158) dX11_layTurn_151 rfl (fun c_151 => ?_) (fun c_151 => by exact absurd (nI_lt (a := 0) (show 0 < lda - ss by omega) (by omega)) c_151)
      refine g_iload dX11_layTurn_158 rfl ?_
      refine g_aload_n dX11_layTurn_160 rfl rfl ?_
      refine g_getf dX11_layTurn_161 fX11_13 mW_0 rfl ?_
      refine g_iconst (v := 4) dX11_layTurn_164 (by decide) ?_
      refine g_iload_n dX11_layTurn_165 rfl rfl ?_
      refine g_imul dX11_layTurn_166 ?_
      refine g_iconst (v := 1) dX11_layTurn_167 (by decide) ?_
      refine g_iadd dX11_layTurn_168 ?_
      rw [jx41]
      refine g_iald dX11_layTurn_169 mA2 (vin_n (by omega) (by decide)) ?_
      refine Go.eq rfl rfl (show _ = [Value.int (nI nn), Value.int (nI (lda - ss)), Value.int (nI q), Value.ref 8] by rw [nI_clamp (by omega)]; exact congrArg (fun z => [Value.int z, Value.int (nI (lda - ss)), Value.int (nI q), Value.ref 8]) (show (put (put σ 8 q (nI (mxN lda ldc))) 9 q (nI (tnS tna tnc))) 2 (4 * q + 1) = nI nn from en)) rfl ?_
      refine g_iadd dX11_layTurn_170 ?_
      rw [nI_add]
      refine g_iconst (v := 1) dX11_layTurn_171 (by decide) ?_
      refine g_isub dX11_layTurn_172 ?_
      rw [show nI (lda - ss + nn) - 1 = nI (lda - ss + nn - 1) from nI_sub (b := 1) (by omega)]
      refine g_aload_n dX11_layTurn_173 rfl rfl ?_
      refine g_getf dX11_layTurn_174 fX11_13 mW_0 rfl ?_
      refine g_iconst (v := 4) dX11_layTurn_177 (by decide) ?_
      refine g_iload_n dX11_layTurn_178 rfl rfl ?_
      refine g_imul dX11_layTurn_179 ?_
      refine g_iconst (v := 1) dX11_layTurn_180 (by decide) ?_
      refine g_iadd dX11_layTurn_181 ?_
      rw [jx41]
      refine g_iald dX11_layTurn_182 mA2 (vin_n (by omega) (by decide)) ?_
      refine Go.eq rfl rfl (show _ = [Value.int (nI nn), Value.int (nI (lda - ss + nn - 1)), Value.int (nI q), Value.ref 8] by rw [nI_clamp (by omega)]; exact congrArg (fun z => [Value.int z, Value.int (nI (lda - ss + nn - 1)), Value.int (nI q), Value.ref 8]) (show (put (put σ 8 q (nI (mxN lda ldc))) 9 q (nI (tnS tna tnc))) 2 (4 * q + 1) = nI nn from en)) rfl ?_
      refine g_idiv dX11_layTurn_183 (fun z => by have := (nI0 (by omega)).mp z; omega) ?_
      rw [nI_div (by omega) (by omega), show (lda - ss + nn - 1) / nn = ldE lda nn ss by rw [ldE, if_neg (by omega)]]
      refine g_iast dX11_layTurn_184 mA8 (vin_n (by omega) (by decide)) (mW_arrN (k' := q) (fun _ => rfl) (nI_clamp (by omega))) ?_
      refine g_aload_n dX11_layTurn_185 rfl rfl ?_
      refine g_getf dX11_layTurn_186 fX11_35 mW_0 rfl ?_
      refine g_iload_n dX11_layTurn_189 rfl rfl ?_
      refine g_aload_n dX11_layTurn_190 rfl rfl ?_
      refine g_getf dX11_layTurn_191 fX11_35 mW_0 rfl ?_
      refine g_iload_n dX11_layTurn_194 rfl rfl ?_
      refine g_iald dX11_layTurn_195 mA9 (vin_n (by omega) (by decide)) ?_
      refine Go.eq rfl rfl (show _ = [Value.int (nI tna), Value.int (nI q), Value.ref 9] by rw [nI_clamp (by omega)]; exact congrArg (fun z => [Value.int z, Value.int (nI q), Value.ref 9]) ((put989 haq).trans hta)) rfl ?_
      refine g_aload_n dX11_layTurn_196 rfl rfl ?_
      refine g_getf dX11_layTurn_197 fX11_35 mW_0 rfl ?_
      refine g_iload_n dX11_layTurn_200 rfl rfl ?_
      refine g_iald dX11_layTurn_201 mA9 (vin_n (by omega) (by decide)) ?_
      refine Go.eq rfl rfl (show _ = [Value.int (nI tna), Value.int (nI tna), Value.int (nI q), Value.ref 9] by rw [nI_clamp (by omega)]; exact congrArg (fun z => [Value.int z, Value.int (nI tna), Value.int (nI q), Value.ref 9]) ((put989 haq).trans hta)) rfl ?_
      refine g_aload_n dX11_layTurn_202 rfl rfl ?_
      refine g_getf dX11_layTurn_203 fX11_13 mW_0 rfl ?_
      refine g_iconst (v := 4) dX11_layTurn_206 (by decide) ?_
      refine g_iload_n dX11_layTurn_207 rfl rfl ?_
      refine g_imul dX11_layTurn_208 ?_
      refine g_iconst (v := 1) dX11_layTurn_209 (by decide) ?_
      refine g_iadd dX11_layTurn_210 ?_
      rw [jx41]
      refine g_iald dX11_layTurn_211 mA2 (vin_n (by omega) (by decide)) ?_
      refine Go.eq rfl rfl (show _ = [Value.int (nI nn), Value.int (nI tna), Value.int (nI tna), Value.int (nI q), Value.ref 9] by rw [nI_clamp (by omega)]; exact congrArg (fun z => [Value.int z, Value.int (nI tna), Value.int (nI tna), Value.int (nI q), Value.ref 9]) (show (put (put (put σ 8 q (nI (mxN lda ldc))) 9 q (nI (tnS tna tnc))) 8 q (nI (ldE lda nn ss))) 2 (4 * q + 1) = nI nn from en)) rfl ?_
      refine g_S2r (CX11_common (by omega) (by omega)) kX11_layTurn_166 dX11_layTurn_212 ⟨rfl, rfl⟩ (Nat.le_of_ble_eq_true rfl) ⟨(Nat.le_of_ble_eq_true rfl), (Nat.le_of_ble_eq_true rfl)⟩ ?_
      refine g_idiv dX11_layTurn_215 (fun z => by have := (nI0 (by omega)).mp z; omega) ?_
      rw [nI_div (by omega) (by omega)]
      refine g_iast dX11_layTurn_216 mA9 (vin_n (by omega) (by decide)) (mW_arrN (k' := q) (fun _ => rfl) (nI_clamp (by omega))) ?_
      exact g_vret dX11_layTurn_217 rfl rfl ⟨rfl, congrArg (fun z => mW z t) put4⟩
    · refine g_aload_n dX11_layTurn_64 rfl rfl ?_
      refine g_getf dX11_layTurn_65 fX11_32 mW_0 rfl ?_
      refine g_iload_n dX11_layTurn_68 rfl rfl ?_
      refine g_iald dX11_layTurn_69 mA8 (vin_n (by omega) (by decide)) ?_
      rw [nI_clamp (by omega), hla]
      refine g_topi (fun y hy => ?_)
      obtain rfl : y = nI (mxN lda ldc) := by rw [hy, mxN, if_pos (Nat.lt_of_not_le (fun z => c_61 (nI_le z (by omega))))]
      refine g_goto (tgt := 79) dX11_layTurn_70 rfl ?_
      refine g_iast dX11_layTurn_79 mA8 (vin_n (by omega) (by decide)) (mW_arrN (k' := q) (fun _ => rfl) (nI_clamp (by omega))) ?_
      refine g_aload_n dX11_layTurn_80 rfl rfl ?_
      refine g_getf dX11_layTurn_81 fX11_35 mW_0 rfl ?_
      refine g_iload_n dX11_layTurn_84 rfl rfl ?_
      refine g_aload_n dX11_layTurn_85 rfl rfl ?_
      refine g_getf dX11_layTurn_86 fX11_35 mW_0 rfl ?_
      refine g_iload_n dX11_layTurn_89 rfl rfl ?_
      refine g_iald dX11_layTurn_90 mA9 (vin_n (by omega) (by decide)) ?_
      refine Go.eq rfl rfl (show _ = [Value.int (nI tna), Value.int (nI q), Value.ref 9] by rw [nI_clamp (by omega)]; exact congrArg (fun z => [Value.int z, Value.int (nI q), Value.ref 9]) (show (put σ 8 q (nI (mxN lda ldc))) 9 a = nI tna from hta)) rfl ?_
      refine g_aload_n dX11_layTurn_91 rfl rfl ?_
      refine g_getf dX11_layTurn_92 fX11_35 mW_0 rfl ?_
      refine g_iload_n dX11_layTurn_95 rfl rfl ?_
      refine g_iald dX11_layTurn_96 mA9 (vin_n (by omega) (by decide)) ?_
      refine Go.eq rfl rfl (show _ = [Value.int (nI tna), Value.int (nI tna), Value.int (nI q), Value.ref 9] by rw [nI_clamp (by omega)]; exact congrArg (fun z => [Value.int z, Value.int (nI tna), Value.int (nI q), Value.ref 9]) (show (put σ 8 q (nI (mxN lda ldc))) 9 a = nI tna from hta)) rfl ?_
      refine g_aload_n dX11_layTurn_97 rfl rfl ?_
      refine g_getf dX11_layTurn_98 fX11_35 mW_0 rfl ?_
      refine g_iload_n dX11_layTurn_101 rfl rfl ?_
      refine g_iald dX11_layTurn_102 mA9 (vin_n (by omega) (by decide)) ?_
      refine Go.eq rfl rfl (show _ = [Value.int (nI tnc), Value.int (nI tna), Value.int (nI tna), Value.int (nI q), Value.ref 9] by rw [nI_clamp (by omega)]; exact congrArg (fun z => [Value.int z, Value.int (nI tna), Value.int (nI tna), Value.int (nI q), Value.ref 9]) (show (put σ 8 q (nI (mxN lda ldc))) 9 c = nI tnc from htc)) rfl ?_
      refine g_S2r (CX11_common (by omega) (by omega)) kX11_layTurn_166 dX11_layTurn_103 ⟨rfl, rfl⟩ (Nat.le_of_ble_eq_true rfl) ⟨(Nat.le_of_ble_eq_true rfl), (Nat.le_of_ble_eq_true rfl)⟩ ?_
      refine g_idiv dX11_layTurn_106 (fun z => by have := (nI0 (by omega)).mp z; omega) ?_
      rw [nI_div (by omega) (by omega)]
      refine g_aload_n dX11_layTurn_107 rfl rfl ?_
      refine g_getf dX11_layTurn_108 fX11_35 mW_0 rfl ?_
      refine g_iload_n dX11_layTurn_111 rfl rfl ?_
      refine g_iald dX11_layTurn_112 mA9 (vin_n (by omega) (by decide)) ?_
      refine Go.eq rfl rfl (show _ = [Value.int (nI tnc), Value.int (nI (tna / Nat.gcd tna tnc)), Value.int (nI q), Value.ref 9] by rw [nI_clamp (by omega)]; exact congrArg (fun z => [Value.int z, Value.int (nI (tna / Nat.gcd tna tnc)), Value.int (nI q), Value.ref 9]) (show (put σ 8 q (nI (mxN lda ldc))) 9 c = nI tnc from htc)) rfl ?_
      refine g_imul dX11_layTurn_113 ?_
      rw [nI_mul, show tna / Nat.gcd tna tnc * tnc = tnS tna tnc from rfl]
      refine g_iast dX11_layTurn_114 mA9 (vin_n (by omega) (by decide)) (mW_arrN (k' := q) (fun _ => rfl) (nI_clamp (by omega))) ?_
      refine g_aload_n dX11_layTurn_115 rfl rfl ?_
      refine g_getf dX11_layTurn_116 fX11_7 mW_0 rfl ?_
      refine g_iload_n dX11_layTurn_119 rfl rfl ?_
      refine g_iald dX11_layTurn_120 mA1 (vin_n (by omega) (by decide)) ?_
      refine Go.eq rfl rfl (show _ = [Value.int (σ 1 q)] by rw [nI_clamp (by omega)]; rfl) rfl ?_
      refine g_iconst (v := 3) dX11_layTurn_121 (by decide) ?_
      refine g_icmp_ne (tgt := 217) dX11_layTurn_122 rfl (fun c_122 => by exact absurd h3 c_122) (fun c_122 => ?_)
      refine g_aload_n dX11_layTurn_125 rfl rfl ?_
      refine g_getf dX11_layTurn_126 fX11_32 mW_0 rfl ?_
      refine g_iload_n dX11_layTurn_129 rfl rfl ?_
      refine g_iald dX11_layTurn_130 mA8 (vin_n (by omega) (by decide)) ?_
      refine Go.eq rfl rfl (show _ = [Value.int (nI lda)] by rw [nI_clamp (by omega)]; exact congrArg (fun z => [Value.int z]) ((put98 haq).1.trans hla)) rfl ?_
      refine g_aload_n dX11_layTurn_131 rfl rfl ?_
      refine g_getf dX11_layTurn_132 fX11_13 mW_0 rfl ?_
      refine g_iconst (v := 4) dX11_layTurn_135 (by decide) ?_
      refine g_iload_n dX11_layTurn_136 rfl rfl ?_
      refine g_imul dX11_layTurn_137 ?_
      refine g_iconst (v := 2) dX11_layTurn_138 (by decide) ?_
      refine g_iadd dX11_layTurn_139 ?_
      rw [jx42]
      refine g_iald dX11_layTurn_140 mA2 (vin_n (by omega) (by decide)) ?_
      refine Go.eq rfl rfl (show _ = [Value.int (nI ss), Value.int (nI lda)] by rw [nI_clamp (by omega)]; exact congrArg (fun z => [Value.int z, Value.int (nI lda)]) (show (put (put σ 8 q (nI (mxN lda ldc))) 9 q (nI (tnS tna tnc))) 2 (4 * q + 2) = nI ss from es)) rfl ?_
      refine g_isub dX11_layTurn_141 ?_
      rw [nI_sub (show ss ≤ lda by omega)]
      refine g_istore dX11_layTurn_142 (Nat.le_of_ble_eq_true rfl) rfl ?_
      refine g_aload_n dX11_layTurn_144 rfl rfl ?_
      refine g_getf dX11_layTurn_145 fX11_32 mW_0 rfl ?_
      refine g_iload_n dX11_layTurn_148 rfl rfl ?_
      refine g_iload dX11_layTurn_149 rfl ?_
      refine g_if_gt (tgt := 158) dX11_layTurn_151 rfl (fun c_151 => ?_) (fun c_151 => by exact absurd (nI_lt (a := 0) (show 0 < lda - ss by omega) (by omega)) c_151)
      refine g_iload dX11_layTurn_158 rfl ?_
      refine g_aload_n dX11_layTurn_160 rfl rfl ?_
      refine g_getf dX11_layTurn_161 fX11_13 mW_0 rfl ?_
      refine g_iconst (v := 4) dX11_layTurn_164 (by decide) ?_
      refine g_iload_n dX11_layTurn_165 rfl rfl ?_
      refine g_imul dX11_layTurn_166 ?_
      refine g_iconst (v := 1) dX11_layTurn_167 (by decide) ?_
      refine g_iadd dX11_layTurn_168 ?_
      rw [jx41]
      refine g_iald dX11_layTurn_169 mA2 (vin_n (by omega) (by decide)) ?_
      refine Go.eq rfl rfl (show _ = [Value.int (nI nn), Value.int (nI (lda - ss)), Value.int (nI q), Value.ref 8] by rw [nI_clamp (by omega)]; exact congrArg (fun z => [Value.int z, Value.int (nI (lda - ss)), Value.int (nI q), Value.ref 8]) (show (put (put σ 8 q (nI (mxN lda ldc))) 9 q (nI (tnS tna tnc))) 2 (4 * q + 1) = nI nn from en)) rfl ?_
      refine g_iadd dX11_layTurn_170 ?_
      rw [nI_add]
      refine g_iconst (v := 1) dX11_layTurn_171 (by decide) ?_
      refine g_isub dX11_layTurn_172 ?_
      rw [show nI (lda - ss + nn) - 1 = nI (lda - ss + nn - 1) from nI_sub (b := 1) (by omega)]
      refine g_aload_n dX11_layTurn_173 rfl rfl ?_
      refine g_getf dX11_layTurn_174 fX11_13 mW_0 rfl ?_
      refine g_iconst (v := 4) dX11_layTurn_177 (by decide) ?_
      refine g_iload_n dX11_layTurn_178 rfl rfl ?_
      refine g_imul dX11_layTurn_179 ?_
      refine g_iconst (v := 1) dX11_layTurn_180 (by decide) ?_
      refine g_iadd dX11_layTurn_181 ?_
      rw [jx41]
      refine g_iald dX11_layTurn_182 mA2 (vin_n (by omega) (by decide)) ?_
      refine Go.eq rfl rfl (show _ = [Value.int (nI nn), Value.int (nI (lda - ss + nn - 1)), Value.int (nI q), Value.ref 8] by rw [nI_clamp (by omega)]; exact congrArg (fun z => [Value.int z, Value.int (nI (lda - ss + nn - 1)), Value.int (nI q), Value.ref 8]) (show (put (put σ 8 q (nI (mxN lda ldc))) 9 q (nI (tnS tna tnc))) 2 (4 * q + 1) = nI nn from en)) rfl ?_
      refine g_idiv dX11_layTurn_183 (fun z => by have := (nI0 (by omega)).mp z; omega) ?_
      rw [nI_div (by omega) (by omega), show (lda - ss + nn - 1) / nn = ldE lda nn ss by rw [ldE, if_neg (by omega)]]
      refine g_iast dX11_layTurn_184 mA8 (vin_n (by omega) (by decide)) (mW_arrN (k' := q) (fun _ => rfl) (nI_clamp (by omega))) ?_
      refine g_aload_n dX11_layTurn_185 rfl rfl ?_
      refine g_getf dX11_layTurn_186 fX11_35 mW_0 rfl ?_
      refine g_iload_n dX11_layTurn_189 rfl rfl ?_
      refine g_aload_n dX11_layTurn_190 rfl rfl ?_
      refine g_getf dX11_layTurn_191 fX11_35 mW_0 rfl ?_
      refine g_iload_n dX11_layTurn_194 rfl rfl ?_
      refine g_iald dX11_layTurn_195 mA9 (vin_n (by omega) (by decide)) ?_
      refine Go.eq rfl rfl (show _ = [Value.int (nI tna), Value.int (nI q), Value.ref 9] by rw [nI_clamp (by omega)]; exact congrArg (fun z => [Value.int z, Value.int (nI q), Value.ref 9]) ((put989 haq).trans hta)) rfl ?_
      refine g_aload_n dX11_layTurn_196 rfl rfl ?_
      refine g_getf dX11_layTurn_197 fX11_35 mW_0 rfl ?_
      refine g_iload_n dX11_layTurn_200 rfl rfl ?_
      refine g_iald dX11_layTurn_201 mA9 (vin_n (by omega) (by decide)) ?_
      refine Go.eq rfl rfl (show _ = [Value.int (nI tna), Value.int (nI tna), Value.int (nI q), Value.ref 9] by rw [nI_clamp (by omega)]; exact congrArg (fun z => [Value.int z, Value.int (nI tna), Value.int (nI q), Value.ref 9]) ((put989 haq).trans hta)) rfl ?_
      refine g_aload_n dX11_layTurn_202 rfl rfl ?_
      refine g_getf dX11_layTurn_203 fX11_13 mW_0 rfl ?_
      refine g_iconst (v := 4) dX11_layTurn_206 (by decide) ?_
      refine g_iload_n dX11_layTurn_207 rfl rfl ?_
      refine g_imul dX11_layTurn_208 ?_
      refine g_iconst (v := 1) dX11_layTurn_209 (by decide) ?_
      refine g_iadd dX11_layTurn_210 ?_
      rw [jx41]
      refine g_iald dX11_layTurn_211 mA2 (vin_n (by omega) (by decide)) ?_
      refine Go.eq rfl rfl (show _ = [Value.int (nI nn), Value.int (nI tna), Value.int (nI tna), Value.int (nI q), Value.ref 9] by rw [nI_clamp (by omega)]; exact congrArg (fun z => [Value.int z, Value.int (nI tna), Value.int (nI tna), Value.int (nI q), Value.ref 9]) (show (put (put (put σ 8 q (nI (mxN lda ldc))) 9 q (nI (tnS tna tnc))) 8 q (nI (ldE lda nn ss))) 2 (4 * q + 1) = nI nn from en)) rfl ?_
      refine g_S2r (CX11_common (by omega) (by omega)) kX11_layTurn_166 dX11_layTurn_212 ⟨rfl, rfl⟩ (Nat.le_of_ble_eq_true rfl) ⟨(Nat.le_of_ble_eq_true rfl), (Nat.le_of_ble_eq_true rfl)⟩ ?_
      refine g_idiv dX11_layTurn_215 (fun z => by have := (nI0 (by omega)).mp z; omega) ?_
      rw [nI_div (by omega) (by omega)]
      refine g_iast dX11_layTurn_216 mA9 (vin_n (by omega) (by decide)) (mW_arrN (k' := q) (fun _ => rfl) (nI_clamp (by omega))) ?_
      exact g_vret dX11_layTurn_217 rfl rfl ⟨rfl, congrArg (fun z => mW z t) put4⟩
  · refine g_aload_n dX11_layTurn_0 rfl rfl ?_
    refine g_getf dX11_layTurn_1 fX11_13 mW_0 rfl ?_
    refine g_iconst (v := 4) dX11_layTurn_4 (by decide) ?_
    refine g_iload_n dX11_layTurn_5 rfl rfl ?_
    refine g_imul dX11_layTurn_6 ?_
    rw [jx4]
    refine g_iald dX11_layTurn_7 mA2 (vin_n (by omega) (by decide)) ?_
    rw [nI_clamp (by omega), ea]
    refine g_istore_n dX11_layTurn_8 rfl (Nat.le_of_ble_eq_true rfl) rfl ?_
    refine g_aload_n dX11_layTurn_9 rfl rfl ?_
    refine g_getf dX11_layTurn_10 fX11_7 mW_0 rfl ?_
    refine g_iload_n dX11_layTurn_13 rfl rfl ?_
    refine g_iald dX11_layTurn_14 mA1 (vin_n (by omega) (by decide)) ?_
    rw [nI_clamp (by omega)]
    refine g_iconst (v := 1) dX11_layTurn_15 (by decide) ?_
    refine g_icmp_eq (tgt := 29) dX11_layTurn_16 rfl (fun c_16 => by exact absurd (c_16.symm.trans h3) (by decide)) (fun c_16 => ?_)
    refine g_aload_n dX11_layTurn_19 rfl rfl ?_
    refine g_getf dX11_layTurn_20 fX11_7 mW_0 rfl ?_
    refine g_iload_n dX11_layTurn_23 rfl rfl ?_
    refine g_iald dX11_layTurn_24 mA1 (vin_n (by omega) (by decide)) ?_
    rw [nI_clamp (by omega)]
    refine g_iconst (v := 2) dX11_layTurn_25 (by decide) ?_
    refine g_icmp_ne (tgt := 42) dX11_layTurn_26 rfl (fun c_26 => ?_) (fun c_26 => by exact absurd (c_26.symm.trans h3) (by decide))
    refine g_iload_n dX11_layTurn_42 rfl rfl ?_
    refine g_topi (fun y hy => ?_)
    obtain rfl : y = nI c := by rw [hy, hc2 (by grind)]
    refine g_istore_n dX11_layTurn_43 rfl (Nat.le_of_ble_eq_true rfl) rfl ?_
    refine g_aload_n dX11_layTurn_44 rfl rfl ?_
    refine g_getf dX11_layTurn_45 fX11_32 mW_0 rfl ?_
    refine g_iload_n dX11_layTurn_48 rfl rfl ?_
    refine g_aload_n dX11_layTurn_49 rfl rfl ?_
    refine g_getf dX11_layTurn_50 fX11_32 mW_0 rfl ?_
    refine g_iload_n dX11_layTurn_53 rfl rfl ?_
    refine g_iald dX11_layTurn_54 mA8 (vin_n (by omega) (by decide)) ?_
    rw [nI_clamp (by omega), hla]
    refine g_aload_n dX11_layTurn_55 rfl rfl ?_
    refine g_getf dX11_layTurn_56 fX11_32 mW_0 rfl ?_
    refine g_iload_n dX11_layTurn_59 rfl rfl ?_
    refine g_iald dX11_layTurn_60 mA8 (vin_n (by omega) (by decide)) ?_
    rw [nI_clamp (by omega), hlc]
    refine g_icmp_le (tgt := 73) dX11_layTurn_61 rfl (fun c_61 => ?_) (fun c_61 => ?_)
    · refine g_aload_n dX11_layTurn_73 rfl rfl ?_
      refine g_getf dX11_layTurn_74 fX11_32 mW_0 rfl ?_
      refine g_iload_n dX11_layTurn_77 rfl rfl ?_
      refine g_iald dX11_layTurn_78 mA8 (vin_n (by omega) (by decide)) ?_
      rw [nI_clamp (by omega), hlc]
      refine g_topi (fun y hy => ?_)
      obtain rfl : y = nI (mxN lda ldc) := by rw [hy, mxN, if_neg (fun z => absurd c_61 (nI_ge z (by omega)))]
      refine g_iast dX11_layTurn_79 mA8 (vin_n (by omega) (by decide)) (mW_arrN (k' := q) (fun _ => rfl) (nI_clamp (by omega))) ?_
      refine g_aload_n dX11_layTurn_80 rfl rfl ?_
      refine g_getf dX11_layTurn_81 fX11_35 mW_0 rfl ?_
      refine g_iload_n dX11_layTurn_84 rfl rfl ?_
      refine g_aload_n dX11_layTurn_85 rfl rfl ?_
      refine g_getf dX11_layTurn_86 fX11_35 mW_0 rfl ?_
      refine g_iload_n dX11_layTurn_89 rfl rfl ?_
      refine g_iald dX11_layTurn_90 mA9 (vin_n (by omega) (by decide)) ?_
      refine Go.eq rfl rfl (show _ = [Value.int (nI tna), Value.int (nI q), Value.ref 9] by rw [nI_clamp (by omega)]; exact congrArg (fun z => [Value.int z, Value.int (nI q), Value.ref 9]) (show (put σ 8 q (nI (mxN lda ldc))) 9 a = nI tna from hta)) rfl ?_
      refine g_aload_n dX11_layTurn_91 rfl rfl ?_
      refine g_getf dX11_layTurn_92 fX11_35 mW_0 rfl ?_
      refine g_iload_n dX11_layTurn_95 rfl rfl ?_
      refine g_iald dX11_layTurn_96 mA9 (vin_n (by omega) (by decide)) ?_
      refine Go.eq rfl rfl (show _ = [Value.int (nI tna), Value.int (nI tna), Value.int (nI q), Value.ref 9] by rw [nI_clamp (by omega)]; exact congrArg (fun z => [Value.int z, Value.int (nI tna), Value.int (nI q), Value.ref 9]) (show (put σ 8 q (nI (mxN lda ldc))) 9 a = nI tna from hta)) rfl ?_
      refine g_aload_n dX11_layTurn_97 rfl rfl ?_
      refine g_getf dX11_layTurn_98 fX11_35 mW_0 rfl ?_
      refine g_iload_n dX11_layTurn_101 rfl rfl ?_
      refine g_iald dX11_layTurn_102 mA9 (vin_n (by omega) (by decide)) ?_
      refine Go.eq rfl rfl (show _ = [Value.int (nI tnc), Value.int (nI tna), Value.int (nI tna), Value.int (nI q), Value.ref 9] by rw [nI_clamp (by omega)]; exact congrArg (fun z => [Value.int z, Value.int (nI tna), Value.int (nI tna), Value.int (nI q), Value.ref 9]) (show (put σ 8 q (nI (mxN lda ldc))) 9 c = nI tnc from htc)) rfl ?_
      refine g_S2r (CX11_common (by omega) (by omega)) kX11_layTurn_166 dX11_layTurn_103 ⟨rfl, rfl⟩ (Nat.le_of_ble_eq_true rfl) ⟨(Nat.le_of_ble_eq_true rfl), (Nat.le_of_ble_eq_true rfl)⟩ ?_
      refine g_idiv dX11_layTurn_106 (fun z => by have := (nI0 (by omega)).mp z; omega) ?_
      rw [nI_div (by omega) (by omega)]
      refine g_aload_n dX11_layTurn_107 rfl rfl ?_
      refine g_getf dX11_layTurn_108 fX11_35 mW_0 rfl ?_
      refine g_iload_n dX11_layTurn_111 rfl rfl ?_
      refine g_iald dX11_layTurn_112 mA9 (vin_n (by omega) (by decide)) ?_
      refine Go.eq rfl rfl (show _ = [Value.int (nI tnc), Value.int (nI (tna / Nat.gcd tna tnc)), Value.int (nI q), Value.ref 9] by rw [nI_clamp (by omega)]; exact congrArg (fun z => [Value.int z, Value.int (nI (tna / Nat.gcd tna tnc)), Value.int (nI q), Value.ref 9]) (show (put σ 8 q (nI (mxN lda ldc))) 9 c = nI tnc from htc)) rfl ?_
      refine g_imul dX11_layTurn_113 ?_
      rw [nI_mul, show tna / Nat.gcd tna tnc * tnc = tnS tna tnc from rfl]
      refine g_iast dX11_layTurn_114 mA9 (vin_n (by omega) (by decide)) (mW_arrN (k' := q) (fun _ => rfl) (nI_clamp (by omega))) ?_
      refine g_aload_n dX11_layTurn_115 rfl rfl ?_
      refine g_getf dX11_layTurn_116 fX11_7 mW_0 rfl ?_
      refine g_iload_n dX11_layTurn_119 rfl rfl ?_
      refine g_iald dX11_layTurn_120 mA1 (vin_n (by omega) (by decide)) ?_
      refine Go.eq rfl rfl (show _ = [Value.int (σ 1 q)] by rw [nI_clamp (by omega)]; rfl) rfl ?_
      refine g_iconst (v := 3) dX11_layTurn_121 (by decide) ?_
      refine g_icmp_ne (tgt := 217) dX11_layTurn_122 rfl (fun c_122 => by exact absurd h3 c_122) (fun c_122 => ?_)
      refine g_aload_n dX11_layTurn_125 rfl rfl ?_
      refine g_getf dX11_layTurn_126 fX11_32 mW_0 rfl ?_
      refine g_iload_n dX11_layTurn_129 rfl rfl ?_
      refine g_iald dX11_layTurn_130 mA8 (vin_n (by omega) (by decide)) ?_
      refine Go.eq rfl rfl (show _ = [Value.int (nI lda)] by rw [nI_clamp (by omega)]; exact congrArg (fun z => [Value.int z]) ((put98 haq).1.trans hla)) rfl ?_
      refine g_aload_n dX11_layTurn_131 rfl rfl ?_
      refine g_getf dX11_layTurn_132 fX11_13 mW_0 rfl ?_
      refine g_iconst (v := 4) dX11_layTurn_135 (by decide) ?_
      refine g_iload_n dX11_layTurn_136 rfl rfl ?_
      refine g_imul dX11_layTurn_137 ?_
      refine g_iconst (v := 2) dX11_layTurn_138 (by decide) ?_
      refine g_iadd dX11_layTurn_139 ?_
      rw [jx42]
      refine g_iald dX11_layTurn_140 mA2 (vin_n (by omega) (by decide)) ?_
      refine Go.eq rfl rfl (show _ = [Value.int (nI ss), Value.int (nI lda)] by rw [nI_clamp (by omega)]; exact congrArg (fun z => [Value.int z, Value.int (nI lda)]) (show (put (put σ 8 q (nI (mxN lda ldc))) 9 q (nI (tnS tna tnc))) 2 (4 * q + 2) = nI ss from es)) rfl ?_
      refine g_isub dX11_layTurn_141 ?_
      refine g_istore dX11_layTurn_142 (Nat.le_of_ble_eq_true rfl) rfl ?_
      refine g_aload_n dX11_layTurn_144 rfl rfl ?_
      refine g_getf dX11_layTurn_145 fX11_32 mW_0 rfl ?_
      refine g_iload_n dX11_layTurn_148 rfl rfl ?_
      refine g_iload dX11_layTurn_149 rfl ?_
      refine g_if_gt (tgt := 158) dX11_layTurn_151 rfl (fun c_151 => by exact absurd c_151 (Int32.not_lt.mpr (sub_le h (by omega) (by omega)))) (fun c_151 => ?_)
      refine g_iconst (v := 0) dX11_layTurn_154 (by decide) ?_
      refine g_topi (fun y hy => ?_)
      obtain rfl : y = nI (ldE lda nn ss) := by rw [hy, ldE, if_pos h]; rfl
      refine g_goto (tgt := 184) dX11_layTurn_155 rfl ?_
      refine g_iast dX11_layTurn_184 mA8 (vin_n (by omega) (by decide)) (mW_arrN (k' := q) (fun _ => rfl) (nI_clamp (by omega))) ?_
      refine g_aload_n dX11_layTurn_185 rfl rfl ?_
      refine g_getf dX11_layTurn_186 fX11_35 mW_0 rfl ?_
      refine g_iload_n dX11_layTurn_189 rfl rfl ?_
      refine g_aload_n dX11_layTurn_190 rfl rfl ?_
      refine g_getf dX11_layTurn_191 fX11_35 mW_0 rfl ?_
      refine g_iload_n dX11_layTurn_194 rfl rfl ?_
      refine g_iald dX11_layTurn_195 mA9 (vin_n (by omega) (by decide)) ?_
      refine Go.eq rfl rfl (show _ = [Value.int (nI tna), Value.int (nI q), Value.ref 9] by rw [nI_clamp (by omega)]; exact congrArg (fun z => [Value.int z, Value.int (nI q), Value.ref 9]) ((put989 haq).trans hta)) rfl ?_
      refine g_aload_n dX11_layTurn_196 rfl rfl ?_
      refine g_getf dX11_layTurn_197 fX11_35 mW_0 rfl ?_
      refine g_iload_n dX11_layTurn_200 rfl rfl ?_
      refine g_iald dX11_layTurn_201 mA9 (vin_n (by omega) (by decide)) ?_
      refine Go.eq rfl rfl (show _ = [Value.int (nI tna), Value.int (nI tna), Value.int (nI q), Value.ref 9] by rw [nI_clamp (by omega)]; exact congrArg (fun z => [Value.int z, Value.int (nI tna), Value.int (nI q), Value.ref 9]) ((put989 haq).trans hta)) rfl ?_
      refine g_aload_n dX11_layTurn_202 rfl rfl ?_
      refine g_getf dX11_layTurn_203 fX11_13 mW_0 rfl ?_
      refine g_iconst (v := 4) dX11_layTurn_206 (by decide) ?_
      refine g_iload_n dX11_layTurn_207 rfl rfl ?_
      refine g_imul dX11_layTurn_208 ?_
      refine g_iconst (v := 1) dX11_layTurn_209 (by decide) ?_
      refine g_iadd dX11_layTurn_210 ?_
      rw [jx41]
      refine g_iald dX11_layTurn_211 mA2 (vin_n (by omega) (by decide)) ?_
      refine Go.eq rfl rfl (show _ = [Value.int (nI nn), Value.int (nI tna), Value.int (nI tna), Value.int (nI q), Value.ref 9] by rw [nI_clamp (by omega)]; exact congrArg (fun z => [Value.int z, Value.int (nI tna), Value.int (nI tna), Value.int (nI q), Value.ref 9]) (show (put (put (put σ 8 q (nI (mxN lda ldc))) 9 q (nI (tnS tna tnc))) 8 q (nI (ldE lda nn ss))) 2 (4 * q + 1) = nI nn from en)) rfl ?_
      refine g_S2r (CX11_common (by omega) (by omega)) kX11_layTurn_166 dX11_layTurn_212 ⟨rfl, rfl⟩ (Nat.le_of_ble_eq_true rfl) ⟨(Nat.le_of_ble_eq_true rfl), (Nat.le_of_ble_eq_true rfl)⟩ ?_
      refine g_idiv dX11_layTurn_215 (fun z => by have := (nI0 (by omega)).mp z; omega) ?_
      rw [nI_div (by omega) (by omega)]
      refine g_iast dX11_layTurn_216 mA9 (vin_n (by omega) (by decide)) (mW_arrN (k' := q) (fun _ => rfl) (nI_clamp (by omega))) ?_
      exact g_vret dX11_layTurn_217 rfl rfl ⟨rfl, congrArg (fun z => mW z t) put4⟩
    · refine g_aload_n dX11_layTurn_64 rfl rfl ?_
      refine g_getf dX11_layTurn_65 fX11_32 mW_0 rfl ?_
      refine g_iload_n dX11_layTurn_68 rfl rfl ?_
      refine g_iald dX11_layTurn_69 mA8 (vin_n (by omega) (by decide)) ?_
      rw [nI_clamp (by omega), hla]
      refine g_topi (fun y hy => ?_)
      obtain rfl : y = nI (mxN lda ldc) := by rw [hy, mxN, if_pos (Nat.lt_of_not_le (fun z => c_61 (nI_le z (by omega))))]
      refine g_goto (tgt := 79) dX11_layTurn_70 rfl ?_
      refine g_iast dX11_layTurn_79 mA8 (vin_n (by omega) (by decide)) (mW_arrN (k' := q) (fun _ => rfl) (nI_clamp (by omega))) ?_
      refine g_aload_n dX11_layTurn_80 rfl rfl ?_
      refine g_getf dX11_layTurn_81 fX11_35 mW_0 rfl ?_
      refine g_iload_n dX11_layTurn_84 rfl rfl ?_
      refine g_aload_n dX11_layTurn_85 rfl rfl ?_
      refine g_getf dX11_layTurn_86 fX11_35 mW_0 rfl ?_
      refine g_iload_n dX11_layTurn_89 rfl rfl ?_
      refine g_iald dX11_layTurn_90 mA9 (vin_n (by omega) (by decide)) ?_
      refine Go.eq rfl rfl (show _ = [Value.int (nI tna), Value.int (nI q), Value.ref 9] by rw [nI_clamp (by omega)]; exact congrArg (fun z => [Value.int z, Value.int (nI q), Value.ref 9]) (show (put σ 8 q (nI (mxN lda ldc))) 9 a = nI tna from hta)) rfl ?_
      refine g_aload_n dX11_layTurn_91 rfl rfl ?_
      refine g_getf dX11_layTurn_92 fX11_35 mW_0 rfl ?_
      refine g_iload_n dX11_layTurn_95 rfl rfl ?_
      refine g_iald dX11_layTurn_96 mA9 (vin_n (by omega) (by decide)) ?_
      refine Go.eq rfl rfl (show _ = [Value.int (nI tna), Value.int (nI tna), Value.int (nI q), Value.ref 9] by rw [nI_clamp (by omega)]; exact congrArg (fun z => [Value.int z, Value.int (nI tna), Value.int (nI q), Value.ref 9]) (show (put σ 8 q (nI (mxN lda ldc))) 9 a = nI tna from hta)) rfl ?_
      refine g_aload_n dX11_layTurn_97 rfl rfl ?_
      refine g_getf dX11_layTurn_98 fX11_35 mW_0 rfl ?_
      refine g_iload_n dX11_layTurn_101 rfl rfl ?_
      refine g_iald dX11_layTurn_102 mA9 (vin_n (by omega) (by decide)) ?_
      refine Go.eq rfl rfl (show _ = [Value.int (nI tnc), Value.int (nI tna), Value.int (nI tna), Value.int (nI q), Value.ref 9] by rw [nI_clamp (by omega)]; exact congrArg (fun z => [Value.int z, Value.int (nI tna), Value.int (nI tna), Value.int (nI q), Value.ref 9]) (show (put σ 8 q (nI (mxN lda ldc))) 9 c = nI tnc from htc)) rfl ?_
      refine g_S2r (CX11_common (by omega) (by omega)) kX11_layTurn_166 dX11_layTurn_103 ⟨rfl, rfl⟩ (Nat.le_of_ble_eq_true rfl) ⟨(Nat.le_of_ble_eq_true rfl), (Nat.le_of_ble_eq_true rfl)⟩ ?_
      refine g_idiv dX11_layTurn_106 (fun z => by have := (nI0 (by omega)).mp z; omega) ?_
      rw [nI_div (by omega) (by omega)]
      refine g_aload_n dX11_layTurn_107 rfl rfl ?_
      refine g_getf dX11_layTurn_108 fX11_35 mW_0 rfl ?_
      refine g_iload_n dX11_layTurn_111 rfl rfl ?_
      refine g_iald dX11_layTurn_112 mA9 (vin_n (by omega) (by decide)) ?_
      refine Go.eq rfl rfl (show _ = [Value.int (nI tnc), Value.int (nI (tna / Nat.gcd tna tnc)), Value.int (nI q), Value.ref 9] by rw [nI_clamp (by omega)]; exact congrArg (fun z => [Value.int z, Value.int (nI (tna / Nat.gcd tna tnc)), Value.int (nI q), Value.ref 9]) (show (put σ 8 q (nI (mxN lda ldc))) 9 c = nI tnc from htc)) rfl ?_
      refine g_imul dX11_layTurn_113 ?_
      rw [nI_mul, show tna / Nat.gcd tna tnc * tnc = tnS tna tnc from rfl]
      refine g_iast dX11_layTurn_114 mA9 (vin_n (by omega) (by decide)) (mW_arrN (k' := q) (fun _ => rfl) (nI_clamp (by omega))) ?_
      refine g_aload_n dX11_layTurn_115 rfl rfl ?_
      refine g_getf dX11_layTurn_116 fX11_7 mW_0 rfl ?_
      refine g_iload_n dX11_layTurn_119 rfl rfl ?_
      refine g_iald dX11_layTurn_120 mA1 (vin_n (by omega) (by decide)) ?_
      refine Go.eq rfl rfl (show _ = [Value.int (σ 1 q)] by rw [nI_clamp (by omega)]; rfl) rfl ?_
      refine g_iconst (v := 3) dX11_layTurn_121 (by decide) ?_
      refine g_icmp_ne (tgt := 217) dX11_layTurn_122 rfl (fun c_122 => by exact absurd h3 c_122) (fun c_122 => ?_)
      refine g_aload_n dX11_layTurn_125 rfl rfl ?_
      refine g_getf dX11_layTurn_126 fX11_32 mW_0 rfl ?_
      refine g_iload_n dX11_layTurn_129 rfl rfl ?_
      refine g_iald dX11_layTurn_130 mA8 (vin_n (by omega) (by decide)) ?_
      refine Go.eq rfl rfl (show _ = [Value.int (nI lda)] by rw [nI_clamp (by omega)]; exact congrArg (fun z => [Value.int z]) ((put98 haq).1.trans hla)) rfl ?_
      refine g_aload_n dX11_layTurn_131 rfl rfl ?_
      refine g_getf dX11_layTurn_132 fX11_13 mW_0 rfl ?_
      refine g_iconst (v := 4) dX11_layTurn_135 (by decide) ?_
      refine g_iload_n dX11_layTurn_136 rfl rfl ?_
      refine g_imul dX11_layTurn_137 ?_
      refine g_iconst (v := 2) dX11_layTurn_138 (by decide) ?_
      refine g_iadd dX11_layTurn_139 ?_
      rw [jx42]
      refine g_iald dX11_layTurn_140 mA2 (vin_n (by omega) (by decide)) ?_
      refine Go.eq rfl rfl (show _ = [Value.int (nI ss), Value.int (nI lda)] by rw [nI_clamp (by omega)]; exact congrArg (fun z => [Value.int z, Value.int (nI lda)]) (show (put (put σ 8 q (nI (mxN lda ldc))) 9 q (nI (tnS tna tnc))) 2 (4 * q + 2) = nI ss from es)) rfl ?_
      refine g_isub dX11_layTurn_141 ?_
      refine g_istore dX11_layTurn_142 (Nat.le_of_ble_eq_true rfl) rfl ?_
      refine g_aload_n dX11_layTurn_144 rfl rfl ?_
      refine g_getf dX11_layTurn_145 fX11_32 mW_0 rfl ?_
      refine g_iload_n dX11_layTurn_148 rfl rfl ?_
      refine g_iload dX11_layTurn_149 rfl ?_
      refine g_if_gt (tgt := 158) dX11_layTurn_151 rfl (fun c_151 => by exact absurd c_151 (Int32.not_lt.mpr (sub_le h (by omega) (by omega)))) (fun c_151 => ?_)
      refine g_iconst (v := 0) dX11_layTurn_154 (by decide) ?_
      refine g_topi (fun y hy => ?_)
      obtain rfl : y = nI (ldE lda nn ss) := by rw [hy, ldE, if_pos h]; rfl
      refine g_goto (tgt := 184) dX11_layTurn_155 rfl ?_
      refine g_iast dX11_layTurn_184 mA8 (vin_n (by omega) (by decide)) (mW_arrN (k' := q) (fun _ => rfl) (nI_clamp (by omega))) ?_
      refine g_aload_n dX11_layTurn_185 rfl rfl ?_
      refine g_getf dX11_layTurn_186 fX11_35 mW_0 rfl ?_
      refine g_iload_n dX11_layTurn_189 rfl rfl ?_
      refine g_aload_n dX11_layTurn_190 rfl rfl ?_
      refine g_getf dX11_layTurn_191 fX11_35 mW_0 rfl ?_
      refine g_iload_n dX11_layTurn_194 rfl rfl ?_
      refine g_iald dX11_layTurn_195 mA9 (vin_n (by omega) (by decide)) ?_
      refine Go.eq rfl rfl (show _ = [Value.int (nI tna), Value.int (nI q), Value.ref 9] by rw [nI_clamp (by omega)]; exact congrArg (fun z => [Value.int z, Value.int (nI q), Value.ref 9]) ((put989 haq).trans hta)) rfl ?_
      refine g_aload_n dX11_layTurn_196 rfl rfl ?_
      refine g_getf dX11_layTurn_197 fX11_35 mW_0 rfl ?_
      refine g_iload_n dX11_layTurn_200 rfl rfl ?_
      refine g_iald dX11_layTurn_201 mA9 (vin_n (by omega) (by decide)) ?_
      refine Go.eq rfl rfl (show _ = [Value.int (nI tna), Value.int (nI tna), Value.int (nI q), Value.ref 9] by rw [nI_clamp (by omega)]; exact congrArg (fun z => [Value.int z, Value.int (nI tna), Value.int (nI q), Value.ref 9]) ((put989 haq).trans hta)) rfl ?_
      refine g_aload_n dX11_layTurn_202 rfl rfl ?_
      refine g_getf dX11_layTurn_203 fX11_13 mW_0 rfl ?_
      refine g_iconst (v := 4) dX11_layTurn_206 (by decide) ?_
      refine g_iload_n dX11_layTurn_207 rfl rfl ?_
      refine g_imul dX11_layTurn_208 ?_
      refine g_iconst (v := 1) dX11_layTurn_209 (by decide) ?_
      refine g_iadd dX11_layTurn_210 ?_
      rw [jx41]
      refine g_iald dX11_layTurn_211 mA2 (vin_n (by omega) (by decide)) ?_
      refine Go.eq rfl rfl (show _ = [Value.int (nI nn), Value.int (nI tna), Value.int (nI tna), Value.int (nI q), Value.ref 9] by rw [nI_clamp (by omega)]; exact congrArg (fun z => [Value.int z, Value.int (nI tna), Value.int (nI tna), Value.int (nI q), Value.ref 9]) (show (put (put (put σ 8 q (nI (mxN lda ldc))) 9 q (nI (tnS tna tnc))) 8 q (nI (ldE lda nn ss))) 2 (4 * q + 1) = nI nn from en)) rfl ?_
      refine g_S2r (CX11_common (by omega) (by omega)) kX11_layTurn_166 dX11_layTurn_212 ⟨rfl, rfl⟩ (Nat.le_of_ble_eq_true rfl) ⟨(Nat.le_of_ble_eq_true rfl), (Nat.le_of_ble_eq_true rfl)⟩ ?_
      refine g_idiv dX11_layTurn_215 (fun z => by have := (nI0 (by omega)).mp z; omega) ?_
      rw [nI_div (by omega) (by omega)]
      refine g_iast dX11_layTurn_216 mA9 (vin_n (by omega) (by decide)) (mW_arrN (k' := q) (fun _ => rfl) (nI_clamp (by omega))) ?_
      exact g_vret dX11_layTurn_217 rfl rfl ⟨rfl, congrArg (fun z => mW z t) put4⟩
end
