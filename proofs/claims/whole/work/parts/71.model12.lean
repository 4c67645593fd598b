def nL (n : Nat) : Int64 := Int64.ofNat n
theorem nL_toInt {n : Nat} (h : n < 2 ^ 63) : (nL n).toInt = (n : Int) := Int64.toInt_ofNat_of_lt h
theorem nI_64 {k : Nat} (h : k < 2 ^ 31) : (nI k).toInt64 = nL k := by
  rw [← Int64.toInt_inj, nL_toInt (by omega), Int32.toInt_toInt64, nI_toInt h]
theorem nL_32 {k : Nat} : (nL k).toInt32 = nI k := by
  show (Int64.ofNat k).toInt32 = Int32.ofNat k
  exact Int64.toInt32_ofNat
theorem nL_add (a b : Nat) : nL a + nL b = nL (a + b) := (Int64.ofNat_add a b).symm
theorem nL_mul (a b : Nat) : nL a * nL b = nL (a * b) := (Int64.ofNat_mul a b).symm
theorem nL_sub {a b : Nat} (h : b ≤ a) : nL a - nL b = nL (a - b) := by
  have : nL (a - b) + nL b = nL a := by rw [nL_add, Nat.sub_add_cancel h]
  rw [← this]
  grind
theorem nL_div {a b : Nat} (ha : a < 2 ^ 63) (hb : b < 2 ^ 63) : nL a / nL b = nL (a / b) := by
  rw [← Int64.toInt_inj, Int64.toInt_div, nL_toInt ha, nL_toInt hb, nL_toInt (Nat.lt_of_le_of_lt (Nat.div_le_self a b) ha)]
  rw [Int.tdiv_eq_ediv_of_nonneg (by omega), ← Int.natCast_ediv]
  have hq : a / b ≤ a := Nat.div_le_self a b
  generalize a / b = q at hq ⊢
  exact Int.bmod_eq_of_le (by omega) (by omega)
theorem nL_rem {a b : Nat} (ha : a < 2 ^ 63) (hb : b < 2 ^ 63) : nL a - nL a / nL b * nL b = nL (a % b) := by
  rw [nL_div ha hb, nL_mul, nL_sub (Nat.div_mul_le_self a b)]
  congr 1
  have := Nat.div_add_mod a b
  rw [Nat.mul_comm] at this
  omega
theorem nL_lt {a b : Nat} (ha : a < 2 ^ 63) (hb : b < 2 ^ 63) : nL a < nL b ↔ a < b := by
  rw [Int64.lt_iff_toInt_lt, nL_toInt ha, nL_toInt hb]; omega
theorem nL_0 {a : Nat} (ha : a < 2 ^ 63) (h : 0 < a) : ¬ nL a = 0 := by
  intro z
  have e := nL_toInt ha
  rw [z] at e
  have e0 : (0 : Int64).toInt = 0 := rfl
  omega
def rIx (ld tn k : Nat) : Nat := if k < ld then k else ld + (k - ld) % tn
theorem rIx_lt {ld tn k : Nat} (h : 1 ≤ tn) : rIx ld tn k < ld + tn := by
  unfold rIx
  have := Nat.mod_lt (k - ld) h
  split <;> omega
/-- row q's rests lie ready: so many ahead, so many in turn -/
def mRq (σ : Nat → Nat → Int32) (q ld tn : Nat) : Prop := q ≤ 8 ∧ σ 8 q = nI ld ∧ σ 9 q = nI tn ∧ 1 ≤ tn ∧ ld ≤ 6 ∧ tn ≤ 336
def rsV (σ : Nat → Nat → Int32) (q ld tn k : Nat) : Int32 := σ 10 (512 * q + rIx ld tn k)
def mrV (kd : Int32) (A B : Nat → Int32) (mm : Int32) (n s k : Nat) : Int32 :=
  if kd = 1 then jrem (A k + B k) mm else if kd = 2 then jrem (A k * B k) mm else if kd = 3 then A (n * k + s) else jrem (jrem (A (k + 1) - A k) mm + mm) mm
section
variable {l : Launch} {σ : Nat → Nat → Int32} {t : Nat → Int64} {n q k ld tn a b m s : Nat}
set_option maxRecDepth 100000 in
set_option maxHeartbeats 4000000 in
theorem CX11_restAt (H : mRq σ q ld tn) (hk : k < 2147483648) : Ct l mX11_restAt [.ref 0, .int (nI q), .long (nL k)] (mW σ t) (q_eq (some (.int (rsV σ q ld tn k))) (mW σ t)) := by
  obtain ⟨hq, hl, ht, h1, h6, h3⟩ := H
  refine Ct.of rfl (Nat.le_of_ble_eq_true rfl) ?_
  rcases Nat.lt_or_ge k ld with h | h
  · refine g_lload_n dX11_restAt_0 rfl rfl ?_
    refine g_aload_n dX11_restAt_1 rfl rfl ?_
    refine g_getf dX11_restAt_2 fX11_32 mW_0 rfl ?_
    refine g_iload_n dX11_restAt_5 rfl rfl ?_
    refine g_iald dX11_restAt_6 mA8 (vin_n (by omega) (by decide)) ?_
    rw [nI_clamp (by omega), hl]
    refine g_i2l dX11_restAt_7 ?_
    rw [nI_64 (k := ld) (by omega)]
    refine g_lcmp dX11_restAt_8 ?_
    refine g_if_ge (tgt := 16) dX11_restAt_9 rfl (fun c_9 => by exact absurd c_9 (Int32.not_le.mpr (cmp_lt.mpr ((nL_lt (by omega) (by omega)).mpr h)))) (fun c_9 => ?_)
    refine g_lload_n dX11_restAt_12 rfl rfl ?_
    refine g_goto (tgt := 41) dX11_restAt_13 rfl ?_
    refine g_lstore dX11_restAt_41 (Nat.le_of_ble_eq_true rfl) rfl ?_
    refine g_aload_n dX11_restAt_43 rfl rfl ?_
    refine g_getf dX11_restAt_44 fX11_38 mW_0 rfl ?_
    refine g_sipush (v := 512) dX11_restAt_47 (by decide) ?_
    refine g_iload_n dX11_restAt_50 rfl rfl ?_
    refine g_imul dX11_restAt_51 ?_
    rw [show (512 : Int32) = nI 512 from rfl, nI_mul]
    refine g_lload dX11_restAt_52 rfl ?_
    refine g_l2i dX11_restAt_54 ?_
    rw [nL_32]
    refine g_iadd dX11_restAt_55 ?_
    rw [nI_add]
    refine g_bald dX11_restAt_56 mA10 (vin_n (by omega) (by decide)) ?_
    rw [nI_clamp (by omega)]
    exact g_iret dX11_restAt_57 rfl rfl ⟨by rw [rsV, rIx, if_pos h], rfl⟩
  · refine g_lload_n dX11_restAt_0 rfl rfl ?_
    refine g_aload_n dX11_restAt_1 rfl rfl ?_
    refine g_getf dX11_restAt_2 fX11_32 mW_0 rfl ?_
    refine g_iload_n dX11_restAt_5 rfl rfl ?_
    refine g_iald dX11_restAt_6 mA8 (vin_n (by omega) (by decide)) ?_
    rw [nI_clamp (by omega), hl]
    refine g_i2l dX11_restAt_7 ?_
    rw [nI_64 (k := ld) (by omega)]
    refine g_lcmp dX11_restAt_8 ?_
    refine g_if_ge (tgt := 16) dX11_restAt_9 rfl (fun c_9 => ?_) (fun c_9 => by exact absurd ((nL_lt (by omega) (by omega)).mp (cmp_lt.mp (Int32.not_le.mp c_9))) (by omega))
    refine g_aload_n dX11_restAt_16 rfl rfl ?_
    refine g_getf dX11_restAt_17 fX11_32 mW_0 rfl ?_
    refine g_iload_n dX11_restAt_20 rfl rfl ?_
    refine g_iald dX11_restAt_21 mA8 (vin_n (by omega) (by decide)) ?_
    rw [nI_clamp (by omega), hl]
    refine g_i2l dX11_restAt_22 ?_
    rw [nI_64 (k := ld) (by omega)]
    refine g_lload_n dX11_restAt_23 rfl rfl ?_
    refine g_aload_n dX11_restAt_24 rfl rfl ?_
    refine g_getf dX11_restAt_25 fX11_32 mW_0 rfl ?_
    refine g_iload_n dX11_restAt_28 rfl rfl ?_
    refine g_iald dX11_restAt_29 mA8 (vin_n (by omega) (by decide)) ?_
    rw [nI_clamp (by omega), hl]
    refine g_i2l dX11_restAt_30 ?_
    rw [nI_64 (k := ld) (by omega)]
    refine g_lsub dX11_restAt_31 ?_
    rw [nL_sub h]
    refine g_aload_n dX11_restAt_32 rfl rfl ?_
    refine g_getf dX11_restAt_33 fX11_35 mW_0 rfl ?_
    refine g_iload_n dX11_restAt_36 rfl rfl ?_
    refine g_iald dX11_restAt_37 mA9 (vin_n (by omega) (by decide)) ?_
    rw [nI_clamp (by omega), ht]
    refine g_i2l dX11_restAt_38 ?_
    rw [nI_64 (k := tn) (by omega)]
    refine g_lrem dX11_restAt_39 (nL_0 (by omega) (by omega)) ?_
    rw [nL_rem (by omega) (by omega)]
    refine g_ladd dX11_restAt_40 ?_
    rw [nL_add]
    have hm := Nat.mod_lt (k - ld) (show 0 < tn by omega)
    generalize hG : (k - ld) % tn = y at *
    refine g_lstore dX11_restAt_41 (Nat.le_of_ble_eq_true rfl) rfl ?_
    refine g_aload_n dX11_restAt_43 rfl rfl ?_
    refine g_getf dX11_restAt_44 fX11_38 mW_0 rfl ?_
    refine g_sipush (v := 512) dX11_restAt_47 (by decide) ?_
    refine g_iload_n dX11_restAt_50 rfl rfl ?_
    refine g_imul dX11_restAt_51 ?_
    rw [show (512 : Int32) = nI 512 from rfl, nI_mul]
    refine g_lload dX11_restAt_52 rfl ?_
    refine g_l2i dX11_restAt_54 ?_
    rw [nL_32]
    refine g_iadd dX11_restAt_55 ?_
    rw [nI_add]
    refine g_bald dX11_restAt_56 mA10 (vin_n (by omega) (by decide)) ?_
    rw [nI_clamp (by omega)]
    exact g_iret dX11_restAt_57 rfl rfl ⟨by rw [rsV, rIx, if_neg (by omega), hG], rfl⟩
set_option maxRecDepth 100000 in
set_option maxHeartbeats 4000000 in
theorem CX11_comL {A B : Int32} {n0 : Nat} {w : q_Wd} (y : Nat) : ∀ (x : Nat) (x4 : Option Value), x < 2 ^ 31 → y < 2 ^ 31 → Go l mX11_common n0 (q_eq (some (.int (nI (Nat.gcd x y)))) w) (0, 0) 4 [some (.int A), some (.int B), some (.int (nI x)), some (.int (nI y)), x4] [] w := by
  induction y using Nat.strongRecOn with
  | ind y ih =>
    intro x x4 hx hy
    refine g_iload_n dX11_common_4 rfl rfl ?_
    refine g_if_eq (tgt := 21) dX11_common_5 rfl (fun c_5 => ?_) (fun c_5 => ?_)
    · refine g_iload_n dX11_common_21 rfl rfl ?_
      exact g_iret dX11_common_22 rfl rfl ⟨by rw [(nI0 hy).mp c_5, Nat.gcd_zero_right], rfl⟩
    · refine g_iload_n dX11_common_8 rfl rfl ?_
      refine g_iload_n dX11_common_9 rfl rfl ?_
      refine g_irem dX11_common_10 c_5 ?_
      rw [nI_rem hx hy]
      refine g_istore dX11_common_11 (Nat.le_of_ble_eq_true rfl) rfl ?_
      refine g_iload_n dX11_common_13 rfl rfl ?_
      refine g_istore_n dX11_common_14 rfl (Nat.le_of_ble_eq_true rfl) rfl ?_
      refine g_iload dX11_common_15 rfl ?_
      refine g_istore_n dX11_common_17 rfl (Nat.le_of_ble_eq_true rfl) rfl ?_
      refine g_goto (tgt := 4) dX11_common_18 rfl ?_
      have y0 : 0 < y := Nat.pos_of_ne_zero (fun z => c_5 (by rw [z]; rfl))
      have e : Nat.gcd x y = Nat.gcd y (x % y) := by rw [Nat.gcd_comm x y, Nat.gcd_rec y x, Nat.gcd_comm]
      rw [e]
      exact Go.eq rfl rfl rfl rfl (ih (x % y) (Nat.mod_lt x y0) y _ hy (Nat.lt_trans (Nat.mod_lt x y0) hy))
set_option maxRecDepth 100000 in
set_option maxHeartbeats 4000000 in
theorem CX11_common {w : q_Wd} {x y : Nat} (hx : x < 2 ^ 31) (hy : y < 2 ^ 31) : Ct l mX11_common [.int (nI x), .int (nI y)] w (q_eq (some (.int (nI (Nat.gcd x y)))) w) := by
  refine Ct.of rfl (Nat.le_of_ble_eq_true rfl) ?_
  refine g_iload_n dX11_common_0 rfl rfl ?_
  refine g_istore_n dX11_common_1 rfl (Nat.le_of_ble_eq_true rfl) rfl ?_
  refine g_iload_n dX11_common_2 rfl rfl ?_
  refine g_istore_n dX11_common_3 rfl (Nat.le_of_ble_eq_true rfl) rfl ?_
  exact Go.eq rfl rfl rfl rfl (CX11_comL y x none hx hy)
set_option maxRecDepth 100000 in
set_option maxHeartbeats 4000000 in
theorem CX11_madeRest (hq : q ≤ 8) (hm : 2 ≤ m ∧ m ≤ 10) (hk : k ≤ 100000) {lda tna ldb tnb nn ss : Nat} (ea : σ 2 (4 * q) = nI a) (HA : mRq σ a lda tna) (hB : σ 1 q = 1 ∨ σ 1 q = 2 → σ 2 (4 * q + 1) = nI b ∧ mRq σ b ldb tnb) (hE : σ 1 q = 3 → σ 2 (4 * q + 1) = nI nn ∧ nn ≤ 5 ∧ σ 2 (4 * q + 2) = nI ss ∧ ss ≤ 9) : Ct l mX11_madeRest [.ref 0, .int (nI q), .int (nI k), .int (nI m)] (mW σ t) (q_eq (some (.int (mrV (σ 1 q) (rsV σ a lda tna) (rsV σ b ldb tnb) (nI m) nn ss k))) (mW σ t)) := by
  refine Ct.of rfl (Nat.le_of_ble_eq_true rfl) ?_
  have hm0 : ¬ nI m = 0 := fun z => by have := (nI0 (n := m) (by omega)).mp z; omega
  refine g_aload_n dX11_madeRest_0 rfl rfl ?_
  refine g_getf dX11_madeRest_1 fX11_13 mW_0 rfl ?_
  refine g_iconst (v := 4) dX11_madeRest_4 (by decide) ?_
  refine g_iload_n dX11_madeRest_5 rfl rfl ?_
  refine g_imul dX11_madeRest_6 ?_
  rw [jx4]
  refine g_iald dX11_madeRest_7 mA2 (vin_n (by omega) (by decide)) ?_
  rw [nI_clamp (by omega), ea]
  refine g_istore dX11_madeRest_8 (Nat.le_of_ble_eq_true rfl) rfl ?_
  refine g_aload_n dX11_madeRest_10 rfl rfl ?_
  refine g_getf dX11_madeRest_11 fX11_7 mW_0 rfl ?_
  refine g_iload_n dX11_madeRest_14 rfl rfl ?_
  refine g_iald dX11_madeRest_15 mA1 (vin_n (by omega) (by decide)) ?_
  rw [nI_clamp (by omega)]
  refine g_case (1) (fun s_16_0 => ?_) (fun s_16_0 => ?_)
  · refine g_tblEq (off := 28) (tgt := 44) dX11_madeRest_16 s_16_0 (by decide) (by decide) rfl rfl ?_
    obtain ⟨eb, hb⟩ := hB (Or.inl s_16_0)
    refine g_aload_n dX11_madeRest_44 rfl rfl ?_
    refine g_iload dX11_madeRest_45 rfl ?_
    refine g_iload_n dX11_madeRest_47 rfl rfl ?_
    refine g_i2l dX11_madeRest_48 ?_
    rw [nI_64 (k := k) (by omega)]
    refine g_V2r (CX11_restAt HA (by omega)) kX11_madeRest_162 dX11_madeRest_49 mW_0 rfl ⟨rfl, rfl⟩ (Nat.le_of_ble_eq_true rfl) ⟨(Nat.le_of_ble_eq_true rfl), (Nat.le_of_ble_eq_true rfl)⟩ ?_
    refine g_aload_n dX11_madeRest_52 rfl rfl ?_
    refine g_aload_n dX11_madeRest_53 rfl rfl ?_
    refine g_getf dX11_madeRest_54 fX11_13 mW_0 rfl ?_
    refine g_iconst (v := 4) dX11_madeRest_57 (by decide) ?_
    refine g_iload_n dX11_madeRest_58 rfl rfl ?_
    refine g_imul dX11_madeRest_59 ?_
    refine g_iconst (v := 1) dX11_madeRest_60 (by decide) ?_
    refine g_iadd dX11_madeRest_61 ?_
    rw [jx41]
    refine g_iald dX11_madeRest_62 mA2 (vin_n (by omega) (by decide)) ?_
    rw [nI_clamp (by omega), eb]
    refine g_iload_n dX11_madeRest_63 rfl rfl ?_
    refine g_i2l dX11_madeRest_64 ?_
    rw [nI_64 (k := k) (by omega)]
    refine g_V2r (CX11_restAt hb (by omega)) kX11_madeRest_162 dX11_madeRest_65 mW_0 rfl ⟨rfl, rfl⟩ (Nat.le_of_ble_eq_true rfl) ⟨(Nat.le_of_ble_eq_true rfl), (Nat.le_of_ble_eq_true rfl)⟩ ?_
    refine g_iadd dX11_madeRest_68 ?_
    refine g_iload_n dX11_madeRest_69 rfl rfl ?_
    refine g_irem dX11_madeRest_70 hm0 ?_
    exact g_iret dX11_madeRest_71 rfl rfl ⟨by rw [mrV, if_pos s_16_0]; rfl, rfl⟩
  · refine g_case (2) (fun s_16_1 => ?_) (fun s_16_1 => ?_)
    · refine g_tblEq (off := 56) (tgt := 72) dX11_madeRest_16 s_16_1 (by decide) (by decide) rfl rfl ?_
      obtain ⟨eb, hb⟩ := hB (Or.inr s_16_1)
      refine g_aload_n dX11_madeRest_72 rfl rfl ?_
      refine g_iload dX11_madeRest_73 rfl ?_
      refine g_iload_n dX11_madeRest_75 rfl rfl ?_
      refine g_i2l dX11_madeRest_76 ?_
      rw [nI_64 (k := k) (by omega)]
      refine g_V2r (CX11_restAt HA (by omega)) kX11_madeRest_162 dX11_madeRest_77 mW_0 rfl ⟨rfl, rfl⟩ (Nat.le_of_ble_eq_true rfl) ⟨(Nat.le_of_ble_eq_true rfl), (Nat.le_of_ble_eq_true rfl)⟩ ?_
      refine g_aload_n dX11_madeRest_80 rfl rfl ?_
      refine g_aload_n dX11_madeRest_81 rfl rfl ?_
      refine g_getf dX11_madeRest_82 fX11_13 mW_0 rfl ?_
      refine g_iconst (v := 4) dX11_madeRest_85 (by decide) ?_
      refine g_iload_n dX11_madeRest_86 rfl rfl ?_
      refine g_imul dX11_madeRest_87 ?_
      refine g_iconst (v := 1) dX11_madeRest_88 (by decide) ?_
      refine g_iadd dX11_madeRest_89 ?_
      rw [jx41]
      refine g_iald dX11_madeRest_90 mA2 (vin_n (by omega) (by decide)) ?_
      rw [nI_clamp (by omega), eb]
      refine g_iload_n dX11_madeRest_91 rfl rfl ?_
      refine g_i2l dX11_madeRest_92 ?_
      rw [nI_64 (k := k) (by omega)]
      refine g_V2r (CX11_restAt hb (by omega)) kX11_madeRest_162 dX11_madeRest_93 mW_0 rfl ⟨rfl, rfl⟩ (Nat.le_of_ble_eq_true rfl) ⟨(Nat.le_of_ble_eq_true rfl), (Nat.le_of_ble_eq_true rfl)⟩ ?_
      refine g_imul dX11_madeRest_96 ?_
      refine g_iload_n dX11_madeRest_97 rfl rfl ?_
      refine g_irem dX11_madeRest_98 hm0 ?_
      exact g_iret dX11_madeRest_99 rfl rfl ⟨by rw [mrV, if_neg s_16_0, if_pos s_16_1]; rfl, rfl⟩
    · refine g_case (3) (fun s_16_2 => ?_) (fun s_16_2 => ?_)
      · refine g_tblEq (off := 84) (tgt := 100) dX11_madeRest_16 s_16_2 (by decide) (by decide) rfl rfl ?_
        obtain ⟨en, hn5, es, hs9⟩ := hE s_16_2
        have hnk : nn * k ≤ 5 * 100000 := Nat.mul_le_mul hn5 hk
        refine g_aload_n dX11_madeRest_100 rfl rfl ?_
        refine g_iload dX11_madeRest_101 rfl ?_
        refine g_aload_n dX11_madeRest_103 rfl rfl ?_
        refine g_getf dX11_madeRest_104 fX11_13 mW_0 rfl ?_
        refine g_iconst (v := 4) dX11_madeRest_107 (by decide) ?_
        refine g_iload_n dX11_madeRest_108 rfl rfl ?_
        refine g_imul dX11_madeRest_109 ?_
        refine g_iconst (v := 1) dX11_madeRest_110 (by decide) ?_
        refine g_iadd dX11_madeRest_111 ?_
        rw [jx41]
        refine g_iald dX11_madeRest_112 mA2 (vin_n (by omega) (by decide)) ?_
        rw [nI_clamp (by omega), en]
        refine g_iload_n dX11_madeRest_113 rfl rfl ?_
        refine g_imul dX11_madeRest_114 ?_
        refine g_aload_n dX11_madeRest_115 rfl rfl ?_
        refine g_getf dX11_madeRest_116 fX11_13 mW_0 rfl ?_
        refine g_iconst (v := 4) dX11_madeRest_119 (by decide) ?_
        refine g_iload_n dX11_madeRest_120 rfl rfl ?_
        refine g_imul dX11_madeRest_121 ?_
        refine g_iconst (v := 2) dX11_madeRest_122 (by decide) ?_
        refine g_iadd dX11_madeRest_123 ?_
        rw [jx42]
        refine g_iald dX11_madeRest_124 mA2 (vin_n (by omega) (by decide)) ?_
        rw [nI_clamp (by omega), es]
        refine g_iadd dX11_madeRest_125 ?_
        rw [nI_mul, nI_add]
        refine g_i2l dX11_madeRest_126 ?_
        rw [nI_64 (k := nn * k + ss) (by omega)]
        refine g_V2r (CX11_restAt HA (by omega)) kX11_madeRest_162 dX11_madeRest_127 mW_0 rfl ⟨rfl, rfl⟩ (Nat.le_of_ble_eq_true rfl) ⟨(Nat.le_of_ble_eq_true rfl), (Nat.le_of_ble_eq_true rfl)⟩ ?_
        exact g_iret dX11_madeRest_130 rfl rfl ⟨by rw [mrV, if_neg s_16_0, if_neg s_16_1, if_pos s_16_2], rfl⟩
      · refine g_tableOut (tgt := 131) dX11_madeRest_16 (by have a0 := ne_toInt (z := 1) rfl s_16_0; have a1 := ne_toInt (z := 2) rfl s_16_1; have a2 := ne_toInt (z := 3) rfl s_16_2; omega) rfl ?_
        refine g_aload_n dX11_madeRest_131 rfl rfl ?_
        refine g_iload dX11_madeRest_132 rfl ?_
        refine g_iload_n dX11_madeRest_134 rfl rfl ?_
        refine g_iconst (v := 1) dX11_madeRest_135 (by decide) ?_
        refine g_iadd dX11_madeRest_136 ?_
        rw [nI_1 k]
        refine g_i2l dX11_madeRest_137 ?_
        rw [nI_64 (k := k + 1) (by omega)]
        refine g_V2r (CX11_restAt HA (by omega)) kX11_madeRest_162 dX11_madeRest_138 mW_0 rfl ⟨rfl, rfl⟩ (Nat.le_of_ble_eq_true rfl) ⟨(Nat.le_of_ble_eq_true rfl), (Nat.le_of_ble_eq_true rfl)⟩ ?_
        refine g_aload_n dX11_madeRest_141 rfl rfl ?_
        refine g_iload dX11_madeRest_142 rfl ?_
        refine g_iload_n dX11_madeRest_144 rfl rfl ?_
        refine g_i2l dX11_madeRest_145 ?_
        rw [nI_64 (k := k) (by omega)]
        refine g_V2r (CX11_restAt HA (by omega)) kX11_madeRest_162 dX11_madeRest_146 mW_0 rfl ⟨rfl, rfl⟩ (Nat.le_of_ble_eq_true rfl) ⟨(Nat.le_of_ble_eq_true rfl), (Nat.le_of_ble_eq_true rfl)⟩ ?_
        refine g_isub dX11_madeRest_149 ?_
        refine g_iload_n dX11_madeRest_150 rfl rfl ?_
        refine g_S2r (CX11_mod hm0) kX11_madeRest_159 dX11_madeRest_151 ⟨rfl, rfl⟩ (Nat.le_of_ble_eq_true rfl) ⟨(Nat.le_of_ble_eq_true rfl), (Nat.le_of_ble_eq_true rfl)⟩ ?_
        exact g_iret dX11_madeRest_154 rfl rfl ⟨by rw [mrV, if_neg s_16_0, if_neg s_16_1, if_neg s_16_2], rfl⟩
end
