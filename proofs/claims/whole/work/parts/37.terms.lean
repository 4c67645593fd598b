theorem cmp_gt {x y : Int64} : 0 < lg_cmp x y ↔ y < x := by grind [lg_cmp]
theorem cmp_lt {x y : Int64} : lg_cmp x y < 0 ↔ x < y := by grind [lg_cmp]
theorem cmp_eq {x y : Int64} : lg_cmp x y = 0 ↔ x = y := by grind [lg_cmp]
def eof (a b : Int32) (v : Int64) : Int32 := if a = 2000000002 ∨ b = 2000000002 ∨ 1000000000 < v ∨ v < -1000000000 then 2000000002 else v.toInt32
def vAt (V : Nat → Int32) (r k : Int32) : Int32 := if 0 ≤ r ∧ r < 8 ∧ 0 ≤ k ∧ k ≤ 200 then V (r * 201 + k).toNatClampNeg else 2000000002
def mAt (V : Nat → Int32) (kd a b c k : Int32) : Int32 :=
  if kd = 3 then vAt V a (b * k + c) else if kd = 4 then eof (vAt V a k) (vAt V a (k + 1)) ((vAt V a (k + 1)).toInt64 - (vAt V a k).toInt64)
  else eof (vAt V a k) (vAt V b k) (if kd = 1 then (vAt V a k).toInt64 + (vAt V b k).toInt64 else (vAt V a k).toInt64 * (vAt V b k).toInt64)
def tlP (c d e f : Int32) : Nat → Int32 × Int32
  | 0 => (e, f)
  | k + 1 => ((tlP c d e f k).2, eof (tlP c d e f k).1 (tlP c d e f k).2 (c.toInt64 * (tlP c d e f k).2.toInt64 + d.toInt64 * (tlP c d e f k).1.toInt64))
def tl (c d e f : Int32) (k : Nat) : Int32 := (tlP c d e f k).1
theorem tl_2 {c d e f : Int32} (k : Nat) : tl c d e f (k + 2) = eof (tl c d e f k) (tl c d e f (k + 1)) (c.toInt64 * (tl c d e f (k + 1)).toInt64 + d.toInt64 * (tl c d e f k).toInt64) := rfl
/-- a stretch of a row's numbers is written -/
def ru (V : Nat → Int32) (s j : Nat) (F : Nat → Int32) : Nat → Int32 := fun q => if s ≤ q ∧ q < s + j then F (q - s) else V q
theorem ru_0 {V F : Nat → Int32} {s : Nat} : ru V s 0 F = V := by
  funext q; unfold ru; rw [if_neg (by omega)]
theorem ru_1 {V F : Nat → Int32} {s j : Nat} {x : Int32} (hx : x = F j) : upd (ru V s j F) (s + j) x = ru V s (j + 1) F := by
  funext q
  unfold upd ru
  by_cases h : q = s + j
  · subst h
    rw [if_pos rfl, if_pos (by omega), hx, Nat.add_sub_cancel_left]
  · rw [if_neg h]
    by_cases h2 : s ≤ q ∧ q < s + j
    · rw [if_pos h2, if_pos (by omega)]
    · rw [if_neg h2, if_neg (by omega)]
theorem ru_in {V F : Nat → Int32} {s j k : Nat} (h : k < j) : ru V s j F (s + k) = F k := by
  unfold ru; rw [if_pos (by omega), Nat.add_sub_cancel_left]
theorem ru_out {V F : Nat → Int32} {s j q : Nat} (h : q < s ∨ s + j ≤ q) : ru V s j F q = V q := by
  unfold ru; rw [if_neg (by omega)]
theorem put_putC {σ : Nat → Nat → Int32} {c k : Nat} {f : Nat → Int32} {x : Int32} : put (putC σ c f) c k x = putC σ c (upd f k x) := by
  funext j; unfold put putC; by_cases h : j = c <;> simp [h]
theorem putC_putC {σ : Nat → Nat → Int32} {c : Nat} {f g : Nat → Int32} : putC (putC σ c f) c g = putC σ c g := by
  funext j; unfold putC; by_cases h : j = c <;> simp [h]
theorem putC_id {σ : Nat → Nat → Int32} {c : Nat} : putC σ c (σ c) = σ := by
  funext j; unfold putC; by_cases h : j = c <;> simp [h]
theorem put_id {σ : Nat → Nat → Int32} {c k : Nat} : put σ c k (σ c k) = σ := by
  funext j i; unfold put upd; by_cases h : j = c <;> by_cases h2 : i = k <;> simp [h, h2]
theorem xC13 : ∀ f, xcell 13 f = .inr (7, [.ref 14, .int (f 1)]) := fun _ => rfl
theorem xC14 : ∀ f, xcell 14 f = .inl (0, 1608, .inl f) := fun _ => rfl
section
variable {l : Launch} {w : q_Wd} {σ : Nat → Nat → Int32}
set_option maxRecDepth 100000 in
set_option maxHeartbeats 4000000 in
theorem CX9_exactOrFar {a b : Int32} {v : Int64} : Ct l mX9_exactOrFar [.int a, .int b, .long v] w (q_eq (some (.int (eof a b v))) w) := by
  refine Ct.of rfl (Nat.le_of_ble_eq_true rfl) ?_
  refine g_iload_n dX9_exactOrFar_0 rfl rfl ?_
  refine g_ldc dX9_exactOrFar_1 tb_478 ?_
  refine g_icmp_eq (tgt := 28) dX9_exactOrFar_3 rfl (fun c_3 => ?_) (fun c_3 => ?_)
  · refine g_ldc dX9_exactOrFar_28 tb_478 ?_
    refine g_goto (tgt := 35) dX9_exactOrFar_30 rfl ?_
    exact g_iret dX9_exactOrFar_35 rfl rfl ⟨by have g1 := @cmp_gt v 1000000000; have g2 := @cmp_lt v (-1000000000); grind [eof], rfl⟩
  · refine g_iload_n dX9_exactOrFar_6 rfl rfl ?_
    refine g_ldc dX9_exactOrFar_7 tb_478 ?_
    refine g_icmp_eq (tgt := 28) dX9_exactOrFar_9 rfl (fun c_9 => ?_) (fun c_9 => ?_)
    · refine g_ldc dX9_exactOrFar_28 tb_478 ?_
      refine g_goto (tgt := 35) dX9_exactOrFar_30 rfl ?_
      exact g_iret dX9_exactOrFar_35 rfl rfl ⟨by have g1 := @cmp_gt v 1000000000; have g2 := @cmp_lt v (-1000000000); grind [eof], rfl⟩
    · refine g_lload_n dX9_exactOrFar_12 rfl rfl ?_
      refine g_ldc2 dX9_exactOrFar_13 tb_479 ?_
      refine g_lcmp dX9_exactOrFar_16 ?_
      refine g_if_gt (tgt := 28) dX9_exactOrFar_17 rfl (fun c_17 => ?_) (fun c_17 => ?_)
      · refine g_ldc dX9_exactOrFar_28 tb_478 ?_
        refine g_goto (tgt := 35) dX9_exactOrFar_30 rfl ?_
        exact g_iret dX9_exactOrFar_35 rfl rfl ⟨by have g1 := @cmp_gt v 1000000000; have g2 := @cmp_lt v (-1000000000); grind [eof], rfl⟩
      · refine g_lload_n dX9_exactOrFar_20 rfl rfl ?_
        refine g_ldc2 dX9_exactOrFar_21 tb_480 ?_
        refine g_lcmp dX9_exactOrFar_24 ?_
        refine g_if_ge (tgt := 33) dX9_exactOrFar_25 rfl (fun c_25 => ?_) (fun c_25 => ?_)
        · refine g_lload_n dX9_exactOrFar_33 rfl rfl ?_
          refine g_l2i dX9_exactOrFar_34 ?_
          exact g_iret dX9_exactOrFar_35 rfl rfl ⟨by have g1 := @cmp_gt v 1000000000; have g2 := @cmp_lt v (-1000000000); grind [eof], rfl⟩
        · refine g_ldc dX9_exactOrFar_28 tb_478 ?_
          refine g_goto (tgt := 35) dX9_exactOrFar_30 rfl ?_
          exact g_iret dX9_exactOrFar_35 rfl rfl ⟨by have g1 := @cmp_gt v 1000000000; have g2 := @cmp_lt v (-1000000000); grind [eof], rfl⟩
set_option maxRecDepth 100000 in
set_option maxHeartbeats 4000000 in
theorem CX9_forgetFrom {r : Int32} : Ct l mX9_forgetFrom [.ref 13, .int r] (xW σ) (q_eq none (xW (put σ 13 1 (if r < σ 13 1 then r else σ 13 1)))) := by
  refine Ct.of rfl (Nat.le_of_ble_eq_true rfl) ?_
  refine g_aload_n dX9_forgetFrom_0 rfl rfl ?_
  refine g_aload_n dX9_forgetFrom_1 rfl rfl ?_
  refine g_getf dX9_forgetFrom_2 fX9_15 (xW_at (by decide) xC13) rfl ?_
  refine g_iload_n dX9_forgetFrom_5 rfl rfl ?_
  refine g_S2r CJ9_min kX9_forgetFrom_19 dX9_forgetFrom_6 ⟨rfl, rfl⟩ (Nat.le_of_ble_eq_true rfl) ⟨(Nat.le_of_ble_eq_true rfl), (Nat.le_of_ble_eq_true rfl)⟩ ?_
  refine g_putf dX9_forgetFrom_9 pX9_15 (xW_at (by decide) xC13) (Nat.le_of_ble_eq_true rfl) (fun _ => rfl) (fun _ => rfl) (xW_obj xC13 rfl) ?_
  exact g_vret dX9_forgetFrom_12 rfl rfl ⟨rfl, rfl⟩
set_option maxRecDepth 100000 in
set_option maxHeartbeats 4000000 in
theorem CX9_valueAt {r k : Int32} : Ct l mX9_valueAt [.ref 13, .int r, .int k] (xW σ) (q_eq (some (.int (vAt (σ 14) r k))) (xW σ)) := by
  refine Ct.of rfl (Nat.le_of_ble_eq_true rfl) ?_
  refine g_iload_n dX9_valueAt_0 rfl rfl ?_
  refine g_if_lt (tgt := 25) dX9_valueAt_1 rfl (fun c_1 => ?_) (fun c_1 => ?_)
  · refine g_iconst (v := 0) dX9_valueAt_25 (by decide) ?_
    refine g_istore_n dX9_valueAt_26 rfl (Nat.le_of_ble_eq_true rfl) rfl ?_
    refine g_iload_n dX9_valueAt_27 rfl rfl ?_
    refine g_if_eq (tgt := 46) dX9_valueAt_28 rfl (fun c_28 => ?_) (fun c_28 => ?_)
    · refine g_ldc dX9_valueAt_46 tb_478 ?_
      exact g_iret dX9_valueAt_48 rfl rfl ⟨by grind [vAt], rfl⟩
    · refine g_aload_n dX9_valueAt_31 rfl rfl ?_
      refine g_getf dX9_valueAt_32 fX9_11 (xW_at (by decide) xC13) rfl ?_
      refine g_iload_n dX9_valueAt_35 rfl rfl ?_
      refine g_sipush (v := 201) dX9_valueAt_36 (by decide) ?_
      refine g_imul dX9_valueAt_39 ?_
      refine g_iload_n dX9_valueAt_40 rfl rfl ?_
      refine g_iadd dX9_valueAt_41 ?_
      refine g_iald dX9_valueAt_42 (xW_at (by decide) xC14) (vin_lt 1608 (by grind) (by grind) (by decide)) ?_
      refine g_goto (tgt := 48) dX9_valueAt_43 rfl ?_
      exact g_iret dX9_valueAt_48 rfl rfl ⟨by grind [vAt], rfl⟩
  · refine g_iload_n dX9_valueAt_4 rfl rfl ?_
    refine g_bipush (v := 8) dX9_valueAt_5 (by decide) ?_
    refine g_icmp_ge (tgt := 25) dX9_valueAt_7 rfl (fun c_7 => ?_) (fun c_7 => ?_)
    · refine g_iconst (v := 0) dX9_valueAt_25 (by decide) ?_
      refine g_istore_n dX9_valueAt_26 rfl (Nat.le_of_ble_eq_true rfl) rfl ?_
      refine g_iload_n dX9_valueAt_27 rfl rfl ?_
      refine g_if_eq (tgt := 46) dX9_valueAt_28 rfl (fun c_28 => ?_) (fun c_28 => ?_)
      · refine g_ldc dX9_valueAt_46 tb_478 ?_
        exact g_iret dX9_valueAt_48 rfl rfl ⟨by grind [vAt], rfl⟩
      · refine g_aload_n dX9_valueAt_31 rfl rfl ?_
        refine g_getf dX9_valueAt_32 fX9_11 (xW_at (by decide) xC13) rfl ?_
        refine g_iload_n dX9_valueAt_35 rfl rfl ?_
        refine g_sipush (v := 201) dX9_valueAt_36 (by decide) ?_
        refine g_imul dX9_valueAt_39 ?_
        refine g_iload_n dX9_valueAt_40 rfl rfl ?_
        refine g_iadd dX9_valueAt_41 ?_
        refine g_iald dX9_valueAt_42 (xW_at (by decide) xC14) (vin_lt 1608 (by grind) (by grind) (by decide)) ?_
        refine g_goto (tgt := 48) dX9_valueAt_43 rfl ?_
        exact g_iret dX9_valueAt_48 rfl rfl ⟨by grind [vAt], rfl⟩
    · refine g_iload_n dX9_valueAt_10 rfl rfl ?_
      refine g_if_lt (tgt := 25) dX9_valueAt_11 rfl (fun c_11 => ?_) (fun c_11 => ?_)
      · refine g_iconst (v := 0) dX9_valueAt_25 (by decide) ?_
        refine g_istore_n dX9_valueAt_26 rfl (Nat.le_of_ble_eq_true rfl) rfl ?_
        refine g_iload_n dX9_valueAt_27 rfl rfl ?_
        refine g_if_eq (tgt := 46) dX9_valueAt_28 rfl (fun c_28 => ?_) (fun c_28 => ?_)
        · refine g_ldc dX9_valueAt_46 tb_478 ?_
          exact g_iret dX9_valueAt_48 rfl rfl ⟨by grind [vAt], rfl⟩
        · refine g_aload_n dX9_valueAt_31 rfl rfl ?_
          refine g_getf dX9_valueAt_32 fX9_11 (xW_at (by decide) xC13) rfl ?_
          refine g_iload_n dX9_valueAt_35 rfl rfl ?_
          refine g_sipush (v := 201) dX9_valueAt_36 (by decide) ?_
          refine g_imul dX9_valueAt_39 ?_
          refine g_iload_n dX9_valueAt_40 rfl rfl ?_
          refine g_iadd dX9_valueAt_41 ?_
          refine g_iald dX9_valueAt_42 (xW_at (by decide) xC14) (vin_lt 1608 (by grind) (by grind) (by decide)) ?_
          refine g_goto (tgt := 48) dX9_valueAt_43 rfl ?_
          exact g_iret dX9_valueAt_48 rfl rfl ⟨by grind [vAt], rfl⟩
      · refine g_iload_n dX9_valueAt_14 rfl rfl ?_
        refine g_sipush (v := 200) dX9_valueAt_15 (by decide) ?_
        refine g_icmp_gt (tgt := 25) dX9_valueAt_18 rfl (fun c_18 => ?_) (fun c_18 => ?_)
        · refine g_iconst (v := 0) dX9_valueAt_25 (by decide) ?_
          refine g_istore_n dX9_valueAt_26 rfl (Nat.le_of_ble_eq_true rfl) rfl ?_
          refine g_iload_n dX9_valueAt_27 rfl rfl ?_
          refine g_if_eq (tgt := 46) dX9_valueAt_28 rfl (fun c_28 => ?_) (fun c_28 => ?_)
          · refine g_ldc dX9_valueAt_46 tb_478 ?_
            exact g_iret dX9_valueAt_48 rfl rfl ⟨by grind [vAt], rfl⟩
          · refine g_aload_n dX9_valueAt_31 rfl rfl ?_
            refine g_getf dX9_valueAt_32 fX9_11 (xW_at (by decide) xC13) rfl ?_
            refine g_iload_n dX9_valueAt_35 rfl rfl ?_
            refine g_sipush (v := 201) dX9_valueAt_36 (by decide) ?_
            refine g_imul dX9_valueAt_39 ?_
            refine g_iload_n dX9_valueAt_40 rfl rfl ?_
            refine g_iadd dX9_valueAt_41 ?_
            refine g_iald dX9_valueAt_42 (xW_at (by decide) xC14) (vin_lt 1608 (by grind) (by grind) (by decide)) ?_
            refine g_goto (tgt := 48) dX9_valueAt_43 rfl ?_
            exact g_iret dX9_valueAt_48 rfl rfl ⟨by grind [vAt], rfl⟩
        · refine g_iconst (v := 1) dX9_valueAt_21 (by decide) ?_
          refine g_goto (tgt := 26) dX9_valueAt_22 rfl ?_
          refine g_istore_n dX9_valueAt_26 rfl (Nat.le_of_ble_eq_true rfl) rfl ?_
          refine g_iload_n dX9_valueAt_27 rfl rfl ?_
          refine g_if_eq (tgt := 46) dX9_valueAt_28 rfl (fun c_28 => ?_) (fun c_28 => ?_)
          · refine g_ldc dX9_valueAt_46 tb_478 ?_
            exact g_iret dX9_valueAt_48 rfl rfl ⟨by grind [vAt], rfl⟩
          · refine g_aload_n dX9_valueAt_31 rfl rfl ?_
            refine g_getf dX9_valueAt_32 fX9_11 (xW_at (by decide) xC13) rfl ?_
            refine g_iload_n dX9_valueAt_35 rfl rfl ?_
            refine g_sipush (v := 201) dX9_valueAt_36 (by decide) ?_
            refine g_imul dX9_valueAt_39 ?_
            refine g_iload_n dX9_valueAt_40 rfl rfl ?_
            refine g_iadd dX9_valueAt_41 ?_
            refine g_iald dX9_valueAt_42 (xW_at (by decide) xC14) (vin_lt 1608 (by grind) (by grind) (by decide)) ?_
            refine g_goto (tgt := 48) dX9_valueAt_43 rfl ?_
            exact g_iret dX9_valueAt_48 rfl rfl ⟨by grind [vAt], rfl⟩
set_option maxRecDepth 100000 in
set_option maxHeartbeats 4000000 in
theorem CX9_madeAt {kd a b c k : Int32} : Ct l mX9_madeAt [.ref 13, .int kd, .int a, .int b, .int c, .int k] (xW σ) (q_eq (some (.int (mAt (σ 14) kd a b c k))) (xW σ)) := by
  refine Ct.of rfl (Nat.le_of_ble_eq_true rfl) ?_
  refine g_iload_n dX9_madeAt_0 rfl rfl ?_
  refine g_iconst (v := 3) dX9_madeAt_1 (by decide) ?_
  refine g_icmp_ne (tgt := 18) dX9_madeAt_2 rfl (fun c_2 => ?_) (fun c_2 => ?_)
  · refine g_aload_n dX9_madeAt_18 rfl rfl ?_
    refine g_iload_n dX9_madeAt_19 rfl rfl ?_
    refine g_iload dX9_madeAt_20 rfl ?_
    refine g_V2r CX9_valueAt kX9_madeAt_29 dX9_madeAt_22 (xW_at (by decide) xC13) rfl ⟨rfl, rfl⟩ (Nat.le_of_ble_eq_true rfl) ⟨(Nat.le_of_ble_eq_true rfl), (Nat.le_of_ble_eq_true rfl)⟩ ?_
    refine g_istore dX9_madeAt_25 (Nat.le_of_ble_eq_true rfl) rfl ?_
    refine g_iload_n dX9_madeAt_27 rfl rfl ?_
    refine g_iconst (v := 4) dX9_madeAt_28 (by decide) ?_
    refine g_icmp_ne (tgt := 58) dX9_madeAt_29 rfl (fun c_29 => ?_) (fun c_29 => ?_)
    · refine g_aload_n dX9_madeAt_58 rfl rfl ?_
      refine g_iload_n dX9_madeAt_59 rfl rfl ?_
      refine g_iload dX9_madeAt_60 rfl ?_
      refine g_V2r CX9_valueAt kX9_madeAt_29 dX9_madeAt_62 (xW_at (by decide) xC13) rfl ⟨rfl, rfl⟩ (Nat.le_of_ble_eq_true rfl) ⟨(Nat.le_of_ble_eq_true rfl), (Nat.le_of_ble_eq_true rfl)⟩ ?_
      refine g_istore dX9_madeAt_65 (Nat.le_of_ble_eq_true rfl) rfl ?_
      refine g_iload dX9_madeAt_67 rfl ?_
      refine g_iload dX9_madeAt_69 rfl ?_
      refine g_iload_n dX9_madeAt_71 rfl rfl ?_
      refine g_iconst (v := 1) dX9_madeAt_72 (by decide) ?_
      refine g_icmp_ne (tgt := 86) dX9_madeAt_73 rfl (fun c_73 => ?_) (fun c_73 => ?_)
      · refine g_iload dX9_madeAt_86 rfl ?_
        refine g_i2l dX9_madeAt_88 ?_
        refine g_iload dX9_madeAt_89 rfl ?_
        refine g_i2l dX9_madeAt_91 ?_
        refine g_lmul dX9_madeAt_92 ?_
        refine g_S3r CX9_exactOrFar kX9_madeAt_50 dX9_madeAt_93 ⟨rfl, rfl⟩ (Nat.le_of_ble_eq_true rfl) ⟨(Nat.le_of_ble_eq_true rfl), (Nat.le_of_ble_eq_true rfl)⟩ ?_
        exact g_iret dX9_madeAt_96 rfl rfl ⟨by simp [mAt, *], rfl⟩
      · refine g_iload dX9_madeAt_76 rfl ?_
        refine g_i2l dX9_madeAt_78 ?_
        refine g_iload dX9_madeAt_79 rfl ?_
        refine g_i2l dX9_madeAt_81 ?_
        refine g_ladd dX9_madeAt_82 ?_
        refine g_goto (tgt := 93) dX9_madeAt_83 rfl ?_
        refine g_S3r CX9_exactOrFar kX9_madeAt_50 dX9_madeAt_93 ⟨rfl, rfl⟩ (Nat.le_of_ble_eq_true rfl) ⟨(Nat.le_of_ble_eq_true rfl), (Nat.le_of_ble_eq_true rfl)⟩ ?_
        exact g_iret dX9_madeAt_96 rfl rfl ⟨by simp [mAt, *], rfl⟩
    · refine g_aload_n dX9_madeAt_32 rfl rfl ?_
      refine g_iload_n dX9_madeAt_33 rfl rfl ?_
      refine g_iload dX9_madeAt_34 rfl ?_
      refine g_iconst (v := 1) dX9_madeAt_36 (by decide) ?_
      refine g_iadd dX9_madeAt_37 ?_
      refine g_V2r CX9_valueAt kX9_madeAt_29 dX9_madeAt_38 (xW_at (by decide) xC13) rfl ⟨rfl, rfl⟩ (Nat.le_of_ble_eq_true rfl) ⟨(Nat.le_of_ble_eq_true rfl), (Nat.le_of_ble_eq_true rfl)⟩ ?_
      refine g_istore dX9_madeAt_41 (Nat.le_of_ble_eq_true rfl) rfl ?_
      refine g_iload dX9_madeAt_43 rfl ?_
      refine g_iload dX9_madeAt_45 rfl ?_
      refine g_iload dX9_madeAt_47 rfl ?_
      refine g_i2l dX9_madeAt_49 ?_
      refine g_iload dX9_madeAt_50 rfl ?_
      refine g_i2l dX9_madeAt_52 ?_
      refine g_lsub dX9_madeAt_53 ?_
      refine g_S3r CX9_exactOrFar kX9_madeAt_50 dX9_madeAt_54 ⟨rfl, rfl⟩ (Nat.le_of_ble_eq_true rfl) ⟨(Nat.le_of_ble_eq_true rfl), (Nat.le_of_ble_eq_true rfl)⟩ ?_
      exact g_iret dX9_madeAt_57 rfl rfl ⟨by simp [mAt, *], rfl⟩
  · refine g_aload_n dX9_madeAt_5 rfl rfl ?_
    refine g_iload_n dX9_madeAt_6 rfl rfl ?_
    refine g_iload_n dX9_madeAt_7 rfl rfl ?_
    refine g_iload dX9_madeAt_8 rfl ?_
    refine g_imul dX9_madeAt_10 ?_
    refine g_iload dX9_madeAt_11 rfl ?_
    refine g_iadd dX9_madeAt_13 ?_
    refine g_V2r CX9_valueAt kX9_madeAt_29 dX9_madeAt_14 (xW_at (by decide) xC13) rfl ⟨rfl, rfl⟩ (Nat.le_of_ble_eq_true rfl) ⟨(Nat.le_of_ble_eq_true rfl), (Nat.le_of_ble_eq_true rfl)⟩ ?_
    exact g_iret dX9_madeAt_17 rfl rfl ⟨by simp [mAt, *], rfl⟩
theorem xS14 {σ : Nat → Nat → Int32} {V F : Nat → Int32} {s j k : Nat} {x : Int32} (hk : k = s + j) (hx : x = F j) : (xW (putC σ 14 (ru V s j F))).set 14 (.inl (0, 1608, .inl (upd (putC σ 14 (ru V s j F) 14) k x))) = xW (putC σ 14 (ru V s (j + 1) F)) := by
  rw [xW_arr xC14, put_putC, hk, ru_1 hx]
set_option maxRecDepth 100000 in
set_option maxHeartbeats 4000000 in
theorem CX9_fillTold_loop {s n0 : Nat} (hs : s + 201 ≤ 1608) {c dd e f : Int32} : ∀ (d j : Nat) (x7 x8 : Option Value), 2 ≤ j → j + d = 201 → Go l mX9_fillTold n0 (q_eq none (xW (putC σ 14 (ru (σ 14) s 201 (tl c dd e f))))) (0, 0) 23 [some (.ref 13), some (.int (nI s)), some (.int c), some (.int dd), some (.int e), some (.int f), some (.int (nI (s + j))), x7, x8] [] (xW (putC σ 14 (ru (σ 14) s j (tl c dd e f)))) := by
  intro d
  induction d with
  | zero =>
    intro j x7 x8 h2 hj
    have e1 : j = 201 := by omega
    subst e1
    have b2 : nI s + 200 = nI (s + 200) := nI_add s 200
    have b3 : nI (s + 200) < nI (s + 201) := nI_lt (by omega) (by omega)
    refine g_iload dX9_fillTold_23 rfl ?_
    refine g_iload_n dX9_fillTold_25 rfl rfl ?_
    refine g_sipush (v := 200) dX9_fillTold_26 (by decide) ?_
    refine g_iadd dX9_fillTold_29 ?_
    refine g_icmp_gt (tgt := 88) dX9_fillTold_30 rfl (fun c_30 => ?_) (fun c_30 => by exfalso; grind)
    exact g_vret dX9_fillTold_88 rfl rfl ⟨rfl, rfl⟩
  | succ d ih =>
    intro j x7 x8 h2 hj
    obtain ⟨b0, b1⟩ := nI_bd (n := s + j) (m := 1608) (by omega) (by decide)
    replace b1 : nI (s + j) < 1608 := b1
    have b2 : nI s + 200 = nI (s + 200) := nI_add s 200
    have b3 : nI (s + j) ≤ nI (s + 200) := nI_le (by omega) (by omega)
    have b4 : 2 ≤ nI (s + j) := nI_le (a := 2) (by omega) (by omega)
    refine g_iload dX9_fillTold_23 rfl ?_
    refine g_iload_n dX9_fillTold_25 rfl rfl ?_
    refine g_sipush (v := 200) dX9_fillTold_26 (by decide) ?_
    refine g_iadd dX9_fillTold_29 ?_
    refine g_icmp_gt (tgt := 88) dX9_fillTold_30 rfl (fun c_30 => by exfalso; grind) (fun c_30 => ?_)
    refine g_aload_n dX9_fillTold_33 rfl rfl ?_
    refine g_getf dX9_fillTold_34 fX9_11 (xW_at (by decide) xC13) rfl ?_
    refine g_iload dX9_fillTold_37 rfl ?_
    refine g_iconst (v := 1) dX9_fillTold_39 (by decide) ?_
    refine g_isub dX9_fillTold_40 ?_
    refine g_iald dX9_fillTold_41 (xW_at (by decide) xC14) (vin_lt 1608 (by grind) (by grind) (by decide)) ?_
    refine Go.eq rfl rfl (show _ = [Value.int (tl c dd e f (j - 1))] from congrArg (fun z => [Value.int z]) (by rw [show (nI (s + j) - 1).toNatClampNeg = s + (j - 1) by rw [show nI (s + j) - 1 = nI (s + (j - 1)) by rw [show (1 : Int32) = nI 1 from rfl, nI_sub (by omega)]; congr 1; omega, nI_clamp (by omega)]]; exact ru_in (by omega))) rfl ?_
    refine g_istore dX9_fillTold_42 (Nat.le_of_ble_eq_true rfl) rfl ?_
    refine g_aload_n dX9_fillTold_44 rfl rfl ?_
    refine g_getf dX9_fillTold_45 fX9_11 (xW_at (by decide) xC13) rfl ?_
    refine g_iload dX9_fillTold_48 rfl ?_
    refine g_iconst (v := 2) dX9_fillTold_50 (by decide) ?_
    refine g_isub dX9_fillTold_51 ?_
    refine g_iald dX9_fillTold_52 (xW_at (by decide) xC14) (vin_lt 1608 (by grind) (by grind) (by decide)) ?_
    refine Go.eq rfl rfl (show _ = [Value.int (tl c dd e f (j - 2))] from congrArg (fun z => [Value.int z]) (by rw [show (nI (s + j) - 2).toNatClampNeg = s + (j - 2) by rw [show nI (s + j) - 2 = nI (s + (j - 2)) by rw [show (2 : Int32) = nI 2 from rfl, nI_sub (by omega)]; congr 1; omega, nI_clamp (by omega)]]; exact ru_in (by omega))) rfl ?_
    refine g_istore dX9_fillTold_53 (Nat.le_of_ble_eq_true rfl) rfl ?_
    refine g_aload_n dX9_fillTold_55 rfl rfl ?_
    refine g_getf dX9_fillTold_56 fX9_11 (xW_at (by decide) xC13) rfl ?_
    refine g_iload dX9_fillTold_59 rfl ?_
    refine g_iload dX9_fillTold_61 rfl ?_
    refine g_iload dX9_fillTold_63 rfl ?_
    refine g_iload_n dX9_fillTold_65 rfl rfl ?_
    refine g_i2l dX9_fillTold_66 ?_
    refine g_iload dX9_fillTold_67 rfl ?_
    refine g_i2l dX9_fillTold_69 ?_
    refine g_lmul dX9_fillTold_70 ?_
    refine g_iload_n dX9_fillTold_71 rfl rfl ?_
    refine g_i2l dX9_fillTold_72 ?_
    refine g_iload dX9_fillTold_73 rfl ?_
    refine g_i2l dX9_fillTold_75 ?_
    refine g_lmul dX9_fillTold_76 ?_
    refine g_ladd dX9_fillTold_77 ?_
    refine g_S3r CX9_exactOrFar kX9_fillTold_50 dX9_fillTold_78 ⟨rfl, rfl⟩ (Nat.le_of_ble_eq_true rfl) ⟨(Nat.le_of_ble_eq_true rfl), (Nat.le_of_ble_eq_true rfl)⟩ ?_
    refine g_iast dX9_fillTold_81 (xW_at (by decide) xC14) (vin_lt 1608 (by grind) (by grind) (by decide)) (xS14 (nI_clamp (by omega)) (by obtain ⟨q, rfl⟩ : ∃ q, j = q + 2 := ⟨j - 2, by omega⟩; exact (tl_2 q).symm)) ?_
    refine g_iinc (v := 1) dX9_fillTold_82 (by decide) rfl (Nat.le_of_ble_eq_true rfl) rfl ?_
    refine g_goto (tgt := 23) dX9_fillTold_85 rfl ?_
    exact Go.eq rfl (show _ = _ by rw [show s + (j + 1) = s + j + 1 by omega, ← nI_1 (s + j)]; rfl) rfl rfl (ih (j + 1) _ _ (by omega) (by omega))
set_option maxRecDepth 100000 in
set_option maxHeartbeats 4000000 in
theorem CX9_fillTold {s : Nat} (hs : s + 201 ≤ 1608) {c dd e f : Int32} : Ct l mX9_fillTold [.ref 13, .int (nI s), .int c, .int dd, .int e, .int f] (xW σ) (q_eq none (xW (putC σ 14 (ru (σ 14) s 201 (tl c dd e f))))) := by
  obtain ⟨b0, b1⟩ := nI_bd (n := s) (m := 1408) (by omega) (by decide)
  replace b1 : nI s < 1408 := b1
  have e0 : σ = putC σ 14 (ru (σ 14) s 0 (tl c dd e f)) := by rw [ru_0, putC_id]
  refine Ct.of rfl (Nat.le_of_ble_eq_true rfl) ?_
  refine Go.eq rfl rfl rfl (show xW σ = xW (putC σ 14 (ru (σ 14) s 0 (tl c dd e f))) by rw [← e0]) ?_
  refine g_aload_n dX9_fillTold_0 rfl rfl ?_
  refine g_getf dX9_fillTold_1 fX9_11 (xW_at (by decide) xC13) rfl ?_
  refine g_iload_n dX9_fillTold_4 rfl rfl ?_
  refine g_iload dX9_fillTold_5 rfl ?_
  refine g_iast dX9_fillTold_7 (xW_at (by decide) xC14) (vin_lt 1608 (by grind) (by grind) (by decide)) (xS14 (j := 0) (nI_clamp (by omega)) rfl) ?_
  refine g_aload_n dX9_fillTold_8 rfl rfl ?_
  refine g_getf dX9_fillTold_9 fX9_11 (xW_at (by decide) xC13) rfl ?_
  refine g_iload_n dX9_fillTold_12 rfl rfl ?_
  refine g_iconst (v := 1) dX9_fillTold_13 (by decide) ?_
  refine g_iadd dX9_fillTold_14 ?_
  refine g_iload dX9_fillTold_15 rfl ?_
  refine g_iast dX9_fillTold_17 (xW_at (by decide) xC14) (vin_lt 1608 (by grind) (by grind) (by decide)) (xS14 (j := 1) (by rw [show nI s + 1 = nI (s + 1) from nI_1 s]; exact nI_clamp (by omega)) rfl) ?_
  refine g_iload_n dX9_fillTold_18 rfl rfl ?_
  refine g_iconst (v := 2) dX9_fillTold_19 (by decide) ?_
  refine g_iadd dX9_fillTold_20 ?_
  refine g_istore dX9_fillTold_21 (Nat.le_of_ble_eq_true rfl) rfl ?_
  exact Go.eq rfl (show _ = _ by rw [← nI_add s 2]; rfl) rfl rfl (CX9_fillTold_loop hs 199 2 none none (by omega) (by omega))
end
