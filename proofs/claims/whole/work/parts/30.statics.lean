def bI (p : Prop) [Decidable p] : Int32 := if p then 1 else 0
theorem bI_t {p : Prop} [Decidable p] (h : p) : bI p = 1 := if_pos h
theorem bI_f {p : Prop} [Decidable p] (h : ¬ p) : bI p = 0 := if_neg h
theorem bI_1 {p : Prop} [Decidable p] : bI p = 1 ↔ p := by
  unfold bI; by_cases h : p <;> simp [h]
theorem bI_0 {p : Prop} [Decidable p] : bI p = 0 ↔ ¬ p := by
  unfold bI; by_cases h : p <;> simp [h]
theorem bI_and {p : Prop} [Decidable p] : bI p &&& 1 = bI p := by
  unfold bI; by_cases h : p <;> simp [h] <;> decide
/-- Java's remainder -/
def jrem (x y : Int32) : Int32 := x - x / y * y
def jfm (x m : Int32) : Int32 := if x ^^^ m < 0 ∧ ¬ jrem x m = 0 then jrem x m + m else jrem x m
def nums (k : Int32) : Int32 := if k = 0 then 4 else if k = 3 then 3 else if k = 4 then 1 else 2
def abov (k : Int32) : Int32 := if k = 1 ∨ k = 2 then 5 else if k = 3 ∨ k = 4 then 6 else k
def tellable (c d e f : Int32) : Prop := (-9 ≤ c ∧ c ≤ 9) ∧ (-9 ≤ d ∧ d ≤ 9) ∧ (-999 ≤ e ∧ e ≤ 999) ∧ (-999 ≤ f ∧ f ≤ 999)
def signI (v : Int32) : Int32 := if v = 0 then 0 else if 0 < v then 1 else -1
section
variable {l : Launch} {w : q_Wd}
set_option maxRecDepth 100000 in
set_option maxHeartbeats 4000000 in
theorem CX10_isWithin {v a b : Int32} : Ct l mX10_isWithin [.int v, .int a, .int b] w (q_eq (some (.int (bI (a ≤ v ∧ v ≤ b)))) w) := by
  refine Ct.of rfl (Nat.le_of_ble_eq_true rfl) ?_
  refine g_iload_n dX10_isWithin_0 rfl rfl ?_
  refine g_iload_n dX10_isWithin_1 rfl rfl ?_
  refine g_icmp_lt (tgt := 14) dX10_isWithin_2 rfl (fun c_2 => ?_) (fun c_2 => ?_)
  · refine g_iconst (v := 0) dX10_isWithin_14 (by decide) ?_
    exact g_zret dX10_isWithin_15 rfl rfl (by first | decide | exact bI_and) ⟨by first | rfl | grind [bI, nums, abov, signI], rfl⟩
  · refine g_iload_n dX10_isWithin_5 rfl rfl ?_
    refine g_iload_n dX10_isWithin_6 rfl rfl ?_
    refine g_icmp_gt (tgt := 14) dX10_isWithin_7 rfl (fun c_7 => ?_) (fun c_7 => ?_)
    · refine g_iconst (v := 0) dX10_isWithin_14 (by decide) ?_
      exact g_zret dX10_isWithin_15 rfl rfl (by first | decide | exact bI_and) ⟨by first | rfl | grind [bI, nums, abov, signI], rfl⟩
    · refine g_iconst (v := 1) dX10_isWithin_10 (by decide) ?_
      refine g_goto (tgt := 15) dX10_isWithin_11 rfl ?_
      exact g_zret dX10_isWithin_15 rfl rfl (by first | decide | exact bI_and) ⟨by first | rfl | grind [bI, nums, abov, signI], rfl⟩
set_option maxRecDepth 100000 in
set_option maxHeartbeats 4000000 in
theorem CX10_isModulus {v : Int32} : Ct l mX10_isModulus [.int v] w (q_eq (some (.int (bI (2 ≤ v ∧ v ≤ 10)))) w) := by
  refine Ct.of rfl (Nat.le_of_ble_eq_true rfl) ?_
  refine g_iload_n dX10_isModulus_0 rfl rfl ?_
  refine g_iconst (v := 2) dX10_isModulus_1 (by decide) ?_
  refine g_bipush (v := 10) dX10_isModulus_2 (by decide) ?_
  refine g_S3r CX10_isWithin kX10_isModulus_76 dX10_isModulus_4 ⟨rfl, rfl⟩ (Nat.le_of_ble_eq_true rfl) ⟨(Nat.le_of_ble_eq_true rfl), (Nat.le_of_ble_eq_true rfl)⟩ ?_
  exact g_zret dX10_isModulus_7 rfl rfl (by first | decide | exact bI_and) ⟨rfl, rfl⟩
set_option maxRecDepth 100000 in
set_option maxHeartbeats 4000000 in
theorem CX10_isPrime {v : Int32} : Ct l mX10_isPrime [.int v] w (q_eq (some (.int (bI (v = 2 ∨ v = 3 ∨ v = 5 ∨ v = 7)))) w) := by
  refine Ct.of rfl (Nat.le_of_ble_eq_true rfl) ?_
  refine g_iload_n dX10_isPrime_0 rfl rfl ?_
  refine g_iconst (v := 2) dX10_isPrime_1 (by decide) ?_
  refine g_icmp_eq (tgt := 21) dX10_isPrime_2 rfl (fun c_2 => ?_) (fun c_2 => ?_)
  · refine g_iconst (v := 1) dX10_isPrime_21 (by decide) ?_
    refine g_goto (tgt := 26) dX10_isPrime_22 rfl ?_
    exact g_zret dX10_isPrime_26 rfl rfl (by first | decide | exact bI_and) ⟨by first | rfl | grind [bI, nums, abov, signI], rfl⟩
  · refine g_iload_n dX10_isPrime_5 rfl rfl ?_
    refine g_iconst (v := 3) dX10_isPrime_6 (by decide) ?_
    refine g_icmp_eq (tgt := 21) dX10_isPrime_7 rfl (fun c_7 => ?_) (fun c_7 => ?_)
    · refine g_iconst (v := 1) dX10_isPrime_21 (by decide) ?_
      refine g_goto (tgt := 26) dX10_isPrime_22 rfl ?_
      exact g_zret dX10_isPrime_26 rfl rfl (by first | decide | exact bI_and) ⟨by first | rfl | grind [bI, nums, abov, signI], rfl⟩
    · refine g_iload_n dX10_isPrime_10 rfl rfl ?_
      refine g_iconst (v := 5) dX10_isPrime_11 (by decide) ?_
      refine g_icmp_eq (tgt := 21) dX10_isPrime_12 rfl (fun c_12 => ?_) (fun c_12 => ?_)
      · refine g_iconst (v := 1) dX10_isPrime_21 (by decide) ?_
        refine g_goto (tgt := 26) dX10_isPrime_22 rfl ?_
        exact g_zret dX10_isPrime_26 rfl rfl (by first | decide | exact bI_and) ⟨by first | rfl | grind [bI, nums, abov, signI], rfl⟩
      · refine g_iload_n dX10_isPrime_15 rfl rfl ?_
        refine g_bipush (v := 7) dX10_isPrime_16 (by decide) ?_
        refine g_icmp_ne (tgt := 25) dX10_isPrime_18 rfl (fun c_18 => ?_) (fun c_18 => ?_)
        · refine g_iconst (v := 0) dX10_isPrime_25 (by decide) ?_
          exact g_zret dX10_isPrime_26 rfl rfl (by first | decide | exact bI_and) ⟨by first | rfl | grind [bI, nums, abov, signI], rfl⟩
        · refine g_iconst (v := 1) dX10_isPrime_21 (by decide) ?_
          refine g_goto (tgt := 26) dX10_isPrime_22 rfl ?_
          exact g_zret dX10_isPrime_26 rfl rfl (by first | decide | exact bI_and) ⟨by first | rfl | grind [bI, nums, abov, signI], rfl⟩
set_option maxRecDepth 100000 in
set_option maxHeartbeats 4000000 in
theorem CX10_isTellable {c d e f : Int32} : Ct l mX10_isTellable [.int c, .int d, .int e, .int f] w (q_eq (some (.int (bI ((-9 ≤ c ∧ c ≤ 9) ∧ (-9 ≤ d ∧ d ≤ 9) ∧ (-999 ≤ e ∧ e ≤ 999) ∧ (-999 ≤ f ∧ f ≤ 999))))) w) := by
  refine Ct.of rfl (Nat.le_of_ble_eq_true rfl) ?_
  refine g_iload_n dX10_isTellable_0 rfl rfl ?_
  refine g_bipush (v := -9) dX10_isTellable_1 (by decide) ?_
  refine g_bipush (v := 9) dX10_isTellable_3 (by decide) ?_
  refine g_S3r CX10_isWithin kX10_isTellable_76 dX10_isTellable_5 ⟨rfl, rfl⟩ (Nat.le_of_ble_eq_true rfl) ⟨(Nat.le_of_ble_eq_true rfl), (Nat.le_of_ble_eq_true rfl)⟩ ?_
  refine g_if_eq (tgt := 52) dX10_isTellable_8 rfl (fun c_8 => ?_) (fun c_8 => ?_)
  · refine g_iconst (v := 0) dX10_isTellable_52 (by decide) ?_
    exact g_zret dX10_isTellable_53 rfl rfl (by first | decide | exact bI_and) ⟨by first | rfl | grind [bI, nums, abov, signI], rfl⟩
  · refine g_iload_n dX10_isTellable_11 rfl rfl ?_
    refine g_bipush (v := -9) dX10_isTellable_12 (by decide) ?_
    refine g_bipush (v := 9) dX10_isTellable_14 (by decide) ?_
    refine g_S3r CX10_isWithin kX10_isTellable_76 dX10_isTellable_16 ⟨rfl, rfl⟩ (Nat.le_of_ble_eq_true rfl) ⟨(Nat.le_of_ble_eq_true rfl), (Nat.le_of_ble_eq_true rfl)⟩ ?_
    refine g_if_eq (tgt := 52) dX10_isTellable_19 rfl (fun c_19 => ?_) (fun c_19 => ?_)
    · refine g_iconst (v := 0) dX10_isTellable_52 (by decide) ?_
      exact g_zret dX10_isTellable_53 rfl rfl (by first | decide | exact bI_and) ⟨by first | rfl | grind [bI, nums, abov, signI], rfl⟩
    · refine g_iload_n dX10_isTellable_22 rfl rfl ?_
      refine g_sipush (v := -999) dX10_isTellable_23 (by decide) ?_
      refine g_sipush (v := 999) dX10_isTellable_26 (by decide) ?_
      refine g_S3r CX10_isWithin kX10_isTellable_76 dX10_isTellable_29 ⟨rfl, rfl⟩ (Nat.le_of_ble_eq_true rfl) ⟨(Nat.le_of_ble_eq_true rfl), (Nat.le_of_ble_eq_true rfl)⟩ ?_
      refine g_if_eq (tgt := 52) dX10_isTellable_32 rfl (fun c_32 => ?_) (fun c_32 => ?_)
      · refine g_iconst (v := 0) dX10_isTellable_52 (by decide) ?_
        exact g_zret dX10_isTellable_53 rfl rfl (by first | decide | exact bI_and) ⟨by first | rfl | grind [bI, nums, abov, signI], rfl⟩
      · refine g_iload_n dX10_isTellable_35 rfl rfl ?_
        refine g_sipush (v := -999) dX10_isTellable_36 (by decide) ?_
        refine g_sipush (v := 999) dX10_isTellable_39 (by decide) ?_
        refine g_S3r CX10_isWithin kX10_isTellable_76 dX10_isTellable_42 ⟨rfl, rfl⟩ (Nat.le_of_ble_eq_true rfl) ⟨(Nat.le_of_ble_eq_true rfl), (Nat.le_of_ble_eq_true rfl)⟩ ?_
        refine g_if_eq (tgt := 52) dX10_isTellable_45 rfl (fun c_45 => ?_) (fun c_45 => ?_)
        · refine g_iconst (v := 0) dX10_isTellable_52 (by decide) ?_
          exact g_zret dX10_isTellable_53 rfl rfl (by first | decide | exact bI_and) ⟨by first | rfl | grind [bI, nums, abov, signI], rfl⟩
        · refine g_iconst (v := 1) dX10_isTellable_48 (by decide) ?_
          refine g_goto (tgt := 53) dX10_isTellable_49 rfl ?_
          exact g_zret dX10_isTellable_53 rfl rfl (by first | decide | exact bI_and) ⟨by first | rfl | grind [bI, nums, abov, signI], rfl⟩
set_option maxRecDepth 100000 in
set_option maxHeartbeats 4000000 in
theorem CX10_numbersOf {v : Int32} : Ct l mX10_numbersOf [.int v] w (q_eq (some (.int (nums v))) w) := by
  refine Ct.of rfl (Nat.le_of_ble_eq_true rfl) ?_
  refine g_iload_n dX10_numbersOf_0 rfl rfl ?_
  refine g_case (0) (fun s_1_0 => ?_) (fun s_1_0 => ?_)
  · refine g_tblEq (off := 35) (tgt := 36) dX10_numbersOf_1 s_1_0 (by decide) (by decide) rfl rfl ?_
    refine g_iconst (v := 4) dX10_numbersOf_36 (by decide) ?_
    exact g_iret dX10_numbersOf_37 rfl rfl ⟨by first | rfl | grind [bI, nums, abov, signI], rfl⟩
  · refine g_case (1) (fun s_1_1 => ?_) (fun s_1_1 => ?_)
    · refine g_tblEq (off := 41) (tgt := 42) dX10_numbersOf_1 s_1_1 (by decide) (by decide) rfl rfl ?_
      refine g_iconst (v := 2) dX10_numbersOf_42 (by decide) ?_
      exact g_iret dX10_numbersOf_43 rfl rfl ⟨by first | rfl | grind [bI, nums, abov, signI], rfl⟩
    · refine g_case (2) (fun s_1_2 => ?_) (fun s_1_2 => ?_)
      · refine g_tblEq (off := 41) (tgt := 42) dX10_numbersOf_1 s_1_2 (by decide) (by decide) rfl rfl ?_
        refine g_iconst (v := 2) dX10_numbersOf_42 (by decide) ?_
        exact g_iret dX10_numbersOf_43 rfl rfl ⟨by first | rfl | grind [bI, nums, abov, signI], rfl⟩
      · refine g_case (3) (fun s_1_3 => ?_) (fun s_1_3 => ?_)
        · refine g_tblEq (off := 37) (tgt := 38) dX10_numbersOf_1 s_1_3 (by decide) (by decide) rfl rfl ?_
          refine g_iconst (v := 3) dX10_numbersOf_38 (by decide) ?_
          exact g_iret dX10_numbersOf_39 rfl rfl ⟨by first | rfl | grind [bI, nums, abov, signI], rfl⟩
        · refine g_case (4) (fun s_1_4 => ?_) (fun s_1_4 => ?_)
          · refine g_tblEq (off := 39) (tgt := 40) dX10_numbersOf_1 s_1_4 (by decide) (by decide) rfl rfl ?_
            refine g_iconst (v := 1) dX10_numbersOf_40 (by decide) ?_
            exact g_iret dX10_numbersOf_41 rfl rfl ⟨by first | rfl | grind [bI, nums, abov, signI], rfl⟩
          · refine g_tableOut (tgt := 42) dX10_numbersOf_1 (by have a0 := ne_toInt (z := 0) rfl s_1_0; have a1 := ne_toInt (z := 1) rfl s_1_1; have a2 := ne_toInt (z := 2) rfl s_1_2; have a3 := ne_toInt (z := 3) rfl s_1_3; have a4 := ne_toInt (z := 4) rfl s_1_4; omega) rfl ?_
            refine g_iconst (v := 2) dX10_numbersOf_42 (by decide) ?_
            exact g_iret dX10_numbersOf_43 rfl rfl ⟨by first | rfl | grind [bI, nums, abov, signI], rfl⟩
set_option maxRecDepth 100000 in
set_option maxHeartbeats 4000000 in
theorem CX10_classAbove {v : Int32} : Ct l mX10_classAbove [.int v] w (q_eq (some (.int (abov v))) w) := by
  refine Ct.of rfl (Nat.le_of_ble_eq_true rfl) ?_
  refine g_iload_n dX10_classAbove_0 rfl rfl ?_
  refine g_case (1) (fun s_1_0 => ?_) (fun s_1_0 => ?_)
  · refine g_tblEq (off := 31) (tgt := 32) dX10_classAbove_1 s_1_0 (by decide) (by decide) rfl rfl ?_
    refine g_iconst (v := 5) dX10_classAbove_32 (by decide) ?_
    exact g_iret dX10_classAbove_33 rfl rfl ⟨by first | rfl | grind [bI, nums, abov, signI], rfl⟩
  · refine g_case (2) (fun s_1_1 => ?_) (fun s_1_1 => ?_)
    · refine g_tblEq (off := 31) (tgt := 32) dX10_classAbove_1 s_1_1 (by decide) (by decide) rfl rfl ?_
      refine g_iconst (v := 5) dX10_classAbove_32 (by decide) ?_
      exact g_iret dX10_classAbove_33 rfl rfl ⟨by first | rfl | grind [bI, nums, abov, signI], rfl⟩
    · refine g_case (3) (fun s_1_2 => ?_) (fun s_1_2 => ?_)
      · refine g_tblEq (off := 33) (tgt := 34) dX10_classAbove_1 s_1_2 (by decide) (by decide) rfl rfl ?_
        refine g_bipush (v := 6) dX10_classAbove_34 (by decide) ?_
        exact g_iret dX10_classAbove_36 rfl rfl ⟨by first | rfl | grind [bI, nums, abov, signI], rfl⟩
      · refine g_case (4) (fun s_1_3 => ?_) (fun s_1_3 => ?_)
        · refine g_tblEq (off := 33) (tgt := 34) dX10_classAbove_1 s_1_3 (by decide) (by decide) rfl rfl ?_
          refine g_bipush (v := 6) dX10_classAbove_34 (by decide) ?_
          exact g_iret dX10_classAbove_36 rfl rfl ⟨by first | rfl | grind [bI, nums, abov, signI], rfl⟩
        · refine g_tableOut (tgt := 37) dX10_classAbove_1 (by have a0 := ne_toInt (z := 1) rfl s_1_0; have a1 := ne_toInt (z := 2) rfl s_1_1; have a2 := ne_toInt (z := 3) rfl s_1_2; have a3 := ne_toInt (z := 4) rfl s_1_3; omega) rfl ?_
          refine g_iload_n dX10_classAbove_37 rfl rfl ?_
          exact g_iret dX10_classAbove_38 rfl rfl ⟨by first | rfl | grind [bI, nums, abov, signI], rfl⟩
set_option maxRecDepth 100000 in
set_option maxHeartbeats 4000000 in
theorem CX10_nextState {v : Int32} : Ct l mX10_nextState [.int v] w (q_eq (some (.int ((1103515245 * v.toInt64 + 12345) &&& 2147483647).toInt32)) w) := by
  refine Ct.of rfl (Nat.le_of_ble_eq_true rfl) ?_
  refine g_ldc2 dX10_nextState_0 tb_795 ?_
  refine g_iload_n dX10_nextState_3 rfl rfl ?_
  refine g_i2l dX10_nextState_4 ?_
  refine g_lmul dX10_nextState_5 ?_
  refine g_ldc2 dX10_nextState_6 tb_796 ?_
  refine g_ladd dX10_nextState_9 ?_
  refine g_ldc2 dX10_nextState_10 tb_797 ?_
  refine g_land dX10_nextState_13 ?_
  refine g_l2i dX10_nextState_14 ?_
  exact g_iret dX10_nextState_15 rfl rfl ⟨rfl, rfl⟩
set_option maxRecDepth 100000 in
set_option maxHeartbeats 4000000 in
theorem CX10_numberDrawnAt {v : Int32} : Ct l mX10_numberDrawnAt [.int v] w (q_eq (some (.int (jrem (v / 65536) 7 - 3))) w) := by
  refine Ct.of rfl (Nat.le_of_ble_eq_true rfl) ?_
  refine g_iload_n dX10_numberDrawnAt_0 rfl rfl ?_
  refine g_ldcw dX10_numberDrawnAt_1 tb_801 ?_
  refine g_idiv dX10_numberDrawnAt_4 (by decide) ?_
  refine g_bipush (v := 7) dX10_numberDrawnAt_5 (by decide) ?_
  refine g_irem dX10_numberDrawnAt_7 (by decide) ?_
  refine g_iconst (v := 3) dX10_numberDrawnAt_8 (by decide) ?_
  refine g_isub dX10_numberDrawnAt_9 ?_
  exact g_iret dX10_numberDrawnAt_10 rfl rfl ⟨rfl, rfl⟩
set_option maxRecDepth 100000 in
set_option maxHeartbeats 4000000 in
theorem CX7_discriminant {c d : Int32} : Ct l mX7_discriminant [.int c, .int d] w (q_eq (some (.int (c * c + 4 * d))) w) := by
  refine Ct.of rfl (Nat.le_of_ble_eq_true rfl) ?_
  refine g_iload_n dX7_discriminant_0 rfl rfl ?_
  refine g_iload_n dX7_discriminant_1 rfl rfl ?_
  refine g_imul dX7_discriminant_2 ?_
  refine g_iconst (v := 4) dX7_discriminant_3 (by decide) ?_
  refine g_iload_n dX7_discriminant_4 rfl rfl ?_
  refine g_imul dX7_discriminant_5 ?_
  refine g_iadd dX7_discriminant_6 ?_
  exact g_iret dX7_discriminant_7 rfl rfl ⟨rfl, rfl⟩
set_option maxRecDepth 100000 in
set_option maxHeartbeats 4000000 in
theorem CX7_signOf {v : Int32} : Ct l mX7_signOf [.int v] w (q_eq (some (.int (signI v))) w) := by
  refine Ct.of rfl (Nat.le_of_ble_eq_true rfl) ?_
  refine g_iload_n dX7_signOf_0 rfl rfl ?_
  refine g_if_ne (tgt := 6) dX7_signOf_1 rfl (fun c_1 => ?_) (fun c_1 => ?_)
  · refine g_iload_n dX7_signOf_6 rfl rfl ?_
    refine g_if_le (tgt := 14) dX7_signOf_7 rfl (fun c_7 => ?_) (fun c_7 => ?_)
    · refine g_iconst (v := -1) dX7_signOf_14 (by decide) ?_
      exact g_iret dX7_signOf_15 rfl rfl ⟨by first | rfl | grind [bI, nums, abov, signI], rfl⟩
    · refine g_iconst (v := 1) dX7_signOf_10 (by decide) ?_
      refine g_goto (tgt := 15) dX7_signOf_11 rfl ?_
      exact g_iret dX7_signOf_15 rfl rfl ⟨by first | rfl | grind [bI, nums, abov, signI], rfl⟩
  · refine g_iconst (v := 0) dX7_signOf_4 (by decide) ?_
    exact g_iret dX7_signOf_5 rfl rfl ⟨by first | rfl | grind [bI, nums, abov, signI], rfl⟩
set_option maxRecDepth 100000 in
set_option maxHeartbeats 4000000 in
theorem CX7_differentReal {c d : Int32} : Ct l mX7_differentReal [.int c, .int d] w (q_eq (some (.int (1 + signI (c * c + 4 * d)))) w) := by
  refine Ct.of rfl (Nat.le_of_ble_eq_true rfl) ?_
  refine g_iconst (v := 1) dX7_differentReal_0 (by decide) ?_
  refine g_iload_n dX7_differentReal_1 rfl rfl ?_
  refine g_iload_n dX7_differentReal_2 rfl rfl ?_
  refine g_S2r CX7_discriminant kX7_differentReal_9 dX7_differentReal_3 ⟨rfl, rfl⟩ (Nat.le_of_ble_eq_true rfl) ⟨(Nat.le_of_ble_eq_true rfl), (Nat.le_of_ble_eq_true rfl)⟩ ?_
  refine g_S1r CX7_signOf kX7_differentReal_15 dX7_differentReal_6 ⟨rfl, rfl⟩ (Nat.le_of_ble_eq_true rfl) ⟨(Nat.le_of_ble_eq_true rfl), (Nat.le_of_ble_eq_true rfl)⟩ ?_
  refine g_iadd dX7_differentReal_9 ?_
  exact g_iret dX7_differentReal_10 rfl rfl ⟨rfl, rfl⟩
set_option maxRecDepth 100000 in
set_option maxHeartbeats 4000000 in
theorem CX7_farthestSign {c d : Int32} : Ct l mX7_farthestSign [.int c, .int d] w (q_eq (some (.int (if 0 < c * c + 4 * d then signI c else 0))) w) := by
  refine Ct.of rfl (Nat.le_of_ble_eq_true rfl) ?_
  refine g_iload_n dX7_farthestSign_0 rfl rfl ?_
  refine g_iload_n dX7_farthestSign_1 rfl rfl ?_
  refine g_S2r CX7_discriminant kX7_farthestSign_9 dX7_farthestSign_2 ⟨rfl, rfl⟩ (Nat.le_of_ble_eq_true rfl) ⟨(Nat.le_of_ble_eq_true rfl), (Nat.le_of_ble_eq_true rfl)⟩ ?_
  refine g_if_le (tgt := 15) dX7_farthestSign_5 rfl (fun c_5 => ?_) (fun c_5 => ?_)
  · refine g_iconst (v := 0) dX7_farthestSign_15 (by decide) ?_
    exact g_iret dX7_farthestSign_16 rfl rfl ⟨by grind, rfl⟩
  · refine g_iload_n dX7_farthestSign_8 rfl rfl ?_
    refine g_S1r CX7_signOf kX7_farthestSign_15 dX7_farthestSign_9 ⟨rfl, rfl⟩ (Nat.le_of_ble_eq_true rfl) ⟨(Nat.le_of_ble_eq_true rfl), (Nat.le_of_ble_eq_true rfl)⟩ ?_
    refine g_goto (tgt := 16) dX7_farthestSign_12 rfl ?_
    exact g_iret dX7_farthestSign_16 rfl rfl ⟨by grind, rfl⟩
set_option maxRecDepth 100000 in
set_option maxHeartbeats 4000000 in
theorem CX7_order {c d : Int32} : Ct l mX7_order [.int c, .int d] w (q_eq (some (.int (if d = 0 then 0 else if c = 0 then 2 else if c * c = -d then 3 else if c * c = -2 * d then 4 else if c * c = -3 * d then 6 else 0))) w) := by
  refine Ct.of rfl (Nat.le_of_ble_eq_true rfl) ?_
  refine g_iload_n dX7_order_0 rfl rfl ?_
  refine g_if_ne (tgt := 6) dX7_order_1 rfl (fun c_1 => ?_) (fun c_1 => ?_)
  · refine g_iload_n dX7_order_6 rfl rfl ?_
    refine g_if_ne (tgt := 12) dX7_order_7 rfl (fun c_7 => ?_) (fun c_7 => ?_)
    · refine g_iload_n dX7_order_12 rfl rfl ?_
      refine g_iload_n dX7_order_13 rfl rfl ?_
      refine g_imul dX7_order_14 ?_
      refine g_iload_n dX7_order_15 rfl rfl ?_
      refine g_ineg dX7_order_16 ?_
      refine g_icmp_ne (tgt := 22) dX7_order_17 rfl (fun c_17 => ?_) (fun c_17 => ?_)
      · refine g_iload_n dX7_order_22 rfl rfl ?_
        refine g_iload_n dX7_order_23 rfl rfl ?_
        refine g_imul dX7_order_24 ?_
        refine g_bipush (v := -2) dX7_order_25 (by decide) ?_
        refine g_iload_n dX7_order_27 rfl rfl ?_
        refine g_imul dX7_order_28 ?_
        refine g_icmp_ne (tgt := 34) dX7_order_29 rfl (fun c_29 => ?_) (fun c_29 => ?_)
        · refine g_iload_n dX7_order_34 rfl rfl ?_
          refine g_iload_n dX7_order_35 rfl rfl ?_
          refine g_imul dX7_order_36 ?_
          refine g_bipush (v := -3) dX7_order_37 (by decide) ?_
          refine g_iload_n dX7_order_39 rfl rfl ?_
          refine g_imul dX7_order_40 ?_
          refine g_icmp_ne (tgt := 49) dX7_order_41 rfl (fun c_41 => ?_) (fun c_41 => ?_)
          · refine g_iconst (v := 0) dX7_order_49 (by decide) ?_
            exact g_iret dX7_order_50 rfl rfl ⟨by grind, rfl⟩
          · refine g_bipush (v := 6) dX7_order_44 (by decide) ?_
            refine g_goto (tgt := 50) dX7_order_46 rfl ?_
            exact g_iret dX7_order_50 rfl rfl ⟨by grind, rfl⟩
        · refine g_iconst (v := 4) dX7_order_32 (by decide) ?_
          exact g_iret dX7_order_33 rfl rfl ⟨by grind, rfl⟩
      · refine g_iconst (v := 3) dX7_order_20 (by decide) ?_
        exact g_iret dX7_order_21 rfl rfl ⟨by grind, rfl⟩
    · refine g_iconst (v := 2) dX7_order_10 (by decide) ?_
      exact g_iret dX7_order_11 rfl rfl ⟨by grind, rfl⟩
  · refine g_iconst (v := 0) dX7_order_4 (by decide) ?_
    exact g_iret dX7_order_5 rfl rfl ⟨by grind, rfl⟩
set_option maxRecDepth 100000 in
set_option maxHeartbeats 4000000 in
theorem CX8_ofTwo {k c d : Int32} : Ct l mX8_ofTwo [.int k, .int c, .int d] w (q_eq (some (.int (if k = 1 then c else if k = 2 then d else 0))) w) := by
  refine Ct.of rfl (Nat.le_of_ble_eq_true rfl) ?_
  refine g_iload_n dX8_ofTwo_0 rfl rfl ?_
  refine g_iconst (v := 1) dX8_ofTwo_1 (by decide) ?_
  refine g_icmp_ne (tgt := 7) dX8_ofTwo_2 rfl (fun c_2 => ?_) (fun c_2 => ?_)
  · refine g_iload_n dX8_ofTwo_7 rfl rfl ?_
    refine g_iconst (v := 2) dX8_ofTwo_8 (by decide) ?_
    refine g_icmp_ne (tgt := 16) dX8_ofTwo_9 rfl (fun c_9 => ?_) (fun c_9 => ?_)
    · refine g_iconst (v := 0) dX8_ofTwo_16 (by decide) ?_
      exact g_iret dX8_ofTwo_17 rfl rfl ⟨by grind, rfl⟩
    · refine g_iload_n dX8_ofTwo_12 rfl rfl ?_
      refine g_goto (tgt := 17) dX8_ofTwo_13 rfl ?_
      exact g_iret dX8_ofTwo_17 rfl rfl ⟨by grind, rfl⟩
  · refine g_iload_n dX8_ofTwo_5 rfl rfl ?_
    exact g_iret dX8_ofTwo_6 rfl rfl ⟨by grind, rfl⟩
set_option maxRecDepth 100000 in
set_option maxHeartbeats 4000000 in
theorem CX8_ofSum {k c d e f : Int32} : Ct l mX8_ofSum [.int k, .int c, .int d, .int e, .int f] w (q_eq (some (.int (if k = 1 then c + e else if k = 2 then d + f - c * e else if k = 3 then -(c * f + e * d) else if k = 4 then -(d * f) else 0))) w) := by
  refine Ct.of rfl (Nat.le_of_ble_eq_true rfl) ?_
  refine g_iload_n dX8_ofSum_0 rfl rfl ?_
  refine g_case (1) (fun s_1_0 => ?_) (fun s_1_0 => ?_)
  · refine g_tblEq (off := 31) (tgt := 32) dX8_ofSum_1 s_1_0 (by decide) (by decide) rfl rfl ?_
    refine g_iload_n dX8_ofSum_32 rfl rfl ?_
    refine g_iload_n dX8_ofSum_33 rfl rfl ?_
    refine g_iadd dX8_ofSum_34 ?_
    exact g_iret dX8_ofSum_35 rfl rfl ⟨by simp [*], rfl⟩
  · refine g_case (2) (fun s_1_1 => ?_) (fun s_1_1 => ?_)
    · refine g_tblEq (off := 35) (tgt := 36) dX8_ofSum_1 s_1_1 (by decide) (by decide) rfl rfl ?_
      refine g_iload_n dX8_ofSum_36 rfl rfl ?_
      refine g_iload dX8_ofSum_37 rfl ?_
      refine g_iadd dX8_ofSum_39 ?_
      refine g_iload_n dX8_ofSum_40 rfl rfl ?_
      refine g_iload_n dX8_ofSum_41 rfl rfl ?_
      refine g_imul dX8_ofSum_42 ?_
      refine g_isub dX8_ofSum_43 ?_
      exact g_iret dX8_ofSum_44 rfl rfl ⟨by simp [*], rfl⟩
    · refine g_case (3) (fun s_1_2 => ?_) (fun s_1_2 => ?_)
      · refine g_tblEq (off := 44) (tgt := 45) dX8_ofSum_1 s_1_2 (by decide) (by decide) rfl rfl ?_
        refine g_iload_n dX8_ofSum_45 rfl rfl ?_
        refine g_iload dX8_ofSum_46 rfl ?_
        refine g_imul dX8_ofSum_48 ?_
        refine g_iload_n dX8_ofSum_49 rfl rfl ?_
        refine g_iload_n dX8_ofSum_50 rfl rfl ?_
        refine g_imul dX8_ofSum_51 ?_
        refine g_iadd dX8_ofSum_52 ?_
        refine g_ineg dX8_ofSum_53 ?_
        exact g_iret dX8_ofSum_54 rfl rfl ⟨by simp [*], rfl⟩
      · refine g_case (4) (fun s_1_3 => ?_) (fun s_1_3 => ?_)
        · refine g_tblEq (off := 54) (tgt := 55) dX8_ofSum_1 s_1_3 (by decide) (by decide) rfl rfl ?_
          refine g_iload_n dX8_ofSum_55 rfl rfl ?_
          refine g_iload dX8_ofSum_56 rfl ?_
          refine g_imul dX8_ofSum_58 ?_
          refine g_ineg dX8_ofSum_59 ?_
          exact g_iret dX8_ofSum_60 rfl rfl ⟨by simp [*], rfl⟩
        · refine g_tableOut (tgt := 61) dX8_ofSum_1 (by have a0 := ne_toInt (z := 1) rfl s_1_0; have a1 := ne_toInt (z := 2) rfl s_1_1; have a2 := ne_toInt (z := 3) rfl s_1_2; have a3 := ne_toInt (z := 4) rfl s_1_3; omega) rfl ?_
          refine g_iconst (v := 0) dX8_ofSum_61 (by decide) ?_
          exact g_iret dX8_ofSum_62 rfl rfl ⟨by simp [*], rfl⟩
set_option maxRecDepth 100000 in
set_option maxHeartbeats 4000000 in
theorem CX8_ofProduct {k c d e f : Int32} : Ct l mX8_ofProduct [.int k, .int c, .int d, .int e, .int f] w (q_eq (some (.int (if k = 1 then c * e else if k = 2 then c * c * f + e * e * d + 2 * d * f else if k = 3 then c * e * d * f else if k = 4 then -(d * d * f * f) else 0))) w) := by
  refine Ct.of rfl (Nat.le_of_ble_eq_true rfl) ?_
  refine g_iload_n dX8_ofProduct_0 rfl rfl ?_
  refine g_case (1) (fun s_1_0 => ?_) (fun s_1_0 => ?_)
  · refine g_tblEq (off := 31) (tgt := 32) dX8_ofProduct_1 s_1_0 (by decide) (by decide) rfl rfl ?_
    refine g_iload_n dX8_ofProduct_32 rfl rfl ?_
    refine g_iload_n dX8_ofProduct_33 rfl rfl ?_
    refine g_imul dX8_ofProduct_34 ?_
    exact g_iret dX8_ofProduct_35 rfl rfl ⟨by simp [*], rfl⟩
  · refine g_case (2) (fun s_1_1 => ?_) (fun s_1_1 => ?_)
    · refine g_tblEq (off := 35) (tgt := 36) dX8_ofProduct_1 s_1_1 (by decide) (by decide) rfl rfl ?_
      refine g_iload_n dX8_ofProduct_36 rfl rfl ?_
      refine g_iload_n dX8_ofProduct_37 rfl rfl ?_
      refine g_imul dX8_ofProduct_38 ?_
      refine g_iload dX8_ofProduct_39 rfl ?_
      refine g_imul dX8_ofProduct_41 ?_
      refine g_iload_n dX8_ofProduct_42 rfl rfl ?_
      refine g_iload_n dX8_ofProduct_43 rfl rfl ?_
      refine g_imul dX8_ofProduct_44 ?_
      refine g_iload_n dX8_ofProduct_45 rfl rfl ?_
      refine g_imul dX8_ofProduct_46 ?_
      refine g_iadd dX8_ofProduct_47 ?_
      refine g_iconst (v := 2) dX8_ofProduct_48 (by decide) ?_
      refine g_iload_n dX8_ofProduct_49 rfl rfl ?_
      refine g_imul dX8_ofProduct_50 ?_
      refine g_iload dX8_ofProduct_51 rfl ?_
      refine g_imul dX8_ofProduct_53 ?_
      refine g_iadd dX8_ofProduct_54 ?_
      exact g_iret dX8_ofProduct_55 rfl rfl ⟨by simp [*], rfl⟩
    · refine g_case (3) (fun s_1_2 => ?_) (fun s_1_2 => ?_)
      · refine g_tblEq (off := 55) (tgt := 56) dX8_ofProduct_1 s_1_2 (by decide) (by decide) rfl rfl ?_
        refine g_iload_n dX8_ofProduct_56 rfl rfl ?_
        refine g_iload_n dX8_ofProduct_57 rfl rfl ?_
        refine g_imul dX8_ofProduct_58 ?_
        refine g_iload_n dX8_ofProduct_59 rfl rfl ?_
        refine g_imul dX8_ofProduct_60 ?_
        refine g_iload dX8_ofProduct_61 rfl ?_
        refine g_imul dX8_ofProduct_63 ?_
        exact g_iret dX8_ofProduct_64 rfl rfl ⟨by simp [*], rfl⟩
      · refine g_case (4) (fun s_1_3 => ?_) (fun s_1_3 => ?_)
        · refine g_tblEq (off := 64) (tgt := 65) dX8_ofProduct_1 s_1_3 (by decide) (by decide) rfl rfl ?_
          refine g_iload_n dX8_ofProduct_65 rfl rfl ?_
          refine g_iload_n dX8_ofProduct_66 rfl rfl ?_
          refine g_imul dX8_ofProduct_67 ?_
          refine g_iload dX8_ofProduct_68 rfl ?_
          refine g_imul dX8_ofProduct_70 ?_
          refine g_iload dX8_ofProduct_71 rfl ?_
          refine g_imul dX8_ofProduct_73 ?_
          refine g_ineg dX8_ofProduct_74 ?_
          exact g_iret dX8_ofProduct_75 rfl rfl ⟨by simp [*], rfl⟩
        · refine g_tableOut (tgt := 76) dX8_ofProduct_1 (by have a0 := ne_toInt (z := 1) rfl s_1_0; have a1 := ne_toInt (z := 2) rfl s_1_1; have a2 := ne_toInt (z := 3) rfl s_1_2; have a3 := ne_toInt (z := 4) rfl s_1_3; omega) rfl ?_
          refine g_iconst (v := 0) dX8_ofProduct_76 (by decide) ?_
          exact g_iret dX8_ofProduct_77 rfl rfl ⟨by simp [*], rfl⟩
end
