def rkd (c : Int32) : Int32 := if c = 116 then 0 else if c = 43 then 1 else if c = 42 then 2 else if c = 101 then 3 else if c = 100 then 4 else -1
def rvl (c : Int32) : Int32 := if 48 ≤ c ∧ c ≤ 57 then c - 48 else if 97 ≤ c ∧ c ≤ 105 then 96 - c else 2000000001
def rlo (k t : Int32) : Int32 := if k = 0 then -9 else if k = 3 ∧ t - 1 = 1 then 1 else 0
def rhi (k t z : Int32) : Int32 := if k = 0 ∨ (k = 3 ∧ t - 1 = 2) then 9 else if k = 3 ∧ t - 1 = 1 then 5 else z - 2
def rdN (σ : Nat → Nat → Int32) : Nat := (σ 9 2).toNatClampNeg
def rdMark (σ : Nat → Nat → Int32) (c : Int32) : Bool × (Nat → Nat → Int32) :=
  if rkd c = -1 ∨ (rkd c ≠ 0 ∧ rdN σ = 0) then (false, put σ 8 1 (rkd c)) else (true, ldWr (put (put (put σ 8 1 (rkd c)) 8 2 1) 9 2 (nI (rdN σ + 1))) 10 11 (rdN σ) (rkd c) 0 0 0 0)
def rdNum (σ : Nat → Nat → Int32) (c : Int32) : Bool × (Nat → Nat → Int32) :=
  if rlo (σ 8 1) (σ 8 2) ≤ rvl c ∧ rvl c ≤ rhi (σ 8 1) (σ 8 2) (σ 9 2) then (true, put (if ldH (σ 9 2) (σ 9 2 - 1) ∧ 0 ≤ σ 8 2 - 1 ∧ σ 8 2 - 1 < 4 then put σ 11 ((σ 9 2 - 1) * 4 + (σ 8 2 - 1)).toNatClampNeg (rvl c) else σ) 8 2 (σ 8 2 + 1)) else (false, σ)
def rdTk (σ : Nat → Nat → Int32) (c : Int32) : Bool × (Nat → Nat → Int32) :=
  if σ 8 2 = 0 then rdMark σ c else if σ 8 2 = 1 + nums (σ 8 1) then (decide (c = 59 ∧ σ 9 2 < 8), put σ 8 2 0) else rdNum σ c
def bB (b : Bool) : Int32 := if b then 1 else 0
theorem bB_and {b : Bool} : bB b &&& 1 = bB b := by cases b <;> decide
theorem xC8 : ∀ f, xcell 8 f = .inr (5, [.ref 9, .int (f 1), .int (f 2)]) := fun _ => rfl
def rdOk (σ : Nat → Nat → Int32) : Prop := ∃ n : Nat, σ 9 2 = nI n ∧ n ≤ 8 ∧ (σ 8 2 = 0 → n < 8) ∧ 0 ≤ σ 8 2 ∧ σ 8 2 ≤ 1 + nums (σ 8 1)
def rdGo (G : Nat → Int32) : Nat → Nat → (Nat → Nat → Int32) → Nat × (Nat → Nat → Int32)
  | 0, j, σ => (j, σ)
  | d + 1, j, σ => if (rdTk σ (G j)).1 = true then rdGo G d (j + 1) (rdTk σ (G j)).2 else (j, (rdTk σ (G j)).2)
section
variable {l : Launch} {w : q_Wd} {σ : Nat → Nat → Int32}
set_option maxRecDepth 100000 in
set_option maxHeartbeats 4000000 in
theorem CX5_kindMarkedBy {c : Int32} : Ct l mX5_kindMarkedBy [.int c] w (q_eq (some (.int (rkd c))) w) := by
  refine Ct.of rfl (Nat.le_of_ble_eq_true rfl) ?_
  refine g_iload_n dX5_kindMarkedBy_0 rfl rfl ?_
  refine g_case (42) (fun s_1_0 => ?_) (fun s_1_0 => ?_)
  · refine g_lkEq (off := 55) (tgt := 56) dX5_kindMarkedBy_1 s_1_0 rfl rfl rfl ?_
    refine g_iconst (v := 2) dX5_kindMarkedBy_56 (by decide) ?_
    exact g_iret dX5_kindMarkedBy_57 rfl rfl ⟨by first | rfl | grind [bI, rkd, rvl, rlo, rhi], rfl⟩
  · refine g_case (43) (fun s_1_1 => ?_) (fun s_1_1 => ?_)
    · refine g_lkEq (off := 53) (tgt := 54) dX5_kindMarkedBy_1 s_1_1 rfl rfl rfl ?_
      refine g_iconst (v := 1) dX5_kindMarkedBy_54 (by decide) ?_
      exact g_iret dX5_kindMarkedBy_55 rfl rfl ⟨by first | rfl | grind [bI, rkd, rvl, rlo, rhi], rfl⟩
    · refine g_case (100) (fun s_1_2 => ?_) (fun s_1_2 => ?_)
      · refine g_lkEq (off := 59) (tgt := 60) dX5_kindMarkedBy_1 s_1_2 rfl rfl rfl ?_
        refine g_iconst (v := 4) dX5_kindMarkedBy_60 (by decide) ?_
        exact g_iret dX5_kindMarkedBy_61 rfl rfl ⟨by first | rfl | grind [bI, rkd, rvl, rlo, rhi], rfl⟩
      · refine g_case (101) (fun s_1_3 => ?_) (fun s_1_3 => ?_)
        · refine g_lkEq (off := 57) (tgt := 58) dX5_kindMarkedBy_1 s_1_3 rfl rfl rfl ?_
          refine g_iconst (v := 3) dX5_kindMarkedBy_58 (by decide) ?_
          exact g_iret dX5_kindMarkedBy_59 rfl rfl ⟨by first | rfl | grind [bI, rkd, rvl, rlo, rhi], rfl⟩
        · refine g_case (116) (fun s_1_4 => ?_) (fun s_1_4 => ?_)
          · refine g_lkEq (off := 51) (tgt := 52) dX5_kindMarkedBy_1 s_1_4 rfl rfl rfl ?_
            refine g_iconst (v := 0) dX5_kindMarkedBy_52 (by decide) ?_
            exact g_iret dX5_kindMarkedBy_53 rfl rfl ⟨by first | rfl | grind [bI, rkd, rvl, rlo, rhi], rfl⟩
          · refine g_lookup (off := 61) (tgt := 62) dX5_kindMarkedBy_1 rfl (lk_out _ _ _ (by have a0 := ne_toInt (z := 42) rfl s_1_0; have a1 := ne_toInt (z := 43) rfl s_1_1; have a2 := ne_toInt (z := 100) rfl s_1_2; have a3 := ne_toInt (z := 101) rfl s_1_3; have a4 := ne_toInt (z := 116) rfl s_1_4; intro q hq; replace hq : q ∈ ([(42, 55), (43, 53), (100, 59), (101, 57), (116, 51)] : List (Int × Int)) := hq; simp only [List.mem_cons, List.not_mem_nil, or_false] at hq; rcases hq with rfl | rfl | rfl | rfl | rfl <;> (intro e; simp only at e; omega))) rfl ?_
            refine g_iconst (v := -1) dX5_kindMarkedBy_62 (by decide) ?_
            exact g_iret dX5_kindMarkedBy_63 rfl rfl ⟨by first | rfl | grind [bI, rkd, rvl, rlo, rhi], rfl⟩
set_option maxRecDepth 100000 in
set_option maxHeartbeats 4000000 in
theorem CX5_valueOf {c : Int32} : Ct l mX5_valueOf [.int c] w (q_eq (some (.int (rvl c))) w) := by
  refine Ct.of rfl (Nat.le_of_ble_eq_true rfl) ?_
  refine g_iload_n dX5_valueOf_0 rfl rfl ?_
  refine g_bipush (v := 48) dX5_valueOf_1 (by decide) ?_
  refine g_icmp_lt (tgt := 17) dX5_valueOf_3 rfl (fun c_3 => ?_) (fun c_3 => ?_)
  · refine g_iload_n dX5_valueOf_17 rfl rfl ?_
    refine g_bipush (v := 97) dX5_valueOf_18 (by decide) ?_
    refine g_icmp_lt (tgt := 36) dX5_valueOf_20 rfl (fun c_20 => ?_) (fun c_20 => ?_)
    · refine g_ldc dX5_valueOf_36 tb_375 ?_
      exact g_iret dX5_valueOf_38 rfl rfl ⟨by first | rfl | grind [bI, rkd, rvl, rlo, rhi], rfl⟩
    · refine g_iload_n dX5_valueOf_23 rfl rfl ?_
      refine g_bipush (v := 105) dX5_valueOf_24 (by decide) ?_
      refine g_icmp_gt (tgt := 36) dX5_valueOf_26 rfl (fun c_26 => ?_) (fun c_26 => ?_)
      · refine g_ldc dX5_valueOf_36 tb_375 ?_
        exact g_iret dX5_valueOf_38 rfl rfl ⟨by first | rfl | grind [bI, rkd, rvl, rlo, rhi], rfl⟩
      · refine g_bipush (v := 96) dX5_valueOf_29 (by decide) ?_
        refine g_iload_n dX5_valueOf_31 rfl rfl ?_
        refine g_isub dX5_valueOf_32 ?_
        refine g_goto (tgt := 38) dX5_valueOf_33 rfl ?_
        exact g_iret dX5_valueOf_38 rfl rfl ⟨by first | rfl | grind [bI, rkd, rvl, rlo, rhi], rfl⟩
  · refine g_iload_n dX5_valueOf_6 rfl rfl ?_
    refine g_bipush (v := 57) dX5_valueOf_7 (by decide) ?_
    refine g_icmp_gt (tgt := 17) dX5_valueOf_9 rfl (fun c_9 => ?_) (fun c_9 => ?_)
    · refine g_iload_n dX5_valueOf_17 rfl rfl ?_
      refine g_bipush (v := 97) dX5_valueOf_18 (by decide) ?_
      refine g_icmp_lt (tgt := 36) dX5_valueOf_20 rfl (fun c_20 => ?_) (fun c_20 => ?_)
      · refine g_ldc dX5_valueOf_36 tb_375 ?_
        exact g_iret dX5_valueOf_38 rfl rfl ⟨by first | rfl | grind [bI, rkd, rvl, rlo, rhi], rfl⟩
      · refine g_iload_n dX5_valueOf_23 rfl rfl ?_
        refine g_bipush (v := 105) dX5_valueOf_24 (by decide) ?_
        refine g_icmp_gt (tgt := 36) dX5_valueOf_26 rfl (fun c_26 => ?_) (fun c_26 => ?_)
        · refine g_ldc dX5_valueOf_36 tb_375 ?_
          exact g_iret dX5_valueOf_38 rfl rfl ⟨by first | rfl | grind [bI, rkd, rvl, rlo, rhi], rfl⟩
        · refine g_bipush (v := 96) dX5_valueOf_29 (by decide) ?_
          refine g_iload_n dX5_valueOf_31 rfl rfl ?_
          refine g_isub dX5_valueOf_32 ?_
          refine g_goto (tgt := 38) dX5_valueOf_33 rfl ?_
          exact g_iret dX5_valueOf_38 rfl rfl ⟨by first | rfl | grind [bI, rkd, rvl, rlo, rhi], rfl⟩
    · refine g_iload_n dX5_valueOf_12 rfl rfl ?_
      refine g_bipush (v := 48) dX5_valueOf_13 (by decide) ?_
      refine g_isub dX5_valueOf_15 ?_
      exact g_iret dX5_valueOf_16 rfl rfl ⟨by first | rfl | grind [bI, rkd, rvl, rlo, rhi], rfl⟩
set_option maxRecDepth 100000 in
set_option maxHeartbeats 4000000 in
theorem CX5_draft : Ct l mX5_draft [.ref 8] (xW σ) (q_eq (some (.ref 9)) (xW σ)) := by
  refine Ct.of rfl (Nat.le_of_ble_eq_true rfl) ?_
  refine g_aload_n dX5_draft_0 rfl rfl ?_
  refine g_getf dX5_draft_1 fX5_12 (xW_at (by decide) xC8) rfl ?_
  exact g_aret dX5_draft_4 rfl rfl ⟨rfl, rfl⟩
set_option maxRecDepth 100000 in
set_option maxHeartbeats 4000000 in
theorem CX5_isRowWhole : Ct l mX5_isRowWhole [.ref 8] (xW σ) (q_eq (some (.int (bI (σ 8 2 = 1 + nums (σ 8 1))))) (xW σ)) := by
  refine Ct.of rfl (Nat.le_of_ble_eq_true rfl) ?_
  refine g_aload_n dX5_isRowWhole_0 rfl rfl ?_
  refine g_getf dX5_isRowWhole_1 fX5_35 (xW_at (by decide) xC8) rfl ?_
  refine g_iconst (v := 1) dX5_isRowWhole_4 (by decide) ?_
  refine g_aload_n dX5_isRowWhole_5 rfl rfl ?_
  refine g_getf dX5_isRowWhole_6 fX5_56 (xW_at (by decide) xC8) rfl ?_
  refine g_SN1r CX10_numbersOf kX5_isRowWhole_59 dX5_isRowWhole_9 ⟨rfl, rfl⟩ (Nat.le_of_ble_eq_true rfl) ⟨(Nat.le_of_ble_eq_true rfl), (Nat.le_of_ble_eq_true rfl)⟩ ?_
  refine g_iadd dX5_isRowWhole_12 ?_
  refine g_icmp_ne (tgt := 20) dX5_isRowWhole_13 rfl (fun c_13 => ?_) (fun c_13 => ?_)
  · refine g_iconst (v := 0) dX5_isRowWhole_20 (by decide) ?_
    exact g_zret dX5_isRowWhole_21 rfl rfl (by first | decide | exact bI_and) ⟨by first | rfl | grind [bI, rkd, rvl, rlo, rhi], rfl⟩
  · refine g_iconst (v := 1) dX5_isRowWhole_16 (by decide) ?_
    refine g_goto (tgt := 21) dX5_isRowWhole_17 rfl ?_
    exact g_zret dX5_isRowWhole_21 rfl rfl (by first | decide | exact bI_and) ⟨by first | rfl | grind [bI, rkd, rvl, rlo, rhi], rfl⟩
set_option maxRecDepth 100000 in
set_option maxHeartbeats 4000000 in
theorem CX5_leastNumber : Ct l mX5_leastNumber [.ref 8] (xW σ) (q_eq (some (.int (rlo (σ 8 1) (σ 8 2)))) (xW σ)) := by
  refine Ct.of rfl (Nat.le_of_ble_eq_true rfl) ?_
  refine g_aload_n dX5_leastNumber_0 rfl rfl ?_
  refine g_getf dX5_leastNumber_1 fX5_56 (xW_at (by decide) xC8) rfl ?_
  refine g_if_ne (tgt := 10) dX5_leastNumber_4 rfl (fun c_4 => ?_) (fun c_4 => ?_)
  · refine g_aload_n dX5_leastNumber_10 rfl rfl ?_
    refine g_getf dX5_leastNumber_11 fX5_56 (xW_at (by decide) xC8) rfl ?_
    refine g_iconst (v := 3) dX5_leastNumber_14 (by decide) ?_
    refine g_icmp_ne (tgt := 32) dX5_leastNumber_15 rfl (fun c_15 => ?_) (fun c_15 => ?_)
    · refine g_iconst (v := 0) dX5_leastNumber_32 (by decide) ?_
      exact g_iret dX5_leastNumber_33 rfl rfl ⟨by first | rfl | grind [bI, rkd, rvl, rlo, rhi], rfl⟩
    · refine g_aload_n dX5_leastNumber_18 rfl rfl ?_
      refine g_getf dX5_leastNumber_19 fX5_35 (xW_at (by decide) xC8) rfl ?_
      refine g_iconst (v := 1) dX5_leastNumber_22 (by decide) ?_
      refine g_isub dX5_leastNumber_23 ?_
      refine g_iconst (v := 1) dX5_leastNumber_24 (by decide) ?_
      refine g_icmp_ne (tgt := 32) dX5_leastNumber_25 rfl (fun c_25 => ?_) (fun c_25 => ?_)
      · refine g_iconst (v := 0) dX5_leastNumber_32 (by decide) ?_
        exact g_iret dX5_leastNumber_33 rfl rfl ⟨by first | rfl | grind [bI, rkd, rvl, rlo, rhi], rfl⟩
      · refine g_iconst (v := 1) dX5_leastNumber_28 (by decide) ?_
        refine g_goto (tgt := 33) dX5_leastNumber_29 rfl ?_
        exact g_iret dX5_leastNumber_33 rfl rfl ⟨by first | rfl | grind [bI, rkd, rvl, rlo, rhi], rfl⟩
  · refine g_bipush (v := -9) dX5_leastNumber_7 (by decide) ?_
    exact g_iret dX5_leastNumber_9 rfl rfl ⟨by first | rfl | grind [bI, rkd, rvl, rlo, rhi], rfl⟩
set_option maxRecDepth 100000 in
set_option maxHeartbeats 4000000 in
theorem CX5_mostNumber : Ct l mX5_mostNumber [.ref 8] (xW σ) (q_eq (some (.int (rhi (σ 8 1) (σ 8 2) (σ 9 2)))) (xW σ)) := by
  refine Ct.of rfl (Nat.le_of_ble_eq_true rfl) ?_
  refine g_aload_n dX5_mostNumber_0 rfl rfl ?_
  refine g_getf dX5_mostNumber_1 fX5_56 (xW_at (by decide) xC8) rfl ?_
  refine g_if_eq (tgt := 25) dX5_mostNumber_4 rfl (fun c_4 => ?_) (fun c_4 => ?_)
  · refine g_bipush (v := 9) dX5_mostNumber_25 (by decide) ?_
    exact g_iret dX5_mostNumber_27 rfl rfl ⟨by first | rfl | grind [bI, rkd, rvl, rlo, rhi], rfl⟩
  · refine g_aload_n dX5_mostNumber_7 rfl rfl ?_
    refine g_getf dX5_mostNumber_8 fX5_56 (xW_at (by decide) xC8) rfl ?_
    refine g_iconst (v := 3) dX5_mostNumber_11 (by decide) ?_
    refine g_icmp_ne (tgt := 28) dX5_mostNumber_12 rfl (fun c_12 => ?_) (fun c_12 => ?_)
    · refine g_aload_n dX5_mostNumber_28 rfl rfl ?_
      refine g_getf dX5_mostNumber_29 fX5_56 (xW_at (by decide) xC8) rfl ?_
      refine g_iconst (v := 3) dX5_mostNumber_32 (by decide) ?_
      refine g_icmp_ne (tgt := 50) dX5_mostNumber_33 rfl (fun c_33 => ?_) (fun c_33 => ?_)
      · refine g_aload_n dX5_mostNumber_50 rfl rfl ?_
        refine g_getf dX5_mostNumber_51 fX5_12 (xW_at (by decide) xC8) rfl ?_
        refine g_V0r (CX3_size xLed9) kX5_mostNumber_65 dX5_mostNumber_54 (xW_at xLed9.1.1 xLed9.2.1) rfl ⟨rfl, rfl⟩ (Nat.le_of_ble_eq_true rfl) ⟨(Nat.le_of_ble_eq_true rfl), (Nat.le_of_ble_eq_true rfl)⟩ ?_
        refine g_iconst (v := 2) dX5_mostNumber_57 (by decide) ?_
        refine g_isub dX5_mostNumber_58 ?_
        exact g_iret dX5_mostNumber_59 rfl rfl ⟨by first | rfl | grind [bI, rkd, rvl, rlo, rhi], rfl⟩
      · refine g_aload_n dX5_mostNumber_36 rfl rfl ?_
        refine g_getf dX5_mostNumber_37 fX5_35 (xW_at (by decide) xC8) rfl ?_
        refine g_iconst (v := 1) dX5_mostNumber_40 (by decide) ?_
        refine g_isub dX5_mostNumber_41 ?_
        refine g_iconst (v := 1) dX5_mostNumber_42 (by decide) ?_
        refine g_icmp_ne (tgt := 50) dX5_mostNumber_43 rfl (fun c_43 => ?_) (fun c_43 => ?_)
        · refine g_aload_n dX5_mostNumber_50 rfl rfl ?_
          refine g_getf dX5_mostNumber_51 fX5_12 (xW_at (by decide) xC8) rfl ?_
          refine g_V0r (CX3_size xLed9) kX5_mostNumber_65 dX5_mostNumber_54 (xW_at xLed9.1.1 xLed9.2.1) rfl ⟨rfl, rfl⟩ (Nat.le_of_ble_eq_true rfl) ⟨(Nat.le_of_ble_eq_true rfl), (Nat.le_of_ble_eq_true rfl)⟩ ?_
          refine g_iconst (v := 2) dX5_mostNumber_57 (by decide) ?_
          refine g_isub dX5_mostNumber_58 ?_
          exact g_iret dX5_mostNumber_59 rfl rfl ⟨by first | rfl | grind [bI, rkd, rvl, rlo, rhi], rfl⟩
        · refine g_iconst (v := 5) dX5_mostNumber_46 (by decide) ?_
          refine g_goto (tgt := 59) dX5_mostNumber_47 rfl ?_
          exact g_iret dX5_mostNumber_59 rfl rfl ⟨by first | rfl | grind [bI, rkd, rvl, rlo, rhi], rfl⟩
    · refine g_aload_n dX5_mostNumber_15 rfl rfl ?_
      refine g_getf dX5_mostNumber_16 fX5_35 (xW_at (by decide) xC8) rfl ?_
      refine g_iconst (v := 1) dX5_mostNumber_19 (by decide) ?_
      refine g_isub dX5_mostNumber_20 ?_
      refine g_iconst (v := 2) dX5_mostNumber_21 (by decide) ?_
      refine g_icmp_ne (tgt := 28) dX5_mostNumber_22 rfl (fun c_22 => ?_) (fun c_22 => ?_)
      · refine g_aload_n dX5_mostNumber_28 rfl rfl ?_
        refine g_getf dX5_mostNumber_29 fX5_56 (xW_at (by decide) xC8) rfl ?_
        refine g_iconst (v := 3) dX5_mostNumber_32 (by decide) ?_
        refine g_icmp_ne (tgt := 50) dX5_mostNumber_33 rfl (fun c_33 => ?_) (fun c_33 => ?_)
        · refine g_aload_n dX5_mostNumber_50 rfl rfl ?_
          refine g_getf dX5_mostNumber_51 fX5_12 (xW_at (by decide) xC8) rfl ?_
          refine g_V0r (CX3_size xLed9) kX5_mostNumber_65 dX5_mostNumber_54 (xW_at xLed9.1.1 xLed9.2.1) rfl ⟨rfl, rfl⟩ (Nat.le_of_ble_eq_true rfl) ⟨(Nat.le_of_ble_eq_true rfl), (Nat.le_of_ble_eq_true rfl)⟩ ?_
          refine g_iconst (v := 2) dX5_mostNumber_57 (by decide) ?_
          refine g_isub dX5_mostNumber_58 ?_
          exact g_iret dX5_mostNumber_59 rfl rfl ⟨by first | rfl | grind [bI, rkd, rvl, rlo, rhi], rfl⟩
        · refine g_aload_n dX5_mostNumber_36 rfl rfl ?_
          refine g_getf dX5_mostNumber_37 fX5_35 (xW_at (by decide) xC8) rfl ?_
          refine g_iconst (v := 1) dX5_mostNumber_40 (by decide) ?_
          refine g_isub dX5_mostNumber_41 ?_
          refine g_iconst (v := 1) dX5_mostNumber_42 (by decide) ?_
          refine g_icmp_ne (tgt := 50) dX5_mostNumber_43 rfl (fun c_43 => ?_) (fun c_43 => ?_)
          · refine g_aload_n dX5_mostNumber_50 rfl rfl ?_
            refine g_getf dX5_mostNumber_51 fX5_12 (xW_at (by decide) xC8) rfl ?_
            refine g_V0r (CX3_size xLed9) kX5_mostNumber_65 dX5_mostNumber_54 (xW_at xLed9.1.1 xLed9.2.1) rfl ⟨rfl, rfl⟩ (Nat.le_of_ble_eq_true rfl) ⟨(Nat.le_of_ble_eq_true rfl), (Nat.le_of_ble_eq_true rfl)⟩ ?_
            refine g_iconst (v := 2) dX5_mostNumber_57 (by decide) ?_
            refine g_isub dX5_mostNumber_58 ?_
            exact g_iret dX5_mostNumber_59 rfl rfl ⟨by first | rfl | grind [bI, rkd, rvl, rlo, rhi], rfl⟩
          · refine g_iconst (v := 5) dX5_mostNumber_46 (by decide) ?_
            refine g_goto (tgt := 59) dX5_mostNumber_47 rfl ?_
            exact g_iret dX5_mostNumber_59 rfl rfl ⟨by first | rfl | grind [bI, rkd, rvl, rlo, rhi], rfl⟩
      · refine g_bipush (v := 9) dX5_mostNumber_25 (by decide) ?_
        exact g_iret dX5_mostNumber_27 rfl rfl ⟨by first | rfl | grind [bI, rkd, rvl, rlo, rhi], rfl⟩
set_option maxRecDepth 100000 in
set_option maxHeartbeats 4000000 in
theorem CX5_takesDivider {c : Int32} : Ct l mX5_takesDivider [.ref 8, .int c] (xW σ) (q_eq (some (.int (bB (decide (c = 59 ∧ σ 9 2 < 8))))) (xW (put σ 8 2 0))) := by
  refine Ct.of rfl (Nat.le_of_ble_eq_true rfl) ?_
  refine g_aload_n dX5_takesDivider_0 rfl rfl ?_
  refine g_iconst (v := 0) dX5_takesDivider_1 (by decide) ?_
  refine g_putf dX5_takesDivider_2 pX5_35 (xW_at (by decide) xC8) (Nat.le_of_ble_eq_true rfl) (fun _ => rfl) (fun _ => rfl) (xW_obj xC8 rfl) ?_
  refine g_iload_n dX5_takesDivider_5 rfl rfl ?_
  refine g_bipush (v := 59) dX5_takesDivider_6 (by decide) ?_
  refine g_icmp_ne (tgt := 27) dX5_takesDivider_8 rfl (fun c_8 => ?_) (fun c_8 => ?_)
  · refine g_iconst (v := 0) dX5_takesDivider_27 (by decide) ?_
    exact g_zret dX5_takesDivider_28 rfl rfl (by first | decide | exact bI_and) ⟨by first | (replace c_20 : 8 ≤ σ 9 2 := c_20; grind [bB]) | grind [bB], rfl⟩
  · refine g_aload_n dX5_takesDivider_11 rfl rfl ?_
    refine g_getf dX5_takesDivider_12 fX5_12 (xW_at (by decide) xC8) rfl ?_
    refine g_V0r (CX3_size xLed9) kX5_takesDivider_65 dX5_takesDivider_15 (xW_at xLed9.1.1 xLed9.2.1) rfl ⟨rfl, rfl⟩ (Nat.le_of_ble_eq_true rfl) ⟨(Nat.le_of_ble_eq_true rfl), (Nat.le_of_ble_eq_true rfl)⟩ ?_
    refine g_bipush (v := 8) dX5_takesDivider_18 (by decide) ?_
    refine g_icmp_ge (tgt := 27) dX5_takesDivider_20 rfl (fun c_20 => ?_) (fun c_20 => ?_)
    · refine g_iconst (v := 0) dX5_takesDivider_27 (by decide) ?_
      exact g_zret dX5_takesDivider_28 rfl rfl (by first | decide | exact bI_and) ⟨by first | (replace c_20 : 8 ≤ σ 9 2 := c_20; grind [bB]) | grind [bB], rfl⟩
    · replace c_20 : ¬ (8 ≤ σ 9 2) := c_20
      refine g_iconst (v := 1) dX5_takesDivider_23 (by decide) ?_
      refine g_goto (tgt := 28) dX5_takesDivider_24 rfl ?_
      exact g_zret dX5_takesDivider_28 rfl rfl (by first | decide | exact bI_and) ⟨by first | (replace c_20 : 8 ≤ σ 9 2 := c_20; grind [bB]) | grind [bB], rfl⟩
set_option maxRecDepth 100000 in
set_option maxHeartbeats 4000000 in
theorem CX5_takesNumber {c : Int32} : Ct l mX5_takesNumber [.ref 8, .int c] (xW σ) (q_eq (some (.int (bB (rdNum σ c).1))) (xW (rdNum σ c).2)) := by
  refine Ct.of rfl (Nat.le_of_ble_eq_true rfl) ?_
  refine g_iload_n dX5_takesNumber_0 rfl rfl ?_
  refine g_S1r CX5_valueOf kX5_takesNumber_70 dX5_takesNumber_1 ⟨rfl, rfl⟩ (Nat.le_of_ble_eq_true rfl) ⟨(Nat.le_of_ble_eq_true rfl), (Nat.le_of_ble_eq_true rfl)⟩ ?_
  refine g_istore_n dX5_takesNumber_4 rfl (Nat.le_of_ble_eq_true rfl) rfl ?_
  refine g_iload_n dX5_takesNumber_5 rfl rfl ?_
  refine g_aload_n dX5_takesNumber_6 rfl rfl ?_
  refine g_V0r CX5_leastNumber kX5_takesNumber_73 dX5_takesNumber_7 (xW_at (by decide) xC8) rfl ⟨rfl, rfl⟩ (Nat.le_of_ble_eq_true rfl) ⟨(Nat.le_of_ble_eq_true rfl), (Nat.le_of_ble_eq_true rfl)⟩ ?_
  refine g_aload_n dX5_takesNumber_10 rfl rfl ?_
  refine g_V0r CX5_mostNumber kX5_takesNumber_76 dX5_takesNumber_11 (xW_at (by decide) xC8) rfl ⟨rfl, rfl⟩ (Nat.le_of_ble_eq_true rfl) ⟨(Nat.le_of_ble_eq_true rfl), (Nat.le_of_ble_eq_true rfl)⟩ ?_
  refine g_SN3r CX10_isWithin kX5_takesNumber_79 dX5_takesNumber_14 ⟨rfl, rfl⟩ (Nat.le_of_ble_eq_true rfl) ⟨(Nat.le_of_ble_eq_true rfl), (Nat.le_of_ble_eq_true rfl)⟩ ?_
  refine g_if_ne (tgt := 22) dX5_takesNumber_17 rfl (fun c_17 => ?_) (fun c_17 => ?_)
  · refine g_aload_n dX5_takesNumber_22 rfl rfl ?_
    refine g_getf dX5_takesNumber_23 fX5_12 (xW_at (by decide) xC8) rfl ?_
    refine g_aload_n dX5_takesNumber_26 rfl rfl ?_
    refine g_getf dX5_takesNumber_27 fX5_12 (xW_at (by decide) xC8) rfl ?_
    refine g_V0r (CX3_size xLed9) kX5_takesNumber_65 dX5_takesNumber_30 (xW_at xLed9.1.1 xLed9.2.1) rfl ⟨rfl, rfl⟩ (Nat.le_of_ble_eq_true rfl) ⟨(Nat.le_of_ble_eq_true rfl), (Nat.le_of_ble_eq_true rfl)⟩ ?_
    refine g_iconst (v := 1) dX5_takesNumber_33 (by decide) ?_
    refine g_isub dX5_takesNumber_34 ?_
    refine g_aload_n dX5_takesNumber_35 rfl rfl ?_
    refine g_getf dX5_takesNumber_36 fX5_35 (xW_at (by decide) xC8) rfl ?_
    refine g_iconst (v := 1) dX5_takesNumber_39 (by decide) ?_
    refine g_isub dX5_takesNumber_40 ?_
    refine g_iload_n dX5_takesNumber_41 rfl rfl ?_
    refine g_V3v (CX3_setNumber xLed9) kX5_takesNumber_83 dX5_takesNumber_42 (xW_at xLed9.1.1 xLed9.2.1) rfl ⟨rfl, rfl⟩ (Nat.le_of_ble_eq_true rfl) ⟨(Nat.le_of_ble_eq_true rfl), (Nat.le_of_ble_eq_true rfl)⟩ ?_
    refine g_aload_n dX5_takesNumber_45 rfl rfl ?_
    refine g_dup dX5_takesNumber_46 rfl ?_
    refine g_getf dX5_takesNumber_47 fX5_35 (xW_at (by decide) xC8) rfl ?_
    refine g_iconst (v := 1) dX5_takesNumber_50 (by decide) ?_
    refine g_iadd dX5_takesNumber_51 ?_
    refine g_putf dX5_takesNumber_52 pX5_35 (xW_at (by decide) xC8) (Nat.le_of_ble_eq_true rfl) (fun _ => rfl) (fun _ => rfl) (xW_obj xC8 rfl) ?_
    refine g_iconst (v := 1) dX5_takesNumber_55 (by decide) ?_
    exact g_zret dX5_takesNumber_56 rfl rfl (by first | decide | exact bI_and) (by
      rw [rdNum, if_pos (Classical.byContradiction (fun q => c_17 (bI_f q)))]
      refine ⟨rfl, ?_⟩
      by_cases hh : ldH (σ 9 2) (σ 9 2 - 1) ∧ 0 ≤ σ 8 2 - 1 ∧ σ 8 2 - 1 < 4
      · simp only [if_pos hh]; rfl
      · simp only [if_neg hh])
  · refine g_iconst (v := 0) dX5_takesNumber_20 (by decide) ?_
    exact g_zret dX5_takesNumber_21 rfl rfl (by first | decide | exact bI_and) (by rw [rdNum, if_neg (bI_0.mp c_17)]; exact ⟨rfl, rfl⟩)
set_option maxRecDepth 100000 in
set_option maxHeartbeats 4000000 in
theorem CX5_takesMark {c : Int32} (hn : ∃ n : Nat, σ 9 2 = nI n ∧ n < 8) : Ct l mX5_takesMark [.ref 8, .int c] (xW σ) (q_eq (some (.int (bB (rdMark σ c).1))) (xW (rdMark σ c).2)) := by
  obtain ⟨n, hn, h8⟩ := hn
  have eN : rdN σ = n := by rw [rdN, hn]; exact nI_clamp (by omega)
  refine Ct.of rfl (Nat.le_of_ble_eq_true rfl) ?_
  refine g_aload_n dX5_takesMark_0 rfl rfl ?_
  refine g_iload_n dX5_takesMark_1 rfl rfl ?_
  refine g_S1r CX5_kindMarkedBy kX5_takesMark_62 dX5_takesMark_2 ⟨rfl, rfl⟩ (Nat.le_of_ble_eq_true rfl) ⟨(Nat.le_of_ble_eq_true rfl), (Nat.le_of_ble_eq_true rfl)⟩ ?_
  refine g_putf dX5_takesMark_5 pX5_56 (xW_at (by decide) xC8) (Nat.le_of_ble_eq_true rfl) (fun _ => rfl) (fun _ => rfl) (xW_obj xC8 rfl) ?_
  refine g_aload_n dX5_takesMark_8 rfl rfl ?_
  refine g_getf dX5_takesMark_9 fX5_56 (xW_at (by decide) xC8) rfl ?_
  refine Go.eq rfl rfl (show _ = [Value.int (rkd c)] from rfl) rfl ?_
  refine g_iconst (v := -1) dX5_takesMark_12 (by decide) ?_
  refine g_icmp_eq (tgt := 33) dX5_takesMark_13 rfl (fun c_13 => ?_) (fun c_13 => ?_)
  · refine g_iconst (v := 0) dX5_takesMark_33 (by decide) ?_
    exact g_zret dX5_takesMark_34 rfl rfl (by first | decide | exact bI_and) (by rw [rdMark, if_pos (by rw [eN]; grind [nI_0, nI_ne0])]; exact ⟨rfl, rfl⟩)
  · refine g_aload_n dX5_takesMark_16 rfl rfl ?_
    refine g_getf dX5_takesMark_17 fX5_56 (xW_at (by decide) xC8) rfl ?_
    refine Go.eq rfl rfl (show _ = [Value.int (rkd c)] from rfl) rfl ?_
    refine g_if_eq (tgt := 35) dX5_takesMark_20 rfl (fun c_20 => ?_) (fun c_20 => ?_)
    · refine g_aload_n dX5_takesMark_35 rfl rfl ?_
      refine g_iconst (v := 1) dX5_takesMark_36 (by decide) ?_
      refine g_putf dX5_takesMark_37 pX5_35 (xW_at (by decide) xC8) (Nat.le_of_ble_eq_true rfl) (fun _ => rfl) (fun _ => rfl) (xW_obj xC8 rfl) ?_
      refine g_aload_n dX5_takesMark_40 rfl rfl ?_
      refine g_getf dX5_takesMark_41 fX5_12 (xW_at (by decide) xC8) rfl ?_
      refine g_aload_n dX5_takesMark_44 rfl rfl ?_
      refine g_getf dX5_takesMark_45 fX5_56 (xW_at (by decide) xC8) rfl ?_
      refine Go.eq rfl rfl (show _ = [Value.int (rkd c), Value.ref 9] from rfl) rfl ?_
      refine g_iconst (v := 0) dX5_takesMark_48 (by decide) ?_
      refine g_iconst (v := 0) dX5_takesMark_49 (by decide) ?_
      refine g_iconst (v := 0) dX5_takesMark_50 (by decide) ?_
      refine g_iconst (v := 0) dX5_takesMark_51 (by decide) ?_
      refine g_V5r (CX3_append (σ := put (put σ 8 1 (rkd c)) 8 2 1) xLed9 (n := n) h8 hn) kX5_takesMark_66 dX5_takesMark_52 (xW_at xLed9.1.1 xLed9.2.1) rfl ⟨rfl, rfl⟩ (Nat.le_of_ble_eq_true rfl) ⟨(Nat.le_of_ble_eq_true rfl), (Nat.le_of_ble_eq_true rfl)⟩ ?_
      exact g_zret dX5_takesMark_55 rfl rfl (by first | decide | exact bI_and) (by rw [rdMark, if_neg (by rw [eN]; grind [nI_0, nI_ne0]), eN]; exact ⟨rfl, rfl⟩)
    · refine g_aload_n dX5_takesMark_23 rfl rfl ?_
      refine g_getf dX5_takesMark_24 fX5_12 (xW_at (by decide) xC8) rfl ?_
      refine g_V0r (CX3_size xLed9) kX5_takesMark_65 dX5_takesMark_27 (xW_at xLed9.1.1 xLed9.2.1) rfl ⟨rfl, rfl⟩ (Nat.le_of_ble_eq_true rfl) ⟨(Nat.le_of_ble_eq_true rfl), (Nat.le_of_ble_eq_true rfl)⟩ ?_
      refine Go.eq rfl rfl (show _ = [Value.int (nI n)] by rw [← hn]; rfl) rfl ?_
      refine g_if_ne (tgt := 35) dX5_takesMark_30 rfl (fun c_30 => ?_) (fun c_30 => ?_)
      · refine g_aload_n dX5_takesMark_35 rfl rfl ?_
        refine g_iconst (v := 1) dX5_takesMark_36 (by decide) ?_
        refine g_putf dX5_takesMark_37 pX5_35 (xW_at (by decide) xC8) (Nat.le_of_ble_eq_true rfl) (fun _ => rfl) (fun _ => rfl) (xW_obj xC8 rfl) ?_
        refine g_aload_n dX5_takesMark_40 rfl rfl ?_
        refine g_getf dX5_takesMark_41 fX5_12 (xW_at (by decide) xC8) rfl ?_
        refine g_aload_n dX5_takesMark_44 rfl rfl ?_
        refine g_getf dX5_takesMark_45 fX5_56 (xW_at (by decide) xC8) rfl ?_
        refine Go.eq rfl rfl (show _ = [Value.int (rkd c), Value.ref 9] from rfl) rfl ?_
        refine g_iconst (v := 0) dX5_takesMark_48 (by decide) ?_
        refine g_iconst (v := 0) dX5_takesMark_49 (by decide) ?_
        refine g_iconst (v := 0) dX5_takesMark_50 (by decide) ?_
        refine g_iconst (v := 0) dX5_takesMark_51 (by decide) ?_
        refine g_V5r (CX3_append (σ := put (put σ 8 1 (rkd c)) 8 2 1) xLed9 (n := n) h8 hn) kX5_takesMark_66 dX5_takesMark_52 (xW_at xLed9.1.1 xLed9.2.1) rfl ⟨rfl, rfl⟩ (Nat.le_of_ble_eq_true rfl) ⟨(Nat.le_of_ble_eq_true rfl), (Nat.le_of_ble_eq_true rfl)⟩ ?_
        exact g_zret dX5_takesMark_55 rfl rfl (by first | decide | exact bI_and) (by rw [rdMark, if_neg (by rw [eN]; grind [nI_0, nI_ne0]), eN]; exact ⟨rfl, rfl⟩)
      · refine g_iconst (v := 0) dX5_takesMark_33 (by decide) ?_
        exact g_zret dX5_takesMark_34 rfl rfl (by first | decide | exact bI_and) (by rw [rdMark, if_pos (by rw [eN]; grind [nI_0, nI_ne0])]; exact ⟨rfl, rfl⟩)
set_option maxRecDepth 100000 in
set_option maxHeartbeats 4000000 in
theorem CX5_takes {c : Int32} (hn : rdOk σ) : Ct l mX5_takes [.ref 8, .int c] (xW σ) (q_eq (some (.int (bB (rdTk σ c).1))) (xW (rdTk σ c).2)) := by
  refine Ct.of rfl (Nat.le_of_ble_eq_true rfl) ?_
  refine g_aload_n dX5_takes_0 rfl rfl ?_
  refine g_getf dX5_takes_1 fX5_35 (xW_at (by decide) xC8) rfl ?_
  refine g_if_ne (tgt := 13) dX5_takes_4 rfl (fun c_4 => ?_) (fun c_4 => ?_)
  · refine g_aload_n dX5_takes_13 rfl rfl ?_
    refine g_V0r CX5_isRowWhole kX5_takes_28 dX5_takes_14 (xW_at (by decide) xC8) rfl ⟨rfl, rfl⟩ (Nat.le_of_ble_eq_true rfl) ⟨(Nat.le_of_ble_eq_true rfl), (Nat.le_of_ble_eq_true rfl)⟩ ?_
    refine g_if_eq (tgt := 28) dX5_takes_17 rfl (fun c_17 => ?_) (fun c_17 => ?_)
    · refine g_aload_n dX5_takes_28 rfl rfl ?_
      refine g_iload_n dX5_takes_29 rfl rfl ?_
      refine g_V1r CX5_takesNumber kX5_takes_53 dX5_takes_30 (xW_at (by decide) xC8) rfl ⟨rfl, rfl⟩ (Nat.le_of_ble_eq_true rfl) ⟨(Nat.le_of_ble_eq_true rfl), (Nat.le_of_ble_eq_true rfl)⟩ ?_
      exact g_zret dX5_takes_33 rfl rfl bB_and (by rw [rdTk, if_neg c_4, if_neg (bI_0.mp c_17)]; exact ⟨rfl, rfl⟩)
    · refine g_aload_n dX5_takes_20 rfl rfl ?_
      refine g_iload_n dX5_takes_21 rfl rfl ?_
      refine g_V1r CX5_takesDivider kX5_takes_50 dX5_takes_22 (xW_at (by decide) xC8) rfl ⟨rfl, rfl⟩ (Nat.le_of_ble_eq_true rfl) ⟨(Nat.le_of_ble_eq_true rfl), (Nat.le_of_ble_eq_true rfl)⟩ ?_
      refine g_goto (tgt := 33) dX5_takes_25 rfl ?_
      exact g_zret dX5_takes_33 rfl rfl bB_and (by rw [rdTk, if_neg c_4, if_pos (Classical.byContradiction (fun q => c_17 (bI_f q)))]; exact ⟨rfl, rfl⟩)
  · refine g_aload_n dX5_takes_7 rfl rfl ?_
    refine g_iload_n dX5_takes_8 rfl rfl ?_
    refine g_V1r (CX5_takesMark (by obtain ⟨n, h1, h2, h3, -⟩ := hn; exact ⟨n, h1, h3 c_4⟩)) kX5_takes_47 dX5_takes_9 (xW_at (by decide) xC8) rfl ⟨rfl, rfl⟩ (Nat.le_of_ble_eq_true rfl) ⟨(Nat.le_of_ble_eq_true rfl), (Nat.le_of_ble_eq_true rfl)⟩ ?_
    exact g_zret dX5_takes_12 rfl rfl bB_and (by rw [rdTk, if_pos c_4]; exact ⟨rfl, rfl⟩)
theorem nums_bd (k : Int32) : 1 ≤ nums k ∧ nums k ≤ 4 := by grind [nums]
theorem ldWr_ne {σ : Nat → Nat → Int32} {a b r j : Nat} {k A B C D : Int32} (h1 : j ≠ a) (h2 : j ≠ b) : ldWr σ a b r k A B C D j = σ j := by
  unfold ldWr; rw [put_ne h2, put_ne h2, put_ne h2, put_ne h2, put_ne h1]
theorem rdTk_ne {c : Int32} {j : Nat} (h : j ≠ 8 ∧ j ≠ 9 ∧ j ≠ 10 ∧ j ≠ 11) : (rdTk σ c).2 j = σ j := by
  unfold rdTk rdMark rdNum
  split
  · split
    · exact put_ne h.1
    · show ldWr _ 10 11 _ _ _ _ _ _ j = _
      rw [ldWr_ne h.2.2.1 h.2.2.2, put_ne h.2.1, put_ne h.1, put_ne h.1]
  · split
    · exact put_ne h.1
    · split
      · show put _ 8 2 _ j = _
        rw [put_ne h.1]
        split
        · exact put_ne h.2.2.2
        · rfl
      · rfl
theorem rdTk_ok {c : Int32} (h : rdOk σ) (ht : (rdTk σ c).1 = true) : rdOk (rdTk σ c).2 := by
  obtain ⟨n, h1, h2, h3, h4, h5⟩ := h
  have eN : rdN σ = n := by rw [rdN, h1]; exact nI_clamp (by omega)
  unfold rdTk at ht ⊢
  by_cases e0 : σ 8 2 = 0
  · rw [if_pos e0] at ht ⊢
    unfold rdMark at ht ⊢
    split at ht
    · cases ht
    · rename_i hc
      rw [if_neg hc, eN]
      have hb := nums_bd (rkd c)
      have h30 := h3 e0
      refine ⟨n + 1, rfl, by omega, fun q => ?_, ?_, ?_⟩
      · exact absurd (show (1 : Int32) = 0 from q) (by decide)
      · show (0 : Int32) ≤ 1
        decide
      · show (1 : Int32) ≤ 1 + nums (rkd c)
        grind
  · rw [if_neg e0] at ht ⊢
    by_cases e1 : σ 8 2 = 1 + nums (σ 8 1)
    · rw [if_pos e1] at ht ⊢
      have ht := of_decide_eq_true ht
      refine ⟨n, h1, h2, fun _ => ?_, ?_, ?_⟩
      · rcases Nat.lt_or_ge n 8 with q | q
        · exact q
        · have : n = 8 := by omega
          subst this
          rw [h1] at ht
          exact absurd ht.2 (by decide)
      · show (0 : Int32) ≤ 0
        decide
      · have hb := nums_bd (σ 8 1)
        show (0 : Int32) ≤ 1 + nums (σ 8 1)
        grind
    · rw [if_neg e1] at ht ⊢
      unfold rdNum at ht ⊢
      split at ht
      · rename_i hc
        rw [if_pos hc]
        have hb := nums_bd (σ 8 1)
        have e8 : ∀ v : Int32, put (if ldH (σ 9 2) (σ 9 2 - 1) ∧ 0 ≤ σ 8 2 - 1 ∧ σ 8 2 - 1 < 4 then put σ 11 ((σ 9 2 - 1) * 4 + (σ 8 2 - 1)).toNatClampNeg (rvl c) else σ) 8 2 v 9 = σ 9 := by
          intro v
          rw [put_ne (by decide)]
          split
          · exact put_ne (by decide)
          · rfl
        have e9 : ∀ v : Int32, put (if ldH (σ 9 2) (σ 9 2 - 1) ∧ 0 ≤ σ 8 2 - 1 ∧ σ 8 2 - 1 < 4 then put σ 11 ((σ 9 2 - 1) * 4 + (σ 8 2 - 1)).toNatClampNeg (rvl c) else σ) 8 2 v 8 = upd (σ 8) 2 v := by
          intro v
          rw [put_eq]
          split
          · rw [put_ne (by decide)]
          · rfl
        dsimp only
        refine ⟨n, ?_, h2, fun q => ?_, ?_, ?_⟩
        · rw [e8]; exact h1
        · rw [e9] at q
          replace q : σ 8 2 + 1 = 0 := q
          exfalso; grind
        · rw [e9]
          show (0 : Int32) ≤ σ 8 2 + 1
          grind
        · rw [e9]
          show σ 8 2 + 1 ≤ 1 + nums (σ 8 1)
          grind
      · cases ht
set_option maxRecDepth 100000 in
set_option maxHeartbeats 4000000 in
theorem CX5_faultOf_loop {G : Nat → Int32} {p n0 : Nat} (hp : p ≤ 47) : ∀ (d j : Nat) (τ : Nat → Nat → Int32), j + d = p → rdOk τ → τ 6 1 = nI p → τ 7 = G → Go l mX5_faultOf n0 (q_eq (some (.int (nI (rdGo G d j τ).1))) (xW (rdGo G d j τ).2)) (0, 0) 14 [some (.ref 8), some (.ref 6), some (.int (nI j))] [] (xW τ) := by
  intro d
  induction d with
  | zero =>
    intro j τ hj hok h6 h7
    refine g_iload_n dX5_faultOf_14 rfl rfl ?_
    refine g_aload_n dX5_faultOf_15 rfl rfl ?_
    refine g_V0r (CX4_size xNum6) kX5_faultOf_22 dX5_faultOf_16 (xW_at xNum6.1.1 xNum6.2.1) rfl ⟨rfl, rfl⟩ (Nat.le_of_ble_eq_true rfl) ⟨(Nat.le_of_ble_eq_true rfl), (Nat.le_of_ble_eq_true rfl)⟩ ?_
    refine g_icmp_ge (tgt := 42) dX5_faultOf_19 rfl (fun c_19 => ?_) (fun c_19 => by exact absurd (by rw [h6]; exact nI_le (by omega) (by omega)) c_19)
    refine g_aload_n dX5_faultOf_42 rfl rfl ?_
    refine g_V0r (CX4_size xNum6) kX5_faultOf_22 dX5_faultOf_43 (xW_at xNum6.1.1 xNum6.2.1) rfl ⟨rfl, rfl⟩ (Nat.le_of_ble_eq_true rfl) ⟨(Nat.le_of_ble_eq_true rfl), (Nat.le_of_ble_eq_true rfl)⟩ ?_
    exact g_iret dX5_faultOf_46 rfl rfl ⟨by rw [h6, show j = p by omega]; rfl, rfl⟩
  | succ d ih =>
    intro j τ hj hok h6 h7
    have eat : j < p → nmAt (τ 7) (τ 6 1) 47 (nI j) = G j := by
      intro q
      rw [h7, h6, nmAt, if_pos ⟨nI_pos' (by omega), nI_lt q (by omega), nI_lt (b := 47) (by omega) (by decide)⟩, nI_clamp (by omega)]
    refine g_iload_n dX5_faultOf_14 rfl rfl ?_
    refine g_aload_n dX5_faultOf_15 rfl rfl ?_
    refine g_V0r (CX4_size xNum6) kX5_faultOf_22 dX5_faultOf_16 (xW_at xNum6.1.1 xNum6.2.1) rfl ⟨rfl, rfl⟩ (Nat.le_of_ble_eq_true rfl) ⟨(Nat.le_of_ble_eq_true rfl), (Nat.le_of_ble_eq_true rfl)⟩ ?_
    refine g_icmp_ge (tgt := 42) dX5_faultOf_19 rfl (fun c_19 => by rw [h6] at c_19; exact absurd c_19 (nI_ge (by omega) (by omega))) (fun c_19 => ?_)
    refine g_aload_n dX5_faultOf_22 rfl rfl ?_
    refine g_aload_n dX5_faultOf_23 rfl rfl ?_
    refine g_iload_n dX5_faultOf_24 rfl rfl ?_
    refine g_V1r (CX4_at xNum6 (by decide)) kX5_faultOf_39 dX5_faultOf_25 (xW_at xNum6.1.1 xNum6.2.1) rfl ⟨rfl, rfl⟩ (Nat.le_of_ble_eq_true rfl) ⟨(Nat.le_of_ble_eq_true rfl), (Nat.le_of_ble_eq_true rfl)⟩ ?_
    rw [eat (by omega)]
    refine g_V1r (CX5_takes hok) kX5_faultOf_43 dX5_faultOf_28 (xW_at (by decide) xC8) rfl ⟨rfl, rfl⟩ (Nat.le_of_ble_eq_true rfl) ⟨(Nat.le_of_ble_eq_true rfl), (Nat.le_of_ble_eq_true rfl)⟩ ?_
    refine g_if_ne (tgt := 36) dX5_faultOf_31 rfl (fun c_31 => ?_) (fun c_31 => ?_)
    · refine g_iinc (v := 1) dX5_faultOf_36 (by decide) rfl (Nat.le_of_ble_eq_true rfl) rfl ?_
      refine g_goto (tgt := 14) dX5_faultOf_39 rfl ?_
      have ht : (rdTk τ (G j)).1 = true := by
        cases hb : (rdTk τ (G j)).1 with
        | true => rfl
        | false => rw [hb] at c_31; exact absurd rfl c_31
      have e : rdGo G (d + 1) j τ = rdGo G d (j + 1) (rdTk τ (G j)).2 := by rw [rdGo, if_pos ht]
      rw [e]
      exact Go.eq rfl (show _ = _ by rw [← nI_1 j]; rfl) rfl rfl (ih (j + 1) _ (by omega) (rdTk_ok hok ht) (by rw [rdTk_ne (by decide), h6]) (by rw [rdTk_ne (by decide), h7]))
    · refine g_iload_n dX5_faultOf_34 rfl rfl ?_
      exact g_iret dX5_faultOf_35 rfl rfl (by
        have hf : ¬ (rdTk τ (G j)).1 = true := fun q => by rw [q] at c_31; exact absurd c_31 (by decide)
        rw [rdGo, if_neg hf]; exact ⟨rfl, rfl⟩)
set_option maxRecDepth 100000 in
set_option maxHeartbeats 4000000 in
theorem CX5_faultOf {p : Nat} (hp : p ≤ 47) (h6 : σ 6 1 = nI p) : Ct l mX5_faultOf [.ref 8, .ref 6] (xW σ) (q_eq (some (.int (nI (rdGo (σ 7) p 0 (put (put σ 9 2 0) 8 2 0)).1))) (xW (rdGo (σ 7) p 0 (put (put σ 9 2 0) 8 2 0)).2)) := by
  refine Ct.of rfl (Nat.le_of_ble_eq_true rfl) ?_
  refine g_aload_n dX5_faultOf_0 rfl rfl ?_
  refine g_getf dX5_faultOf_1 fX5_12 (xW_at (by decide) xC8) rfl ?_
  refine g_V0v (CX3_clear xLed9) kX5_faultOf_32 dX5_faultOf_4 (xW_at xLed9.1.1 xLed9.2.1) rfl ⟨rfl, rfl⟩ (Nat.le_of_ble_eq_true rfl) ⟨(Nat.le_of_ble_eq_true rfl), (Nat.le_of_ble_eq_true rfl)⟩ ?_
  refine g_aload_n dX5_faultOf_7 rfl rfl ?_
  refine g_iconst (v := 0) dX5_faultOf_8 (by decide) ?_
  refine g_putf dX5_faultOf_9 pX5_35 (xW_at (by decide) xC8) (Nat.le_of_ble_eq_true rfl) (fun _ => rfl) (fun _ => rfl) (xW_obj xC8 rfl) ?_
  refine g_iconst (v := 0) dX5_faultOf_12 (by decide) ?_
  refine g_istore_n dX5_faultOf_13 rfl (Nat.le_of_ble_eq_true rfl) rfl ?_
  exact CX5_faultOf_loop hp p 0 _ (by omega) ⟨0, rfl, by decide, fun _ => by decide, by show (0 : Int32) ≤ 0; decide, by have := nums_bd (σ 8 1); show (0 : Int32) ≤ 1 + nums (σ 8 1); grind⟩ h6 rfl
theorem rdGo_ne {G : Nat → Int32} {k : Nat} (h : k ≠ 8 ∧ k ≠ 9 ∧ k ≠ 10 ∧ k ≠ 11) : ∀ (d j : Nat) (τ : Nat → Nat → Int32), (rdGo G d j τ).2 k = τ k
  | 0, _, _ => rfl
  | d + 1, j, τ => by
    unfold rdGo
    split
    · rw [rdGo_ne h d (j + 1), rdTk_ne h]
    · exact rdTk_ne h
theorem rdGo_le {G : Nat → Int32} : ∀ (d j : Nat) (τ : Nat → Nat → Int32), (rdGo G d j τ).1 ≤ j + d
  | 0, j, _ => Nat.le_refl j
  | d + 1, j, τ => by
    unfold rdGo
    split
    · have := rdGo_le (G := G) d (j + 1) (rdTk τ (G j)).2; omega
    · show j ≤ _; omega
set_option maxRecDepth 100000 in
set_option maxHeartbeats 4000000 in
theorem CX5_isWhole {p : Nat} (hp : p ≤ 47) (h6 : σ 6 1 = nI p) : Ct l mX5_isWhole [.ref 8, .ref 6] (xW σ) (q_eq (some (.int (bI ((rdGo (σ 7) p 0 (put (put σ 9 2 0) 8 2 0)).1 = p ∧ (rdGo (σ 7) p 0 (put (put σ 9 2 0) 8 2 0)).2 8 2 = 1 + nums ((rdGo (σ 7) p 0 (put (put σ 9 2 0) 8 2 0)).2 8 1))))) (xW (rdGo (σ 7) p 0 (put (put σ 9 2 0) 8 2 0)).2)) := by
  have e6 : (rdGo (σ 7) p 0 (put (put σ 9 2 0) 8 2 0)).2 6 1 = nI p := by rw [rdGo_ne (by decide)]; exact h6
  have hle := rdGo_le (G := σ 7) p 0 (put (put σ 9 2 0) 8 2 0)
  refine Ct.of rfl (Nat.le_of_ble_eq_true rfl) ?_
  refine g_aload_n dX5_isWhole_0 rfl rfl ?_
  refine g_aload_n dX5_isWhole_1 rfl rfl ?_
  refine g_V1r (CX5_faultOf hp h6) kX5_isWhole_18 dX5_isWhole_2 (xW_at (by decide) xC8) rfl ⟨rfl, rfl⟩ (Nat.le_of_ble_eq_true rfl) ⟨(Nat.le_of_ble_eq_true rfl), (Nat.le_of_ble_eq_true rfl)⟩ ?_
  refine g_aload_n dX5_isWhole_5 rfl rfl ?_
  refine g_V0r (CX4_size xNum6) kX5_isWhole_22 dX5_isWhole_6 (xW_at xNum6.1.1 xNum6.2.1) rfl ⟨rfl, rfl⟩ (Nat.le_of_ble_eq_true rfl) ⟨(Nat.le_of_ble_eq_true rfl), (Nat.le_of_ble_eq_true rfl)⟩ ?_
  rw [e6]
  refine g_icmp_ne (tgt := 23) dX5_isWhole_9 rfl (fun c_9 => ?_) (fun c_9 => ?_)
  · refine g_iconst (v := 0) dX5_isWhole_23 (by decide) ?_
    exact g_zret dX5_isWhole_24 rfl rfl (by first | decide | exact bI_and) ⟨by rw [bI_f (fun q => c_9 (by rw [q.1]))], rfl⟩
  · refine g_aload_n dX5_isWhole_12 rfl rfl ?_
    refine g_V0r CX5_isRowWhole kX5_isWhole_28 dX5_isWhole_13 (xW_at (by decide) xC8) rfl ⟨rfl, rfl⟩ (Nat.le_of_ble_eq_true rfl) ⟨(Nat.le_of_ble_eq_true rfl), (Nat.le_of_ble_eq_true rfl)⟩ ?_
    refine g_if_eq (tgt := 23) dX5_isWhole_16 rfl (fun c_16 => ?_) (fun c_16 => ?_)
    · refine g_iconst (v := 0) dX5_isWhole_23 (by decide) ?_
      exact g_zret dX5_isWhole_24 rfl rfl (by first | decide | exact bI_and) ⟨by rw [bI_f (fun q => bI_0.mp c_16 q.2)], rfl⟩
    · refine g_iconst (v := 1) dX5_isWhole_19 (by decide) ?_
      refine g_goto (tgt := 24) dX5_isWhole_20 rfl ?_
      exact g_zret dX5_isWhole_24 rfl rfl (by first | decide | exact bI_and) ⟨by rw [bI_t ⟨nI_inj (by omega) (by omega) c_9, Classical.byContradiction (fun q => c_16 (bI_f q))⟩], rfl⟩
end
