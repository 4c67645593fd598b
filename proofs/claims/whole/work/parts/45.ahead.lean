theorem xC0 : ∀ f, xcell 0 f = .inr (8, [.ref 1, .ref 4, .ref 6, .ref 8, .ref 12, .ref 13, .ref 15, .ref 162, .ref 166, .ref 168, .ref 171, .int (f 11), .int (f 12)]) := fun _ => rfl
/-- what a change from a row on makes unknown -/
def xChg (σ : Nat → Nat → Int32) (r : Int32) : Nat → Nat → Int32 := putC (put σ 13 1 (if r < σ 13 1 then r else σ 13 1)) 17 (ru (σ 17) 0 9 (mnI (σ 17) r))
def ldCp (σ : Nat → Nat → Int32) (i a b i' a' b' : Nat) : Nat → Nat → Int32 := put (putC (putC σ a (va_cpy (σ a') (σ a) 0 0 8)) b (va_cpy (putC σ a (va_cpy (σ a') (σ a) 0 0 8) b') (putC σ a (va_cpy (σ a') (σ a) 0 0 8) b) 0 0 32)) i 2 (putC (putC σ a (va_cpy (σ a') (σ a) 0 0 8)) b (va_cpy (putC σ a (va_cpy (σ a') (σ a) 0 0 8) b') (putC σ a (va_cpy (σ a') (σ a) 0 0 8) b) 0 0 32) i' 2)
def adR (n : Nat) : Int32 := if n < 8 then nI n else 2000000104
def adS (σ : Nat → Nat → Int32) (n : Nat) (k A B C D : Int32) : Nat → Nat → Int32 := if n < 8 then ldWr (put σ 1 2 (nI (n + 1))) 2 3 n k A B C D else σ
def pgR (p : Nat) (N : Nat) : Int32 := if p < N then nI (p + 1) else 2000000104
def pgS (σ : Nat → Nat → Int32) (i a p N : Nat) (v : Int32) : Nat → Nat → Int32 := if p < N then put (put σ a p v) i 1 (nI (p + 1)) else σ
section
variable {l : Launch} {σ : Nat → Nat → Int32}
set_option maxRecDepth 100000 in
set_option maxHeartbeats 4000000 in
theorem CX10_changedFrom {r : Int32} : Ct l mX10_changedFrom [.ref 0, .int r] (xW σ) (q_eq none (xW (xChg σ r))) := by
  refine Ct.of rfl (Nat.le_of_ble_eq_true rfl) ?_
  refine g_aload_n dX10_changedFrom_0 rfl rfl ?_
  refine g_getf dX10_changedFrom_1 fX10_45 (xW_at (by decide) xC0) rfl ?_
  refine g_iload_n dX10_changedFrom_4 rfl rfl ?_
  refine g_V1v CX9_forgetFrom kX10_changedFrom_304 dX10_changedFrom_5 (xW_at (by decide) xC13) rfl ⟨rfl, rfl⟩ (Nat.le_of_ble_eq_true rfl) ⟨(Nat.le_of_ble_eq_true rfl), (Nat.le_of_ble_eq_true rfl)⟩ ?_
  refine g_aload_n dX10_changedFrom_8 rfl rfl ?_
  refine g_getf dX10_changedFrom_9 fX10_52 (xW_at (by decide) xC0) rfl ?_
  refine g_iload_n dX10_changedFrom_12 rfl rfl ?_
  refine g_V1v CX6_forgetFrom kX10_changedFrom_307 dX10_changedFrom_13 (xW_at (by decide) xC15) rfl ⟨rfl, rfl⟩ (Nat.le_of_ble_eq_true rfl) ⟨(Nat.le_of_ble_eq_true rfl), (Nat.le_of_ble_eq_true rfl)⟩ ?_
  exact g_vret dX10_changedFrom_16 rfl rfl ⟨rfl, rfl⟩
set_option maxRecDepth 100000 in
set_option maxHeartbeats 4000000 in
theorem CX10_added {n : Nat} (hn : n ≤ 8) (hs : σ 1 2 = nI n) {k A B C D : Int32} : Ct l mX10_added [.ref 0, .int k, .int A, .int B, .int C, .int D] (xW σ) (q_eq (some (.int (adR n))) (xW (adS σ n k A B C D))) := by
  refine Ct.of rfl (Nat.le_of_ble_eq_true rfl) ?_
  rcases Nat.lt_or_ge n 8 with q | q
  · refine g_aload_n dX10_added_0 rfl rfl ?_
    refine g_getf dX10_added_1 fX10_10 (xW_at (by decide) xC0) rfl ?_
    refine g_iload_n dX10_added_4 rfl rfl ?_
    refine g_iload_n dX10_added_5 rfl rfl ?_
    refine g_iload_n dX10_added_6 rfl rfl ?_
    refine g_iload dX10_added_7 rfl ?_
    refine g_iload dX10_added_9 rfl ?_
    refine g_V5r (CX3_append xLed1 (n := n) q hs) kX10_added_301 dX10_added_11 (xW_at xLed1.1.1 xLed1.2.1) rfl ⟨rfl, rfl⟩ (Nat.le_of_ble_eq_true rfl) ⟨(Nat.le_of_ble_eq_true rfl), (Nat.le_of_ble_eq_true rfl)⟩ ?_
    refine g_if_eq (tgt := 29) dX10_added_14 rfl (fun c_14 => by exact absurd c_14 (by decide)) (fun c_14 => ?_)
    refine g_aload_n dX10_added_17 rfl rfl ?_
    refine g_getf dX10_added_18 fX10_10 (xW_at (by decide) xC0) rfl ?_
    refine g_V0r (CX3_size xLed1) kX10_added_121 dX10_added_21 (xW_at xLed1.1.1 xLed1.2.1) rfl ⟨rfl, rfl⟩ (Nat.le_of_ble_eq_true rfl) ⟨(Nat.le_of_ble_eq_true rfl), (Nat.le_of_ble_eq_true rfl)⟩ ?_
    refine g_iconst (v := 1) dX10_added_24 (by decide) ?_
    refine g_isub dX10_added_25 ?_
    refine g_goto (tgt := 31) dX10_added_26 rfl ?_
    exact g_iret dX10_added_31 rfl rfl ⟨by rw [adR, if_pos q]; show some (Value.int (nI (n + 1) - 1)) = _; rw [nI_pred], by rw [adS, if_pos q]⟩
  · refine g_aload_n dX10_added_0 rfl rfl ?_
    refine g_getf dX10_added_1 fX10_10 (xW_at (by decide) xC0) rfl ?_
    refine g_iload_n dX10_added_4 rfl rfl ?_
    refine g_iload_n dX10_added_5 rfl rfl ?_
    refine g_iload_n dX10_added_6 rfl rfl ?_
    refine g_iload dX10_added_7 rfl ?_
    refine g_iload dX10_added_9 rfl ?_
    refine g_V5r (CX3_appendF xLed1 (by rw [hs, show n = 8 by omega]; rfl)) kX10_added_301 dX10_added_11 (xW_at xLed1.1.1 xLed1.2.1) rfl ⟨rfl, rfl⟩ (Nat.le_of_ble_eq_true rfl) ⟨(Nat.le_of_ble_eq_true rfl), (Nat.le_of_ble_eq_true rfl)⟩ ?_
    refine g_if_eq (tgt := 29) dX10_added_14 rfl (fun c_14 => ?_) (fun c_14 => by exact absurd rfl c_14)
    refine g_ldc dX10_added_29 tb_308 ?_
    exact g_iret dX10_added_31 rfl rfl ⟨by rw [adR, if_neg (by omega)], by rw [adS, if_neg (by omega)]⟩
set_option maxRecDepth 100000 in
set_option maxHeartbeats 4000000 in
theorem CX10_letter {p : Nat} (hp : p ≤ 47) (hs : σ 6 1 = nI p) {c : Int32} : Ct l mX10_letter [.ref 0, .int c] (xW σ) (q_eq (some (.int (if 32 ≤ c ∧ c ≤ 126 then pgR p 47 else 2000000102))) (xW (if 32 ≤ c ∧ c ≤ 126 then pgS σ 6 7 p 47 c else σ))) := by
  refine Ct.of rfl (Nat.le_of_ble_eq_true rfl) ?_
  rcases Nat.lt_or_ge p 47 with q | q
  · refine g_iload_n dX10_letter_0 rfl rfl ?_
    refine g_bipush (v := 32) dX10_letter_1 (by decide) ?_
    refine g_bipush (v := 126) dX10_letter_3 (by decide) ?_
    refine g_S3r CX10_isWithin kX10_letter_76 dX10_letter_5 ⟨rfl, rfl⟩ (Nat.le_of_ble_eq_true rfl) ⟨(Nat.le_of_ble_eq_true rfl), (Nat.le_of_ble_eq_true rfl)⟩ ?_
    refine g_if_ne (tgt := 14) dX10_letter_8 rfl (fun c_8 => ?_) (fun c_8 => ?_)
    · refine g_aload_n dX10_letter_14 rfl rfl ?_
      refine g_getf dX10_letter_15 fX10_25 (xW_at (by decide) xC0) rfl ?_
      refine g_iload_n dX10_letter_18 rfl rfl ?_
      refine g_V1r (CX4_append xNum6 (by decide) (j := p) q hs) kX10_letter_81 dX10_letter_19 (xW_at xNum6.1.1 xNum6.2.1) rfl ⟨rfl, rfl⟩ (Nat.le_of_ble_eq_true rfl) ⟨(Nat.le_of_ble_eq_true rfl), (Nat.le_of_ble_eq_true rfl)⟩ ?_
      refine g_if_eq (tgt := 35) dX10_letter_22 rfl (fun c_22 => by exact absurd c_22 (by decide)) (fun c_22 => ?_)
      refine g_aload_n dX10_letter_25 rfl rfl ?_
      refine g_getf dX10_letter_26 fX10_25 (xW_at (by decide) xC0) rfl ?_
      refine g_V0r (CX4_size xNum6) kX10_letter_85 dX10_letter_29 (xW_at xNum6.1.1 xNum6.2.1) rfl ⟨rfl, rfl⟩ (Nat.le_of_ble_eq_true rfl) ⟨(Nat.le_of_ble_eq_true rfl), (Nat.le_of_ble_eq_true rfl)⟩ ?_
      refine g_goto (tgt := 37) dX10_letter_32 rfl ?_
      exact g_iret dX10_letter_37 rfl rfl ⟨by rw [if_pos (Classical.byContradiction (fun z => c_8 (bI_f z))), pgR, if_pos q]; rfl, by rw [if_pos (Classical.byContradiction (fun z => c_8 (bI_f z))), pgS, if_pos q]⟩
    · refine g_ldc dX10_letter_11 tb_299 ?_
      exact g_iret dX10_letter_13 rfl rfl ⟨by rw [if_neg (bI_0.mp c_8)], by rw [if_neg (bI_0.mp c_8)]⟩
  · refine g_iload_n dX10_letter_0 rfl rfl ?_
    refine g_bipush (v := 32) dX10_letter_1 (by decide) ?_
    refine g_bipush (v := 126) dX10_letter_3 (by decide) ?_
    refine g_S3r CX10_isWithin kX10_letter_76 dX10_letter_5 ⟨rfl, rfl⟩ (Nat.le_of_ble_eq_true rfl) ⟨(Nat.le_of_ble_eq_true rfl), (Nat.le_of_ble_eq_true rfl)⟩ ?_
    refine g_if_ne (tgt := 14) dX10_letter_8 rfl (fun c_8 => ?_) (fun c_8 => ?_)
    · refine g_aload_n dX10_letter_14 rfl rfl ?_
      refine g_getf dX10_letter_15 fX10_25 (xW_at (by decide) xC0) rfl ?_
      refine g_iload_n dX10_letter_18 rfl rfl ?_
      refine g_V1r (CX4_appendF xNum6 (by decide) (by rw [hs, show p = 47 by omega])) kX10_letter_81 dX10_letter_19 (xW_at xNum6.1.1 xNum6.2.1) rfl ⟨rfl, rfl⟩ (Nat.le_of_ble_eq_true rfl) ⟨(Nat.le_of_ble_eq_true rfl), (Nat.le_of_ble_eq_true rfl)⟩ ?_
      refine g_if_eq (tgt := 35) dX10_letter_22 rfl (fun c_22 => ?_) (fun c_22 => by exact absurd rfl c_22)
      refine g_ldc dX10_letter_35 tb_308 ?_
      exact g_iret dX10_letter_37 rfl rfl ⟨by rw [if_pos (Classical.byContradiction (fun z => c_8 (bI_f z))), pgR, if_neg (by omega)], by rw [if_pos (Classical.byContradiction (fun z => c_8 (bI_f z))), pgS, if_neg (by omega)]⟩
    · refine g_ldc dX10_letter_11 tb_299 ?_
      exact g_iret dX10_letter_13 rfl rfl ⟨by rw [if_neg (bI_0.mp c_8)], by rw [if_neg (bI_0.mp c_8)]⟩
set_option maxRecDepth 100000 in
set_option maxHeartbeats 4000000 in
theorem CX10_give {p : Nat} (hp : p ≤ 8) (hs : σ 4 1 = nI p) {c : Int32} : Ct l mX10_give [.ref 0, .int c] (xW σ) (q_eq (some (.int (if -99 ≤ c ∧ c ≤ 99 then pgR p 8 else 2000000102))) (xW (if -99 ≤ c ∧ c ≤ 99 then pgS σ 4 5 p 8 c else σ))) := by
  refine Ct.of rfl (Nat.le_of_ble_eq_true rfl) ?_
  rcases Nat.lt_or_ge p 8 with q | q
  · refine g_iload_n dX10_give_0 rfl rfl ?_
    refine g_bipush (v := -99) dX10_give_1 (by decide) ?_
    refine g_bipush (v := 99) dX10_give_3 (by decide) ?_
    refine g_S3r CX10_isWithin kX10_give_76 dX10_give_5 ⟨rfl, rfl⟩ (Nat.le_of_ble_eq_true rfl) ⟨(Nat.le_of_ble_eq_true rfl), (Nat.le_of_ble_eq_true rfl)⟩ ?_
    refine g_if_ne (tgt := 14) dX10_give_8 rfl (fun c_8 => ?_) (fun c_8 => ?_)
    · refine g_aload_n dX10_give_14 rfl rfl ?_
      refine g_getf dX10_give_15 fX10_21 (xW_at (by decide) xC0) rfl ?_
      refine g_iload_n dX10_give_18 rfl rfl ?_
      refine g_V1r (CX4_append xNum4 (by decide) (j := p) q hs) kX10_give_81 dX10_give_19 (xW_at xNum4.1.1 xNum4.2.1) rfl ⟨rfl, rfl⟩ (Nat.le_of_ble_eq_true rfl) ⟨(Nat.le_of_ble_eq_true rfl), (Nat.le_of_ble_eq_true rfl)⟩ ?_
      refine g_if_eq (tgt := 35) dX10_give_22 rfl (fun c_22 => by exact absurd c_22 (by decide)) (fun c_22 => ?_)
      refine g_aload_n dX10_give_25 rfl rfl ?_
      refine g_getf dX10_give_26 fX10_21 (xW_at (by decide) xC0) rfl ?_
      refine g_V0r (CX4_size xNum4) kX10_give_85 dX10_give_29 (xW_at xNum4.1.1 xNum4.2.1) rfl ⟨rfl, rfl⟩ (Nat.le_of_ble_eq_true rfl) ⟨(Nat.le_of_ble_eq_true rfl), (Nat.le_of_ble_eq_true rfl)⟩ ?_
      refine g_goto (tgt := 37) dX10_give_32 rfl ?_
      exact g_iret dX10_give_37 rfl rfl ⟨by rw [if_pos (Classical.byContradiction (fun z => c_8 (bI_f z))), pgR, if_pos q]; rfl, by rw [if_pos (Classical.byContradiction (fun z => c_8 (bI_f z))), pgS, if_pos q]⟩
    · refine g_ldc dX10_give_11 tb_299 ?_
      exact g_iret dX10_give_13 rfl rfl ⟨by rw [if_neg (bI_0.mp c_8)], by rw [if_neg (bI_0.mp c_8)]⟩
  · refine g_iload_n dX10_give_0 rfl rfl ?_
    refine g_bipush (v := -99) dX10_give_1 (by decide) ?_
    refine g_bipush (v := 99) dX10_give_3 (by decide) ?_
    refine g_S3r CX10_isWithin kX10_give_76 dX10_give_5 ⟨rfl, rfl⟩ (Nat.le_of_ble_eq_true rfl) ⟨(Nat.le_of_ble_eq_true rfl), (Nat.le_of_ble_eq_true rfl)⟩ ?_
    refine g_if_ne (tgt := 14) dX10_give_8 rfl (fun c_8 => ?_) (fun c_8 => ?_)
    · refine g_aload_n dX10_give_14 rfl rfl ?_
      refine g_getf dX10_give_15 fX10_21 (xW_at (by decide) xC0) rfl ?_
      refine g_iload_n dX10_give_18 rfl rfl ?_
      refine g_V1r (CX4_appendF xNum4 (by decide) (by rw [hs, show p = 8 by omega])) kX10_give_81 dX10_give_19 (xW_at xNum4.1.1 xNum4.2.1) rfl ⟨rfl, rfl⟩ (Nat.le_of_ble_eq_true rfl) ⟨(Nat.le_of_ble_eq_true rfl), (Nat.le_of_ble_eq_true rfl)⟩ ?_
      refine g_if_eq (tgt := 35) dX10_give_22 rfl (fun c_22 => ?_) (fun c_22 => by exact absurd rfl c_22)
      refine g_ldc dX10_give_35 tb_308 ?_
      exact g_iret dX10_give_37 rfl rfl ⟨by rw [if_pos (Classical.byContradiction (fun z => c_8 (bI_f z))), pgR, if_neg (by omega)], by rw [if_pos (Classical.byContradiction (fun z => c_8 (bI_f z))), pgS, if_neg (by omega)]⟩
    · refine g_ldc dX10_give_11 tb_299 ?_
      exact g_iret dX10_give_13 rfl rfl ⟨by rw [if_neg (bI_0.mp c_8)], by rw [if_neg (bI_0.mp c_8)]⟩
set_option maxRecDepth 100000 in
set_option maxHeartbeats 4000000 in
theorem CX10_blank : Ct l mX10_blank [.ref 0] (xW σ) (q_eq (some (.int (σ 6 1))) (xW (put σ 6 1 0))) := by
  refine Ct.of rfl (Nat.le_of_ble_eq_true rfl) ?_
  refine g_aload_n dX10_blank_0 rfl rfl ?_
  refine g_getf dX10_blank_1 fX10_25 (xW_at (by decide) xC0) rfl ?_
  refine g_V0r (CX4_size xNum6) kX10_blank_85 dX10_blank_4 (xW_at xNum6.1.1 xNum6.2.1) rfl ⟨rfl, rfl⟩ (Nat.le_of_ble_eq_true rfl) ⟨(Nat.le_of_ble_eq_true rfl), (Nat.le_of_ble_eq_true rfl)⟩ ?_
  refine g_istore_n dX10_blank_7 rfl (Nat.le_of_ble_eq_true rfl) rfl ?_
  refine g_aload_n dX10_blank_8 rfl rfl ?_
  refine g_getf dX10_blank_9 fX10_25 (xW_at (by decide) xC0) rfl ?_
  refine g_V0v (CX4_clear xNum6) kX10_blank_90 dX10_blank_12 (xW_at xNum6.1.1 xNum6.2.1) rfl ⟨rfl, rfl⟩ (Nat.le_of_ble_eq_true rfl) ⟨(Nat.le_of_ble_eq_true rfl), (Nat.le_of_ble_eq_true rfl)⟩ ?_
  refine g_iload_n dX10_blank_15 rfl rfl ?_
  exact g_iret dX10_blank_16 rfl rfl ⟨rfl, rfl⟩
set_option maxRecDepth 100000 in
set_option maxHeartbeats 4000000 in
theorem CX10_forget : Ct l mX10_forget [.ref 0] (xW σ) (q_eq (some (.int (σ 4 1))) (xW (put σ 4 1 0))) := by
  refine Ct.of rfl (Nat.le_of_ble_eq_true rfl) ?_
  refine g_aload_n dX10_forget_0 rfl rfl ?_
  refine g_getf dX10_forget_1 fX10_21 (xW_at (by decide) xC0) rfl ?_
  refine g_V0r (CX4_size xNum4) kX10_forget_85 dX10_forget_4 (xW_at xNum4.1.1 xNum4.2.1) rfl ⟨rfl, rfl⟩ (Nat.le_of_ble_eq_true rfl) ⟨(Nat.le_of_ble_eq_true rfl), (Nat.le_of_ble_eq_true rfl)⟩ ?_
  refine g_istore_n dX10_forget_7 rfl (Nat.le_of_ble_eq_true rfl) rfl ?_
  refine g_aload_n dX10_forget_8 rfl rfl ?_
  refine g_getf dX10_forget_9 fX10_21 (xW_at (by decide) xC0) rfl ?_
  refine g_V0v (CX4_clear xNum4) kX10_forget_90 dX10_forget_12 (xW_at xNum4.1.1 xNum4.2.1) rfl ⟨rfl, rfl⟩ (Nat.le_of_ble_eq_true rfl) ⟨(Nat.le_of_ble_eq_true rfl), (Nat.le_of_ble_eq_true rfl)⟩ ?_
  refine g_iload_n dX10_forget_15 rfl rfl ?_
  exact g_iret dX10_forget_16 rfl rfl ⟨rfl, rfl⟩
set_option maxRecDepth 100000 in
set_option maxHeartbeats 4000000 in
theorem CX10_fault {p : Nat} (hp : p ≤ 47) (h6 : σ 6 1 = nI p) : Ct l mX10_fault [.ref 0] (xW σ) (q_eq (some (.int (nI (rdGo (σ 7) p 0 (put (put σ 9 2 0) 8 2 0)).1))) (xW (rdGo (σ 7) p 0 (put (put σ 9 2 0) 8 2 0)).2)) := by
  refine Ct.of rfl (Nat.le_of_ble_eq_true rfl) ?_
  refine g_aload_n dX10_fault_0 rfl rfl ?_
  refine g_getf dX10_fault_1 fX10_31 (xW_at (by decide) xC0) rfl ?_
  refine g_aload_n dX10_fault_4 rfl rfl ?_
  refine g_getf dX10_fault_5 fX10_25 (xW_at (by decide) xC0) rfl ?_
  refine g_V1r (CX5_faultOf hp h6) kX10_fault_93 dX10_fault_8 (xW_at (by decide) xC8) rfl ⟨rfl, rfl⟩ (Nat.le_of_ble_eq_true rfl) ⟨(Nat.le_of_ble_eq_true rfl), (Nat.le_of_ble_eq_true rfl)⟩ ?_
  exact g_iret dX10_fault_11 rfl rfl ⟨rfl, rfl⟩
abbrev rdW (σ : Nat → Nat → Int32) (p : Nat) : Prop := (rdGo (σ 7) p 0 (put (put σ 9 2 0) 8 2 0)).1 = p ∧ (rdGo (σ 7) p 0 (put (put σ 9 2 0) 8 2 0)).2 8 2 = 1 + nums ((rdGo (σ 7) p 0 (put (put σ 9 2 0) 8 2 0)).2 8 1)
def rwS (σ : Nat → Nat → Int32) : Nat → Nat → Int32 := put (put (put (xChg (ldCp σ 1 2 3 9 10 11) 0) 6 1 0) 0 11 0) 0 12 (σ 0 12 + 1)
set_option maxRecDepth 100000 in
set_option maxHeartbeats 4000000 in
theorem CX10_rows {p : Nat} (hp : p ≤ 47) (h6 : σ 6 1 = nI p) : Ct l mX10_rows [.ref 0] (xW σ) (q_eq (some (.int (if rdW σ p then (rdGo (σ 7) p 0 (put (put σ 9 2 0) 8 2 0)).2 9 2 else 2000000103))) (xW (if rdW σ p then rwS (rdGo (σ 7) p 0 (put (put σ 9 2 0) 8 2 0)).2 else (rdGo (σ 7) p 0 (put (put σ 9 2 0) 8 2 0)).2))) := by
  refine Ct.of rfl (Nat.le_of_ble_eq_true rfl) ?_
  refine g_aload_n dX10_rows_0 rfl rfl ?_
  refine g_getf dX10_rows_1 fX10_31 (xW_at (by decide) xC0) rfl ?_
  refine g_aload_n dX10_rows_4 rfl rfl ?_
  refine g_getf dX10_rows_5 fX10_25 (xW_at (by decide) xC0) rfl ?_
  refine g_V1r (CX5_isWhole hp h6) kX10_rows_97 dX10_rows_8 (xW_at (by decide) xC8) rfl ⟨rfl, rfl⟩ (Nat.le_of_ble_eq_true rfl) ⟨(Nat.le_of_ble_eq_true rfl), (Nat.le_of_ble_eq_true rfl)⟩ ?_
  refine g_if_ne (tgt := 17) dX10_rows_11 rfl (fun c_11 => ?_) (fun c_11 => ?_)
  · refine g_aload_n dX10_rows_17 rfl rfl ?_
    refine g_getf dX10_rows_18 fX10_10 (xW_at (by decide) xC0) rfl ?_
    refine g_aload_n dX10_rows_21 rfl rfl ?_
    refine g_getf dX10_rows_22 fX10_31 (xW_at (by decide) xC0) rfl ?_
    refine g_V0r CX5_draft kX10_rows_102 dX10_rows_25 (xW_at (by decide) xC8) rfl ⟨rfl, rfl⟩ (Nat.le_of_ble_eq_true rfl) ⟨(Nat.le_of_ble_eq_true rfl), (Nat.le_of_ble_eq_true rfl)⟩ ?_
    refine g_V1v (CX3_copyFrom xLed1 xLed9) kX10_rows_106 dX10_rows_28 (xW_at xLed1.1.1 xLed1.2.1) rfl ⟨rfl, rfl⟩ (Nat.le_of_ble_eq_true rfl) ⟨(Nat.le_of_ble_eq_true rfl), (Nat.le_of_ble_eq_true rfl)⟩ ?_
    refine g_aload_n dX10_rows_31 rfl rfl ?_
    refine g_iconst (v := 0) dX10_rows_32 (by decide) ?_
    refine g_V1v CX10_changedFrom kX10_rows_110 dX10_rows_33 (xW_at (by decide) xC0) rfl ⟨rfl, rfl⟩ (Nat.le_of_ble_eq_true rfl) ⟨(Nat.le_of_ble_eq_true rfl), (Nat.le_of_ble_eq_true rfl)⟩ ?_
    refine g_aload_n dX10_rows_36 rfl rfl ?_
    refine g_getf dX10_rows_37 fX10_25 (xW_at (by decide) xC0) rfl ?_
    refine g_V0v (CX4_clear xNum6) kX10_rows_90 dX10_rows_40 (xW_at xNum6.1.1 xNum6.2.1) rfl ⟨rfl, rfl⟩ (Nat.le_of_ble_eq_true rfl) ⟨(Nat.le_of_ble_eq_true rfl), (Nat.le_of_ble_eq_true rfl)⟩ ?_
    refine g_aload_n dX10_rows_43 rfl rfl ?_
    refine g_iconst (v := 0) dX10_rows_44 (by decide) ?_
    refine g_putf dX10_rows_45 pX10_113 (xW_at (by decide) xC0) (Nat.le_of_ble_eq_true rfl) (fun _ => rfl) (fun _ => rfl) (xW_obj xC0 rfl) ?_
    refine g_aload_n dX10_rows_48 rfl rfl ?_
    refine g_dup dX10_rows_49 rfl ?_
    refine g_getf dX10_rows_50 fX10_117 (xW_at (by decide) xC0) rfl ?_
    refine g_iconst (v := 1) dX10_rows_53 (by decide) ?_
    refine g_iadd dX10_rows_54 ?_
    refine g_putf dX10_rows_55 pX10_117 (xW_at (by decide) xC0) (Nat.le_of_ble_eq_true rfl) (fun _ => rfl) (fun _ => rfl) (xW_obj xC0 rfl) ?_
    refine g_aload_n dX10_rows_58 rfl rfl ?_
    refine g_getf dX10_rows_59 fX10_10 (xW_at (by decide) xC0) rfl ?_
    refine g_V0r (CX3_size xLed1) kX10_rows_121 dX10_rows_62 (xW_at xLed1.1.1 xLed1.2.1) rfl ⟨rfl, rfl⟩ (Nat.le_of_ble_eq_true rfl) ⟨(Nat.le_of_ble_eq_true rfl), (Nat.le_of_ble_eq_true rfl)⟩ ?_
    exact g_iret dX10_rows_65 rfl rfl ⟨by rw [if_pos (Classical.byContradiction (fun z => c_11 (bI_f z)))]; rfl, by rw [if_pos (Classical.byContradiction (fun z => c_11 (bI_f z)))]; rfl⟩
  · refine g_ldc dX10_rows_14 tb_405 ?_
    exact g_iret dX10_rows_16 rfl rfl ⟨by rw [if_neg (bI_0.mp c_11)], by rw [if_neg (bI_0.mp c_11)]⟩
set_option maxRecDepth 100000 in
set_option maxHeartbeats 4000000 in
theorem CX10_row {r k : Int32} : Ct l mX10_row [.ref 0, .int r, .int k] (xW σ) (q_eq (some (.int (if ldH (σ 1 2) r then (if 0 ≤ k ∧ k ≤ 4 then (if k = 0 then (ldKind (σ 2) (σ 1 2) r) else if k ≤ nums (ldKind (σ 2) (σ 1 2) r) then ldNum (σ 3) (σ 1 2) r (k - 1) else 2000000001) else 2000000102) else 2000000101))) (xW σ)) := by
  refine Ct.of rfl (Nat.le_of_ble_eq_true rfl) ?_
  refine g_aload_n dX10_row_0 rfl rfl ?_
  refine g_getf dX10_row_1 fX10_10 (xW_at (by decide) xC0) rfl ?_
  refine g_iload_n dX10_row_4 rfl rfl ?_
  refine g_V1r (CX3_holds xLed1) kX10_row_122 dX10_row_5 (xW_at xLed1.1.1 xLed1.2.1) rfl ⟨rfl, rfl⟩ (Nat.le_of_ble_eq_true rfl) ⟨(Nat.le_of_ble_eq_true rfl), (Nat.le_of_ble_eq_true rfl)⟩ ?_
  refine g_if_ne (tgt := 14) dX10_row_8 rfl (fun c_8 => ?_) (fun c_8 => ?_)
  · refine g_iload_n dX10_row_14 rfl rfl ?_
    refine g_iconst (v := 0) dX10_row_15 (by decide) ?_
    refine g_iconst (v := 4) dX10_row_16 (by decide) ?_
    refine g_S3r CX10_isWithin kX10_row_76 dX10_row_17 ⟨rfl, rfl⟩ (Nat.le_of_ble_eq_true rfl) ⟨(Nat.le_of_ble_eq_true rfl), (Nat.le_of_ble_eq_true rfl)⟩ ?_
    refine g_if_ne (tgt := 26) dX10_row_20 rfl (fun c_20 => ?_) (fun c_20 => ?_)
    · refine g_aload_n dX10_row_26 rfl rfl ?_
      refine g_getf dX10_row_27 fX10_10 (xW_at (by decide) xC0) rfl ?_
      refine g_iload_n dX10_row_30 rfl rfl ?_
      refine g_V1r (CX3_kindOf xLed1) kX10_row_126 dX10_row_31 (xW_at xLed1.1.1 xLed1.2.1) rfl ⟨rfl, rfl⟩ (Nat.le_of_ble_eq_true rfl) ⟨(Nat.le_of_ble_eq_true rfl), (Nat.le_of_ble_eq_true rfl)⟩ ?_
      refine g_istore_n dX10_row_34 rfl (Nat.le_of_ble_eq_true rfl) rfl ?_
      refine g_iload_n dX10_row_35 rfl rfl ?_
      refine g_if_ne (tgt := 41) dX10_row_36 rfl (fun c_36 => ?_) (fun c_36 => ?_)
      · refine g_iload_n dX10_row_41 rfl rfl ?_
        refine g_iload_n dX10_row_42 rfl rfl ?_
        refine g_S1r CX10_numbersOf kX10_row_130 dX10_row_43 ⟨rfl, rfl⟩ (Nat.le_of_ble_eq_true rfl) ⟨(Nat.le_of_ble_eq_true rfl), (Nat.le_of_ble_eq_true rfl)⟩ ?_
        refine g_icmp_gt (tgt := 63) dX10_row_46 rfl (fun c_46 => ?_) (fun c_46 => ?_)
        · refine g_ldc dX10_row_63 tb_449 ?_
          exact g_iret dX10_row_65 rfl rfl ⟨by grind [bI], rfl⟩
        · refine g_aload_n dX10_row_49 rfl rfl ?_
          refine g_getf dX10_row_50 fX10_10 (xW_at (by decide) xC0) rfl ?_
          refine g_iload_n dX10_row_53 rfl rfl ?_
          refine g_iload_n dX10_row_54 rfl rfl ?_
          refine g_iconst (v := 1) dX10_row_55 (by decide) ?_
          refine g_isub dX10_row_56 ?_
          refine g_V2r (CX3_numberOf xLed1) kX10_row_133 dX10_row_57 (xW_at xLed1.1.1 xLed1.2.1) rfl ⟨rfl, rfl⟩ (Nat.le_of_ble_eq_true rfl) ⟨(Nat.le_of_ble_eq_true rfl), (Nat.le_of_ble_eq_true rfl)⟩ ?_
          refine g_goto (tgt := 65) dX10_row_60 rfl ?_
          exact g_iret dX10_row_65 rfl rfl ⟨by grind [bI], rfl⟩
      · refine g_iload_n dX10_row_39 rfl rfl ?_
        exact g_iret dX10_row_40 rfl rfl ⟨by grind [bI], rfl⟩
    · refine g_ldc dX10_row_23 tb_299 ?_
      exact g_iret dX10_row_25 rfl rfl ⟨by grind [bI], rfl⟩
  · refine g_ldc dX10_row_11 tb_439 ?_
    exact g_iret dX10_row_13 rfl rfl ⟨by grind [bI], rfl⟩
set_option maxRecDepth 100000 in
set_option maxHeartbeats 4000000 in
theorem CX10_as {r k : Int32} : Ct l mX10_as [.ref 0, .int r, .int k] (xW σ) (q_eq (some (.int (if ldH (σ 1 2) r then (if 0 ≤ k ∧ k ≤ 6 then (if (ldKind (σ 2) (σ 1 2) r) = k ∨ abov (ldKind (σ 2) (σ 1 2) r) = k then (ldKind (σ 2) (σ 1 2) r) else 2000000001) else 2000000102) else 2000000101))) (xW σ)) := by
  refine Ct.of rfl (Nat.le_of_ble_eq_true rfl) ?_
  refine g_aload_n dX10_as_0 rfl rfl ?_
  refine g_getf dX10_as_1 fX10_10 (xW_at (by decide) xC0) rfl ?_
  refine g_iload_n dX10_as_4 rfl rfl ?_
  refine g_V1r (CX3_holds xLed1) kX10_as_122 dX10_as_5 (xW_at xLed1.1.1 xLed1.2.1) rfl ⟨rfl, rfl⟩ (Nat.le_of_ble_eq_true rfl) ⟨(Nat.le_of_ble_eq_true rfl), (Nat.le_of_ble_eq_true rfl)⟩ ?_
  refine g_if_ne (tgt := 14) dX10_as_8 rfl (fun c_8 => ?_) (fun c_8 => ?_)
  · refine g_iload_n dX10_as_14 rfl rfl ?_
    refine g_iconst (v := 0) dX10_as_15 (by decide) ?_
    refine g_bipush (v := 6) dX10_as_16 (by decide) ?_
    refine g_S3r CX10_isWithin kX10_as_76 dX10_as_18 ⟨rfl, rfl⟩ (Nat.le_of_ble_eq_true rfl) ⟨(Nat.le_of_ble_eq_true rfl), (Nat.le_of_ble_eq_true rfl)⟩ ?_
    refine g_if_ne (tgt := 27) dX10_as_21 rfl (fun c_21 => ?_) (fun c_21 => ?_)
    · refine g_aload_n dX10_as_27 rfl rfl ?_
      refine g_getf dX10_as_28 fX10_10 (xW_at (by decide) xC0) rfl ?_
      refine g_iload_n dX10_as_31 rfl rfl ?_
      refine g_V1r (CX3_kindOf xLed1) kX10_as_126 dX10_as_32 (xW_at xLed1.1.1 xLed1.2.1) rfl ⟨rfl, rfl⟩ (Nat.le_of_ble_eq_true rfl) ⟨(Nat.le_of_ble_eq_true rfl), (Nat.le_of_ble_eq_true rfl)⟩ ?_
      refine g_istore_n dX10_as_35 rfl (Nat.le_of_ble_eq_true rfl) rfl ?_
      refine g_iload_n dX10_as_36 rfl rfl ?_
      refine g_iload_n dX10_as_37 rfl rfl ?_
      refine g_icmp_eq (tgt := 49) dX10_as_38 rfl (fun c_38 => ?_) (fun c_38 => ?_)
      · refine g_iload_n dX10_as_49 rfl rfl ?_
        refine g_goto (tgt := 55) dX10_as_50 rfl ?_
        exact g_iret dX10_as_55 rfl rfl ⟨by grind [bI], rfl⟩
      · refine g_iload_n dX10_as_41 rfl rfl ?_
        refine g_S1r CX10_classAbove kX10_as_138 dX10_as_42 ⟨rfl, rfl⟩ (Nat.le_of_ble_eq_true rfl) ⟨(Nat.le_of_ble_eq_true rfl), (Nat.le_of_ble_eq_true rfl)⟩ ?_
        refine g_iload_n dX10_as_45 rfl rfl ?_
        refine g_icmp_ne (tgt := 53) dX10_as_46 rfl (fun c_46 => ?_) (fun c_46 => ?_)
        · refine g_ldc dX10_as_53 tb_449 ?_
          exact g_iret dX10_as_55 rfl rfl ⟨by grind [bI], rfl⟩
        · refine g_iload_n dX10_as_49 rfl rfl ?_
          refine g_goto (tgt := 55) dX10_as_50 rfl ?_
          exact g_iret dX10_as_55 rfl rfl ⟨by grind [bI], rfl⟩
    · refine g_ldc dX10_as_24 tb_299 ?_
      exact g_iret dX10_as_26 rfl rfl ⟨by grind [bI], rfl⟩
  · refine g_ldc dX10_as_11 tb_439 ?_
    exact g_iret dX10_as_13 rfl rfl ⟨by grind [bI], rfl⟩
set_option maxRecDepth 100000 in
set_option maxHeartbeats 4000000 in
theorem CX10_rule {r k : Int32} : Ct l mX10_rule [.ref 0, .int r, .int k] (xW σ) (q_eq (some (.int (if ldH (σ 1 2) r then (if 0 ≤ k ∧ k ≤ 4 then (if (rlDeg (σ 2) (σ 3) (σ 1 2) r) = 0 then 2000000103 else if k = 0 then (rlDeg (σ 2) (σ 3) (σ 1 2) r) else rlFac (σ 2) (σ 3) (σ 1 2) r k) else 2000000102) else 2000000101))) (xW σ)) := by
  refine Ct.of rfl (Nat.le_of_ble_eq_true rfl) ?_
  refine g_aload_n dX10_rule_0 rfl rfl ?_
  refine g_getf dX10_rule_1 fX10_10 (xW_at (by decide) xC0) rfl ?_
  refine g_iload_n dX10_rule_4 rfl rfl ?_
  refine g_V1r (CX3_holds xLed1) kX10_rule_122 dX10_rule_5 (xW_at xLed1.1.1 xLed1.2.1) rfl ⟨rfl, rfl⟩ (Nat.le_of_ble_eq_true rfl) ⟨(Nat.le_of_ble_eq_true rfl), (Nat.le_of_ble_eq_true rfl)⟩ ?_
  refine g_if_ne (tgt := 14) dX10_rule_8 rfl (fun c_8 => ?_) (fun c_8 => ?_)
  · refine g_iload_n dX10_rule_14 rfl rfl ?_
    refine g_iconst (v := 0) dX10_rule_15 (by decide) ?_
    refine g_iconst (v := 4) dX10_rule_16 (by decide) ?_
    refine g_S3r CX10_isWithin kX10_rule_76 dX10_rule_17 ⟨rfl, rfl⟩ (Nat.le_of_ble_eq_true rfl) ⟨(Nat.le_of_ble_eq_true rfl), (Nat.le_of_ble_eq_true rfl)⟩ ?_
    refine g_if_ne (tgt := 26) dX10_rule_20 rfl (fun c_20 => ?_) (fun c_20 => ?_)
    · refine g_aload_n dX10_rule_26 rfl rfl ?_
      refine g_getf dX10_rule_27 fX10_10 (xW_at (by decide) xC0) rfl ?_
      refine g_iload_n dX10_rule_30 rfl rfl ?_
      refine g_S2r (CX8_degreeOf xLed1) kX10_rule_176 dX10_rule_31 ⟨rfl, rfl⟩ (Nat.le_of_ble_eq_true rfl) ⟨(Nat.le_of_ble_eq_true rfl), (Nat.le_of_ble_eq_true rfl)⟩ ?_
      refine g_istore_n dX10_rule_34 rfl (Nat.le_of_ble_eq_true rfl) rfl ?_
      refine g_iload_n dX10_rule_35 rfl rfl ?_
      refine g_if_ne (tgt := 42) dX10_rule_36 rfl (fun c_36 => ?_) (fun c_36 => ?_)
      · refine g_iload_n dX10_rule_42 rfl rfl ?_
        refine g_if_ne (tgt := 50) dX10_rule_43 rfl (fun c_43 => ?_) (fun c_43 => ?_)
        · refine g_aload_n dX10_rule_50 rfl rfl ?_
          refine g_getf dX10_rule_51 fX10_10 (xW_at (by decide) xC0) rfl ?_
          refine g_iload_n dX10_rule_54 rfl rfl ?_
          refine g_iload_n dX10_rule_55 rfl rfl ?_
          refine g_S3r (CX8_factorOf xLed1) kX10_rule_182 dX10_rule_56 ⟨rfl, rfl⟩ (Nat.le_of_ble_eq_true rfl) ⟨(Nat.le_of_ble_eq_true rfl), (Nat.le_of_ble_eq_true rfl)⟩ ?_
          exact g_iret dX10_rule_59 rfl rfl ⟨by grind [bI], rfl⟩
        · refine g_iload_n dX10_rule_46 rfl rfl ?_
          refine g_goto (tgt := 59) dX10_rule_47 rfl ?_
          exact g_iret dX10_rule_59 rfl rfl ⟨by grind [bI], rfl⟩
      · refine g_ldc dX10_rule_39 tb_405 ?_
        exact g_iret dX10_rule_41 rfl rfl ⟨by grind [bI], rfl⟩
    · refine g_ldc dX10_rule_23 tb_299 ?_
      exact g_iret dX10_rule_25 rfl rfl ⟨by grind [bI], rfl⟩
  · refine g_ldc dX10_rule_11 tb_439 ?_
    exact g_iret dX10_rule_13 rfl rfl ⟨by grind [bI], rfl⟩
def rtV (c d k : Int32) : Int32 :=
  if k = 0 then 1 + signI (c * c + 4 * d) else if k = 1 then (if wrS (c * c + 4 * d) 11 0 = 2000000001 then 2000000001 else (c + wrS (c * c + 4 * d) 11 0) / 2)
  else if k = 2 then (if wrS (c * c + 4 * d) 11 0 = 2000000001 then 2000000001 else (c - wrS (c * c + 4 * d) 11 0) / 2)
  else if k = 3 then (if d = 0 then 0 else if c = 0 then 2 else if c * c = -d then 3 else if c * c = -2 * d then 4 else if c * c = -3 * d then 6 else 0)
  else if 0 < c * c + 4 * d then signI c else 0
set_option maxRecDepth 100000 in
set_option maxHeartbeats 4000000 in
theorem CX10_roots {r k : Int32} : Ct l mX10_roots [.ref 0, .int r, .int k] (xW σ) (q_eq (some (.int (if ldH (σ 1 2) r then (if 0 ≤ k ∧ k ≤ 4 then (if (ldH (σ 1 2) r ∧ σ 2 r.toNatClampNeg = 0) then rtV (ldNum (σ 3) (σ 1 2) r 0) (ldNum (σ 3) (σ 1 2) r 1) k else 2000000103) else 2000000102) else 2000000101))) (xW σ)) := by
  refine Ct.of rfl (Nat.le_of_ble_eq_true rfl) ?_
  refine g_aload_n dX10_roots_0 rfl rfl ?_
  refine g_getf dX10_roots_1 fX10_10 (xW_at (by decide) xC0) rfl ?_
  refine g_iload_n dX10_roots_4 rfl rfl ?_
  refine g_V1r (CX3_holds xLed1) kX10_roots_122 dX10_roots_5 (xW_at xLed1.1.1 xLed1.2.1) rfl ⟨rfl, rfl⟩ (Nat.le_of_ble_eq_true rfl) ⟨(Nat.le_of_ble_eq_true rfl), (Nat.le_of_ble_eq_true rfl)⟩ ?_
  refine g_if_ne (tgt := 14) dX10_roots_8 rfl (fun c_8 => ?_) (fun c_8 => ?_)
  · refine g_iload_n dX10_roots_14 rfl rfl ?_
    refine g_iconst (v := 0) dX10_roots_15 (by decide) ?_
    refine g_iconst (v := 4) dX10_roots_16 (by decide) ?_
    refine g_S3r CX10_isWithin kX10_roots_76 dX10_roots_17 ⟨rfl, rfl⟩ (Nat.le_of_ble_eq_true rfl) ⟨(Nat.le_of_ble_eq_true rfl), (Nat.le_of_ble_eq_true rfl)⟩ ?_
    refine g_if_ne (tgt := 26) dX10_roots_20 rfl (fun c_20 => ?_) (fun c_20 => ?_)
    · refine g_aload_n dX10_roots_26 rfl rfl ?_
      refine g_getf dX10_roots_27 fX10_10 (xW_at (by decide) xC0) rfl ?_
      refine g_iload_n dX10_roots_30 rfl rfl ?_
      refine g_V1r (CX3_isTold xLed1) kX10_roots_185 dX10_roots_31 (xW_at xLed1.1.1 xLed1.2.1) rfl ⟨rfl, rfl⟩ (Nat.le_of_ble_eq_true rfl) ⟨(Nat.le_of_ble_eq_true rfl), (Nat.le_of_ble_eq_true rfl)⟩ ?_
      refine g_if_ne (tgt := 40) dX10_roots_34 rfl (fun c_34 => ?_) (fun c_34 => ?_)
      · refine g_aload_n dX10_roots_40 rfl rfl ?_
        refine g_getf dX10_roots_41 fX10_10 (xW_at (by decide) xC0) rfl ?_
        refine g_iload_n dX10_roots_44 rfl rfl ?_
        refine g_iconst (v := 0) dX10_roots_45 (by decide) ?_
        refine g_V2r (CX3_numberOf xLed1) kX10_roots_133 dX10_roots_46 (xW_at xLed1.1.1 xLed1.2.1) rfl ⟨rfl, rfl⟩ (Nat.le_of_ble_eq_true rfl) ⟨(Nat.le_of_ble_eq_true rfl), (Nat.le_of_ble_eq_true rfl)⟩ ?_
        refine g_istore_n dX10_roots_49 rfl (Nat.le_of_ble_eq_true rfl) rfl ?_
        refine g_aload_n dX10_roots_50 rfl rfl ?_
        refine g_getf dX10_roots_51 fX10_10 (xW_at (by decide) xC0) rfl ?_
        refine g_iload_n dX10_roots_54 rfl rfl ?_
        refine g_iconst (v := 1) dX10_roots_55 (by decide) ?_
        refine g_V2r (CX3_numberOf xLed1) kX10_roots_133 dX10_roots_56 (xW_at xLed1.1.1 xLed1.2.1) rfl ⟨rfl, rfl⟩ (Nat.le_of_ble_eq_true rfl) ⟨(Nat.le_of_ble_eq_true rfl), (Nat.le_of_ble_eq_true rfl)⟩ ?_
        refine g_istore dX10_roots_59 (Nat.le_of_ble_eq_true rfl) rfl ?_
        refine g_iload_n dX10_roots_61 rfl rfl ?_
        refine g_case (0) (fun s_62_0 => ?_) (fun s_62_0 => ?_)
        · refine g_tblEq (off := 30) (tgt := 92) dX10_roots_62 s_62_0 (by decide) (by decide) rfl rfl ?_
          refine g_iload_n dX10_roots_92 rfl rfl ?_
          refine g_iload dX10_roots_93 rfl ?_
          refine g_S2r CX7_differentReal kX10_roots_188 dX10_roots_95 ⟨rfl, rfl⟩ (Nat.le_of_ble_eq_true rfl) ⟨(Nat.le_of_ble_eq_true rfl), (Nat.le_of_ble_eq_true rfl)⟩ ?_
          exact g_iret dX10_roots_98 rfl rfl ⟨by grind [bI, rtV], rfl⟩
        · refine g_case (1) (fun s_62_1 => ?_) (fun s_62_1 => ?_)
          · refine g_tblEq (off := 37) (tgt := 99) dX10_roots_62 s_62_1 (by decide) (by decide) rfl rfl ?_
            refine g_iload_n dX10_roots_99 rfl rfl ?_
            refine g_iload dX10_roots_100 rfl ?_
            refine g_S2r CX7_greater kX10_roots_193 dX10_roots_102 ⟨rfl, rfl⟩ (Nat.le_of_ble_eq_true rfl) ⟨(Nat.le_of_ble_eq_true rfl), (Nat.le_of_ble_eq_true rfl)⟩ ?_
            exact g_iret dX10_roots_105 rfl rfl ⟨by grind [bI, rtV], rfl⟩
          · refine g_case (2) (fun s_62_2 => ?_) (fun s_62_2 => ?_)
            · refine g_tblEq (off := 44) (tgt := 106) dX10_roots_62 s_62_2 (by decide) (by decide) rfl rfl ?_
              refine g_iload_n dX10_roots_106 rfl rfl ?_
              refine g_iload dX10_roots_107 rfl ?_
              refine g_S2r CX7_lesser kX10_roots_196 dX10_roots_109 ⟨rfl, rfl⟩ (Nat.le_of_ble_eq_true rfl) ⟨(Nat.le_of_ble_eq_true rfl), (Nat.le_of_ble_eq_true rfl)⟩ ?_
              exact g_iret dX10_roots_112 rfl rfl ⟨by grind [bI, rtV], rfl⟩
            · refine g_case (3) (fun s_62_3 => ?_) (fun s_62_3 => ?_)
              · refine g_tblEq (off := 51) (tgt := 113) dX10_roots_62 s_62_3 (by decide) (by decide) rfl rfl ?_
                refine g_iload_n dX10_roots_113 rfl rfl ?_
                refine g_iload dX10_roots_114 rfl ?_
                refine g_S2r CX7_order kX10_roots_199 dX10_roots_116 ⟨rfl, rfl⟩ (Nat.le_of_ble_eq_true rfl) ⟨(Nat.le_of_ble_eq_true rfl), (Nat.le_of_ble_eq_true rfl)⟩ ?_
                exact g_iret dX10_roots_119 rfl rfl ⟨by grind [bI, rtV], rfl⟩
              · refine g_tableOut (tgt := 120) dX10_roots_62 (by have a0 := ne_toInt (z := 0) rfl s_62_0; have a1 := ne_toInt (z := 1) rfl s_62_1; have a2 := ne_toInt (z := 2) rfl s_62_2; have a3 := ne_toInt (z := 3) rfl s_62_3; omega) rfl ?_
                refine g_iload_n dX10_roots_120 rfl rfl ?_
                refine g_iload dX10_roots_121 rfl ?_
                refine g_S2r CX7_farthestSign kX10_roots_202 dX10_roots_123 ⟨rfl, rfl⟩ (Nat.le_of_ble_eq_true rfl) ⟨(Nat.le_of_ble_eq_true rfl), (Nat.le_of_ble_eq_true rfl)⟩ ?_
                exact g_iret dX10_roots_126 rfl rfl ⟨by grind [bI, rtV], rfl⟩
      · refine g_ldc dX10_roots_37 tb_405 ?_
        exact g_iret dX10_roots_39 rfl rfl ⟨by grind [bI, rtV], rfl⟩
    · refine g_ldc dX10_roots_23 tb_299 ?_
      exact g_iret dX10_roots_25 rfl rfl ⟨by grind [bI, rtV], rfl⟩
  · refine g_ldc dX10_roots_11 tb_439 ?_
    exact g_iret dX10_roots_13 rfl rfl ⟨by grind [bI, rtV], rfl⟩
end
