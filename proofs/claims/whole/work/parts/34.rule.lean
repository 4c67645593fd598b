def wrS (s : Int32) : Nat → Nat → Int32
  | 0, _ => 2000000001
  | d + 1, j => if nI j * nI j = s then nI j else wrS s d (j + 1)
def pwB (c d : Int32) : Nat → Int32 × Int32 × Int32
  | 0 => (2, c, -d)
  | j + 1 => ((pwB c d j).2.1, c * (pwB c d j).2.1 + d * (pwB c d j).1, (pwB c d j).2.2 * -d)
def pwT (n : Int32) : Nat := (n.toInt - 1).toNat
def pick2 (k c d : Int32) : Int32 := if k = 1 then c else if k = 2 then d else 0
def pickP (k n c d : Int32) : Int32 := pick2 k (pwB c d (pwT n)).2.1 (-(pwB c d (pwT n)).2.2)
def pickS (k c d e f : Int32) : Int32 := if k = 1 then c + e else if k = 2 then d + f - c * e else if k = 3 then -(c * f + e * d) else if k = 4 then -(d * f) else 0
def pickM (k c d e f : Int32) : Int32 := if k = 1 then c * e else if k = 2 then c * c * f + e * e * d + 2 * d * f else if k = 3 then c * e * d * f else if k = 4 then -(d * d * f * f) else 0
def rlDeg (K N : Nat → Int32) (sz r : Int32) : Int32 := if ldKind K sz r = 0 then 2 else if ldH sz (ldNum N sz r 0) ∧ K (ldNum N sz r 0).toNatClampNeg = 0 then (if ldKind K sz r = 3 ∨ ldKind K sz r = 4 then 2 else if ldH sz (ldNum N sz r 1) ∧ K (ldNum N sz r 1).toNatClampNeg = 0 then 4 else 0) else 0
def rlOne (K N : Nat → Int32) (sz r : Int32) : Int32 := if ldKind K sz r = 0 then r else ldNum N sz r 0
def rlFac (K N : Nat → Int32) (sz r k : Int32) : Int32 :=
  if ldKind K sz r = 0 ∨ ldKind K sz r = 4 then pick2 k (ldNum N sz (rlOne K N sz r) 0) (ldNum N sz (rlOne K N sz r) 1)
  else if ldKind K sz r = 3 then pickP k (ldNum N sz r 1) (ldNum N sz (rlOne K N sz r) 0) (ldNum N sz (rlOne K N sz r) 1)
  else if ldKind K sz r = 1 then pickS k (ldNum N sz (rlOne K N sz r) 0) (ldNum N sz (rlOne K N sz r) 1) (ldNum N sz (ldNum N sz r 1) 0) (ldNum N sz (ldNum N sz r 1) 1)
  else pickM k (ldNum N sz (rlOne K N sz r) 0) (ldNum N sz (rlOne K N sz r) 1) (ldNum N sz (ldNum N sz r 1) 0) (ldNum N sz (ldNum N sz r 1) 1)
section
variable {l : Launch} {w : q_Wd} {σ : Nat → Nat → Int32}
set_option maxRecDepth 100000 in
set_option maxHeartbeats 4000000 in
theorem CX7_wholeRootOf_loop {s : Int32} {n0 : Nat} : ∀ (d j : Nat), j + d = 11 → Go l mX7_wholeRootOf n0 (q_eq (some (.int (wrS s d j))) w) (0, 0) 2 [some (.int s), some (.int (nI j))] [] w := by
  intro d
  induction d with
  | zero =>
    intro j hj
    have e : j = 11 := by omega
    subst e
    refine g_iload_n dX7_wholeRootOf_2 rfl rfl ?_
    refine g_bipush (v := 11) dX7_wholeRootOf_3 (by decide) ?_
    refine g_icmp_ge (tgt := 23) dX7_wholeRootOf_5 rfl (fun c_5 => ?_) (fun c_5 => by exfalso; revert c_5; decide)
    refine g_ldc dX7_wholeRootOf_23 tb_643 ?_
    exact g_iret dX7_wholeRootOf_25 rfl rfl ⟨rfl, rfl⟩
  | succ d ih =>
    intro j hj
    have hlt : nI j < 11 := nI_lt (b := 11) (by omega) (by decide)
    refine g_iload_n dX7_wholeRootOf_2 rfl rfl ?_
    refine g_bipush (v := 11) dX7_wholeRootOf_3 (by decide) ?_
    refine g_icmp_ge (tgt := 23) dX7_wholeRootOf_5 rfl (fun c_5 => by exfalso; grind) (fun c_5 => ?_)
    refine g_iload_n dX7_wholeRootOf_8 rfl rfl ?_
    refine g_iload_n dX7_wholeRootOf_9 rfl rfl ?_
    refine g_imul dX7_wholeRootOf_10 ?_
    refine g_iload_n dX7_wholeRootOf_11 rfl rfl ?_
    refine g_icmp_ne (tgt := 17) dX7_wholeRootOf_12 rfl (fun c_12 => ?_) (fun c_12 => ?_)
    · refine g_iinc (v := 1) dX7_wholeRootOf_17 (by decide) rfl (Nat.le_of_ble_eq_true rfl) rfl ?_
      refine g_goto (tgt := 2) dX7_wholeRootOf_20 rfl ?_
      exact (show wrS s (d + 1) j = wrS s d (j + 1) by rw [wrS, if_neg c_12]) ▸ Go.eq rfl (show _ = _ by rw [← nI_1]; rfl) rfl rfl (ih (j + 1) (by omega))
    · refine g_iload_n dX7_wholeRootOf_15 rfl rfl ?_
      exact g_iret dX7_wholeRootOf_16 rfl rfl ⟨by rw [wrS, if_pos c_12], rfl⟩
set_option maxRecDepth 100000 in
set_option maxHeartbeats 4000000 in
theorem CX7_wholeRootOf {s : Int32} : Ct l mX7_wholeRootOf [.int s] w (q_eq (some (.int (wrS s 11 0))) w) := by
  refine Ct.of rfl (Nat.le_of_ble_eq_true rfl) ?_
  refine g_iconst (v := 0) dX7_wholeRootOf_0 (by decide) ?_
  refine g_istore_n dX7_wholeRootOf_1 rfl (Nat.le_of_ble_eq_true rfl) rfl ?_
  exact CX7_wholeRootOf_loop 11 0 rfl
set_option maxRecDepth 100000 in
set_option maxHeartbeats 4000000 in
theorem CX7_greater {c d : Int32} : Ct l mX7_greater [.int c, .int d] w (q_eq (some (.int (if wrS (c * c + 4 * d) 11 0 = 2000000001 then 2000000001 else (c + wrS (c * c + 4 * d) 11 0) / 2))) w) := by
  refine Ct.of rfl (Nat.le_of_ble_eq_true rfl) ?_
  refine g_iload_n dX7_greater_0 rfl rfl ?_
  refine g_iload_n dX7_greater_1 rfl rfl ?_
  refine g_S2r CX7_discriminant kX7_greater_9 dX7_greater_2 ⟨rfl, rfl⟩ (Nat.le_of_ble_eq_true rfl) ⟨(Nat.le_of_ble_eq_true rfl), (Nat.le_of_ble_eq_true rfl)⟩ ?_
  refine g_S1r CX7_wholeRootOf kX7_greater_19 dX7_greater_5 ⟨rfl, rfl⟩ (Nat.le_of_ble_eq_true rfl) ⟨(Nat.le_of_ble_eq_true rfl), (Nat.le_of_ble_eq_true rfl)⟩ ?_
  refine g_istore_n dX7_greater_8 rfl (Nat.le_of_ble_eq_true rfl) rfl ?_
  refine g_iload_n dX7_greater_9 rfl rfl ?_
  refine g_ldc dX7_greater_10 tb_643 ?_
  refine g_icmp_ne (tgt := 20) dX7_greater_12 rfl (fun c_12 => ?_) (fun c_12 => ?_)
  · refine g_iload_n dX7_greater_20 rfl rfl ?_
    refine g_iload_n dX7_greater_21 rfl rfl ?_
    refine g_iadd dX7_greater_22 ?_
    refine g_iconst (v := 2) dX7_greater_23 (by decide) ?_
    refine g_idiv dX7_greater_24 (by decide) ?_
    exact g_iret dX7_greater_25 rfl rfl ⟨by simp [*], rfl⟩
  · refine g_ldc dX7_greater_15 tb_643 ?_
    refine g_goto (tgt := 25) dX7_greater_17 rfl ?_
    exact g_iret dX7_greater_25 rfl rfl ⟨by simp [*], rfl⟩
set_option maxRecDepth 100000 in
set_option maxHeartbeats 4000000 in
theorem CX7_lesser {c d : Int32} : Ct l mX7_lesser [.int c, .int d] w (q_eq (some (.int (if wrS (c * c + 4 * d) 11 0 = 2000000001 then 2000000001 else (c - wrS (c * c + 4 * d) 11 0) / 2))) w) := by
  refine Ct.of rfl (Nat.le_of_ble_eq_true rfl) ?_
  refine g_iload_n dX7_lesser_0 rfl rfl ?_
  refine g_iload_n dX7_lesser_1 rfl rfl ?_
  refine g_S2r CX7_discriminant kX7_lesser_9 dX7_lesser_2 ⟨rfl, rfl⟩ (Nat.le_of_ble_eq_true rfl) ⟨(Nat.le_of_ble_eq_true rfl), (Nat.le_of_ble_eq_true rfl)⟩ ?_
  refine g_S1r CX7_wholeRootOf kX7_lesser_19 dX7_lesser_5 ⟨rfl, rfl⟩ (Nat.le_of_ble_eq_true rfl) ⟨(Nat.le_of_ble_eq_true rfl), (Nat.le_of_ble_eq_true rfl)⟩ ?_
  refine g_istore_n dX7_lesser_8 rfl (Nat.le_of_ble_eq_true rfl) rfl ?_
  refine g_iload_n dX7_lesser_9 rfl rfl ?_
  refine g_ldc dX7_lesser_10 tb_643 ?_
  refine g_icmp_ne (tgt := 20) dX7_lesser_12 rfl (fun c_12 => ?_) (fun c_12 => ?_)
  · refine g_iload_n dX7_lesser_20 rfl rfl ?_
    refine g_iload_n dX7_lesser_21 rfl rfl ?_
    refine g_isub dX7_lesser_22 ?_
    refine g_iconst (v := 2) dX7_lesser_23 (by decide) ?_
    refine g_idiv dX7_lesser_24 (by decide) ?_
    exact g_iret dX7_lesser_25 rfl rfl ⟨by simp [*], rfl⟩
  · refine g_ldc dX7_lesser_15 tb_643 ?_
    refine g_goto (tgt := 25) dX7_lesser_17 rfl ?_
    exact g_iret dX7_lesser_25 rfl rfl ⟨by simp [*], rfl⟩
set_option maxRecDepth 100000 in
set_option maxHeartbeats 4000000 in
theorem CX8_ofPowers_loop {k n c dd : Int32} {n0 : Nat} : ∀ (d j : Nat) (x8 : Option Value), j + d = pwT n → Go l mX8_ofPowers n0 (q_eq (some (.int (pickP k n c dd))) w) (0, 0) 13 [some (.int k), some (.int n), some (.int c), some (.int dd), some (.int (pwB c dd j).1), some (.int (pwB c dd j).2.1), some (.int (pwB c dd j).2.2), some (.int (nI (j + 1))), x8] [] w := by
  intro d
  induction d with
  | zero =>
    intro j x8 hj
    have e : j = pwT n := by omega
    subst e
    have hb : n.toInt < 2147483648 := Int32.toInt_lt n
    have hc : n ≤ nI (pwT n + 1) := by
      rw [Int32.le_iff_toInt_le, nI_toInt (by unfold pwT; omega)]; unfold pwT; omega
    refine g_iload dX8_ofPowers_13 rfl ?_
    refine g_iload_n dX8_ofPowers_15 rfl rfl ?_
    refine g_icmp_ge (tgt := 51) dX8_ofPowers_16 rfl (fun c_16 => ?_) (fun c_16 => by exact absurd hc c_16)
    refine g_iload_n dX8_ofPowers_51 rfl rfl ?_
    refine g_iload dX8_ofPowers_52 rfl ?_
    refine g_iload dX8_ofPowers_54 rfl ?_
    refine g_ineg dX8_ofPowers_56 ?_
    refine g_S3r CX8_ofTwo kX8_ofPowers_23 dX8_ofPowers_57 ⟨rfl, rfl⟩ (Nat.le_of_ble_eq_true rfl) ⟨(Nat.le_of_ble_eq_true rfl), (Nat.le_of_ble_eq_true rfl)⟩ ?_
    exact g_iret dX8_ofPowers_60 rfl rfl ⟨rfl, rfl⟩
  | succ d ih =>
    intro j x8 hj
    have hb : n.toInt < 2147483648 := Int32.toInt_lt n
    have hc : ¬ n ≤ nI (j + 1) := by
      rw [Int32.le_iff_toInt_le, nI_toInt (by unfold pwT at hj; omega)]; unfold pwT at hj; omega
    refine g_iload dX8_ofPowers_13 rfl ?_
    refine g_iload_n dX8_ofPowers_15 rfl rfl ?_
    refine g_icmp_ge (tgt := 51) dX8_ofPowers_16 rfl (fun c_16 => by exact absurd c_16 hc) (fun c_16 => ?_)
    refine g_iload_n dX8_ofPowers_19 rfl rfl ?_
    refine g_iload dX8_ofPowers_20 rfl ?_
    refine g_imul dX8_ofPowers_22 ?_
    refine g_iload_n dX8_ofPowers_23 rfl rfl ?_
    refine g_iload dX8_ofPowers_24 rfl ?_
    refine g_imul dX8_ofPowers_26 ?_
    refine g_iadd dX8_ofPowers_27 ?_
    refine g_istore dX8_ofPowers_28 (Nat.le_of_ble_eq_true rfl) rfl ?_
    refine g_iload dX8_ofPowers_30 rfl ?_
    refine g_istore dX8_ofPowers_32 (Nat.le_of_ble_eq_true rfl) rfl ?_
    refine g_iload dX8_ofPowers_34 rfl ?_
    refine g_istore dX8_ofPowers_36 (Nat.le_of_ble_eq_true rfl) rfl ?_
    refine g_iload dX8_ofPowers_38 rfl ?_
    refine g_iload_n dX8_ofPowers_40 rfl rfl ?_
    refine g_ineg dX8_ofPowers_41 ?_
    refine g_imul dX8_ofPowers_42 ?_
    refine g_istore dX8_ofPowers_43 (Nat.le_of_ble_eq_true rfl) rfl ?_
    refine g_iinc (v := 1) dX8_ofPowers_45 (by decide) rfl (Nat.le_of_ble_eq_true rfl) rfl ?_
    refine g_goto (tgt := 13) dX8_ofPowers_48 rfl ?_
    exact Go.eq rfl (show _ = _ by rw [← nI_1 (j + 1)]; rfl) rfl rfl (ih (j + 1) _ (by omega))
set_option maxRecDepth 100000 in
set_option maxHeartbeats 4000000 in
theorem CX8_ofPowers {k n c dd : Int32} : Ct l mX8_ofPowers [.int k, .int n, .int c, .int dd] w (q_eq (some (.int (pickP k n c dd))) w) := by
  refine Ct.of rfl (Nat.le_of_ble_eq_true rfl) ?_
  refine g_iconst (v := 2) dX8_ofPowers_0 (by decide) ?_
  refine g_istore dX8_ofPowers_1 (Nat.le_of_ble_eq_true rfl) rfl ?_
  refine g_iload_n dX8_ofPowers_3 rfl rfl ?_
  refine g_istore dX8_ofPowers_4 (Nat.le_of_ble_eq_true rfl) rfl ?_
  refine g_iload_n dX8_ofPowers_6 rfl rfl ?_
  refine g_ineg dX8_ofPowers_7 ?_
  refine g_istore dX8_ofPowers_8 (Nat.le_of_ble_eq_true rfl) rfl ?_
  refine g_iconst (v := 1) dX8_ofPowers_10 (by decide) ?_
  refine g_istore dX8_ofPowers_11 (Nat.le_of_ble_eq_true rfl) rfl ?_
  exact CX8_ofPowers_loop (pwT n) 0 none (by omega)
set_option maxRecDepth 100000 in
set_option maxHeartbeats 4000000 in
theorem CX8_degreeOf {i a b : Nat} (h : xLed i a b) {r : Int32} : Ct l mX8_degreeOf [.ref i, .int r] (xW σ) (q_eq (some (.int (rlDeg (σ a) (σ b) (σ i 2) r))) (xW σ)) := by
  refine Ct.of rfl (Nat.le_of_ble_eq_true rfl) ?_
  refine g_aload_n dX8_degreeOf_0 rfl rfl ?_
  refine g_iload_n dX8_degreeOf_1 rfl rfl ?_
  refine g_V1r (CX3_kindOf h) kX8_degreeOf_9 dX8_degreeOf_2 (xW_at h.1.1 h.2.1) rfl ⟨rfl, rfl⟩ (Nat.le_of_ble_eq_true rfl) ⟨(Nat.le_of_ble_eq_true rfl), (Nat.le_of_ble_eq_true rfl)⟩ ?_
  refine g_istore_n dX8_degreeOf_5 rfl (Nat.le_of_ble_eq_true rfl) rfl ?_
  refine g_iload_n dX8_degreeOf_6 rfl rfl ?_
  refine g_if_ne (tgt := 12) dX8_degreeOf_7 rfl (fun c_7 => ?_) (fun c_7 => ?_)
  · refine g_aload_n dX8_degreeOf_12 rfl rfl ?_
    refine g_aload_n dX8_degreeOf_13 rfl rfl ?_
    refine g_iload_n dX8_degreeOf_14 rfl rfl ?_
    refine g_iconst (v := 0) dX8_degreeOf_15 (by decide) ?_
    refine g_V2r (CX3_numberOf h) kX8_degreeOf_15 dX8_degreeOf_16 (xW_at h.1.1 h.2.1) rfl ⟨rfl, rfl⟩ (Nat.le_of_ble_eq_true rfl) ⟨(Nat.le_of_ble_eq_true rfl), (Nat.le_of_ble_eq_true rfl)⟩ ?_
    refine g_V1r (CX3_isTold h) kX8_degreeOf_19 dX8_degreeOf_19 (xW_at h.1.1 h.2.1) rfl ⟨rfl, rfl⟩ (Nat.le_of_ble_eq_true rfl) ⟨(Nat.le_of_ble_eq_true rfl), (Nat.le_of_ble_eq_true rfl)⟩ ?_
    refine g_if_ne (tgt := 27) dX8_degreeOf_22 rfl (fun c_22 => ?_) (fun c_22 => ?_)
    · refine g_iload_n dX8_degreeOf_27 rfl rfl ?_
      refine g_iconst (v := 3) dX8_degreeOf_28 (by decide) ?_
      refine g_icmp_eq (tgt := 37) dX8_degreeOf_29 rfl (fun c_29 => ?_) (fun c_29 => ?_)
      · refine g_iconst (v := 2) dX8_degreeOf_37 (by decide) ?_
        exact g_iret dX8_degreeOf_38 rfl rfl ⟨by first | rfl | grind [rlDeg, rlFac, rlOne, bI, pick2, pickS, pickM], rfl⟩
      · refine g_iload_n dX8_degreeOf_32 rfl rfl ?_
        refine g_iconst (v := 4) dX8_degreeOf_33 (by decide) ?_
        refine g_icmp_ne (tgt := 39) dX8_degreeOf_34 rfl (fun c_34 => ?_) (fun c_34 => ?_)
        · refine g_aload_n dX8_degreeOf_39 rfl rfl ?_
          refine g_aload_n dX8_degreeOf_40 rfl rfl ?_
          refine g_iload_n dX8_degreeOf_41 rfl rfl ?_
          refine g_iconst (v := 1) dX8_degreeOf_42 (by decide) ?_
          refine g_V2r (CX3_numberOf h) kX8_degreeOf_15 dX8_degreeOf_43 (xW_at h.1.1 h.2.1) rfl ⟨rfl, rfl⟩ (Nat.le_of_ble_eq_true rfl) ⟨(Nat.le_of_ble_eq_true rfl), (Nat.le_of_ble_eq_true rfl)⟩ ?_
          refine g_V1r (CX3_isTold h) kX8_degreeOf_19 dX8_degreeOf_46 (xW_at h.1.1 h.2.1) rfl ⟨rfl, rfl⟩ (Nat.le_of_ble_eq_true rfl) ⟨(Nat.le_of_ble_eq_true rfl), (Nat.le_of_ble_eq_true rfl)⟩ ?_
          refine g_if_eq (tgt := 56) dX8_degreeOf_49 rfl (fun c_49 => ?_) (fun c_49 => ?_)
          · refine g_iconst (v := 0) dX8_degreeOf_56 (by decide) ?_
            exact g_iret dX8_degreeOf_57 rfl rfl ⟨by first | rfl | grind [rlDeg, rlFac, rlOne, bI, pick2, pickS, pickM], rfl⟩
          · refine g_iconst (v := 4) dX8_degreeOf_52 (by decide) ?_
            refine g_goto (tgt := 57) dX8_degreeOf_53 rfl ?_
            exact g_iret dX8_degreeOf_57 rfl rfl ⟨by first | rfl | grind [rlDeg, rlFac, rlOne, bI, pick2, pickS, pickM], rfl⟩
        · refine g_iconst (v := 2) dX8_degreeOf_37 (by decide) ?_
          exact g_iret dX8_degreeOf_38 rfl rfl ⟨by first | rfl | grind [rlDeg, rlFac, rlOne, bI, pick2, pickS, pickM], rfl⟩
    · refine g_iconst (v := 0) dX8_degreeOf_25 (by decide) ?_
      exact g_iret dX8_degreeOf_26 rfl rfl ⟨by first | rfl | grind [rlDeg, rlFac, rlOne, bI, pick2, pickS, pickM], rfl⟩
  · refine g_iconst (v := 2) dX8_degreeOf_10 (by decide) ?_
    exact g_iret dX8_degreeOf_11 rfl rfl ⟨by first | rfl | grind [rlDeg, rlFac, rlOne, bI, pick2, pickS, pickM], rfl⟩
set_option maxRecDepth 100000 in
set_option maxHeartbeats 4000000 in
theorem CX8_factorOf {i a b : Nat} (h : xLed i a b) {r k : Int32} : Ct l mX8_factorOf [.ref i, .int r, .int k] (xW σ) (q_eq (some (.int (rlFac (σ a) (σ b) (σ i 2) r k))) (xW σ)) := by
  refine Ct.of rfl (Nat.le_of_ble_eq_true rfl) ?_
  refine g_aload_n dX8_factorOf_0 rfl rfl ?_
  refine g_iload_n dX8_factorOf_1 rfl rfl ?_
  refine g_V1r (CX3_kindOf h) kX8_factorOf_9 dX8_factorOf_2 (xW_at h.1.1 h.2.1) rfl ⟨rfl, rfl⟩ (Nat.le_of_ble_eq_true rfl) ⟨(Nat.le_of_ble_eq_true rfl), (Nat.le_of_ble_eq_true rfl)⟩ ?_
  refine g_istore_n dX8_factorOf_5 rfl (Nat.le_of_ble_eq_true rfl) rfl ?_
  refine g_iload_n dX8_factorOf_6 rfl rfl ?_
  refine g_if_ne (tgt := 14) dX8_factorOf_7 rfl (fun c_7 => ?_) (fun c_7 => ?_)
  · refine g_aload_n dX8_factorOf_14 rfl rfl ?_
    refine g_iload_n dX8_factorOf_15 rfl rfl ?_
    refine g_iconst (v := 0) dX8_factorOf_16 (by decide) ?_
    refine g_V2r (CX3_numberOf h) kX8_factorOf_15 dX8_factorOf_17 (xW_at h.1.1 h.2.1) rfl ⟨rfl, rfl⟩ (Nat.le_of_ble_eq_true rfl) ⟨(Nat.le_of_ble_eq_true rfl), (Nat.le_of_ble_eq_true rfl)⟩ ?_
    refine g_istore dX8_factorOf_20 (Nat.le_of_ble_eq_true rfl) rfl ?_
    refine g_aload_n dX8_factorOf_22 rfl rfl ?_
    refine g_iload dX8_factorOf_23 rfl ?_
    refine g_iconst (v := 0) dX8_factorOf_25 (by decide) ?_
    refine g_V2r (CX3_numberOf h) kX8_factorOf_15 dX8_factorOf_26 (xW_at h.1.1 h.2.1) rfl ⟨rfl, rfl⟩ (Nat.le_of_ble_eq_true rfl) ⟨(Nat.le_of_ble_eq_true rfl), (Nat.le_of_ble_eq_true rfl)⟩ ?_
    refine g_istore dX8_factorOf_29 (Nat.le_of_ble_eq_true rfl) rfl ?_
    refine g_aload_n dX8_factorOf_31 rfl rfl ?_
    refine g_iload dX8_factorOf_32 rfl ?_
    refine g_iconst (v := 1) dX8_factorOf_34 (by decide) ?_
    refine g_V2r (CX3_numberOf h) kX8_factorOf_15 dX8_factorOf_35 (xW_at h.1.1 h.2.1) rfl ⟨rfl, rfl⟩ (Nat.le_of_ble_eq_true rfl) ⟨(Nat.le_of_ble_eq_true rfl), (Nat.le_of_ble_eq_true rfl)⟩ ?_
    refine g_istore dX8_factorOf_38 (Nat.le_of_ble_eq_true rfl) rfl ?_
    refine g_iload_n dX8_factorOf_40 rfl rfl ?_
    refine g_if_eq (tgt := 49) dX8_factorOf_41 rfl (fun c_41 => ?_) (fun c_41 => ?_)
    · refine g_iload_n dX8_factorOf_49 rfl rfl ?_
      refine g_iload dX8_factorOf_50 rfl ?_
      refine g_iload dX8_factorOf_52 rfl ?_
      refine g_S3r CX8_ofTwo kX8_factorOf_23 dX8_factorOf_54 ⟨rfl, rfl⟩ (Nat.le_of_ble_eq_true rfl) ⟨(Nat.le_of_ble_eq_true rfl), (Nat.le_of_ble_eq_true rfl)⟩ ?_
      exact g_iret dX8_factorOf_57 rfl rfl ⟨by first | rfl | grind [rlDeg, rlFac, rlOne, bI, pick2, pickS, pickM], rfl⟩
    · refine g_iload_n dX8_factorOf_44 rfl rfl ?_
      refine g_iconst (v := 4) dX8_factorOf_45 (by decide) ?_
      refine g_icmp_ne (tgt := 58) dX8_factorOf_46 rfl (fun c_46 => ?_) (fun c_46 => ?_)
      · refine g_iload_n dX8_factorOf_58 rfl rfl ?_
        refine g_iconst (v := 3) dX8_factorOf_59 (by decide) ?_
        refine g_icmp_ne (tgt := 78) dX8_factorOf_60 rfl (fun c_60 => ?_) (fun c_60 => ?_)
        · refine g_aload_n dX8_factorOf_78 rfl rfl ?_
          refine g_iload_n dX8_factorOf_79 rfl rfl ?_
          refine g_iconst (v := 1) dX8_factorOf_80 (by decide) ?_
          refine g_V2r (CX3_numberOf h) kX8_factorOf_15 dX8_factorOf_81 (xW_at h.1.1 h.2.1) rfl ⟨rfl, rfl⟩ (Nat.le_of_ble_eq_true rfl) ⟨(Nat.le_of_ble_eq_true rfl), (Nat.le_of_ble_eq_true rfl)⟩ ?_
          refine g_istore dX8_factorOf_84 (Nat.le_of_ble_eq_true rfl) rfl ?_
          refine g_aload_n dX8_factorOf_86 rfl rfl ?_
          refine g_iload dX8_factorOf_87 rfl ?_
          refine g_iconst (v := 0) dX8_factorOf_89 (by decide) ?_
          refine g_V2r (CX3_numberOf h) kX8_factorOf_15 dX8_factorOf_90 (xW_at h.1.1 h.2.1) rfl ⟨rfl, rfl⟩ (Nat.le_of_ble_eq_true rfl) ⟨(Nat.le_of_ble_eq_true rfl), (Nat.le_of_ble_eq_true rfl)⟩ ?_
          refine g_istore dX8_factorOf_93 (Nat.le_of_ble_eq_true rfl) rfl ?_
          refine g_aload_n dX8_factorOf_95 rfl rfl ?_
          refine g_iload dX8_factorOf_96 rfl ?_
          refine g_iconst (v := 1) dX8_factorOf_98 (by decide) ?_
          refine g_V2r (CX3_numberOf h) kX8_factorOf_15 dX8_factorOf_99 (xW_at h.1.1 h.2.1) rfl ⟨rfl, rfl⟩ (Nat.le_of_ble_eq_true rfl) ⟨(Nat.le_of_ble_eq_true rfl), (Nat.le_of_ble_eq_true rfl)⟩ ?_
          refine g_istore dX8_factorOf_102 (Nat.le_of_ble_eq_true rfl) rfl ?_
          refine g_iload_n dX8_factorOf_104 rfl rfl ?_
          refine g_iconst (v := 1) dX8_factorOf_105 (by decide) ?_
          refine g_icmp_ne (tgt := 124) dX8_factorOf_106 rfl (fun c_106 => ?_) (fun c_106 => ?_)
          · refine g_iload_n dX8_factorOf_124 rfl rfl ?_
            refine g_iload dX8_factorOf_125 rfl ?_
            refine g_iload dX8_factorOf_127 rfl ?_
            refine g_iload dX8_factorOf_129 rfl ?_
            refine g_iload dX8_factorOf_131 rfl ?_
            refine g_S5r CX8_ofProduct kX8_factorOf_37 dX8_factorOf_133 ⟨rfl, rfl⟩ (Nat.le_of_ble_eq_true rfl) ⟨(Nat.le_of_ble_eq_true rfl), (Nat.le_of_ble_eq_true rfl)⟩ ?_
            exact g_iret dX8_factorOf_136 rfl rfl ⟨by first | rfl | grind [rlDeg, rlFac, rlOne, bI, pick2, pickS, pickM], rfl⟩
          · refine g_iload_n dX8_factorOf_109 rfl rfl ?_
            refine g_iload dX8_factorOf_110 rfl ?_
            refine g_iload dX8_factorOf_112 rfl ?_
            refine g_iload dX8_factorOf_114 rfl ?_
            refine g_iload dX8_factorOf_116 rfl ?_
            refine g_S5r CX8_ofSum kX8_factorOf_33 dX8_factorOf_118 ⟨rfl, rfl⟩ (Nat.le_of_ble_eq_true rfl) ⟨(Nat.le_of_ble_eq_true rfl), (Nat.le_of_ble_eq_true rfl)⟩ ?_
            refine g_goto (tgt := 136) dX8_factorOf_121 rfl ?_
            exact g_iret dX8_factorOf_136 rfl rfl ⟨by first | rfl | grind [rlDeg, rlFac, rlOne, bI, pick2, pickS, pickM], rfl⟩
        · refine g_iload_n dX8_factorOf_63 rfl rfl ?_
          refine g_aload_n dX8_factorOf_64 rfl rfl ?_
          refine g_iload_n dX8_factorOf_65 rfl rfl ?_
          refine g_iconst (v := 1) dX8_factorOf_66 (by decide) ?_
          refine g_V2r (CX3_numberOf h) kX8_factorOf_15 dX8_factorOf_67 (xW_at h.1.1 h.2.1) rfl ⟨rfl, rfl⟩ (Nat.le_of_ble_eq_true rfl) ⟨(Nat.le_of_ble_eq_true rfl), (Nat.le_of_ble_eq_true rfl)⟩ ?_
          refine g_iload dX8_factorOf_70 rfl ?_
          refine g_iload dX8_factorOf_72 rfl ?_
          refine g_S4r CX8_ofPowers kX8_factorOf_29 dX8_factorOf_74 ⟨rfl, rfl⟩ (Nat.le_of_ble_eq_true rfl) ⟨(Nat.le_of_ble_eq_true rfl), (Nat.le_of_ble_eq_true rfl)⟩ ?_
          exact g_iret dX8_factorOf_77 rfl rfl ⟨by first | rfl | grind [rlDeg, rlFac, rlOne, bI, pick2, pickS, pickM], rfl⟩
      · refine g_iload_n dX8_factorOf_49 rfl rfl ?_
        refine g_iload dX8_factorOf_50 rfl ?_
        refine g_iload dX8_factorOf_52 rfl ?_
        refine g_S3r CX8_ofTwo kX8_factorOf_23 dX8_factorOf_54 ⟨rfl, rfl⟩ (Nat.le_of_ble_eq_true rfl) ⟨(Nat.le_of_ble_eq_true rfl), (Nat.le_of_ble_eq_true rfl)⟩ ?_
        exact g_iret dX8_factorOf_57 rfl rfl ⟨by first | rfl | grind [rlDeg, rlFac, rlOne, bI, pick2, pickS, pickM], rfl⟩
  · refine g_iload_n dX8_factorOf_10 rfl rfl ?_
    refine g_goto (tgt := 20) dX8_factorOf_11 rfl ?_
    refine g_istore dX8_factorOf_20 (Nat.le_of_ble_eq_true rfl) rfl ?_
    refine g_aload_n dX8_factorOf_22 rfl rfl ?_
    refine g_iload dX8_factorOf_23 rfl ?_
    refine g_iconst (v := 0) dX8_factorOf_25 (by decide) ?_
    refine g_V2r (CX3_numberOf h) kX8_factorOf_15 dX8_factorOf_26 (xW_at h.1.1 h.2.1) rfl ⟨rfl, rfl⟩ (Nat.le_of_ble_eq_true rfl) ⟨(Nat.le_of_ble_eq_true rfl), (Nat.le_of_ble_eq_true rfl)⟩ ?_
    refine g_istore dX8_factorOf_29 (Nat.le_of_ble_eq_true rfl) rfl ?_
    refine g_aload_n dX8_factorOf_31 rfl rfl ?_
    refine g_iload dX8_factorOf_32 rfl ?_
    refine g_iconst (v := 1) dX8_factorOf_34 (by decide) ?_
    refine g_V2r (CX3_numberOf h) kX8_factorOf_15 dX8_factorOf_35 (xW_at h.1.1 h.2.1) rfl ⟨rfl, rfl⟩ (Nat.le_of_ble_eq_true rfl) ⟨(Nat.le_of_ble_eq_true rfl), (Nat.le_of_ble_eq_true rfl)⟩ ?_
    refine g_istore dX8_factorOf_38 (Nat.le_of_ble_eq_true rfl) rfl ?_
    refine g_iload_n dX8_factorOf_40 rfl rfl ?_
    refine g_if_eq (tgt := 49) dX8_factorOf_41 rfl (fun c_41 => ?_) (fun c_41 => ?_)
    · refine g_iload_n dX8_factorOf_49 rfl rfl ?_
      refine g_iload dX8_factorOf_50 rfl ?_
      refine g_iload dX8_factorOf_52 rfl ?_
      refine g_S3r CX8_ofTwo kX8_factorOf_23 dX8_factorOf_54 ⟨rfl, rfl⟩ (Nat.le_of_ble_eq_true rfl) ⟨(Nat.le_of_ble_eq_true rfl), (Nat.le_of_ble_eq_true rfl)⟩ ?_
      exact g_iret dX8_factorOf_57 rfl rfl ⟨by first | rfl | grind [rlDeg, rlFac, rlOne, bI, pick2, pickS, pickM], rfl⟩
    · refine g_iload_n dX8_factorOf_44 rfl rfl ?_
      refine g_iconst (v := 4) dX8_factorOf_45 (by decide) ?_
      refine g_icmp_ne (tgt := 58) dX8_factorOf_46 rfl (fun c_46 => ?_) (fun c_46 => ?_)
      · refine g_iload_n dX8_factorOf_58 rfl rfl ?_
        refine g_iconst (v := 3) dX8_factorOf_59 (by decide) ?_
        refine g_icmp_ne (tgt := 78) dX8_factorOf_60 rfl (fun c_60 => ?_) (fun c_60 => ?_)
        · refine g_aload_n dX8_factorOf_78 rfl rfl ?_
          refine g_iload_n dX8_factorOf_79 rfl rfl ?_
          refine g_iconst (v := 1) dX8_factorOf_80 (by decide) ?_
          refine g_V2r (CX3_numberOf h) kX8_factorOf_15 dX8_factorOf_81 (xW_at h.1.1 h.2.1) rfl ⟨rfl, rfl⟩ (Nat.le_of_ble_eq_true rfl) ⟨(Nat.le_of_ble_eq_true rfl), (Nat.le_of_ble_eq_true rfl)⟩ ?_
          refine g_istore dX8_factorOf_84 (Nat.le_of_ble_eq_true rfl) rfl ?_
          refine g_aload_n dX8_factorOf_86 rfl rfl ?_
          refine g_iload dX8_factorOf_87 rfl ?_
          refine g_iconst (v := 0) dX8_factorOf_89 (by decide) ?_
          refine g_V2r (CX3_numberOf h) kX8_factorOf_15 dX8_factorOf_90 (xW_at h.1.1 h.2.1) rfl ⟨rfl, rfl⟩ (Nat.le_of_ble_eq_true rfl) ⟨(Nat.le_of_ble_eq_true rfl), (Nat.le_of_ble_eq_true rfl)⟩ ?_
          refine g_istore dX8_factorOf_93 (Nat.le_of_ble_eq_true rfl) rfl ?_
          refine g_aload_n dX8_factorOf_95 rfl rfl ?_
          refine g_iload dX8_factorOf_96 rfl ?_
          refine g_iconst (v := 1) dX8_factorOf_98 (by decide) ?_
          refine g_V2r (CX3_numberOf h) kX8_factorOf_15 dX8_factorOf_99 (xW_at h.1.1 h.2.1) rfl ⟨rfl, rfl⟩ (Nat.le_of_ble_eq_true rfl) ⟨(Nat.le_of_ble_eq_true rfl), (Nat.le_of_ble_eq_true rfl)⟩ ?_
          refine g_istore dX8_factorOf_102 (Nat.le_of_ble_eq_true rfl) rfl ?_
          refine g_iload_n dX8_factorOf_104 rfl rfl ?_
          refine g_iconst (v := 1) dX8_factorOf_105 (by decide) ?_
          refine g_icmp_ne (tgt := 124) dX8_factorOf_106 rfl (fun c_106 => ?_) (fun c_106 => ?_)
          · refine g_iload_n dX8_factorOf_124 rfl rfl ?_
            refine g_iload dX8_factorOf_125 rfl ?_
            refine g_iload dX8_factorOf_127 rfl ?_
            refine g_iload dX8_factorOf_129 rfl ?_
            refine g_iload dX8_factorOf_131 rfl ?_
            refine g_S5r CX8_ofProduct kX8_factorOf_37 dX8_factorOf_133 ⟨rfl, rfl⟩ (Nat.le_of_ble_eq_true rfl) ⟨(Nat.le_of_ble_eq_true rfl), (Nat.le_of_ble_eq_true rfl)⟩ ?_
            exact g_iret dX8_factorOf_136 rfl rfl ⟨by first | rfl | grind [rlDeg, rlFac, rlOne, bI, pick2, pickS, pickM], rfl⟩
          · refine g_iload_n dX8_factorOf_109 rfl rfl ?_
            refine g_iload dX8_factorOf_110 rfl ?_
            refine g_iload dX8_factorOf_112 rfl ?_
            refine g_iload dX8_factorOf_114 rfl ?_
            refine g_iload dX8_factorOf_116 rfl ?_
            refine g_S5r CX8_ofSum kX8_factorOf_33 dX8_factorOf_118 ⟨rfl, rfl⟩ (Nat.le_of_ble_eq_true rfl) ⟨(Nat.le_of_ble_eq_true rfl), (Nat.le_of_ble_eq_true rfl)⟩ ?_
            refine g_goto (tgt := 136) dX8_factorOf_121 rfl ?_
            exact g_iret dX8_factorOf_136 rfl rfl ⟨by first | rfl | grind [rlDeg, rlFac, rlOne, bI, pick2, pickS, pickM], rfl⟩
        · refine g_iload_n dX8_factorOf_63 rfl rfl ?_
          refine g_aload_n dX8_factorOf_64 rfl rfl ?_
          refine g_iload_n dX8_factorOf_65 rfl rfl ?_
          refine g_iconst (v := 1) dX8_factorOf_66 (by decide) ?_
          refine g_V2r (CX3_numberOf h) kX8_factorOf_15 dX8_factorOf_67 (xW_at h.1.1 h.2.1) rfl ⟨rfl, rfl⟩ (Nat.le_of_ble_eq_true rfl) ⟨(Nat.le_of_ble_eq_true rfl), (Nat.le_of_ble_eq_true rfl)⟩ ?_
          refine g_iload dX8_factorOf_70 rfl ?_
          refine g_iload dX8_factorOf_72 rfl ?_
          refine g_S4r CX8_ofPowers kX8_factorOf_29 dX8_factorOf_74 ⟨rfl, rfl⟩ (Nat.le_of_ble_eq_true rfl) ⟨(Nat.le_of_ble_eq_true rfl), (Nat.le_of_ble_eq_true rfl)⟩ ?_
          exact g_iret dX8_factorOf_77 rfl rfl ⟨by first | rfl | grind [rlDeg, rlFac, rlOne, bI, pick2, pickS, pickM], rfl⟩
      · refine g_iload_n dX8_factorOf_49 rfl rfl ?_
        refine g_iload dX8_factorOf_50 rfl ?_
        refine g_iload dX8_factorOf_52 rfl ?_
        refine g_S3r CX8_ofTwo kX8_factorOf_23 dX8_factorOf_54 ⟨rfl, rfl⟩ (Nat.le_of_ble_eq_true rfl) ⟨(Nat.le_of_ble_eq_true rfl), (Nat.le_of_ble_eq_true rfl)⟩ ?_
        exact g_iret dX8_factorOf_57 rfl rfl ⟨by first | rfl | grind [rlDeg, rlFac, rlOne, bI, pick2, pickS, pickM], rfl⟩
end
