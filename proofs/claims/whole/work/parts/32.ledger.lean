abbrev ldH (sz r : Int32) : Prop := 0 ≤ r ∧ r < sz ∧ r < 8
def ldKind (K : Nat → Int32) (sz r : Int32) : Int32 := if ldH sz r then K r.toNatClampNeg else 0
def ldNum (N : Nat → Int32) (sz r p : Int32) : Int32 := if ldH sz r ∧ 0 ≤ p ∧ p < 4 then N (r * 4 + p).toNatClampNeg else 0
/-- a Ledger of the world: its three cells -/
def xLed (i a b : Nat) : Prop := (i < 173 ∧ a < 173 ∧ b < 173 ∧ i ≠ a ∧ i ≠ b ∧ a ≠ b) ∧ (∀ f, xcell i f = .inr (3, [.ref a, .ref b, .int (f 2)])) ∧ (∀ f, xcell a f = .inl (0, 8, .inl f)) ∧ (∀ f, xcell b f = .inl (0, 32, .inl f))
theorem xLed1 : xLed 1 2 3 := ⟨by decide, fun _ => rfl, fun _ => rfl, fun _ => rfl⟩
theorem xLed9 : xLed 9 10 11 := ⟨by decide, fun _ => rfl, fun _ => rfl, fun _ => rfl⟩
theorem xLed168 : xLed 168 169 170 := ⟨by decide, fun _ => rfl, fun _ => rfl, fun _ => rfl⟩
/-- a list of numbers of the world -/
def xNum (i a n : Nat) : Prop := (i < 173 ∧ a < 173 ∧ i ≠ a) ∧ (∀ f, xcell i f = .inr (4, [.ref a, .int (f 1)])) ∧ (∀ f, xcell a f = .inl (0, n, .inl f))
theorem xNum4 : xNum 4 5 8 := ⟨by decide, fun _ => rfl, fun _ => rfl⟩
theorem xNum6 : xNum 6 7 47 := ⟨by decide, fun _ => rfl, fun _ => rfl⟩
theorem xNum171 : xNum 171 172 8 := ⟨by decide, fun _ => rfl, fun _ => rfl⟩
theorem put_at {σ : Nat → Nat → Int32} {c k j : Nat} {v : Int32} (h : j ≠ c) (i : Nat) : put σ c k v j i = σ j i := by rw [put_ne h]
section
variable {l : Launch} {w : q_Wd} {σ : Nat → Nat → Int32}
set_option maxRecDepth 100000 in
set_option maxHeartbeats 4000000 in
theorem CJ9_floorMod {x m : Int32} (hm : ¬ m = 0) : Ct l mJ9_floorMod_7cf53 [.int x, .int m] w (q_eq (some (.int (jfm x m))) w) := by
  refine Ct.ofF (by decide +kernel) (Nat.le_of_ble_eq_true rfl) ?_
  refine g_iload_n dJ9_floorMod_7cf53_0 rfl rfl ?_
  refine g_iload_n dJ9_floorMod_7cf53_1 rfl rfl ?_
  refine g_irem dJ9_floorMod_7cf53_2 hm ?_
  refine g_istore_n dJ9_floorMod_7cf53_3 rfl (Nat.le_of_ble_eq_true rfl) rfl ?_
  refine g_iload_n dJ9_floorMod_7cf53_4 rfl rfl ?_
  refine g_iload_n dJ9_floorMod_7cf53_5 rfl rfl ?_
  refine g_ixor dJ9_floorMod_7cf53_6 ?_
  refine g_if_ge (tgt := 18) dJ9_floorMod_7cf53_7 rfl (fun c_7 => ?_) (fun c_7 => ?_)
  · refine g_iload_n dJ9_floorMod_7cf53_18 rfl rfl ?_
    exact g_iret dJ9_floorMod_7cf53_19 rfl rfl ⟨by first | rfl | grind [bI, jfm, jrem], rfl⟩
  · refine g_iload_n dJ9_floorMod_7cf53_10 rfl rfl ?_
    refine g_if_eq (tgt := 18) dJ9_floorMod_7cf53_11 rfl (fun c_11 => ?_) (fun c_11 => ?_)
    · refine g_iload_n dJ9_floorMod_7cf53_18 rfl rfl ?_
      exact g_iret dJ9_floorMod_7cf53_19 rfl rfl ⟨by first | rfl | grind [bI, jfm, jrem], rfl⟩
    · refine g_iload_n dJ9_floorMod_7cf53_14 rfl rfl ?_
      refine g_iload_n dJ9_floorMod_7cf53_15 rfl rfl ?_
      refine g_iadd dJ9_floorMod_7cf53_16 ?_
      exact g_iret dJ9_floorMod_7cf53_17 rfl rfl ⟨by first | rfl | grind [bI, jfm, jrem], rfl⟩
set_option maxRecDepth 100000 in
set_option maxHeartbeats 4000000 in
theorem CJ9_max {x y : Int32} : Ct l mJ9_max_7cf53 [.int x, .int y] w (q_eq (some (.int (if x < y then y else x))) w) := by
  refine Ct.ofF (by decide +kernel) (Nat.le_of_ble_eq_true rfl) ?_
  refine g_iload_n dJ9_max_7cf53_0 rfl rfl ?_
  refine g_iload_n dJ9_max_7cf53_1 rfl rfl ?_
  refine g_icmp_lt (tgt := 9) dJ9_max_7cf53_2 rfl (fun c_2 => ?_) (fun c_2 => ?_)
  · refine g_iload_n dJ9_max_7cf53_9 rfl rfl ?_
    exact g_iret dJ9_max_7cf53_10 rfl rfl ⟨by first | rfl | grind [bI, jfm, jrem], rfl⟩
  · refine g_iload_n dJ9_max_7cf53_5 rfl rfl ?_
    refine g_goto (tgt := 10) dJ9_max_7cf53_6 rfl ?_
    exact g_iret dJ9_max_7cf53_10 rfl rfl ⟨by first | rfl | grind [bI, jfm, jrem], rfl⟩
set_option maxRecDepth 100000 in
set_option maxHeartbeats 4000000 in
theorem CJ9_min {x y : Int32} : Ct l mJ9_min_7cf53 [.int x, .int y] w (q_eq (some (.int (if y < x then y else x))) w) := by
  refine Ct.ofF (by decide +kernel) (Nat.le_of_ble_eq_true rfl) ?_
  refine g_iload_n dJ9_min_7cf53_0 rfl rfl ?_
  refine g_iload_n dJ9_min_7cf53_1 rfl rfl ?_
  refine g_icmp_gt (tgt := 9) dJ9_min_7cf53_2 rfl (fun c_2 => ?_) (fun c_2 => ?_)
  · refine g_iload_n dJ9_min_7cf53_9 rfl rfl ?_
    exact g_iret dJ9_min_7cf53_10 rfl rfl ⟨by first | rfl | grind [bI, jfm, jrem], rfl⟩
  · refine g_iload_n dJ9_min_7cf53_5 rfl rfl ?_
    refine g_goto (tgt := 10) dJ9_min_7cf53_6 rfl ?_
    exact g_iret dJ9_min_7cf53_10 rfl rfl ⟨by first | rfl | grind [bI, jfm, jrem], rfl⟩
set_option maxRecDepth 100000 in
set_option maxHeartbeats 4000000 in
theorem CX3_size {i a b : Nat} (h : xLed i a b) : Ct l mX3_size [.ref i] (xW σ) (q_eq (some (.int (σ i 2))) (xW σ)) := by
  refine Ct.of rfl (Nat.le_of_ble_eq_true rfl) ?_
  refine g_aload_n dX3_size_0 rfl rfl ?_
  refine g_getf dX3_size_1 fX3_18 (xW_at h.1.1 h.2.1) rfl ?_
  exact g_iret dX3_size_4 rfl rfl ⟨rfl, rfl⟩
set_option maxRecDepth 100000 in
set_option maxHeartbeats 4000000 in
theorem CX3_holds {i a b : Nat} (h : xLed i a b) {r : Int32} : Ct l mX3_holds [.ref i, .int r] (xW σ) (q_eq (some (.int (bI (ldH (σ i 2) r)))) (xW σ)) := by
  refine Ct.of rfl (Nat.le_of_ble_eq_true rfl) ?_
  refine g_iload_n dX3_holds_0 rfl rfl ?_
  refine g_if_lt (tgt := 22) dX3_holds_1 rfl (fun c_1 => ?_) (fun c_1 => ?_)
  · refine g_iconst (v := 0) dX3_holds_22 (by decide) ?_
    exact g_zret dX3_holds_23 rfl rfl (by first | decide | exact bI_and) ⟨by first | rfl | grind [bI, ldKind, ldNum], rfl⟩
  · refine g_iload_n dX3_holds_4 rfl rfl ?_
    refine g_aload_n dX3_holds_5 rfl rfl ?_
    refine g_getf dX3_holds_6 fX3_18 (xW_at h.1.1 h.2.1) rfl ?_
    refine g_icmp_ge (tgt := 22) dX3_holds_9 rfl (fun c_9 => ?_) (fun c_9 => ?_)
    · refine g_iconst (v := 0) dX3_holds_22 (by decide) ?_
      exact g_zret dX3_holds_23 rfl rfl (by first | decide | exact bI_and) ⟨by first | rfl | grind [bI, ldKind, ldNum], rfl⟩
    · refine g_iload_n dX3_holds_12 rfl rfl ?_
      refine g_bipush (v := 8) dX3_holds_13 (by decide) ?_
      refine g_icmp_ge (tgt := 22) dX3_holds_15 rfl (fun c_15 => ?_) (fun c_15 => ?_)
      · refine g_iconst (v := 0) dX3_holds_22 (by decide) ?_
        exact g_zret dX3_holds_23 rfl rfl (by first | decide | exact bI_and) ⟨by first | rfl | grind [bI, ldKind, ldNum], rfl⟩
      · refine g_iconst (v := 1) dX3_holds_18 (by decide) ?_
        refine g_goto (tgt := 23) dX3_holds_19 rfl ?_
        exact g_zret dX3_holds_23 rfl rfl (by first | decide | exact bI_and) ⟨by first | rfl | grind [bI, ldKind, ldNum], rfl⟩
set_option maxRecDepth 100000 in
set_option maxHeartbeats 4000000 in
theorem CX3_isPlace {r : Int32} : Ct l mX3_isPlace [.int r] w (q_eq (some (.int (bI (0 ≤ r ∧ r < 4)))) w) := by
  refine Ct.of rfl (Nat.le_of_ble_eq_true rfl) ?_
  refine g_iload_n dX3_isPlace_0 rfl rfl ?_
  refine g_if_lt (tgt := 13) dX3_isPlace_1 rfl (fun c_1 => ?_) (fun c_1 => ?_)
  · refine g_iconst (v := 0) dX3_isPlace_13 (by decide) ?_
    exact g_zret dX3_isPlace_14 rfl rfl (by first | decide | exact bI_and) ⟨by first | rfl | grind [bI, ldKind, ldNum], rfl⟩
  · refine g_iload_n dX3_isPlace_4 rfl rfl ?_
    refine g_iconst (v := 4) dX3_isPlace_5 (by decide) ?_
    refine g_icmp_ge (tgt := 13) dX3_isPlace_6 rfl (fun c_6 => ?_) (fun c_6 => ?_)
    · refine g_iconst (v := 0) dX3_isPlace_13 (by decide) ?_
      exact g_zret dX3_isPlace_14 rfl rfl (by first | decide | exact bI_and) ⟨by first | rfl | grind [bI, ldKind, ldNum], rfl⟩
    · refine g_iconst (v := 1) dX3_isPlace_9 (by decide) ?_
      refine g_goto (tgt := 14) dX3_isPlace_10 rfl ?_
      exact g_zret dX3_isPlace_14 rfl rfl (by first | decide | exact bI_and) ⟨by first | rfl | grind [bI, ldKind, ldNum], rfl⟩
set_option maxRecDepth 100000 in
set_option maxHeartbeats 4000000 in
theorem CX3_isTold {i a b : Nat} (h : xLed i a b) {r : Int32} : Ct l mX3_isTold [.ref i, .int r] (xW σ) (q_eq (some (.int (bI (ldH (σ i 2) r ∧ σ a r.toNatClampNeg = 0)))) (xW σ)) := by
  refine Ct.of rfl (Nat.le_of_ble_eq_true rfl) ?_
  refine g_aload_n dX3_isTold_0 rfl rfl ?_
  refine g_iload_n dX3_isTold_1 rfl rfl ?_
  refine g_V1r (CX3_holds h) kX3_isTold_22 dX3_isTold_2 (xW_at h.1.1 h.2.1) rfl ⟨rfl, rfl⟩ (Nat.le_of_ble_eq_true rfl) ⟨(Nat.le_of_ble_eq_true rfl), (Nat.le_of_ble_eq_true rfl)⟩ ?_
  refine g_if_eq (tgt := 21) dX3_isTold_5 rfl (fun c_5 => ?_) (fun c_5 => ?_)
  · refine g_iconst (v := 0) dX3_isTold_21 (by decide) ?_
    exact g_zret dX3_isTold_22 rfl rfl (by first | decide | exact bI_and) ⟨by first | rfl | grind [bI, ldKind, ldNum], rfl⟩
  · refine g_aload_n dX3_isTold_8 rfl rfl ?_
    refine g_getf dX3_isTold_9 fX3_9 (xW_at h.1.1 h.2.1) rfl ?_
    refine g_iload_n dX3_isTold_12 rfl rfl ?_
    refine g_iald dX3_isTold_13 (xW_at h.1.2.1 h.2.2.1) (vin_lt 8 (by grind [bI]) (by grind [bI]) (by decide)) ?_
    refine g_if_ne (tgt := 21) dX3_isTold_14 rfl (fun c_14 => ?_) (fun c_14 => ?_)
    · refine g_iconst (v := 0) dX3_isTold_21 (by decide) ?_
      exact g_zret dX3_isTold_22 rfl rfl (by first | decide | exact bI_and) ⟨by first | rfl | grind [bI, ldKind, ldNum], rfl⟩
    · refine g_iconst (v := 1) dX3_isTold_17 (by decide) ?_
      refine g_goto (tgt := 22) dX3_isTold_18 rfl ?_
      exact g_zret dX3_isTold_22 rfl rfl (by first | decide | exact bI_and) ⟨by first | rfl | grind [bI, ldKind, ldNum], rfl⟩
set_option maxRecDepth 100000 in
set_option maxHeartbeats 4000000 in
theorem CX3_kindOf {i a b : Nat} (h : xLed i a b) {r : Int32} : Ct l mX3_kindOf [.ref i, .int r] (xW σ) (q_eq (some (.int (ldKind (σ a) (σ i 2) r))) (xW σ)) := by
  refine Ct.of rfl (Nat.le_of_ble_eq_true rfl) ?_
  refine g_aload_n dX3_kindOf_0 rfl rfl ?_
  refine g_iload_n dX3_kindOf_1 rfl rfl ?_
  refine g_V1r (CX3_holds h) kX3_kindOf_22 dX3_kindOf_2 (xW_at h.1.1 h.2.1) rfl ⟨rfl, rfl⟩ (Nat.le_of_ble_eq_true rfl) ⟨(Nat.le_of_ble_eq_true rfl), (Nat.le_of_ble_eq_true rfl)⟩ ?_
  refine g_if_eq (tgt := 17) dX3_kindOf_5 rfl (fun c_5 => ?_) (fun c_5 => ?_)
  · refine g_iconst (v := 0) dX3_kindOf_17 (by decide) ?_
    exact g_iret dX3_kindOf_18 rfl rfl ⟨by first | rfl | grind [bI, ldKind, ldNum], rfl⟩
  · refine g_aload_n dX3_kindOf_8 rfl rfl ?_
    refine g_getf dX3_kindOf_9 fX3_9 (xW_at h.1.1 h.2.1) rfl ?_
    refine g_iload_n dX3_kindOf_12 rfl rfl ?_
    refine g_iald dX3_kindOf_13 (xW_at h.1.2.1 h.2.2.1) (vin_lt 8 (by grind [bI]) (by grind [bI]) (by decide)) ?_
    refine g_goto (tgt := 18) dX3_kindOf_14 rfl ?_
    exact g_iret dX3_kindOf_18 rfl rfl ⟨by first | rfl | grind [bI, ldKind, ldNum], rfl⟩
set_option maxRecDepth 100000 in
set_option maxHeartbeats 4000000 in
theorem CX3_numberOf {i a b : Nat} (h : xLed i a b) {r p : Int32} : Ct l mX3_numberOf [.ref i, .int r, .int p] (xW σ) (q_eq (some (.int (ldNum (σ b) (σ i 2) r p))) (xW σ)) := by
  refine Ct.of rfl (Nat.le_of_ble_eq_true rfl) ?_
  refine g_aload_n dX3_numberOf_0 rfl rfl ?_
  refine g_iload_n dX3_numberOf_1 rfl rfl ?_
  refine g_V1r (CX3_holds h) kX3_numberOf_22 dX3_numberOf_2 (xW_at h.1.1 h.2.1) rfl ⟨rfl, rfl⟩ (Nat.le_of_ble_eq_true rfl) ⟨(Nat.le_of_ble_eq_true rfl), (Nat.le_of_ble_eq_true rfl)⟩ ?_
  refine g_if_eq (tgt := 28) dX3_numberOf_5 rfl (fun c_5 => ?_) (fun c_5 => ?_)
  · refine g_iconst (v := 0) dX3_numberOf_28 (by decide) ?_
    exact g_iret dX3_numberOf_29 rfl rfl ⟨by first | rfl | grind [bI, ldKind, ldNum], rfl⟩
  · refine g_iload_n dX3_numberOf_8 rfl rfl ?_
    refine g_S1r CX3_isPlace kX3_numberOf_26 dX3_numberOf_9 ⟨rfl, rfl⟩ (Nat.le_of_ble_eq_true rfl) ⟨(Nat.le_of_ble_eq_true rfl), (Nat.le_of_ble_eq_true rfl)⟩ ?_
    refine g_if_eq (tgt := 28) dX3_numberOf_12 rfl (fun c_12 => ?_) (fun c_12 => ?_)
    · refine g_iconst (v := 0) dX3_numberOf_28 (by decide) ?_
      exact g_iret dX3_numberOf_29 rfl rfl ⟨by first | rfl | grind [bI, ldKind, ldNum], rfl⟩
    · refine g_aload_n dX3_numberOf_15 rfl rfl ?_
      refine g_getf dX3_numberOf_16 fX3_15 (xW_at h.1.1 h.2.1) rfl ?_
      refine g_iload_n dX3_numberOf_19 rfl rfl ?_
      refine g_iconst (v := 4) dX3_numberOf_20 (by decide) ?_
      refine g_imul dX3_numberOf_21 ?_
      refine g_iload_n dX3_numberOf_22 rfl rfl ?_
      refine g_iadd dX3_numberOf_23 ?_
      refine g_iald dX3_numberOf_24 (xW_at h.1.2.2.1 h.2.2.2) (ix4 (by grind [bI]) (by grind [bI]) (by grind [bI]) (by grind [bI])) ?_
      refine g_goto (tgt := 29) dX3_numberOf_25 rfl ?_
      exact g_iret dX3_numberOf_29 rfl rfl ⟨by first | rfl | grind [bI, ldKind, ldNum], rfl⟩
set_option maxRecDepth 100000 in
set_option maxHeartbeats 4000000 in
theorem CX3_setNumber {i a b : Nat} (h : xLed i a b) {r p v : Int32} : Ct l mX3_setNumber [.ref i, .int r, .int p, .int v] (xW σ) (q_eq none (xW (if ldH (σ i 2) r ∧ 0 ≤ p ∧ p < 4 then put σ b (r * 4 + p).toNatClampNeg v else σ))) := by
  refine Ct.of rfl (Nat.le_of_ble_eq_true rfl) ?_
  refine g_aload_n dX3_setNumber_0 rfl rfl ?_
  refine g_iload_n dX3_setNumber_1 rfl rfl ?_
  refine g_V1r (CX3_holds h) kX3_setNumber_22 dX3_setNumber_2 (xW_at h.1.1 h.2.1) rfl ⟨rfl, rfl⟩ (Nat.le_of_ble_eq_true rfl) ⟨(Nat.le_of_ble_eq_true rfl), (Nat.le_of_ble_eq_true rfl)⟩ ?_
  refine g_if_eq (tgt := 26) dX3_setNumber_5 rfl (fun c_5 => ?_) (fun c_5 => ?_)
  · exact g_vret dX3_setNumber_26 rfl rfl ⟨rfl, by grind [bI]⟩
  · refine g_iload_n dX3_setNumber_8 rfl rfl ?_
    refine g_S1r CX3_isPlace kX3_setNumber_26 dX3_setNumber_9 ⟨rfl, rfl⟩ (Nat.le_of_ble_eq_true rfl) ⟨(Nat.le_of_ble_eq_true rfl), (Nat.le_of_ble_eq_true rfl)⟩ ?_
    refine g_if_eq (tgt := 26) dX3_setNumber_12 rfl (fun c_12 => ?_) (fun c_12 => ?_)
    · exact g_vret dX3_setNumber_26 rfl rfl ⟨rfl, by grind [bI]⟩
    · refine g_aload_n dX3_setNumber_15 rfl rfl ?_
      refine g_getf dX3_setNumber_16 fX3_15 (xW_at h.1.1 h.2.1) rfl ?_
      refine g_iload_n dX3_setNumber_19 rfl rfl ?_
      refine g_iconst (v := 4) dX3_setNumber_20 (by decide) ?_
      refine g_imul dX3_setNumber_21 ?_
      refine g_iload_n dX3_setNumber_22 rfl rfl ?_
      refine g_iadd dX3_setNumber_23 ?_
      refine g_iload_n dX3_setNumber_24 rfl rfl ?_
      refine g_iast dX3_setNumber_25 (xW_at h.1.2.2.1 h.2.2.2) (ix4 (by grind [bI]) (by grind [bI]) (by grind [bI]) (by grind [bI])) (xW_arr h.2.2.2) ?_
      exact g_vret dX3_setNumber_26 rfl rfl ⟨rfl, by grind [bI]⟩
set_option maxRecDepth 100000 in
set_option maxHeartbeats 4000000 in
theorem CX3_clear {i a b : Nat} (h : xLed i a b) : Ct l mX3_clear [.ref i] (xW σ) (q_eq none (xW (put σ i 2 0))) := by
  refine Ct.of rfl (Nat.le_of_ble_eq_true rfl) ?_
  refine g_aload_n dX3_clear_0 rfl rfl ?_
  refine g_iconst (v := 0) dX3_clear_1 (by decide) ?_
  refine g_putf dX3_clear_2 pX3_18 (xW_at h.1.1 h.2.1) (Nat.le_of_ble_eq_true rfl) (fun _ => rfl) (fun _ => rfl) (xW_obj h.2.1 rfl) ?_
  exact g_vret dX3_clear_5 rfl rfl ⟨rfl, rfl⟩
set_option maxRecDepth 100000 in
set_option maxHeartbeats 4000000 in
theorem CX3_removeLast {i a b : Nat} (h : xLed i a b) : Ct l mX3_removeLast [.ref i] (xW σ) (q_eq none (xW (if 0 < σ i 2 then put σ i 2 (σ i 2 - 1) else σ))) := by
  refine Ct.of rfl (Nat.le_of_ble_eq_true rfl) ?_
  refine g_aload_n dX3_removeLast_0 rfl rfl ?_
  refine g_getf dX3_removeLast_1 fX3_18 (xW_at h.1.1 h.2.1) rfl ?_
  refine g_if_le (tgt := 17) dX3_removeLast_4 rfl (fun c_4 => ?_) (fun c_4 => ?_)
  · exact g_vret dX3_removeLast_17 rfl rfl ⟨rfl, by grind⟩
  · refine g_aload_n dX3_removeLast_7 rfl rfl ?_
    refine g_dup dX3_removeLast_8 rfl ?_
    refine g_getf dX3_removeLast_9 fX3_18 (xW_at h.1.1 h.2.1) rfl ?_
    refine g_iconst (v := 1) dX3_removeLast_12 (by decide) ?_
    refine g_isub dX3_removeLast_13 ?_
    refine g_putf dX3_removeLast_14 pX3_18 (xW_at h.1.1 h.2.1) (Nat.le_of_ble_eq_true rfl) (fun _ => rfl) (fun _ => rfl) (xW_obj h.2.1 rfl) ?_
    exact g_vret dX3_removeLast_17 rfl rfl ⟨rfl, by grind⟩
end
