theorem xW_arrN {σ : Nat → Nat → Int32} {c t n k k' : Nat} {v : Int32} (hT : ∀ f, xcell c f = .inl (t, n, .inl f)) (hk : k = k') : (xW σ).set c (.inl (t, n, .inl (upd (σ c) k v))) = xW (put σ c k' v) := by
  subst hk; exact xW_arr hT
theorem i4 {n j : Nat} (h : n < 8) (hj : j < 4) : (nI n * 4 + nI j).toNatClampNeg = 4 * n + j := by
  have e : (4 : Int32) = nI 4 := rfl
  rw [e, nI_mul, nI_add, nI_clamp (by omega)]; omega
theorem i40 {n : Nat} (h : n < 8) : (nI n * 4).toNatClampNeg = 4 * n := by
  have e : (4 : Int32) = nI 4 := rfl
  rw [e, nI_mul, nI_clamp (by omega)]; omega
/-- a row is written -/
def ldWr (σ : Nat → Nat → Int32) (a b r : Nat) (k A B C D : Int32) : Nat → Nat → Int32 := put (put (put (put (put σ a r k) b (4 * r) A) b (4 * r + 1) B) b (4 * r + 2) C) b (4 * r + 3) D
theorem nI_bd {n m : Nat} (h : n < m) (hm : m < 2 ^ 31) : 0 ≤ nI n ∧ nI n < nI m := ⟨nI_pos' (by omega), nI_lt h hm⟩
section
variable {l : Launch} {w : q_Wd} {σ : Nat → Nat → Int32}
set_option maxRecDepth 100000 in
set_option maxHeartbeats 4000000 in
theorem CX3_write {i a b : Nat} (h : xLed i a b) {n : Nat} (hn : n < 8) {k A B C D : Int32} : Ct l mX3_write [.ref i, .int (nI n), .int k, .int A, .int B, .int C, .int D] (xW σ) (q_eq none (xW (ldWr σ a b n k A B C D))) := by
  obtain ⟨h0, h8⟩ := nI_bd (m := 8) hn (by decide)
  replace h8 : nI n < 8 := h8
  refine Ct.of rfl (Nat.le_of_ble_eq_true rfl) ?_
  refine g_iload_n dX3_write_0 rfl rfl ?_
  refine g_if_lt (tgt := 10) dX3_write_1 rfl (fun c_1 => by exfalso; grind) (fun c_1 => ?_)
  refine g_iload_n dX3_write_4 rfl rfl ?_
  refine g_bipush (v := 8) dX3_write_5 (by decide) ?_
  refine g_icmp_lt (tgt := 11) dX3_write_7 rfl (fun c_7 => ?_) (fun c_7 => by exfalso; grind)
  refine g_iload_n dX3_write_11 rfl rfl ?_
  refine g_iconst (v := 4) dX3_write_12 (by decide) ?_
  refine g_imul dX3_write_13 ?_
  refine g_istore dX3_write_14 (Nat.le_of_ble_eq_true rfl) rfl ?_
  refine g_aload_n dX3_write_16 rfl rfl ?_
  refine g_getf dX3_write_17 fX3_9 (xW_at h.1.1 h.2.1) rfl ?_
  refine g_iload_n dX3_write_20 rfl rfl ?_
  refine g_iload_n dX3_write_21 rfl rfl ?_
  refine g_iast dX3_write_22 (xW_at h.1.2.1 h.2.2.1) (vin_lt 8 h0 h8 (by decide)) (xW_arrN h.2.2.1 (nI_clamp (by omega))) ?_
  refine g_aload_n dX3_write_23 rfl rfl ?_
  refine g_getf dX3_write_24 fX3_15 (xW_at h.1.1 h.2.1) rfl ?_
  refine g_iload dX3_write_27 rfl ?_
  refine g_iload_n dX3_write_29 rfl rfl ?_
  refine g_iast dX3_write_30 (xW_at h.1.2.2.1 h.2.2.2) (vin_lt 32 (by grind) (by grind) (by decide)) (xW_arrN h.2.2.2 (i40 hn)) ?_
  refine g_aload_n dX3_write_31 rfl rfl ?_
  refine g_getf dX3_write_32 fX3_15 (xW_at h.1.1 h.2.1) rfl ?_
  refine g_iload dX3_write_35 rfl ?_
  refine g_iconst (v := 1) dX3_write_37 (by decide) ?_
  refine g_iadd dX3_write_38 ?_
  refine g_iload dX3_write_39 rfl ?_
  refine g_iast dX3_write_41 (xW_at h.1.2.2.1 h.2.2.2) (vin_lt 32 (by grind) (by grind) (by decide)) (xW_arrN h.2.2.2 (i4 (j := 1) hn (by decide))) ?_
  refine g_aload_n dX3_write_42 rfl rfl ?_
  refine g_getf dX3_write_43 fX3_15 (xW_at h.1.1 h.2.1) rfl ?_
  refine g_iload dX3_write_46 rfl ?_
  refine g_iconst (v := 2) dX3_write_48 (by decide) ?_
  refine g_iadd dX3_write_49 ?_
  refine g_iload dX3_write_50 rfl ?_
  refine g_iast dX3_write_52 (xW_at h.1.2.2.1 h.2.2.2) (vin_lt 32 (by grind) (by grind) (by decide)) (xW_arrN h.2.2.2 (i4 (j := 2) hn (by decide))) ?_
  refine g_aload_n dX3_write_53 rfl rfl ?_
  refine g_getf dX3_write_54 fX3_15 (xW_at h.1.1 h.2.1) rfl ?_
  refine g_iload dX3_write_57 rfl ?_
  refine g_iconst (v := 3) dX3_write_59 (by decide) ?_
  refine g_iadd dX3_write_60 ?_
  refine g_iload dX3_write_61 rfl ?_
  refine g_iast dX3_write_63 (xW_at h.1.2.2.1 h.2.2.2) (vin_lt 32 (by grind) (by grind) (by decide)) (xW_arrN h.2.2.2 (i4 (j := 3) hn (by decide))) ?_
  exact g_vret dX3_write_64 rfl rfl ⟨rfl, rfl⟩
set_option maxRecDepth 100000 in
set_option maxHeartbeats 4000000 in
theorem CX3_append {i a b : Nat} (h : xLed i a b) {n : Nat} (hn : n < 8) (hs : σ i 2 = nI n) {k A B C D : Int32} : Ct l mX3_append [.ref i, .int k, .int A, .int B, .int C, .int D] (xW σ) (q_eq (some (.int 1)) (xW (ldWr (put σ i 2 (nI (n + 1))) a b n k A B C D))) := by
  obtain ⟨h0, h8⟩ := nI_bd (m := 8) hn (by decide)
  replace h8 : nI n < 8 := h8
  have hs2 : σ i 2 + 1 = nI (n + 1) := by rw [hs, nI_1]
  have hs1 : put σ i 2 (σ i 2 + 1) i 2 - 1 = nI n := by rw [put_eq]; show σ i 2 + 1 - 1 = _; rw [hs]; grind
  refine Ct.of rfl (Nat.le_of_ble_eq_true rfl) ?_
  refine g_aload_n dX3_append_0 rfl rfl ?_
  refine g_getf dX3_append_1 fX3_18 (xW_at h.1.1 h.2.1) rfl ?_
  refine g_bipush (v := 8) dX3_append_4 (by decide) ?_
  refine g_icmp_lt (tgt := 11) dX3_append_6 rfl (fun c_6 => ?_) (fun c_6 => by exfalso; grind)
  refine g_aload_n dX3_append_11 rfl rfl ?_
  refine g_dup dX3_append_12 rfl ?_
  refine g_getf dX3_append_13 fX3_18 (xW_at h.1.1 h.2.1) rfl ?_
  refine g_iconst (v := 1) dX3_append_16 (by decide) ?_
  refine g_iadd dX3_append_17 ?_
  refine g_putf dX3_append_18 pX3_18 (xW_at h.1.1 h.2.1) (Nat.le_of_ble_eq_true rfl) (fun _ => rfl) (fun _ => rfl) (xW_obj h.2.1 rfl) ?_
  refine g_aload_n dX3_append_21 rfl rfl ?_
  refine g_aload_n dX3_append_22 rfl rfl ?_
  refine g_getf dX3_append_23 fX3_18 (xW_at h.1.1 h.2.1) rfl ?_
  refine g_iconst (v := 1) dX3_append_26 (by decide) ?_
  refine g_isub dX3_append_27 ?_
  rw [hs1]
  refine g_iload_n dX3_append_28 rfl rfl ?_
  refine g_iload_n dX3_append_29 rfl rfl ?_
  refine g_iload_n dX3_append_30 rfl rfl ?_
  refine g_iload dX3_append_31 rfl ?_
  refine g_iload dX3_append_33 rfl ?_
  refine g_V6v (CX3_write h (n := n) hn) kX3_append_29 dX3_append_35 (xW_at h.1.1 h.2.1) rfl ⟨rfl, rfl⟩ (Nat.le_of_ble_eq_true rfl) ⟨(Nat.le_of_ble_eq_true rfl), (Nat.le_of_ble_eq_true rfl)⟩ ?_
  refine g_iconst (v := 1) dX3_append_38 (by decide) ?_
  exact g_zret dX3_append_39 rfl rfl (by first | decide | exact bI_and) ⟨rfl, by rw [hs2]⟩
set_option maxRecDepth 100000 in
set_option maxHeartbeats 4000000 in
theorem CX3_appendF {i a b : Nat} (h : xLed i a b) (hs : σ i 2 = 8) {k A B C D : Int32} : Ct l mX3_append [.ref i, .int k, .int A, .int B, .int C, .int D] (xW σ) (q_eq (some (.int 0)) (xW σ)) := by
  refine Ct.of rfl (Nat.le_of_ble_eq_true rfl) ?_
  refine g_aload_n dX3_append_0 rfl rfl ?_
  refine g_getf dX3_append_1 fX3_18 (xW_at h.1.1 h.2.1) rfl ?_
  refine g_bipush (v := 8) dX3_append_4 (by decide) ?_
  refine g_icmp_lt (tgt := 11) dX3_append_6 rfl (fun c_6 => by exfalso; grind) (fun c_6 => ?_)
  refine g_iconst (v := 0) dX3_append_9 (by decide) ?_
  exact g_zret dX3_append_10 rfl rfl (by first | decide | exact bI_and) ⟨rfl, rfl⟩
set_option maxRecDepth 100000 in
set_option maxHeartbeats 4000000 in
theorem CX3_copyFrom {i a b : Nat} (h : xLed i a b) {i' a' b' : Nat} (h2 : xLed i' a' b') : Ct l mX3_copyFrom [.ref i, .ref i'] (xW σ) (q_eq none (xW (put (putC (putC σ a (va_cpy (σ a') (σ a) 0 0 8)) b (va_cpy (putC σ a (va_cpy (σ a') (σ a) 0 0 8) b') (putC σ a (va_cpy (σ a') (σ a) 0 0 8) b) 0 0 32)) i 2 (putC (putC σ a (va_cpy (σ a') (σ a) 0 0 8)) b (va_cpy (putC σ a (va_cpy (σ a') (σ a) 0 0 8) b') (putC σ a (va_cpy (σ a') (σ a) 0 0 8) b) 0 0 32) i' 2)))) := by
  refine Ct.of rfl (Nat.le_of_ble_eq_true rfl) ?_
  refine g_aload_n dX3_copyFrom_0 rfl rfl ?_
  refine g_getf dX3_copyFrom_1 fX3_9 (xW_at h2.1.1 h2.2.1) rfl ?_
  refine g_iconst (v := 0) dX3_copyFrom_4 (by decide) ?_
  refine g_aload_n dX3_copyFrom_5 rfl rfl ?_
  refine g_getf dX3_copyFrom_6 fX3_9 (xW_at h.1.1 h.2.1) rfl ?_
  refine g_iconst (v := 0) dX3_copyFrom_9 (by decide) ?_
  refine g_bipush (v := 8) dX3_copyFrom_10 (by decide) ?_
  refine g_copyi dX3_copyFrom_12 tb_414 (Nat.le_of_ble_eq_true rfl) (Nat.le_of_ble_eq_true rfl) (xW_at h2.1.2.1 h2.2.2.1) (xW_at h.1.2.1 h.2.2.1) (by decide) (by decide) (by decide) (by decide) (by decide) (xW_arrC h.2.2.1) ?_
  refine g_aload_n dX3_copyFrom_15 rfl rfl ?_
  refine g_getf dX3_copyFrom_16 fX3_15 (xW_at h2.1.1 h2.2.1) rfl ?_
  refine g_iconst (v := 0) dX3_copyFrom_19 (by decide) ?_
  refine g_aload_n dX3_copyFrom_20 rfl rfl ?_
  refine g_getf dX3_copyFrom_21 fX3_15 (xW_at h.1.1 h.2.1) rfl ?_
  refine g_iconst (v := 0) dX3_copyFrom_24 (by decide) ?_
  refine g_bipush (v := 32) dX3_copyFrom_25 (by decide) ?_
  refine g_copyi dX3_copyFrom_27 tb_414 (Nat.le_of_ble_eq_true rfl) (Nat.le_of_ble_eq_true rfl) (xW_at h2.1.2.2.1 h2.2.2.2) (xW_at h.1.2.2.1 h.2.2.2) (by decide) (by decide) (by decide) (by decide) (by decide) (xW_arrC h.2.2.2) ?_
  refine g_aload_n dX3_copyFrom_30 rfl rfl ?_
  refine g_aload_n dX3_copyFrom_31 rfl rfl ?_
  refine g_getf dX3_copyFrom_32 fX3_18 (xW_at h2.1.1 h2.2.1) rfl ?_
  refine g_putf dX3_copyFrom_35 pX3_18 (xW_at h.1.1 h.2.1) (Nat.le_of_ble_eq_true rfl) (fun _ => rfl) (fun _ => rfl) (xW_obj h.2.1 rfl) ?_
  exact g_vret dX3_copyFrom_38 rfl rfl ⟨rfl, rfl⟩
set_option maxRecDepth 100000 in
set_option maxHeartbeats 4000000 in
theorem CX4_size {i a n : Nat} (h : xNum i a n) : Ct l mX4_size [.ref i] (xW σ) (q_eq (some (.int (σ i 1))) (xW σ)) := by
  refine Ct.of rfl (Nat.le_of_ble_eq_true rfl) ?_
  refine g_aload_n dX4_size_0 rfl rfl ?_
  refine g_getf dX4_size_1 fX4_19 (xW_at h.1.1 h.2.1) rfl ?_
  exact g_iret dX4_size_4 rfl rfl ⟨rfl, rfl⟩
set_option maxRecDepth 100000 in
set_option maxHeartbeats 4000000 in
theorem CX4_clear {i a n : Nat} (h : xNum i a n) : Ct l mX4_clear [.ref i] (xW σ) (q_eq none (xW (put σ i 1 0))) := by
  refine Ct.of rfl (Nat.le_of_ble_eq_true rfl) ?_
  refine g_aload_n dX4_clear_0 rfl rfl ?_
  refine g_iconst (v := 0) dX4_clear_1 (by decide) ?_
  refine g_putf dX4_clear_2 pX4_19 (xW_at h.1.1 h.2.1) (Nat.le_of_ble_eq_true rfl) (fun _ => rfl) (fun _ => rfl) (xW_obj h.2.1 rfl) ?_
  exact g_vret dX4_clear_5 rfl rfl ⟨rfl, rfl⟩
def nmAt (f : Nat → Int32) (sz : Int32) (n : Nat) (p : Int32) : Int32 := if 0 ≤ p ∧ p < sz ∧ p < nI n then f p.toNatClampNeg else 0
set_option maxRecDepth 100000 in
set_option maxHeartbeats 4000000 in
theorem CX4_at {i a n : Nat} (h : xNum i a n) (hn : n < 2 ^ 31) {p : Int32} : Ct l mX4_at [.ref i, .int p] (xW σ) (q_eq (some (.int (nmAt (σ a) (σ i 1) n p))) (xW σ)) := by
  have en : Int32.ofNat n = nI n := rfl
  refine Ct.of rfl (Nat.le_of_ble_eq_true rfl) ?_
  refine g_iload_n dX4_at_0 rfl rfl ?_
  refine g_if_lt (tgt := 30) dX4_at_1 rfl (fun c_1 => ?_) (fun c_1 => ?_)
  · refine g_iconst (v := 0) dX4_at_30 (by decide) ?_
    exact g_iret dX4_at_31 rfl rfl ⟨by grind [nmAt], rfl⟩
  · refine g_iload_n dX4_at_4 rfl rfl ?_
    refine g_aload_n dX4_at_5 rfl rfl ?_
    refine g_getf dX4_at_6 fX4_19 (xW_at h.1.1 h.2.1) rfl ?_
    refine g_icmp_ge (tgt := 30) dX4_at_9 rfl (fun c_9 => ?_) (fun c_9 => ?_)
    · refine g_iconst (v := 0) dX4_at_30 (by decide) ?_
      exact g_iret dX4_at_31 rfl rfl ⟨by grind [nmAt], rfl⟩
    · refine g_iload_n dX4_at_12 rfl rfl ?_
      refine g_aload_n dX4_at_13 rfl rfl ?_
      refine g_getf dX4_at_14 fX4_13 (xW_at h.1.1 h.2.1) rfl ?_
      refine g_alen dX4_at_17 (xW_at h.1.2.1 h.2.2) ?_
      refine g_icmp_ge (tgt := 30) dX4_at_18 rfl (fun c_18 => ?_) (fun c_18 => ?_)
      · refine g_iconst (v := 0) dX4_at_30 (by decide) ?_
        exact g_iret dX4_at_31 rfl rfl ⟨by grind [nmAt], rfl⟩
      · refine g_aload_n dX4_at_21 rfl rfl ?_
        refine g_getf dX4_at_22 fX4_13 (xW_at h.1.1 h.2.1) rfl ?_
        refine g_iload_n dX4_at_25 rfl rfl ?_
        refine g_iald dX4_at_26 (xW_at h.1.2.1 h.2.2) (vin_lt (nI n) (by grind) (by grind) (by rw [nI_toInt hn]; omega)) ?_
        refine g_goto (tgt := 31) dX4_at_27 rfl ?_
        exact g_iret dX4_at_31 rfl rfl ⟨by grind [nmAt], rfl⟩
set_option maxRecDepth 100000 in
set_option maxHeartbeats 4000000 in
theorem CX4_append {i a n : Nat} (h : xNum i a n) (hn : n < 2 ^ 31) {j : Nat} (hj : j < n) (hs : σ i 1 = nI j) {v : Int32} : Ct l mX4_append [.ref i, .int v] (xW σ) (q_eq (some (.int 1)) (xW (put (put σ a j v) i 1 (nI (j + 1))))) := by
  have en : Int32.ofNat n = nI n := rfl
  obtain ⟨h0, h8⟩ := nI_bd hj hn
  have hk : (σ i 1).toNatClampNeg = j := by rw [hs]; exact nI_clamp (by omega)
  have hs2 : put σ a j v i 1 + 1 = nI (j + 1) := by rw [put_ne h.1.2.2, hs, nI_1]
  refine Ct.of rfl (Nat.le_of_ble_eq_true rfl) ?_
  refine g_aload_n dX4_append_0 rfl rfl ?_
  refine g_getf dX4_append_1 fX4_19 (xW_at h.1.1 h.2.1) rfl ?_
  refine g_if_lt (tgt := 19) dX4_append_4 rfl (fun c_4 => by exfalso; grind) (fun c_4 => ?_)
  refine g_aload_n dX4_append_7 rfl rfl ?_
  refine g_getf dX4_append_8 fX4_19 (xW_at h.1.1 h.2.1) rfl ?_
  refine g_aload_n dX4_append_11 rfl rfl ?_
  refine g_getf dX4_append_12 fX4_13 (xW_at h.1.1 h.2.1) rfl ?_
  refine g_alen dX4_append_15 (xW_at h.1.2.1 h.2.2) ?_
  refine g_icmp_lt (tgt := 21) dX4_append_16 rfl (fun c_16 => ?_) (fun c_16 => by exfalso; grind)
  refine g_aload_n dX4_append_21 rfl rfl ?_
  refine g_getf dX4_append_22 fX4_13 (xW_at h.1.1 h.2.1) rfl ?_
  refine g_aload_n dX4_append_25 rfl rfl ?_
  refine g_getf dX4_append_26 fX4_19 (xW_at h.1.1 h.2.1) rfl ?_
  refine g_iload_n dX4_append_29 rfl rfl ?_
  refine g_iast dX4_append_30 (xW_at h.1.2.1 h.2.2) (vin_lt (nI n) (by grind) (by grind) (by rw [nI_toInt hn]; omega)) (xW_arrN h.2.2 hk) ?_
  refine g_aload_n dX4_append_31 rfl rfl ?_
  refine g_dup dX4_append_32 rfl ?_
  refine g_getf dX4_append_33 fX4_19 (xW_at h.1.1 h.2.1) rfl ?_
  refine g_iconst (v := 1) dX4_append_36 (by decide) ?_
  refine g_iadd dX4_append_37 ?_
  refine g_putf dX4_append_38 pX4_19 (xW_at h.1.1 h.2.1) (Nat.le_of_ble_eq_true rfl) (fun _ => rfl) (fun _ => rfl) (xW_obj h.2.1 rfl) ?_
  refine g_iconst (v := 1) dX4_append_41 (by decide) ?_
  exact g_zret dX4_append_42 rfl rfl (by first | decide | exact bI_and) ⟨rfl, by rw [hs2]⟩
set_option maxRecDepth 100000 in
set_option maxHeartbeats 4000000 in
theorem CX4_appendF {i a n : Nat} (h : xNum i a n) (hn : n < 2 ^ 31) (hs : σ i 1 = nI n) {v : Int32} : Ct l mX4_append [.ref i, .int v] (xW σ) (q_eq (some (.int 0)) (xW σ)) := by
  have en : Int32.ofNat n = nI n := rfl
  have h0 := nI_pos' hn
  refine Ct.of rfl (Nat.le_of_ble_eq_true rfl) ?_
  refine g_aload_n dX4_append_0 rfl rfl ?_
  refine g_getf dX4_append_1 fX4_19 (xW_at h.1.1 h.2.1) rfl ?_
  refine g_if_lt (tgt := 19) dX4_append_4 rfl (fun c_4 => by exfalso; grind) (fun c_4 => ?_)
  refine g_aload_n dX4_append_7 rfl rfl ?_
  refine g_getf dX4_append_8 fX4_19 (xW_at h.1.1 h.2.1) rfl ?_
  refine g_aload_n dX4_append_11 rfl rfl ?_
  refine g_getf dX4_append_12 fX4_13 (xW_at h.1.1 h.2.1) rfl ?_
  refine g_alen dX4_append_15 (xW_at h.1.2.1 h.2.2) ?_
  refine g_icmp_lt (tgt := 21) dX4_append_16 rfl (fun c_16 => by exfalso; grind) (fun c_16 => ?_)
  refine g_iconst (v := 0) dX4_append_19 (by decide) ?_
  exact g_zret dX4_append_20 rfl rfl (by first | decide | exact bI_and) ⟨rfl, rfl⟩
def nmCp (σ : Nat → Nat → Int32) (i a a' : Nat) : Nat → Nat → Nat → Int32
  | 0 => put σ i 1 0
  | j + 1 => put (put (nmCp σ i a a' j) a j (σ a' j)) i 1 (nI (j + 1))
theorem nmCp_sz (σ : Nat → Nat → Int32) (i a a' j : Nat) : nmCp σ i a a' j i 1 = nI j := by
  cases j <;> (unfold nmCp; rw [put_eq]; rfl)
theorem nmCp_ne {σ : Nat → Nat → Int32} {i a a' c : Nat} (h1 : c ≠ i) (h2 : c ≠ a) : ∀ j, nmCp σ i a a' j c = σ c
  | 0 => put_ne h1
  | j + 1 => by unfold nmCp; rw [put_ne h1, put_ne h2]; exact nmCp_ne h1 h2 j
set_option maxRecDepth 100000 in
set_option maxHeartbeats 4000000 in
theorem CX4_copyFrom_loop {i a n : Nat} (h : xNum i a n) (hn : n < 2 ^ 31) {i' a' m : Nat} (h2 : xNum i' a' n) (d1 : i' ≠ i ∧ i' ≠ a ∧ a' ≠ i ∧ a' ≠ a) (hm : m ≤ n) (hs : σ i' 1 = nI m) {n0 : Nat} {Q : q_P} (hQ : Q none (xW (nmCp σ i a a' m))) :
    ∀ (d j : Nat), j ≤ m → m < j + d → Go l mX4_copyFrom n0 Q (0, 0) 6 [some (.ref i), some (.ref i'), some (.int (nI j))] [] (xW (nmCp σ i a a' j)) := by
  intro d
  induction d with
  | zero => intro j h1 h3; exact absurd h3 (by omega)
  | succ d ih =>
    intro j hj hd
    have e1 : nmCp σ i a a' j i' 1 = nI m := by rw [nmCp_ne d1.1 d1.2.1, hs]
    have e2 : j < m → nmAt (nmCp σ i a a' j a') (nmCp σ i a a' j i' 1) n (nI j) = σ a' j := by
      intro q
      rw [e1, nmCp_ne d1.2.2.1 d1.2.2.2, nmAt, if_pos ⟨nI_pos' (by omega), nI_lt q (by omega), nI_lt (by omega) hn⟩, nI_clamp (by omega)]
    refine g_iload_n dX4_copyFrom_6 rfl rfl ?_
    refine g_aload_n dX4_copyFrom_7 rfl rfl ?_
    refine g_V0r (CX4_size h2) kX4_copyFrom_26 dX4_copyFrom_8 (xW_at h2.1.1 h2.2.1) rfl ⟨rfl, rfl⟩ (Nat.le_of_ble_eq_true rfl) ⟨(Nat.le_of_ble_eq_true rfl), (Nat.le_of_ble_eq_true rfl)⟩ ?_
    rw [e1]
    refine g_icmp_ge (tgt := 30) dX4_copyFrom_11 rfl (fun c_11 => ?_) (fun c_11 => ?_)
    · have hjm : j = m := by
        rcases Nat.lt_or_ge j m with q | q
        · exact absurd c_11 (nI_ge q (by omega))
        · omega
      exact g_vret dX4_copyFrom_30 rfl rfl (by have e : j = m := hjm; subst e; exact hQ)
    · have hjm : j < m := Nat.lt_of_not_le (fun q => c_11 (nI_le q (by omega)))
      refine g_aload_n dX4_copyFrom_14 rfl rfl ?_
      refine g_aload_n dX4_copyFrom_15 rfl rfl ?_
      refine g_iload_n dX4_copyFrom_16 rfl rfl ?_
      refine g_V1r (CX4_at h2 hn) kX4_copyFrom_29 dX4_copyFrom_17 (xW_at h2.1.1 h2.2.1) rfl ⟨rfl, rfl⟩ (Nat.le_of_ble_eq_true rfl) ⟨(Nat.le_of_ble_eq_true rfl), (Nat.le_of_ble_eq_true rfl)⟩ ?_
      refine g_V1r (CX4_append h hn (j := j) (by omega) (nmCp_sz ..)) kX4_copyFrom_33 dX4_copyFrom_20 (xW_at h.1.1 h.2.1) rfl ⟨rfl, rfl⟩ (Nat.le_of_ble_eq_true rfl) ⟨(Nat.le_of_ble_eq_true rfl), (Nat.le_of_ble_eq_true rfl)⟩ ?_
      refine g_pop dX4_copyFrom_23 rfl ?_
      refine g_iinc (v := 1) dX4_copyFrom_24 (by decide) rfl (Nat.le_of_ble_eq_true rfl) rfl ?_
      refine g_goto (tgt := 6) dX4_copyFrom_27 rfl ?_
      exact Go.eq rfl (show _ = _ by rw [← nI_1]; rfl) rfl (show _ = _ by rw [e2 hjm]; rfl) (ih (j + 1) (by omega) (by omega))
set_option maxRecDepth 100000 in
set_option maxHeartbeats 4000000 in
theorem CX4_copyFrom {i a n : Nat} (h : xNum i a n) (hn : n < 2 ^ 31) {i' a' m : Nat} (h2 : xNum i' a' n) (d1 : i' ≠ i ∧ i' ≠ a ∧ a' ≠ i ∧ a' ≠ a) (hm : m ≤ n) (hs : σ i' 1 = nI m) : Ct l mX4_copyFrom [.ref i, .ref i'] (xW σ) (q_eq none (xW (nmCp σ i a a' m))) := by
  refine Ct.of rfl (Nat.le_of_ble_eq_true rfl) ?_
  refine g_aload_n dX4_copyFrom_0 rfl rfl ?_
  refine g_V0v (CX4_clear h) kX4_copyFrom_23 dX4_copyFrom_1 (xW_at h.1.1 h.2.1) rfl ⟨rfl, rfl⟩ (Nat.le_of_ble_eq_true rfl) ⟨(Nat.le_of_ble_eq_true rfl), (Nat.le_of_ble_eq_true rfl)⟩ ?_
  refine g_iconst (v := 0) dX4_copyFrom_4 (by decide) ?_
  refine g_istore_n dX4_copyFrom_5 rfl (Nat.le_of_ble_eq_true rfl) rfl ?_
  exact CX4_copyFrom_loop h hn h2 d1 hm hs ⟨rfl, rfl⟩ (m + 1) 0 (by omega) (by omega)
end
