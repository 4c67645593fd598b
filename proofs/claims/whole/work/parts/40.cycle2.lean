section
variable {l : Launch} {w : q_Wd} {σ : Nat → Nat → Int32}
set_option maxRecDepth 100000 in
set_option maxHeartbeats 4000000 in
theorem CX1_repeatsAfter_loop {i m R : Nat} (h : xCyc i m R) {p n0 : Nat} (hp : p ≤ R) : ∀ (d j : Nat), j + d = R - p → (∀ k, k < j → σ (i + 1) (6 + k) = σ (i + 1) (6 + k + p)) → Go l mX1_repeatsAfter n0 (q_eq (some (.int (bI (rpt (σ (i + 1)) R p)))) (xW σ)) (0, 0) 3 [some (.ref i), some (.int (nI p)), some (.int (nI (6 + j)))] [] (xW σ) := by
  intro d
  induction d with
  | zero =>
    intro j hj hinv
    have en : Int32.ofNat (6 + R) = nI (6 + R) := rfl
    have hR := h.1
    refine g_iload_n dX1_repeatsAfter_3 rfl rfl ?_
    refine g_iload_n dX1_repeatsAfter_4 rfl rfl ?_
    refine g_iadd dX1_repeatsAfter_5 ?_
    rw [nI_add (6 + j) p]
    refine g_aload_n dX1_repeatsAfter_6 rfl rfl ?_
    refine g_getf dX1_repeatsAfter_7 fX1_26 (xW_at (by have := h.1; omega) h.2.1) rfl ?_
    refine g_alen dX1_repeatsAfter_10 (xW_at h.1.1 h.2.2) ?_
    refine g_icmp_ge (tgt := 39) dX1_repeatsAfter_11 rfl (fun c_11 => ?_) (fun c_11 => by exact absurd (nI_le (by omega) (by omega)) c_11)
    refine g_iconst (v := 1) dX1_repeatsAfter_39 (by decide) ?_
    exact g_zret dX1_repeatsAfter_40 rfl rfl (by first | decide | exact bI_and) ⟨by rw [bI_t (fun k hk => hinv k (by omega))], rfl⟩
  | succ d ih =>
    intro j hj hinv
    have en : Int32.ofNat (6 + R) = nI (6 + R) := rfl
    have hR := h.1
    refine g_iload_n dX1_repeatsAfter_3 rfl rfl ?_
    refine g_iload_n dX1_repeatsAfter_4 rfl rfl ?_
    refine g_iadd dX1_repeatsAfter_5 ?_
    rw [nI_add (6 + j) p]
    refine g_aload_n dX1_repeatsAfter_6 rfl rfl ?_
    refine g_getf dX1_repeatsAfter_7 fX1_26 (xW_at (by have := h.1; omega) h.2.1) rfl ?_
    refine g_alen dX1_repeatsAfter_10 (xW_at h.1.1 h.2.2) ?_
    refine g_icmp_ge (tgt := 39) dX1_repeatsAfter_11 rfl (fun c_11 => by exact absurd c_11 (nI_ge (by omega) (by omega))) (fun c_11 => ?_)
    refine g_aload_n dX1_repeatsAfter_14 rfl rfl ?_
    refine g_getf dX1_repeatsAfter_15 fX1_26 (xW_at (by have := h.1; omega) h.2.1) rfl ?_
    refine g_iload_n dX1_repeatsAfter_18 rfl rfl ?_
    refine g_iald dX1_repeatsAfter_19 (xW_at h.1.1 h.2.2) (vin_lt (nI (6 + R)) (nI_pos' (by omega)) (nI_lt (by omega) (by omega)) (by rw [nI_toInt (by omega)]; omega)) ?_
    refine Go.eq rfl rfl (show _ = [Value.int (σ (i + 1) (6 + j))] by rw [nI_clamp (by omega)]) rfl ?_
    refine g_aload_n dX1_repeatsAfter_20 rfl rfl ?_
    refine g_getf dX1_repeatsAfter_21 fX1_26 (xW_at (by have := h.1; omega) h.2.1) rfl ?_
    refine g_iload_n dX1_repeatsAfter_24 rfl rfl ?_
    refine g_iload_n dX1_repeatsAfter_25 rfl rfl ?_
    refine g_iadd dX1_repeatsAfter_26 ?_
    rw [nI_add (6 + j) p]
    refine g_iald dX1_repeatsAfter_27 (xW_at h.1.1 h.2.2) (vin_lt (nI (6 + R)) (nI_pos' (by omega)) (nI_lt (by omega) (by omega)) (by rw [nI_toInt (by omega)]; omega)) ?_
    refine Go.eq rfl rfl (show _ = [Value.int (σ (i + 1) (6 + j + p)), Value.int (σ (i + 1) (6 + j))] by rw [nI_clamp (by omega)]) rfl ?_
    refine g_icmp_eq (tgt := 33) dX1_repeatsAfter_28 rfl (fun c_28 => ?_) (fun c_28 => ?_)
    · refine g_iinc (v := 1) dX1_repeatsAfter_33 (by decide) rfl (Nat.le_of_ble_eq_true rfl) rfl ?_
      refine g_goto (tgt := 3) dX1_repeatsAfter_36 rfl ?_
      have hinv2 : ∀ k, k < j + 1 → σ (i + 1) (6 + k) = σ (i + 1) (6 + k + p) := by
        intro k hk
        rcases Nat.lt_or_ge k j with q | q
        · exact hinv k q
        · have e : k = j := by omega
          subst e; exact c_28
      exact Go.eq rfl (show _ = _ by rw [show 6 + (j + 1) = 6 + j + 1 by omega, ← nI_1 (6 + j)]; rfl) rfl rfl (ih (j + 1) (by omega) hinv2)
    · refine g_iconst (v := 0) dX1_repeatsAfter_31 (by decide) ?_
      exact g_zret dX1_repeatsAfter_32 rfl rfl (by first | decide | exact bI_and) ⟨by rw [bI_f (fun q => c_28 (q j (by omega)))], rfl⟩
set_option maxRecDepth 100000 in
set_option maxHeartbeats 4000000 in
theorem CX1_repeatsAfter {i m R : Nat} (h : xCyc i m R) {p : Nat} (hp : p ≤ R) : Ct l mX1_repeatsAfter [.ref i, .int (nI p)] (xW σ) (q_eq (some (.int (bI (rpt (σ (i + 1)) R p)))) (xW σ)) := by
  refine Ct.of rfl (Nat.le_of_ble_eq_true rfl) ?_
  refine g_bipush (v := 6) dX1_repeatsAfter_0 (by decide) ?_
  refine g_istore_n dX1_repeatsAfter_2 rfl (Nat.le_of_ble_eq_true rfl) rfl ?_
  exact CX1_repeatsAfter_loop h hp (R - p) 0 (by omega) (fun k hk => absurd hk (by omega))
set_option maxRecDepth 100000 in
set_option maxHeartbeats 4000000 in
theorem CX1_shortestLap_loop {i m R : Nat} (h : xCyc i m R) {n0 : Nat} : ∀ (d j : Nat), j + d = R - 1 → Go l mX1_shortestLap n0 (q_eq (some (.int (nI (1 + fs (slB (σ (i + 1)) R) d j)))) (xW σ)) (0, 0) 2 [some (.ref i), some (.int (nI (j + 1)))] [] (xW σ) := by
  intro d
  induction d with
  | zero =>
    intro j hj
    have hR := h.1
    refine g_iload_n dX1_shortestLap_2 rfl rfl ?_
    refine g_aload_n dX1_shortestLap_3 rfl rfl ?_
    refine g_getf dX1_shortestLap_4 fX1_23 (xW_at (by have := h.1; omega) h.2.1) rfl ?_
    refine g_icmp_ge (tgt := 35) dX1_shortestLap_7 rfl (fun c_7 => ?_) (fun c_7 => by exact absurd (nI_le (by omega) (by omega)) c_7)
    refine g_aload_n dX1_shortestLap_35 rfl rfl ?_
    refine g_getf dX1_shortestLap_36 fX1_23 (xW_at (by have := h.1; omega) h.2.1) rfl ?_
    exact g_iret dX1_shortestLap_39 rfl rfl ⟨by rw [fs, show 1 + j = R by omega], rfl⟩
  | succ d ih =>
    intro j hj
    have hR := h.1
    refine g_iload_n dX1_shortestLap_2 rfl rfl ?_
    refine g_aload_n dX1_shortestLap_3 rfl rfl ?_
    refine g_getf dX1_shortestLap_4 fX1_23 (xW_at (by have := h.1; omega) h.2.1) rfl ?_
    refine g_icmp_ge (tgt := 35) dX1_shortestLap_7 rfl (fun c_7 => by exact absurd c_7 (nI_ge (by omega) (by omega))) (fun c_7 => ?_)
    refine g_aload_n dX1_shortestLap_10 rfl rfl ?_
    refine g_getf dX1_shortestLap_11 fX1_23 (xW_at (by have := h.1; omega) h.2.1) rfl ?_
    refine g_iload_n dX1_shortestLap_14 rfl rfl ?_
    refine g_irem dX1_shortestLap_15 (nI_ne0 (by omega) (by omega)) ?_
    rw [nI_rem (a := R) (b := j + 1) (by omega) (by omega)]
    refine g_if_ne (tgt := 29) dX1_shortestLap_16 rfl (fun c_16 => ?_) (fun c_16 => ?_)
    · refine g_iinc (v := 1) dX1_shortestLap_29 (by decide) rfl (Nat.le_of_ble_eq_true rfl) rfl ?_
      refine g_goto (tgt := 2) dX1_shortestLap_32 rfl ?_
      have e : fs (slB (σ (i + 1)) R) (d + 1) j = fs (slB (σ (i + 1)) R) d (j + 1) := by
        rw [fs, if_neg]
        unfold slB; rw [decide_eq_true_eq]
        rintro ⟨q1, q2⟩
        exact c_16 (by rw [q1]; rfl)
      rw [e]
      exact Go.eq rfl (show _ = _ by rw [← nI_1 (j + 1)]; rfl) rfl rfl (ih (j + 1) (by omega))
    · refine g_aload_n dX1_shortestLap_19 rfl rfl ?_
      refine g_iload_n dX1_shortestLap_20 rfl rfl ?_
      refine g_V1r (CX1_repeatsAfter h (p := j + 1) (by omega)) kX1_shortestLap_39 dX1_shortestLap_21 (xW_at (by have := h.1; omega) h.2.1) rfl ⟨rfl, rfl⟩ (Nat.le_of_ble_eq_true rfl) ⟨(Nat.le_of_ble_eq_true rfl), (Nat.le_of_ble_eq_true rfl)⟩ ?_
      refine g_if_eq (tgt := 29) dX1_shortestLap_24 rfl (fun c_24 => ?_) (fun c_24 => ?_)
      · refine g_iinc (v := 1) dX1_shortestLap_29 (by decide) rfl (Nat.le_of_ble_eq_true rfl) rfl ?_
        refine g_goto (tgt := 2) dX1_shortestLap_32 rfl ?_
        have e : fs (slB (σ (i + 1)) R) (d + 1) j = fs (slB (σ (i + 1)) R) d (j + 1) := by
          rw [fs, if_neg]
          unfold slB; rw [decide_eq_true_eq]
          rintro ⟨q1, q2⟩
          exact bI_0.mp c_24 q2
        rw [e]
        exact Go.eq rfl (show _ = _ by rw [← nI_1 (j + 1)]; rfl) rfl rfl (ih (j + 1) (by omega))
      · refine g_iload_n dX1_shortestLap_27 rfl rfl ?_
        exact g_iret dX1_shortestLap_28 rfl rfl (by
        have e : fs (slB (σ (i + 1)) R) (d + 1) j = j := by
          rw [fs, if_pos]
          unfold slB; rw [decide_eq_true_eq]
          exact ⟨nI_inj (Nat.lt_of_lt_of_le (Nat.mod_lt _ (by omega)) (by omega)) (by decide) c_16, Classical.byContradiction (fun q => c_24 (bI_f q))⟩
        rw [e, Nat.add_comm]; exact ⟨rfl, rfl⟩)
set_option maxRecDepth 100000 in
set_option maxHeartbeats 4000000 in
theorem CX1_shortestLap {i m R : Nat} (h : xCyc i m R) : Ct l mX1_shortestLap [.ref i] (xW σ) (q_eq (some (.int (nI (1 + fs (slB (σ (i + 1)) R) (R - 1) 0)))) (xW σ)) := by
  refine Ct.of rfl (Nat.le_of_ble_eq_true rfl) ?_
  refine g_iconst (v := 1) dX1_shortestLap_0 (by decide) ?_
  refine g_istore_n dX1_shortestLap_1 rfl (Nat.le_of_ble_eq_true rfl) rfl ?_
  exact CX1_shortestLap_loop h (R - 1) 0 (by omega)
set_option maxRecDepth 100000 in
set_option maxHeartbeats 4000000 in
theorem CX1_headFor_loop {i m R : Nat} (h : xCyc i m R) {p n0 : Nat} (hp : p ≤ 1000) : ∀ (j : Nat), j ≤ 6 → Go l mX1_headFor n0 (q_eq (some (.int (nI (hdF (cyN (σ (i + 1)) R) p j)))) (xW σ)) (0, 0) 3 [some (.ref i), some (.int (nI p)), some (.int (nI j))] [] (xW σ) := by
  intro j
  induction j with
  | zero =>
    intro hj
    refine g_iload_n dX1_headFor_3 rfl rfl ?_
    refine g_if_le (tgt := 32) dX1_headFor_4 rfl (fun c_4 => ?_) (fun c_4 => by exfalso; revert c_4; decide)
    refine g_iload_n dX1_headFor_32 rfl rfl ?_
    exact g_iret dX1_headFor_33 rfl rfl ⟨rfl, rfl⟩
  | succ j ih =>
    intro hj
    have ej : nI (j + 1) - 1 = nI j := nI_pred j
    have ej2 : nI (j + 1) + -1 = nI j := by rw [← ej]; grind
    refine g_iload_n dX1_headFor_3 rfl rfl ?_
    refine g_if_le (tgt := 32) dX1_headFor_4 rfl (fun c_4 => by exact absurd c_4 (nI_nle (by omega) (by omega))) (fun c_4 => ?_)
    refine g_aload_n dX1_headFor_7 rfl rfl ?_
    refine g_iload_n dX1_headFor_8 rfl rfl ?_
    refine g_iconst (v := 1) dX1_headFor_9 (by decide) ?_
    refine g_isub dX1_headFor_10 ?_
    rw [ej]
    refine g_V1r (CX1_at h (k := j) (by omega)) kX1_headFor_35 dX1_headFor_11 (xW_at (by have := h.1; omega) h.2.1) rfl ⟨rfl, rfl⟩ (Nat.le_of_ble_eq_true rfl) ⟨(Nat.le_of_ble_eq_true rfl), (Nat.le_of_ble_eq_true rfl)⟩ ?_
    refine g_aload_n dX1_headFor_14 rfl rfl ?_
    refine g_iload_n dX1_headFor_15 rfl rfl ?_
    refine g_iconst (v := 1) dX1_headFor_16 (by decide) ?_
    refine g_isub dX1_headFor_17 ?_
    rw [ej]
    refine g_iload_n dX1_headFor_18 rfl rfl ?_
    refine g_iadd dX1_headFor_19 ?_
    rw [nI_add]
    refine g_V1r (CX1_at h (k := j + p) (by omega)) kX1_headFor_35 dX1_headFor_20 (xW_at (by have := h.1; omega) h.2.1) rfl ⟨rfl, rfl⟩ (Nat.le_of_ble_eq_true rfl) ⟨(Nat.le_of_ble_eq_true rfl), (Nat.le_of_ble_eq_true rfl)⟩ ?_
    refine g_icmp_ne (tgt := 32) dX1_headFor_23 rfl (fun c_23 => ?_) (fun c_23 => ?_)
    · refine g_iload_n dX1_headFor_32 rfl rfl ?_
      exact g_iret dX1_headFor_33 rfl rfl ⟨by rw [hdF, if_neg c_23], rfl⟩
    · refine g_iinc (v := -1) dX1_headFor_26 (by decide) rfl (Nat.le_of_ble_eq_true rfl) rfl ?_
      refine g_goto (tgt := 3) dX1_headFor_29 rfl ?_
      rw [hdF, if_pos c_23]
      exact Go.eq rfl (show _ = _ by rw [← ej2]; rfl) rfl rfl (ih (by omega))
set_option maxRecDepth 100000 in
set_option maxHeartbeats 4000000 in
theorem CX1_headFor {i m R : Nat} (h : xCyc i m R) {p : Nat} (hp : p ≤ 1000) : Ct l mX1_headFor [.ref i, .int (nI p)] (xW σ) (q_eq (some (.int (nI (hdF (cyN (σ (i + 1)) R) p 6)))) (xW σ)) := by
  refine Ct.of rfl (Nat.le_of_ble_eq_true rfl) ?_
  refine g_bipush (v := 6) dX1_headFor_0 (by decide) ?_
  refine g_istore_n dX1_headFor_2 rfl (Nat.le_of_ble_eq_true rfl) rfl ?_
  exact CX1_headFor_loop h hp 6 (by omega)
set_option maxRecDepth 100000 in
set_option maxHeartbeats 4000000 in
theorem CX1_noughtsFrom_loop {i m R : Nat} (h : xCyc i m R) {a n n0 : Nat} (ha : a ≤ 6) (hn : n ≤ 1000) : ∀ (d j : Nat), j + d = n → Go l mX1_noughtsFrom n0 (q_eq (some (.int (nI (nz0 (cyN (σ (i + 1)) R) a n)))) (xW σ)) (0, 0) 5 [some (.ref i), some (.int (nI a)), some (.int (nI n)), some (.int (nI (nz0 (cyN (σ (i + 1)) R) a j))), some (.int (nI (a + j)))] [] (xW σ) := by
  intro d
  induction d with
  | zero =>
    intro j hj
    refine g_iload dX1_noughtsFrom_5 rfl ?_
    refine g_iload_n dX1_noughtsFrom_7 rfl rfl ?_
    refine g_iload_n dX1_noughtsFrom_8 rfl rfl ?_
    refine g_iadd dX1_noughtsFrom_9 ?_
    rw [nI_add a n]
    refine g_icmp_ge (tgt := 31) dX1_noughtsFrom_10 rfl (fun c_10 => ?_) (fun c_10 => by exact absurd (nI_le (by omega) (by omega)) c_10)
    refine g_iload_n dX1_noughtsFrom_31 rfl rfl ?_
    exact g_iret dX1_noughtsFrom_32 rfl rfl ⟨by rw [show j = n by omega], rfl⟩
  | succ d ih =>
    intro j hj
    refine g_iload dX1_noughtsFrom_5 rfl ?_
    refine g_iload_n dX1_noughtsFrom_7 rfl rfl ?_
    refine g_iload_n dX1_noughtsFrom_8 rfl rfl ?_
    refine g_iadd dX1_noughtsFrom_9 ?_
    rw [nI_add a n]
    refine g_icmp_ge (tgt := 31) dX1_noughtsFrom_10 rfl (fun c_10 => by exact absurd c_10 (nI_ge (by omega) (by omega))) (fun c_10 => ?_)
    refine g_aload_n dX1_noughtsFrom_13 rfl rfl ?_
    refine g_iload dX1_noughtsFrom_14 rfl ?_
    refine g_V1r (CX1_at h (k := a + j) (by omega)) kX1_noughtsFrom_35 dX1_noughtsFrom_16 (xW_at (by have := h.1; omega) h.2.1) rfl ⟨rfl, rfl⟩ (Nat.le_of_ble_eq_true rfl) ⟨(Nat.le_of_ble_eq_true rfl), (Nat.le_of_ble_eq_true rfl)⟩ ?_
    refine g_if_ne (tgt := 25) dX1_noughtsFrom_19 rfl (fun c_19 => ?_) (fun c_19 => ?_)
    · refine g_iinc (v := 1) dX1_noughtsFrom_25 (by decide) rfl (Nat.le_of_ble_eq_true rfl) rfl ?_
      refine g_goto (tgt := 5) dX1_noughtsFrom_28 rfl ?_
      exact Go.eq rfl (show _ = _ by rw [show a + (j + 1) = a + j + 1 by omega, ← nI_1 (a + j), nz0, if_neg c_19, Nat.add_zero]; rfl) rfl rfl (ih (j + 1) (by omega))
    · refine g_iinc (v := 1) dX1_noughtsFrom_22 (by decide) rfl (Nat.le_of_ble_eq_true rfl) rfl ?_
      refine g_iinc (v := 1) dX1_noughtsFrom_25 (by decide) rfl (Nat.le_of_ble_eq_true rfl) rfl ?_
      refine g_goto (tgt := 5) dX1_noughtsFrom_28 rfl ?_
      exact Go.eq rfl (show _ = _ by rw [show a + (j + 1) = a + j + 1 by omega, ← nI_1 (a + j), nz0, if_pos c_19, ← nI_1]; rfl) rfl rfl (ih (j + 1) (by omega))
set_option maxRecDepth 100000 in
set_option maxHeartbeats 4000000 in
theorem CX1_noughtsFrom {i m R : Nat} (h : xCyc i m R) {a n : Nat} (ha : a ≤ 6) (hn : n ≤ 1000) : Ct l mX1_noughtsFrom [.ref i, .int (nI a), .int (nI n)] (xW σ) (q_eq (some (.int (nI (nz0 (cyN (σ (i + 1)) R) a n)))) (xW σ)) := by
  refine Ct.of rfl (Nat.le_of_ble_eq_true rfl) ?_
  refine g_iconst (v := 0) dX1_noughtsFrom_0 (by decide) ?_
  refine g_istore_n dX1_noughtsFrom_1 rfl (Nat.le_of_ble_eq_true rfl) rfl ?_
  refine g_iload_n dX1_noughtsFrom_2 rfl rfl ?_
  refine g_istore dX1_noughtsFrom_3 (Nat.le_of_ble_eq_true rfl) rfl ?_
  exact CX1_noughtsFrom_loop h ha hn n 0 (by omega)
def mtB (f g : Nat → Int32) (R k : Nat) : Bool := decide (f k = cyN g R k)
def orNone (n k : Nat) : Int32 := if k < n then nI k else 2000000001
set_option maxRecDepth 100000 in
set_option maxHeartbeats 4000000 in
theorem CX1_firstMeeting_loop {i m R : Nat} (h : xCyc i m R) {i1 m1 R1 : Nat} (h1 : xCyc i1 m1 R1) {n0 : Nat} : ∀ (d j : Nat), j + d = 6 + R → Go l mX1_firstMeeting n0 (q_eq (some (.int (orNone (6 + R) (fs (mtB (σ (i + 1)) (σ (i1 + 1)) R1) d j)))) (xW σ)) (0, 0) 2 [some (.ref i), some (.ref i1), some (.int (nI j))] [] (xW σ) := by
  intro d
  induction d with
  | zero =>
    intro j hj
    have en : Int32.ofNat (6 + R) = nI (6 + R) := rfl
    have hR := h.1
    refine g_iload_n dX1_firstMeeting_2 rfl rfl ?_
    refine g_aload_n dX1_firstMeeting_3 rfl rfl ?_
    refine g_getf dX1_firstMeeting_4 fX1_26 (xW_at (by have := h.1; omega) h.2.1) rfl ?_
    refine g_alen dX1_firstMeeting_7 (xW_at h.1.1 h.2.2) ?_
    refine g_icmp_ge (tgt := 33) dX1_firstMeeting_8 rfl (fun c_8 => ?_) (fun c_8 => by exact absurd (nI_le (by omega) (by omega)) c_8)
    refine g_ldc dX1_firstMeeting_33 tb_682 ?_
    exact g_iret dX1_firstMeeting_35 rfl rfl ⟨by rw [fs, orNone, if_neg (by omega)], rfl⟩
  | succ d ih =>
    intro j hj
    have en : Int32.ofNat (6 + R) = nI (6 + R) := rfl
    have hR := h.1
    refine g_iload_n dX1_firstMeeting_2 rfl rfl ?_
    refine g_aload_n dX1_firstMeeting_3 rfl rfl ?_
    refine g_getf dX1_firstMeeting_4 fX1_26 (xW_at (by have := h.1; omega) h.2.1) rfl ?_
    refine g_alen dX1_firstMeeting_7 (xW_at h.1.1 h.2.2) ?_
    refine g_icmp_ge (tgt := 33) dX1_firstMeeting_8 rfl (fun c_8 => by exact absurd c_8 (nI_ge (by omega) (by omega))) (fun c_8 => ?_)
    refine g_aload_n dX1_firstMeeting_11 rfl rfl ?_
    refine g_getf dX1_firstMeeting_12 fX1_26 (xW_at (by have := h.1; omega) h.2.1) rfl ?_
    refine g_iload_n dX1_firstMeeting_15 rfl rfl ?_
    refine g_iald dX1_firstMeeting_16 (xW_at h.1.1 h.2.2) (vin_lt (nI (6 + R)) (nI_pos' (by omega)) (nI_lt (by omega) (by omega)) (by rw [nI_toInt (by omega)]; omega)) ?_
    refine Go.eq rfl rfl (show _ = [Value.int (σ (i + 1) j)] by rw [nI_clamp (by omega)]) rfl ?_
    refine g_aload_n dX1_firstMeeting_17 rfl rfl ?_
    refine g_iload_n dX1_firstMeeting_18 rfl rfl ?_
    refine g_V1r (CX1_at h1 (by omega)) kX1_firstMeeting_35 dX1_firstMeeting_19 (xW_at (by have := h1.1; omega) h1.2.1) rfl ⟨rfl, rfl⟩ (Nat.le_of_ble_eq_true rfl) ⟨(Nat.le_of_ble_eq_true rfl), (Nat.le_of_ble_eq_true rfl)⟩ ?_
    refine g_icmp_ne (tgt := 27) dX1_firstMeeting_22 rfl (fun c_22 => ?_) (fun c_22 => ?_)
    · refine g_iinc (v := 1) dX1_firstMeeting_27 (by decide) rfl (Nat.le_of_ble_eq_true rfl) rfl ?_
      refine g_goto (tgt := 2) dX1_firstMeeting_30 rfl ?_
      have e : fs (mtB (σ (i + 1)) (σ (i1 + 1)) R1) (d + 1) j = fs (mtB (σ (i + 1)) (σ (i1 + 1)) R1) d (j + 1) := by
        rw [fs, if_neg]
        unfold mtB; rw [decide_eq_true_eq]; exact c_22
      rw [e]
      exact Go.eq rfl (show _ = _ by rw [← nI_1 j]; rfl) rfl rfl (ih (j + 1) (by omega))
    · refine g_iload_n dX1_firstMeeting_25 rfl rfl ?_
      exact g_iret dX1_firstMeeting_26 rfl rfl (by
        have e : fs (mtB (σ (i + 1)) (σ (i1 + 1)) R1) (d + 1) j = j := by
          rw [fs, if_pos]
          unfold mtB; rw [decide_eq_true_eq]; exact c_22
        rw [e, orNone, if_pos (by omega)]; exact ⟨rfl, rfl⟩)
set_option maxRecDepth 100000 in
set_option maxHeartbeats 4000000 in
theorem CX1_firstMeeting {i m R : Nat} (h : xCyc i m R) {i1 m1 R1 : Nat} (h1 : xCyc i1 m1 R1) : Ct l mX1_firstMeeting [.ref i, .ref i1] (xW σ) (q_eq (some (.int (orNone (6 + R) (fs (mtB (σ (i + 1)) (σ (i1 + 1)) R1) (6 + R) 0)))) (xW σ)) := by
  refine Ct.of rfl (Nat.le_of_ble_eq_true rfl) ?_
  refine g_iconst (v := 0) dX1_firstMeeting_0 (by decide) ?_
  refine g_istore_n dX1_firstMeeting_1 rfl (Nat.le_of_ble_eq_true rfl) rfl ?_
  exact CX1_firstMeeting_loop h h1 (6 + R) 0 (by omega)
end
