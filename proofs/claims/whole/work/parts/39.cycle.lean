theorem nI_div {a b : Nat} (ha : a < 2 ^ 31) (hb : b < 2 ^ 31) : nI a / nI b = nI (a / b) := by
  rw [← Int32.toInt_inj, Int32.toInt_div, nI_toInt ha, nI_toInt hb, nI_toInt (Nat.lt_of_le_of_lt (Nat.div_le_self a b) ha)]
  rw [Int.tdiv_eq_ediv_of_nonneg (by omega), ← Int.natCast_ediv]
  have hq : a / b ≤ a := Nat.div_le_self a b
  generalize a / b = q at hq ⊢
  exact Int.bmod_eq_of_le (by omega) (by omega)
theorem nI_rem {a b : Nat} (ha : a < 2 ^ 31) (hb : b < 2 ^ 31) : nI a - nI a / nI b * nI b = nI (a % b) := by
  rw [nI_div ha hb, nI_mul, nI_sub (Nat.div_mul_le_self a b)]
  congr 1
  have := Nat.div_add_mod a b
  rw [Nat.mul_comm] at this
  omega
theorem jrem_nI {a b : Nat} (ha : a < 2 ^ 31) (hb : b < 2 ^ 31) : jrem (nI a) (nI b) = nI (a % b) := nI_rem ha hb
def cyN (f : Nat → Int32) (R k : Nat) : Int32 := if k < 6 then f k else f (6 + (k - 6) % R)
theorem cyN_lt {f : Nat → Int32} {R k : Nat} (h : k < 6 + R) : cyN f R k = f k := by
  unfold cyN
  split
  · rfl
  · rw [Nat.mod_eq_of_lt (by omega)]; congr 1; omega
def ctP (m c d e f : Int32) : Nat → Int32 × Int32
  | 0 => (jfm e m, jfm f m)
  | k + 1 => ((ctP m c d e f k).2, jfm (c * (ctP m c d e f k).2 + d * (ctP m c d e f k).1) m)
def ct (m c d e f : Int32) (k : Nat) : Int32 := (ctP m c d e f k).1
theorem ct_2 {m c d e f : Int32} (k : Nat) : ct m c d e f (k + 2) = jfm (c * ct m c d e f (k + 1) + d * ct m c d e f k) m := rfl
/-- a Cycle of the world -/
def xCyc (i m R : Nat) : Prop := (i + 1 < 173 ∧ 2 ≤ m ∧ m ≤ 10 ∧ 1 ≤ R ∧ R ≤ 336) ∧ (∀ f, xcell i f = .inr (1, [.int (nI m), .int (nI R), .ref (i + 1)])) ∧ (∀ f, xcell (i + 1) f = .inl (0, 6 + R, .inl f))
theorem xCyc166 : xCyc 166 5 120 := ⟨by decide, fun _ => rfl, fun _ => rfl⟩
abbrev rpt (f : Nat → Int32) (R p : Nat) : Prop := ∀ k, k < R - p → f (6 + k) = f (6 + k + p)
def slB (f : Nat → Int32) (R k : Nat) : Bool := decide (R % (k + 1) = 0 ∧ rpt f R (k + 1))
def hdF (A : Nat → Int32) (p : Nat) : Nat → Nat
  | 0 => 0
  | h + 1 => if A h = A (h + p) then hdF A p h else h + 1
def nz0 (A : Nat → Int32) (a : Nat) : Nat → Nat
  | 0 => 0
  | n + 1 => nz0 A a n + (if A (a + n) = 0 then 1 else 0)
theorem hdF_le (A : Nat → Int32) (p : Nat) : ∀ h, hdF A p h ≤ h
  | 0 => Nat.le_refl 0
  | h + 1 => by
    unfold hdF
    split
    · exact Nat.le_succ_of_le (hdF_le A p h)
    · exact Nat.le_refl _
theorem nz0_le (A : Nat → Int32) (a : Nat) : ∀ n, nz0 A a n ≤ n
  | 0 => Nat.le_refl 0
  | n + 1 => by unfold nz0; have := nz0_le A a n; split <;> omega
section
variable {l : Launch} {w : q_Wd} {σ : Nat → Nat → Int32}
set_option maxRecDepth 100000 in
set_option maxHeartbeats 4000000 in
theorem CX1_at {i m R : Nat} (h : xCyc i m R) {k : Nat} (hk : k < 2 ^ 31) : Ct l mX1_at [.ref i, .int (nI k)] (xW σ) (q_eq (some (.int (cyN (σ (i + 1)) R k))) (xW σ)) := by
  have hR := h.1
  have b0 : 0 ≤ nI k := nI_pos' hk
  have eR : ¬ nI R = 0 := nI_ne0 (by omega) (by omega)
  refine Ct.of rfl (Nat.le_of_ble_eq_true rfl) ?_
  refine g_iload_n dX1_at_0 rfl rfl ?_
  refine g_if_ge (tgt := 6) dX1_at_1 rfl (fun c_1 => ?_) (fun c_1 => by exact absurd b0 c_1)
  refine g_iload_n dX1_at_6 rfl rfl ?_
  refine g_bipush (v := 6) dX1_at_7 (by decide) ?_
  refine g_icmp_ge (tgt := 21) dX1_at_9 rfl (fun c_9 => ?_) (fun c_9 => ?_)
  · have hk6 : 6 ≤ k := by
      rcases Nat.lt_or_ge k 6 with q | q
      · exact absurd c_9 (nI_ge (b := 6) q (by decide))
      · exact q
    have e6 : 6 + (nI k - 6 - (nI k - 6) / nI R * nI R) = nI (6 + (k - 6) % R) := by
      rw [show nI k - 6 = nI (k - 6) from nI_sub (b := 6) hk6, nI_rem (by omega) (by omega)]
      exact nI_add 6 _
    have hm : (k - 6) % R < R := Nat.mod_lt _ (by omega)
    refine g_aload_n dX1_at_21 rfl rfl ?_
    refine g_getf dX1_at_22 fX1_26 (xW_at (by have := h.1; omega) h.2.1) rfl ?_
    refine g_bipush (v := 6) dX1_at_25 (by decide) ?_
    refine g_iload_n dX1_at_27 rfl rfl ?_
    refine g_bipush (v := 6) dX1_at_28 (by decide) ?_
    refine g_isub dX1_at_30 ?_
    refine g_aload_n dX1_at_31 rfl rfl ?_
    refine g_getf dX1_at_32 fX1_23 (xW_at (by have := h.1; omega) h.2.1) rfl ?_
    refine g_irem dX1_at_35 eR ?_
    refine g_iadd dX1_at_36 ?_
    rw [e6]
    refine g_iald dX1_at_37 (xW_at h.1.1 h.2.2) (vin_lt (nI (6 + R)) (nI_pos' (by omega)) (nI_lt (by omega) (by omega)) (by rw [nI_toInt (by omega)]; omega)) ?_
    exact g_iret dX1_at_38 rfl rfl ⟨by rw [cyN, if_neg (by omega), nI_clamp (by omega)], rfl⟩
  · have hk6 : k < 6 := by
      rcases Nat.lt_or_ge k 6 with q | q
      · exact q
      · exact absurd (nI_le (a := 6) q hk) c_9
    refine g_aload_n dX1_at_12 rfl rfl ?_
    refine g_getf dX1_at_13 fX1_26 (xW_at (by have := h.1; omega) h.2.1) rfl ?_
    refine g_iload_n dX1_at_16 rfl rfl ?_
    refine g_iald dX1_at_17 (xW_at h.1.1 h.2.2) (vin_lt (nI (6 + R)) b0 (nI_lt (by omega) (by omega)) (by rw [nI_toInt (by omega)]; omega)) ?_
    refine g_goto (tgt := 38) dX1_at_18 rfl ?_
    exact g_iret dX1_at_38 rfl rfl ⟨by rw [cyN, if_pos hk6, nI_clamp (by omega)], rfl⟩
theorem xSc {i m R : Nat} (h : xCyc i m R) {σ : Nat → Nat → Int32} {V F : Nat → Int32} {j k : Nat} {x : Int32} (hk : k = j) (hx : x = F j) : (xW (putC σ (i + 1) (ru V 0 j F))).set (i + 1) (.inl (0, 6 + R, .inl (upd (putC σ (i + 1) (ru V 0 j F) (i + 1)) k x))) = xW (putC σ (i + 1) (ru V 0 (j + 1) F)) := by
  rw [xW_arr h.2.2, put_putC, hk]
  congr 2
  have := ru_1 (V := V) (s := 0) (j := j) hx
  rw [Nat.zero_add] at this
  rw [← this]
def F_fillSum (σ : Nat → Nat → Int32) (i1 R1 i2 R2 m : Nat) : Nat → Int32 := (fun k => jrem (cyN (σ (i1 + 1)) R1 k + cyN (σ (i2 + 1)) R2 k) (nI m))
set_option maxRecDepth 100000 in
set_option maxHeartbeats 4000000 in
theorem CX1_fillSum_loop {i m R : Nat} (h : xCyc i m R) {i1 m1 R1 : Nat} (h1 : xCyc i1 m1 R1) (d1 : i1 ≠ i) {i2 m2 R2 : Nat} (h2 : xCyc i2 m2 R2) (d2 : i2 ≠ i) {n0 : Nat} : ∀ (d j : Nat), j + d = 6 + R → Go l mX1_fillSum n0 (q_eq none (xW (putC σ (i + 1) (ru (σ (i + 1)) 0 (6 + R) (F_fillSum σ i1 R1 i2 R2 m))))) (0, 0) 2 [some (.ref i), some (.ref i1), some (.ref i2), some (.int (nI j))] [] (xW (putC σ (i + 1) (ru (σ (i + 1)) 0 j (F_fillSum σ i1 R1 i2 R2 m)))) := by
  intro d
  induction d with
  | zero =>
    intro j hj
    have en : Int32.ofNat (6 + R) = nI (6 + R) := rfl
    have hR := h.1
    have e1 : j = 6 + R := by omega
    subst e1
    refine g_iload_n dX1_fillSum_2 rfl rfl ?_
    refine g_aload_n dX1_fillSum_3 rfl rfl ?_
    refine g_getf dX1_fillSum_4 fX1_26 (xW_at (by have := h.1; omega) h.2.1) rfl ?_
    refine g_alen dX1_fillSum_7 (xW_at h.1.1 h.2.2) ?_
    refine g_icmp_ge (tgt := 39) dX1_fillSum_8 rfl (fun c_8 => ?_) (fun c_8 => by exact absurd (nI_le (by omega) (by omega)) c_8)
    exact g_vret dX1_fillSum_39 rfl rfl ⟨rfl, rfl⟩
  | succ d ih =>
    intro j hj
    have en : Int32.ofNat (6 + R) = nI (6 + R) := rfl
    have hR := h.1
    have em : ¬ nI m = 0 := nI_ne0 (by omega) (by omega)
    have hF : jrem (cyN (σ (i1 + 1)) R1 j + cyN (σ (i2 + 1)) R2 j) (nI m) = (F_fillSum σ i1 R1 i2 R2 m) j := rfl
    refine g_iload_n dX1_fillSum_2 rfl rfl ?_
    refine g_aload_n dX1_fillSum_3 rfl rfl ?_
    refine g_getf dX1_fillSum_4 fX1_26 (xW_at (by have := h.1; omega) h.2.1) rfl ?_
    refine g_alen dX1_fillSum_7 (xW_at h.1.1 h.2.2) ?_
    refine g_icmp_ge (tgt := 39) dX1_fillSum_8 rfl (fun c_8 => by exact absurd c_8 (nI_ge (by omega) (by omega))) (fun c_8 => ?_)
    refine g_aload_n dX1_fillSum_11 rfl rfl ?_
    refine g_getf dX1_fillSum_12 fX1_26 (xW_at (by have := h.1; omega) h.2.1) rfl ?_
    refine g_iload_n dX1_fillSum_15 rfl rfl ?_
    refine g_aload_n dX1_fillSum_16 rfl rfl ?_
    refine g_iload_n dX1_fillSum_17 rfl rfl ?_
    refine g_V1r (CX1_at h1 (by omega)) kX1_fillSum_35 dX1_fillSum_18 (xW_at (by have := h1.1; omega) h1.2.1) rfl ⟨rfl, rfl⟩ (Nat.le_of_ble_eq_true rfl) ⟨(Nat.le_of_ble_eq_true rfl), (Nat.le_of_ble_eq_true rfl)⟩ ?_
    rw [putC_ne (show i1 + 1 ≠ i + 1 by omega)]
    refine g_aload_n dX1_fillSum_21 rfl rfl ?_
    refine g_iload_n dX1_fillSum_22 rfl rfl ?_
    refine g_V1r (CX1_at h2 (by omega)) kX1_fillSum_35 dX1_fillSum_23 (xW_at (by have := h2.1; omega) h2.2.1) rfl ⟨rfl, rfl⟩ (Nat.le_of_ble_eq_true rfl) ⟨(Nat.le_of_ble_eq_true rfl), (Nat.le_of_ble_eq_true rfl)⟩ ?_
    rw [putC_ne (show i2 + 1 ≠ i + 1 by omega)]
    refine g_iadd dX1_fillSum_26 ?_
    refine g_aload_n dX1_fillSum_27 rfl rfl ?_
    refine g_getf dX1_fillSum_28 fX1_13 (xW_at (by have := h.1; omega) h.2.1) rfl ?_
    refine g_irem dX1_fillSum_31 em ?_
    refine g_iast dX1_fillSum_32 (xW_at h.1.1 h.2.2) (vin_lt (nI (6 + R)) (nI_pos' (by omega)) (nI_lt (by omega) (by omega)) (by rw [nI_toInt (by omega)]; omega)) (xSc h (nI_clamp (by omega)) hF) ?_
    refine g_iinc (v := 1) dX1_fillSum_33 (by decide) rfl (Nat.le_of_ble_eq_true rfl) rfl ?_
    refine g_goto (tgt := 2) dX1_fillSum_36 rfl ?_
    exact Go.eq rfl (show _ = _ by rw [← nI_1 j]; rfl) rfl rfl (ih (j + 1) (by omega))
set_option maxRecDepth 100000 in
set_option maxHeartbeats 4000000 in
theorem CX1_fillSum {i m R : Nat} (h : xCyc i m R) {i1 m1 R1 : Nat} (h1 : xCyc i1 m1 R1) (d1 : i1 ≠ i) {i2 m2 R2 : Nat} (h2 : xCyc i2 m2 R2) (d2 : i2 ≠ i) : Ct l mX1_fillSum [.ref i, .ref i1, .ref i2] (xW σ) (q_eq none (xW (putC σ (i + 1) (ru (σ (i + 1)) 0 (6 + R) (F_fillSum σ i1 R1 i2 R2 m))))) := by
  refine Ct.of rfl (Nat.le_of_ble_eq_true rfl) ?_
  refine g_iconst (v := 0) dX1_fillSum_0 (by decide) ?_
  refine g_istore_n dX1_fillSum_1 rfl (Nat.le_of_ble_eq_true rfl) rfl ?_
  exact Go.eq rfl rfl rfl (show xW σ = _ by rw [ru_0, putC_id]) (CX1_fillSum_loop h h1 d1 h2 d2 (6 + R) 0 (by omega))
def F_fillProduct (σ : Nat → Nat → Int32) (i1 R1 i2 R2 m : Nat) : Nat → Int32 := (fun k => jrem (cyN (σ (i1 + 1)) R1 k * cyN (σ (i2 + 1)) R2 k) (nI m))
set_option maxRecDepth 100000 in
set_option maxHeartbeats 4000000 in
theorem CX1_fillProduct_loop {i m R : Nat} (h : xCyc i m R) {i1 m1 R1 : Nat} (h1 : xCyc i1 m1 R1) (d1 : i1 ≠ i) {i2 m2 R2 : Nat} (h2 : xCyc i2 m2 R2) (d2 : i2 ≠ i) {n0 : Nat} : ∀ (d j : Nat), j + d = 6 + R → Go l mX1_fillProduct n0 (q_eq none (xW (putC σ (i + 1) (ru (σ (i + 1)) 0 (6 + R) (F_fillProduct σ i1 R1 i2 R2 m))))) (0, 0) 2 [some (.ref i), some (.ref i1), some (.ref i2), some (.int (nI j))] [] (xW (putC σ (i + 1) (ru (σ (i + 1)) 0 j (F_fillProduct σ i1 R1 i2 R2 m)))) := by
  intro d
  induction d with
  | zero =>
    intro j hj
    have en : Int32.ofNat (6 + R) = nI (6 + R) := rfl
    have hR := h.1
    have e1 : j = 6 + R := by omega
    subst e1
    refine g_iload_n dX1_fillProduct_2 rfl rfl ?_
    refine g_aload_n dX1_fillProduct_3 rfl rfl ?_
    refine g_getf dX1_fillProduct_4 fX1_26 (xW_at (by have := h.1; omega) h.2.1) rfl ?_
    refine g_alen dX1_fillProduct_7 (xW_at h.1.1 h.2.2) ?_
    refine g_icmp_ge (tgt := 39) dX1_fillProduct_8 rfl (fun c_8 => ?_) (fun c_8 => by exact absurd (nI_le (by omega) (by omega)) c_8)
    exact g_vret dX1_fillProduct_39 rfl rfl ⟨rfl, rfl⟩
  | succ d ih =>
    intro j hj
    have en : Int32.ofNat (6 + R) = nI (6 + R) := rfl
    have hR := h.1
    have em : ¬ nI m = 0 := nI_ne0 (by omega) (by omega)
    have hF : jrem (cyN (σ (i1 + 1)) R1 j * cyN (σ (i2 + 1)) R2 j) (nI m) = (F_fillProduct σ i1 R1 i2 R2 m) j := rfl
    refine g_iload_n dX1_fillProduct_2 rfl rfl ?_
    refine g_aload_n dX1_fillProduct_3 rfl rfl ?_
    refine g_getf dX1_fillProduct_4 fX1_26 (xW_at (by have := h.1; omega) h.2.1) rfl ?_
    refine g_alen dX1_fillProduct_7 (xW_at h.1.1 h.2.2) ?_
    refine g_icmp_ge (tgt := 39) dX1_fillProduct_8 rfl (fun c_8 => by exact absurd c_8 (nI_ge (by omega) (by omega))) (fun c_8 => ?_)
    refine g_aload_n dX1_fillProduct_11 rfl rfl ?_
    refine g_getf dX1_fillProduct_12 fX1_26 (xW_at (by have := h.1; omega) h.2.1) rfl ?_
    refine g_iload_n dX1_fillProduct_15 rfl rfl ?_
    refine g_aload_n dX1_fillProduct_16 rfl rfl ?_
    refine g_iload_n dX1_fillProduct_17 rfl rfl ?_
    refine g_V1r (CX1_at h1 (by omega)) kX1_fillProduct_35 dX1_fillProduct_18 (xW_at (by have := h1.1; omega) h1.2.1) rfl ⟨rfl, rfl⟩ (Nat.le_of_ble_eq_true rfl) ⟨(Nat.le_of_ble_eq_true rfl), (Nat.le_of_ble_eq_true rfl)⟩ ?_
    rw [putC_ne (show i1 + 1 ≠ i + 1 by omega)]
    refine g_aload_n dX1_fillProduct_21 rfl rfl ?_
    refine g_iload_n dX1_fillProduct_22 rfl rfl ?_
    refine g_V1r (CX1_at h2 (by omega)) kX1_fillProduct_35 dX1_fillProduct_23 (xW_at (by have := h2.1; omega) h2.2.1) rfl ⟨rfl, rfl⟩ (Nat.le_of_ble_eq_true rfl) ⟨(Nat.le_of_ble_eq_true rfl), (Nat.le_of_ble_eq_true rfl)⟩ ?_
    rw [putC_ne (show i2 + 1 ≠ i + 1 by omega)]
    refine g_imul dX1_fillProduct_26 ?_
    refine g_aload_n dX1_fillProduct_27 rfl rfl ?_
    refine g_getf dX1_fillProduct_28 fX1_13 (xW_at (by have := h.1; omega) h.2.1) rfl ?_
    refine g_irem dX1_fillProduct_31 em ?_
    refine g_iast dX1_fillProduct_32 (xW_at h.1.1 h.2.2) (vin_lt (nI (6 + R)) (nI_pos' (by omega)) (nI_lt (by omega) (by omega)) (by rw [nI_toInt (by omega)]; omega)) (xSc h (nI_clamp (by omega)) hF) ?_
    refine g_iinc (v := 1) dX1_fillProduct_33 (by decide) rfl (Nat.le_of_ble_eq_true rfl) rfl ?_
    refine g_goto (tgt := 2) dX1_fillProduct_36 rfl ?_
    exact Go.eq rfl (show _ = _ by rw [← nI_1 j]; rfl) rfl rfl (ih (j + 1) (by omega))
set_option maxRecDepth 100000 in
set_option maxHeartbeats 4000000 in
theorem CX1_fillProduct {i m R : Nat} (h : xCyc i m R) {i1 m1 R1 : Nat} (h1 : xCyc i1 m1 R1) (d1 : i1 ≠ i) {i2 m2 R2 : Nat} (h2 : xCyc i2 m2 R2) (d2 : i2 ≠ i) : Ct l mX1_fillProduct [.ref i, .ref i1, .ref i2] (xW σ) (q_eq none (xW (putC σ (i + 1) (ru (σ (i + 1)) 0 (6 + R) (F_fillProduct σ i1 R1 i2 R2 m))))) := by
  refine Ct.of rfl (Nat.le_of_ble_eq_true rfl) ?_
  refine g_iconst (v := 0) dX1_fillProduct_0 (by decide) ?_
  refine g_istore_n dX1_fillProduct_1 rfl (Nat.le_of_ble_eq_true rfl) rfl ?_
  exact Go.eq rfl rfl rfl (show xW σ = _ by rw [ru_0, putC_id]) (CX1_fillProduct_loop h h1 d1 h2 d2 (6 + R) 0 (by omega))
def F_fillEach (σ : Nat → Nat → Int32) (i1 R1 N S : Nat) : Nat → Int32 := fun k => cyN (σ (i1 + 1)) R1 (N * k + S)
set_option maxRecDepth 100000 in
set_option maxHeartbeats 4000000 in
theorem CX1_fillEach_loop {i m R : Nat} (h : xCyc i m R) {i1 m1 R1 : Nat} (h1 : xCyc i1 m1 R1) (d1 : i1 ≠ i) {N S n0 : Nat} (hN : N ≤ 5) (hS : S ≤ 9) : ∀ (d j : Nat), j + d = 6 + R → Go l mX1_fillEach n0 (q_eq none (xW (putC σ (i + 1) (ru (σ (i + 1)) 0 (6 + R) (F_fillEach σ i1 R1 N S))))) (0, 0) 3 [some (.ref i), some (.ref i1), some (.int (nI N)), some (.int (nI S)), some (.int (nI j))] [] (xW (putC σ (i + 1) (ru (σ (i + 1)) 0 j (F_fillEach σ i1 R1 N S)))) := by
  intro d
  induction d with
  | zero =>
    intro j hj
    have en : Int32.ofNat (6 + R) = nI (6 + R) := rfl
    have hR := h.1
    have e1 : j = 6 + R := by omega
    subst e1
    refine g_iload dX1_fillEach_3 rfl ?_
    refine g_aload_n dX1_fillEach_5 rfl rfl ?_
    refine g_getf dX1_fillEach_6 fX1_26 (xW_at (by have := h.1; omega) h.2.1) rfl ?_
    refine g_alen dX1_fillEach_9 (xW_at h.1.1 h.2.2) ?_
    refine g_icmp_ge (tgt := 36) dX1_fillEach_10 rfl (fun c_10 => ?_) (fun c_10 => by exact absurd (nI_le (by omega) (by omega)) c_10)
    exact g_vret dX1_fillEach_36 rfl rfl ⟨rfl, rfl⟩
  | succ d ih =>
    intro j hj
    have en : Int32.ofNat (6 + R) = nI (6 + R) := rfl
    have hR := h.1
    have em : ¬ nI m = 0 := nI_ne0 (by omega) (by omega)
    have hF : cyN (σ (i1 + 1)) R1 (N * j + S) = (F_fillEach σ i1 R1 N S) j := rfl
    have hb : N * j ≤ 5 * 342 := Nat.mul_le_mul hN (by omega)
    have e2 : nI N * nI j + nI S = nI (N * j + S) := by rw [nI_mul, nI_add]
    refine g_iload dX1_fillEach_3 rfl ?_
    refine g_aload_n dX1_fillEach_5 rfl rfl ?_
    refine g_getf dX1_fillEach_6 fX1_26 (xW_at (by have := h.1; omega) h.2.1) rfl ?_
    refine g_alen dX1_fillEach_9 (xW_at h.1.1 h.2.2) ?_
    refine g_icmp_ge (tgt := 36) dX1_fillEach_10 rfl (fun c_10 => by exact absurd c_10 (nI_ge (by omega) (by omega))) (fun c_10 => ?_)
    refine g_aload_n dX1_fillEach_13 rfl rfl ?_
    refine g_getf dX1_fillEach_14 fX1_26 (xW_at (by have := h.1; omega) h.2.1) rfl ?_
    refine g_iload dX1_fillEach_17 rfl ?_
    refine g_aload_n dX1_fillEach_19 rfl rfl ?_
    refine g_iload_n dX1_fillEach_20 rfl rfl ?_
    refine g_iload dX1_fillEach_21 rfl ?_
    refine g_imul dX1_fillEach_23 ?_
    refine g_iload_n dX1_fillEach_24 rfl rfl ?_
    refine g_iadd dX1_fillEach_25 ?_
    rw [e2]
    refine g_V1r (CX1_at h1 (k := N * j + S) (by omega)) kX1_fillEach_35 dX1_fillEach_26 (xW_at (by have := h1.1; omega) h1.2.1) rfl ⟨rfl, rfl⟩ (Nat.le_of_ble_eq_true rfl) ⟨(Nat.le_of_ble_eq_true rfl), (Nat.le_of_ble_eq_true rfl)⟩ ?_
    rw [putC_ne (show i1 + 1 ≠ i + 1 by omega)]
    refine g_iast dX1_fillEach_29 (xW_at h.1.1 h.2.2) (vin_lt (nI (6 + R)) (nI_pos' (by omega)) (nI_lt (by omega) (by omega)) (by rw [nI_toInt (by omega)]; omega)) (xSc h (nI_clamp (by omega)) hF) ?_
    refine g_iinc (v := 1) dX1_fillEach_30 (by decide) rfl (Nat.le_of_ble_eq_true rfl) rfl ?_
    refine g_goto (tgt := 3) dX1_fillEach_33 rfl ?_
    exact Go.eq rfl (show _ = _ by rw [← nI_1 j]; rfl) rfl rfl (ih (j + 1) (by omega))
set_option maxRecDepth 100000 in
set_option maxHeartbeats 4000000 in
theorem CX1_fillEach {i m R : Nat} (h : xCyc i m R) {i1 m1 R1 : Nat} (h1 : xCyc i1 m1 R1) (d1 : i1 ≠ i) {N S : Nat} (hN : N ≤ 5) (hS : S ≤ 9) : Ct l mX1_fillEach [.ref i, .ref i1, .int (nI N), .int (nI S)] (xW σ) (q_eq none (xW (putC σ (i + 1) (ru (σ (i + 1)) 0 (6 + R) (F_fillEach σ i1 R1 N S))))) := by
  refine Ct.of rfl (Nat.le_of_ble_eq_true rfl) ?_
  refine g_iconst (v := 0) dX1_fillEach_0 (by decide) ?_
  refine g_istore dX1_fillEach_1 (Nat.le_of_ble_eq_true rfl) rfl ?_
  exact Go.eq rfl rfl rfl (show xW σ = _ by rw [ru_0, putC_id]) (CX1_fillEach_loop h h1 d1 hN hS (6 + R) 0 (by omega))
def F_fillStep (σ : Nat → Nat → Int32) (i1 R1 m : Nat) : Nat → Int32 := fun k => jfm (cyN (σ (i1 + 1)) R1 (k + 1) - cyN (σ (i1 + 1)) R1 k) (nI m)
set_option maxRecDepth 100000 in
set_option maxHeartbeats 4000000 in
theorem CX1_fillStep_loop {i m R : Nat} (h : xCyc i m R) {i1 m1 R1 : Nat} (h1 : xCyc i1 m1 R1) (d1 : i1 ≠ i) {n0 : Nat} : ∀ (d j : Nat), j + d = 6 + R → Go l mX1_fillStep n0 (q_eq none (xW (putC σ (i + 1) (ru (σ (i + 1)) 0 (6 + R) (F_fillStep σ i1 R1 m))))) (0, 0) 2 [some (.ref i), some (.ref i1), some (.int (nI j))] [] (xW (putC σ (i + 1) (ru (σ (i + 1)) 0 j (F_fillStep σ i1 R1 m)))) := by
  intro d
  induction d with
  | zero =>
    intro j hj
    have en : Int32.ofNat (6 + R) = nI (6 + R) := rfl
    have hR := h.1
    have e1 : j = 6 + R := by omega
    subst e1
    refine g_iload_n dX1_fillStep_2 rfl rfl ?_
    refine g_aload_n dX1_fillStep_3 rfl rfl ?_
    refine g_getf dX1_fillStep_4 fX1_26 (xW_at (by have := h.1; omega) h.2.1) rfl ?_
    refine g_alen dX1_fillStep_7 (xW_at h.1.1 h.2.2) ?_
    refine g_icmp_ge (tgt := 43) dX1_fillStep_8 rfl (fun c_8 => ?_) (fun c_8 => by exact absurd (nI_le (by omega) (by omega)) c_8)
    exact g_vret dX1_fillStep_43 rfl rfl ⟨rfl, rfl⟩
  | succ d ih =>
    intro j hj
    have en : Int32.ofNat (6 + R) = nI (6 + R) := rfl
    have hR := h.1
    have em : ¬ nI m = 0 := nI_ne0 (by omega) (by omega)
    have hF : jfm (cyN (σ (i1 + 1)) R1 (j + 1) - cyN (σ (i1 + 1)) R1 j) (nI m) = (F_fillStep σ i1 R1 m) j := rfl
    refine g_iload_n dX1_fillStep_2 rfl rfl ?_
    refine g_aload_n dX1_fillStep_3 rfl rfl ?_
    refine g_getf dX1_fillStep_4 fX1_26 (xW_at (by have := h.1; omega) h.2.1) rfl ?_
    refine g_alen dX1_fillStep_7 (xW_at h.1.1 h.2.2) ?_
    refine g_icmp_ge (tgt := 43) dX1_fillStep_8 rfl (fun c_8 => by exact absurd c_8 (nI_ge (by omega) (by omega))) (fun c_8 => ?_)
    refine g_aload_n dX1_fillStep_11 rfl rfl ?_
    refine g_getf dX1_fillStep_12 fX1_26 (xW_at (by have := h.1; omega) h.2.1) rfl ?_
    refine g_iload_n dX1_fillStep_15 rfl rfl ?_
    refine g_aload_n dX1_fillStep_16 rfl rfl ?_
    refine g_iload_n dX1_fillStep_17 rfl rfl ?_
    refine g_iconst (v := 1) dX1_fillStep_18 (by decide) ?_
    refine g_iadd dX1_fillStep_19 ?_
    rw [nI_1 j]
    refine g_V1r (CX1_at h1 (k := j + 1) (by omega)) kX1_fillStep_35 dX1_fillStep_20 (xW_at (by have := h1.1; omega) h1.2.1) rfl ⟨rfl, rfl⟩ (Nat.le_of_ble_eq_true rfl) ⟨(Nat.le_of_ble_eq_true rfl), (Nat.le_of_ble_eq_true rfl)⟩ ?_
    rw [putC_ne (show i1 + 1 ≠ i + 1 by omega)]
    refine g_aload_n dX1_fillStep_23 rfl rfl ?_
    refine g_iload_n dX1_fillStep_24 rfl rfl ?_
    refine g_V1r (CX1_at h1 (by omega)) kX1_fillStep_35 dX1_fillStep_25 (xW_at (by have := h1.1; omega) h1.2.1) rfl ⟨rfl, rfl⟩ (Nat.le_of_ble_eq_true rfl) ⟨(Nat.le_of_ble_eq_true rfl), (Nat.le_of_ble_eq_true rfl)⟩ ?_
    rw [putC_ne (show i1 + 1 ≠ i + 1 by omega)]
    refine g_isub dX1_fillStep_28 ?_
    refine g_aload_n dX1_fillStep_29 rfl rfl ?_
    refine g_getf dX1_fillStep_30 fX1_13 (xW_at (by have := h.1; omega) h.2.1) rfl ?_
    refine g_S2r (CJ9_floorMod em) kX1_fillStep_29 dX1_fillStep_33 ⟨rfl, rfl⟩ (Nat.le_of_ble_eq_true rfl) ⟨(Nat.le_of_ble_eq_true rfl), (Nat.le_of_ble_eq_true rfl)⟩ ?_
    refine g_iast dX1_fillStep_36 (xW_at h.1.1 h.2.2) (vin_lt (nI (6 + R)) (nI_pos' (by omega)) (nI_lt (by omega) (by omega)) (by rw [nI_toInt (by omega)]; omega)) (xSc h (nI_clamp (by omega)) hF) ?_
    refine g_iinc (v := 1) dX1_fillStep_37 (by decide) rfl (Nat.le_of_ble_eq_true rfl) rfl ?_
    refine g_goto (tgt := 2) dX1_fillStep_40 rfl ?_
    exact Go.eq rfl (show _ = _ by rw [← nI_1 j]; rfl) rfl rfl (ih (j + 1) (by omega))
set_option maxRecDepth 100000 in
set_option maxHeartbeats 4000000 in
theorem CX1_fillStep {i m R : Nat} (h : xCyc i m R) {i1 m1 R1 : Nat} (h1 : xCyc i1 m1 R1) (d1 : i1 ≠ i) : Ct l mX1_fillStep [.ref i, .ref i1] (xW σ) (q_eq none (xW (putC σ (i + 1) (ru (σ (i + 1)) 0 (6 + R) (F_fillStep σ i1 R1 m))))) := by
  refine Ct.of rfl (Nat.le_of_ble_eq_true rfl) ?_
  refine g_iconst (v := 0) dX1_fillStep_0 (by decide) ?_
  refine g_istore_n dX1_fillStep_1 rfl (Nat.le_of_ble_eq_true rfl) rfl ?_
  exact Go.eq rfl rfl rfl (show xW σ = _ by rw [ru_0, putC_id]) (CX1_fillStep_loop h h1 d1 (6 + R) 0 (by omega))
set_option maxRecDepth 100000 in
set_option maxHeartbeats 4000000 in
theorem CX1_fillTold_loop {i m R : Nat} (h : xCyc i m R) {c dd e f : Int32} {n0 : Nat} : ∀ (d j : Nat), 2 ≤ j → j + d = 6 + R → Go l mX1_fillTold n0 (q_eq none (xW (putC σ (i + 1) (ru (σ (i + 1)) 0 (6 + R) (ct (nI m) c dd e f))))) (0, 0) 32 [some (.ref i), some (.int c), some (.int dd), some (.int e), some (.int f), some (.int (nI j))] [] (xW (putC σ (i + 1) (ru (σ (i + 1)) 0 j (ct (nI m) c dd e f)))) := by
  intro d
  induction d with
  | zero =>
    intro j h2 hj
    have en : Int32.ofNat (6 + R) = nI (6 + R) := rfl
    have hR := h.1
    have e1 : j = 6 + R := by omega
    subst e1
    refine g_iload dX1_fillTold_32 rfl ?_
    refine g_aload_n dX1_fillTold_34 rfl rfl ?_
    refine g_getf dX1_fillTold_35 fX1_26 (xW_at (by have := h.1; omega) h.2.1) rfl ?_
    refine g_alen dX1_fillTold_38 (xW_at h.1.1 h.2.2) ?_
    refine g_icmp_ge (tgt := 85) dX1_fillTold_39 rfl (fun c_39 => ?_) (fun c_39 => by exact absurd (nI_le (by omega) (by omega)) c_39)
    exact g_vret dX1_fillTold_85 rfl rfl ⟨rfl, rfl⟩
  | succ d ih =>
    intro j h2 hj
    have en : Int32.ofNat (6 + R) = nI (6 + R) := rfl
    have hR := h.1
    have em : ¬ nI m = 0 := nI_ne0 (by omega) (by omega)
    refine g_iload dX1_fillTold_32 rfl ?_
    refine g_aload_n dX1_fillTold_34 rfl rfl ?_
    refine g_getf dX1_fillTold_35 fX1_26 (xW_at (by have := h.1; omega) h.2.1) rfl ?_
    refine g_alen dX1_fillTold_38 (xW_at h.1.1 h.2.2) ?_
    refine g_icmp_ge (tgt := 85) dX1_fillTold_39 rfl (fun c_39 => by exact absurd c_39 (nI_ge (by omega) (by omega))) (fun c_39 => ?_)
    refine g_aload_n dX1_fillTold_42 rfl rfl ?_
    refine g_getf dX1_fillTold_43 fX1_26 (xW_at (by have := h.1; omega) h.2.1) rfl ?_
    refine g_iload dX1_fillTold_46 rfl ?_
    refine g_iload_n dX1_fillTold_48 rfl rfl ?_
    refine g_aload_n dX1_fillTold_49 rfl rfl ?_
    refine g_getf dX1_fillTold_50 fX1_26 (xW_at (by have := h.1; omega) h.2.1) rfl ?_
    refine g_iload dX1_fillTold_53 rfl ?_
    refine g_iconst (v := 1) dX1_fillTold_55 (by decide) ?_
    refine g_isub dX1_fillTold_56 ?_
    refine g_iald dX1_fillTold_57 (xW_at h.1.1 h.2.2) (by rw [show nI j - 1 = nI (j - 1) from nI_sub (b := 1) (by omega)]; exact (vin_lt (nI (6 + R)) (nI_pos' (by omega)) (nI_lt (by omega) (by omega)) (by rw [nI_toInt (by omega)]; omega))) ?_
    refine Go.eq rfl rfl (show _ = _ from congrArg (fun z => Value.int z :: _) (show _ = ct (nI m) c dd e f (j - 1) by
        rw [show (nI j - 1).toNatClampNeg = 0 + (j - 1) by rw [show nI j - 1 = nI (j - 1) from nI_sub (b := 1) (by omega), nI_clamp (by omega)]; omega]
        rw [putC_eq]; exact ru_in (by omega))) rfl ?_
    refine g_imul dX1_fillTold_58 ?_
    refine g_iload_n dX1_fillTold_59 rfl rfl ?_
    refine g_aload_n dX1_fillTold_60 rfl rfl ?_
    refine g_getf dX1_fillTold_61 fX1_26 (xW_at (by have := h.1; omega) h.2.1) rfl ?_
    refine g_iload dX1_fillTold_64 rfl ?_
    refine g_iconst (v := 2) dX1_fillTold_66 (by decide) ?_
    refine g_isub dX1_fillTold_67 ?_
    refine g_iald dX1_fillTold_68 (xW_at h.1.1 h.2.2) (by rw [show nI j - 2 = nI (j - 2) from nI_sub (b := 2) (by omega)]; exact (vin_lt (nI (6 + R)) (nI_pos' (by omega)) (nI_lt (by omega) (by omega)) (by rw [nI_toInt (by omega)]; omega))) ?_
    refine Go.eq rfl rfl (show _ = _ from congrArg (fun z => Value.int z :: _) (show _ = ct (nI m) c dd e f (j - 2) by
        rw [show (nI j - 2).toNatClampNeg = 0 + (j - 2) by rw [show nI j - 2 = nI (j - 2) from nI_sub (b := 2) (by omega), nI_clamp (by omega)]; omega]
        rw [putC_eq]; exact ru_in (by omega))) rfl ?_
    refine g_imul dX1_fillTold_69 ?_
    refine g_iadd dX1_fillTold_70 ?_
    refine g_aload_n dX1_fillTold_71 rfl rfl ?_
    refine g_getf dX1_fillTold_72 fX1_13 (xW_at (by have := h.1; omega) h.2.1) rfl ?_
    refine g_S2r (CJ9_floorMod em) kX1_fillTold_29 dX1_fillTold_75 ⟨rfl, rfl⟩ (Nat.le_of_ble_eq_true rfl) ⟨(Nat.le_of_ble_eq_true rfl), (Nat.le_of_ble_eq_true rfl)⟩ ?_
    refine g_iast dX1_fillTold_78 (xW_at h.1.1 h.2.2) (vin_lt (nI (6 + R)) (nI_pos' (by omega)) (nI_lt (by omega) (by omega)) (by rw [nI_toInt (by omega)]; omega)) (xSc h (nI_clamp (by omega)) (by obtain ⟨q, rfl⟩ : ∃ q, j = q + 2 := ⟨j - 2, by omega⟩; exact (ct_2 q).symm)) ?_
    refine g_iinc (v := 1) dX1_fillTold_79 (by decide) rfl (Nat.le_of_ble_eq_true rfl) rfl ?_
    refine g_goto (tgt := 32) dX1_fillTold_82 rfl ?_
    exact Go.eq rfl (show _ = _ by rw [← nI_1 j]; rfl) rfl rfl (ih (j + 1) (by omega) (by omega))
set_option maxRecDepth 100000 in
set_option maxHeartbeats 4000000 in
theorem CX1_fillTold {i m R : Nat} (h : xCyc i m R) {c dd e f : Int32} : Ct l mX1_fillTold [.ref i, .int c, .int dd, .int e, .int f] (xW σ) (q_eq none (xW (putC σ (i + 1) (ru (σ (i + 1)) 0 (6 + R) (ct (nI m) c dd e f))))) := by
  have hR := h.1
  have em : ¬ nI m = 0 := nI_ne0 (by omega) (by omega)
  refine Ct.of rfl (Nat.le_of_ble_eq_true rfl) ?_
  refine Go.eq rfl rfl rfl (show xW σ = xW (putC σ (i + 1) (ru (σ (i + 1)) 0 0 (ct (nI m) c dd e f))) by rw [ru_0, putC_id]) ?_
  refine g_aload_n dX1_fillTold_0 rfl rfl ?_
  refine g_getf dX1_fillTold_1 fX1_26 (xW_at (by have := h.1; omega) h.2.1) rfl ?_
  refine g_iconst (v := 0) dX1_fillTold_4 (by decide) ?_
  refine g_iload_n dX1_fillTold_5 rfl rfl ?_
  refine g_aload_n dX1_fillTold_6 rfl rfl ?_
  refine g_getf dX1_fillTold_7 fX1_13 (xW_at (by have := h.1; omega) h.2.1) rfl ?_
  refine g_S2r (CJ9_floorMod em) kX1_fillTold_29 dX1_fillTold_10 ⟨rfl, rfl⟩ (Nat.le_of_ble_eq_true rfl) ⟨(Nat.le_of_ble_eq_true rfl), (Nat.le_of_ble_eq_true rfl)⟩ ?_
  refine g_iast dX1_fillTold_13 (xW_at h.1.1 h.2.2) (vin_lt (nI (6 + R)) (by decide) (nI_lt (a := 0) (by omega) (by omega)) (by rw [nI_toInt (by omega)]; omega)) (xSc h (j := 0) rfl rfl) ?_
  refine g_aload_n dX1_fillTold_14 rfl rfl ?_
  refine g_getf dX1_fillTold_15 fX1_26 (xW_at (by have := h.1; omega) h.2.1) rfl ?_
  refine g_iconst (v := 1) dX1_fillTold_18 (by decide) ?_
  refine g_iload dX1_fillTold_19 rfl ?_
  refine g_aload_n dX1_fillTold_21 rfl rfl ?_
  refine g_getf dX1_fillTold_22 fX1_13 (xW_at (by have := h.1; omega) h.2.1) rfl ?_
  refine g_S2r (CJ9_floorMod em) kX1_fillTold_29 dX1_fillTold_25 ⟨rfl, rfl⟩ (Nat.le_of_ble_eq_true rfl) ⟨(Nat.le_of_ble_eq_true rfl), (Nat.le_of_ble_eq_true rfl)⟩ ?_
  refine g_iast dX1_fillTold_28 (xW_at h.1.1 h.2.2) (vin_lt (nI (6 + R)) (by decide) (nI_lt (a := 1) (by omega) (by omega)) (by rw [nI_toInt (by omega)]; omega)) (xSc h (j := 1) rfl rfl) ?_
  refine g_iconst (v := 2) dX1_fillTold_29 (by decide) ?_
  refine g_istore dX1_fillTold_30 (Nat.le_of_ble_eq_true rfl) rfl ?_
  exact CX1_fillTold_loop h (4 + R) 2 (by omega) (by omega)
end
