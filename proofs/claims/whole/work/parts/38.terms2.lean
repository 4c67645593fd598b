/-- row q of the terms' table is as the ledger says -/
def tmRow (K N : Nat → Int32) (sz : Int32) (V : Nat → Int32) (q k : Nat) : Int32 :=
  if ldKind K sz (nI q) = 0 then tl (ldNum N sz (nI q) 0) (ldNum N sz (nI q) 1) (ldNum N sz (nI q) 2) (ldNum N sz (nI q) 3) k
  else mAt V (ldKind K sz (nI q)) (ldNum N sz (nI q) 0) (ldNum N sz (nI q) 1) (ldNum N sz (nI q) 2) (nI k)
def tmEq (K N : Nat → Int32) (sz : Int32) (V : Nat → Int32) (q : Nat) : Prop := ∀ k, k ≤ 200 → V (201 * q + k) = tmRow K N sz V q k
/-- the parts of a row come before it -/
def ldWf (K N : Nat → Int32) (sz : Int32) : Prop := ∀ q, q < 8 → ldKind K sz (nI q) ≠ 0 → (∃ a, a < q ∧ ldNum N sz (nI q) 0 = nI a) ∧ (ldKind K sz (nI q) ≠ 3 → ldKind K sz (nI q) ≠ 4 → ∃ a, a < q ∧ ldNum N sz (nI q) 1 = nI a)
theorem vAt_ru {V F : Nat → Int32} {n j a : Nat} {k : Int32} (h : a ≠ n) (ha : a < 8) (hj : j ≤ 201) : vAt (ru V (201 * n) j F) (nI a) k = vAt V (nI a) k := by
  unfold vAt
  split
  · rename_i hh
    have e : k = nI k.toNatClampNeg := tNC hh.2.2.1
    have hk : k.toNatClampNeg < 201 := tNC_lt (n := 201) hh.2.2.1 (by have := hh.2.2.2; show k < 201; grind) (by decide)
    generalize k.toNatClampNeg = q at e hk
    subst e
    have e2 : (nI a * 201 + nI q).toNatClampNeg = 201 * a + q := by
      rw [show (201 : Int32) = nI 201 from rfl, nI_mul, nI_add, nI_clamp (by omega)]; omega
    rw [e2]
    exact ru_out (by omega)
  · rfl
theorem mAt_ru {V F : Nat → Int32} {n j : Nat} {kd a b c k : Int32} (ha : ∃ q, q < n ∧ a = nI q) (hb : kd ≠ 3 → kd ≠ 4 → ∃ q, q < n ∧ b = nI q) (hn : n ≤ 8) (hj : j ≤ 201) : mAt (ru V (201 * n) j F) kd a b c k = mAt V kd a b c k := by
  obtain ⟨a, h1, rfl⟩ := ha
  unfold mAt
  by_cases e3 : kd = 3
  · simp only [if_pos e3]
    exact vAt_ru (by omega) (by omega) hj
  · by_cases e4 : kd = 4
    · simp only [if_neg e3, if_pos e4]
      rw [vAt_ru (by omega) (by omega) hj, vAt_ru (by omega) (by omega) hj]
    · obtain ⟨b, h2, rfl⟩ := hb e3 e4
      simp only [if_neg e3, if_neg e4]
      rw [vAt_ru (by omega) (by omega) hj, vAt_ru (by omega) (by omega) hj]
section
variable {l : Launch} {w : q_Wd} {σ : Nat → Nat → Int32}
set_option maxRecDepth 100000 in
set_option maxHeartbeats 4000000 in
theorem CX9_fill_loop {n n0 : Nat} (hn : n < 8) {kd a b c : Int32} (ha : ∃ q, q < n ∧ a = nI q) (hb : kd ≠ 3 → kd ≠ 4 → ∃ q, q < n ∧ b = nI q) : ∀ (d j : Nat), j + d = 201 → Go l mX9_fill n0 (q_eq none (xW (putC σ 14 (ru (σ 14) (201 * n) 201 (fun k => mAt (σ 14) kd a b c (nI k)))))) (0, 0) 83 [some (.ref 13), some (.ref 1), some (.int (nI n)), some (.int a), some (.int b), some (.int c), some (.int kd), some (.int (nI (201 * n))), some (.int (nI j))] [] (xW (putC σ 14 (ru (σ 14) (201 * n) j (fun k => mAt (σ 14) kd a b c (nI k))))) := by
  intro d
  induction d with
  | zero =>
    intro j hj
    have e1 : j = 201 := by omega
    subst e1
    refine g_iload dX9_fill_83 rfl ?_
    refine g_sipush (v := 200) dX9_fill_85 (by decide) ?_
    refine g_icmp_gt (tgt := 120) dX9_fill_88 rfl (fun c_88 => ?_) (fun c_88 => by exfalso; revert c_88; decide)
    exact g_vret dX9_fill_120 rfl rfl ⟨rfl, rfl⟩
  | succ d ih =>
    intro j hj
    obtain ⟨b0, b1⟩ := nI_bd (n := 201 * n + j) (m := 1608) (by omega) (by decide)
    replace b1 : nI (201 * n + j) < 1608 := b1
    have b2 : nI (201 * n) + nI j = nI (201 * n + j) := nI_add _ _
    have b3 : nI j < 201 := nI_lt (b := 201) (by omega) (by decide)
    refine g_iload dX9_fill_83 rfl ?_
    refine g_sipush (v := 200) dX9_fill_85 (by decide) ?_
    refine g_icmp_gt (tgt := 120) dX9_fill_88 rfl (fun c_88 => by exfalso; grind) (fun c_88 => ?_)
    refine g_aload_n dX9_fill_91 rfl rfl ?_
    refine g_getf dX9_fill_92 fX9_11 (xW_at (by decide) xC13) rfl ?_
    refine g_iload dX9_fill_95 rfl ?_
    refine g_iload dX9_fill_97 rfl ?_
    refine g_iadd dX9_fill_99 ?_
    refine g_aload_n dX9_fill_100 rfl rfl ?_
    refine g_iload dX9_fill_101 rfl ?_
    refine g_iload_n dX9_fill_103 rfl rfl ?_
    refine g_iload dX9_fill_104 rfl ?_
    refine g_iload dX9_fill_106 rfl ?_
    refine g_iload dX9_fill_108 rfl ?_
    refine g_V5r CX9_madeAt kX9_fill_46 dX9_fill_110 (xW_at (by decide) xC13) rfl ⟨rfl, rfl⟩ (Nat.le_of_ble_eq_true rfl) ⟨(Nat.le_of_ble_eq_true rfl), (Nat.le_of_ble_eq_true rfl)⟩ ?_
    rw [show putC σ 14 (ru (σ 14) (201 * n) j (fun k => mAt (σ 14) kd a b c (nI k))) 14 = ru (σ 14) (201 * n) j (fun k => mAt (σ 14) kd a b c (nI k)) from rfl, mAt_ru ha hb (by omega) (by omega)]
    refine g_iast dX9_fill_113 (xW_at (by decide) xC14) (vin_lt 1608 (by grind) (by grind) (by decide)) (xS14 (by rw [nI_add, nI_clamp (by omega)]) rfl) ?_
    refine g_iinc (v := 1) dX9_fill_114 (by decide) rfl (Nat.le_of_ble_eq_true rfl) rfl ?_
    refine g_goto (tgt := 83) dX9_fill_117 rfl ?_
    exact Go.eq rfl (show _ = _ by rw [← nI_1 j]; rfl) rfl rfl (ih (j + 1) (by omega))
set_option maxRecDepth 100000 in
set_option maxHeartbeats 4000000 in
theorem CX9_fill {n : Nat} (hn : n < 8) (hwf : ldWf (σ 2) (σ 3) (σ 1 2)) : Ct l mX9_fill [.ref 13, .ref 1, .int (nI n)] (xW σ) (q_eq none (xW (putC σ 14 (ru (σ 14) (201 * n) 201 (tmRow (σ 2) (σ 3) (σ 1 2) (σ 14) n))))) := by
  obtain ⟨b0, b1⟩ := nI_bd (n := 201 * n) (m := 1408) (by omega) (by decide)
  replace b1 : nI (201 * n) < 1408 := b1
  have e201 : nI n * 201 = nI (201 * n) := by rw [show (201 : Int32) = nI 201 from rfl, nI_mul, Nat.mul_comm]
  have e1608 : Int32.ofNat 1608 = 1608 := rfl
  refine Ct.of rfl (Nat.le_of_ble_eq_true rfl) ?_
  refine g_aload_n dX9_fill_0 rfl rfl ?_
  refine g_iload_n dX9_fill_1 rfl rfl ?_
  refine g_iconst (v := 0) dX9_fill_2 (by decide) ?_
  refine g_V2r (CX3_numberOf xLed1) kX9_fill_33 dX9_fill_3 (xW_at xLed1.1.1 xLed1.2.1) rfl ⟨rfl, rfl⟩ (Nat.le_of_ble_eq_true rfl) ⟨(Nat.le_of_ble_eq_true rfl), (Nat.le_of_ble_eq_true rfl)⟩ ?_
  refine g_istore_n dX9_fill_6 rfl (Nat.le_of_ble_eq_true rfl) rfl ?_
  refine g_aload_n dX9_fill_7 rfl rfl ?_
  refine g_iload_n dX9_fill_8 rfl rfl ?_
  refine g_iconst (v := 1) dX9_fill_9 (by decide) ?_
  refine g_V2r (CX3_numberOf xLed1) kX9_fill_33 dX9_fill_10 (xW_at xLed1.1.1 xLed1.2.1) rfl ⟨rfl, rfl⟩ (Nat.le_of_ble_eq_true rfl) ⟨(Nat.le_of_ble_eq_true rfl), (Nat.le_of_ble_eq_true rfl)⟩ ?_
  refine g_istore dX9_fill_13 (Nat.le_of_ble_eq_true rfl) rfl ?_
  refine g_aload_n dX9_fill_15 rfl rfl ?_
  refine g_iload_n dX9_fill_16 rfl rfl ?_
  refine g_iconst (v := 2) dX9_fill_17 (by decide) ?_
  refine g_V2r (CX3_numberOf xLed1) kX9_fill_33 dX9_fill_18 (xW_at xLed1.1.1 xLed1.2.1) rfl ⟨rfl, rfl⟩ (Nat.le_of_ble_eq_true rfl) ⟨(Nat.le_of_ble_eq_true rfl), (Nat.le_of_ble_eq_true rfl)⟩ ?_
  refine g_istore dX9_fill_21 (Nat.le_of_ble_eq_true rfl) rfl ?_
  refine g_aload_n dX9_fill_23 rfl rfl ?_
  refine g_iload_n dX9_fill_24 rfl rfl ?_
  refine g_V1r (CX3_kindOf xLed1) kX9_fill_38 dX9_fill_25 (xW_at xLed1.1.1 xLed1.2.1) rfl ⟨rfl, rfl⟩ (Nat.le_of_ble_eq_true rfl) ⟨(Nat.le_of_ble_eq_true rfl), (Nat.le_of_ble_eq_true rfl)⟩ ?_
  refine g_istore dX9_fill_28 (Nat.le_of_ble_eq_true rfl) rfl ?_
  refine g_iload_n dX9_fill_30 rfl rfl ?_
  refine g_sipush (v := 201) dX9_fill_31 (by decide) ?_
  refine g_imul dX9_fill_34 ?_
  rw [e201]
  refine g_istore dX9_fill_35 (Nat.le_of_ble_eq_true rfl) rfl ?_
  refine g_iload dX9_fill_37 rfl ?_
  refine g_if_lt (tgt := 56) dX9_fill_39 rfl (fun c_39 => by exfalso; grind) (fun c_39 => ?_)
  refine g_iload dX9_fill_42 rfl ?_
  refine g_sipush (v := 200) dX9_fill_44 (by decide) ?_
  refine g_iadd dX9_fill_47 ?_
  refine g_aload_n dX9_fill_48 rfl rfl ?_
  refine g_getf dX9_fill_49 fX9_11 (xW_at (by decide) xC13) rfl ?_
  refine g_alen dX9_fill_52 (xW_at (by decide) xC14) ?_
  refine g_icmp_lt (tgt := 57) dX9_fill_53 rfl (fun c_53 => ?_) (fun c_53 => by exfalso; grind)
  refine g_iload dX9_fill_57 rfl ?_
  refine g_if_ne (tgt := 80) dX9_fill_59 rfl (fun c_59 => ?_) (fun c_59 => ?_)
  · refine g_iconst (v := 0) dX9_fill_80 (by decide) ?_
    refine g_istore dX9_fill_81 (Nat.le_of_ble_eq_true rfl) rfl ?_
    have hk := hwf n hn c_59
    have er : ru (σ 14) (201 * n) 201 (tmRow (σ 2) (σ 3) (σ 1 2) (σ 14) n) = ru (σ 14) (201 * n) 201 (fun k => mAt (σ 14) (ldKind (σ 2) (σ 1 2) (nI n)) (ldNum (σ 3) (σ 1 2) (nI n) 0) (ldNum (σ 3) (σ 1 2) (nI n) 1) (ldNum (σ 3) (σ 1 2) (nI n) 2) (nI k)) := by
      congr 1; funext k; rw [tmRow, if_neg c_59]
    rw [er]
    exact Go.eq rfl rfl rfl (show xW σ = _ by rw [ru_0, putC_id]) (CX9_fill_loop hn hk.1 hk.2 201 0 (by omega))
  · refine g_aload_n dX9_fill_62 rfl rfl ?_
    refine g_iload dX9_fill_63 rfl ?_
    refine g_iload_n dX9_fill_65 rfl rfl ?_
    refine g_iload dX9_fill_66 rfl ?_
    refine g_iload dX9_fill_68 rfl ?_
    refine g_aload_n dX9_fill_70 rfl rfl ?_
    refine g_iload_n dX9_fill_71 rfl rfl ?_
    refine g_iconst (v := 3) dX9_fill_72 (by decide) ?_
    refine g_V2r (CX3_numberOf xLed1) kX9_fill_33 dX9_fill_73 (xW_at xLed1.1.1 xLed1.2.1) rfl ⟨rfl, rfl⟩ (Nat.le_of_ble_eq_true rfl) ⟨(Nat.le_of_ble_eq_true rfl), (Nat.le_of_ble_eq_true rfl)⟩ ?_
    refine g_V5v (CX9_fillTold (s := 201 * n) (by omega)) kX9_fill_42 dX9_fill_76 (xW_at (by decide) xC13) rfl ⟨rfl, rfl⟩ (Nat.le_of_ble_eq_true rfl) ⟨(Nat.le_of_ble_eq_true rfl), (Nat.le_of_ble_eq_true rfl)⟩ ?_
    exact g_vret dX9_fill_79 rfl rfl ⟨rfl, by congr 3; funext k; rw [tmRow, if_pos c_59]⟩
theorem tmEq_ru {K N V F : Nat → Int32} {sz : Int32} {n q : Nat} (hwf : ldWf K N sz) (hq : q < n) (hn : n < 8) (h : tmEq K N sz V q) : tmEq K N sz (ru V (201 * n) 201 F) q := by
  intro k hk
  rw [ru_out (by omega), h k hk, tmRow, tmRow]
  split
  · rfl
  · rename_i h0
    have hw := hwf q (by omega) h0
    rw [mAt_ru (by obtain ⟨a, h1, h2⟩ := hw.1; exact ⟨a, by omega, h2⟩) (fun e3 e4 => by obtain ⟨a, h1, h2⟩ := hw.2 e3 e4; exact ⟨a, by omega, h2⟩) (by omega) (Nat.le_refl _)]
theorem tmEq_new {K N V : Nat → Int32} {sz : Int32} {n : Nat} (hwf : ldWf K N sz) (hn : n < 8) : tmEq K N sz (ru V (201 * n) 201 (tmRow K N sz V n)) n := by
  intro k hk
  rw [ru_in (by omega)]
  unfold tmRow
  split
  · rfl
  · rename_i h0
    have hw := hwf n hn h0
    rw [mAt_ru hw.1 hw.2 (by omega) (Nat.le_refl _)]
theorem xCom {σ : Nat → Nat → Int32} {V U : Nat → Int32} {x y : Int32} : xW (put (putC (put (putC σ 14 V) 13 1 x) 14 U) 13 1 y) = xW (put (putC σ 14 U) 13 1 y) := by
  congr 1
  funext j i
  unfold put putC upd
  by_cases h : j = 13
  · subst h
    by_cases h2 : i = 1 <;> simp [h2]
  · by_cases h2 : j = 14 <;> simp [h, h2]
set_option maxRecDepth 100000 in
set_option maxHeartbeats 4000000 in
theorem CX9_at_loop {m r n0 : Nat} {k : Int32} (hr : r < 8) (hwf : ldWf (σ 2) (σ 3) (σ 1 2)) : ∀ (d : Nat) (V : Nat → Int32) (j : Nat), r < j + d → j ≤ 8 → m ≤ j → (j ≤ m ∨ j ≤ r + 1) → (∀ q, q < j → tmEq (σ 2) (σ 3) (σ 1 2) V q) → Go l mX9_at n0 (fun rv w' => ∃ V m', w' = xW (put (putC σ 14 V) 13 1 (nI m')) ∧ r < m' ∧ m' ≤ 8 ∧ m ≤ m' ∧ (m' ≤ m ∨ m' ≤ r + 1) ∧ rv = some (.int (vAt V (nI r) k)) ∧ ∀ q, q < m' → tmEq (σ 2) (σ 3) (σ 1 2) V q) (0, 0) 0 [some (.ref 13), some (.ref 1), some (.int (nI r)), some (.int k)] [] (xW (put (putC σ 14 V) 13 1 (nI j))) := by
  intro d
  induction d with
  | zero =>
    intro V j hrj hj8 hmj hmx hok
    replace hrj : r < j := by omega
    refine g_aload_n dX9_at_0 rfl rfl ?_
    refine g_getf dX9_at_1 fX9_15 (xW_at (by decide) xC13) rfl ?_
    refine g_iload_n dX9_at_4 rfl rfl ?_
    refine g_icmp_gt (tgt := 39) dX9_at_5 rfl (fun c_5 => ?_) (fun c_5 => by exact absurd (nI_lt hrj (by omega)) c_5)
    refine g_aload_n dX9_at_39 rfl rfl ?_
    refine g_iload_n dX9_at_40 rfl rfl ?_
    refine g_iload_n dX9_at_41 rfl rfl ?_
    refine g_V2r CX9_valueAt kX9_at_29 dX9_at_42 (xW_at (by decide) xC13) rfl ⟨rfl, rfl⟩ (Nat.le_of_ble_eq_true rfl) ⟨(Nat.le_of_ble_eq_true rfl), (Nat.le_of_ble_eq_true rfl)⟩ ?_
    exact g_iret dX9_at_45 rfl rfl ⟨V, j, rfl, hrj, hj8, hmj, hmx, rfl, hok⟩
  | succ d ih =>
    intro V j hd hj8 hmj hmx hok
    have b0 : 0 ≤ nI j := nI_pos' (by omega)
    have b8 : nI j ≤ 8 := nI_le (b := 8) hj8 (by decide)
    have r8 : nI r < 8 := nI_lt (b := 8) hr (by decide)
    refine g_aload_n dX9_at_0 rfl rfl ?_
    refine g_getf dX9_at_1 fX9_15 (xW_at (by decide) xC13) rfl ?_
    refine g_iload_n dX9_at_4 rfl rfl ?_
    refine g_icmp_gt (tgt := 39) dX9_at_5 rfl (fun c_5 => ?_) (fun c_5 => ?_)
    · have hrj : r < j := by
        rcases Nat.lt_or_ge r j with q | q
        · exact q
        · exact absurd c_5 (nI_nlt q (by omega))
      refine g_aload_n dX9_at_39 rfl rfl ?_
      refine g_iload_n dX9_at_40 rfl rfl ?_
      refine g_iload_n dX9_at_41 rfl rfl ?_
      refine g_V2r CX9_valueAt kX9_at_29 dX9_at_42 (xW_at (by decide) xC13) rfl ⟨rfl, rfl⟩ (Nat.le_of_ble_eq_true rfl) ⟨(Nat.le_of_ble_eq_true rfl), (Nat.le_of_ble_eq_true rfl)⟩ ?_
      exact g_iret dX9_at_45 rfl rfl ⟨V, j, rfl, hrj, hj8, hmj, hmx, rfl, hok⟩
    · have hjr : j ≤ r := by
        rcases Nat.lt_or_ge r j with q | q
        · exact absurd (nI_lt q (by omega)) c_5
        · exact q
      refine g_aload_n dX9_at_8 rfl rfl ?_
      refine g_getf dX9_at_9 fX9_15 (xW_at (by decide) xC13) rfl ?_
      refine g_bipush (v := 8) dX9_at_12 (by decide) ?_
      refine g_icmp_ge (tgt := 39) dX9_at_14 rfl (fun c_14 => by exfalso; have := nI_le hjr (by omega); grind) (fun c_14 => ?_)
      refine g_aload_n dX9_at_17 rfl rfl ?_
      refine g_aload_n dX9_at_18 rfl rfl ?_
      refine g_aload_n dX9_at_19 rfl rfl ?_
      refine g_getf dX9_at_20 fX9_15 (xW_at (by decide) xC13) rfl ?_
      refine g_V2v (CX9_fill (σ := put (putC σ 14 V) 13 1 (nI j)) (n := j) (by omega) hwf) kX9_at_25 dX9_at_23 (xW_at (by decide) xC13) rfl ⟨rfl, rfl⟩ (Nat.le_of_ble_eq_true rfl) ⟨(Nat.le_of_ble_eq_true rfl), (Nat.le_of_ble_eq_true rfl)⟩ ?_
      have hnew : ∀ q, q < j + 1 → tmEq (σ 2) (σ 3) (σ 1 2) (ru V (201 * j) 201 (tmRow (σ 2) (σ 3) (σ 1 2) V j)) q := by
        intro q hq
        rcases Nat.lt_or_ge q j with h1 | h1
        · exact tmEq_ru hwf h1 (by omega) (hok q h1)
        · have e : q = j := by omega
          subst e
          exact tmEq_new hwf (by omega)
      refine g_aload_n dX9_at_26 rfl rfl ?_
      refine g_dup dX9_at_27 rfl ?_
      refine g_getf dX9_at_28 fX9_15 (xW_at (by decide) xC13) rfl ?_
      refine Go.eq rfl rfl (show _ = [Value.int (nI j), Value.ref 13] from rfl) rfl ?_
      refine g_iconst (v := 1) dX9_at_31 (by decide) ?_
      refine g_iadd dX9_at_32 ?_
      refine g_putf dX9_at_33 pX9_15 (xW_at (by decide) xC13) (Nat.le_of_ble_eq_true rfl) (fun _ => rfl) (fun _ => rfl) (xW_obj xC13 rfl) ?_
      refine g_goto (tgt := 0) dX9_at_36 rfl ?_
      exact Go.eq rfl rfl rfl (show _ = _ by rw [show put (putC σ 14 V) 13 1 (nI j) 14 = V from rfl, show put (putC σ 14 V) 13 1 (nI j) 2 = σ 2 from rfl, show put (putC σ 14 V) 13 1 (nI j) 3 = σ 3 from rfl, show put (putC σ 14 V) 13 1 (nI j) 1 2 = σ 1 2 from rfl, xCom, nI_1]) (ih (ru V (201 * j) 201 (tmRow (σ 2) (σ 3) (σ 1 2) V j)) (j + 1) (by omega) (by omega) (by omega) (Or.inr (by omega)) hnew)
set_option maxRecDepth 100000 in
set_option maxHeartbeats 4000000 in
theorem CX9_at {m r : Nat} {k : Int32} (hr : r < 8) (hm : m ≤ 8) (hk : σ 13 1 = nI m) (hwf : ldWf (σ 2) (σ 3) (σ 1 2)) (hok : ∀ q, q < m → tmEq (σ 2) (σ 3) (σ 1 2) (σ 14) q) : Ct l mX9_at [.ref 13, .ref 1, .int (nI r), .int k] (xW σ) (fun rv w' => ∃ V m', w' = xW (put (putC σ 14 V) 13 1 (nI m')) ∧ r < m' ∧ m' ≤ 8 ∧ m ≤ m' ∧ (m' ≤ m ∨ m' ≤ r + 1) ∧ rv = some (.int (vAt V (nI r) k)) ∧ ∀ q, q < m' → tmEq (σ 2) (σ 3) (σ 1 2) V q) := by
  refine Ct.of rfl (Nat.le_of_ble_eq_true rfl) ?_
  refine Go.eq rfl rfl rfl (show xW σ = xW (put (putC σ 14 (σ 14)) 13 1 (nI m)) by rw [putC_id, ← hk, put_id]) ?_
  exact CX9_at_loop hr hwf (r + 1) (σ 14) m (by omega) hm (Nat.le_refl _) (Or.inl (Nat.le_refl _)) hok
end
