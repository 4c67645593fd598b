theorem tvS {K N : Nat → Int32} {sz : Int32} (hwf : ldWf K N sz) : ∀ (f q k : Nat), q < 8 → q < f → k ≤ 200 → tvF K N sz f (201 * q + k) = tvF K N sz (f + 1) (201 * q + k)
  | 0, q, k, _, h, _ => absurd h (by omega)
  | f + 1, q, k, h8, h1, h2 => by
    show tmRow K N sz (tvF K N sz f) ((201 * q + k) / 201) ((201 * q + k) % 201) = tmRow K N sz (tvF K N sz (f + 1)) ((201 * q + k) / 201) ((201 * q + k) % 201)
    rw [show (201 * q + k) / 201 = q by omega, show (201 * q + k) % 201 = k by omega]
    exact tmRow_cong hwf h8 (fun a ha j hj => tvS hwf f a j (by omega) (by omega) hj)
theorem TT_fix {K N : Nat → Int32} {sz : Int32} (hwf : ldWf K N sz) {q k : Nat} (hq : q < 8) (hk : k ≤ 200) : TT K N sz (201 * q + k) = tmRow K N sz (TT K N sz) q k := by
  show tmRow K N sz (tvF K N sz 7) ((201 * q + k) / 201) ((201 * q + k) % 201) = _
  rw [show (201 * q + k) / 201 = q by omega, show (201 * q + k) % 201 = k by omega]
  exact tmRow_cong hwf hq (fun a ha j hj => tvS hwf 7 a j (by omega) (by omega) hj)
theorem ldK {K : Nat → Int32} {n q : Nat} (hn : n ≤ 8) (hq : q < n) : ldKind K (nI n) (nI q) = K q := by
  rw [ldKind, if_pos (ldHn hn hq), nI_clamp (by omega)]
theorem ldN {N : Nat → Int32} {n q j : Nat} (hn : n ≤ 8) (hq : q < n) (hj : j < 4) : ldNum N (nI n) (nI q) (nI j) = N (4 * q + j) := by
  rw [ldNum, if_pos ⟨ldHn hn hq, nI_pos' (by omega), nI_lt (b := 4) hj (by decide)⟩, show (4 : Int32) = nI 4 from rfl, nI_mul, nI_add, nI_clamp (by omega), Nat.mul_comm]
theorem ldN0 {N : Nat → Int32} {n q : Nat} (hn : n ≤ 8) (hq : q < n) : ldNum N (nI n) (nI q) 0 = N (4 * q) := ldN (j := 0) hn hq (by decide)
theorem ldN1 {N : Nat → Int32} {n q : Nat} (hn : n ≤ 8) (hq : q < n) : ldNum N (nI n) (nI q) 1 = N (4 * q + 1) := ldN (j := 1) hn hq (by decide)
theorem ldN2 {N : Nat → Int32} {n q : Nat} (hn : n ≤ 8) (hq : q < n) : ldNum N (nI n) (nI q) 2 = N (4 * q + 2) := ldN (j := 2) hn hq (by decide)
theorem ldN3 {N : Nat → Int32} {n q : Nat} (hn : n ≤ 8) (hq : q < n) : ldNum N (nI n) (nI q) 3 = N (4 * q + 3) := ldN (j := 3) hn hq (by decide)
theorem mEx {K N : Nat → Int32} {n q : Nat} (hn : n ≤ 8) (hq : q < n) (hwf : ldWf K N (nI n)) (hwe : ldWe K N (nI n)) : ∃ a b m s, (K q ≠ 0 → N (4 * q) = nI a ∧ a < q) ∧ (K q ≠ 0 → K q ≠ 3 → K q ≠ 4 → N (4 * q + 1) = nI b ∧ b < q) ∧ (K q = 3 → N (4 * q + 1) = nI m ∧ (1 ≤ m ∧ m ≤ 5) ∧ N (4 * q + 2) = nI s ∧ s ≤ 9) := by
  have h1 := hwf q (by omega)
  have h2 := hwe.1 q (by omega)
  rw [ldK hn hq] at h1 h2
  rw [ldN0 hn hq, ldN1 hn hq] at h1
  rw [ldN1 hn hq, ldN2 hn hq] at h2
  by_cases e0 : K q = 0
  · exact ⟨0, 0, 0, 0, fun z => absurd e0 z, fun z => absurd e0 z, fun z => absurd (z.symm.trans e0) (by decide)⟩
  · obtain ⟨⟨a, ha, ea⟩, h1⟩ := h1 e0
    by_cases e3 : K q = 3
    · obtain ⟨m, s, a1, a2, a3, a4, a5⟩ := h2 e3
      exact ⟨a, 0, m, s, fun _ => ⟨ea, ha⟩, fun _ z => absurd e3 z, fun _ => ⟨a4, ⟨a1, a2⟩, a5, a3⟩⟩
    · by_cases e4 : K q = 4
      · exact ⟨a, 0, 0, 0, fun _ => ⟨ea, ha⟩, fun _ _ z => absurd e4 z, fun z => absurd z e3⟩
      · obtain ⟨b, hb, eb⟩ := h1 e3 e4
        exact ⟨a, b, 0, 0, fun _ => ⟨ea, ha⟩, fun _ _ _ => ⟨eb, hb⟩, fun z => absurd z e3⟩
/-- a term made out of the terms before it is the one that the ledger says -/
theorem mtM_TT {σ : Nat → Nat → Int32} {n q k : Nat} (hn : n ≤ 8) (hq : q < n) (hk : k ≤ 200) (hwf : ldWf (σ 1) (σ 2) (nI n)) (hV : ∀ i, i < 201 * q + k → σ 7 i = TT (σ 1) (σ 2) (nI n) i) : mtM σ q k = TT (σ 1) (σ 2) (nI n) (201 * q + k) := by
  rw [TT_fix hwf (by omega) hk, mtM]
  by_cases e0 : σ 1 q = 0
  · have hT : ∀ j, j ≤ 200 → TT (σ 1) (σ 2) (nI n) (201 * q + j) = tl (σ 2 (4 * q)) (σ 2 (4 * q + 1)) (σ 2 (4 * q + 2)) (σ 2 (4 * q + 3)) j := fun j hj => by
      rw [TT_fix hwf (by omega) hj, tmRow, ldK hn hq, if_pos e0, ldN0 hn hq, ldN1 hn hq, ldN2 hn hq, ldN3 hn hq]
    rw [if_pos e0, tmRow, ldK hn hq, if_pos e0, ldN0 hn hq, ldN1 hn hq, ldN2 hn hq, ldN3 hn hq, mtT]
    by_cases h2 : k < 2
    · rw [if_pos h2]
      rcases (show k = 0 ∨ k = 1 by omega) with e | e <;> subst e <;> rfl
    · rw [if_neg h2]
      obtain ⟨j, rfl⟩ : ∃ j, k = j + 2 := ⟨k - 2, by omega⟩
      rw [vAt_n (by omega) (by omega), vAt_n (by omega) (by omega), if_pos (by omega), if_pos (by omega), show j + 2 - 2 = j by omega, show j + 2 - 1 = j + 1 by omega, hV _ (by omega), hV _ (by omega), hT j (by omega), hT (j + 1) (by omega), tl_2]
  · rw [if_neg e0, ← tmRow_cong (V := σ 7) hwf (by omega) (fun a ha j hj => hV _ (by omega)), tmRow, ldK hn hq, if_neg e0, ldN0 hn hq, ldN1 hn hq, ldN2 hn hq]
def mLt (σ : Nat → Nat → Int32) (n : Nat) : Nat → Nat → Int32 := if σ 0 13 = 0 then put (putC σ 7 (ru (σ 7) 0 (201 * n) (TT (σ 1) (σ 2) (nI n)))) 0 13 1 else σ
/-- the reference's rows are as they should be; its terms, if laid, as the rows say -/
def mKt (σ : Nat → Nat → Int32) (n : Nat) : Prop := n ≤ 8 ∧ σ 0 0 = nI n ∧ ldWf (σ 1) (σ 2) (nI n) ∧ ldWe (σ 1) (σ 2) (nI n) ∧ (σ 0 13 = 0 ∨ (σ 0 13 = 1 ∧ ∀ i, i < 201 * n → σ 7 i = TT (σ 1) (σ 2) (nI n) i))
theorem mLt_K {σ : Nat → Nat → Int32} {n : Nat} (H : mKt σ n) : mKt (mLt σ n) n ∧ (mLt σ n) 0 13 = 1 ∧ (∀ c, c ≠ 0 → c ≠ 7 → mLt σ n c = σ c) ∧ ∀ k, k ≠ 13 → mLt σ n 0 k = σ 0 k := by
  obtain ⟨hn, h0, hwf, hwe, hc⟩ := H
  unfold mLt
  by_cases h : σ 0 13 = 0
  · rw [if_pos h]
    refine ⟨⟨hn, h0, hwf, hwe, Or.inr ⟨rfl, fun i hi => ?_⟩⟩, rfl, fun c hc1 hc2 => ?_, fun k hk => ?_⟩
    · show ru (σ 7) 0 (201 * n) (TT (σ 1) (σ 2) (nI n)) i = TT (σ 1) (σ 2) (nI n) i
      have := ru_in (V := σ 7) (F := TT (σ 1) (σ 2) (nI n)) (s := 0) hi
      rw [Nat.zero_add] at this
      exact this
    · simp [put, putC, hc1, hc2]
    · simp [put, putC, upd, hk]
  · rw [if_neg h]
    rcases hc with hc | hc
    · exact absurd hc h
    · exact ⟨⟨hn, h0, hwf, hwe, Or.inr hc⟩, hc.1, fun _ _ _ => rfl, fun _ _ => rfl⟩
section
variable {l : Launch} {σ : Nat → Nat → Int32} {t : Nat → Int64} {n q k : Nat}
set_option maxRecDepth 100000 in
set_option maxHeartbeats 4000000 in
theorem CX11_ltL {n0 : Nat} (hn : n ≤ 8) (h0 : σ 0 0 = nI n) (hwf : ldWf (σ 1) (σ 2) (nI n)) (hwe : ldWe (σ 1) (σ 2) (nI n)) (hL : σ 0 13 = 0) : ∀ (d i : Nat), i + d = 201 * n → Go l mX11_layTerms n0 (q_eq none (mW (put (putC σ 7 (ru (σ 7) 0 (201 * n) (TT (σ 1) (σ 2) (nI n)))) 0 13 1) t)) (0, 0) 2 [some (.ref 0), some (.int (nI i))] [] (mW (putC σ 7 (ru (σ 7) 0 i (TT (σ 1) (σ 2) (nI n)))) t) := by
  intro d
  induction d with
  | zero =>
    intro i hi
    have e1 : i = 201 * n := by omega
    subst e1
    refine g_iload_n dX11_layTerms_2 rfl rfl ?_
    refine g_aload_n dX11_layTerms_3 rfl rfl ?_
    refine g_getf dX11_layTerms_4 fX11_116 mW_0 rfl ?_
    refine Go.eq rfl rfl (congrArg (fun z => [Value.int z, Value.int (nI (201 * n))]) (show _ = nI n from h0)) rfl ?_
    refine g_sipush (v := 201) dX11_layTerms_7 (by decide) ?_
    refine g_imul dX11_layTerms_10 ?_
    rw [show nI n * 201 = nI (201 * n) by rw [show (201 : Int32) = nI 201 from rfl, nI_mul, Nat.mul_comm]]
    refine g_icmp_ge (tgt := 47) dX11_layTerms_11 rfl (fun c_11 => ?_) (fun c_11 => by exact absurd (nI_le (by omega) (by omega)) c_11)
    refine g_aload_n dX11_layTerms_47 rfl rfl ?_
    refine g_iconst (v := 1) dX11_layTerms_48 (by decide) ?_
    refine g_putf dX11_layTerms_49 pX11_125 mW_0 (Nat.le_of_ble_eq_true rfl) (fun _ => rfl) (fun _ => rfl) (mW_obj rfl) ?_
    exact g_vret dX11_layTerms_52 rfl rfl ⟨rfl, rfl⟩
  | succ d ih =>
    intro i hi
    have hq : i / 201 < n := by omega
    have hk : i % 201 ≤ 200 := by omega
    obtain ⟨a, b, m, s, hA, hB, hE⟩ := mEx hn hq hwf hwe
    have eT : mtM (putC σ 7 (ru (σ 7) 0 i (TT (σ 1) (σ 2) (nI n)))) (i / 201) (i % 201) = TT (σ 1) (σ 2) (nI n) i := by have h := mtM_TT (σ := (putC σ 7 (ru (σ 7) 0 i (TT (σ 1) (σ 2) (nI n))))) hn hq hk hwf (fun x hx => by have h3 := ru_in (V := σ 7) (F := TT (σ 1) (σ 2) (nI n)) (s := 0) (j := i) (k := x) (by omega); rw [Nat.zero_add] at h3; exact h3); rw [show 201 * (i / 201) + i % 201 = i by omega] at h; exact h
    refine g_iload_n dX11_layTerms_2 rfl rfl ?_
    refine g_aload_n dX11_layTerms_3 rfl rfl ?_
    refine g_getf dX11_layTerms_4 fX11_116 mW_0 rfl ?_
    refine Go.eq rfl rfl (congrArg (fun z => [Value.int z, Value.int (nI i)]) (show _ = nI n from h0)) rfl ?_
    refine g_sipush (v := 201) dX11_layTerms_7 (by decide) ?_
    refine g_imul dX11_layTerms_10 ?_
    rw [show nI n * 201 = nI (201 * n) by rw [show (201 : Int32) = nI 201 from rfl, nI_mul, Nat.mul_comm]]
    refine g_icmp_ge (tgt := 47) dX11_layTerms_11 rfl (fun c_11 => by exact absurd c_11 (nI_ge (by omega) (by omega))) (fun c_11 => ?_)
    refine g_aload_n dX11_layTerms_14 rfl rfl ?_
    refine g_getf dX11_layTerms_15 fX11_125 mW_0 rfl ?_
    refine g_if_ne (tgt := 47) dX11_layTerms_18 rfl (fun c_18 => by exact absurd hL c_18) (fun c_18 => ?_)
    refine g_aload_n dX11_layTerms_21 rfl rfl ?_
    refine g_getf dX11_layTerms_22 fX11_29 mW_0 rfl ?_
    refine g_iload_n dX11_layTerms_25 rfl rfl ?_
    refine g_aload_n dX11_layTerms_26 rfl rfl ?_
    refine g_iload_n dX11_layTerms_27 rfl rfl ?_
    refine g_sipush (v := 201) dX11_layTerms_28 (by decide) ?_
    refine g_idiv dX11_layTerms_31 (by decide) ?_
    rw [show nI i / 201 = nI (i / 201) from nI_div (b := 201) (by omega) (by decide)]
    refine g_iload_n dX11_layTerms_32 rfl rfl ?_
    refine g_sipush (v := 201) dX11_layTerms_33 (by decide) ?_
    refine g_irem dX11_layTerms_36 (by decide) ?_
    rw [show nI i - nI i / 201 * 201 = nI (i % 201) from nI_rem (b := 201) (by omega) (by decide)]
    refine g_V2r (CX11_madeTerm (σ := (putC σ 7 (ru (σ 7) 0 i (TT (σ 1) (σ 2) (nI n))))) (q := i / 201) (k := i % 201) (a := a) (b := b) (m := m) (s := s) (by omega) hk (fun z => ⟨(hA z).1, by have := (hA z).2; omega⟩) (fun z z3 z4 => ⟨(hB z z3 z4).1, by have := (hB z z3 z4).2; omega⟩) (fun z => ⟨(hE z).1, (hE z).2.1.2, (hE z).2.2⟩)) kX11_layTerms_153 dX11_layTerms_37 mW_0 rfl ⟨rfl, rfl⟩ (Nat.le_of_ble_eq_true rfl) ⟨(Nat.le_of_ble_eq_true rfl), (Nat.le_of_ble_eq_true rfl)⟩ ?_
    rw [eT]
    refine g_iast dX11_layTerms_40 mA7 (vin_n (by omega) (by decide)) (mW_arrN (k' := i) (fun _ => rfl) (nI_clamp (by omega))) ?_
    refine g_iinc (v := 1) dX11_layTerms_41 (by decide) rfl (Nat.le_of_ble_eq_true rfl) rfl ?_
    refine g_goto (tgt := 2) dX11_layTerms_44 rfl ?_
    exact Go.eq rfl (show _ = _ by rw [← nI_1 i]; rfl) rfl (show mW (put (putC σ 7 (ru (σ 7) 0 i (TT (σ 1) (σ 2) (nI n)))) 7 i _) t = _ by rw [put_putC]; have e := ru_1 (V := σ 7) (F := TT (σ 1) (σ 2) (nI n)) (s := 0) (j := i) rfl; rw [Nat.zero_add] at e; rw [e]) (ih (i + 1) (by omega))
set_option maxRecDepth 100000 in
set_option maxHeartbeats 4000000 in
theorem CX11_layTerms (H : mKt σ n) : Ct l mX11_layTerms [.ref 0] (mW σ t) (q_eq none (mW (mLt σ n) t)) := by
  obtain ⟨hn, h0, hwf, hwe, hc⟩ := H
  refine Ct.of rfl (Nat.le_of_ble_eq_true rfl) ?_
  rcases hc with hL | hL
  · refine g_iconst (v := 0) dX11_layTerms_0 (by decide) ?_
    refine g_istore_n dX11_layTerms_1 rfl (Nat.le_of_ble_eq_true rfl) rfl ?_
    refine Go.mono (Q' := (q_eq none (mW (put (putC σ 7 (ru (σ 7) 0 (201 * n) (TT (σ 1) (σ 2) (nI n)))) 0 13 1) t))) (fun r w2 h => by rw [mLt, if_pos hL]; exact h) ?_
    exact Go.eq rfl rfl rfl (by rw [ru_0]; exact congrArg (fun z => mW z t) (putC_id (σ := σ) (c := 7)).symm) (CX11_ltL hn h0 hwf hwe hL (201 * n) 0 (by omega))
  · refine g_iconst (v := 0) dX11_layTerms_0 (by decide) ?_
    refine g_istore_n dX11_layTerms_1 rfl (Nat.le_of_ble_eq_true rfl) rfl ?_
    refine g_iload_n dX11_layTerms_2 rfl rfl ?_
    refine g_aload_n dX11_layTerms_3 rfl rfl ?_
    refine g_getf dX11_layTerms_4 fX11_116 mW_0 rfl ?_
    rw [h0]
    refine g_sipush (v := 201) dX11_layTerms_7 (by decide) ?_
    refine g_imul dX11_layTerms_10 ?_
    rw [show nI n * 201 = nI (201 * n) by rw [show (201 : Int32) = nI 201 from rfl, nI_mul, Nat.mul_comm]]
    refine g_icmp_ge (tgt := 47) dX11_layTerms_11 rfl (fun c_11 => ?_) (fun c_11 => ?_)
    · refine g_aload_n dX11_layTerms_47 rfl rfl ?_
      refine g_iconst (v := 1) dX11_layTerms_48 (by decide) ?_
      refine g_putf dX11_layTerms_49 pX11_125 mW_0 (Nat.le_of_ble_eq_true rfl) (fun _ => rfl) (fun _ => rfl) (mW_obj rfl) ?_
      exact g_vret dX11_layTerms_52 rfl rfl ⟨rfl, by rw [mLt, if_neg (by rw [hL.1]; decide), ← hL.1]; exact congrArg (fun z => mW z t) put_id⟩
    · refine g_aload_n dX11_layTerms_14 rfl rfl ?_
      refine g_getf dX11_layTerms_15 fX11_125 mW_0 rfl ?_
      refine g_if_ne (tgt := 47) dX11_layTerms_18 rfl (fun c_18 => ?_) (fun c_18 => by exact absurd (c_18.symm.trans hL.1) (by decide))
      refine g_aload_n dX11_layTerms_47 rfl rfl ?_
      refine g_iconst (v := 1) dX11_layTerms_48 (by decide) ?_
      refine g_putf dX11_layTerms_49 pX11_125 mW_0 (Nat.le_of_ble_eq_true rfl) (fun _ => rfl) (fun _ => rfl) (mW_obj rfl) ?_
      exact g_vret dX11_layTerms_52 rfl rfl ⟨rfl, by rw [mLt, if_neg (by rw [hL.1]; decide), ← hL.1]; exact congrArg (fun z => mW z t) put_id⟩
theorem mLt_v (H : mKt σ n) {k : Int32} (hq : q < n) : vAt (mLt σ n 7) (nI q) k = vAt (TT (σ 1) (σ 2) (nI n)) (nI q) k := by
  obtain ⟨h1, h2, h3, -⟩ := mLt_K H
  have hn := H.1
  rcases h1.2.2.2.2 with h | h
  · exact absurd (h.symm.trans h2) (by decide)
  · refine vAt_cong (by omega) (fun j hj => ?_)
    have := h.2 (201 * q + j) (by omega)
    rw [h3 1 (by decide) (by decide), h3 2 (by decide) (by decide)] at this
    exact this
set_option maxRecDepth 100000 in
set_option maxHeartbeats 4000000 in
theorem CX11_termOf (H : mKt σ n) (hq : q < n) (hk : k < 100000) : Ct l mX11_termOf [.ref 0, .int (nI q), .int (nI k)] (mW σ t) (q_eq (some (.int (vAt (TT (σ 1) (σ 2) (nI n)) (nI q) (nI k)))) (mW (mLt σ n) t)) := by
  refine Ct.of rfl (Nat.le_of_ble_eq_true rfl) ?_
  have hn := H.1
  refine g_aload_n dX11_termOf_0 rfl rfl ?_
  refine g_V0v (CX11_layTerms H) kX11_termOf_156 dX11_termOf_1 mW_0 rfl ⟨rfl, rfl⟩ (Nat.le_of_ble_eq_true rfl) ⟨(Nat.le_of_ble_eq_true rfl), (Nat.le_of_ble_eq_true rfl)⟩ ?_
  refine g_aload_n dX11_termOf_4 rfl rfl ?_
  refine g_iload_n dX11_termOf_5 rfl rfl ?_
  refine g_iload_n dX11_termOf_6 rfl rfl ?_
  refine g_V2r (CX11_termAt (by omega) hk) kX11_termOf_136 dX11_termOf_7 mW_0 rfl ⟨rfl, rfl⟩ (Nat.le_of_ble_eq_true rfl) ⟨(Nat.le_of_ble_eq_true rfl), (Nat.le_of_ble_eq_true rfl)⟩ ?_
  exact g_iret dX11_termOf_10 rfl rfl ⟨by rw [mLt_v H hq], rfl⟩
set_option maxRecDepth 100000 in
set_option maxHeartbeats 4000000 in
theorem CX11_term_no {r : Int32} {x : Int32} (hn : n ≤ 8) (h0 : σ 0 0 = nI n) (hr : ¬ ldH (nI n) r) : Ct l mX11_term [.ref 0, .int r, .int x] (mW σ t) (q_eq (some (.int 2000000101)) (mW σ t)) := by
  refine Ct.of rfl (Nat.le_of_ble_eq_true rfl) ?_
  refine g_aload_n dX11_term_0 rfl rfl ?_
  refine g_iload_n dX11_term_1 rfl rfl ?_
  refine g_V1r (CX11_isRow h0) kX11_term_193 dX11_term_2 mW_0 rfl ⟨rfl, rfl⟩ (Nat.le_of_ble_eq_true rfl) ⟨(Nat.le_of_ble_eq_true rfl), (Nat.le_of_ble_eq_true rfl)⟩ ?_
  rw [mIsF hn hr]
  refine g_if_ne (tgt := 11) dX11_term_5 rfl (fun c_5 => by exfalso; revert c_5; decide) (fun c_5 => ?_)
  refine g_ldc dX11_term_8 tb_1020 ?_
  exact g_iret dX11_term_10 rfl rfl ⟨rfl, rfl⟩
set_option maxRecDepth 100000 in
set_option maxHeartbeats 4000000 in
theorem CX11_term {q : Nat} (hq : q < n) {x : Int32} (hn : n ≤ 8) (h0 : σ 0 0 = nI n) (H : mKt σ n) : Ct l mX11_term [.ref 0, .int (nI q), .int x] (mW σ t) (q_eq (some (.int (if 0 ≤ x ∧ x ≤ 200 then vAt (TT (σ 1) (σ 2) (nI n)) (nI q) x else 2000000102))) (mW (if 0 ≤ x ∧ x ≤ 200 then mLt σ n else σ) t)) := by
  refine Ct.of rfl (Nat.le_of_ble_eq_true rfl) ?_
  refine g_aload_n dX11_term_0 rfl rfl ?_
  refine g_iload_n dX11_term_1 rfl rfl ?_
  refine g_V1r (CX11_isRow h0) kX11_term_193 dX11_term_2 mW_0 rfl ⟨rfl, rfl⟩ (Nat.le_of_ble_eq_true rfl) ⟨(Nat.le_of_ble_eq_true rfl), (Nat.le_of_ble_eq_true rfl)⟩ ?_
  rw [mIsT hn hq]
  refine g_if_ne (tgt := 11) dX11_term_5 rfl (fun c_5 => ?_) (fun c_5 => by exfalso; revert c_5; decide)
  refine g_iload_n dX11_term_11 rfl rfl ?_
  refine g_iconst (v := 0) dX11_term_12 (by decide) ?_
  refine g_sipush (v := 200) dX11_term_13 (by decide) ?_
  refine g_S3r CX11_within kX11_term_68 dX11_term_16 ⟨rfl, rfl⟩ (Nat.le_of_ble_eq_true rfl) ⟨(Nat.le_of_ble_eq_true rfl), (Nat.le_of_ble_eq_true rfl)⟩ ?_
  refine g_if_eq (tgt := 31) dX11_term_19 rfl (fun c_19 => ?_) (fun c_19 => ?_)
  · refine g_ldc dX11_term_31 tb_964 ?_
    exact g_iret dX11_term_33 rfl rfl (by first | (rw [if_pos hx, if_pos hx, ← ex]; exact ⟨rfl, rfl⟩) | (rw [if_neg (bI_0.mp c_19), if_neg (bI_0.mp c_19)]; exact ⟨rfl, rfl⟩))
  · have hx := (Classical.byContradiction (fun z => c_19 (bI_f z)))
    have ex := tNC hx.1
    have hx2 : x.toNatClampNeg < 201 := tNC_lt hx.1 (by show x < 201; grind) (by decide)
    refine g_aload_n dX11_term_22 rfl rfl ?_
    refine g_iload_n dX11_term_23 rfl rfl ?_
    refine g_iload_n dX11_term_24 rfl rfl ?_
    refine Go.eq rfl rfl (show _ = [Value.int (nI x.toNatClampNeg), Value.int (nI q), Value.ref 0] by rw [← ex]) rfl ?_
    refine g_V2r (CX11_termOf H hq (k := x.toNatClampNeg) (by omega)) kX11_term_201 dX11_term_25 mW_0 rfl ⟨rfl, rfl⟩ (Nat.le_of_ble_eq_true rfl) ⟨(Nat.le_of_ble_eq_true rfl), (Nat.le_of_ble_eq_true rfl)⟩ ?_
    refine g_goto (tgt := 33) dX11_term_28 rfl ?_
    exact g_iret dX11_term_33 rfl rfl (by first | (rw [if_pos hx, if_pos hx, ← ex]; exact ⟨rfl, rfl⟩) | (rw [if_neg (bI_0.mp c_19), if_neg (bI_0.mp c_19)]; exact ⟨rfl, rfl⟩))
end
