/-- the terms as the ledger says them: row q's term k stands at 201 * q + k -/
def tvF (K N : Nat → Int32) (sz : Int32) : Nat → Nat → Int32
  | 0 => fun _ => 0
  | f + 1 => fun i => tmRow K N sz (tvF K N sz f) (i / 201) (i % 201)
def TT (K N : Nat → Int32) (sz : Int32) : Nat → Int32 := tvF K N sz 8
theorem vAt_cong {V V' : Nat → Int32} {a : Nat} {k : Int32} (ha : a < 8) (h : ∀ q, q ≤ 200 → V (201 * a + q) = V' (201 * a + q)) : vAt V (nI a) k = vAt V' (nI a) k := by
  unfold vAt
  split
  · rename_i hh
    have e : k = nI k.toNatClampNeg := tNC hh.2.2.1
    have hk : k.toNatClampNeg < 201 := tNC_lt (n := 201) hh.2.2.1 (by have := hh.2.2.2; show k < 201; grind) (by decide)
    generalize k.toNatClampNeg = q at e hk
    subst e
    have e2 : (nI a * 201 + nI q).toNatClampNeg = 201 * a + q := by
      rw [show (201 : Int32) = nI 201 from rfl, nI_mul, nI_add, nI_clamp (by omega)]; omega
    rw [e2]
    exact h q (by omega)
  · rfl
theorem tmRow_cong {K N V V' : Nat → Int32} {sz : Int32} {q k : Nat} (hwf : ldWf K N sz) (hq : q < 8) (h : ∀ a, a < q → ∀ j, j ≤ 200 → V (201 * a + j) = V' (201 * a + j)) : tmRow K N sz V q k = tmRow K N sz V' q k := by
  unfold tmRow
  split
  · rfl
  · rename_i h0
    obtain ⟨⟨a, ha, ea⟩, hb⟩ := hwf q hq h0
    unfold mAt
    rw [ea]
    by_cases e3 : ldKind K sz (nI q) = 3
    · simp only [if_pos e3]
      exact vAt_cong (by omega) (h a ha)
    · by_cases e4 : ldKind K sz (nI q) = 4
      · simp only [if_neg e3, if_pos e4]
        rw [vAt_cong (by omega) (h a ha), vAt_cong (by omega) (h a ha)]
      · obtain ⟨b, hb, eb⟩ := hb e3 e4
        rw [eb]
        simp only [if_neg e3, if_neg e4]
        rw [vAt_cong (by omega) (h a ha), vAt_cong (by omega) (h b hb)]
theorem tv_uni {K N V : Nat → Int32} {sz : Int32} {m : Nat} (hwf : ldWf K N sz) (hm : m ≤ 8) (h : ∀ q, q < m → tmEq K N sz V q) : ∀ (f q k : Nat), q < m → q < f → k ≤ 200 → V (201 * q + k) = tvF K N sz f (201 * q + k)
  | 0, q, k, h1, h2, h3 => absurd h2 (by omega)
  | f + 1, q, k, h1, h2, h3 => by
    rw [h q h1 k h3]
    show _ = tmRow K N sz (tvF K N sz f) ((201 * q + k) / 201) ((201 * q + k) % 201)
    rw [show (201 * q + k) / 201 = q by omega, show (201 * q + k) % 201 = k by omega]
    exact tmRow_cong hwf (by omega) (fun a ha j hj => tv_uni hwf hm h f a j (by omega) (by omega) hj)
theorem vAt_TT {K N V : Nat → Int32} {sz : Int32} {m r : Nat} {k : Int32} (hwf : ldWf K N sz) (hm : m ≤ 8) (h : ∀ q, q < m → tmEq K N sz V q) (hr : r < m) : vAt V (nI r) k = vAt (TT K N sz) (nI r) k :=
  vAt_cong (by omega) (fun q hq => tv_uni hwf hm h 8 r q hr (by omega) hq)
/-- what is kept while the class only answers -/
def xSame (σ σ' : Nat → Nat → Int32) : Prop := (∀ c, c < 8 → σ' c = σ c) ∧ ∀ c, 168 ≤ c → σ' c = σ c
theorem xSame.rf {σ : Nat → Nat → Int32} : xSame σ σ := ⟨fun _ _ => rfl, fun _ _ => rfl⟩
theorem xSame.tr {σ σ' σ'' : Nat → Nat → Int32} (h1 : xSame σ σ') (h2 : xSame σ' σ'') : xSame σ σ'' := ⟨fun c h => (h2.1 c h).trans (h1.1 c h), fun c h => (h2.2 c h).trans (h1.2 c h)⟩
/-- the ledger and the two tables of the class -/
def xT (σ : Nat → Nat → Int32) (n : Nat) : Prop := ∃ m, m ≤ n ∧ σ 13 1 = nI m ∧ ∀ q, q < m → tmEq (σ 2) (σ 3) (σ 1 2) (σ 14) q
def xR (σ : Nat → Nat → Int32) (n : Nat) : Prop := ∀ t, t < 9 → ∃ m, m ≤ n ∧ σ 17 t = nI m ∧ ∀ q, q < m → cyEq (σ 2) (σ 3) (σ 1 2) (cyZ σ t) t q
def xK (σ : Nat → Nat → Int32) (n : Nat) : Prop := n ≤ 8 ∧ σ 1 2 = nI n ∧ ldWf (σ 2) (σ 3) (σ 1 2) ∧ ldWe (σ 2) (σ 3) (σ 1 2) ∧ xT σ n ∧ xR σ n
theorem xK_terms {σ : Nat → Nat → Int32} {n m : Nat} {V : Nat → Int32} (h : xK σ n) (hm : m ≤ n) (hok : ∀ q, q < m → tmEq (σ 2) (σ 3) (σ 1 2) V q) : xK (put (putC σ 14 V) 13 1 (nI m)) n ∧ xSame σ (put (putC σ 14 V) 13 1 (nI m)) := by
  obtain ⟨h1, h2, h3, h4, h5, h6⟩ := h
  have e : ∀ c, c ≠ 13 → c ≠ 14 → put (putC σ 14 V) 13 1 (nI m) c = σ c := fun c a b => by rw [put_ne a, putC_ne b]
  refine ⟨⟨h1, h2, h3, h4, ⟨m, hm, rfl, hok⟩, fun t ht => ?_⟩, fun c hc => e c (by omega) (by omega), fun c hc => e c (by omega) (by omega)⟩
  obtain ⟨m2, a1, a2, a3⟩ := h6 t ht
  refine ⟨m2, a1, a2, ?_⟩
  have ez : cyZ (put (putC σ 14 V) 13 1 (nI m)) t = cyZ σ t := by
    funext x
    exact e _ (by unfold cyI; omega) (by unfold cyI; omega)
  rw [ez]
  exact a3
section
variable {l : Launch} {σ : Nat → Nat → Int32}
theorem CX9_atK {n r : Nat} {k : Int32} (hK : xK σ n) (hr : r < n) : Ct l mX9_at [.ref 13, .ref 1, .int (nI r), .int k] (xW σ) (fun rv w' => ∃ σ', w' = xW σ' ∧ xK σ' n ∧ xSame σ σ' ∧ rv = some (.int (vAt (TT (σ 2) (σ 3) (σ 1 2)) (nI r) k))) := by
  obtain ⟨m, hm, hk, hok⟩ := hK.2.2.2.2.1
  refine (CX9_at (m := m) (by have := hK.1; omega) (by have := hK.1; omega) hk hK.2.2.1 hok).mono ?_
  rintro rv w' ⟨V, m', rfl, h1, h2, h3, h4, rfl, h6⟩
  have hmn : m' ≤ n := by omega
  obtain ⟨a, b⟩ := xK_terms hK hmn h6
  exact ⟨_, rfl, a, b, by rw [vAt_TT hK.2.2.1 h2 h6 h1]⟩
theorem ldH_iff {n : Nat} {r : Int32} (hn : n ≤ 8) : ldH (nI n) r ↔ ∃ q, q < n ∧ r = nI q := by
  constructor
  · rintro ⟨h0, h1, h2⟩
    exact ⟨r.toNatClampNeg, tNC_lt h0 h1 (by omega), tNC h0⟩
  · rintro ⟨q, hq, rfl⟩
    exact ⟨nI_pos' (by omega), nI_lt hq (by omega), nI_lt (b := 8) (by omega) (by decide)⟩
set_option maxRecDepth 100000 in
set_option maxHeartbeats 4000000 in
theorem CX10_term {n : Nat} (hK : xK σ n) {r k : Int32} : Ct l mX10_term [.ref 0, .int r, .int k] (xW σ) (fun rv w' => ∃ σ', w' = xW σ' ∧ xK σ' n ∧ xSame σ σ' ∧ rv = some (.int (if ldH (σ 1 2) r then (if 0 ≤ k ∧ k ≤ 200 then vAt (TT (σ 2) (σ 3) (σ 1 2)) r k else 2000000102) else 2000000101))) := by
  refine Ct.of rfl (Nat.le_of_ble_eq_true rfl) ?_
  refine g_aload_n dX10_term_0 rfl rfl ?_
  refine g_getf dX10_term_1 fX10_10 (xW_at (by decide) xC0) rfl ?_
  refine g_iload_n dX10_term_4 rfl rfl ?_
  refine g_V1r (CX3_holds xLed1) kX10_term_122 dX10_term_5 (xW_at xLed1.1.1 xLed1.2.1) rfl ⟨rfl, rfl⟩ (Nat.le_of_ble_eq_true rfl) ⟨(Nat.le_of_ble_eq_true rfl), (Nat.le_of_ble_eq_true rfl)⟩ ?_
  refine g_if_ne (tgt := 14) dX10_term_8 rfl (fun c_8 => ?_) (fun c_8 => ?_)
  · have hH : ldH (σ 1 2) r := Classical.byContradiction (fun z => c_8 (bI_f z))
    obtain ⟨q, hq, er⟩ := (ldH_iff hK.1).mp (hK.2.1 ▸ hH)
    refine g_iload_n dX10_term_14 rfl rfl ?_
    refine g_iconst (v := 0) dX10_term_15 (by decide) ?_
    refine g_sipush (v := 200) dX10_term_16 (by decide) ?_
    refine g_S3r CX10_isWithin kX10_term_76 dX10_term_19 ⟨rfl, rfl⟩ (Nat.le_of_ble_eq_true rfl) ⟨(Nat.le_of_ble_eq_true rfl), (Nat.le_of_ble_eq_true rfl)⟩ ?_
    refine g_if_ne (tgt := 28) dX10_term_22 rfl (fun c_22 => ?_) (fun c_22 => ?_)
    · refine g_aload_n dX10_term_28 rfl rfl ?_
      refine g_getf dX10_term_29 fX10_45 (xW_at (by decide) xC0) rfl ?_
      refine g_aload_n dX10_term_32 rfl rfl ?_
      refine g_getf dX10_term_33 fX10_10 (xW_at (by decide) xC0) rfl ?_
      subst er
      refine g_iload_n dX10_term_36 rfl rfl ?_
      refine g_iload_n dX10_term_37 rfl rfl ?_
      refine g_V3p (CX9_atK hK hq) kX10_term_141 dX10_term_38 (xW_at (by decide) xC13) rfl ⟨rfl, rfl⟩ (Nat.le_of_ble_eq_true rfl) ⟨(Nat.le_of_ble_eq_true rfl), (Nat.le_of_ble_eq_true rfl)⟩ ?_
      rintro rv w1 ⟨σ', rfl, hK', hS, rfl⟩
      exact g_iret dX10_term_41 rfl rfl ⟨σ', rfl, hK', hS, by rw [if_pos hH, if_pos (Classical.byContradiction (fun z => c_22 (bI_f z)))]⟩
    · refine g_ldc dX10_term_25 tb_299 ?_
      exact g_iret dX10_term_27 rfl rfl ⟨σ, rfl, hK, xSame.rf, by rw [if_pos hH, if_neg (bI_0.mp c_22)]⟩
  · refine g_ldc dX10_term_11 tb_439 ?_
    exact g_iret dX10_term_13 rfl rfl ⟨σ, rfl, hK, xSame.rf, by rw [if_neg (bI_0.mp c_8)]⟩
def nsF (V : Nat → Int32) (r : Int32) : Nat → Int32
  | 0 => 0
  | k + 1 => if vAt V r (nI k) = 0 then nsF V r k ||| (1 <<< (nI k &&& 31)) else nsF V r k
set_option maxRecDepth 100000 in
set_option maxHeartbeats 4000000 in
theorem CX10_noughts_loop {n q n0 : Nat} (hq : q < n) : ∀ (d j : Nat) (τ : Nat → Nat → Int32), j + d = 24 → xK τ n → xSame σ τ → Go l mX10_noughts n0 (fun rv w' => ∃ σ', w' = xW σ' ∧ xK σ' n ∧ xSame σ σ' ∧ rv = some (.int (nsF (TT (σ 2) (σ 3) (σ 1 2)) (nI q) 24))) (0, 0) 18 [some (.ref 0), some (.int (nI q)), some (.int (nsF (TT (σ 2) (σ 3) (σ 1 2)) (nI q) j)), some (.int (nI j))] [] (xW τ) := by
  intro d
  induction d with
  | zero =>
    intro j τ hj hK0 hS0
    have e1 : j = 24 := by omega
    subst e1
    refine g_iload_n dX10_noughts_18 rfl rfl ?_
    refine g_bipush (v := 24) dX10_noughts_19 (by decide) ?_
    refine g_icmp_ge (tgt := 52) dX10_noughts_21 rfl (fun c_21 => ?_) (fun c_21 => by exfalso; revert c_21; decide)
    refine g_iload_n dX10_noughts_52 rfl rfl ?_
    exact g_iret dX10_noughts_53 rfl rfl ⟨τ, rfl, hK0, hS0, rfl⟩
  | succ d ih =>
    intro j τ hj hK0 hS0
    have eT : TT (τ 2) (τ 3) (τ 1 2) = (TT (σ 2) (σ 3) (σ 1 2)) := by rw [hS0.1 2 (by decide), hS0.1 3 (by decide), hS0.1 1 (by decide)]
    refine g_iload_n dX10_noughts_18 rfl rfl ?_
    refine g_bipush (v := 24) dX10_noughts_19 (by decide) ?_
    refine g_icmp_ge (tgt := 52) dX10_noughts_21 rfl (fun c_21 => by exact absurd c_21 (nI_ge (b := 24) (by omega) (by decide))) (fun c_21 => ?_)
    refine g_aload_n dX10_noughts_24 rfl rfl ?_
    refine g_getf dX10_noughts_25 fX10_45 (xW_at (by decide) xC0) rfl ?_
    refine g_aload_n dX10_noughts_28 rfl rfl ?_
    refine g_getf dX10_noughts_29 fX10_10 (xW_at (by decide) xC0) rfl ?_
    refine g_iload_n dX10_noughts_32 rfl rfl ?_
    refine g_iload_n dX10_noughts_33 rfl rfl ?_
    refine g_V3p (CX9_atK hK0 hq) kX10_noughts_141 dX10_noughts_34 (xW_at (by decide) xC13) rfl ⟨rfl, rfl⟩ (Nat.le_of_ble_eq_true rfl) ⟨(Nat.le_of_ble_eq_true rfl), (Nat.le_of_ble_eq_true rfl)⟩ ?_
    rintro rv w1 ⟨τ', rfl, hK', hS, rfl⟩
    rw [eT]
    refine g_if_ne (tgt := 46) dX10_noughts_37 rfl (fun c_37 => ?_) (fun c_37 => ?_)
    · refine g_iinc (v := 1) dX10_noughts_46 (by decide) rfl (Nat.le_of_ble_eq_true rfl) rfl ?_
      refine g_goto (tgt := 18) dX10_noughts_49 rfl ?_
      exact Go.eq rfl (show _ = _ by rw [← nI_1 j, nsF, if_neg c_37]; rfl) rfl rfl (ih (j + 1) τ' (by omega) hK' (hS0.tr hS))
    · refine g_iload_n dX10_noughts_40 rfl rfl ?_
      refine g_iconst (v := 1) dX10_noughts_41 (by decide) ?_
      refine g_iload_n dX10_noughts_42 rfl rfl ?_
      refine g_ishl dX10_noughts_43 ?_
      refine g_ior dX10_noughts_44 ?_
      refine g_istore_n dX10_noughts_45 rfl (Nat.le_of_ble_eq_true rfl) rfl ?_
      refine g_iinc (v := 1) dX10_noughts_46 (by decide) rfl (Nat.le_of_ble_eq_true rfl) rfl ?_
      refine g_goto (tgt := 18) dX10_noughts_49 rfl ?_
      exact Go.eq rfl (show _ = _ by rw [← nI_1 j, nsF, if_pos c_37]; rfl) rfl rfl (ih (j + 1) τ' (by omega) hK' (hS0.tr hS))
set_option maxRecDepth 100000 in
set_option maxHeartbeats 4000000 in
theorem CX10_noughts {n : Nat} (hK : xK σ n) {r : Int32} : Ct l mX10_noughts [.ref 0, .int r] (xW σ) (fun rv w' => ∃ σ', w' = xW σ' ∧ xK σ' n ∧ xSame σ σ' ∧ rv = some (.int (if ldH (σ 1 2) r then nsF (TT (σ 2) (σ 3) (σ 1 2)) r 24 else 2000000101))) := by
  refine Ct.of rfl (Nat.le_of_ble_eq_true rfl) ?_
  refine g_aload_n dX10_noughts_0 rfl rfl ?_
  refine g_getf dX10_noughts_1 fX10_10 (xW_at (by decide) xC0) rfl ?_
  refine g_iload_n dX10_noughts_4 rfl rfl ?_
  refine g_V1r (CX3_holds xLed1) kX10_noughts_122 dX10_noughts_5 (xW_at xLed1.1.1 xLed1.2.1) rfl ⟨rfl, rfl⟩ (Nat.le_of_ble_eq_true rfl) ⟨(Nat.le_of_ble_eq_true rfl), (Nat.le_of_ble_eq_true rfl)⟩ ?_
  refine g_if_ne (tgt := 14) dX10_noughts_8 rfl (fun c_8 => ?_) (fun c_8 => ?_)
  · have hH : ldH (σ 1 2) r := Classical.byContradiction (fun z => c_8 (bI_f z))
    obtain ⟨q, hq, er⟩ := (ldH_iff hK.1).mp (hK.2.1 ▸ hH)
    refine g_iconst (v := 0) dX10_noughts_14 (by decide) ?_
    refine g_istore_n dX10_noughts_15 rfl (Nat.le_of_ble_eq_true rfl) rfl ?_
    refine g_iconst (v := 0) dX10_noughts_16 (by decide) ?_
    refine g_istore_n dX10_noughts_17 rfl (Nat.le_of_ble_eq_true rfl) rfl ?_
    subst er
    rw [if_pos hH]
    exact CX10_noughts_loop hq 24 0 σ rfl hK xSame.rf
  · refine g_ldc dX10_noughts_11 tb_439 ?_
    exact g_iret dX10_noughts_13 rfl rfl ⟨σ, rfl, hK, xSame.rf, by rw [if_neg (bI_0.mp c_8)]⟩
end
