theorem xK_keep {σ σ' : Nat → Nat → Int32} {n : Nat} (h : ∀ c, c < 162 → c < 8 ∨ 12 < c → σ' c = σ c) (hK : xK σ n) : xK σ' n := by
  obtain ⟨h1, h2, h3, h4, h5, h6⟩ := hK
  have e1 := h 1 (by decide) (by decide)
  have e2 := h 2 (by decide) (by decide)
  have e3 := h 3 (by decide) (by decide)
  have e13 := h 13 (by decide) (by decide)
  have e14 := h 14 (by decide) (by decide)
  have e17 := h 17 (by decide) (by decide)
  refine ⟨h1, by rw [e1]; exact h2, by rw [e1, e2, e3]; exact h3, by rw [e1, e2, e3]; exact h4, ?_, fun t ht => ?_⟩
  · obtain ⟨m, a1, a2, a3⟩ := h5
    exact ⟨m, a1, by rw [e13]; exact a2, by rw [e1, e2, e3, e14]; exact a3⟩
  · obtain ⟨m, a1, a2, a3⟩ := h6 t ht
    refine ⟨m, a1, by rw [e17]; exact a2, fun q hq k hk => ?_⟩
    have ez : ∀ x, x < 8 → cyZ σ' t x = cyZ σ t x := fun x hx => h _ (by unfold cyI; omega) (by unfold cyI; omega)
    rw [e1, e2, e3, ez q (by omega), a3 q hq k hk]
    exact cyRow_cong h3 (by omega) (fun x hx => (ez x (by omega)).symm)
theorem xSame.K {σ τ : Nat → Nat → Int32} (h : xSame σ τ) : τ 2 = σ 2 ∧ τ 3 = σ 3 ∧ τ 1 = σ 1 := ⟨h.1 2 (by decide), h.1 3 (by decide), h.1 1 (by decide)⟩
def enF (Z : Nat → Nat) : Nat → Nat → Int32
  | 0, _ => 2000000001
  | d + 1, j => if Z j = 0 then nI (2 + j) else enF Z d (j + 1)
def zrQ (K N : Nat → Int32) (sz : Int32) (q t : Nat) : Nat := zrA (RZ K N sz t q) (rnd t)
theorem zrA_le (A : Nat → Int32) {R : Nat} (hR : 1 ≤ R) : zrA A R ≤ R := Nat.le_trans (nz0_le _ _ _) (lpA_bd A hR).2
section
variable {l : Launch} {σ : Nat → Nat → Int32}
set_option maxRecDepth 100000 in
set_option maxHeartbeats 4000000 in
theorem CX10_ends_loop {n q n0 : Nat} (hq : q < n) : ∀ (d j : Nat) (τ : Nat → Nat → Int32), j + d = 9 → xK τ n → xSame σ τ → Go l mX10_ends n0 (fun rv w' => ∃ σ', w' = xW σ' ∧ xK σ' n ∧ xSame σ σ' ∧ rv = some (.int (enF (zrQ (σ 2) (σ 3) (σ 1 2) q) d j))) (0, 0) 16 [some (.ref 0), some (.int (nI q)), some (.int (nI (2 + j)))] [] (xW τ) := by
  intro d
  induction d with
  | zero =>
    intro j τ hj hK0 hS0
    have e1 : j = 9 := by omega
    subst e1
    refine g_iload_n dX10_ends_16 rfl rfl ?_
    refine g_bipush (v := 10) dX10_ends_17 (by decide) ?_
    refine g_icmp_gt (tgt := 40) dX10_ends_19 rfl (fun c_19 => ?_) (fun c_19 => by exfalso; revert c_19; decide)
    refine g_ldc dX10_ends_40 tb_449 ?_
    exact g_iret dX10_ends_42 rfl rfl ⟨τ, rfl, hK0, hS0, rfl⟩
  | succ d ih =>
    intro j τ hj hK0 hS0
    have eL : (if ldH (τ 1 2) (nI q) then (if (2 ≤ nI (2 + j) ∧ nI (2 + j) ≤ 10) ∧ (0 : Int32) ≤ 2 ∧ (2 : Int32) ≤ 2 then lapV (RZ (τ 2) (τ 3) (τ 1 2) ((nI (2 + j)).toNatClampNeg - 2) (nI q).toNatClampNeg) (rnd ((nI (2 + j)).toNatClampNeg - 2)) 2 else 2000000102) else 2000000101) = nI (zrQ (σ 2) (σ 3) (σ 1 2) q j) := by
      rw [if_pos (by rw [hK0.2.1]; exact (ldH_iff hK0.1).mpr ⟨q, hq, rfl⟩), if_pos ⟨⟨nI_le (a := 2) (by omega) (by omega), nI_le (b := 10) (by omega) (by decide)⟩, by decide, by decide⟩, nI_clamp (by omega), nI_clamp (show q < 2 ^ 31 by have := hK0.1; omega), Nat.add_sub_cancel_left, lapV, if_neg (by decide), if_neg (by decide), (hS0.K).1, (hS0.K).2.1, (hS0.K).2.2]
      rfl
    refine g_iload_n dX10_ends_16 rfl rfl ?_
    refine g_bipush (v := 10) dX10_ends_17 (by decide) ?_
    refine g_icmp_gt (tgt := 40) dX10_ends_19 rfl (fun c_19 => by exact absurd c_19 (nI_nlt (a := 10) (b := 2 + j) (by omega) (by decide))) (fun c_19 => ?_)
    refine g_aload_n dX10_ends_22 rfl rfl ?_
    refine g_iload_n dX10_ends_23 rfl rfl ?_
    refine g_iload_n dX10_ends_24 rfl rfl ?_
    refine g_iconst (v := 2) dX10_ends_25 (by decide) ?_
    refine g_V3p (CX10_lap hK0) kX10_ends_205 dX10_ends_26 (xW_at (by decide) xC0) rfl ⟨rfl, rfl⟩ (Nat.le_of_ble_eq_true rfl) ⟨(Nat.le_of_ble_eq_true rfl), (Nat.le_of_ble_eq_true rfl)⟩ ?_
    rintro rv w1 ⟨τ', rfl, hK', hS, rfl⟩
    rw [eL]
    refine g_if_ne (tgt := 34) dX10_ends_29 rfl (fun c_29 => ?_) (fun c_29 => ?_)
    · refine g_iinc (v := 1) dX10_ends_34 (by decide) rfl (Nat.le_of_ble_eq_true rfl) rfl ?_
      refine g_goto (tgt := 16) dX10_ends_37 rfl ?_
      have e : enF (zrQ (σ 2) (σ 3) (σ 1 2) q) (d + 1) j = enF (zrQ (σ 2) (σ 3) (σ 1 2) q) d (j + 1) := by
        rw [enF, if_neg (fun z => c_29 (by rw [z]; rfl))]
      rw [e]
      exact Go.eq rfl (show _ = _ by rw [show 2 + (j + 1) = 2 + j + 1 by omega, ← nI_1 (2 + j)]; rfl) rfl rfl (ih (j + 1) τ' (by omega) hK' (hS0.tr hS))
    · refine g_iload_n dX10_ends_32 rfl rfl ?_
      exact g_iret dX10_ends_33 rfl rfl ⟨τ', rfl, hK', hS0.tr hS, by rw [enF, if_pos (show zrQ (σ 2) (σ 3) (σ 1 2) q j = 0 from nI_inj (Nat.lt_of_le_of_lt (zrA_le _ (rnd_bd j (by omega)).1) (by have := rnd_bd j (by omega); omega)) (by decide) c_29)]⟩
set_option maxRecDepth 100000 in
set_option maxHeartbeats 4000000 in
theorem CX10_ends {n : Nat} (hK : xK σ n) {r : Int32} : Ct l mX10_ends [.ref 0, .int r] (xW σ) (fun rv w' => ∃ σ', w' = xW σ' ∧ xK σ' n ∧ xSame σ σ' ∧ rv = some (.int (if ldH (σ 1 2) r then enF (zrQ (σ 2) (σ 3) (σ 1 2) r.toNatClampNeg) 9 0 else 2000000101))) := by
  refine Ct.of rfl (Nat.le_of_ble_eq_true rfl) ?_
  refine g_aload_n dX10_ends_0 rfl rfl ?_
  refine g_getf dX10_ends_1 fX10_10 (xW_at (by decide) xC0) rfl ?_
  refine g_iload_n dX10_ends_4 rfl rfl ?_
  refine g_V1r (CX3_holds xLed1) kX10_ends_122 dX10_ends_5 (xW_at xLed1.1.1 xLed1.2.1) rfl ⟨rfl, rfl⟩ (Nat.le_of_ble_eq_true rfl) ⟨(Nat.le_of_ble_eq_true rfl), (Nat.le_of_ble_eq_true rfl)⟩ ?_
  refine g_if_ne (tgt := 14) dX10_ends_8 rfl (fun c_8 => ?_) (fun c_8 => ?_)
  · have hH : ldH (σ 1 2) r := Classical.byContradiction (fun z => c_8 (bI_f z))
    obtain ⟨q, hq, er⟩ := (ldH_iff hK.1).mp (hK.2.1 ▸ hH)
    subst er
    refine g_iconst (v := 2) dX10_ends_14 (by decide) ?_
    refine g_istore_n dX10_ends_15 rfl (Nat.le_of_ble_eq_true rfl) rfl ?_
    rw [if_pos hH, nI_clamp (show q < 2 ^ 31 by have := hK.1; omega)]
    exact CX10_ends_loop hq 9 0 σ rfl hK xSame.rf
  · refine g_ldc dX10_ends_11 tb_439 ?_
    exact g_iret dX10_ends_13 rfl rfl ⟨σ, rfl, hK, xSame.rf, by rw [if_neg (bI_0.mp c_8)]⟩
set_option maxRecDepth 100000 in
set_option maxHeartbeats 4000000 in
theorem CX10_hasRemainderNought {n q t k : Nat} (ht : t < 9) (hK : xK σ n) (hq : q < n) (hk : k < 2 ^ 31) : Ct l mX10_hasRemainderNought [.ref 0, .int (nI q), .int (nI k), .int (nI (2 + t))] (xW σ) (fun rv w' => ∃ σ', w' = xW σ' ∧ xK σ' n ∧ xSame σ σ' ∧ rv = some (.int (bI (RZ (σ 2) (σ 3) (σ 1 2) t q k = 0)))) := by
  have ⟨mm, hm1, hm2, _⟩ := hK.2.2.2.2.2 t ht
  refine Ct.of rfl (Nat.le_of_ble_eq_true rfl) ?_
  refine g_aload_n dX10_hasRemainderNought_0 rfl rfl ?_
  refine g_getf dX10_hasRemainderNought_1 fX10_52 (xW_at (by decide) xC0) rfl ?_
  refine g_aload_n dX10_hasRemainderNought_4 rfl rfl ?_
  refine g_getf dX10_hasRemainderNought_5 fX10_10 (xW_at (by decide) xC0) rfl ?_
  refine g_iload_n dX10_hasRemainderNought_8 rfl rfl ?_
  refine g_iload_n dX10_hasRemainderNought_9 rfl rfl ?_
  refine g_V3p (CX6_cycleOfK ht hK hq hm1 hm2) kX10_hasRemainderNought_148 dX10_hasRemainderNought_10 (xW_at (by decide) xC15) rfl ⟨rfl, rfl⟩ (Nat.le_of_ble_eq_true rfl) ⟨(Nat.le_of_ble_eq_true rfl), (Nat.le_of_ble_eq_true rfl)⟩ ?_
  rintro rv w1 ⟨σ', m', rfl, hK', hS, rfl, hm', h1, h2, h3, hA⟩
  refine g_iload_n dX10_hasRemainderNought_13 rfl rfl ?_
  refine g_V1r (CX1_at (xCycI ht (r := q) (by have := hK.1; omega)) hk) kX10_hasRemainderNought_152 dX10_hasRemainderNought_14 (xW_at (by have := (xCycI ht (r := q) (by have := hK.1; omega)).1; omega) (xCycI ht (r := q) (by have := hK.1; omega)).2.1) rfl ⟨rfl, rfl⟩ (Nat.le_of_ble_eq_true rfl) ⟨(Nat.le_of_ble_eq_true rfl), (Nat.le_of_ble_eq_true rfl)⟩ ?_
  rw [hA q h2]
  refine g_if_ne (tgt := 24) dX10_hasRemainderNought_17 rfl (fun c_17 => ?_) (fun c_17 => ?_)
  · refine g_iconst (v := 0) dX10_hasRemainderNought_24 (by decide) ?_
    exact g_zret dX10_hasRemainderNought_25 rfl rfl (by first | decide | exact bI_and) ⟨σ', rfl, hK', hS, by rw [bI_f c_17]⟩
  · refine g_iconst (v := 1) dX10_hasRemainderNought_20 (by decide) ?_
    refine g_goto (tgt := 25) dX10_hasRemainderNought_21 rfl ?_
    exact g_zret dX10_hasRemainderNought_25 rfl rfl (by first | decide | exact bI_and) ⟨σ', rfl, hK', hS, by rw [bI_t c_17]⟩
abbrev opP (K N : Nat → Int32) (sz : Int32) (q k : Nat) : Prop := RZ K N sz 5 q k = 0 ∧ RZ K N sz 7 q k = 0 ∧ RZ K N sz 6 q k = 0 ∧ RZ K N sz 3 q k = 0
set_option maxRecDepth 100000 in
set_option maxHeartbeats 4000000 in
theorem CX10_isOpenAt {n q k : Nat} (hK : xK σ n) (hq : q < n) (hk : k < 2 ^ 31) : Ct l mX10_isOpenAt [.ref 0, .int (nI q), .int (nI k)] (xW σ) (fun rv w' => ∃ σ', w' = xW σ' ∧ xK σ' n ∧ xSame σ σ' ∧ rv = some (.int (bI (opP (σ 2) (σ 3) (σ 1 2) q k)))) := by
  refine Ct.of rfl (Nat.le_of_ble_eq_true rfl) ?_
  refine g_aload_n dX10_isOpenAt_0 rfl rfl ?_
  refine g_iload_n dX10_isOpenAt_1 rfl rfl ?_
  refine g_iload_n dX10_isOpenAt_2 rfl rfl ?_
  refine g_bipush (v := 7) dX10_isOpenAt_3 (by decide) ?_
  refine g_V3p (CX10_hasRemainderNought (t := 5) (by decide) hK hq hk) kX10_isOpenAt_308 dX10_isOpenAt_5 (xW_at (by decide) xC0) rfl ⟨rfl, rfl⟩ (Nat.le_of_ble_eq_true rfl) ⟨(Nat.le_of_ble_eq_true rfl), (Nat.le_of_ble_eq_true rfl)⟩ ?_
  rintro rv w1 ⟨τ1, rfl, hK1, hT1, rfl⟩
  have hS1 := hT1
  refine g_if_eq (tgt := 47) dX10_isOpenAt_8 rfl (fun c_8 => ?_) (fun c_8 => ?_)
  · refine g_iconst (v := 0) dX10_isOpenAt_47 (by decide) ?_
    exact g_zret dX10_isOpenAt_48 rfl rfl (by first | decide | exact bI_and) ⟨τ1, rfl, hK1, hS1, by rw [bI_f (fun z => bI_0.mp c_8 z.1)]⟩
  · refine g_aload_n dX10_isOpenAt_11 rfl rfl ?_
    refine g_iload_n dX10_isOpenAt_12 rfl rfl ?_
    refine g_iload_n dX10_isOpenAt_13 rfl rfl ?_
    refine g_bipush (v := 9) dX10_isOpenAt_14 (by decide) ?_
    refine g_V3p (CX10_hasRemainderNought (t := 7) (by decide) hK1 hq hk) kX10_isOpenAt_308 dX10_isOpenAt_16 (xW_at (by decide) xC0) rfl ⟨rfl, rfl⟩ (Nat.le_of_ble_eq_true rfl) ⟨(Nat.le_of_ble_eq_true rfl), (Nat.le_of_ble_eq_true rfl)⟩ ?_
    rintro rv w1 ⟨τ2, rfl, hK2, hT2, rfl⟩
    have hS2 := hS1.tr hT2
    rw [(hS1.K).1, (hS1.K).2.1, (hS1.K).2.2]
    refine g_if_eq (tgt := 47) dX10_isOpenAt_19 rfl (fun c_19 => ?_) (fun c_19 => ?_)
    · refine g_iconst (v := 0) dX10_isOpenAt_47 (by decide) ?_
      exact g_zret dX10_isOpenAt_48 rfl rfl (by first | decide | exact bI_and) ⟨τ2, rfl, hK2, hS2, by rw [bI_f (fun z => bI_0.mp c_19 z.2.1)]⟩
    · refine g_aload_n dX10_isOpenAt_22 rfl rfl ?_
      refine g_iload_n dX10_isOpenAt_23 rfl rfl ?_
      refine g_iload_n dX10_isOpenAt_24 rfl rfl ?_
      refine g_bipush (v := 8) dX10_isOpenAt_25 (by decide) ?_
      refine g_V3p (CX10_hasRemainderNought (t := 6) (by decide) hK2 hq hk) kX10_isOpenAt_308 dX10_isOpenAt_27 (xW_at (by decide) xC0) rfl ⟨rfl, rfl⟩ (Nat.le_of_ble_eq_true rfl) ⟨(Nat.le_of_ble_eq_true rfl), (Nat.le_of_ble_eq_true rfl)⟩ ?_
      rintro rv w1 ⟨τ3, rfl, hK3, hT3, rfl⟩
      have hS3 := hS2.tr hT3
      rw [(hS2.K).1, (hS2.K).2.1, (hS2.K).2.2]
      refine g_if_eq (tgt := 47) dX10_isOpenAt_30 rfl (fun c_30 => ?_) (fun c_30 => ?_)
      · refine g_iconst (v := 0) dX10_isOpenAt_47 (by decide) ?_
        exact g_zret dX10_isOpenAt_48 rfl rfl (by first | decide | exact bI_and) ⟨τ3, rfl, hK3, hS3, by rw [bI_f (fun z => bI_0.mp c_30 z.2.2.1)]⟩
      · refine g_aload_n dX10_isOpenAt_33 rfl rfl ?_
        refine g_iload_n dX10_isOpenAt_34 rfl rfl ?_
        refine g_iload_n dX10_isOpenAt_35 rfl rfl ?_
        refine g_iconst (v := 5) dX10_isOpenAt_36 (by decide) ?_
        refine g_V3p (CX10_hasRemainderNought (t := 3) (by decide) hK3 hq hk) kX10_isOpenAt_308 dX10_isOpenAt_37 (xW_at (by decide) xC0) rfl ⟨rfl, rfl⟩ (Nat.le_of_ble_eq_true rfl) ⟨(Nat.le_of_ble_eq_true rfl), (Nat.le_of_ble_eq_true rfl)⟩ ?_
        rintro rv w1 ⟨τ4, rfl, hK4, hT4, rfl⟩
        have hS4 := hS3.tr hT4
        rw [(hS3.K).1, (hS3.K).2.1, (hS3.K).2.2]
        refine g_if_eq (tgt := 47) dX10_isOpenAt_40 rfl (fun c_40 => ?_) (fun c_40 => ?_)
        · refine g_iconst (v := 0) dX10_isOpenAt_47 (by decide) ?_
          exact g_zret dX10_isOpenAt_48 rfl rfl (by first | decide | exact bI_and) ⟨τ4, rfl, hK4, hS4, by rw [bI_f (fun z => bI_0.mp c_40 z.2.2.2)]⟩
        · refine g_iconst (v := 1) dX10_isOpenAt_43 (by decide) ?_
          refine g_goto (tgt := 48) dX10_isOpenAt_44 rfl ?_
          exact g_zret dX10_isOpenAt_48 rfl rfl (by first | decide | exact bI_and) ⟨τ4, rfl, hK4, hS4, by rw [bI_t ⟨Classical.byContradiction (fun z => c_8 (bI_f z)), Classical.byContradiction (fun z => c_19 (bI_f z)), Classical.byContradiction (fun z => c_30 (bI_f z)), Classical.byContradiction (fun z => c_40 (bI_f z))⟩]⟩
def opN (P : Nat → Bool) : Nat → Nat
  | 0 => 0
  | k + 1 => opN P k + (if P k then 1 else 0)
def opG (P : Nat → Bool) : Nat → Int32
  | 0 => 2000000001
  | k + 1 => if P k then nI k else opG P k
def opB (K N : Nat → Int32) (sz : Int32) (q k : Nat) : Bool := decide (opP K N sz q k)
set_option maxRecDepth 100000 in
set_option maxHeartbeats 4000000 in
theorem CX10_open_loop {n q n0 : Nat} {k : Int32} (hq : q < n) : ∀ (d j : Nat) (τ : Nat → Nat → Int32), j + d = 1000 → xK τ n → xSame σ τ → Go l mX10_open n0 (fun rv w' => ∃ σ', w' = xW σ' ∧ xK σ' n ∧ xSame σ σ' ∧ rv = some (.int (if k = 0 then nI (opN (opB (σ 2) (σ 3) (σ 1 2) q) 1000) else opG (opB (σ 2) (σ 3) (σ 1 2) q) 1000))) (0, 0) 35 [some (.ref 0), some (.int (nI q)), some (.int k), some (.int (nI (opN (opB (σ 2) (σ 3) (σ 1 2) q) j))), some (.int (opG (opB (σ 2) (σ 3) (σ 1 2) q) j)), some (.int (nI j))] [] (xW τ) := by
  intro d
  induction d with
  | zero =>
    intro j τ hj hK0 hS0
    have e1 : j = 1000 := by omega
    subst e1
    refine g_iload dX10_open_35 rfl ?_
    refine g_sipush (v := 1000) dX10_open_37 (by decide) ?_
    refine g_icmp_ge (tgt := 66) dX10_open_40 rfl (fun c_40 => ?_) (fun c_40 => by exfalso; revert c_40; decide)
    refine g_iload_n dX10_open_66 rfl rfl ?_
    refine g_if_ne (tgt := 74) dX10_open_67 rfl (fun c_67 => ?_) (fun c_67 => ?_)
    · refine g_iload dX10_open_74 rfl ?_
      exact g_iret dX10_open_76 rfl rfl ⟨τ, rfl, hK0, hS0, by rw [if_neg c_67]⟩
    · refine g_iload_n dX10_open_70 rfl rfl ?_
      refine g_goto (tgt := 76) dX10_open_71 rfl ?_
      exact g_iret dX10_open_76 rfl rfl ⟨τ, rfl, hK0, hS0, by rw [if_pos c_67]⟩
  | succ d ih =>
    intro j τ hj hK0 hS0
    refine g_iload dX10_open_35 rfl ?_
    refine g_sipush (v := 1000) dX10_open_37 (by decide) ?_
    refine g_icmp_ge (tgt := 66) dX10_open_40 rfl (fun c_40 => by exact absurd c_40 (nI_ge (b := 1000) (by omega) (by decide))) (fun c_40 => ?_)
    refine g_aload_n dX10_open_43 rfl rfl ?_
    refine g_iload_n dX10_open_44 rfl rfl ?_
    refine g_iload dX10_open_45 rfl ?_
    refine g_V2p (CX10_isOpenAt hK0 hq (k := j) (by omega)) kX10_open_209 dX10_open_47 (xW_at (by decide) xC0) rfl ⟨rfl, rfl⟩ (Nat.le_of_ble_eq_true rfl) ⟨(Nat.le_of_ble_eq_true rfl), (Nat.le_of_ble_eq_true rfl)⟩ ?_
    rintro rv w1 ⟨τ', rfl, hK', hS, rfl⟩
    rw [(hS0.K).1, (hS0.K).2.1, (hS0.K).2.2]
    refine g_if_eq (tgt := 60) dX10_open_50 rfl (fun c_50 => ?_) (fun c_50 => ?_)
    · refine g_iinc (v := 1) dX10_open_60 (by decide) rfl (Nat.le_of_ble_eq_true rfl) rfl ?_
      refine g_goto (tgt := 35) dX10_open_63 rfl ?_
      exact Go.eq rfl (show _ = _ by rw [← nI_1 j, opN, opG, if_neg (show ¬ opB (σ 2) (σ 3) (σ 1 2) q j = true from fun z => bI_0.mp c_50 (of_decide_eq_true z)), if_neg (show ¬ opB (σ 2) (σ 3) (σ 1 2) q j = true from fun z => bI_0.mp c_50 (of_decide_eq_true z)), Nat.add_zero]; rfl) rfl rfl (ih (j + 1) τ' (by omega) hK' (hS0.tr hS))
    · refine g_iinc (v := 1) dX10_open_53 (by decide) rfl (Nat.le_of_ble_eq_true rfl) rfl ?_
      refine g_iload dX10_open_56 rfl ?_
      refine g_istore dX10_open_58 (Nat.le_of_ble_eq_true rfl) rfl ?_
      refine g_iinc (v := 1) dX10_open_60 (by decide) rfl (Nat.le_of_ble_eq_true rfl) rfl ?_
      refine g_goto (tgt := 35) dX10_open_63 rfl ?_
      exact Go.eq rfl (show _ = _ by rw [← nI_1 j, opN, opG, if_pos (show opB (σ 2) (σ 3) (σ 1 2) q j = true from decide_eq_true (Classical.byContradiction (fun z => c_50 (bI_f z)))), if_pos (show opB (σ 2) (σ 3) (σ 1 2) q j = true from decide_eq_true (Classical.byContradiction (fun z => c_50 (bI_f z)))), ← nI_1]; rfl) rfl rfl (ih (j + 1) τ' (by omega) hK' (hS0.tr hS))
set_option maxRecDepth 100000 in
set_option maxHeartbeats 4000000 in
theorem CX10_open {n : Nat} (hK : xK σ n) {r k : Int32} : Ct l mX10_open [.ref 0, .int r, .int k] (xW σ) (fun rv w' => ∃ σ', w' = xW σ' ∧ xK σ' n ∧ xSame σ σ' ∧ rv = some (.int (if ldH (σ 1 2) r then (if 0 ≤ k ∧ k ≤ 1 then (if k = 0 then nI (opN (opB (σ 2) (σ 3) (σ 1 2) r.toNatClampNeg) 1000) else opG (opB (σ 2) (σ 3) (σ 1 2) r.toNatClampNeg) 1000) else 2000000102) else 2000000101))) := by
  refine Ct.of rfl (Nat.le_of_ble_eq_true rfl) ?_
  refine g_aload_n dX10_open_0 rfl rfl ?_
  refine g_getf dX10_open_1 fX10_10 (xW_at (by decide) xC0) rfl ?_
  refine g_iload_n dX10_open_4 rfl rfl ?_
  refine g_V1r (CX3_holds xLed1) kX10_open_122 dX10_open_5 (xW_at xLed1.1.1 xLed1.2.1) rfl ⟨rfl, rfl⟩ (Nat.le_of_ble_eq_true rfl) ⟨(Nat.le_of_ble_eq_true rfl), (Nat.le_of_ble_eq_true rfl)⟩ ?_
  refine g_if_ne (tgt := 14) dX10_open_8 rfl (fun c_8 => ?_) (fun c_8 => ?_)
  · have hH : ldH (σ 1 2) r := Classical.byContradiction (fun z => c_8 (bI_f z))
    obtain ⟨q, hq, er⟩ := (ldH_iff hK.1).mp (hK.2.1 ▸ hH)
    subst er
    refine g_iload_n dX10_open_14 rfl rfl ?_
    refine g_iconst (v := 0) dX10_open_15 (by decide) ?_
    refine g_iconst (v := 1) dX10_open_16 (by decide) ?_
    refine g_S3r CX10_isWithin kX10_open_76 dX10_open_17 ⟨rfl, rfl⟩ (Nat.le_of_ble_eq_true rfl) ⟨(Nat.le_of_ble_eq_true rfl), (Nat.le_of_ble_eq_true rfl)⟩ ?_
    refine g_if_ne (tgt := 26) dX10_open_20 rfl (fun c_20 => ?_) (fun c_20 => ?_)
    · refine g_iconst (v := 0) dX10_open_26 (by decide) ?_
      refine g_istore_n dX10_open_27 rfl (Nat.le_of_ble_eq_true rfl) rfl ?_
      refine g_ldc dX10_open_28 tb_449 ?_
      refine g_istore dX10_open_30 (Nat.le_of_ble_eq_true rfl) rfl ?_
      refine g_iconst (v := 0) dX10_open_32 (by decide) ?_
      refine g_istore dX10_open_33 (Nat.le_of_ble_eq_true rfl) rfl ?_
      rw [if_pos hH, if_pos (Classical.byContradiction (fun z => c_20 (bI_f z))), nI_clamp (show q < 2 ^ 31 by have := hK.1; omega)]
      exact CX10_open_loop hq 1000 0 σ rfl hK xSame.rf
    · refine g_ldc dX10_open_23 tb_299 ?_
      exact g_iret dX10_open_25 rfl rfl ⟨σ, rfl, hK, xSame.rf, by rw [if_pos hH, if_neg (bI_0.mp c_20)]⟩
  · refine g_ldc dX10_open_11 tb_439 ?_
    exact g_iret dX10_open_13 rfl rfl ⟨σ, rfl, hK, xSame.rf, by rw [if_neg (bI_0.mp c_8)]⟩
end
