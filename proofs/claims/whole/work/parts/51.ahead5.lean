theorem xK_rem {σ Z : Nat → Nat → Int32} {n m t : Nat} (ht : t < 9) (h : xK σ n) (hm : m ≤ n) (hok : ∀ q, q < m → cyEq (σ 2) (σ 3) (σ 1 2) Z t q) : xK (put (cyP σ t Z) 17 t (nI m)) n ∧ xSame σ (put (cyP σ t Z) 17 t (nI m)) := by
  obtain ⟨h1, h2, h3, h4, h5, h6⟩ := h
  have e : ∀ c, c ≠ 17 → c < 18 ∨ 162 ≤ c → put (cyP σ t Z) 17 t (nI m) c = σ c := fun c a b => by rw [put_ne a, cyP_ne b ht]
  have e1 := e 1 (by decide) (by decide)
  have e2 := e 2 (by decide) (by decide)
  have e3 := e 3 (by decide) (by decide)
  have e13 := e 13 (by decide) (by decide)
  have e14 := e 14 (by decide) (by decide)
  refine ⟨⟨h1, by rw [e1]; exact h2, by rw [e1, e2, e3]; exact h3, by rw [e1, e2, e3]; exact h4, ?_, fun s hs => ?_⟩, fun c hc => e c (by omega) (by omega), fun c hc => e c (by omega) (by omega)⟩
  · obtain ⟨m2, a1, a2, a3⟩ := h5
    exact ⟨m2, a1, by rw [e13]; exact a2, by rw [e1, e2, e3, e14]; exact a3⟩
  · rw [e1, e2, e3]
    by_cases hst : s = t
    · subst hst
      refine ⟨m, hm, by rw [put_eq]; exact if_pos rfl, fun q hq k hk => ?_⟩
      have ez : ∀ x, x < 8 → cyZ (put (cyP σ s Z) 17 s (nI m)) s x = Z x := fun x hx => by unfold cyZ; rw [put_ne (by unfold cyI; omega), cyP_at hx]
      rw [ez q (by omega), hok q hq k hk]
      exact cyRow_cong h3 (by omega) (fun x hx => (ez x (by omega)).symm)
    · obtain ⟨m2, a1, a2, a3⟩ := h6 s hs
      refine ⟨m2, a1, by rw [put_eq]; show upd (cyP σ t Z 17) t (nI m) s = _; unfold upd; rw [if_neg hst, cyP_ne (by decide) ht]; exact a2, fun q hq k hk => ?_⟩
      have ez : ∀ x, x < 8 → cyZ (put (cyP σ t Z) 17 t (nI m)) s x = cyZ σ s x := fun x hx => by
        unfold cyZ
        rw [put_ne (by unfold cyI; omega)]
        unfold cyP
        rw [if_neg (by unfold cyI; omega)]
      rw [ez q (by omega), a3 q hq k hk]
      exact cyRow_cong h3 (by omega) (fun x hx => (ez x (by omega)).symm)
def lpA (A : Nat → Int32) (R : Nat) : Nat := 1 + fs (slB A R) (R - 1) 0
def hdA (A : Nat → Int32) (R : Nat) : Nat := hdF A (lpA A R) 6
def zrA (A : Nat → Int32) (R : Nat) : Nat := nz0 A (hdA A R) (lpA A R)
def lapV (A : Nat → Int32) (R : Nat) (w : Int32) : Int32 := if w = 0 then nI (lpA A R) else if w = 1 then nI (hdA A R) else nI (zrA A R)
theorem slB_cy {f : Nat → Int32} {R : Nat} : slB f R = slB (cyN f R) R := by
  funext k
  unfold slB
  congr 1
  apply propext
  constructor
  · rintro ⟨h1, h2⟩
    exact ⟨h1, fun j hj => by rw [cyN_lt (by omega), cyN_lt (by omega)]; exact h2 j hj⟩
  · rintro ⟨h1, h2⟩
    exact ⟨h1, fun j hj => by have := h2 j hj; rw [cyN_lt (by omega), cyN_lt (by omega)] at this; exact this⟩
theorem lpA_bd (A : Nat → Int32) {R : Nat} (hR : 1 ≤ R) : 1 ≤ lpA A R ∧ lpA A R ≤ R := by
  unfold lpA
  have := fs_le (slB A R) (R - 1) 0
  omega
section
variable {l : Launch} {σ : Nat → Nat → Int32}
theorem CX6_cycleOfK {n m r t : Nat} (ht : t < 9) (hK : xK σ n) (hr : r < n) (hm : m ≤ n) (hk : σ 17 t = nI m) : Ct l mX6_cycleOf [.ref 15, .ref 1, .int (nI r), .int (nI (2 + t))] (xW σ) (fun rv w' => ∃ σ' m', w' = xW σ' ∧ xK σ' n ∧ xSame σ σ' ∧ rv = some (.ref (cyI t r)) ∧ σ' 17 t = nI m' ∧ m ≤ m' ∧ r < m' ∧ m' ≤ n ∧ ∀ q, q < m' → cyN (σ' (cyI t q + 1)) (rnd t) = RZ (σ 2) (σ 3) (σ 1 2) t q) := by
  obtain ⟨m0, hm0, hk0, hok⟩ := hK.2.2.2.2.2 t ht
  have em : m0 = m := by have := hK.1; exact nI_inj (by omega) (by omega) (hk0.symm.trans hk)
  subst em
  have h8 := hK.1
  refine (CX6_cycleOf ht (by omega) (by omega) hk hK.2.2.1 hK.2.2.2.1 hok).mono ?_
  rintro rv w' ⟨Z, m', rfl, h1, h2, h3, h4, rfl, h6⟩
  obtain ⟨a, b⟩ := xK_rem ht hK (by omega) h6
  refine ⟨_, m', rfl, a, b, rfl, by rw [put_eq]; exact if_pos rfl, h3, h1, by omega, fun q hq => ?_⟩
  rw [put_ne (by unfold cyI; omega), cyP_at (by omega)]
  exact cy_RZ ht hK.2.2.1 hK.2.2.2.1 h2 h6 hq
theorem mod_ex {m : Int32} (h : 2 ≤ m ∧ m ≤ 10) : ∃ t, t < 9 ∧ m = nI (2 + t) := by
  have h0 : 0 ≤ m := by grind
  have e := tNC h0
  have h1 : m.toNatClampNeg < 11 := tNC_lt h0 (show m < nI 11 by show m < 11; grind) (by decide)
  have h2 : 2 ≤ m.toNatClampNeg := by
    rcases Nat.lt_or_ge m.toNatClampNeg 2 with q | q
    · have := nI_lt q (by decide)
      rw [← e] at this
      exfalso
      have e2 : (nI 2 : Int32) = 2 := rfl
      grind
    · exact q
  exact ⟨m.toNatClampNeg - 2, by omega, by rw [show 2 + (m.toNatClampNeg - 2) = m.toNatClampNeg by omega]; exact e⟩
set_option maxRecDepth 100000 in
set_option maxHeartbeats 4000000 in
theorem CX10_by {n : Nat} (hK : xK σ n) {r k m : Int32} : Ct l mX10_by [.ref 0, .int r, .int k, .int m] (xW σ) (fun rv w' => ∃ σ', w' = xW σ' ∧ xK σ' n ∧ xSame σ σ' ∧ rv = some (.int (if ldH (σ 1 2) r then (if 0 ≤ k ∧ 2 ≤ m ∧ m ≤ 10 then RZ (σ 2) (σ 3) (σ 1 2) (m.toNatClampNeg - 2) r.toNatClampNeg k.toNatClampNeg else 2000000102) else 2000000101))) := by
  refine Ct.of rfl (Nat.le_of_ble_eq_true rfl) ?_
  refine g_aload_n dX10_by_0 rfl rfl ?_
  refine g_getf dX10_by_1 fX10_10 (xW_at (by decide) xC0) rfl ?_
  refine g_iload_n dX10_by_4 rfl rfl ?_
  refine g_V1r (CX3_holds xLed1) kX10_by_122 dX10_by_5 (xW_at xLed1.1.1 xLed1.2.1) rfl ⟨rfl, rfl⟩ (Nat.le_of_ble_eq_true rfl) ⟨(Nat.le_of_ble_eq_true rfl), (Nat.le_of_ble_eq_true rfl)⟩ ?_
  refine g_if_ne (tgt := 14) dX10_by_8 rfl (fun c_8 => ?_) (fun c_8 => ?_)
  · have hH : ldH (σ 1 2) r := Classical.byContradiction (fun z => c_8 (bI_f z))
    obtain ⟨q, hq, er⟩ := (ldH_iff hK.1).mp (hK.2.1 ▸ hH)
    subst er
    refine g_iload_n dX10_by_14 rfl rfl ?_
    refine g_if_lt (tgt := 25) dX10_by_15 rfl (fun c_15 => ?_) (fun c_15 => ?_)
    · refine g_ldc dX10_by_25 tb_299 ?_
      exact g_iret dX10_by_27 rfl rfl ⟨σ, rfl, hK, xSame.rf, by rw [if_pos hH, if_neg (by simp only [bI] at *; grind)]⟩
    · refine g_iload_n dX10_by_18 rfl rfl ?_
      refine g_S1r CX10_isModulus kX10_by_145 dX10_by_19 ⟨rfl, rfl⟩ (Nat.le_of_ble_eq_true rfl) ⟨(Nat.le_of_ble_eq_true rfl), (Nat.le_of_ble_eq_true rfl)⟩ ?_
      refine g_if_ne (tgt := 28) dX10_by_22 rfl (fun c_22 => ?_) (fun c_22 => ?_)
      · have hM := Classical.byContradiction (fun z => c_22 (bI_f z))
        obtain ⟨t, ht, em⟩ := mod_ex hM
        subst em
        obtain ⟨mm, hm1, hm2, -⟩ := hK.2.2.2.2.2 t ht
        have k0 : 0 ≤ k := by grind
        have kb : k.toNatClampNeg < 2 ^ 31 := by have := Int32.toInt_lt k; show k.toInt.toNat < _; omega
        refine g_aload_n dX10_by_28 rfl rfl ?_
        refine g_getf dX10_by_29 fX10_52 (xW_at (by decide) xC0) rfl ?_
        refine g_aload_n dX10_by_32 rfl rfl ?_
        refine g_getf dX10_by_33 fX10_10 (xW_at (by decide) xC0) rfl ?_
        refine g_iload_n dX10_by_36 rfl rfl ?_
        refine g_iload_n dX10_by_37 rfl rfl ?_
        refine g_V3p (CX6_cycleOfK ht hK hq hm1 hm2) kX10_by_148 dX10_by_38 (xW_at (by decide) xC15) rfl ⟨rfl, rfl⟩ (Nat.le_of_ble_eq_true rfl) ⟨(Nat.le_of_ble_eq_true rfl), (Nat.le_of_ble_eq_true rfl)⟩ ?_
        rintro rv w1 ⟨σ', m', rfl, hK', hS, rfl, hm', h1, h2, h3, hA⟩
        refine g_iload_n dX10_by_41 rfl rfl ?_
        refine Go.eq rfl rfl (show _ = [Value.int (nI k.toNatClampNeg), Value.ref (cyI t q)] by rw [← tNC k0]; rfl) rfl ?_
        refine g_V1r (CX1_at (xCycI ht (r := q) (by have := hK.1; omega)) (k := k.toNatClampNeg) kb) kX10_by_152 dX10_by_42 (xW_at (by have := (xCycI ht (r := q) (by have := hK.1; omega)).1; omega) (xCycI ht (r := q) (by have := hK.1; omega)).2.1) rfl ⟨rfl, rfl⟩ (Nat.le_of_ble_eq_true rfl) ⟨(Nat.le_of_ble_eq_true rfl), (Nat.le_of_ble_eq_true rfl)⟩ ?_
        exact g_iret dX10_by_45 rfl rfl ⟨σ', rfl, hK', hS, by rw [if_pos hH, if_pos ⟨k0, hM⟩, hA q h2]; rw [nI_clamp (show q < 2 ^ 31 by have := hK.1; omega), nI_clamp (show 2 + t < 2 ^ 31 by omega), Nat.add_sub_cancel_left]⟩
      · refine g_ldc dX10_by_25 tb_299 ?_
        exact g_iret dX10_by_27 rfl rfl ⟨σ, rfl, hK, xSame.rf, by rw [if_pos hH, if_neg (by simp only [bI] at *; grind)]⟩
  · refine g_ldc dX10_by_11 tb_439 ?_
    exact g_iret dX10_by_13 rfl rfl ⟨σ, rfl, hK, xSame.rf, by rw [if_neg (bI_0.mp c_8)]⟩
set_option maxRecDepth 100000 in
set_option maxHeartbeats 4000000 in
theorem CX10_lap {n : Nat} (hK : xK σ n) {r m k : Int32} : Ct l mX10_lap [.ref 0, .int r, .int m, .int k] (xW σ) (fun rv w' => ∃ σ', w' = xW σ' ∧ xK σ' n ∧ xSame σ σ' ∧ rv = some (.int (if ldH (σ 1 2) r then (if (2 ≤ m ∧ m ≤ 10) ∧ 0 ≤ k ∧ k ≤ 2 then lapV (RZ (σ 2) (σ 3) (σ 1 2) (m.toNatClampNeg - 2) r.toNatClampNeg) (rnd (m.toNatClampNeg - 2)) k else 2000000102) else 2000000101))) := by
  refine Ct.of rfl (Nat.le_of_ble_eq_true rfl) ?_
  refine g_aload_n dX10_lap_0 rfl rfl ?_
  refine g_getf dX10_lap_1 fX10_10 (xW_at (by decide) xC0) rfl ?_
  refine g_iload_n dX10_lap_4 rfl rfl ?_
  refine g_V1r (CX3_holds xLed1) kX10_lap_122 dX10_lap_5 (xW_at xLed1.1.1 xLed1.2.1) rfl ⟨rfl, rfl⟩ (Nat.le_of_ble_eq_true rfl) ⟨(Nat.le_of_ble_eq_true rfl), (Nat.le_of_ble_eq_true rfl)⟩ ?_
  refine g_if_ne (tgt := 14) dX10_lap_8 rfl (fun c_8 => ?_) (fun c_8 => ?_)
  · have hH : ldH (σ 1 2) r := Classical.byContradiction (fun z => c_8 (bI_f z))
    obtain ⟨q, hq, er⟩ := (ldH_iff hK.1).mp (hK.2.1 ▸ hH)
    subst er
    refine g_iload_n dX10_lap_14 rfl rfl ?_
    refine g_S1r CX10_isModulus kX10_lap_145 dX10_lap_15 ⟨rfl, rfl⟩ (Nat.le_of_ble_eq_true rfl) ⟨(Nat.le_of_ble_eq_true rfl), (Nat.le_of_ble_eq_true rfl)⟩ ?_
    refine g_if_eq (tgt := 30) dX10_lap_18 rfl (fun c_18 => ?_) (fun c_18 => ?_)
    · refine g_ldc dX10_lap_30 tb_299 ?_
      exact g_iret dX10_lap_32 rfl rfl ⟨σ, rfl, hK, xSame.rf, by rw [if_pos hH, if_neg (by simp only [bI] at *; grind)]⟩
    · refine g_iload_n dX10_lap_21 rfl rfl ?_
      refine g_iconst (v := 0) dX10_lap_22 (by decide) ?_
      refine g_iconst (v := 2) dX10_lap_23 (by decide) ?_
      refine g_S3r CX10_isWithin kX10_lap_76 dX10_lap_24 ⟨rfl, rfl⟩ (Nat.le_of_ble_eq_true rfl) ⟨(Nat.le_of_ble_eq_true rfl), (Nat.le_of_ble_eq_true rfl)⟩ ?_
      refine g_if_ne (tgt := 33) dX10_lap_27 rfl (fun c_27 => ?_) (fun c_27 => ?_)
      · have hM := Classical.byContradiction (fun z => c_18 (bI_f z))
        obtain ⟨t, ht, em⟩ := mod_ex hM
        subst em
        obtain ⟨mm, hm1, hm2, -⟩ := hK.2.2.2.2.2 t ht
        refine g_aload_n dX10_lap_33 rfl rfl ?_
        refine g_getf dX10_lap_34 fX10_52 (xW_at (by decide) xC0) rfl ?_
        refine g_aload_n dX10_lap_37 rfl rfl ?_
        refine g_getf dX10_lap_38 fX10_10 (xW_at (by decide) xC0) rfl ?_
        refine g_iload_n dX10_lap_41 rfl rfl ?_
        refine g_iload_n dX10_lap_42 rfl rfl ?_
        refine g_V3p (CX6_cycleOfK ht hK hq hm1 hm2) kX10_lap_148 dX10_lap_43 (xW_at (by decide) xC15) rfl ⟨rfl, rfl⟩ (Nat.le_of_ble_eq_true rfl) ⟨(Nat.le_of_ble_eq_true rfl), (Nat.le_of_ble_eq_true rfl)⟩ ?_
        rintro rv w1 ⟨σ', m', rfl, hK', hS, rfl, hm', h1, h2, h3, hA⟩
        refine g_astore dX10_lap_46 (Nat.le_of_ble_eq_true rfl) rfl ?_
        refine g_aload dX10_lap_48 rfl ?_
        refine g_V0r (CX1_shortestLap (xCycI ht (r := q) (by have := hK.1; omega))) kX10_lap_154 dX10_lap_50 (xW_at (by have := (xCycI ht (r := q) (by have := hK.1; omega)).1; omega) (xCycI ht (r := q) (by have := hK.1; omega)).2.1) rfl ⟨rfl, rfl⟩ (Nat.le_of_ble_eq_true rfl) ⟨(Nat.le_of_ble_eq_true rfl), (Nat.le_of_ble_eq_true rfl)⟩ ?_
        rw [slB_cy, show cyN (σ' (cyI t q + 1)) (rnd t) = RZ (σ 2) (σ 3) (σ 1 2) t q from hA q h2]
        refine Go.eq rfl rfl (show _ = [Value.int (nI (lpA (RZ (σ 2) (σ 3) (σ 1 2) t q) (rnd t)))] from rfl) rfl ?_
        refine g_istore dX10_lap_53 (Nat.le_of_ble_eq_true rfl) rfl ?_
        refine g_iload_n dX10_lap_55 rfl rfl ?_
        refine g_if_ne (tgt := 62) dX10_lap_56 rfl (fun c_56 => ?_) (fun c_56 => ?_)
        · refine g_aload dX10_lap_62 rfl ?_
          refine g_iload dX10_lap_64 rfl ?_
          refine g_V1r (CX1_headFor (xCycI ht (r := q) (by have := hK.1; omega)) (p := lpA (RZ (σ 2) (σ 3) (σ 1 2) t q) (rnd t)) (by have := lpA_bd (RZ (σ 2) (σ 3) (σ 1 2) t q) (rnd_bd t ht).1; have := rnd_bd t ht; omega)) kX10_lap_157 dX10_lap_66 (xW_at (by have := (xCycI ht (r := q) (by have := hK.1; omega)).1; omega) (xCycI ht (r := q) (by have := hK.1; omega)).2.1) rfl ⟨rfl, rfl⟩ (Nat.le_of_ble_eq_true rfl) ⟨(Nat.le_of_ble_eq_true rfl), (Nat.le_of_ble_eq_true rfl)⟩ ?_
          rw [show cyN (σ' (cyI t q + 1)) (rnd t) = RZ (σ 2) (σ 3) (σ 1 2) t q from hA q h2]
          refine Go.eq rfl rfl (show _ = [Value.int (nI (hdA (RZ (σ 2) (σ 3) (σ 1 2) t q) (rnd t)))] from rfl) rfl ?_
          refine g_istore dX10_lap_69 (Nat.le_of_ble_eq_true rfl) rfl ?_
          refine g_iload_n dX10_lap_71 rfl rfl ?_
          refine g_iconst (v := 1) dX10_lap_72 (by decide) ?_
          refine g_icmp_ne (tgt := 81) dX10_lap_73 rfl (fun c_73 => ?_) (fun c_73 => ?_)
          · refine g_aload dX10_lap_81 rfl ?_
            refine g_iload dX10_lap_83 rfl ?_
            refine g_iload dX10_lap_85 rfl ?_
            refine g_V2r (CX1_noughtsFrom (xCycI ht (r := q) (by have := hK.1; omega)) (a := hdA (RZ (σ 2) (σ 3) (σ 1 2) t q) (rnd t)) (n := lpA (RZ (σ 2) (σ 3) (σ 1 2) t q) (rnd t)) (hdF_le _ _ 6) (by have := lpA_bd (RZ (σ 2) (σ 3) (σ 1 2) t q) (rnd_bd t ht).1; have := rnd_bd t ht; omega)) kX10_lap_160 dX10_lap_87 (xW_at (by have := (xCycI ht (r := q) (by have := hK.1; omega)).1; omega) (xCycI ht (r := q) (by have := hK.1; omega)).2.1) rfl ⟨rfl, rfl⟩ (Nat.le_of_ble_eq_true rfl) ⟨(Nat.le_of_ble_eq_true rfl), (Nat.le_of_ble_eq_true rfl)⟩ ?_
            rw [show cyN (σ' (cyI t q + 1)) (rnd t) = RZ (σ 2) (σ 3) (σ 1 2) t q from hA q h2]
            exact g_iret dX10_lap_90 rfl rfl ⟨σ', rfl, hK', hS, by rw [if_pos hH, if_pos ⟨hM, Classical.byContradiction (fun z => c_27 (bI_f z))⟩]; rw [nI_clamp (show q < 2 ^ 31 by have := hK.1; omega), nI_clamp (show 2 + t < 2 ^ 31 by omega), Nat.add_sub_cancel_left]; rw [lapV, if_neg c_56, if_neg c_73]; rfl⟩
          · refine g_iload dX10_lap_76 rfl ?_
            refine g_goto (tgt := 90) dX10_lap_78 rfl ?_
            exact g_iret dX10_lap_90 rfl rfl ⟨σ', rfl, hK', hS, by rw [if_pos hH, if_pos ⟨hM, Classical.byContradiction (fun z => c_27 (bI_f z))⟩]; rw [nI_clamp (show q < 2 ^ 31 by have := hK.1; omega), nI_clamp (show 2 + t < 2 ^ 31 by omega), Nat.add_sub_cancel_left]; rw [lapV, if_neg c_56, if_pos c_73]⟩
        · refine g_iload dX10_lap_59 rfl ?_
          exact g_iret dX10_lap_61 rfl rfl ⟨σ', rfl, hK', hS, by rw [if_pos hH, if_pos ⟨hM, Classical.byContradiction (fun z => c_27 (bI_f z))⟩]; rw [nI_clamp (show q < 2 ^ 31 by have := hK.1; omega), nI_clamp (show 2 + t < 2 ^ 31 by omega), Nat.add_sub_cancel_left]; rw [lapV, if_pos c_56]⟩
      · refine g_ldc dX10_lap_30 tb_299 ?_
        exact g_iret dX10_lap_32 rfl rfl ⟨σ, rfl, hK, xSame.rf, by rw [if_pos hH, if_neg (by simp only [bI] at *; grind)]⟩
  · refine g_ldc dX10_lap_11 tb_439 ?_
    exact g_iret dX10_lap_13 rfl rfl ⟨σ, rfl, hK, xSame.rf, by rw [if_neg (bI_0.mp c_8)]⟩
end
