/-- row q's remainders modulo 2 + t, out of those of its parts -/
def cyRow (K N : Nat → Int32) (sz : Int32) (Z : Nat → Nat → Int32) (t q k : Nat) : Int32 :=
  if ldKind K sz (nI q) = 0 then ct (nI (2 + t)) (ldNum N sz (nI q) 0) (ldNum N sz (nI q) 1) (ldNum N sz (nI q) 2) (ldNum N sz (nI q) 3) k
  else if ldKind K sz (nI q) = 1 then jrem (cyN (Z (ldNum N sz (nI q) 0).toNatClampNeg) (rnd t) k + cyN (Z (ldNum N sz (nI q) 1).toNatClampNeg) (rnd t) k) (nI (2 + t))
  else if ldKind K sz (nI q) = 2 then jrem (cyN (Z (ldNum N sz (nI q) 0).toNatClampNeg) (rnd t) k * cyN (Z (ldNum N sz (nI q) 1).toNatClampNeg) (rnd t) k) (nI (2 + t))
  else if ldKind K sz (nI q) = 3 then cyN (Z (ldNum N sz (nI q) 0).toNatClampNeg) (rnd t) ((ldNum N sz (nI q) 1).toNatClampNeg * k + (ldNum N sz (nI q) 2).toNatClampNeg)
  else jfm (cyN (Z (ldNum N sz (nI q) 0).toNatClampNeg) (rnd t) (k + 1) - cyN (Z (ldNum N sz (nI q) 0).toNatClampNeg) (rnd t) k) (nI (2 + t))
def cyEq (K N : Nat → Int32) (sz : Int32) (Z : Nat → Nat → Int32) (t q : Nat) : Prop := ∀ k, k < 6 + rnd t → Z q k = cyRow K N sz Z t q k
def ldWe (K N : Nat → Int32) (sz : Int32) : Prop := (∀ q, q < 8 → ldKind K sz (nI q) = 3 → ∃ n s, 1 ≤ n ∧ n ≤ 5 ∧ s ≤ 9 ∧ ldNum N sz (nI q) 1 = nI n ∧ ldNum N sz (nI q) 2 = nI s) ∧ ∀ q, q < 8 → ldKind K sz (nI q) = 0 → (-9 ≤ ldNum N sz (nI q) 0 ∧ ldNum N sz (nI q) 0 ≤ 9) ∧ -9 ≤ ldNum N sz (nI q) 1 ∧ ldNum N sz (nI q) 1 ≤ 9
def cyZ (σ : Nat → Nat → Int32) (t x : Nat) : Nat → Int32 := σ (cyI t x + 1)
def cyP (σ : Nat → Nat → Int32) (t : Nat) (Z : Nat → Nat → Int32) : Nat → Nat → Int32 := fun c => if cyI t 0 < c ∧ c < cyI t 8 ∧ c % 2 = 1 then Z ((c - cyI t 0) / 2) else σ c
theorem cyP_at {σ Z : Nat → Nat → Int32} {t x : Nat} (hx : x < 8) : cyP σ t Z (cyI t x + 1) = Z x := by
  unfold cyP
  rw [if_pos (by unfold cyI; omega)]
  congr 1; unfold cyI; omega
theorem cyP_ne {σ Z : Nat → Nat → Int32} {t c : Nat} (h : c < 18 ∨ 162 ≤ c) (ht : t < 9) : cyP σ t Z c = σ c := by
  unfold cyP
  rw [if_neg (by unfold cyI; omega)]
theorem cyP_id {σ : Nat → Nat → Int32} {t : Nat} : cyP σ t (cyZ σ t) = σ := by
  funext c
  unfold cyP
  split
  · rename_i h
    unfold cyZ
    congr 1; unfold cyI at h ⊢; omega
  · rfl
theorem cyP_put {σ Z : Nat → Nat → Int32} {t n : Nat} {F : Nat → Int32} (hn : n < 8) : putC (cyP σ t Z) (cyI t n + 1) F = cyP σ t (putC Z n F) := by
  funext c
  unfold putC cyP
  by_cases h : c = cyI t n + 1
  · subst h
    rw [if_pos rfl, if_pos (by unfold cyI; omega)]
    show F = (if (cyI t n + 1 - cyI t 0) / 2 = n then F else Z ((cyI t n + 1 - cyI t 0) / 2))
    rw [if_pos (by unfold cyI; omega)]
  · rw [if_neg h]
    split
    · rename_i h2
      show _ = (if (c - cyI t 0) / 2 = n then F else Z ((c - cyI t 0) / 2))
      rw [if_neg (by unfold cyI at h h2 ⊢; omega)]
    · rfl
theorem cyRow_put {K N : Nat → Int32} {sz : Int32} {Z : Nat → Nat → Int32} {F : Nat → Int32} {t q n k : Nat} (hwf : ldWf K N sz) (hq : q ≤ n) (hn : n < 8) : cyRow K N sz (putC Z n F) t q k = cyRow K N sz Z t q k := by
  unfold cyRow
  by_cases h0 : ldKind K sz (nI q) = 0
  · rw [if_pos h0, if_pos h0]
  · obtain ⟨⟨a, ha, ea⟩, hb⟩ := hwf q (by omega) h0
    have e1 : putC Z n F (ldNum N sz (nI q) 0).toNatClampNeg = Z (ldNum N sz (nI q) 0).toNatClampNeg := by
      rw [ea, nI_clamp (by omega)]; exact putC_ne (by omega)
    rw [if_neg h0, if_neg h0, e1]
    by_cases h3 : ldKind K sz (nI q) = 3
    · simp only [h3]; rfl
    · by_cases h4 : ldKind K sz (nI q) = 4
      · simp only [h4]; rfl
      · obtain ⟨b, hb, eb⟩ := hb h3 h4
        have e2 : putC Z n F (ldNum N sz (nI q) 1).toNatClampNeg = Z (ldNum N sz (nI q) 1).toNatClampNeg := by
          rw [eb, nI_clamp (by omega)]; exact putC_ne (by omega)
        rw [e2]
section
variable {l : Launch} {w : q_Wd} {σ : Nat → Nat → Int32}
set_option maxRecDepth 100000 in
set_option maxHeartbeats 4000000 in
theorem CX6_fill {t n : Nat} (ht : t < 9) (hn : n < 8) (hwf : ldWf (σ 2) (σ 3) (σ 1 2)) (hwe : ldWe (σ 2) (σ 3) (σ 1 2)) : Ct l mX6_fill [.ref 15, .ref 1, .int (nI n), .int (nI t)] (xW σ) (q_eq none (xW (putC σ (cyI t n + 1) (ru (σ (cyI t n + 1)) 0 (6 + rnd t) (cyRow (σ 2) (σ 3) (σ 1 2) (cyZ σ t) t n))))) := by
  refine Ct.of rfl (Nat.le_of_ble_eq_true rfl) ?_
  refine g_aload_n dX6_fill_0 rfl rfl ?_
  refine g_iload_n dX6_fill_1 rfl rfl ?_
  refine g_iload_n dX6_fill_2 rfl rfl ?_
  refine g_V2r (CX6_filled ht hn) kX6_fill_34 dX6_fill_3 (xW_at (by decide) xC15) rfl ⟨rfl, rfl⟩ (Nat.le_of_ble_eq_true rfl) ⟨(Nat.le_of_ble_eq_true rfl), (Nat.le_of_ble_eq_true rfl)⟩ ?_
  refine g_astore dX6_fill_6 (Nat.le_of_ble_eq_true rfl) rfl ?_
  refine g_aload_n dX6_fill_8 rfl rfl ?_
  refine g_iload_n dX6_fill_9 rfl rfl ?_
  refine g_iconst (v := 0) dX6_fill_10 (by decide) ?_
  refine g_V2r (CX3_numberOf xLed1) kX6_fill_38 dX6_fill_11 (xW_at xLed1.1.1 xLed1.2.1) rfl ⟨rfl, rfl⟩ (Nat.le_of_ble_eq_true rfl) ⟨(Nat.le_of_ble_eq_true rfl), (Nat.le_of_ble_eq_true rfl)⟩ ?_
  refine g_istore dX6_fill_14 (Nat.le_of_ble_eq_true rfl) rfl ?_
  refine g_aload_n dX6_fill_16 rfl rfl ?_
  refine g_iload_n dX6_fill_17 rfl rfl ?_
  refine g_iconst (v := 1) dX6_fill_18 (by decide) ?_
  refine g_V2r (CX3_numberOf xLed1) kX6_fill_38 dX6_fill_19 (xW_at xLed1.1.1 xLed1.2.1) rfl ⟨rfl, rfl⟩ (Nat.le_of_ble_eq_true rfl) ⟨(Nat.le_of_ble_eq_true rfl), (Nat.le_of_ble_eq_true rfl)⟩ ?_
  refine g_istore dX6_fill_22 (Nat.le_of_ble_eq_true rfl) rfl ?_
  refine g_aload_n dX6_fill_24 rfl rfl ?_
  refine g_iload_n dX6_fill_25 rfl rfl ?_
  refine g_iconst (v := 2) dX6_fill_26 (by decide) ?_
  refine g_V2r (CX3_numberOf xLed1) kX6_fill_38 dX6_fill_27 (xW_at xLed1.1.1 xLed1.2.1) rfl ⟨rfl, rfl⟩ (Nat.le_of_ble_eq_true rfl) ⟨(Nat.le_of_ble_eq_true rfl), (Nat.le_of_ble_eq_true rfl)⟩ ?_
  refine g_istore dX6_fill_30 (Nat.le_of_ble_eq_true rfl) rfl ?_
  refine g_aload_n dX6_fill_32 rfl rfl ?_
  refine g_iload_n dX6_fill_33 rfl rfl ?_
  refine g_V1r (CX3_kindOf xLed1) kX6_fill_43 dX6_fill_34 (xW_at xLed1.1.1 xLed1.2.1) rfl ⟨rfl, rfl⟩ (Nat.le_of_ble_eq_true rfl) ⟨(Nat.le_of_ble_eq_true rfl), (Nat.le_of_ble_eq_true rfl)⟩ ?_
  refine g_case (0) (fun s_37_0 => ?_) (fun s_37_0 => ?_)
  · refine g_tblEq (off := 31) (tgt := 68) dX6_fill_37 s_37_0 (by decide) (by decide) rfl rfl ?_
    refine g_aload dX6_fill_68 rfl ?_
    refine g_iload dX6_fill_70 rfl ?_
    refine g_iload dX6_fill_72 rfl ?_
    refine g_iload dX6_fill_74 rfl ?_
    refine g_aload_n dX6_fill_76 rfl rfl ?_
    refine g_iload_n dX6_fill_77 rfl rfl ?_
    refine g_iconst (v := 3) dX6_fill_78 (by decide) ?_
    refine g_V2r (CX3_numberOf xLed1) kX6_fill_38 dX6_fill_79 (xW_at xLed1.1.1 xLed1.2.1) rfl ⟨rfl, rfl⟩ (Nat.le_of_ble_eq_true rfl) ⟨(Nat.le_of_ble_eq_true rfl), (Nat.le_of_ble_eq_true rfl)⟩ ?_
    refine g_V4v (CX1_fillTold (xCycI ht hn)) kX6_fill_47 dX6_fill_82 (xW_at (by have := (xCycI ht hn).1; omega) (xCycI ht hn).2.1) rfl ⟨rfl, rfl⟩ (Nat.le_of_ble_eq_true rfl) ⟨(Nat.le_of_ble_eq_true rfl), (Nat.le_of_ble_eq_true rfl)⟩ ?_
    refine g_goto (tgt := 163) dX6_fill_85 rfl ?_
    exact g_vret dX6_fill_163 rfl rfl ⟨rfl, by congr 3; funext k; rw [cyRow, if_pos s_37_0]⟩
  · refine g_case (1) (fun s_37_1 => ?_) (fun s_37_1 => ?_)
    · refine g_tblEq (off := 51) (tgt := 88) dX6_fill_37 s_37_1 (by decide) (by decide) rfl rfl ?_
      obtain ⟨⟨a, ha, ea⟩, hbb⟩ := hwf n hn (by rw [s_37_1]; decide)
      obtain ⟨b, hb, eb⟩ := hbb (by rw [s_37_1]; decide) (by rw [s_37_1]; decide)
      refine g_aload dX6_fill_88 rfl ?_
      refine g_aload_n dX6_fill_90 rfl rfl ?_
      refine g_iload dX6_fill_91 rfl ?_
      rw [ea]
      refine g_iload_n dX6_fill_93 rfl rfl ?_
      refine g_V2r (CX6_filled ht (r := a) (by omega)) kX6_fill_34 dX6_fill_94 (xW_at (by decide) xC15) rfl ⟨rfl, rfl⟩ (Nat.le_of_ble_eq_true rfl) ⟨(Nat.le_of_ble_eq_true rfl), (Nat.le_of_ble_eq_true rfl)⟩ ?_
      refine g_aload_n dX6_fill_97 rfl rfl ?_
      refine g_iload dX6_fill_98 rfl ?_
      rw [eb]
      refine g_iload_n dX6_fill_100 rfl rfl ?_
      refine g_V2r (CX6_filled ht (r := b) (by omega)) kX6_fill_34 dX6_fill_101 (xW_at (by decide) xC15) rfl ⟨rfl, rfl⟩ (Nat.le_of_ble_eq_true rfl) ⟨(Nat.le_of_ble_eq_true rfl), (Nat.le_of_ble_eq_true rfl)⟩ ?_
      refine g_V2v (CX1_fillSum (xCycI ht hn) (xCycI ht (r := a) (by omega)) (by unfold cyI; omega) (xCycI ht (r := b) (by omega)) (by unfold cyI; omega)) kX6_fill_51 dX6_fill_104 (xW_at (by have := (xCycI ht hn).1; omega) (xCycI ht hn).2.1) rfl ⟨rfl, rfl⟩ (Nat.le_of_ble_eq_true rfl) ⟨(Nat.le_of_ble_eq_true rfl), (Nat.le_of_ble_eq_true rfl)⟩ ?_
      refine g_goto (tgt := 163) dX6_fill_107 rfl ?_
      exact g_vret dX6_fill_163 rfl rfl ⟨rfl, by congr 3; funext k; rw [cyRow, if_neg (by rw [s_37_1]; decide), if_pos s_37_1, ea, eb, nI_clamp (by omega), nI_clamp (by omega)]; rfl⟩
    · refine g_case (2) (fun s_37_2 => ?_) (fun s_37_2 => ?_)
      · refine g_tblEq (off := 73) (tgt := 110) dX6_fill_37 s_37_2 (by decide) (by decide) rfl rfl ?_
        obtain ⟨⟨a, ha, ea⟩, hbb⟩ := hwf n hn (by rw [s_37_2]; decide)
        obtain ⟨b, hb, eb⟩ := hbb (by rw [s_37_2]; decide) (by rw [s_37_2]; decide)
        refine g_aload dX6_fill_110 rfl ?_
        refine g_aload_n dX6_fill_112 rfl rfl ?_
        refine g_iload dX6_fill_113 rfl ?_
        rw [ea]
        refine g_iload_n dX6_fill_115 rfl rfl ?_
        refine g_V2r (CX6_filled ht (r := a) (by omega)) kX6_fill_34 dX6_fill_116 (xW_at (by decide) xC15) rfl ⟨rfl, rfl⟩ (Nat.le_of_ble_eq_true rfl) ⟨(Nat.le_of_ble_eq_true rfl), (Nat.le_of_ble_eq_true rfl)⟩ ?_
        refine g_aload_n dX6_fill_119 rfl rfl ?_
        refine g_iload dX6_fill_120 rfl ?_
        rw [eb]
        refine g_iload_n dX6_fill_122 rfl rfl ?_
        refine g_V2r (CX6_filled ht (r := b) (by omega)) kX6_fill_34 dX6_fill_123 (xW_at (by decide) xC15) rfl ⟨rfl, rfl⟩ (Nat.le_of_ble_eq_true rfl) ⟨(Nat.le_of_ble_eq_true rfl), (Nat.le_of_ble_eq_true rfl)⟩ ?_
        refine g_V2v (CX1_fillProduct (xCycI ht hn) (xCycI ht (r := a) (by omega)) (by unfold cyI; omega) (xCycI ht (r := b) (by omega)) (by unfold cyI; omega)) kX6_fill_55 dX6_fill_126 (xW_at (by have := (xCycI ht hn).1; omega) (xCycI ht hn).2.1) rfl ⟨rfl, rfl⟩ (Nat.le_of_ble_eq_true rfl) ⟨(Nat.le_of_ble_eq_true rfl), (Nat.le_of_ble_eq_true rfl)⟩ ?_
        refine g_goto (tgt := 163) dX6_fill_129 rfl ?_
        exact g_vret dX6_fill_163 rfl rfl ⟨rfl, by congr 3; funext k; rw [cyRow, if_neg (by rw [s_37_2]; decide), if_neg (by rw [s_37_2]; decide), if_pos s_37_2, ea, eb, nI_clamp (by omega), nI_clamp (by omega)]; rfl⟩
      · refine g_case (3) (fun s_37_3 => ?_) (fun s_37_3 => ?_)
        · refine g_tblEq (off := 95) (tgt := 132) dX6_fill_37 s_37_3 (by decide) (by decide) rfl rfl ?_
          obtain ⟨⟨a, ha, ea⟩, hbb⟩ := hwf n hn (by rw [s_37_3]; decide)
          obtain ⟨N, S, hN1, hN, hS, eb, ec⟩ := hwe.1 n hn s_37_3
          refine g_aload dX6_fill_132 rfl ?_
          refine g_aload_n dX6_fill_134 rfl rfl ?_
          refine g_iload dX6_fill_135 rfl ?_
          rw [ea]
          refine g_iload_n dX6_fill_137 rfl rfl ?_
          refine g_V2r (CX6_filled ht (r := a) (by omega)) kX6_fill_34 dX6_fill_138 (xW_at (by decide) xC15) rfl ⟨rfl, rfl⟩ (Nat.le_of_ble_eq_true rfl) ⟨(Nat.le_of_ble_eq_true rfl), (Nat.le_of_ble_eq_true rfl)⟩ ?_
          refine g_iload dX6_fill_141 rfl ?_
          rw [eb]
          refine g_iload dX6_fill_143 rfl ?_
          rw [ec]
          refine g_V3v (CX1_fillEach (xCycI ht hn) (xCycI ht (r := a) (by omega)) (by unfold cyI; omega) hN hS) kX6_fill_58 dX6_fill_145 (xW_at (by have := (xCycI ht hn).1; omega) (xCycI ht hn).2.1) rfl ⟨rfl, rfl⟩ (Nat.le_of_ble_eq_true rfl) ⟨(Nat.le_of_ble_eq_true rfl), (Nat.le_of_ble_eq_true rfl)⟩ ?_
          refine g_goto (tgt := 163) dX6_fill_148 rfl ?_
          exact g_vret dX6_fill_163 rfl rfl ⟨rfl, by congr 3; funext k; rw [cyRow, if_neg (by rw [s_37_3]; decide), if_neg (by rw [s_37_3]; decide), if_neg (by rw [s_37_3]; decide), if_pos s_37_3, ea, eb, ec, nI_clamp (by omega), nI_clamp (by omega), nI_clamp (by omega)]; rfl⟩
        · refine g_tableOut (tgt := 151) dX6_fill_37 (by have a0 := ne_toInt (z := 0) rfl s_37_0; have a1 := ne_toInt (z := 1) rfl s_37_1; have a2 := ne_toInt (z := 2) rfl s_37_2; have a3 := ne_toInt (z := 3) rfl s_37_3; omega) rfl ?_
          obtain ⟨⟨a, ha, ea⟩, hbb⟩ := hwf n hn s_37_0
          refine g_aload dX6_fill_151 rfl ?_
          refine g_aload_n dX6_fill_153 rfl rfl ?_
          refine g_iload dX6_fill_154 rfl ?_
          rw [ea]
          refine g_iload_n dX6_fill_156 rfl rfl ?_
          refine g_V2r (CX6_filled ht (r := a) (by omega)) kX6_fill_34 dX6_fill_157 (xW_at (by decide) xC15) rfl ⟨rfl, rfl⟩ (Nat.le_of_ble_eq_true rfl) ⟨(Nat.le_of_ble_eq_true rfl), (Nat.le_of_ble_eq_true rfl)⟩ ?_
          refine g_V1v (CX1_fillStep (xCycI ht hn) (xCycI ht (r := a) (by omega)) (by unfold cyI; omega)) kX6_fill_62 dX6_fill_160 (xW_at (by have := (xCycI ht hn).1; omega) (xCycI ht hn).2.1) rfl ⟨rfl, rfl⟩ (Nat.le_of_ble_eq_true rfl) ⟨(Nat.le_of_ble_eq_true rfl), (Nat.le_of_ble_eq_true rfl)⟩ ?_
          exact g_vret dX6_fill_163 rfl rfl ⟨rfl, by congr 3; funext k; rw [cyRow, if_neg s_37_0, if_neg s_37_1, if_neg s_37_2, if_neg s_37_3, ea, nI_clamp (by omega)]; rfl⟩
theorem cyRow_cong {K N : Nat → Int32} {sz : Int32} {Z Z' : Nat → Nat → Int32} {t q k : Nat} (hwf : ldWf K N sz) (hq : q < 8) (h : ∀ x, x < q → Z x = Z' x) : cyRow K N sz Z t q k = cyRow K N sz Z' t q k := by
  unfold cyRow
  by_cases h0 : ldKind K sz (nI q) = 0
  · rw [if_pos h0, if_pos h0]
  · obtain ⟨⟨a, ha, ea⟩, hb⟩ := hwf q (by omega) h0
    have e1 : Z (ldNum N sz (nI q) 0).toNatClampNeg = Z' (ldNum N sz (nI q) 0).toNatClampNeg := by
      rw [ea, nI_clamp (by omega)]; exact h a ha
    rw [if_neg h0, if_neg h0, e1]
    by_cases h3 : ldKind K sz (nI q) = 3
    · simp only [h3]; rfl
    · by_cases h4 : ldKind K sz (nI q) = 4
      · simp only [h4]; rfl
      · obtain ⟨b, hb, eb⟩ := hb h3 h4
        have e2 : Z (ldNum N sz (nI q) 1).toNatClampNeg = Z' (ldNum N sz (nI q) 1).toNatClampNeg := by
          rw [eb, nI_clamp (by omega)]; exact h b hb
        rw [e2]
set_option maxRecDepth 100000 in
set_option maxHeartbeats 4000000 in
theorem CX6_cycleOf_loop {t m r n0 : Nat} {x3 : Option Value} (ht : t < 9) (hr : r < 8) (hwf : ldWf (σ 2) (σ 3) (σ 1 2)) (hwe : ldWe (σ 2) (σ 3) (σ 1 2)) : ∀ (d : Nat) (Z : Nat → Nat → Int32) (j : Nat), r < j + d → j ≤ 8 → m ≤ j → (j ≤ m ∨ j ≤ r + 1) → (∀ q, q < j → cyEq (σ 2) (σ 3) (σ 1 2) Z t q) → Go l mX6_cycleOf n0 (fun rv w' => ∃ Z m', w' = xW (put (cyP σ t Z) 17 t (nI m')) ∧ r < m' ∧ m' ≤ 8 ∧ m ≤ m' ∧ (m' ≤ m ∨ m' ≤ r + 1) ∧ rv = some (.ref (cyI t r)) ∧ ∀ q, q < m' → cyEq (σ 2) (σ 3) (σ 1 2) Z t q) (0, 0) 20 [some (.ref 15), some (.ref 1), some (.int (nI r)), x3, some (.int (nI t))] [] (xW (put (cyP σ t Z) 17 t (nI j))) := by
  intro d
  induction d with
  | zero =>
    intro Z j hrj hj8 hmj hmx hok
    replace hrj : r < j := by omega
    have t0 : 0 ≤ nI t := nI_pos' (by omega)
    have t9 : nI t < 9 := nI_lt (b := 9) ht (by decide)
    refine g_aload_n dX6_cycleOf_20 rfl rfl ?_
    refine g_getf dX6_cycleOf_21 fX6_17 (xW_at (by decide) xC15) rfl ?_
    refine g_iload dX6_cycleOf_24 rfl ?_
    refine g_iald dX6_cycleOf_26 (xW_at (by decide) xC17) (vin_lt 9 t0 t9 (by decide)) ?_
    rw [show put (cyP σ t Z) 17 t (nI j) 17 (nI t).toNatClampNeg = nI j by rw [nI_clamp (by omega), put_eq]; exact if_pos rfl]
    refine g_iload_n dX6_cycleOf_27 rfl rfl ?_
    refine g_icmp_gt (tgt := 71) dX6_cycleOf_28 rfl (fun c_28 => ?_) (fun c_28 => by exact absurd (nI_lt hrj (by omega)) c_28)
    refine g_aload_n dX6_cycleOf_71 rfl rfl ?_
    refine g_iload_n dX6_cycleOf_72 rfl rfl ?_
    refine g_iload dX6_cycleOf_73 rfl ?_
    refine g_V2r (CX6_filled ht hr) kX6_cycleOf_34 dX6_cycleOf_75 (xW_at (by decide) xC15) rfl ⟨rfl, rfl⟩ (Nat.le_of_ble_eq_true rfl) ⟨(Nat.le_of_ble_eq_true rfl), (Nat.le_of_ble_eq_true rfl)⟩ ?_
    exact g_aret dX6_cycleOf_78 rfl rfl ⟨Z, j, rfl, hrj, hj8, hmj, hmx, rfl, hok⟩
  | succ d ih =>
    intro Z j hd hj8 hmj hmx hok
    have t0 : 0 ≤ nI t := nI_pos' (by omega)
    have t9 : nI t < 9 := nI_lt (b := 9) ht (by decide)
    have b0 : 0 ≤ nI j := nI_pos' (by omega)
    have r8 : nI r < 8 := nI_lt (b := 8) hr (by decide)
    have e2 : (put (cyP σ t Z) 17 t (nI j)) 2 = σ 2 := by rw [put_ne (by decide), cyP_ne (by decide) ht]
    have e3 : (put (cyP σ t Z) 17 t (nI j)) 3 = σ 3 := by rw [put_ne (by decide), cyP_ne (by decide) ht]
    have e1 : (put (cyP σ t Z) 17 t (nI j)) 1 = σ 1 := by rw [put_ne (by decide), cyP_ne (by decide) ht]
    have eP : (put (cyP σ t Z) 17 t (nI j)) (cyI t j + 1) = cyP σ t Z (cyI t j + 1) := put_ne (by unfold cyI; omega)
    refine g_aload_n dX6_cycleOf_20 rfl rfl ?_
    refine g_getf dX6_cycleOf_21 fX6_17 (xW_at (by decide) xC15) rfl ?_
    refine g_iload dX6_cycleOf_24 rfl ?_
    refine g_iald dX6_cycleOf_26 (xW_at (by decide) xC17) (vin_lt 9 t0 t9 (by decide)) ?_
    rw [show put (cyP σ t Z) 17 t (nI j) 17 (nI t).toNatClampNeg = nI j by rw [nI_clamp (by omega), put_eq]; exact if_pos rfl]
    refine g_iload_n dX6_cycleOf_27 rfl rfl ?_
    refine g_icmp_gt (tgt := 71) dX6_cycleOf_28 rfl (fun c_28 => ?_) (fun c_28 => ?_)
    · have hrj : r < j := by
        rcases Nat.lt_or_ge r j with q | q
        · exact q
        · exact absurd c_28 (nI_nlt q (by omega))
      refine g_aload_n dX6_cycleOf_71 rfl rfl ?_
      refine g_iload_n dX6_cycleOf_72 rfl rfl ?_
      refine g_iload dX6_cycleOf_73 rfl ?_
      refine g_V2r (CX6_filled ht hr) kX6_cycleOf_34 dX6_cycleOf_75 (xW_at (by decide) xC15) rfl ⟨rfl, rfl⟩ (Nat.le_of_ble_eq_true rfl) ⟨(Nat.le_of_ble_eq_true rfl), (Nat.le_of_ble_eq_true rfl)⟩ ?_
      exact g_aret dX6_cycleOf_78 rfl rfl ⟨Z, j, rfl, hrj, hj8, hmj, hmx, rfl, hok⟩
    · have hjr : j ≤ r := by
        rcases Nat.lt_or_ge r j with q | q
        · exact absurd (nI_lt q (by omega)) c_28
        · exact q
      refine g_aload_n dX6_cycleOf_31 rfl rfl ?_
      refine g_getf dX6_cycleOf_32 fX6_17 (xW_at (by decide) xC15) rfl ?_
      refine g_iload dX6_cycleOf_35 rfl ?_
      refine g_iald dX6_cycleOf_37 (xW_at (by decide) xC17) (vin_lt 9 t0 t9 (by decide)) ?_
      rw [show put (cyP σ t Z) 17 t (nI j) 17 (nI t).toNatClampNeg = nI j by rw [nI_clamp (by omega), put_eq]; exact if_pos rfl]
      refine g_bipush (v := 8) dX6_cycleOf_38 (by decide) ?_
      refine g_icmp_ge (tgt := 71) dX6_cycleOf_40 rfl (fun c_40 => by exfalso; have := nI_le hjr (by omega); grind) (fun c_40 => ?_)
      refine g_aload_n dX6_cycleOf_43 rfl rfl ?_
      refine g_aload_n dX6_cycleOf_44 rfl rfl ?_
      refine g_aload_n dX6_cycleOf_45 rfl rfl ?_
      refine g_getf dX6_cycleOf_46 fX6_17 (xW_at (by decide) xC15) rfl ?_
      refine g_iload dX6_cycleOf_49 rfl ?_
      refine g_iald dX6_cycleOf_51 (xW_at (by decide) xC17) (vin_lt 9 t0 t9 (by decide)) ?_
      rw [show put (cyP σ t Z) 17 t (nI j) 17 (nI t).toNatClampNeg = nI j by rw [nI_clamp (by omega), put_eq]; exact if_pos rfl]
      refine g_iload dX6_cycleOf_52 rfl ?_
      refine g_V3v (CX6_fill (σ := (put (cyP σ t Z) 17 t (nI j))) ht (n := j) (by omega) (by rw [e1, e2, e3]; exact hwf) (by rw [e1, e2, e3]; exact hwe)) kX6_cycleOf_30 dX6_cycleOf_54 (xW_at (by decide) xC15) rfl ⟨rfl, rfl⟩ (Nat.le_of_ble_eq_true rfl) ⟨(Nat.le_of_ble_eq_true rfl), (Nat.le_of_ble_eq_true rfl)⟩ ?_
      have ew : xW (putC (put (cyP σ t Z) 17 t (nI j)) (cyI t j + 1) (ru ((put (cyP σ t Z) 17 t (nI j)) (cyI t j + 1)) 0 (6 + rnd t) (cyRow ((put (cyP σ t Z) 17 t (nI j)) 2) ((put (cyP σ t Z) 17 t (nI j)) 3) ((put (cyP σ t Z) 17 t (nI j)) 1 2) (cyZ (put (cyP σ t Z) 17 t (nI j)) t) t j))) = xW (put (cyP σ t (putC Z j (ru (Z j) 0 (6 + rnd t) (cyRow (σ 2) (σ 3) (σ 1 2) Z t j)))) 17 t (nI j)) := by
        rw [e1, e2, e3, eP, cyP_at (by omega), ← cyP_put (by omega)]
        congr 1
        have ec : ∀ k, cyRow (σ 2) (σ 3) (σ 1 2) (cyZ (put (cyP σ t Z) 17 t (nI j)) t) t j k = cyRow (σ 2) (σ 3) (σ 1 2) Z t j k := by
          intro k
          exact cyRow_cong hwf (by omega) (fun x hx => by unfold cyZ; rw [put_ne (by unfold cyI; omega), cyP_at (by omega)])
        rw [funext ec]
        funext c
        unfold put putC
        by_cases h17 : c = 17
        · subst h17; rw [if_neg (by unfold cyI; omega)]; dsimp only; rw [if_pos rfl, if_pos rfl, if_neg (by unfold cyI; omega)]
        · by_cases h2 : c = cyI t j + 1 <;> simp [h17, h2] <;> omega
      rw [ew]
      have hnew : ∀ q, q < j + 1 → cyEq (σ 2) (σ 3) (σ 1 2) (putC Z j (ru (Z j) 0 (6 + rnd t) (cyRow (σ 2) (σ 3) (σ 1 2) Z t j))) t q := by
        intro q hq k hk
        rcases Nat.lt_or_ge q j with h1 | h1
        · rw [putC_ne (by omega), cyRow_put hwf (by omega) (by omega)]; exact hok q h1 k hk
        · have e : q = j := by omega
          subst e
          rw [putC_eq, cyRow_put hwf (by omega) (by omega)]
          have := ru_in (V := Z q) (F := cyRow (σ 2) (σ 3) (σ 1 2) Z t q) (s := 0) (j := 6 + rnd t) hk
          rw [Nat.zero_add] at this; exact this
      refine g_aload_n dX6_cycleOf_57 rfl rfl ?_
      refine g_getf dX6_cycleOf_58 fX6_17 (xW_at (by decide) xC15) rfl ?_
      refine g_iload dX6_cycleOf_61 rfl ?_
      refine g_dup2 dX6_cycleOf_63 rfl rfl ?_
      refine g_iald dX6_cycleOf_64 (xW_at (by decide) xC17) (vin_lt 9 t0 t9 (by decide)) ?_
      rw [show (put (cyP σ t (putC Z j (ru (Z j) 0 (6 + rnd t) (cyRow (σ 2) (σ 3) (σ 1 2) Z t j)))) 17 t (nI j)) 17 (nI t).toNatClampNeg = nI j by rw [nI_clamp (by omega), put_eq]; exact if_pos rfl]
      refine g_iconst (v := 1) dX6_cycleOf_65 (by decide) ?_
      refine g_iadd dX6_cycleOf_66 ?_
      refine g_iast dX6_cycleOf_67 (xW_at (by decide) xC17) (vin_lt 9 t0 t9 (by decide)) (show _ = xW (put (cyP σ t (putC Z j (ru (Z j) 0 (6 + rnd t) (cyRow (σ 2) (σ 3) (σ 1 2) Z t j)))) 17 t (nI (j + 1))) by rw [xW_arr xC17, nI_clamp (by omega), put_put, nI_1]) ?_
      refine g_goto (tgt := 20) dX6_cycleOf_68 rfl ?_
      exact Go.eq rfl rfl rfl rfl (ih (putC Z j (ru (Z j) 0 (6 + rnd t) (cyRow (σ 2) (σ 3) (σ 1 2) Z t j))) (j + 1) (by omega) (by omega) (by omega) (Or.inr (by omega)) hnew)
set_option maxRecDepth 100000 in
set_option maxHeartbeats 4000000 in
theorem CX6_cycleOf {t m r : Nat} (ht : t < 9) (hr : r < 8) (hm : m ≤ 8) (hk : σ 17 t = nI m) (hwf : ldWf (σ 2) (σ 3) (σ 1 2)) (hwe : ldWe (σ 2) (σ 3) (σ 1 2)) (hok : ∀ q, q < m → cyEq (σ 2) (σ 3) (σ 1 2) (cyZ σ t) t q) : Ct l mX6_cycleOf [.ref 15, .ref 1, .int (nI r), .int (nI (2 + t))] (xW σ) (fun rv w' => ∃ Z m', w' = xW (put (cyP σ t Z) 17 t (nI m')) ∧ r < m' ∧ m' ≤ 8 ∧ m ≤ m' ∧ (m' ≤ m ∨ m' ≤ r + 1) ∧ rv = some (.ref (cyI t r)) ∧ ∀ q, q < m' → cyEq (σ 2) (σ 3) (σ 1 2) Z t q) := by
  refine Ct.of rfl (Nat.le_of_ble_eq_true rfl) ?_
  refine Go.eq rfl rfl rfl (show xW σ = xW (put (cyP σ t (cyZ σ t)) 17 t (nI m)) by rw [cyP_id, ← hk, put_id]) ?_
  refine g_iload_n dX6_cycleOf_0 rfl rfl ?_
  refine g_iconst (v := 2) dX6_cycleOf_1 (by decide) ?_
  refine g_icmp_lt (tgt := 17) dX6_cycleOf_2 rfl (fun c_2 => by exact absurd c_2 (nI_nlt (b := 2) (by omega) (by omega))) (fun c_2 => ?_)
  refine g_iload_n dX6_cycleOf_5 rfl rfl ?_
  refine g_bipush (v := 10) dX6_cycleOf_6 (by decide) ?_
  refine g_icmp_gt (tgt := 17) dX6_cycleOf_8 rfl (fun c_8 => by exact absurd c_8 (nI_nlt (a := 10) (b := 2 + t) (by omega) (by decide))) (fun c_8 => ?_)
  refine g_iload_n dX6_cycleOf_11 rfl rfl ?_
  refine g_iconst (v := 2) dX6_cycleOf_12 (by decide) ?_
  refine g_isub dX6_cycleOf_13 ?_
  rw [show nI (2 + t) - 2 = nI t by rw [show (2 : Int32) = nI 2 from rfl, nI_sub (by omega)]; congr 1; omega]
  refine g_goto (tgt := 18) dX6_cycleOf_14 rfl ?_
  refine g_istore dX6_cycleOf_18 (Nat.le_of_ble_eq_true rfl) rfl ?_
  exact CX6_cycleOf_loop ht hr hwf hwe (r + 1) (cyZ σ t) m (by omega) hm (Nat.le_refl _) (Or.inl (Nat.le_refl _)) hok
end
