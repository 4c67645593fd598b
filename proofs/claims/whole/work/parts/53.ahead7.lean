def mtA (A B : Nat → Int32) (k : Nat) : Bool := decide (A k = B k)
theorem mtB_cy {f : Nat → Int32} {B : Nat → Int32} {R : Nat} : ∀ d j, j + d ≤ 6 + R → fs (fun k => decide (f k = B k)) d j = fs (mtA (cyN f R) B) d j
  | 0, _, _ => rfl
  | d + 1, j, h => by
    unfold fs mtA
    rw [cyN_lt (by omega)]
    split
    · rfl
    · exact mtB_cy d (j + 1) (by omega)
/-- Berlekamp and Massey's walk over the terms A, from its beginning to its end -/
def bmOk (A : Nat → Int32) (P L : Nat) (C : Nat → Int32) : Prop := ∃ s0 z : bmT, (∀ k, k < 17 → s0.1 k = dl0 k) ∧ (∀ k, k < 17 → s0.2.1 k = dl0 k) ∧ s0.2.2.2 = (0, 1, 1) ∧ z = bmR A P s0 16 ∧ z.1 = C ∧ z.2.2.2.1 = L
section
variable {l : Launch} {σ : Nat → Nat → Int32}
set_option maxRecDepth 100000 in
set_option maxHeartbeats 4000000 in
theorem CX10_meets {n : Nat} (hK : xK σ n) {a b m : Int32} : Ct l mX10_meets [.ref 0, .int a, .int b, .int m] (xW σ) (fun rv w' => ∃ σ', w' = xW σ' ∧ xK σ' n ∧ xSame σ σ' ∧ rv = some (.int (if ldH (σ 1 2) a ∧ ldH (σ 1 2) b then (if 2 ≤ m ∧ m ≤ 10 then orNone (6 + rnd (m.toNatClampNeg - 2)) (fs (mtA (RZ (σ 2) (σ 3) (σ 1 2) (m.toNatClampNeg - 2) a.toNatClampNeg) (RZ (σ 2) (σ 3) (σ 1 2) (m.toNatClampNeg - 2) b.toNatClampNeg)) (6 + rnd (m.toNatClampNeg - 2)) 0) else 2000000102) else 2000000101))) := by
  refine Ct.of rfl (Nat.le_of_ble_eq_true rfl) ?_
  refine g_aload_n dX10_meets_0 rfl rfl ?_
  refine g_getf dX10_meets_1 fX10_10 (xW_at (by decide) xC0) rfl ?_
  refine g_iload_n dX10_meets_4 rfl rfl ?_
  refine g_V1r (CX3_holds xLed1) kX10_meets_122 dX10_meets_5 (xW_at xLed1.1.1 xLed1.2.1) rfl ⟨rfl, rfl⟩ (Nat.le_of_ble_eq_true rfl) ⟨(Nat.le_of_ble_eq_true rfl), (Nat.le_of_ble_eq_true rfl)⟩ ?_
  refine g_if_eq (tgt := 22) dX10_meets_8 rfl (fun c_8 => ?_) (fun c_8 => ?_)
  · refine g_ldc dX10_meets_22 tb_439 ?_
    exact g_iret dX10_meets_24 rfl rfl (by exact ⟨σ, rfl, hK, xSame.rf, by rw [if_neg (fun z => bI_0.mp c_8 z.1)]⟩)
  · refine g_aload_n dX10_meets_11 rfl rfl ?_
    refine g_getf dX10_meets_12 fX10_10 (xW_at (by decide) xC0) rfl ?_
    refine g_iload_n dX10_meets_15 rfl rfl ?_
    refine g_V1r (CX3_holds xLed1) kX10_meets_122 dX10_meets_16 (xW_at xLed1.1.1 xLed1.2.1) rfl ⟨rfl, rfl⟩ (Nat.le_of_ble_eq_true rfl) ⟨(Nat.le_of_ble_eq_true rfl), (Nat.le_of_ble_eq_true rfl)⟩ ?_
    refine g_if_ne (tgt := 25) dX10_meets_19 rfl (fun c_19 => ?_) (fun c_19 => ?_)
    · have hHa : ldH (σ 1 2) a := Classical.byContradiction (fun z => c_8 (bI_f z))
      have hHb : ldH (σ 1 2) b := Classical.byContradiction (fun z => c_19 (bI_f z))
      obtain ⟨p, hp, ea⟩ := (ldH_iff hK.1).mp (hK.2.1 ▸ hHa)
      obtain ⟨q, hq, eb⟩ := (ldH_iff hK.1).mp (hK.2.1 ▸ hHb)
      subst ea eb
      refine g_iload_n dX10_meets_25 rfl rfl ?_
      refine g_S1r CX10_isModulus kX10_meets_145 dX10_meets_26 ⟨rfl, rfl⟩ (Nat.le_of_ble_eq_true rfl) ⟨(Nat.le_of_ble_eq_true rfl), (Nat.le_of_ble_eq_true rfl)⟩ ?_
      refine g_if_ne (tgt := 35) dX10_meets_29 rfl (fun c_29 => ?_) (fun c_29 => ?_)
      · have hM := Classical.byContradiction (fun z => c_29 (bI_f z))
        obtain ⟨t, ht, em⟩ := mod_ex hM
        subst em
        obtain ⟨mm, hm1, hm2, -⟩ := hK.2.2.2.2.2 t ht
        have h8 := hK.1
        refine g_aload_n dX10_meets_35 rfl rfl ?_
        refine g_getf dX10_meets_36 fX10_52 (xW_at (by decide) xC0) rfl ?_
        refine g_aload_n dX10_meets_39 rfl rfl ?_
        refine g_getf dX10_meets_40 fX10_10 (xW_at (by decide) xC0) rfl ?_
        refine g_iload_n dX10_meets_43 rfl rfl ?_
        refine g_iload_n dX10_meets_44 rfl rfl ?_
        refine g_V3p (CX6_cycleOfK ht hK hp hm1 hm2) kX10_meets_148 dX10_meets_45 (xW_at (by decide) xC15) rfl ⟨rfl, rfl⟩ (Nat.le_of_ble_eq_true rfl) ⟨(Nat.le_of_ble_eq_true rfl), (Nat.le_of_ble_eq_true rfl)⟩ ?_
        rintro rv w1 ⟨τ1, m', rfl, hK1, hS1, rfl, hm', h1, h2, h3, hA⟩
        refine g_aload_n dX10_meets_48 rfl rfl ?_
        refine g_getf dX10_meets_49 fX10_52 (xW_at (by decide) xC0) rfl ?_
        refine g_aload_n dX10_meets_52 rfl rfl ?_
        refine g_getf dX10_meets_53 fX10_10 (xW_at (by decide) xC0) rfl ?_
        refine g_iload_n dX10_meets_56 rfl rfl ?_
        refine g_iload_n dX10_meets_57 rfl rfl ?_
        refine g_V3p (CX6_cycleOfK ht hK1 hq h3 hm') kX10_meets_148 dX10_meets_58 (xW_at (by decide) xC15) rfl ⟨rfl, rfl⟩ (Nat.le_of_ble_eq_true rfl) ⟨(Nat.le_of_ble_eq_true rfl), (Nat.le_of_ble_eq_true rfl)⟩ ?_
        rintro rv w1 ⟨τ2, m2, rfl, hK2, hS2, rfl, hm2', g1, g2, g3, hA2⟩
        rw [(hS1.K).1, (hS1.K).2.1, (hS1.K).2.2] at hA2
        refine g_V1r (CX1_firstMeeting (xCycI ht (r := p) (by omega)) (xCycI ht (r := q) (by omega))) kX10_meets_213 dX10_meets_61 (xW_at (by have := (xCycI ht (r := p) (by omega)).1; omega) (xCycI ht (r := p) (by omega)).2.1) rfl ⟨rfl, rfl⟩ (Nat.le_of_ble_eq_true rfl) ⟨(Nat.le_of_ble_eq_true rfl), (Nat.le_of_ble_eq_true rfl)⟩ ?_
        rw [show mtB (τ2 (cyI t p + 1)) (τ2 (cyI t q + 1)) (rnd t) = fun k => decide (τ2 (cyI t p + 1) k = cyN (τ2 (cyI t q + 1)) (rnd t) k) from rfl, mtB_cy (R := rnd t) (6 + rnd t) 0 (by omega), hA2 p (by omega), hA2 q g2]
        exact g_iret dX10_meets_64 rfl rfl (by exact ⟨τ2, rfl, hK2, hS1.tr hS2, by rw [if_pos ⟨hHa, hHb⟩, if_pos hM, nI_clamp (show p < 2 ^ 31 by omega), nI_clamp (show q < 2 ^ 31 by omega), nI_clamp (show 2 + t < 2 ^ 31 by omega), Nat.add_sub_cancel_left]⟩)
      · refine g_ldc dX10_meets_32 tb_299 ?_
        exact g_iret dX10_meets_34 rfl rfl (by exact ⟨σ, rfl, hK, xSame.rf, by rw [if_pos ⟨hHa, hHb⟩, if_neg (bI_0.mp c_29)]⟩)
    · refine g_ldc dX10_meets_22 tb_439 ?_
      exact g_iret dX10_meets_24 rfl rfl (by exact ⟨σ, rfl, hK, xSame.rf, by rw [if_neg (fun z => bI_0.mp c_19 z.2)]⟩)
theorem prm_ex {p : Int32} (h : p = 2 ∨ p = 3 ∨ p = 5 ∨ p = 7) : ∃ P, prm P ∧ p = nI P ∧ P < 9 ∧ 2 ≤ P := by
  rcases h with rfl | rfl | rfl | rfl
  · exact ⟨2, Or.inl rfl, rfl, by decide, by decide⟩
  · exact ⟨3, Or.inr (Or.inl rfl), rfl, by decide, by decide⟩
  · exact ⟨5, Or.inr (Or.inr (Or.inl rfl)), rfl, by decide, by decide⟩
  · exact ⟨7, Or.inr (Or.inr (Or.inr rfl)), rfl, by decide, by decide⟩
def lsV (P L : Nat) (C : Nat → Int32) (k : Int32) : Int32 := if k = 0 then nI L else if 8 < nI L then 2000000001 else fcV C (nI P) (nI L) k
theorem bmZ_L (σ : Nat → Nat → Int32) (i R P : Nat) : (bmZ σ i R P 16).2.2.2.1 ≤ 16 := by
  unfold bmZ
  exact (bmR_bd (A := cyN (σ (i + 1)) R) (P := P) (s := (ru (σ 163) 0 17 dl0, ru (σ 164) 0 17 dl0, σ 165, 0, 1, 1)) rfl rfl 16).1
theorem ru_dl {V : Nat → Int32} {k : Nat} (h : k < 17) : ru V 0 17 dl0 k = dl0 k := by
  have := ru_in (V := V) (F := dl0) (s := 0) (j := 17) h
  rw [Nat.zero_add] at this; exact this
theorem bmZ_ok (σ : Nat → Nat → Int32) (i R P : Nat) : bmOk (cyN (σ (i + 1)) R) P (bmZ σ i R P 16).2.2.2.1 (bmZ σ i R P 16).1 := by
  unfold bmZ
  exact ⟨(ru (σ 163) 0 17 dl0, ru (σ 164) 0 17 dl0, σ 165, 0, 1, 1), _, fun k hk => ru_dl hk, fun k hk => ru_dl hk, rfl, rfl, rfl, rfl⟩
set_option maxRecDepth 100000 in
set_option maxHeartbeats 4000000 in
theorem CX10_least {n : Nat} (hK : xK σ n) {r p k : Int32} : Ct l mX10_least [.ref 0, .int r, .int p, .int k] (xW σ) (fun rv w' => ∃ σ', w' = xW σ' ∧ xK σ' n ∧ xSame σ σ' ∧ if ldH (σ 1 2) r then (if (p = 2 ∨ p = 3 ∨ p = 5 ∨ p = 7) ∧ 0 ≤ k ∧ k ≤ 8 then ∃ L C, bmOk (RZ (σ 2) (σ 3) (σ 1 2) (p.toNatClampNeg - 2) r.toNatClampNeg) p.toNatClampNeg L C ∧ L ≤ 16 ∧ rv = some (.int (lsV p.toNatClampNeg L C k)) else rv = some (.int 2000000102)) else rv = some (.int 2000000101)) := by
  refine Ct.of rfl (Nat.le_of_ble_eq_true rfl) ?_
  refine g_aload_n dX10_least_0 rfl rfl ?_
  refine g_getf dX10_least_1 fX10_10 (xW_at (by decide) xC0) rfl ?_
  refine g_iload_n dX10_least_4 rfl rfl ?_
  refine g_V1r (CX3_holds xLed1) kX10_least_122 dX10_least_5 (xW_at xLed1.1.1 xLed1.2.1) rfl ⟨rfl, rfl⟩ (Nat.le_of_ble_eq_true rfl) ⟨(Nat.le_of_ble_eq_true rfl), (Nat.le_of_ble_eq_true rfl)⟩ ?_
  refine g_if_ne (tgt := 14) dX10_least_8 rfl (fun c_8 => ?_) (fun c_8 => ?_)
  · have hH : ldH (σ 1 2) r := Classical.byContradiction (fun z => c_8 (bI_f z))
    obtain ⟨q, hq, er⟩ := (ldH_iff hK.1).mp (hK.2.1 ▸ hH)
    subst er
    refine g_iload_n dX10_least_14 rfl rfl ?_
    refine g_S1r CX10_isPrime kX10_least_163 dX10_least_15 ⟨rfl, rfl⟩ (Nat.le_of_ble_eq_true rfl) ⟨(Nat.le_of_ble_eq_true rfl), (Nat.le_of_ble_eq_true rfl)⟩ ?_
    refine g_if_eq (tgt := 31) dX10_least_18 rfl (fun c_18 => ?_) (fun c_18 => ?_)
    · refine g_ldc dX10_least_31 tb_299 ?_
      exact g_iret dX10_least_33 rfl rfl ⟨σ, rfl, hK, xSame.rf, by rw [if_pos hH, if_neg (by simp only [bI] at *; grind)]⟩
    · refine g_iload_n dX10_least_21 rfl rfl ?_
      refine g_iconst (v := 0) dX10_least_22 (by decide) ?_
      refine g_bipush (v := 8) dX10_least_23 (by decide) ?_
      refine g_S3r CX10_isWithin kX10_least_76 dX10_least_25 ⟨rfl, rfl⟩ (Nat.le_of_ble_eq_true rfl) ⟨(Nat.le_of_ble_eq_true rfl), (Nat.le_of_ble_eq_true rfl)⟩ ?_
      refine g_if_ne (tgt := 34) dX10_least_28 rfl (fun c_28 => ?_) (fun c_28 => ?_)
      · have hM := Classical.byContradiction (fun z => c_18 (bI_f z))
        obtain ⟨P, hP, ep, hP9, hP2⟩ := prm_ex hM
        subst ep
        obtain ⟨t, rfl⟩ : ∃ t, P = 2 + t := ⟨P - 2, by omega⟩
        have ht : t < 9 := by omega
        obtain ⟨mm, hm1, hm2, -⟩ := hK.2.2.2.2.2 t ht
        have h8 := hK.1
        refine g_aload_n dX10_least_34 rfl rfl ?_
        refine g_getf dX10_least_35 fX10_59 (xW_at (by decide) xC0) rfl ?_
        refine g_aload_n dX10_least_38 rfl rfl ?_
        refine g_getf dX10_least_39 fX10_52 (xW_at (by decide) xC0) rfl ?_
        refine g_aload_n dX10_least_42 rfl rfl ?_
        refine g_getf dX10_least_43 fX10_10 (xW_at (by decide) xC0) rfl ?_
        refine g_iload_n dX10_least_46 rfl rfl ?_
        refine g_iload_n dX10_least_47 rfl rfl ?_
        refine g_V3p (CX6_cycleOfK ht hK hq hm1 hm2) kX10_least_148 dX10_least_48 (xW_at (by decide) xC15) rfl ⟨rfl, rfl⟩ (Nat.le_of_ble_eq_true rfl) ⟨(Nat.le_of_ble_eq_true rfl), (Nat.le_of_ble_eq_true rfl)⟩ ?_
        rintro rv w1 ⟨σ', m', rfl, hK', hS, rfl, hm', h1, h2, h3, hA⟩
        refine g_iload_n dX10_least_51 rfl rfl ?_
        refine g_V2v (CX0_examine (xCycI ht (r := q) (by omega)) (by unfold cyI; omega) hP) kX10_least_166 dX10_least_52 (xW_at (by decide) xC162) rfl ⟨rfl, rfl⟩ (Nat.le_of_ble_eq_true rfl) ⟨(Nat.le_of_ble_eq_true rfl), (Nat.le_of_ble_eq_true rfl)⟩ ?_
        have hz : bmOk (RZ (σ 2) (σ 3) (σ 1 2) t q) (2 + t) (bmZ σ' (cyI t q) (rnd t) (2 + t) 16).2.2.2.1 (bmZ σ' (cyI t q) (rnd t) (2 + t) 16).1 := by
          have := bmZ_ok σ' (cyI t q) (rnd t) (2 + t)
          rw [hA q h2] at this; exact this
        have hL : (bmZ σ' (cyI t q) (rnd t) (2 + t) 16).2.2.2.1 ≤ 16 := bmZ_L σ' (cyI t q) (rnd t) (2 + t)
        have hc : ∀ c, c < 162 ∨ 168 ≤ c → bmW σ' (2 + t) (bmZ σ' (cyI t q) (rnd t) (2 + t) 16) c = σ' c := by
          intro c hc
          unfold bmW cxP
          rw [if_neg (by omega), if_neg (by omega), if_neg (by omega), if_neg (by omega)]
        have hK3 : xK (bmW σ' (2 + t) (bmZ σ' (cyI t q) (rnd t) (2 + t) 16)) n := xK_keep (fun c h1 _ => hc c (Or.inl h1)) hK'
        have hS3 : xSame σ (bmW σ' (2 + t) (bmZ σ' (cyI t q) (rnd t) (2 + t) 16)) := hS.tr ⟨fun c h => hc c (by omega), fun c h => hc c (by omega)⟩
        generalize hzz : (bmZ σ' (cyI t q) (rnd t) (2 + t) 16) = z at hz hL hK3 hS3 ⊢
        refine g_iload_n dX10_least_55 rfl rfl ?_
        refine g_if_ne (tgt := 67) dX10_least_56 rfl (fun c_56 => ?_) (fun c_56 => ?_)
        · refine g_aload_n dX10_least_67 rfl rfl ?_
          refine g_getf dX10_least_68 fX10_59 (xW_at (by decide) xC0) rfl ?_
          refine g_V0r CX0_length kX10_least_170 dX10_least_71 (xW_at (by decide) xC162) rfl ⟨rfl, rfl⟩ (Nat.le_of_ble_eq_true rfl) ⟨(Nat.le_of_ble_eq_true rfl), (Nat.le_of_ble_eq_true rfl)⟩ ?_
          refine g_bipush (v := 8) dX10_least_74 (by decide) ?_
          refine g_icmp_le (tgt := 84) dX10_least_76 rfl (fun c_76 => ?_) (fun c_76 => ?_)
          · refine g_aload_n dX10_least_84 rfl rfl ?_
            refine g_getf dX10_least_85 fX10_59 (xW_at (by decide) xC0) rfl ?_
            refine g_iload_n dX10_least_88 rfl rfl ?_
            refine g_V1r (CX0_factor (show ¬ nI (2 + t) = 0 from nI_ne0 (by omega) (by omega))) kX10_least_173 dX10_least_89 (xW_at (by decide) xC162) rfl ⟨rfl, rfl⟩ (Nat.le_of_ble_eq_true rfl) ⟨(Nat.le_of_ble_eq_true rfl), (Nat.le_of_ble_eq_true rfl)⟩ ?_
            exact g_iret dX10_least_92 rfl rfl ⟨_, rfl, hK3, hS3, by rw [if_pos hH, if_pos ⟨hM, Classical.byContradiction (fun z => c_28 (bI_f z))⟩, nI_clamp (show q < 2 ^ 31 by omega), nI_clamp (show 2 + t < 2 ^ 31 by omega), Nat.add_sub_cancel_left]; exact ⟨_, _, hz, hL, by rw [lsV, if_neg c_56, if_neg (show ¬ 8 < nI z.2.2.2.1 from fun w => absurd c_76 (by have : (bmW σ' (2 + t) z) 162 4 = nI z.2.2.2.1 := rfl; grind))]; try rfl⟩⟩
          · refine g_ldc dX10_least_79 tb_449 ?_
            refine g_goto (tgt := 92) dX10_least_81 rfl ?_
            exact g_iret dX10_least_92 rfl rfl ⟨_, rfl, hK3, hS3, by rw [if_pos hH, if_pos ⟨hM, Classical.byContradiction (fun z => c_28 (bI_f z))⟩, nI_clamp (show q < 2 ^ 31 by omega), nI_clamp (show 2 + t < 2 ^ 31 by omega), Nat.add_sub_cancel_left]; exact ⟨_, _, hz, hL, by rw [lsV, if_neg c_56, if_pos (show 8 < nI z.2.2.2.1 from by have : (bmW σ' (2 + t) z) 162 4 = nI z.2.2.2.1 := rfl; grind)]; try rfl⟩⟩
        · refine g_aload_n dX10_least_59 rfl rfl ?_
          refine g_getf dX10_least_60 fX10_59 (xW_at (by decide) xC0) rfl ?_
          refine g_V0r CX0_length kX10_least_170 dX10_least_63 (xW_at (by decide) xC162) rfl ⟨rfl, rfl⟩ (Nat.le_of_ble_eq_true rfl) ⟨(Nat.le_of_ble_eq_true rfl), (Nat.le_of_ble_eq_true rfl)⟩ ?_
          exact g_iret dX10_least_66 rfl rfl ⟨_, rfl, hK3, hS3, by rw [if_pos hH, if_pos ⟨hM, Classical.byContradiction (fun z => c_28 (bI_f z))⟩, nI_clamp (show q < 2 ^ 31 by omega), nI_clamp (show 2 + t < 2 ^ 31 by omega), Nat.add_sub_cancel_left]; exact ⟨_, _, hz, hL, by rw [lsV, if_pos c_56]; try rfl⟩⟩
      · refine g_ldc dX10_least_31 tb_299 ?_
        exact g_iret dX10_least_33 rfl rfl ⟨σ, rfl, hK, xSame.rf, by rw [if_pos hH, if_neg (by simp only [bI] at *; grind)]⟩
  · refine g_ldc dX10_least_11 tb_439 ?_
    exact g_iret dX10_least_13 rfl rfl ⟨σ, rfl, hK, xSame.rf, by rw [if_neg (bI_0.mp c_8)]⟩
end
