def npV (N : Nat → Int32) (sz r w p : Int32) : Int32 := ldNum N sz (ldNum N sz r w) p
abbrev ippP (N : Nat → Int32) (sz r w : Int32) : Prop := npV N sz r w 1 = 0 ∧ npV N sz r w 3 = npV N sz r w 0 * npV N sz r w 2
abbrev ezP (K N : Nat → Int32) (sz r : Int32) : Prop := ldKind K sz r ≠ 0 ∧ rlDeg K N sz r ≠ 0 ∧ (if ldKind K sz r = 1 then npV N sz r 0 0 = npV N sz r 1 0 ∧ npV N sz r 0 1 = npV N sz r 1 1 else ldKind K sz r ≠ 2 ∨ ippP N sz r 0 ∨ ippP N sz r 1)
def ezC (K N : Nat → Int32) (sz r : Int32) : Int32 := if ldKind K sz r = 1 then npV N sz r 0 0 else rlFac K N sz r 1
def ezD (K N : Nat → Int32) (sz r : Int32) : Int32 := if ldKind K sz r = 1 then npV N sz r 0 1 else rlFac K N sz r 2
abbrev tellP (c d e f : Int32) : Prop := (-9 ≤ c ∧ c ≤ 9) ∧ (-9 ≤ d ∧ d ≤ 9) ∧ (-999 ≤ e ∧ e ≤ 999) ∧ (-999 ≤ f ∧ f ≤ 999)
def ordV (c d : Int32) : Int32 := if d = 0 then 0 else if c = 0 then 2 else if c * c = -d then 3 else if c * c = -2 * d then 4 else if c * c = -3 * d then 6 else 0
abbrev tolP (K : Nat → Int32) (sz r : Int32) : Prop := ldH sz r ∧ K r.toNatClampNeg = 0
def tcN (K : Nat → Int32) (sz : Int32) : Nat → Nat
  | 0 => 0
  | j + 1 => tcN K sz j + (if tolP K sz (nI j) then 1 else 0)
def dcN (K N : Nat → Int32) (sz : Int32) : Nat → Nat
  | 0 => 0
  | j + 1 => dcN K N sz j + (if tolP K sz (nI j) ∧ ordV (ldNum N sz (nI j) 0) (ldNum N sz (nI j) 1) ≠ 0 then 1 else 0)
section
variable {l : Launch} {σ : Nat → Nat → Int32}
set_option maxRecDepth 100000 in
set_option maxHeartbeats 4000000 in
theorem CX10_numberOfPart {r w p : Int32} : Ct l mX10_numberOfPart [.ref 0, .int r, .int w, .int p] (xW σ) (q_eq (some (.int (npV (σ 3) (σ 1 2) r w p))) (xW σ)) := by
  refine Ct.of rfl (Nat.le_of_ble_eq_true rfl) ?_
  refine g_aload_n dX10_numberOfPart_0 rfl rfl ?_
  refine g_getf dX10_numberOfPart_1 fX10_10 (xW_at (by decide) xC0) rfl ?_
  refine g_aload_n dX10_numberOfPart_4 rfl rfl ?_
  refine g_getf dX10_numberOfPart_5 fX10_10 (xW_at (by decide) xC0) rfl ?_
  refine g_iload_n dX10_numberOfPart_8 rfl rfl ?_
  refine g_iload_n dX10_numberOfPart_9 rfl rfl ?_
  refine g_V2r (CX3_numberOf xLed1) kX10_numberOfPart_133 dX10_numberOfPart_10 (xW_at xLed1.1.1 xLed1.2.1) rfl ⟨rfl, rfl⟩ (Nat.le_of_ble_eq_true rfl) ⟨(Nat.le_of_ble_eq_true rfl), (Nat.le_of_ble_eq_true rfl)⟩ ?_
  refine g_iload_n dX10_numberOfPart_13 rfl rfl ?_
  refine g_V2r (CX3_numberOf xLed1) kX10_numberOfPart_133 dX10_numberOfPart_14 (xW_at xLed1.1.1 xLed1.2.1) rfl ⟨rfl, rfl⟩ (Nat.le_of_ble_eq_true rfl) ⟨(Nat.le_of_ble_eq_true rfl), (Nat.le_of_ble_eq_true rfl)⟩ ?_
  exact g_iret dX10_numberOfPart_17 rfl rfl ⟨rfl, rfl⟩
set_option maxRecDepth 100000 in
set_option maxHeartbeats 4000000 in
theorem CX10_isPartOfPowers {r w : Int32} : Ct l mX10_isPartOfPowers [.ref 0, .int r, .int w] (xW σ) (q_eq (some (.int (bI (ippP (σ 3) (σ 1 2) r w)))) (xW σ)) := by
  refine Ct.of rfl (Nat.le_of_ble_eq_true rfl) ?_
  refine g_aload_n dX10_isPartOfPowers_0 rfl rfl ?_
  refine g_iload_n dX10_isPartOfPowers_1 rfl rfl ?_
  refine g_iload_n dX10_isPartOfPowers_2 rfl rfl ?_
  refine g_iconst (v := 1) dX10_isPartOfPowers_3 (by decide) ?_
  refine g_V3r CX10_numberOfPart kX10_isPartOfPowers_235 dX10_isPartOfPowers_4 (xW_at (by decide) xC0) rfl ⟨rfl, rfl⟩ (Nat.le_of_ble_eq_true rfl) ⟨(Nat.le_of_ble_eq_true rfl), (Nat.le_of_ble_eq_true rfl)⟩ ?_
  refine g_if_ne (tgt := 39) dX10_isPartOfPowers_7 rfl (fun c_7 => ?_) (fun c_7 => ?_)
  · refine g_iconst (v := 0) dX10_isPartOfPowers_39 (by decide) ?_
    exact g_zret dX10_isPartOfPowers_40 rfl rfl (by first | decide | exact bI_and) ⟨by grind [bI], rfl⟩
  · refine g_aload_n dX10_isPartOfPowers_10 rfl rfl ?_
    refine g_iload_n dX10_isPartOfPowers_11 rfl rfl ?_
    refine g_iload_n dX10_isPartOfPowers_12 rfl rfl ?_
    refine g_iconst (v := 3) dX10_isPartOfPowers_13 (by decide) ?_
    refine g_V3r CX10_numberOfPart kX10_isPartOfPowers_235 dX10_isPartOfPowers_14 (xW_at (by decide) xC0) rfl ⟨rfl, rfl⟩ (Nat.le_of_ble_eq_true rfl) ⟨(Nat.le_of_ble_eq_true rfl), (Nat.le_of_ble_eq_true rfl)⟩ ?_
    refine g_aload_n dX10_isPartOfPowers_17 rfl rfl ?_
    refine g_iload_n dX10_isPartOfPowers_18 rfl rfl ?_
    refine g_iload_n dX10_isPartOfPowers_19 rfl rfl ?_
    refine g_iconst (v := 0) dX10_isPartOfPowers_20 (by decide) ?_
    refine g_V3r CX10_numberOfPart kX10_isPartOfPowers_235 dX10_isPartOfPowers_21 (xW_at (by decide) xC0) rfl ⟨rfl, rfl⟩ (Nat.le_of_ble_eq_true rfl) ⟨(Nat.le_of_ble_eq_true rfl), (Nat.le_of_ble_eq_true rfl)⟩ ?_
    refine g_aload_n dX10_isPartOfPowers_24 rfl rfl ?_
    refine g_iload_n dX10_isPartOfPowers_25 rfl rfl ?_
    refine g_iload_n dX10_isPartOfPowers_26 rfl rfl ?_
    refine g_iconst (v := 2) dX10_isPartOfPowers_27 (by decide) ?_
    refine g_V3r CX10_numberOfPart kX10_isPartOfPowers_235 dX10_isPartOfPowers_28 (xW_at (by decide) xC0) rfl ⟨rfl, rfl⟩ (Nat.le_of_ble_eq_true rfl) ⟨(Nat.le_of_ble_eq_true rfl), (Nat.le_of_ble_eq_true rfl)⟩ ?_
    refine g_imul dX10_isPartOfPowers_31 ?_
    refine g_icmp_ne (tgt := 39) dX10_isPartOfPowers_32 rfl (fun c_32 => ?_) (fun c_32 => ?_)
    · refine g_iconst (v := 0) dX10_isPartOfPowers_39 (by decide) ?_
      exact g_zret dX10_isPartOfPowers_40 rfl rfl (by first | decide | exact bI_and) ⟨by grind [bI], rfl⟩
    · refine g_iconst (v := 1) dX10_isPartOfPowers_35 (by decide) ?_
      refine g_goto (tgt := 40) dX10_isPartOfPowers_36 rfl ?_
      exact g_zret dX10_isPartOfPowers_40 rfl rfl (by first | decide | exact bI_and) ⟨by grind [bI], rfl⟩
set_option maxRecDepth 100000 in
set_option maxHeartbeats 4000000 in
theorem CX10_isEasy {r : Int32} : Ct l mX10_isEasy [.ref 0, .int r] (xW σ) (q_eq (some (.int (bI (ezP (σ 2) (σ 3) (σ 1 2) r)))) (xW σ)) := by
  refine Ct.of rfl (Nat.le_of_ble_eq_true rfl) ?_
  refine g_aload_n dX10_isEasy_0 rfl rfl ?_
  refine g_getf dX10_isEasy_1 fX10_10 (xW_at (by decide) xC0) rfl ?_
  refine g_iload_n dX10_isEasy_4 rfl rfl ?_
  refine g_V1r (CX3_kindOf xLed1) kX10_isEasy_126 dX10_isEasy_5 (xW_at xLed1.1.1 xLed1.2.1) rfl ⟨rfl, rfl⟩ (Nat.le_of_ble_eq_true rfl) ⟨(Nat.le_of_ble_eq_true rfl), (Nat.le_of_ble_eq_true rfl)⟩ ?_
  refine g_istore_n dX10_isEasy_8 rfl (Nat.le_of_ble_eq_true rfl) rfl ?_
  refine g_iload_n dX10_isEasy_9 rfl rfl ?_
  refine g_if_eq (tgt := 24) dX10_isEasy_10 rfl (fun c_10 => ?_) (fun c_10 => ?_)
  · refine g_iconst (v := 0) dX10_isEasy_24 (by decide) ?_
    exact g_zret dX10_isEasy_25 rfl rfl (by first | decide | exact bI_and) ⟨by simp only [bI, ezP, ippP] at *; grind, rfl⟩
  · refine g_aload_n dX10_isEasy_13 rfl rfl ?_
    refine g_getf dX10_isEasy_14 fX10_10 (xW_at (by decide) xC0) rfl ?_
    refine g_iload_n dX10_isEasy_17 rfl rfl ?_
    refine g_S2r (CX8_degreeOf xLed1) kX10_isEasy_176 dX10_isEasy_18 ⟨rfl, rfl⟩ (Nat.le_of_ble_eq_true rfl) ⟨(Nat.le_of_ble_eq_true rfl), (Nat.le_of_ble_eq_true rfl)⟩ ?_
    refine g_if_ne (tgt := 26) dX10_isEasy_21 rfl (fun c_21 => ?_) (fun c_21 => ?_)
    · refine g_iload_n dX10_isEasy_26 rfl rfl ?_
      refine g_iconst (v := 1) dX10_isEasy_27 (by decide) ?_
      refine g_icmp_ne (tgt := 71) dX10_isEasy_28 rfl (fun c_28 => ?_) (fun c_28 => ?_)
      · refine g_iload_n dX10_isEasy_71 rfl rfl ?_
        refine g_iconst (v := 2) dX10_isEasy_72 (by decide) ?_
        refine g_icmp_ne (tgt := 94) dX10_isEasy_73 rfl (fun c_73 => ?_) (fun c_73 => ?_)
        · refine g_iconst (v := 1) dX10_isEasy_94 (by decide) ?_
          refine g_goto (tgt := 99) dX10_isEasy_95 rfl ?_
          exact g_zret dX10_isEasy_99 rfl rfl (by first | decide | exact bI_and) ⟨by simp only [bI, ezP, ippP] at *; grind, rfl⟩
        · refine g_aload_n dX10_isEasy_76 rfl rfl ?_
          refine g_iload_n dX10_isEasy_77 rfl rfl ?_
          refine g_iconst (v := 0) dX10_isEasy_78 (by decide) ?_
          refine g_V2r CX10_isPartOfPowers kX10_isEasy_311 dX10_isEasy_79 (xW_at (by decide) xC0) rfl ⟨rfl, rfl⟩ (Nat.le_of_ble_eq_true rfl) ⟨(Nat.le_of_ble_eq_true rfl), (Nat.le_of_ble_eq_true rfl)⟩ ?_
          refine g_if_ne (tgt := 94) dX10_isEasy_82 rfl (fun c_82 => ?_) (fun c_82 => ?_)
          · refine g_iconst (v := 1) dX10_isEasy_94 (by decide) ?_
            refine g_goto (tgt := 99) dX10_isEasy_95 rfl ?_
            exact g_zret dX10_isEasy_99 rfl rfl (by first | decide | exact bI_and) ⟨by simp only [bI, ezP, ippP] at *; grind, rfl⟩
          · refine g_aload_n dX10_isEasy_85 rfl rfl ?_
            refine g_iload_n dX10_isEasy_86 rfl rfl ?_
            refine g_iconst (v := 1) dX10_isEasy_87 (by decide) ?_
            refine g_V2r CX10_isPartOfPowers kX10_isEasy_311 dX10_isEasy_88 (xW_at (by decide) xC0) rfl ⟨rfl, rfl⟩ (Nat.le_of_ble_eq_true rfl) ⟨(Nat.le_of_ble_eq_true rfl), (Nat.le_of_ble_eq_true rfl)⟩ ?_
            refine g_if_eq (tgt := 98) dX10_isEasy_91 rfl (fun c_91 => ?_) (fun c_91 => ?_)
            · refine g_iconst (v := 0) dX10_isEasy_98 (by decide) ?_
              exact g_zret dX10_isEasy_99 rfl rfl (by first | decide | exact bI_and) ⟨by simp only [bI, ezP, ippP] at *; grind, rfl⟩
            · refine g_iconst (v := 1) dX10_isEasy_94 (by decide) ?_
              refine g_goto (tgt := 99) dX10_isEasy_95 rfl ?_
              exact g_zret dX10_isEasy_99 rfl rfl (by first | decide | exact bI_and) ⟨by simp only [bI, ezP, ippP] at *; grind, rfl⟩
      · refine g_aload_n dX10_isEasy_31 rfl rfl ?_
        refine g_iload_n dX10_isEasy_32 rfl rfl ?_
        refine g_iconst (v := 0) dX10_isEasy_33 (by decide) ?_
        refine g_iconst (v := 0) dX10_isEasy_34 (by decide) ?_
        refine g_V3r CX10_numberOfPart kX10_isEasy_235 dX10_isEasy_35 (xW_at (by decide) xC0) rfl ⟨rfl, rfl⟩ (Nat.le_of_ble_eq_true rfl) ⟨(Nat.le_of_ble_eq_true rfl), (Nat.le_of_ble_eq_true rfl)⟩ ?_
        refine g_aload_n dX10_isEasy_38 rfl rfl ?_
        refine g_iload_n dX10_isEasy_39 rfl rfl ?_
        refine g_iconst (v := 1) dX10_isEasy_40 (by decide) ?_
        refine g_iconst (v := 0) dX10_isEasy_41 (by decide) ?_
        refine g_V3r CX10_numberOfPart kX10_isEasy_235 dX10_isEasy_42 (xW_at (by decide) xC0) rfl ⟨rfl, rfl⟩ (Nat.le_of_ble_eq_true rfl) ⟨(Nat.le_of_ble_eq_true rfl), (Nat.le_of_ble_eq_true rfl)⟩ ?_
        refine g_icmp_ne (tgt := 69) dX10_isEasy_45 rfl (fun c_45 => ?_) (fun c_45 => ?_)
        · refine g_iconst (v := 0) dX10_isEasy_69 (by decide) ?_
          exact g_zret dX10_isEasy_70 rfl rfl (by first | decide | exact bI_and) ⟨by simp only [bI, ezP, ippP] at *; grind, rfl⟩
        · refine g_aload_n dX10_isEasy_48 rfl rfl ?_
          refine g_iload_n dX10_isEasy_49 rfl rfl ?_
          refine g_iconst (v := 0) dX10_isEasy_50 (by decide) ?_
          refine g_iconst (v := 1) dX10_isEasy_51 (by decide) ?_
          refine g_V3r CX10_numberOfPart kX10_isEasy_235 dX10_isEasy_52 (xW_at (by decide) xC0) rfl ⟨rfl, rfl⟩ (Nat.le_of_ble_eq_true rfl) ⟨(Nat.le_of_ble_eq_true rfl), (Nat.le_of_ble_eq_true rfl)⟩ ?_
          refine g_aload_n dX10_isEasy_55 rfl rfl ?_
          refine g_iload_n dX10_isEasy_56 rfl rfl ?_
          refine g_iconst (v := 1) dX10_isEasy_57 (by decide) ?_
          refine g_iconst (v := 1) dX10_isEasy_58 (by decide) ?_
          refine g_V3r CX10_numberOfPart kX10_isEasy_235 dX10_isEasy_59 (xW_at (by decide) xC0) rfl ⟨rfl, rfl⟩ (Nat.le_of_ble_eq_true rfl) ⟨(Nat.le_of_ble_eq_true rfl), (Nat.le_of_ble_eq_true rfl)⟩ ?_
          refine g_icmp_ne (tgt := 69) dX10_isEasy_62 rfl (fun c_62 => ?_) (fun c_62 => ?_)
          · refine g_iconst (v := 0) dX10_isEasy_69 (by decide) ?_
            exact g_zret dX10_isEasy_70 rfl rfl (by first | decide | exact bI_and) ⟨by simp only [bI, ezP, ippP] at *; grind, rfl⟩
          · refine g_iconst (v := 1) dX10_isEasy_65 (by decide) ?_
            refine g_goto (tgt := 70) dX10_isEasy_66 rfl ?_
            exact g_zret dX10_isEasy_70 rfl rfl (by first | decide | exact bI_and) ⟨by simp only [bI, ezP, ippP] at *; grind, rfl⟩
    · refine g_iconst (v := 0) dX10_isEasy_24 (by decide) ?_
      exact g_zret dX10_isEasy_25 rfl rfl (by first | decide | exact bI_and) ⟨by simp only [bI, ezP, ippP] at *; grind, rfl⟩
set_option maxRecDepth 100000 in
set_option maxHeartbeats 4000000 in
theorem CX10_told {n : Nat} (hn : n ≤ 8) (hs : σ 1 2 = nI n) {c d e f : Int32} : Ct l mX10_told [.ref 0, .int c, .int d, .int e, .int f] (xW σ) (q_eq (some (.int (if tellP c d e f then adR n else 2000000102))) (xW (if tellP c d e f then adS σ n 0 c d e f else σ))) := by
  refine Ct.of rfl (Nat.le_of_ble_eq_true rfl) ?_
  refine g_iload_n dX10_told_0 rfl rfl ?_
  refine g_iload_n dX10_told_1 rfl rfl ?_
  refine g_iload_n dX10_told_2 rfl rfl ?_
  refine g_iload dX10_told_3 rfl ?_
  refine g_S4r CX10_isTellable kX10_told_217 dX10_told_5 ⟨rfl, rfl⟩ (Nat.le_of_ble_eq_true rfl) ⟨(Nat.le_of_ble_eq_true rfl), (Nat.le_of_ble_eq_true rfl)⟩ ?_
  refine g_if_eq (tgt := 24) dX10_told_8 rfl (fun c_8 => ?_) (fun c_8 => ?_)
  · refine g_ldc dX10_told_24 tb_299 ?_
    exact g_iret dX10_told_26 rfl rfl ⟨by grind [bI], by grind [bI]⟩
  · refine g_aload_n dX10_told_11 rfl rfl ?_
    refine g_iconst (v := 0) dX10_told_12 (by decide) ?_
    refine g_iload_n dX10_told_13 rfl rfl ?_
    refine g_iload_n dX10_told_14 rfl rfl ?_
    refine g_iload_n dX10_told_15 rfl rfl ?_
    refine g_iload dX10_told_16 rfl ?_
    refine g_V5r (CX10_added hn hs) kX10_told_221 dX10_told_18 (xW_at (by decide) xC0) rfl ⟨rfl, rfl⟩ (Nat.le_of_ble_eq_true rfl) ⟨(Nat.le_of_ble_eq_true rfl), (Nat.le_of_ble_eq_true rfl)⟩ ?_
    refine g_goto (tgt := 26) dX10_told_21 rfl ?_
    exact g_iret dX10_told_26 rfl rfl ⟨by grind [bI], by grind [bI]⟩
set_option maxRecDepth 100000 in
set_option maxHeartbeats 4000000 in
theorem CX10_sum {n : Nat} (hn : n ≤ 8) (hs : σ 1 2 = nI n) {a b : Int32} : Ct l mX10_sum [.ref 0, .int a, .int b] (xW σ) (q_eq (some (.int (if ldH (σ 1 2) a ∧ ldH (σ 1 2) b then adR n else 2000000101))) (xW (if ldH (σ 1 2) a ∧ ldH (σ 1 2) b then adS σ n 1 a b 0 0 else σ))) := by
  refine Ct.of rfl (Nat.le_of_ble_eq_true rfl) ?_
  refine g_aload_n dX10_sum_0 rfl rfl ?_
  refine g_getf dX10_sum_1 fX10_10 (xW_at (by decide) xC0) rfl ?_
  refine g_iload_n dX10_sum_4 rfl rfl ?_
  refine g_V1r (CX3_holds xLed1) kX10_sum_122 dX10_sum_5 (xW_at xLed1.1.1 xLed1.2.1) rfl ⟨rfl, rfl⟩ (Nat.le_of_ble_eq_true rfl) ⟨(Nat.le_of_ble_eq_true rfl), (Nat.le_of_ble_eq_true rfl)⟩ ?_
  refine g_if_eq (tgt := 34) dX10_sum_8 rfl (fun c_8 => ?_) (fun c_8 => ?_)
  · refine g_ldc dX10_sum_34 tb_439 ?_
    exact g_iret dX10_sum_36 rfl rfl ⟨by grind [bI], by grind [bI]⟩
  · refine g_aload_n dX10_sum_11 rfl rfl ?_
    refine g_getf dX10_sum_12 fX10_10 (xW_at (by decide) xC0) rfl ?_
    refine g_iload_n dX10_sum_15 rfl rfl ?_
    refine g_V1r (CX3_holds xLed1) kX10_sum_122 dX10_sum_16 (xW_at xLed1.1.1 xLed1.2.1) rfl ⟨rfl, rfl⟩ (Nat.le_of_ble_eq_true rfl) ⟨(Nat.le_of_ble_eq_true rfl), (Nat.le_of_ble_eq_true rfl)⟩ ?_
    refine g_if_eq (tgt := 34) dX10_sum_19 rfl (fun c_19 => ?_) (fun c_19 => ?_)
    · refine g_ldc dX10_sum_34 tb_439 ?_
      exact g_iret dX10_sum_36 rfl rfl ⟨by grind [bI], by grind [bI]⟩
    · refine g_aload_n dX10_sum_22 rfl rfl ?_
      refine g_iconst (v := 1) dX10_sum_23 (by decide) ?_
      refine g_iload_n dX10_sum_24 rfl rfl ?_
      refine g_iload_n dX10_sum_25 rfl rfl ?_
      refine g_iconst (v := 0) dX10_sum_26 (by decide) ?_
      refine g_iconst (v := 0) dX10_sum_27 (by decide) ?_
      refine g_V5r (CX10_added hn hs) kX10_sum_221 dX10_sum_28 (xW_at (by decide) xC0) rfl ⟨rfl, rfl⟩ (Nat.le_of_ble_eq_true rfl) ⟨(Nat.le_of_ble_eq_true rfl), (Nat.le_of_ble_eq_true rfl)⟩ ?_
      refine g_goto (tgt := 36) dX10_sum_31 rfl ?_
      exact g_iret dX10_sum_36 rfl rfl ⟨by grind [bI], by grind [bI]⟩
set_option maxRecDepth 100000 in
set_option maxHeartbeats 4000000 in
theorem CX10_product {n : Nat} (hn : n ≤ 8) (hs : σ 1 2 = nI n) {a b : Int32} : Ct l mX10_product [.ref 0, .int a, .int b] (xW σ) (q_eq (some (.int (if ldH (σ 1 2) a ∧ ldH (σ 1 2) b then adR n else 2000000101))) (xW (if ldH (σ 1 2) a ∧ ldH (σ 1 2) b then adS σ n 2 a b 0 0 else σ))) := by
  refine Ct.of rfl (Nat.le_of_ble_eq_true rfl) ?_
  refine g_aload_n dX10_product_0 rfl rfl ?_
  refine g_getf dX10_product_1 fX10_10 (xW_at (by decide) xC0) rfl ?_
  refine g_iload_n dX10_product_4 rfl rfl ?_
  refine g_V1r (CX3_holds xLed1) kX10_product_122 dX10_product_5 (xW_at xLed1.1.1 xLed1.2.1) rfl ⟨rfl, rfl⟩ (Nat.le_of_ble_eq_true rfl) ⟨(Nat.le_of_ble_eq_true rfl), (Nat.le_of_ble_eq_true rfl)⟩ ?_
  refine g_if_eq (tgt := 34) dX10_product_8 rfl (fun c_8 => ?_) (fun c_8 => ?_)
  · refine g_ldc dX10_product_34 tb_439 ?_
    exact g_iret dX10_product_36 rfl rfl ⟨by grind [bI], by grind [bI]⟩
  · refine g_aload_n dX10_product_11 rfl rfl ?_
    refine g_getf dX10_product_12 fX10_10 (xW_at (by decide) xC0) rfl ?_
    refine g_iload_n dX10_product_15 rfl rfl ?_
    refine g_V1r (CX3_holds xLed1) kX10_product_122 dX10_product_16 (xW_at xLed1.1.1 xLed1.2.1) rfl ⟨rfl, rfl⟩ (Nat.le_of_ble_eq_true rfl) ⟨(Nat.le_of_ble_eq_true rfl), (Nat.le_of_ble_eq_true rfl)⟩ ?_
    refine g_if_eq (tgt := 34) dX10_product_19 rfl (fun c_19 => ?_) (fun c_19 => ?_)
    · refine g_ldc dX10_product_34 tb_439 ?_
      exact g_iret dX10_product_36 rfl rfl ⟨by grind [bI], by grind [bI]⟩
    · refine g_aload_n dX10_product_22 rfl rfl ?_
      refine g_iconst (v := 2) dX10_product_23 (by decide) ?_
      refine g_iload_n dX10_product_24 rfl rfl ?_
      refine g_iload_n dX10_product_25 rfl rfl ?_
      refine g_iconst (v := 0) dX10_product_26 (by decide) ?_
      refine g_iconst (v := 0) dX10_product_27 (by decide) ?_
      refine g_V5r (CX10_added hn hs) kX10_product_221 dX10_product_28 (xW_at (by decide) xC0) rfl ⟨rfl, rfl⟩ (Nat.le_of_ble_eq_true rfl) ⟨(Nat.le_of_ble_eq_true rfl), (Nat.le_of_ble_eq_true rfl)⟩ ?_
      refine g_goto (tgt := 36) dX10_product_31 rfl ?_
      exact g_iret dX10_product_36 rfl rfl ⟨by grind [bI], by grind [bI]⟩
set_option maxRecDepth 100000 in
set_option maxHeartbeats 4000000 in
theorem CX10_step {n : Nat} (hn : n ≤ 8) (hs : σ 1 2 = nI n) {a : Int32} : Ct l mX10_step [.ref 0, .int a] (xW σ) (q_eq (some (.int (if ldH (σ 1 2) a then adR n else 2000000101))) (xW (if ldH (σ 1 2) a then adS σ n 4 a 0 0 0 else σ))) := by
  refine Ct.of rfl (Nat.le_of_ble_eq_true rfl) ?_
  refine g_aload_n dX10_step_0 rfl rfl ?_
  refine g_getf dX10_step_1 fX10_10 (xW_at (by decide) xC0) rfl ?_
  refine g_iload_n dX10_step_4 rfl rfl ?_
  refine g_V1r (CX3_holds xLed1) kX10_step_122 dX10_step_5 (xW_at xLed1.1.1 xLed1.2.1) rfl ⟨rfl, rfl⟩ (Nat.le_of_ble_eq_true rfl) ⟨(Nat.le_of_ble_eq_true rfl), (Nat.le_of_ble_eq_true rfl)⟩ ?_
  refine g_if_eq (tgt := 23) dX10_step_8 rfl (fun c_8 => ?_) (fun c_8 => ?_)
  · refine g_ldc dX10_step_23 tb_439 ?_
    exact g_iret dX10_step_25 rfl rfl ⟨by grind [bI], by grind [bI]⟩
  · refine g_aload_n dX10_step_11 rfl rfl ?_
    refine g_iconst (v := 4) dX10_step_12 (by decide) ?_
    refine g_iload_n dX10_step_13 rfl rfl ?_
    refine g_iconst (v := 0) dX10_step_14 (by decide) ?_
    refine g_iconst (v := 0) dX10_step_15 (by decide) ?_
    refine g_iconst (v := 0) dX10_step_16 (by decide) ?_
    refine g_V5r (CX10_added hn hs) kX10_step_221 dX10_step_17 (xW_at (by decide) xC0) rfl ⟨rfl, rfl⟩ (Nat.le_of_ble_eq_true rfl) ⟨(Nat.le_of_ble_eq_true rfl), (Nat.le_of_ble_eq_true rfl)⟩ ?_
    refine g_goto (tgt := 25) dX10_step_20 rfl ?_
    exact g_iret dX10_step_25 rfl rfl ⟨by grind [bI], by grind [bI]⟩
set_option maxRecDepth 100000 in
set_option maxHeartbeats 4000000 in
theorem CX10_each {n : Nat} (hn : n ≤ 8) (hs : σ 1 2 = nI n) {a m s : Int32} : Ct l mX10_each [.ref 0, .int a, .int m, .int s] (xW σ) (q_eq (some (.int (if ldH (σ 1 2) a then (if (1 ≤ m ∧ m ≤ 5) ∧ 0 ≤ s ∧ s ≤ 9 then adR n else 2000000102) else 2000000101))) (xW (if ldH (σ 1 2) a ∧ (1 ≤ m ∧ m ≤ 5) ∧ 0 ≤ s ∧ s ≤ 9 then adS σ n 3 a m s 0 else σ))) := by
  refine Ct.of rfl (Nat.le_of_ble_eq_true rfl) ?_
  refine g_aload_n dX10_each_0 rfl rfl ?_
  refine g_getf dX10_each_1 fX10_10 (xW_at (by decide) xC0) rfl ?_
  refine g_iload_n dX10_each_4 rfl rfl ?_
  refine g_V1r (CX3_holds xLed1) kX10_each_122 dX10_each_5 (xW_at xLed1.1.1 xLed1.2.1) rfl ⟨rfl, rfl⟩ (Nat.le_of_ble_eq_true rfl) ⟨(Nat.le_of_ble_eq_true rfl), (Nat.le_of_ble_eq_true rfl)⟩ ?_
  refine g_if_ne (tgt := 14) dX10_each_8 rfl (fun c_8 => ?_) (fun c_8 => ?_)
  · refine g_iload_n dX10_each_14 rfl rfl ?_
    refine g_iconst (v := 1) dX10_each_15 (by decide) ?_
    refine g_iconst (v := 5) dX10_each_16 (by decide) ?_
    refine g_S3r CX10_isWithin kX10_each_76 dX10_each_17 ⟨rfl, rfl⟩ (Nat.le_of_ble_eq_true rfl) ⟨(Nat.le_of_ble_eq_true rfl), (Nat.le_of_ble_eq_true rfl)⟩ ?_
    refine g_if_eq (tgt := 45) dX10_each_20 rfl (fun c_20 => ?_) (fun c_20 => ?_)
    · refine g_ldc dX10_each_45 tb_299 ?_
      exact g_iret dX10_each_47 rfl rfl ⟨by grind [bI], by grind [bI]⟩
    · refine g_iload_n dX10_each_23 rfl rfl ?_
      refine g_iconst (v := 0) dX10_each_24 (by decide) ?_
      refine g_bipush (v := 9) dX10_each_25 (by decide) ?_
      refine g_S3r CX10_isWithin kX10_each_76 dX10_each_27 ⟨rfl, rfl⟩ (Nat.le_of_ble_eq_true rfl) ⟨(Nat.le_of_ble_eq_true rfl), (Nat.le_of_ble_eq_true rfl)⟩ ?_
      refine g_if_eq (tgt := 45) dX10_each_30 rfl (fun c_30 => ?_) (fun c_30 => ?_)
      · refine g_ldc dX10_each_45 tb_299 ?_
        exact g_iret dX10_each_47 rfl rfl ⟨by grind [bI], by grind [bI]⟩
      · refine g_aload_n dX10_each_33 rfl rfl ?_
        refine g_iconst (v := 3) dX10_each_34 (by decide) ?_
        refine g_iload_n dX10_each_35 rfl rfl ?_
        refine g_iload_n dX10_each_36 rfl rfl ?_
        refine g_iload_n dX10_each_37 rfl rfl ?_
        refine g_iconst (v := 0) dX10_each_38 (by decide) ?_
        refine g_V5r (CX10_added hn hs) kX10_each_221 dX10_each_39 (xW_at (by decide) xC0) rfl ⟨rfl, rfl⟩ (Nat.le_of_ble_eq_true rfl) ⟨(Nat.le_of_ble_eq_true rfl), (Nat.le_of_ble_eq_true rfl)⟩ ?_
        refine g_goto (tgt := 47) dX10_each_42 rfl ?_
        exact g_iret dX10_each_47 rfl rfl ⟨by grind [bI], by grind [bI]⟩
  · refine g_ldc dX10_each_11 tb_439 ?_
    exact g_iret dX10_each_13 rfl rfl ⟨by grind [bI], by grind [bI]⟩
abbrev ptP (k v : Int32) : Prop := if k = 0 ∨ k = 1 then -9 ≤ v ∧ v ≤ 9 else -999 ≤ v ∧ v ≤ 999
set_option maxRecDepth 100000 in
set_option maxHeartbeats 4000000 in
theorem CX10_put {r k v : Int32} : Ct l mX10_put [.ref 0, .int r, .int k, .int v] (xW σ) (q_eq (some (.int (if ldH (σ 1 2) r then (if 0 ≤ k ∧ k ≤ 3 then (if tolP (σ 2) (σ 1 2) r then (if ptP k v then ldNum (σ 3) (σ 1 2) r k else 2000000102) else 2000000103) else 2000000102) else 2000000101))) (xW (if ldH (σ 1 2) r ∧ (0 ≤ k ∧ k ≤ 3) ∧ tolP (σ 2) (σ 1 2) r ∧ ptP k v then xChg (put σ 3 (r * 4 + k).toNatClampNeg v) r else σ))) := by
  refine Ct.of rfl (Nat.le_of_ble_eq_true rfl) ?_
  refine g_aload_n dX10_put_0 rfl rfl ?_
  refine g_getf dX10_put_1 fX10_10 (xW_at (by decide) xC0) rfl ?_
  refine g_iload_n dX10_put_4 rfl rfl ?_
  refine g_V1r (CX3_holds xLed1) kX10_put_122 dX10_put_5 (xW_at xLed1.1.1 xLed1.2.1) rfl ⟨rfl, rfl⟩ (Nat.le_of_ble_eq_true rfl) ⟨(Nat.le_of_ble_eq_true rfl), (Nat.le_of_ble_eq_true rfl)⟩ ?_
  refine g_if_ne (tgt := 14) dX10_put_8 rfl (fun c_8 => ?_) (fun c_8 => ?_)
  · refine g_iload_n dX10_put_14 rfl rfl ?_
    refine g_iconst (v := 0) dX10_put_15 (by decide) ?_
    refine g_iconst (v := 3) dX10_put_16 (by decide) ?_
    refine g_S3r CX10_isWithin kX10_put_76 dX10_put_17 ⟨rfl, rfl⟩ (Nat.le_of_ble_eq_true rfl) ⟨(Nat.le_of_ble_eq_true rfl), (Nat.le_of_ble_eq_true rfl)⟩ ?_
    refine g_if_ne (tgt := 26) dX10_put_20 rfl (fun c_20 => ?_) (fun c_20 => ?_)
    · refine g_aload_n dX10_put_26 rfl rfl ?_
      refine g_getf dX10_put_27 fX10_10 (xW_at (by decide) xC0) rfl ?_
      refine g_iload_n dX10_put_30 rfl rfl ?_
      refine g_V1r (CX3_isTold xLed1) kX10_put_185 dX10_put_31 (xW_at xLed1.1.1 xLed1.2.1) rfl ⟨rfl, rfl⟩ (Nat.le_of_ble_eq_true rfl) ⟨(Nat.le_of_ble_eq_true rfl), (Nat.le_of_ble_eq_true rfl)⟩ ?_
      refine g_if_ne (tgt := 40) dX10_put_34 rfl (fun c_34 => ?_) (fun c_34 => ?_)
      · refine g_iload_n dX10_put_40 rfl rfl ?_
        refine g_if_eq (tgt := 49) dX10_put_41 rfl (fun c_41 => ?_) (fun c_41 => ?_)
        · refine g_bipush (v := 9) dX10_put_49 (by decide) ?_
          refine g_goto (tgt := 57) dX10_put_51 rfl ?_
          refine g_istore dX10_put_57 (Nat.le_of_ble_eq_true rfl) rfl ?_
          refine g_iload_n dX10_put_59 rfl rfl ?_
          refine g_iload dX10_put_60 rfl ?_
          refine g_ineg dX10_put_62 ?_
          refine g_iload dX10_put_63 rfl ?_
          refine g_S3r CX10_isWithin kX10_put_76 dX10_put_65 ⟨rfl, rfl⟩ (Nat.le_of_ble_eq_true rfl) ⟨(Nat.le_of_ble_eq_true rfl), (Nat.le_of_ble_eq_true rfl)⟩ ?_
          refine g_if_ne (tgt := 74) dX10_put_68 rfl (fun c_68 => ?_) (fun c_68 => ?_)
          · refine g_aload_n dX10_put_74 rfl rfl ?_
            refine g_getf dX10_put_75 fX10_10 (xW_at (by decide) xC0) rfl ?_
            refine g_iload_n dX10_put_78 rfl rfl ?_
            refine g_iload_n dX10_put_79 rfl rfl ?_
            refine g_V2r (CX3_numberOf xLed1) kX10_put_133 dX10_put_80 (xW_at xLed1.1.1 xLed1.2.1) rfl ⟨rfl, rfl⟩ (Nat.le_of_ble_eq_true rfl) ⟨(Nat.le_of_ble_eq_true rfl), (Nat.le_of_ble_eq_true rfl)⟩ ?_
            refine g_istore dX10_put_83 (Nat.le_of_ble_eq_true rfl) rfl ?_
            refine g_aload_n dX10_put_85 rfl rfl ?_
            refine g_getf dX10_put_86 fX10_10 (xW_at (by decide) xC0) rfl ?_
            refine g_iload_n dX10_put_89 rfl rfl ?_
            refine g_iload_n dX10_put_90 rfl rfl ?_
            refine g_iload_n dX10_put_91 rfl rfl ?_
            refine g_V3v (CX3_setNumber xLed1) kX10_put_225 dX10_put_92 (xW_at xLed1.1.1 xLed1.2.1) rfl ⟨rfl, rfl⟩ (Nat.le_of_ble_eq_true rfl) ⟨(Nat.le_of_ble_eq_true rfl), (Nat.le_of_ble_eq_true rfl)⟩ ?_
            refine g_aload_n dX10_put_95 rfl rfl ?_
            refine g_iload_n dX10_put_96 rfl rfl ?_
            refine g_V1v CX10_changedFrom kX10_put_110 dX10_put_97 (xW_at (by decide) xC0) rfl ⟨rfl, rfl⟩ (Nat.le_of_ble_eq_true rfl) ⟨(Nat.le_of_ble_eq_true rfl), (Nat.le_of_ble_eq_true rfl)⟩ ?_
            refine g_iload dX10_put_100 rfl ?_
            exact g_iret dX10_put_102 rfl rfl ⟨by simp only [bI, tolP, ptP] at *; grind, by simp only [bI, tolP, ptP] at *; grind⟩
          · refine g_ldc dX10_put_71 tb_299 ?_
            exact g_iret dX10_put_73 rfl rfl ⟨by simp only [bI, tolP, ptP] at *; grind, by simp only [bI, tolP, ptP] at *; grind⟩
        · refine g_iload_n dX10_put_44 rfl rfl ?_
          refine g_iconst (v := 1) dX10_put_45 (by decide) ?_
          refine g_icmp_ne (tgt := 54) dX10_put_46 rfl (fun c_46 => ?_) (fun c_46 => ?_)
          · refine g_sipush (v := 999) dX10_put_54 (by decide) ?_
            refine g_istore dX10_put_57 (Nat.le_of_ble_eq_true rfl) rfl ?_
            refine g_iload_n dX10_put_59 rfl rfl ?_
            refine g_iload dX10_put_60 rfl ?_
            refine g_ineg dX10_put_62 ?_
            refine g_iload dX10_put_63 rfl ?_
            refine g_S3r CX10_isWithin kX10_put_76 dX10_put_65 ⟨rfl, rfl⟩ (Nat.le_of_ble_eq_true rfl) ⟨(Nat.le_of_ble_eq_true rfl), (Nat.le_of_ble_eq_true rfl)⟩ ?_
            refine g_if_ne (tgt := 74) dX10_put_68 rfl (fun c_68 => ?_) (fun c_68 => ?_)
            · refine g_aload_n dX10_put_74 rfl rfl ?_
              refine g_getf dX10_put_75 fX10_10 (xW_at (by decide) xC0) rfl ?_
              refine g_iload_n dX10_put_78 rfl rfl ?_
              refine g_iload_n dX10_put_79 rfl rfl ?_
              refine g_V2r (CX3_numberOf xLed1) kX10_put_133 dX10_put_80 (xW_at xLed1.1.1 xLed1.2.1) rfl ⟨rfl, rfl⟩ (Nat.le_of_ble_eq_true rfl) ⟨(Nat.le_of_ble_eq_true rfl), (Nat.le_of_ble_eq_true rfl)⟩ ?_
              refine g_istore dX10_put_83 (Nat.le_of_ble_eq_true rfl) rfl ?_
              refine g_aload_n dX10_put_85 rfl rfl ?_
              refine g_getf dX10_put_86 fX10_10 (xW_at (by decide) xC0) rfl ?_
              refine g_iload_n dX10_put_89 rfl rfl ?_
              refine g_iload_n dX10_put_90 rfl rfl ?_
              refine g_iload_n dX10_put_91 rfl rfl ?_
              refine g_V3v (CX3_setNumber xLed1) kX10_put_225 dX10_put_92 (xW_at xLed1.1.1 xLed1.2.1) rfl ⟨rfl, rfl⟩ (Nat.le_of_ble_eq_true rfl) ⟨(Nat.le_of_ble_eq_true rfl), (Nat.le_of_ble_eq_true rfl)⟩ ?_
              refine g_aload_n dX10_put_95 rfl rfl ?_
              refine g_iload_n dX10_put_96 rfl rfl ?_
              refine g_V1v CX10_changedFrom kX10_put_110 dX10_put_97 (xW_at (by decide) xC0) rfl ⟨rfl, rfl⟩ (Nat.le_of_ble_eq_true rfl) ⟨(Nat.le_of_ble_eq_true rfl), (Nat.le_of_ble_eq_true rfl)⟩ ?_
              refine g_iload dX10_put_100 rfl ?_
              exact g_iret dX10_put_102 rfl rfl ⟨by simp only [bI, tolP, ptP] at *; grind, by simp only [bI, tolP, ptP] at *; grind⟩
            · refine g_ldc dX10_put_71 tb_299 ?_
              exact g_iret dX10_put_73 rfl rfl ⟨by simp only [bI, tolP, ptP] at *; grind, by simp only [bI, tolP, ptP] at *; grind⟩
          · refine g_bipush (v := 9) dX10_put_49 (by decide) ?_
            refine g_goto (tgt := 57) dX10_put_51 rfl ?_
            refine g_istore dX10_put_57 (Nat.le_of_ble_eq_true rfl) rfl ?_
            refine g_iload_n dX10_put_59 rfl rfl ?_
            refine g_iload dX10_put_60 rfl ?_
            refine g_ineg dX10_put_62 ?_
            refine g_iload dX10_put_63 rfl ?_
            refine g_S3r CX10_isWithin kX10_put_76 dX10_put_65 ⟨rfl, rfl⟩ (Nat.le_of_ble_eq_true rfl) ⟨(Nat.le_of_ble_eq_true rfl), (Nat.le_of_ble_eq_true rfl)⟩ ?_
            refine g_if_ne (tgt := 74) dX10_put_68 rfl (fun c_68 => ?_) (fun c_68 => ?_)
            · refine g_aload_n dX10_put_74 rfl rfl ?_
              refine g_getf dX10_put_75 fX10_10 (xW_at (by decide) xC0) rfl ?_
              refine g_iload_n dX10_put_78 rfl rfl ?_
              refine g_iload_n dX10_put_79 rfl rfl ?_
              refine g_V2r (CX3_numberOf xLed1) kX10_put_133 dX10_put_80 (xW_at xLed1.1.1 xLed1.2.1) rfl ⟨rfl, rfl⟩ (Nat.le_of_ble_eq_true rfl) ⟨(Nat.le_of_ble_eq_true rfl), (Nat.le_of_ble_eq_true rfl)⟩ ?_
              refine g_istore dX10_put_83 (Nat.le_of_ble_eq_true rfl) rfl ?_
              refine g_aload_n dX10_put_85 rfl rfl ?_
              refine g_getf dX10_put_86 fX10_10 (xW_at (by decide) xC0) rfl ?_
              refine g_iload_n dX10_put_89 rfl rfl ?_
              refine g_iload_n dX10_put_90 rfl rfl ?_
              refine g_iload_n dX10_put_91 rfl rfl ?_
              refine g_V3v (CX3_setNumber xLed1) kX10_put_225 dX10_put_92 (xW_at xLed1.1.1 xLed1.2.1) rfl ⟨rfl, rfl⟩ (Nat.le_of_ble_eq_true rfl) ⟨(Nat.le_of_ble_eq_true rfl), (Nat.le_of_ble_eq_true rfl)⟩ ?_
              refine g_aload_n dX10_put_95 rfl rfl ?_
              refine g_iload_n dX10_put_96 rfl rfl ?_
              refine g_V1v CX10_changedFrom kX10_put_110 dX10_put_97 (xW_at (by decide) xC0) rfl ⟨rfl, rfl⟩ (Nat.le_of_ble_eq_true rfl) ⟨(Nat.le_of_ble_eq_true rfl), (Nat.le_of_ble_eq_true rfl)⟩ ?_
              refine g_iload dX10_put_100 rfl ?_
              exact g_iret dX10_put_102 rfl rfl ⟨by simp only [bI, tolP, ptP] at *; grind, by simp only [bI, tolP, ptP] at *; grind⟩
            · refine g_ldc dX10_put_71 tb_299 ?_
              exact g_iret dX10_put_73 rfl rfl ⟨by simp only [bI, tolP, ptP] at *; grind, by simp only [bI, tolP, ptP] at *; grind⟩
      · refine g_ldc dX10_put_37 tb_405 ?_
        exact g_iret dX10_put_39 rfl rfl ⟨by simp only [bI, tolP, ptP] at *; grind, by simp only [bI, tolP, ptP] at *; grind⟩
    · refine g_ldc dX10_put_23 tb_299 ?_
      exact g_iret dX10_put_25 rfl rfl ⟨by simp only [bI, tolP, ptP] at *; grind, by simp only [bI, tolP, ptP] at *; grind⟩
  · refine g_ldc dX10_put_11 tb_439 ?_
    exact g_iret dX10_put_13 rfl rfl ⟨by simp only [bI, tolP, ptP] at *; grind, by simp only [bI, tolP, ptP] at *; grind⟩
set_option maxRecDepth 100000 in
set_option maxHeartbeats 4000000 in
theorem CX10_drop (h0 : 0 ≤ σ 1 2) : Ct l mX10_drop [.ref 0] (xW σ) (q_eq (some (.int (if σ 1 2 = 0 then 2000000103 else σ 1 2 - 1))) (xW (if σ 1 2 = 0 then σ else xChg (put σ 1 2 (σ 1 2 - 1)) (σ 1 2 - 1)))) := by
  refine Ct.of rfl (Nat.le_of_ble_eq_true rfl) ?_
  refine g_aload_n dX10_drop_0 rfl rfl ?_
  refine g_getf dX10_drop_1 fX10_10 (xW_at (by decide) xC0) rfl ?_
  refine g_V0r (CX3_size xLed1) kX10_drop_121 dX10_drop_4 (xW_at xLed1.1.1 xLed1.2.1) rfl ⟨rfl, rfl⟩ (Nat.le_of_ble_eq_true rfl) ⟨(Nat.le_of_ble_eq_true rfl), (Nat.le_of_ble_eq_true rfl)⟩ ?_
  refine g_if_ne (tgt := 13) dX10_drop_7 rfl (fun c_7 => ?_) (fun c_7 => ?_)
  · refine g_aload_n dX10_drop_13 rfl rfl ?_
    refine g_getf dX10_drop_14 fX10_10 (xW_at (by decide) xC0) rfl ?_
    refine g_V0v (CX3_removeLast xLed1) kX10_drop_229 dX10_drop_17 (xW_at xLed1.1.1 xLed1.2.1) rfl ⟨rfl, rfl⟩ (Nat.le_of_ble_eq_true rfl) ⟨(Nat.le_of_ble_eq_true rfl), (Nat.le_of_ble_eq_true rfl)⟩ ?_
    rw [if_pos (show 0 < σ 1 2 by grind)]
    refine g_aload_n dX10_drop_20 rfl rfl ?_
    refine g_aload_n dX10_drop_21 rfl rfl ?_
    refine g_getf dX10_drop_22 fX10_10 (xW_at (by decide) xC0) rfl ?_
    refine g_V0r (CX3_size xLed1) kX10_drop_121 dX10_drop_25 (xW_at xLed1.1.1 xLed1.2.1) rfl ⟨rfl, rfl⟩ (Nat.le_of_ble_eq_true rfl) ⟨(Nat.le_of_ble_eq_true rfl), (Nat.le_of_ble_eq_true rfl)⟩ ?_
    refine g_V1v CX10_changedFrom kX10_drop_110 dX10_drop_28 (xW_at (by decide) xC0) rfl ⟨rfl, rfl⟩ (Nat.le_of_ble_eq_true rfl) ⟨(Nat.le_of_ble_eq_true rfl), (Nat.le_of_ble_eq_true rfl)⟩ ?_
    refine g_aload_n dX10_drop_31 rfl rfl ?_
    refine g_getf dX10_drop_32 fX10_10 (xW_at (by decide) xC0) rfl ?_
    refine g_V0r (CX3_size xLed1) kX10_drop_121 dX10_drop_35 (xW_at xLed1.1.1 xLed1.2.1) rfl ⟨rfl, rfl⟩ (Nat.le_of_ble_eq_true rfl) ⟨(Nat.le_of_ble_eq_true rfl), (Nat.le_of_ble_eq_true rfl)⟩ ?_
    exact g_iret dX10_drop_38 rfl rfl ⟨by rw [if_neg c_7]; rfl, by rw [if_neg c_7]; rfl⟩
  · refine g_ldc dX10_drop_10 tb_405 ?_
    exact g_iret dX10_drop_12 rfl rfl ⟨by rw [if_pos c_7], by rw [if_pos c_7]⟩
set_option maxRecDepth 100000 in
set_option maxHeartbeats 4000000 in
theorem CX10_image {g : Nat} (hg : g ≤ 8) (h4 : σ 4 1 = nI g) : Ct l mX10_image [.ref 0] (xW σ) (q_eq (some (.int (if σ 1 2 = 0 then 2000000103 else (put (nmCp (ldCp σ 168 169 170 1 2 3) 171 172 5 g) 0 11 1) 1 2))) (xW (if σ 1 2 = 0 then σ else (put (nmCp (ldCp σ 168 169 170 1 2 3) 171 172 5 g) 0 11 1)))) := by
  refine Ct.of rfl (Nat.le_of_ble_eq_true rfl) ?_
  refine g_aload_n dX10_image_0 rfl rfl ?_
  refine g_getf dX10_image_1 fX10_10 (xW_at (by decide) xC0) rfl ?_
  refine g_V0r (CX3_size xLed1) kX10_image_121 dX10_image_4 (xW_at xLed1.1.1 xLed1.2.1) rfl ⟨rfl, rfl⟩ (Nat.le_of_ble_eq_true rfl) ⟨(Nat.le_of_ble_eq_true rfl), (Nat.le_of_ble_eq_true rfl)⟩ ?_
  refine g_if_ne (tgt := 13) dX10_image_7 rfl (fun c_7 => ?_) (fun c_7 => ?_)
  · refine g_aload_n dX10_image_13 rfl rfl ?_
    refine g_getf dX10_image_14 fX10_70 (xW_at (by decide) xC0) rfl ?_
    refine g_aload_n dX10_image_17 rfl rfl ?_
    refine g_getf dX10_image_18 fX10_10 (xW_at (by decide) xC0) rfl ?_
    refine g_V1v (CX3_copyFrom xLed168 xLed1) kX10_image_106 dX10_image_21 (xW_at xLed168.1.1 xLed168.2.1) rfl ⟨rfl, rfl⟩ (Nat.le_of_ble_eq_true rfl) ⟨(Nat.le_of_ble_eq_true rfl), (Nat.le_of_ble_eq_true rfl)⟩ ?_
    refine g_aload_n dX10_image_24 rfl rfl ?_
    refine g_getf dX10_image_25 fX10_73 (xW_at (by decide) xC0) rfl ?_
    refine g_aload_n dX10_image_28 rfl rfl ?_
    refine g_getf dX10_image_29 fX10_21 (xW_at (by decide) xC0) rfl ?_
    refine g_V1v (CX4_copyFrom (σ := ldCp σ 168 169 170 1 2 3) xNum171 (by decide) xNum4 (by decide) hg h4) kX10_image_265 dX10_image_32 (xW_at xNum171.1.1 xNum171.2.1) rfl ⟨rfl, rfl⟩ (Nat.le_of_ble_eq_true rfl) ⟨(Nat.le_of_ble_eq_true rfl), (Nat.le_of_ble_eq_true rfl)⟩ ?_
    refine g_aload_n dX10_image_35 rfl rfl ?_
    refine g_iconst (v := 1) dX10_image_36 (by decide) ?_
    refine g_putf dX10_image_37 pX10_113 (xW_at (by decide) xC0) (Nat.le_of_ble_eq_true rfl) (fun _ => rfl) (fun _ => rfl) (xW_obj xC0 rfl) ?_
    refine g_aload_n dX10_image_40 rfl rfl ?_
    refine g_getf dX10_image_41 fX10_10 (xW_at (by decide) xC0) rfl ?_
    refine g_V0r (CX3_size xLed1) kX10_image_121 dX10_image_44 (xW_at xLed1.1.1 xLed1.2.1) rfl ⟨rfl, rfl⟩ (Nat.le_of_ble_eq_true rfl) ⟨(Nat.le_of_ble_eq_true rfl), (Nat.le_of_ble_eq_true rfl)⟩ ?_
    exact g_iret dX10_image_47 rfl rfl ⟨by rw [if_neg c_7], by rw [if_neg c_7]⟩
  · refine g_ldc dX10_image_10 tb_405 ?_
    exact g_iret dX10_image_12 rfl rfl ⟨by rw [if_pos c_7], by rw [if_pos c_7]⟩
set_option maxRecDepth 100000 in
set_option maxHeartbeats 4000000 in
theorem CX10_restore {g : Nat} (hg : g ≤ 8) (h4 : ¬ σ 0 11 = 0 → σ 171 1 = nI g) : Ct l mX10_restore [.ref 0] (xW σ) (q_eq (some (.int (if σ 0 11 = 0 then 2000000103 else (xChg (nmCp (ldCp σ 1 2 3 168 169 170) 4 5 172 g) 0) 1 2))) (xW (if σ 0 11 = 0 then σ else (xChg (nmCp (ldCp σ 1 2 3 168 169 170) 4 5 172 g) 0)))) := by
  refine Ct.of rfl (Nat.le_of_ble_eq_true rfl) ?_
  refine g_aload_n dX10_restore_0 rfl rfl ?_
  refine g_getf dX10_restore_1 fX10_113 (xW_at (by decide) xC0) rfl ?_
  refine g_if_ne (tgt := 10) dX10_restore_4 rfl (fun c_4 => ?_) (fun c_4 => ?_)
  · refine g_aload_n dX10_restore_10 rfl rfl ?_
    refine g_getf dX10_restore_11 fX10_10 (xW_at (by decide) xC0) rfl ?_
    refine g_aload_n dX10_restore_14 rfl rfl ?_
    refine g_getf dX10_restore_15 fX10_70 (xW_at (by decide) xC0) rfl ?_
    refine g_V1v (CX3_copyFrom xLed1 xLed168) kX10_restore_106 dX10_restore_18 (xW_at xLed1.1.1 xLed1.2.1) rfl ⟨rfl, rfl⟩ (Nat.le_of_ble_eq_true rfl) ⟨(Nat.le_of_ble_eq_true rfl), (Nat.le_of_ble_eq_true rfl)⟩ ?_
    refine g_aload_n dX10_restore_21 rfl rfl ?_
    refine g_getf dX10_restore_22 fX10_21 (xW_at (by decide) xC0) rfl ?_
    refine g_aload_n dX10_restore_25 rfl rfl ?_
    refine g_getf dX10_restore_26 fX10_73 (xW_at (by decide) xC0) rfl ?_
    refine g_V1v (CX4_copyFrom (σ := ldCp σ 1 2 3 168 169 170) xNum4 (by decide) xNum171 (by decide) hg (h4 c_4)) kX10_restore_265 dX10_restore_29 (xW_at xNum4.1.1 xNum4.2.1) rfl ⟨rfl, rfl⟩ (Nat.le_of_ble_eq_true rfl) ⟨(Nat.le_of_ble_eq_true rfl), (Nat.le_of_ble_eq_true rfl)⟩ ?_
    refine g_aload_n dX10_restore_32 rfl rfl ?_
    refine g_iconst (v := 0) dX10_restore_33 (by decide) ?_
    refine g_V1v CX10_changedFrom kX10_restore_110 dX10_restore_34 (xW_at (by decide) xC0) rfl ⟨rfl, rfl⟩ (Nat.le_of_ble_eq_true rfl) ⟨(Nat.le_of_ble_eq_true rfl), (Nat.le_of_ble_eq_true rfl)⟩ ?_
    refine g_aload_n dX10_restore_37 rfl rfl ?_
    refine g_getf dX10_restore_38 fX10_10 (xW_at (by decide) xC0) rfl ?_
    refine g_V0r (CX3_size xLed1) kX10_restore_121 dX10_restore_41 (xW_at xLed1.1.1 xLed1.2.1) rfl ⟨rfl, rfl⟩ (Nat.le_of_ble_eq_true rfl) ⟨(Nat.le_of_ble_eq_true rfl), (Nat.le_of_ble_eq_true rfl)⟩ ?_
    exact g_iret dX10_restore_44 rfl rfl ⟨by rw [if_neg c_4], by rw [if_neg c_4]⟩
  · refine g_ldc dX10_restore_7 tb_405 ?_
    exact g_iret dX10_restore_9 rfl rfl ⟨by rw [if_pos c_4], by rw [if_pos c_4]⟩
set_option maxRecDepth 100000 in
set_option maxHeartbeats 4000000 in
theorem CX10_guess {g : Nat} (hg : g ≤ 8) (h4 : σ 4 1 = nI g) {k : Int32} : Ct l mX10_guess [.ref 0, .int k] (xW σ) (fun rv w' => ∃ x y z, w' = xW (ex3 σ x y z) ∧ rv = some (.int (if 0 ≤ k ∧ k ≤ 2 then (if (gsK (σ 5) g) < 381 then (if k = 0 then gsD (gsK (σ 5) g) else if k = 1 then gsU (gsK (σ 5) g) else gsV (gsK (σ 5) g)) else 2000000001) else 2000000102))) := by
  refine Ct.of rfl (Nat.le_of_ble_eq_true rfl) ?_
  refine g_iload_n dX10_guess_0 rfl rfl ?_
  refine g_iconst (v := 0) dX10_guess_1 (by decide) ?_
  refine g_iconst (v := 2) dX10_guess_2 (by decide) ?_
  refine g_S3r CX10_isWithin kX10_guess_76 dX10_guess_3 ⟨rfl, rfl⟩ (Nat.le_of_ble_eq_true rfl) ⟨(Nat.le_of_ble_eq_true rfl), (Nat.le_of_ble_eq_true rfl)⟩ ?_
  refine g_if_ne (tgt := 12) dX10_guess_6 rfl (fun c_6 => ?_) (fun c_6 => ?_)
  · refine g_aload_n dX10_guess_12 rfl rfl ?_
    refine g_getf dX10_guess_13 fX10_38 (xW_at (by decide) xC0) rfl ?_
    refine g_aload_n dX10_guess_16 rfl rfl ?_
    refine g_getf dX10_guess_17 fX10_21 (xW_at (by decide) xC0) rfl ?_
    refine g_V1p (CX2_isFoundFor h4 hg) kX10_guess_242 dX10_guess_20 (xW_at (by decide) xC12) rfl ⟨rfl, rfl⟩ (Nat.le_of_ble_eq_true rfl) ⟨(Nat.le_of_ble_eq_true rfl), (Nat.le_of_ble_eq_true rfl)⟩ ?_
    rintro rv w1 ⟨x, y, z, rfl, rfl, hx⟩
    refine g_if_ne (tgt := 29) dX10_guess_23 rfl (fun c_23 => ?_) (fun c_23 => ?_)
    · have hq : gsK (σ 5) g < 381 := Classical.byContradiction (fun z => c_23 (bI_f z))
      obtain ⟨e1, e2, e3⟩ := hx hq
      subst e1 e2 e3
      refine g_iload_n dX10_guess_29 rfl rfl ?_
      refine g_if_ne (tgt := 41) dX10_guess_30 rfl (fun c_30 => ?_) (fun c_30 => ?_)
      · refine g_iload_n dX10_guess_41 rfl rfl ?_
        refine g_iconst (v := 1) dX10_guess_42 (by decide) ?_
        refine g_icmp_ne (tgt := 56) dX10_guess_43 rfl (fun c_43 => ?_) (fun c_43 => ?_)
        · refine g_aload_n dX10_guess_56 rfl rfl ?_
          refine g_getf dX10_guess_57 fX10_38 (xW_at (by decide) xC0) rfl ?_
          refine g_V0r CX2_v kX10_guess_251 dX10_guess_60 (xW_at (by decide) xC12) rfl ⟨rfl, rfl⟩ (Nat.le_of_ble_eq_true rfl) ⟨(Nat.le_of_ble_eq_true rfl), (Nat.le_of_ble_eq_true rfl)⟩ ?_
          exact g_iret dX10_guess_63 rfl rfl ⟨_, _, _, rfl, by rw [if_pos (Classical.byContradiction (fun z => c_6 (bI_f z))), if_pos hq]; simp [*]; rfl⟩
        · refine g_aload_n dX10_guess_46 rfl rfl ?_
          refine g_getf dX10_guess_47 fX10_38 (xW_at (by decide) xC0) rfl ?_
          refine g_V0r CX2_u kX10_guess_248 dX10_guess_50 (xW_at (by decide) xC12) rfl ⟨rfl, rfl⟩ (Nat.le_of_ble_eq_true rfl) ⟨(Nat.le_of_ble_eq_true rfl), (Nat.le_of_ble_eq_true rfl)⟩ ?_
          refine g_goto (tgt := 63) dX10_guess_53 rfl ?_
          exact g_iret dX10_guess_63 rfl rfl ⟨_, _, _, rfl, by rw [if_pos (Classical.byContradiction (fun z => c_6 (bI_f z))), if_pos hq]; simp [*]; rfl⟩
      · refine g_aload_n dX10_guess_33 rfl rfl ?_
        refine g_getf dX10_guess_34 fX10_38 (xW_at (by decide) xC0) rfl ?_
        refine g_V0r CX2_degree kX10_guess_245 dX10_guess_37 (xW_at (by decide) xC12) rfl ⟨rfl, rfl⟩ (Nat.le_of_ble_eq_true rfl) ⟨(Nat.le_of_ble_eq_true rfl), (Nat.le_of_ble_eq_true rfl)⟩ ?_
        exact g_iret dX10_guess_40 rfl rfl ⟨_, _, _, rfl, by rw [if_pos (Classical.byContradiction (fun z => c_6 (bI_f z))), if_pos hq]; simp [*]; rfl⟩
    · refine g_ldc dX10_guess_26 tb_449 ?_
      exact g_iret dX10_guess_28 rfl rfl ⟨_, _, _, rfl, by rw [if_pos (Classical.byContradiction (fun z => c_6 (bI_f z))), if_neg (bI_0.mp c_23)]⟩
  · refine g_ldc dX10_guess_9 tb_299 ?_
    exact g_iret dX10_guess_11 rfl rfl ⟨_, _, _, (congrArg xW ex3_id).symm, by rw [if_neg (bI_0.mp c_6)]⟩
def fdE (G : Nat → Int32) (g : Nat) : Int32 := if gsK G g = 0 then 0 else gAt G g 0
def fdF (G : Nat → Int32) (g : Nat) : Int32 := if gsK G g = 0 then 0 else if gsK G g < 20 then gsU (gsK G g) * gAt G g 0 else gAt G g 1
end
