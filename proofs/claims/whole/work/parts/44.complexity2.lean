theorem cxP_ne {σ : Nat → Nat → Int32} {C B S : Nat → Int32} {p L : Int32} {c : Nat} (h : c < 162) : cxP σ C B S p L c = σ c := by
  unfold cxP
  rw [if_neg (by omega), if_neg (by omega), if_neg (by omega), if_neg (by omega)]
def prm (P : Nat) : Prop := P = 2 ∨ P = 3 ∨ P = 5 ∨ P = 7
section
variable {l : Launch} {w : q_Wd} {σ : Nat → Nat → Int32}
set_option maxRecDepth 100000 in
set_option maxHeartbeats 4000000 in
theorem CX0_begin_loop {P n0 : Nat} {y1 : Int32} : ∀ (d j : Nat), j + d = 17 → Go l mX0_begin n0 (q_eq none (xW (cxP σ (ru (σ 163) 0 17 dl0) (ru (σ 164) 0 17 dl0) (σ 165) (nI P) 0))) (0, 0) 23 [some (.ref 162), some (.int y1), some (.int (nI j))] [] (xW (cxP σ (ru (σ 163) 0 j dl0) (ru (σ 164) 0 j dl0) (σ 165) (nI P) 0)) := by
  intro d
  induction d with
  | zero =>
    intro j hj
    have e1 : j = 17 := by omega
    subst e1
    refine g_iload_n dX0_begin_23 rfl rfl ?_
    refine g_bipush (v := 17) dX0_begin_24 (by decide) ?_
    refine g_icmp_ge (tgt := 62) dX0_begin_26 rfl (fun c_26 => ?_) (fun c_26 => by exfalso; revert c_26; decide)
    exact g_vret dX0_begin_62 rfl rfl ⟨rfl, rfl⟩
  | succ d ih =>
    intro j hj
    refine g_iload_n dX0_begin_23 rfl rfl ?_
    refine g_bipush (v := 17) dX0_begin_24 (by decide) ?_
    refine g_icmp_ge (tgt := 62) dX0_begin_26 rfl (fun c_26 => by exact absurd c_26 (nI_ge (b := 17) (by omega) (by decide))) (fun c_26 => ?_)
    refine g_aload_n dX0_begin_29 rfl rfl ?_
    refine g_getf dX0_begin_30 fX0_9 (xW_at (by decide) xC162) rfl ?_
    refine g_iload_n dX0_begin_33 rfl rfl ?_
    refine g_iload_n dX0_begin_34 rfl rfl ?_
    refine g_if_ne (tgt := 42) dX0_begin_35 rfl (fun c_35 => ?_) (fun c_35 => ?_)
    · refine g_iconst (v := 0) dX0_begin_42 (by decide) ?_
      refine g_iast dX0_begin_43 (xW_at (by decide) xC163) (vin_lt 17 (nI_pos' (by omega)) (nI_lt (b := 17) (by omega) (by decide)) (by decide)) (show _ = xW (cxP σ (ru (σ 163) 0 (j + 1) dl0) (ru (σ 164) 0 j dl0) (σ 165) (nI P) 0) by rw [xW_arr xC163, nI_clamp (by omega)]; show xW (put (cxP σ (ru (σ 163) 0 j dl0) (ru (σ 164) 0 j dl0) (σ 165) (nI P) 0) 163 j _) = _; rw [← putC_put, cxP_C]; congr 1; congr 1; rw [show (0 : Int32) = dl0 j by rw [dl0, if_neg (fun q => c_35 (by rw [q]; rfl))]]; have := ru_1 (V := σ 163) (F := dl0) (s := 0) (j := j) (x := dl0 j) rfl; rw [Nat.zero_add] at this; exact this) ?_
      refine g_aload_n dX0_begin_44 rfl rfl ?_
      refine g_getf dX0_begin_45 fX0_13 (xW_at (by decide) xC162) rfl ?_
      refine g_iload_n dX0_begin_48 rfl rfl ?_
      refine g_aload_n dX0_begin_49 rfl rfl ?_
      refine g_getf dX0_begin_50 fX0_9 (xW_at (by decide) xC162) rfl ?_
      refine g_iload_n dX0_begin_53 rfl rfl ?_
      refine g_iald dX0_begin_54 (xW_at (by decide) xC163) (vin_lt 17 (nI_pos' (by omega)) (nI_lt (b := 17) (by omega) (by decide)) (by decide)) ?_
      refine Go.eq rfl rfl (show _ = Value.int (dl0 j) :: _ from congrArg (fun z => Value.int z :: _) (show ru (σ 163) 0 (j + 1) dl0 (nI j).toNatClampNeg = _ by rw [nI_clamp (by omega)]; have := ru_in (V := σ 163) (F := dl0) (s := 0) (j := j + 1) (k := j) (by omega); rw [Nat.zero_add] at this; exact this)) rfl ?_
      refine g_iast dX0_begin_55 (xW_at (by decide) xC164) (vin_lt 17 (nI_pos' (by omega)) (nI_lt (b := 17) (by omega) (by decide)) (by decide)) (show _ = xW (cxP σ (ru (σ 163) 0 (j + 1) dl0) (ru (σ 164) 0 (j + 1) dl0) (σ 165) (nI P) 0) by rw [xW_arr xC164, nI_clamp (by omega)]; show xW (put (cxP σ (ru (σ 163) 0 (j + 1) dl0) (ru (σ 164) 0 j dl0) (σ 165) (nI P) 0) 164 j _) = _; rw [← putC_put, cxP_B]; congr 1; congr 1; have := ru_1 (V := σ 164) (F := dl0) (s := 0) (j := j) (x := dl0 j) rfl; rw [Nat.zero_add] at this; exact this) ?_
      refine g_iinc (v := 1) dX0_begin_56 (by decide) rfl (Nat.le_of_ble_eq_true rfl) rfl ?_
      refine g_goto (tgt := 23) dX0_begin_59 rfl ?_
      exact Go.eq rfl (show _ = _ by rw [← nI_1 j]; rfl) rfl rfl (ih (j + 1) (by omega))
    · refine g_iconst (v := 1) dX0_begin_38 (by decide) ?_
      refine g_goto (tgt := 43) dX0_begin_39 rfl ?_
      refine g_iast dX0_begin_43 (xW_at (by decide) xC163) (vin_lt 17 (nI_pos' (by omega)) (nI_lt (b := 17) (by omega) (by decide)) (by decide)) (show _ = xW (cxP σ (ru (σ 163) 0 (j + 1) dl0) (ru (σ 164) 0 j dl0) (σ 165) (nI P) 0) by rw [xW_arr xC163, nI_clamp (by omega)]; show xW (put (cxP σ (ru (σ 163) 0 j dl0) (ru (σ 164) 0 j dl0) (σ 165) (nI P) 0) 163 j _) = _; rw [← putC_put, cxP_C]; congr 1; congr 1; rw [show (1 : Int32) = dl0 j by rw [dl0, if_pos (nI_inj (by omega) (by decide) c_35)]]; have := ru_1 (V := σ 163) (F := dl0) (s := 0) (j := j) (x := dl0 j) rfl; rw [Nat.zero_add] at this; exact this) ?_
      refine g_aload_n dX0_begin_44 rfl rfl ?_
      refine g_getf dX0_begin_45 fX0_13 (xW_at (by decide) xC162) rfl ?_
      refine g_iload_n dX0_begin_48 rfl rfl ?_
      refine g_aload_n dX0_begin_49 rfl rfl ?_
      refine g_getf dX0_begin_50 fX0_9 (xW_at (by decide) xC162) rfl ?_
      refine g_iload_n dX0_begin_53 rfl rfl ?_
      refine g_iald dX0_begin_54 (xW_at (by decide) xC163) (vin_lt 17 (nI_pos' (by omega)) (nI_lt (b := 17) (by omega) (by decide)) (by decide)) ?_
      refine Go.eq rfl rfl (show _ = Value.int (dl0 j) :: _ from congrArg (fun z => Value.int z :: _) (show ru (σ 163) 0 (j + 1) dl0 (nI j).toNatClampNeg = _ by rw [nI_clamp (by omega)]; have := ru_in (V := σ 163) (F := dl0) (s := 0) (j := j + 1) (k := j) (by omega); rw [Nat.zero_add] at this; exact this)) rfl ?_
      refine g_iast dX0_begin_55 (xW_at (by decide) xC164) (vin_lt 17 (nI_pos' (by omega)) (nI_lt (b := 17) (by omega) (by decide)) (by decide)) (show _ = xW (cxP σ (ru (σ 163) 0 (j + 1) dl0) (ru (σ 164) 0 (j + 1) dl0) (σ 165) (nI P) 0) by rw [xW_arr xC164, nI_clamp (by omega)]; show xW (put (cxP σ (ru (σ 163) 0 (j + 1) dl0) (ru (σ 164) 0 j dl0) (σ 165) (nI P) 0) 164 j _) = _; rw [← putC_put, cxP_B]; congr 1; congr 1; have := ru_1 (V := σ 164) (F := dl0) (s := 0) (j := j) (x := dl0 j) rfl; rw [Nat.zero_add] at this; exact this) ?_
      refine g_iinc (v := 1) dX0_begin_56 (by decide) rfl (Nat.le_of_ble_eq_true rfl) rfl ?_
      refine g_goto (tgt := 23) dX0_begin_59 rfl ?_
      exact Go.eq rfl (show _ = _ by rw [← nI_1 j]; rfl) rfl rfl (ih (j + 1) (by omega))
set_option maxRecDepth 100000 in
set_option maxHeartbeats 4000000 in
theorem CX0_begin {P : Nat} (hP : prm P) : Ct l mX0_begin [.ref 162, .int (nI P)] (xW σ) (q_eq none (xW (cxP σ (ru (σ 163) 0 17 dl0) (ru (σ 164) 0 17 dl0) (σ 165) (nI P) 0))) := by
  have hb : bI (nI P = 2 ∨ nI P = 3 ∨ nI P = 5 ∨ nI P = 7) = 1 := by
    rcases hP with rfl | rfl | rfl | rfl <;> decide
  refine Ct.of rfl (Nat.le_of_ble_eq_true rfl) ?_
  refine Go.eq rfl rfl rfl (show xW σ = xW (cxP σ (σ 163) (σ 164) (σ 165) (σ 162 3) (σ 162 4)) by rw [cxP_id]) ?_
  refine g_aload_n dX0_begin_0 rfl rfl ?_
  refine g_iload_n dX0_begin_1 rfl rfl ?_
  refine g_SN1r CX10_isPrime kX0_begin_54 dX0_begin_2 ⟨rfl, rfl⟩ (Nat.le_of_ble_eq_true rfl) ⟨(Nat.le_of_ble_eq_true rfl), (Nat.le_of_ble_eq_true rfl)⟩ ?_
  refine g_if_eq (tgt := 12) dX0_begin_5 rfl (fun c_5 => by rw [hb] at c_5; exact absurd c_5 (by decide)) (fun c_5 => ?_)
  refine g_iload_n dX0_begin_8 rfl rfl ?_
  refine g_goto (tgt := 13) dX0_begin_9 rfl ?_
  refine g_putf dX0_begin_13 pX0_19 (xW_at (by decide) xC162) (Nat.le_of_ble_eq_true rfl) (fun _ => rfl) (fun _ => rfl) (show _ = xW (cxP σ (σ 163) (σ 164) (σ 165) (nI P) (σ 162 4)) from (xW_obj xC162 rfl).trans (congrArg xW cxP_p)) ?_
  refine g_aload_n dX0_begin_16 rfl rfl ?_
  refine g_iconst (v := 0) dX0_begin_17 (by decide) ?_
  refine g_putf dX0_begin_18 pX0_23 (xW_at (by decide) xC162) (Nat.le_of_ble_eq_true rfl) (fun _ => rfl) (fun _ => rfl) (show _ = xW (cxP σ (σ 163) (σ 164) (σ 165) (nI P) 0) from (xW_obj xC162 rfl).trans (congrArg xW cxP_L)) ?_
  refine g_iconst (v := 0) dX0_begin_21 (by decide) ?_
  refine g_istore_n dX0_begin_22 rfl (Nat.le_of_ble_eq_true rfl) rfl ?_
  exact Go.eq rfl rfl rfl (show _ = xW (cxP σ (ru (σ 163) 0 0 dl0) (ru (σ 164) 0 0 dl0) (σ 165) (nI P) 0) by rw [ru_0, ru_0]) (CX0_begin_loop 17 0 rfl)
def bmZ (σ : Nat → Nat → Int32) (i R P n : Nat) : bmT := bmR (cyN (σ (i + 1)) R) P ((ru (σ 163) 0 17 dl0, ru (σ 164) 0 17 dl0, σ 165, 0, 1, 1) : bmT) n
def bmW (σ : Nat → Nat → Int32) (P : Nat) (z : bmT) : Nat → Nat → Int32 := cxP σ z.1 z.2.1 z.2.2.1 (nI P) (nI z.2.2.2.1)
set_option maxRecDepth 100000 in
set_option maxHeartbeats 4000000 in
theorem CX0_examine_loop {i m R P : Nat} (h : xCyc i m R) (hi : i + 1 < 162) (hP : prm P) {n0 : Nat} {y2 : Int32} : ∀ (d j : Nat) (x6 : Option Value), j + d = 16 → Go l mX0_examine n0 (q_eq none (xW (bmW σ P (bmZ σ i R P 16)))) (0, 0) 13 [some (.ref 162), some (.ref i), some (.int y2), some (.int (nI (bmZ σ i R P j).2.2.2.2.1)), some (.int (bmZ σ i R P j).2.2.2.2.2), some (.int (nI j)), x6] [] (xW (bmW σ P (bmZ σ i R P j))) := by
  intro d
  induction d with
  | zero =>
    intro j x6 hj
    have e1 : j = 16 := by omega
    subst e1
    refine g_iload dX0_examine_13 rfl ?_
    refine g_bipush (v := 16) dX0_examine_15 (by decide) ?_
    refine g_icmp_ge (tgt := 140) dX0_examine_17 rfl (fun c_17 => ?_) (fun c_17 => by exfalso; revert c_17; decide)
    exact g_vret dX0_examine_140 rfl rfl ⟨rfl, rfl⟩
  | succ d ih =>
    intro j x6 hj
    have hP2 : 2 ≤ P ∧ P ≤ 7 := by rcases hP with rfl | rfl | rfl | rfl <;> decide
    have hbd := bmR_bd (A := cyN (σ (i + 1)) R) (P := P) (s := (ru (σ 163) 0 17 dl0, ru (σ 164) 0 17 dl0, σ 165, 0, 1, 1)) rfl rfl j
    have hz1 : bmZ σ i R P (j + 1) = bm1 (cyN (σ (i + 1)) R) P j (bmZ σ i R P j) := rfl
    have hbd : (bmZ σ i R P j).2.2.2.1 ≤ j ∧ 1 ≤ (bmZ σ i R P j).2.2.2.2.1 ∧ (bmZ σ i R P j).2.2.2.2.1 ≤ j + 1 := hbd
    generalize bmZ σ i R P j = z at hz1 hbd ⊢
    obtain ⟨C, B, S, L, g, f⟩ := z
    dsimp only at hbd
    refine Go.eq rfl rfl rfl (show _ = xW (cxP σ C B S (nI P) (nI L)) from rfl) ?_
    refine g_iload dX0_examine_13 rfl ?_
    refine g_bipush (v := 16) dX0_examine_15 (by decide) ?_
    refine g_icmp_ge (tgt := 140) dX0_examine_17 rfl (fun c_17 => by exact absurd c_17 (nI_ge (b := 16) (by omega) (by decide))) (fun c_17 => ?_)
    refine g_aload_n dX0_examine_20 rfl rfl ?_
    refine g_aload_n dX0_examine_21 rfl rfl ?_
    refine g_iload dX0_examine_22 rfl ?_
    refine g_V2r (CX0_missAt (σ := (cxP σ C B S (nI P) (nI L))) h hP2 rfl rfl (Ln := L) (by omega) (n := j) (by omega)) kX0_examine_36 dX0_examine_24 (xW_at (by decide) xC162) rfl ⟨rfl, rfl⟩ (Nat.le_of_ble_eq_true rfl) ⟨(Nat.le_of_ble_eq_true rfl), (Nat.le_of_ble_eq_true rfl)⟩ ?_
    rw [cxP_ne hi]
    refine g_istore dX0_examine_27 (Nat.le_of_ble_eq_true rfl) rfl ?_
    refine g_iload dX0_examine_29 rfl ?_
    refine g_if_ne (tgt := 40) dX0_examine_31 rfl (fun c_31 => ?_) (fun c_31 => ?_)
    · refine g_iconst (v := 2) dX0_examine_40 (by decide) ?_
      refine g_aload_n dX0_examine_41 rfl rfl ?_
      refine g_getf dX0_examine_42 fX0_23 (xW_at (by decide) xC162) rfl ?_
      refine g_imul dX0_examine_45 ?_
      refine g_iload dX0_examine_46 rfl ?_
      refine g_icmp_gt (tgt := 117) dX0_examine_48 rfl (fun c_48 => ?_) (fun c_48 => ?_)
      · have h48 : ¬ 2 * L ≤ j := by
          intro q
          exact absurd c_48 (by rw [show (2 : Int32) = nI 2 from rfl, show (cxP σ C B S (nI P) (nI L)) 162 4 = nI L from rfl, nI_mul]; exact nI_nlt q (by omega))
        refine g_aload_n dX0_examine_117 rfl rfl ?_
        refine g_iload dX0_examine_118 rfl ?_
        refine g_aload_n dX0_examine_120 rfl rfl ?_
        refine g_iload dX0_examine_121 rfl ?_
        refine g_V1r (CX0_inverse (σ := (cxP σ C B S (nI P) (nI L))) hP2 rfl) kX0_examine_46 dX0_examine_123 (xW_at (by decide) xC162) rfl ⟨rfl, rfl⟩ (Nat.le_of_ble_eq_true rfl) ⟨(Nat.le_of_ble_eq_true rfl), (Nat.le_of_ble_eq_true rfl)⟩ ?_
        refine g_imul dX0_examine_126 ?_
        refine g_iload_n dX0_examine_127 rfl rfl ?_
        refine g_V2v (CX0_mend (σ := (cxP σ C B S (nI P) (nI L))) (g := g) hP2 rfl (by omega)) kX0_examine_50 dX0_examine_128 (xW_at (by decide) xC162) rfl ⟨rfl, rfl⟩ (Nat.le_of_ble_eq_true rfl) ⟨(Nat.le_of_ble_eq_true rfl), (Nat.le_of_ble_eq_true rfl)⟩ ?_
        refine Go.eq rfl rfl rfl (show _ = xW (cxP σ (mdF C B ((msV C (cyN (σ (i + 1)) R) (nI P) L j) * ivS f (nI P) (P - 1) 1) (nI P) g) B S (nI P) (nI L)) from congrArg xW cxP_C) ?_
        refine g_iinc (v := 1) dX0_examine_131 (by decide) rfl (Nat.le_of_ble_eq_true rfl) rfl ?_
        refine g_iinc (v := 1) dX0_examine_134 (by decide) rfl (Nat.le_of_ble_eq_true rfl) rfl ?_
        refine g_goto (tgt := 13) dX0_examine_137 rfl ?_
        exact Go.eq rfl (show _ = _ by rw [hz1, bm1, if_neg (show ¬ (msV C (cyN (σ (i + 1)) R) (nI P) L j) = 0 from c_31), if_neg h48]; rw [← nI_1 j, ← nI_1 g]; rfl) rfl (show _ = _ by rw [hz1, bm1, if_neg (show ¬ (msV C (cyN (σ (i + 1)) R) (nI P) L j) = 0 from c_31), if_neg h48]; rfl) (ih (j + 1) _ (by omega))
      · have h48 : 2 * L ≤ j := by
          rcases Nat.lt_or_ge j (2 * L) with q | q
          · exact absurd (by rw [show (2 : Int32) = nI 2 from rfl, show (cxP σ C B S (nI P) (nI L)) 162 4 = nI L from rfl, nI_mul]; exact nI_lt q (by omega)) c_48
          · exact q
        refine g_aload_n dX0_examine_51 rfl rfl ?_
        refine g_getf dX0_examine_52 fX0_9 (xW_at (by decide) xC162) rfl ?_
        refine g_iconst (v := 0) dX0_examine_55 (by decide) ?_
        refine g_aload_n dX0_examine_56 rfl rfl ?_
        refine g_getf dX0_examine_57 fX0_16 (xW_at (by decide) xC162) rfl ?_
        refine g_iconst (v := 0) dX0_examine_60 (by decide) ?_
        refine g_bipush (v := 17) dX0_examine_61 (by decide) ?_
        refine g_copyi dX0_examine_63 tb_577 (Nat.le_of_ble_eq_true rfl) (Nat.le_of_ble_eq_true rfl) (xW_at (by decide) xC163) (xW_at (by decide) xC165) (by decide) (by decide) (by decide) (by decide) (by decide) (show _ = xW (cxP σ C B (va_cpy C S 0 0 17) (nI P) (nI L)) from (xW_arrC xC165).trans (congrArg xW cxP_S)) ?_
        refine g_aload_n dX0_examine_66 rfl rfl ?_
        refine g_iload dX0_examine_67 rfl ?_
        refine g_aload_n dX0_examine_69 rfl rfl ?_
        refine g_iload dX0_examine_70 rfl ?_
        refine g_V1r (CX0_inverse (σ := cxP σ C B (va_cpy C S 0 0 17) (nI P) (nI L)) hP2 rfl) kX0_examine_46 dX0_examine_72 (xW_at (by decide) xC162) rfl ⟨rfl, rfl⟩ (Nat.le_of_ble_eq_true rfl) ⟨(Nat.le_of_ble_eq_true rfl), (Nat.le_of_ble_eq_true rfl)⟩ ?_
        refine g_imul dX0_examine_75 ?_
        refine g_iload_n dX0_examine_76 rfl rfl ?_
        refine g_V2v (CX0_mend (σ := cxP σ C B (va_cpy C S 0 0 17) (nI P) (nI L)) (g := g) hP2 rfl (by omega)) kX0_examine_50 dX0_examine_77 (xW_at (by decide) xC162) rfl ⟨rfl, rfl⟩ (Nat.le_of_ble_eq_true rfl) ⟨(Nat.le_of_ble_eq_true rfl), (Nat.le_of_ble_eq_true rfl)⟩ ?_
        refine Go.eq rfl rfl rfl (show _ = xW (cxP σ (mdF C B ((msV C (cyN (σ (i + 1)) R) (nI P) L j) * ivS f (nI P) (P - 1) 1) (nI P) g) B (va_cpy C S 0 0 17) (nI P) (nI L)) from congrArg xW cxP_C) ?_
        refine g_aload_n dX0_examine_80 rfl rfl ?_
        refine g_getf dX0_examine_81 fX0_16 (xW_at (by decide) xC162) rfl ?_
        refine g_iconst (v := 0) dX0_examine_84 (by decide) ?_
        refine g_aload_n dX0_examine_85 rfl rfl ?_
        refine g_getf dX0_examine_86 fX0_13 (xW_at (by decide) xC162) rfl ?_
        refine g_iconst (v := 0) dX0_examine_89 (by decide) ?_
        refine g_bipush (v := 17) dX0_examine_90 (by decide) ?_
        refine g_copyi dX0_examine_92 tb_577 (Nat.le_of_ble_eq_true rfl) (Nat.le_of_ble_eq_true rfl) (xW_at (by decide) xC165) (xW_at (by decide) xC164) (by decide) (by decide) (by decide) (by decide) (by decide) (show _ = xW (cxP σ (mdF C B ((msV C (cyN (σ (i + 1)) R) (nI P) L j) * ivS f (nI P) (P - 1) 1) (nI P) g) (va_cpy (va_cpy C S 0 0 17) B 0 0 17) (va_cpy C S 0 0 17) (nI P) (nI L)) from (xW_arrC xC164).trans (congrArg xW cxP_B)) ?_
        refine g_aload_n dX0_examine_95 rfl rfl ?_
        refine g_iload dX0_examine_96 rfl ?_
        refine g_iconst (v := 1) dX0_examine_98 (by decide) ?_
        refine g_iadd dX0_examine_99 ?_
        refine g_aload_n dX0_examine_100 rfl rfl ?_
        refine g_getf dX0_examine_101 fX0_23 (xW_at (by decide) xC162) rfl ?_
        refine g_isub dX0_examine_104 ?_
        refine Go.eq rfl rfl (show _ = [Value.int (nI (j + 1 - L)), Value.ref 162] from congrArg (fun z => [Value.int z, Value.ref 162]) (show nI j + 1 - nI L = _ by rw [nI_1, nI_sub (by omega)])) rfl ?_
        refine g_putf dX0_examine_105 pX0_23 (xW_at (by decide) xC162) (Nat.le_of_ble_eq_true rfl) (fun _ => rfl) (fun _ => rfl) (show _ = xW (cxP σ (mdF C B ((msV C (cyN (σ (i + 1)) R) (nI P) L j) * ivS f (nI P) (P - 1) 1) (nI P) g) (va_cpy (va_cpy C S 0 0 17) B 0 0 17) (va_cpy C S 0 0 17) (nI P) (nI (j + 1 - L))) from (xW_obj xC162 rfl).trans (congrArg xW cxP_L)) ?_
        refine g_iload dX0_examine_108 rfl ?_
        refine g_istore dX0_examine_110 (Nat.le_of_ble_eq_true rfl) rfl ?_
        refine g_iconst (v := 1) dX0_examine_112 (by decide) ?_
        refine g_istore_n dX0_examine_113 rfl (Nat.le_of_ble_eq_true rfl) rfl ?_
        refine g_goto (tgt := 134) dX0_examine_114 rfl ?_
        refine g_iinc (v := 1) dX0_examine_134 (by decide) rfl (Nat.le_of_ble_eq_true rfl) rfl ?_
        refine g_goto (tgt := 13) dX0_examine_137 rfl ?_
        exact Go.eq rfl (show _ = _ by rw [hz1, bm1, if_neg (show ¬ (msV C (cyN (σ (i + 1)) R) (nI P) L j) = 0 from c_31), if_pos h48]; rw [← nI_1 j]; rfl) rfl (show _ = _ by rw [hz1, bm1, if_neg (show ¬ (msV C (cyN (σ (i + 1)) R) (nI P) L j) = 0 from c_31), if_pos h48]; rfl) (ih (j + 1) _ (by omega))
    · refine g_iinc (v := 1) dX0_examine_34 (by decide) rfl (Nat.le_of_ble_eq_true rfl) rfl ?_
      refine g_goto (tgt := 134) dX0_examine_37 rfl ?_
      refine g_iinc (v := 1) dX0_examine_134 (by decide) rfl (Nat.le_of_ble_eq_true rfl) rfl ?_
      refine g_goto (tgt := 13) dX0_examine_137 rfl ?_
      exact Go.eq rfl (show _ = _ by rw [hz1, bm1, if_pos (show (msV C (cyN (σ (i + 1)) R) (nI P) L j) = 0 from c_31)]; rw [← nI_1 j, ← nI_1 g]; rfl) rfl (show _ = _ by rw [hz1, bm1, if_pos (show (msV C (cyN (σ (i + 1)) R) (nI P) L j) = 0 from c_31)]; rfl) (ih (j + 1) _ (by omega))
set_option maxRecDepth 100000 in
set_option maxHeartbeats 4000000 in
theorem CX0_examine {i m R P : Nat} (h : xCyc i m R) (hi : i + 1 < 162) (hP : prm P) : Ct l mX0_examine [.ref 162, .ref i, .int (nI P)] (xW σ) (q_eq none (xW (bmW σ P (bmZ σ i R P 16)))) := by
  refine Ct.of rfl (Nat.le_of_ble_eq_true rfl) ?_
  refine g_aload_n dX0_examine_0 rfl rfl ?_
  refine g_iload_n dX0_examine_1 rfl rfl ?_
  refine g_V1v (CX0_begin hP) kX0_examine_32 dX0_examine_2 (xW_at (by decide) xC162) rfl ⟨rfl, rfl⟩ (Nat.le_of_ble_eq_true rfl) ⟨(Nat.le_of_ble_eq_true rfl), (Nat.le_of_ble_eq_true rfl)⟩ ?_
  refine g_iconst (v := 1) dX0_examine_5 (by decide) ?_
  refine g_istore_n dX0_examine_6 rfl (Nat.le_of_ble_eq_true rfl) rfl ?_
  refine g_iconst (v := 1) dX0_examine_7 (by decide) ?_
  refine g_istore dX0_examine_8 (Nat.le_of_ble_eq_true rfl) rfl ?_
  refine g_iconst (v := 0) dX0_examine_10 (by decide) ?_
  refine g_istore dX0_examine_11 (Nat.le_of_ble_eq_true rfl) rfl ?_
  exact CX0_examine_loop h hi hP 16 0 none rfl
end
