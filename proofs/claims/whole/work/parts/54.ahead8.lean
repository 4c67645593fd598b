def nxS (v : Int32) : Int32 := ((1103515245 * v.toInt64 + 12345) &&& 2147483647).toInt32
def nmD (v : Int32) : Int32 := jrem (v / 65536) 7 - 3
/-- drawn rows: the number s, the sum of the laps, how many are degenerate, behind j rows -/
def drZ (seed : Int32) : Nat → Int32 × Int32 × Int32
  | 0 => (seed, 0, 0)
  | j + 1 =>
    (nxS (nxS (nxS (nxS (drZ seed j).1))),
      (drZ seed j).2.1 + nI (lpA (ct 5 (nmD (nxS (drZ seed j).1)) (nmD (nxS (nxS (drZ seed j).1))) (nmD (nxS (nxS (nxS (drZ seed j).1)))) (nmD (nxS (nxS (nxS (nxS (drZ seed j).1)))))) 120),
      if ordV (nmD (nxS (drZ seed j).1)) (nmD (nxS (nxS (drZ seed j).1))) = 0 then (drZ seed j).2.2 else (drZ seed j).2.2 + 1)
theorem lpA_ru {V F : Nat → Int32} {R : Nat} : lpA (ru V 0 (6 + R) F) R = lpA F R := by
  unfold lpA
  congr 2
  funext k
  unfold slB
  congr 1
  apply propext
  have e : ∀ j, j < 6 + R → ru V 0 (6 + R) F j = F j := fun j hj => by
    have := ru_in (V := V) (F := F) (s := 0) (j := 6 + R) hj
    rw [Nat.zero_add] at this; exact this
  constructor
  · rintro ⟨h1, h2⟩
    exact ⟨h1, fun j hj => by have := h2 j hj; rw [e _ (by omega), e _ (by omega)] at this; exact this⟩
  · rintro ⟨h1, h2⟩
    exact ⟨h1, fun j hj => by rw [e _ (by omega), e _ (by omega)]; exact h2 j hj⟩
section
variable {l : Launch} {σ : Nat → Nat → Int32}
set_option maxRecDepth 100000 in
set_option maxHeartbeats 4000000 in
theorem CX10_drawn_loop {T n0 : Nat} {tm seed k : Int32} (hT : tm = nI T) (hT2 : T ≤ 30) : ∀ (d j : Nat) (F : Nat → Int32) (x8 x9 x10 x11 x12 : Option Value), j + d = T → Go l mX10_drawn n0 (fun rv w' => ∃ F, w' = xW (putC σ 167 F) ∧ rv = some (.int (if k = 0 then (drZ seed T).2.1 else if k = 1 then (drZ seed T).2.2 else (drZ seed T).1))) (0, 0) 38 [some (.ref 0), some (.int tm), some (.int seed), some (.int k), some (.int (drZ seed j).1), some (.int (drZ seed j).2.1), some (.int (drZ seed j).2.2), some (.int (nI j)), x8, x9, x10, x11, x12] [] (xW (putC σ 167 F)) := by
  intro d
  induction d with
  | zero =>
    intro j F x8 x9 x10 x11 x12 hj
    have ej : j = T := by omega
    refine g_iload dX10_drawn_38 rfl ?_
    refine g_iload_n dX10_drawn_40 rfl rfl ?_
    refine g_icmp_ge (tgt := 138) dX10_drawn_41 rfl (fun c_41 => ?_) (fun c_41 => by exact absurd (by rw [hT]; exact nI_le (by omega) (by omega)) c_41)
    refine g_iload_n dX10_drawn_138 rfl rfl ?_
    refine g_if_ne (tgt := 145) dX10_drawn_139 rfl (fun c_139 => ?_) (fun c_139 => ?_)
    · refine g_iload_n dX10_drawn_145 rfl rfl ?_
      refine g_iconst (v := 1) dX10_drawn_146 (by decide) ?_
      refine g_icmp_ne (tgt := 155) dX10_drawn_147 rfl (fun c_147 => ?_) (fun c_147 => ?_)
      · refine g_iload dX10_drawn_155 rfl ?_
        exact g_iret dX10_drawn_157 rfl rfl ⟨F, rfl, by rw [← ej]; simp [*]⟩
      · refine g_iload dX10_drawn_150 rfl ?_
        refine g_goto (tgt := 157) dX10_drawn_152 rfl ?_
        exact g_iret dX10_drawn_157 rfl rfl ⟨F, rfl, by rw [← ej]; simp [*]⟩
    · refine g_iload dX10_drawn_142 rfl ?_
      exact g_iret dX10_drawn_144 rfl rfl ⟨F, rfl, by rw [← ej]; simp [*]⟩
  | succ d ih =>
    intro j F x8 x9 x10 x11 x12 hj
    refine g_iload dX10_drawn_38 rfl ?_
    refine g_iload_n dX10_drawn_40 rfl rfl ?_
    refine g_icmp_ge (tgt := 138) dX10_drawn_41 rfl (fun c_41 => by rw [hT] at c_41; exact absurd c_41 (nI_ge (by omega) (by omega))) (fun c_41 => ?_)
    refine g_iload dX10_drawn_44 rfl ?_
    refine g_S1r CX10_nextState kX10_drawn_255 dX10_drawn_46 ⟨rfl, rfl⟩ (Nat.le_of_ble_eq_true rfl) ⟨(Nat.le_of_ble_eq_true rfl), (Nat.le_of_ble_eq_true rfl)⟩ ?_
    refine g_istore dX10_drawn_49 (Nat.le_of_ble_eq_true rfl) rfl ?_
    refine g_iload dX10_drawn_51 rfl ?_
    refine g_S1r CX10_nextState kX10_drawn_255 dX10_drawn_53 ⟨rfl, rfl⟩ (Nat.le_of_ble_eq_true rfl) ⟨(Nat.le_of_ble_eq_true rfl), (Nat.le_of_ble_eq_true rfl)⟩ ?_
    refine g_istore dX10_drawn_56 (Nat.le_of_ble_eq_true rfl) rfl ?_
    refine g_iload dX10_drawn_58 rfl ?_
    refine g_S1r CX10_nextState kX10_drawn_255 dX10_drawn_60 ⟨rfl, rfl⟩ (Nat.le_of_ble_eq_true rfl) ⟨(Nat.le_of_ble_eq_true rfl), (Nat.le_of_ble_eq_true rfl)⟩ ?_
    refine g_istore dX10_drawn_63 (Nat.le_of_ble_eq_true rfl) rfl ?_
    refine g_iload dX10_drawn_65 rfl ?_
    refine g_S1r CX10_nextState kX10_drawn_255 dX10_drawn_67 ⟨rfl, rfl⟩ (Nat.le_of_ble_eq_true rfl) ⟨(Nat.le_of_ble_eq_true rfl), (Nat.le_of_ble_eq_true rfl)⟩ ?_
    refine g_istore dX10_drawn_70 (Nat.le_of_ble_eq_true rfl) rfl ?_
    refine g_iload dX10_drawn_72 rfl ?_
    refine g_S1r CX10_numberDrawnAt kX10_drawn_258 dX10_drawn_74 ⟨rfl, rfl⟩ (Nat.le_of_ble_eq_true rfl) ⟨(Nat.le_of_ble_eq_true rfl), (Nat.le_of_ble_eq_true rfl)⟩ ?_
    refine g_istore dX10_drawn_77 (Nat.le_of_ble_eq_true rfl) rfl ?_
    refine g_iload dX10_drawn_79 rfl ?_
    refine g_S1r CX10_numberDrawnAt kX10_drawn_258 dX10_drawn_81 ⟨rfl, rfl⟩ (Nat.le_of_ble_eq_true rfl) ⟨(Nat.le_of_ble_eq_true rfl), (Nat.le_of_ble_eq_true rfl)⟩ ?_
    refine g_istore dX10_drawn_84 (Nat.le_of_ble_eq_true rfl) rfl ?_
    refine g_aload_n dX10_drawn_86 rfl rfl ?_
    refine g_getf dX10_drawn_87 fX10_66 (xW_at (by decide) xC0) rfl ?_
    refine g_iload dX10_drawn_90 rfl ?_
    refine g_iload dX10_drawn_92 rfl ?_
    refine g_iload dX10_drawn_94 rfl ?_
    refine g_S1r CX10_numberDrawnAt kX10_drawn_258 dX10_drawn_96 ⟨rfl, rfl⟩ (Nat.le_of_ble_eq_true rfl) ⟨(Nat.le_of_ble_eq_true rfl), (Nat.le_of_ble_eq_true rfl)⟩ ?_
    refine g_iload dX10_drawn_99 rfl ?_
    refine g_S1r CX10_numberDrawnAt kX10_drawn_258 dX10_drawn_101 ⟨rfl, rfl⟩ (Nat.le_of_ble_eq_true rfl) ⟨(Nat.le_of_ble_eq_true rfl), (Nat.le_of_ble_eq_true rfl)⟩ ?_
    refine g_V4v (CX1_fillTold xCyc166) kX10_drawn_261 dX10_drawn_104 (xW_at (by have := xCyc166.1; omega) xCyc166.2.1) rfl ⟨rfl, rfl⟩ (Nat.le_of_ble_eq_true rfl) ⟨(Nat.le_of_ble_eq_true rfl), (Nat.le_of_ble_eq_true rfl)⟩ ?_
    refine g_iload dX10_drawn_107 rfl ?_
    refine g_aload_n dX10_drawn_109 rfl rfl ?_
    refine g_getf dX10_drawn_110 fX10_66 (xW_at (by decide) xC0) rfl ?_
    refine g_V0r (CX1_shortestLap xCyc166) kX10_drawn_154 dX10_drawn_113 (xW_at (by have := xCyc166.1; omega) xCyc166.2.1) rfl ⟨rfl, rfl⟩ (Nat.le_of_ble_eq_true rfl) ⟨(Nat.le_of_ble_eq_true rfl), (Nat.le_of_ble_eq_true rfl)⟩ ?_
    rw [putC_eq]
    refine Go.eq rfl rfl (show _ = [Value.int (nI (lpA (ct 5 (nmD (nxS (drZ seed j).1)) (nmD (nxS (nxS (drZ seed j).1))) (nmD (nxS (nxS (nxS (drZ seed j).1)))) (nmD (nxS (nxS (nxS (nxS (drZ seed j).1)))))) 120)), Value.int (drZ seed j).2.1] from congrArg (fun z => [Value.int (nI z), Value.int (drZ seed j).2.1]) lpA_ru) rfl ?_
    refine g_iadd dX10_drawn_116 ?_
    refine g_istore dX10_drawn_117 (Nat.le_of_ble_eq_true rfl) rfl ?_
    refine g_iload dX10_drawn_119 rfl ?_
    refine g_iload dX10_drawn_121 rfl ?_
    refine g_S2r CX7_order kX10_drawn_199 dX10_drawn_123 ⟨rfl, rfl⟩ (Nat.le_of_ble_eq_true rfl) ⟨(Nat.le_of_ble_eq_true rfl), (Nat.le_of_ble_eq_true rfl)⟩ ?_
    refine g_if_eq (tgt := 132) dX10_drawn_126 rfl (fun c_126 => ?_) (fun c_126 => ?_)
    · refine g_iinc (v := 1) dX10_drawn_132 (by decide) rfl (Nat.le_of_ble_eq_true rfl) rfl ?_
      refine g_goto (tgt := 38) dX10_drawn_135 rfl ?_
      exact Go.eq rfl (show _ = _ by rw [← nI_1 j]; simp only [drZ]; rw [if_pos (show ordV (nmD (nxS (drZ seed j).1)) (nmD (nxS (nxS (drZ seed j).1))) = 0 from c_126)]; rfl) rfl (show _ = xW (putC σ 167 _) from congrArg xW putC_putC) (ih (j + 1) _ _ _ _ _ _ (by omega))
    · refine g_iinc (v := 1) dX10_drawn_129 (by decide) rfl (Nat.le_of_ble_eq_true rfl) rfl ?_
      refine g_iinc (v := 1) dX10_drawn_132 (by decide) rfl (Nat.le_of_ble_eq_true rfl) rfl ?_
      refine g_goto (tgt := 38) dX10_drawn_135 rfl ?_
      exact Go.eq rfl (show _ = _ by rw [← nI_1 j]; simp only [drZ]; rw [if_neg (show ¬ ordV (nmD (nxS (drZ seed j).1)) (nmD (nxS (nxS (drZ seed j).1))) = 0 from c_126)]; rfl) rfl (show _ = xW (putC σ 167 _) from congrArg xW putC_putC) (ih (j + 1) _ _ _ _ _ _ (by omega))
set_option maxRecDepth 100000 in
set_option maxHeartbeats 4000000 in
theorem CX10_drawn {tm seed k : Int32} : Ct l mX10_drawn [.ref 0, .int tm, .int seed, .int k] (xW σ) (fun rv w' => ∃ F, w' = xW (putC σ 167 F) ∧ rv = some (.int (if (1 ≤ tm ∧ tm ≤ 30) ∧ 0 ≤ seed ∧ 0 ≤ k ∧ k ≤ 2 then (if k = 0 then (drZ seed tm.toNatClampNeg).2.1 else if k = 1 then (drZ seed tm.toNatClampNeg).2.2 else (drZ seed tm.toNatClampNeg).1) else 2000000102))) := by
  refine Ct.of rfl (Nat.le_of_ble_eq_true rfl) ?_
  refine g_iload_n dX10_drawn_0 rfl rfl ?_
  refine g_iconst (v := 1) dX10_drawn_1 (by decide) ?_
  refine g_bipush (v := 30) dX10_drawn_2 (by decide) ?_
  refine g_S3r CX10_isWithin kX10_drawn_76 dX10_drawn_4 ⟨rfl, rfl⟩ (Nat.le_of_ble_eq_true rfl) ⟨(Nat.le_of_ble_eq_true rfl), (Nat.le_of_ble_eq_true rfl)⟩ ?_
  refine g_if_eq (tgt := 23) dX10_drawn_7 rfl (fun c_7 => ?_) (fun c_7 => ?_)
  · refine g_ldc dX10_drawn_23 tb_299 ?_
    exact g_iret dX10_drawn_25 rfl rfl ⟨σ 167, by rw [putC_id], by rw [if_neg (by simp only [bI] at *; grind)]⟩
  · refine g_iload_n dX10_drawn_10 rfl rfl ?_
    refine g_if_lt (tgt := 23) dX10_drawn_11 rfl (fun c_11 => ?_) (fun c_11 => ?_)
    · refine g_ldc dX10_drawn_23 tb_299 ?_
      exact g_iret dX10_drawn_25 rfl rfl ⟨σ 167, by rw [putC_id], by rw [if_neg (by simp only [bI] at *; grind)]⟩
    · refine g_iload_n dX10_drawn_14 rfl rfl ?_
      refine g_iconst (v := 0) dX10_drawn_15 (by decide) ?_
      refine g_iconst (v := 2) dX10_drawn_16 (by decide) ?_
      refine g_S3r CX10_isWithin kX10_drawn_76 dX10_drawn_17 ⟨rfl, rfl⟩ (Nat.le_of_ble_eq_true rfl) ⟨(Nat.le_of_ble_eq_true rfl), (Nat.le_of_ble_eq_true rfl)⟩ ?_
      refine g_if_ne (tgt := 26) dX10_drawn_20 rfl (fun c_20 => ?_) (fun c_20 => ?_)
      · refine g_iload_n dX10_drawn_26 rfl rfl ?_
        refine g_istore dX10_drawn_27 (Nat.le_of_ble_eq_true rfl) rfl ?_
        refine g_iconst (v := 0) dX10_drawn_29 (by decide) ?_
        refine g_istore dX10_drawn_30 (Nat.le_of_ble_eq_true rfl) rfl ?_
        refine g_iconst (v := 0) dX10_drawn_32 (by decide) ?_
        refine g_istore dX10_drawn_33 (Nat.le_of_ble_eq_true rfl) rfl ?_
        refine g_iconst (v := 0) dX10_drawn_35 (by decide) ?_
        refine g_istore dX10_drawn_36 (Nat.le_of_ble_eq_true rfl) rfl ?_
        have h1 : 1 ≤ tm ∧ tm ≤ 30 := Classical.byContradiction (fun z => c_7 (bI_f z))
        have h2 : 0 ≤ k ∧ k ≤ 2 := Classical.byContradiction (fun z => c_20 (bI_f z))
        have h3 : 0 ≤ seed := by grind
        have e := tNC (show 0 ≤ tm by grind)
        have hb : tm.toNatClampNeg < 31 := tNC_lt (by grind) (show tm < nI 31 by show tm < 31; grind) (by decide)
        rw [if_pos ⟨h1, h3, h2⟩]
        exact Go.eq rfl rfl rfl (show xW σ = xW (putC σ 167 (σ 167)) by rw [putC_id]) (CX10_drawn_loop (T := tm.toNatClampNeg) e (by omega) tm.toNatClampNeg 0 (σ 167) none none none none none (by omega))
      · refine g_ldc dX10_drawn_23 tb_299 ?_
        exact g_iret dX10_drawn_25 rfl rfl ⟨σ 167, by rw [putC_id], by rw [if_neg (by simp only [bI] at *; grind)]⟩
end
