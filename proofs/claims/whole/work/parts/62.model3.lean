theorem lg0 {x : Int64} : lg_cmp x 0 = 0 ↔ x = 0 := cmp_eq
section
variable {l : Launch} {w : q_Wd}
set_option maxRecDepth 100000 in
set_option maxHeartbeats 4000000 in
theorem CX11_dgL {c d : Int32} {n0 : Nat} : ∀ (f n : Nat) (one nx : Int64) (x7 : Option Value), n + f = 13 → Go l mX11_degenerate n0 (q_eq (some (.int (dgF c.toInt64 d.toInt64 f n one nx))) w) (0, 0) 22 [some (.int c), some (.int d), some (.long one), none, some (.long nx), none, some (.int (nI n)), x7, none] [] w := by
  intro f
  induction f with
  | zero =>
    intro n one nx x7 hn
    have e1 : 13 = n := by omega
    subst e1
    refine g_iload dX11_degenerate_22 rfl ?_
    refine g_bipush (v := 12) dX11_degenerate_24 (by decide) ?_
    refine g_icmp_gt (tgt := 70) dX11_degenerate_26 rfl (fun c_26 => ?_) (fun c_26 => by exfalso; revert c_26; decide)
    refine g_iconst (v := 0) dX11_degenerate_70 (by decide) ?_
    exact g_iret dX11_degenerate_71 rfl rfl ⟨rfl, rfl⟩
  | succ f ih =>
    intro n one nx x7 hn
    refine g_iload dX11_degenerate_22 rfl ?_
    refine g_bipush (v := 12) dX11_degenerate_24 (by decide) ?_
    refine g_icmp_gt (tgt := 70) dX11_degenerate_26 rfl (fun c_26 => by exact absurd c_26 (nI_nlt (a := 12) (b := n) (by omega) (by decide))) (fun c_26 => ?_)
    refine g_iload dX11_degenerate_29 rfl ?_
    refine g_iconst (v := 1) dX11_degenerate_31 (by decide) ?_
    refine g_icmp_le (tgt := 45) dX11_degenerate_32 rfl (fun c_32 => ?_) (fun c_32 => ?_)
    · refine g_iload_n dX11_degenerate_45 rfl rfl ?_
      refine g_i2l dX11_degenerate_46 ?_
      refine g_lload dX11_degenerate_47 rfl ?_
      refine g_lmul dX11_degenerate_49 ?_
      refine g_iload_n dX11_degenerate_50 rfl rfl ?_
      refine g_i2l dX11_degenerate_51 ?_
      refine g_lload_n dX11_degenerate_52 rfl rfl ?_
      refine g_lmul dX11_degenerate_53 ?_
      refine g_ladd dX11_degenerate_54 ?_
      refine g_lstore dX11_degenerate_55 (Nat.le_of_ble_eq_true rfl) rfl ?_
      refine g_lload dX11_degenerate_57 rfl ?_
      refine g_lstore_n dX11_degenerate_59 rfl (Nat.le_of_ble_eq_true rfl) rfl ?_
      refine g_lload dX11_degenerate_60 rfl ?_
      refine g_lstore dX11_degenerate_62 (Nat.le_of_ble_eq_true rfl) rfl ?_
      refine g_iinc (v := 1) dX11_degenerate_64 (by decide) rfl (Nat.le_of_ble_eq_true rfl) rfl ?_
      refine g_goto (tgt := 22) dX11_degenerate_67 rfl ?_
      refine Go.mono (Q' := (q_eq (some (.int (dgF c.toInt64 d.toInt64 f (n + 1) nx (c.toInt64 * nx + d.toInt64 * one)))) w)) (fun r w2 h => by rw [dgF, if_neg (by intro z; first | exact absurd (nI_lt (a := 1) z.1 (by omega)) (Int32.not_lt.mpr c_32) | exact c_39 (lg0.mpr z.2))]; exact h) ?_
      exact Go.eq rfl (show _ = _ by rw [← nI_1 n]; rfl) rfl rfl (ih (n + 1) _ _ _ (by omega))
    · refine g_lload dX11_degenerate_35 rfl ?_
      refine g_lconst (v := 0) dX11_degenerate_37 (by decide) ?_
      refine g_lcmp dX11_degenerate_38 ?_
      refine g_if_ne (tgt := 45) dX11_degenerate_39 rfl (fun c_39 => ?_) (fun c_39 => ?_)
      · refine g_iload_n dX11_degenerate_45 rfl rfl ?_
        refine g_i2l dX11_degenerate_46 ?_
        refine g_lload dX11_degenerate_47 rfl ?_
        refine g_lmul dX11_degenerate_49 ?_
        refine g_iload_n dX11_degenerate_50 rfl rfl ?_
        refine g_i2l dX11_degenerate_51 ?_
        refine g_lload_n dX11_degenerate_52 rfl rfl ?_
        refine g_lmul dX11_degenerate_53 ?_
        refine g_ladd dX11_degenerate_54 ?_
        refine g_lstore dX11_degenerate_55 (Nat.le_of_ble_eq_true rfl) rfl ?_
        refine g_lload dX11_degenerate_57 rfl ?_
        refine g_lstore_n dX11_degenerate_59 rfl (Nat.le_of_ble_eq_true rfl) rfl ?_
        refine g_lload dX11_degenerate_60 rfl ?_
        refine g_lstore dX11_degenerate_62 (Nat.le_of_ble_eq_true rfl) rfl ?_
        refine g_iinc (v := 1) dX11_degenerate_64 (by decide) rfl (Nat.le_of_ble_eq_true rfl) rfl ?_
        refine g_goto (tgt := 22) dX11_degenerate_67 rfl ?_
        refine Go.mono (Q' := (q_eq (some (.int (dgF c.toInt64 d.toInt64 f (n + 1) nx (c.toInt64 * nx + d.toInt64 * one)))) w)) (fun r w2 h => by rw [dgF, if_neg (by intro z; first | exact absurd (nI_lt (a := 1) z.1 (by omega)) (Int32.not_lt.mpr c_32) | exact c_39 (lg0.mpr z.2))]; exact h) ?_
        exact Go.eq rfl (show _ = _ by rw [← nI_1 n]; rfl) rfl rfl (ih (n + 1) _ _ _ (by omega))
      · refine g_iload dX11_degenerate_42 rfl ?_
        exact g_iret dX11_degenerate_44 rfl rfl ⟨by rw [dgF, if_pos ⟨Nat.lt_of_not_le (fun z => c_32 (nI_le (b := 1) z (by decide))), lg0.mp c_39⟩], rfl⟩
set_option maxRecDepth 100000 in
set_option maxHeartbeats 4000000 in
theorem CX11_degenerate {c d : Int32} : Ct l mX11_degenerate [.int c, .int d] w (q_eq (some (.int (dgM c d))) w) := by
  refine Ct.of rfl (Nat.le_of_ble_eq_true rfl) ?_
  refine g_iload_n dX11_degenerate_0 rfl rfl ?_
  refine g_if_eq (tgt := 12) dX11_degenerate_1 rfl (fun c_1 => ?_) (fun c_1 => ?_)
  · refine g_iconst (v := 0) dX11_degenerate_12 (by decide) ?_
    exact g_iret dX11_degenerate_13 rfl rfl ⟨by rw [dgM, if_pos (by first | exact Or.inl c_1 | exact Or.inr c_9)], rfl⟩
  · refine g_iload_n dX11_degenerate_4 rfl rfl ?_
    refine g_iload_n dX11_degenerate_5 rfl rfl ?_
    refine g_S2r CX11_spread kX11_degenerate_266 dX11_degenerate_6 ⟨rfl, rfl⟩ (Nat.le_of_ble_eq_true rfl) ⟨(Nat.le_of_ble_eq_true rfl), (Nat.le_of_ble_eq_true rfl)⟩ ?_
    refine g_if_ne (tgt := 14) dX11_degenerate_9 rfl (fun c_9 => ?_) (fun c_9 => ?_)
    · refine g_lconst (v := 0) dX11_degenerate_14 (by decide) ?_
      refine g_lstore_n dX11_degenerate_15 rfl (Nat.le_of_ble_eq_true rfl) rfl ?_
      refine g_lconst (v := 1) dX11_degenerate_16 (by decide) ?_
      refine g_lstore dX11_degenerate_17 (Nat.le_of_ble_eq_true rfl) rfl ?_
      refine g_iconst (v := 1) dX11_degenerate_19 (by decide) ?_
      refine g_istore dX11_degenerate_20 (Nat.le_of_ble_eq_true rfl) rfl ?_
      refine Go.mono (Q' := (q_eq (some (.int (dgF c.toInt64 d.toInt64 12 1 0 1))) w)) (fun r w2 h => by rw [dgM, if_neg (fun z => z.elim c_1 c_9)]; exact h) ?_
      exact Go.eq rfl rfl rfl rfl (CX11_dgL 12 1 0 1 none rfl)
    · refine g_iconst (v := 0) dX11_degenerate_12 (by decide) ?_
      exact g_iret dX11_degenerate_13 rfl rfl ⟨by rw [dgM, if_pos (by first | exact Or.inl c_1 | exact Or.inr c_9)], rfl⟩
set_option maxRecDepth 100000 in
set_option maxHeartbeats 4000000 in
theorem CX11_rootsNow {c d k : Int32} (hv : c * c + 4 * d ≤ 144) : Ct l mX11_rootsNow [.int c, .int d, .int k] w (q_eq (some (.int (rtM c d k))) w) := by
  refine Ct.of rfl (Nat.le_of_ble_eq_true rfl) ?_
  refine g_iload_n dX11_rootsNow_0 rfl rfl ?_
  refine g_iload_n dX11_rootsNow_1 rfl rfl ?_
  refine g_S2r CX11_spread kX11_rootsNow_266 dX11_rootsNow_2 ⟨rfl, rfl⟩ (Nat.le_of_ble_eq_true rfl) ⟨(Nat.le_of_ble_eq_true rfl), (Nat.le_of_ble_eq_true rfl)⟩ ?_
  refine g_istore_n dX11_rootsNow_5 rfl (Nat.le_of_ble_eq_true rfl) rfl ?_
  refine g_iload_n dX11_rootsNow_6 rfl rfl ?_
  refine g_S1r (CX11_wholeRoot hv) kX11_rootsNow_269 dX11_rootsNow_7 ⟨rfl, rfl⟩ (Nat.le_of_ble_eq_true rfl) ⟨(Nat.le_of_ble_eq_true rfl), (Nat.le_of_ble_eq_true rfl)⟩ ?_
  refine g_istore dX11_rootsNow_10 (Nat.le_of_ble_eq_true rfl) rfl ?_
  refine g_iload_n dX11_rootsNow_12 rfl rfl ?_
  refine g_case (0) (fun s_13_0 => ?_) (fun s_13_0 => ?_)
  · refine g_tblEq (off := 31) (tgt := 44) dX11_rootsNow_13 s_13_0 (by decide) (by decide) rfl rfl ?_
    refine g_iload_n dX11_rootsNow_44 rfl rfl ?_
    refine g_if_le (tgt := 52) dX11_rootsNow_45 rfl (fun c_45 => ?_) (fun c_45 => ?_)
    · refine g_iload_n dX11_rootsNow_52 rfl rfl ?_
      refine g_if_ne (tgt := 60) dX11_rootsNow_53 rfl (fun c_53 => ?_) (fun c_53 => ?_)
      · refine g_iconst (v := 0) dX11_rootsNow_60 (by decide) ?_
        exact g_iret dX11_rootsNow_61 rfl rfl ⟨by grind [rtM], rfl⟩
      · refine g_iconst (v := 1) dX11_rootsNow_56 (by decide) ?_
        refine g_goto (tgt := 61) dX11_rootsNow_57 rfl ?_
        exact g_iret dX11_rootsNow_61 rfl rfl ⟨by grind [rtM], rfl⟩
    · refine g_iconst (v := 2) dX11_rootsNow_48 (by decide) ?_
      refine g_goto (tgt := 61) dX11_rootsNow_49 rfl ?_
      exact g_iret dX11_rootsNow_61 rfl rfl ⟨by grind [rtM], rfl⟩
  · refine g_case (1) (fun s_13_1 => ?_) (fun s_13_1 => ?_)
    · refine g_tblEq (off := 49) (tgt := 62) dX11_rootsNow_13 s_13_1 (by decide) (by decide) rfl rfl ?_
      refine g_iload dX11_rootsNow_62 rfl ?_
      refine g_ldc dX11_rootsNow_64 tb_854 ?_
      refine g_icmp_ne (tgt := 74) dX11_rootsNow_66 rfl (fun c_66 => ?_) (fun c_66 => ?_)
      · refine g_iload_n dX11_rootsNow_74 rfl rfl ?_
        refine g_iload dX11_rootsNow_75 rfl ?_
        refine g_iadd dX11_rootsNow_77 ?_
        refine g_iconst (v := 2) dX11_rootsNow_78 (by decide) ?_
        refine g_idiv dX11_rootsNow_79 (by decide) ?_
        exact g_iret dX11_rootsNow_80 rfl rfl ⟨by grind [rtM], rfl⟩
      · refine g_ldc dX11_rootsNow_69 tb_854 ?_
        refine g_goto (tgt := 80) dX11_rootsNow_71 rfl ?_
        exact g_iret dX11_rootsNow_80 rfl rfl ⟨by grind [rtM], rfl⟩
    · refine g_case (2) (fun s_13_2 => ?_) (fun s_13_2 => ?_)
      · refine g_tblEq (off := 68) (tgt := 81) dX11_rootsNow_13 s_13_2 (by decide) (by decide) rfl rfl ?_
        refine g_iload dX11_rootsNow_81 rfl ?_
        refine g_ldc dX11_rootsNow_83 tb_854 ?_
        refine g_icmp_ne (tgt := 93) dX11_rootsNow_85 rfl (fun c_85 => ?_) (fun c_85 => ?_)
        · refine g_iload_n dX11_rootsNow_93 rfl rfl ?_
          refine g_iload dX11_rootsNow_94 rfl ?_
          refine g_isub dX11_rootsNow_96 ?_
          refine g_iconst (v := 2) dX11_rootsNow_97 (by decide) ?_
          refine g_idiv dX11_rootsNow_98 (by decide) ?_
          exact g_iret dX11_rootsNow_99 rfl rfl ⟨by grind [rtM], rfl⟩
        · refine g_ldc dX11_rootsNow_88 tb_854 ?_
          refine g_goto (tgt := 99) dX11_rootsNow_90 rfl ?_
          exact g_iret dX11_rootsNow_99 rfl rfl ⟨by grind [rtM], rfl⟩
      · refine g_case (3) (fun s_13_3 => ?_) (fun s_13_3 => ?_)
        · refine g_tblEq (off := 87) (tgt := 100) dX11_rootsNow_13 s_13_3 (by decide) (by decide) rfl rfl ?_
          refine g_iload_n dX11_rootsNow_100 rfl rfl ?_
          refine g_iload_n dX11_rootsNow_101 rfl rfl ?_
          refine g_S2r CX11_degenerate kX11_rootsNow_272 dX11_rootsNow_102 ⟨rfl, rfl⟩ (Nat.le_of_ble_eq_true rfl) ⟨(Nat.le_of_ble_eq_true rfl), (Nat.le_of_ble_eq_true rfl)⟩ ?_
          exact g_iret dX11_rootsNow_105 rfl rfl ⟨by grind [rtM], rfl⟩
        · refine g_tableOut (tgt := 106) dX11_rootsNow_13 (by have a0 := ne_toInt (z := 0) rfl s_13_0; have a1 := ne_toInt (z := 1) rfl s_13_1; have a2 := ne_toInt (z := 2) rfl s_13_2; have a3 := ne_toInt (z := 3) rfl s_13_3; omega) rfl ?_
          refine g_iload_n dX11_rootsNow_106 rfl rfl ?_
          refine g_if_le (tgt := 114) dX11_rootsNow_107 rfl (fun c_107 => ?_) (fun c_107 => ?_)
          · refine g_iconst (v := 0) dX11_rootsNow_114 (by decide) ?_
            refine g_goto (tgt := 127) dX11_rootsNow_115 rfl ?_
            exact g_iret dX11_rootsNow_127 rfl rfl ⟨by grind [rtM], rfl⟩
          · refine g_iload_n dX11_rootsNow_110 rfl rfl ?_
            refine g_if_ne (tgt := 118) dX11_rootsNow_111 rfl (fun c_111 => ?_) (fun c_111 => ?_)
            · refine g_iload_n dX11_rootsNow_118 rfl rfl ?_
              refine g_if_le (tgt := 126) dX11_rootsNow_119 rfl (fun c_119 => ?_) (fun c_119 => ?_)
              · refine g_iconst (v := -1) dX11_rootsNow_126 (by decide) ?_
                exact g_iret dX11_rootsNow_127 rfl rfl ⟨by grind [rtM], rfl⟩
              · refine g_iconst (v := 1) dX11_rootsNow_122 (by decide) ?_
                refine g_goto (tgt := 127) dX11_rootsNow_123 rfl ?_
                exact g_iret dX11_rootsNow_127 rfl rfl ⟨by grind [rtM], rfl⟩
            · refine g_iconst (v := 0) dX11_rootsNow_114 (by decide) ?_
              refine g_goto (tgt := 127) dX11_rootsNow_115 rfl ?_
              exact g_iret dX11_rootsNow_127 rfl rfl ⟨by grind [rtM], rfl⟩
end
section
variable {l : Launch} {σ : Nat → Nat → Int32} {t : Nat → Int64} {n : Nat}
set_option maxRecDepth 100000 in
set_option maxHeartbeats 4000000 in
theorem CX11_roots_no {r : Int32} {k : Int32} (hn : n ≤ 8) (h0 : σ 0 0 = nI n) (hr : ¬ ldH (nI n) r) : Ct l mX11_roots [.ref 0, .int r, .int k] (mW σ t) (q_eq (some (.int 2000000101)) (mW σ t)) := by
  refine Ct.of rfl (Nat.le_of_ble_eq_true rfl) ?_
  refine g_aload_n dX11_roots_0 rfl rfl ?_
  refine g_iload_n dX11_roots_1 rfl rfl ?_
  refine g_V1r (CX11_isRow h0) kX11_roots_193 dX11_roots_2 mW_0 rfl ⟨rfl, rfl⟩ (Nat.le_of_ble_eq_true rfl) ⟨(Nat.le_of_ble_eq_true rfl), (Nat.le_of_ble_eq_true rfl)⟩ ?_
  rw [mIsF hn hr]
  refine g_if_ne (tgt := 11) dX11_roots_5 rfl (fun c_5 => by exfalso; revert c_5; decide) (fun c_5 => ?_)
  refine g_ldc dX11_roots_8 tb_1020 ?_
  exact g_iret dX11_roots_10 rfl rfl ⟨rfl, rfl⟩
set_option maxRecDepth 100000 in
set_option maxHeartbeats 4000000 in
theorem CX11_roots {q : Nat} (hq : q < n) {k : Int32} (hn : n ≤ 8) (h0 : σ 0 0 = nI n) (hv : σ 2 (4 * q) * σ 2 (4 * q) + 4 * σ 2 (4 * q + 1) ≤ 144) : Ct l mX11_roots [.ref 0, .int (nI q), .int k] (mW σ t) (q_eq (some (.int (if 0 ≤ k ∧ k ≤ 4 then (if σ 1 q = 0 then rtM (σ 2 (4 * q)) (σ 2 (4 * q + 1)) k else 2000000103) else 2000000102))) (mW σ t)) := by
  refine Ct.of rfl (Nat.le_of_ble_eq_true rfl) ?_
  refine g_aload_n dX11_roots_0 rfl rfl ?_
  refine g_iload_n dX11_roots_1 rfl rfl ?_
  refine g_V1r (CX11_isRow h0) kX11_roots_193 dX11_roots_2 mW_0 rfl ⟨rfl, rfl⟩ (Nat.le_of_ble_eq_true rfl) ⟨(Nat.le_of_ble_eq_true rfl), (Nat.le_of_ble_eq_true rfl)⟩ ?_
  rw [mIsT hn hq]
  refine g_if_ne (tgt := 11) dX11_roots_5 rfl (fun c_5 => ?_) (fun c_5 => by exfalso; revert c_5; decide)
  refine g_iload_n dX11_roots_11 rfl rfl ?_
  refine g_iconst (v := 0) dX11_roots_12 (by decide) ?_
  refine g_iconst (v := 4) dX11_roots_13 (by decide) ?_
  refine g_S3r CX11_within kX11_roots_68 dX11_roots_14 ⟨rfl, rfl⟩ (Nat.le_of_ble_eq_true rfl) ⟨(Nat.le_of_ble_eq_true rfl), (Nat.le_of_ble_eq_true rfl)⟩ ?_
  refine g_if_ne (tgt := 23) dX11_roots_17 rfl (fun c_17 => ?_) (fun c_17 => ?_)
  · refine g_aload_n dX11_roots_23 rfl rfl ?_
    refine g_iload_n dX11_roots_24 rfl rfl ?_
    refine g_V1r (CX11_isTold (q := q) (by omega)) kX11_roots_245 dX11_roots_25 mW_0 rfl ⟨rfl, rfl⟩ (Nat.le_of_ble_eq_true rfl) ⟨(Nat.le_of_ble_eq_true rfl), (Nat.le_of_ble_eq_true rfl)⟩ ?_
    refine g_if_eq (tgt := 56) dX11_roots_28 rfl (fun c_28 => ?_) (fun c_28 => ?_)
    · refine g_ldc dX11_roots_56 tb_1007 ?_
      exact g_iret dX11_roots_58 rfl rfl ⟨by grind [bI], rfl⟩
    · refine g_aload_n dX11_roots_31 rfl rfl ?_
      refine g_getf dX11_roots_32 fX11_13 mW_0 rfl ?_
      refine g_iconst (v := 4) dX11_roots_35 (by decide) ?_
      refine g_iload_n dX11_roots_36 rfl rfl ?_
      refine g_imul dX11_roots_37 ?_
      rw [jx4]
      refine g_iald dX11_roots_38 mA2 (vin_n (by omega) (by decide)) ?_
      rw [nI_clamp (by omega)]
      refine g_aload_n dX11_roots_39 rfl rfl ?_
      refine g_getf dX11_roots_40 fX11_13 mW_0 rfl ?_
      refine g_iconst (v := 4) dX11_roots_43 (by decide) ?_
      refine g_iload_n dX11_roots_44 rfl rfl ?_
      refine g_imul dX11_roots_45 ?_
      refine g_iconst (v := 1) dX11_roots_46 (by decide) ?_
      refine g_iadd dX11_roots_47 ?_
      rw [jx41]
      refine g_iald dX11_roots_48 mA2 (vin_n (by omega) (by decide)) ?_
      rw [nI_clamp (by omega)]
      refine g_iload_n dX11_roots_49 rfl rfl ?_
      refine g_S3r (CX11_rootsNow hv) kX11_roots_275 dX11_roots_50 ⟨rfl, rfl⟩ (Nat.le_of_ble_eq_true rfl) ⟨(Nat.le_of_ble_eq_true rfl), (Nat.le_of_ble_eq_true rfl)⟩ ?_
      refine g_goto (tgt := 58) dX11_roots_53 rfl ?_
      exact g_iret dX11_roots_58 rfl rfl ⟨by grind [bI], rfl⟩
  · refine g_ldc dX11_roots_20 tb_964 ?_
    exact g_iret dX11_roots_22 rfl rfl ⟨by grind [bI], rfl⟩
abbrev mPT (σ : Nat → Nat → Int32) (q a b : Nat) : Prop := σ 1 q ≠ 0 ∧ σ 1 a = 0 ∧ (σ 1 q = 1 ∨ σ 1 q = 2 → σ 1 b = 0)
set_option maxRecDepth 100000 in
set_option maxHeartbeats 4000000 in
theorem CX11_arePartsTold {q a b : Nat} (hq : q ≤ 8) (ha : σ 1 q ≠ 0 → σ 2 (4 * q) = nI a ∧ a ≤ 8) (hb : σ 1 q = 1 ∨ σ 1 q = 2 → σ 2 (4 * q + 1) = nI b ∧ b ≤ 8) : Ct l mX11_arePartsTold [.ref 0, .int (nI q)] (mW σ t) (q_eq (some (.int (bI (mPT σ q a b)))) (mW σ t)) := by
  refine Ct.of rfl (Nat.le_of_ble_eq_true rfl) ?_
  refine g_aload_n dX11_arePartsTold_0 rfl rfl ?_
  refine g_getf dX11_arePartsTold_1 fX11_7 mW_0 rfl ?_
  refine g_iload_n dX11_arePartsTold_4 rfl rfl ?_
  refine g_iald dX11_arePartsTold_5 mA1 (vin_n (by omega) (by decide)) ?_
  rw [nI_clamp (by omega)]
  refine g_iconst (v := 1) dX11_arePartsTold_6 (by decide) ?_
  refine g_icmp_eq (tgt := 20) dX11_arePartsTold_7 rfl (fun c_7 => ?_) (fun c_7 => ?_)
  · refine g_iconst (v := 1) dX11_arePartsTold_20 (by decide) ?_
    refine g_goto (tgt := 25) dX11_arePartsTold_21 rfl ?_
    refine g_istore_n dX11_arePartsTold_25 rfl (Nat.le_of_ble_eq_true rfl) rfl ?_
    refine g_aload_n dX11_arePartsTold_26 rfl rfl ?_
    refine g_getf dX11_arePartsTold_27 fX11_7 mW_0 rfl ?_
    refine g_iload_n dX11_arePartsTold_30 rfl rfl ?_
    refine g_iald dX11_arePartsTold_31 mA1 (vin_n (by omega) (by decide)) ?_
    rw [nI_clamp (by omega)]
    refine g_if_eq (tgt := 75) dX11_arePartsTold_32 rfl (fun c_32 => ?_) (fun c_32 => ?_)
    · refine g_iconst (v := 0) dX11_arePartsTold_75 (by decide) ?_
      exact g_zret dX11_arePartsTold_76 rfl rfl (by first | decide | exact bI_and) ⟨by grind [bI], rfl⟩
    · refine g_aload_n dX11_arePartsTold_35 rfl rfl ?_
      refine g_aload_n dX11_arePartsTold_36 rfl rfl ?_
      refine g_getf dX11_arePartsTold_37 fX11_13 mW_0 rfl ?_
      refine g_iconst (v := 4) dX11_arePartsTold_40 (by decide) ?_
      refine g_iload_n dX11_arePartsTold_41 rfl rfl ?_
      refine g_imul dX11_arePartsTold_42 ?_
      rw [jx4]
      refine g_iald dX11_arePartsTold_43 mA2 (vin_n (by omega) (by decide)) ?_
      rw [nI_clamp (by omega), (ha c_32).1]
      refine g_V1r (CX11_isTold (q := a) (ha c_32).2) kX11_arePartsTold_245 dX11_arePartsTold_44 mW_0 rfl ⟨rfl, rfl⟩ (Nat.le_of_ble_eq_true rfl) ⟨(Nat.le_of_ble_eq_true rfl), (Nat.le_of_ble_eq_true rfl)⟩ ?_
      refine g_if_eq (tgt := 75) dX11_arePartsTold_47 rfl (fun c_47 => ?_) (fun c_47 => ?_)
      · refine g_iconst (v := 0) dX11_arePartsTold_75 (by decide) ?_
        exact g_zret dX11_arePartsTold_76 rfl rfl (by first | decide | exact bI_and) ⟨by grind [bI], rfl⟩
      · refine g_iload_n dX11_arePartsTold_50 rfl rfl ?_
        refine g_if_eq (tgt := 71) dX11_arePartsTold_51 rfl (fun c_51 => ?_) (fun c_51 => ?_)
        · refine g_iconst (v := 1) dX11_arePartsTold_71 (by decide) ?_
          refine g_goto (tgt := 76) dX11_arePartsTold_72 rfl ?_
          exact g_zret dX11_arePartsTold_76 rfl rfl (by first | decide | exact bI_and) ⟨by grind [bI], rfl⟩
        · refine g_aload_n dX11_arePartsTold_54 rfl rfl ?_
          refine g_aload_n dX11_arePartsTold_55 rfl rfl ?_
          refine g_getf dX11_arePartsTold_56 fX11_13 mW_0 rfl ?_
          refine g_iconst (v := 4) dX11_arePartsTold_59 (by decide) ?_
          refine g_iload_n dX11_arePartsTold_60 rfl rfl ?_
          refine g_imul dX11_arePartsTold_61 ?_
          refine g_iconst (v := 1) dX11_arePartsTold_62 (by decide) ?_
          refine g_iadd dX11_arePartsTold_63 ?_
          rw [jx41]
          refine g_iald dX11_arePartsTold_64 mA2 (vin_n (by omega) (by decide)) ?_
          rw [nI_clamp (by omega), (hb (by grind)).1]
          refine g_V1r (CX11_isTold (q := b) (hb (by grind)).2) kX11_arePartsTold_245 dX11_arePartsTold_65 mW_0 rfl ⟨rfl, rfl⟩ (Nat.le_of_ble_eq_true rfl) ⟨(Nat.le_of_ble_eq_true rfl), (Nat.le_of_ble_eq_true rfl)⟩ ?_
          refine g_if_eq (tgt := 75) dX11_arePartsTold_68 rfl (fun c_68 => ?_) (fun c_68 => ?_)
          · refine g_iconst (v := 0) dX11_arePartsTold_75 (by decide) ?_
            exact g_zret dX11_arePartsTold_76 rfl rfl (by first | decide | exact bI_and) ⟨by grind [bI], rfl⟩
          · refine g_iconst (v := 1) dX11_arePartsTold_71 (by decide) ?_
            refine g_goto (tgt := 76) dX11_arePartsTold_72 rfl ?_
            exact g_zret dX11_arePartsTold_76 rfl rfl (by first | decide | exact bI_and) ⟨by grind [bI], rfl⟩
  · refine g_aload_n dX11_arePartsTold_10 rfl rfl ?_
    refine g_getf dX11_arePartsTold_11 fX11_7 mW_0 rfl ?_
    refine g_iload_n dX11_arePartsTold_14 rfl rfl ?_
    refine g_iald dX11_arePartsTold_15 mA1 (vin_n (by omega) (by decide)) ?_
    rw [nI_clamp (by omega)]
    refine g_iconst (v := 2) dX11_arePartsTold_16 (by decide) ?_
    refine g_icmp_ne (tgt := 24) dX11_arePartsTold_17 rfl (fun c_17 => ?_) (fun c_17 => ?_)
    · refine g_iconst (v := 0) dX11_arePartsTold_24 (by decide) ?_
      refine g_istore_n dX11_arePartsTold_25 rfl (Nat.le_of_ble_eq_true rfl) rfl ?_
      refine g_aload_n dX11_arePartsTold_26 rfl rfl ?_
      refine g_getf dX11_arePartsTold_27 fX11_7 mW_0 rfl ?_
      refine g_iload_n dX11_arePartsTold_30 rfl rfl ?_
      refine g_iald dX11_arePartsTold_31 mA1 (vin_n (by omega) (by decide)) ?_
      rw [nI_clamp (by omega)]
      refine g_if_eq (tgt := 75) dX11_arePartsTold_32 rfl (fun c_32 => ?_) (fun c_32 => ?_)
      · refine g_iconst (v := 0) dX11_arePartsTold_75 (by decide) ?_
        exact g_zret dX11_arePartsTold_76 rfl rfl (by first | decide | exact bI_and) ⟨by grind [bI], rfl⟩
      · refine g_aload_n dX11_arePartsTold_35 rfl rfl ?_
        refine g_aload_n dX11_arePartsTold_36 rfl rfl ?_
        refine g_getf dX11_arePartsTold_37 fX11_13 mW_0 rfl ?_
        refine g_iconst (v := 4) dX11_arePartsTold_40 (by decide) ?_
        refine g_iload_n dX11_arePartsTold_41 rfl rfl ?_
        refine g_imul dX11_arePartsTold_42 ?_
        rw [jx4]
        refine g_iald dX11_arePartsTold_43 mA2 (vin_n (by omega) (by decide)) ?_
        rw [nI_clamp (by omega), (ha c_32).1]
        refine g_V1r (CX11_isTold (q := a) (ha c_32).2) kX11_arePartsTold_245 dX11_arePartsTold_44 mW_0 rfl ⟨rfl, rfl⟩ (Nat.le_of_ble_eq_true rfl) ⟨(Nat.le_of_ble_eq_true rfl), (Nat.le_of_ble_eq_true rfl)⟩ ?_
        refine g_if_eq (tgt := 75) dX11_arePartsTold_47 rfl (fun c_47 => ?_) (fun c_47 => ?_)
        · refine g_iconst (v := 0) dX11_arePartsTold_75 (by decide) ?_
          exact g_zret dX11_arePartsTold_76 rfl rfl (by first | decide | exact bI_and) ⟨by grind [bI], rfl⟩
        · refine g_iload_n dX11_arePartsTold_50 rfl rfl ?_
          refine g_if_eq (tgt := 71) dX11_arePartsTold_51 rfl (fun c_51 => ?_) (fun c_51 => ?_)
          · refine g_iconst (v := 1) dX11_arePartsTold_71 (by decide) ?_
            refine g_goto (tgt := 76) dX11_arePartsTold_72 rfl ?_
            exact g_zret dX11_arePartsTold_76 rfl rfl (by first | decide | exact bI_and) ⟨by grind [bI], rfl⟩
          · refine g_aload_n dX11_arePartsTold_54 rfl rfl ?_
            refine g_aload_n dX11_arePartsTold_55 rfl rfl ?_
            refine g_getf dX11_arePartsTold_56 fX11_13 mW_0 rfl ?_
            refine g_iconst (v := 4) dX11_arePartsTold_59 (by decide) ?_
            refine g_iload_n dX11_arePartsTold_60 rfl rfl ?_
            refine g_imul dX11_arePartsTold_61 ?_
            refine g_iconst (v := 1) dX11_arePartsTold_62 (by decide) ?_
            refine g_iadd dX11_arePartsTold_63 ?_
            rw [jx41]
            refine g_iald dX11_arePartsTold_64 mA2 (vin_n (by omega) (by decide)) ?_
            rw [nI_clamp (by omega), (hb (by grind)).1]
            refine g_V1r (CX11_isTold (q := b) (hb (by grind)).2) kX11_arePartsTold_245 dX11_arePartsTold_65 mW_0 rfl ⟨rfl, rfl⟩ (Nat.le_of_ble_eq_true rfl) ⟨(Nat.le_of_ble_eq_true rfl), (Nat.le_of_ble_eq_true rfl)⟩ ?_
            refine g_if_eq (tgt := 75) dX11_arePartsTold_68 rfl (fun c_68 => ?_) (fun c_68 => ?_)
            · refine g_iconst (v := 0) dX11_arePartsTold_75 (by decide) ?_
              exact g_zret dX11_arePartsTold_76 rfl rfl (by first | decide | exact bI_and) ⟨by grind [bI], rfl⟩
            · refine g_iconst (v := 1) dX11_arePartsTold_71 (by decide) ?_
              refine g_goto (tgt := 76) dX11_arePartsTold_72 rfl ?_
              exact g_zret dX11_arePartsTold_76 rfl rfl (by first | decide | exact bI_and) ⟨by grind [bI], rfl⟩
    · refine g_iconst (v := 1) dX11_arePartsTold_20 (by decide) ?_
      refine g_goto (tgt := 25) dX11_arePartsTold_21 rfl ?_
      refine g_istore_n dX11_arePartsTold_25 rfl (Nat.le_of_ble_eq_true rfl) rfl ?_
      refine g_aload_n dX11_arePartsTold_26 rfl rfl ?_
      refine g_getf dX11_arePartsTold_27 fX11_7 mW_0 rfl ?_
      refine g_iload_n dX11_arePartsTold_30 rfl rfl ?_
      refine g_iald dX11_arePartsTold_31 mA1 (vin_n (by omega) (by decide)) ?_
      rw [nI_clamp (by omega)]
      refine g_if_eq (tgt := 75) dX11_arePartsTold_32 rfl (fun c_32 => ?_) (fun c_32 => ?_)
      · refine g_iconst (v := 0) dX11_arePartsTold_75 (by decide) ?_
        exact g_zret dX11_arePartsTold_76 rfl rfl (by first | decide | exact bI_and) ⟨by grind [bI], rfl⟩
      · refine g_aload_n dX11_arePartsTold_35 rfl rfl ?_
        refine g_aload_n dX11_arePartsTold_36 rfl rfl ?_
        refine g_getf dX11_arePartsTold_37 fX11_13 mW_0 rfl ?_
        refine g_iconst (v := 4) dX11_arePartsTold_40 (by decide) ?_
        refine g_iload_n dX11_arePartsTold_41 rfl rfl ?_
        refine g_imul dX11_arePartsTold_42 ?_
        rw [jx4]
        refine g_iald dX11_arePartsTold_43 mA2 (vin_n (by omega) (by decide)) ?_
        rw [nI_clamp (by omega), (ha c_32).1]
        refine g_V1r (CX11_isTold (q := a) (ha c_32).2) kX11_arePartsTold_245 dX11_arePartsTold_44 mW_0 rfl ⟨rfl, rfl⟩ (Nat.le_of_ble_eq_true rfl) ⟨(Nat.le_of_ble_eq_true rfl), (Nat.le_of_ble_eq_true rfl)⟩ ?_
        refine g_if_eq (tgt := 75) dX11_arePartsTold_47 rfl (fun c_47 => ?_) (fun c_47 => ?_)
        · refine g_iconst (v := 0) dX11_arePartsTold_75 (by decide) ?_
          exact g_zret dX11_arePartsTold_76 rfl rfl (by first | decide | exact bI_and) ⟨by grind [bI], rfl⟩
        · refine g_iload_n dX11_arePartsTold_50 rfl rfl ?_
          refine g_if_eq (tgt := 71) dX11_arePartsTold_51 rfl (fun c_51 => ?_) (fun c_51 => ?_)
          · refine g_iconst (v := 1) dX11_arePartsTold_71 (by decide) ?_
            refine g_goto (tgt := 76) dX11_arePartsTold_72 rfl ?_
            exact g_zret dX11_arePartsTold_76 rfl rfl (by first | decide | exact bI_and) ⟨by grind [bI], rfl⟩
          · refine g_aload_n dX11_arePartsTold_54 rfl rfl ?_
            refine g_aload_n dX11_arePartsTold_55 rfl rfl ?_
            refine g_getf dX11_arePartsTold_56 fX11_13 mW_0 rfl ?_
            refine g_iconst (v := 4) dX11_arePartsTold_59 (by decide) ?_
            refine g_iload_n dX11_arePartsTold_60 rfl rfl ?_
            refine g_imul dX11_arePartsTold_61 ?_
            refine g_iconst (v := 1) dX11_arePartsTold_62 (by decide) ?_
            refine g_iadd dX11_arePartsTold_63 ?_
            rw [jx41]
            refine g_iald dX11_arePartsTold_64 mA2 (vin_n (by omega) (by decide)) ?_
            rw [nI_clamp (by omega), (hb (by grind)).1]
            refine g_V1r (CX11_isTold (q := b) (hb (by grind)).2) kX11_arePartsTold_245 dX11_arePartsTold_65 mW_0 rfl ⟨rfl, rfl⟩ (Nat.le_of_ble_eq_true rfl) ⟨(Nat.le_of_ble_eq_true rfl), (Nat.le_of_ble_eq_true rfl)⟩ ?_
            refine g_if_eq (tgt := 75) dX11_arePartsTold_68 rfl (fun c_68 => ?_) (fun c_68 => ?_)
            · refine g_iconst (v := 0) dX11_arePartsTold_75 (by decide) ?_
              exact g_zret dX11_arePartsTold_76 rfl rfl (by first | decide | exact bI_and) ⟨by grind [bI], rfl⟩
            · refine g_iconst (v := 1) dX11_arePartsTold_71 (by decide) ?_
              refine g_goto (tgt := 76) dX11_arePartsTold_72 rfl ?_
              exact g_zret dX11_arePartsTold_76 rfl rfl (by first | decide | exact bI_and) ⟨by grind [bI], rfl⟩
set_option maxRecDepth 100000 in
set_option maxHeartbeats 4000000 in
theorem CX11_isPower {q : Nat} (hq : q ≤ 8) : Ct l mX11_isPower [.ref 0, .int (nI q)] (mW σ t) (q_eq (some (.int (bI (σ 2 (4 * q + 1) = 0 ∧ σ 2 (4 * q + 3) = σ 2 (4 * q) * σ 2 (4 * q + 2))))) (mW σ t)) := by
  refine Ct.of rfl (Nat.le_of_ble_eq_true rfl) ?_
  refine g_aload_n dX11_isPower_0 rfl rfl ?_
  refine g_getf dX11_isPower_1 fX11_13 mW_0 rfl ?_
  refine g_iconst (v := 4) dX11_isPower_4 (by decide) ?_
  refine g_iload_n dX11_isPower_5 rfl rfl ?_
  refine g_imul dX11_isPower_6 ?_
  refine g_iconst (v := 1) dX11_isPower_7 (by decide) ?_
  refine g_iadd dX11_isPower_8 ?_
  rw [jx41]
  refine g_iald dX11_isPower_9 mA2 (vin_n (by omega) (by decide)) ?_
  rw [nI_clamp (by omega)]
  refine g_if_ne (tgt := 49) dX11_isPower_10 rfl (fun c_10 => ?_) (fun c_10 => ?_)
  · refine g_iconst (v := 0) dX11_isPower_49 (by decide) ?_
    exact g_zret dX11_isPower_50 rfl rfl (by first | decide | exact bI_and) ⟨by grind [bI], rfl⟩
  · refine g_aload_n dX11_isPower_13 rfl rfl ?_
    refine g_getf dX11_isPower_14 fX11_13 mW_0 rfl ?_
    refine g_iconst (v := 4) dX11_isPower_17 (by decide) ?_
    refine g_iload_n dX11_isPower_18 rfl rfl ?_
    refine g_imul dX11_isPower_19 ?_
    refine g_iconst (v := 3) dX11_isPower_20 (by decide) ?_
    refine g_iadd dX11_isPower_21 ?_
    rw [jx43]
    refine g_iald dX11_isPower_22 mA2 (vin_n (by omega) (by decide)) ?_
    rw [nI_clamp (by omega)]
    refine g_aload_n dX11_isPower_23 rfl rfl ?_
    refine g_getf dX11_isPower_24 fX11_13 mW_0 rfl ?_
    refine g_iconst (v := 4) dX11_isPower_27 (by decide) ?_
    refine g_iload_n dX11_isPower_28 rfl rfl ?_
    refine g_imul dX11_isPower_29 ?_
    rw [jx4]
    refine g_iald dX11_isPower_30 mA2 (vin_n (by omega) (by decide)) ?_
    rw [nI_clamp (by omega)]
    refine g_aload_n dX11_isPower_31 rfl rfl ?_
    refine g_getf dX11_isPower_32 fX11_13 mW_0 rfl ?_
    refine g_iconst (v := 4) dX11_isPower_35 (by decide) ?_
    refine g_iload_n dX11_isPower_36 rfl rfl ?_
    refine g_imul dX11_isPower_37 ?_
    refine g_iconst (v := 2) dX11_isPower_38 (by decide) ?_
    refine g_iadd dX11_isPower_39 ?_
    rw [jx42]
    refine g_iald dX11_isPower_40 mA2 (vin_n (by omega) (by decide)) ?_
    rw [nI_clamp (by omega)]
    refine g_imul dX11_isPower_41 ?_
    refine g_icmp_ne (tgt := 49) dX11_isPower_42 rfl (fun c_42 => ?_) (fun c_42 => ?_)
    · refine g_iconst (v := 0) dX11_isPower_49 (by decide) ?_
      exact g_zret dX11_isPower_50 rfl rfl (by first | decide | exact bI_and) ⟨by grind [bI], rfl⟩
    · refine g_iconst (v := 1) dX11_isPower_45 (by decide) ?_
      refine g_goto (tgt := 50) dX11_isPower_46 rfl ?_
      exact g_zret dX11_isPower_50 rfl rfl (by first | decide | exact bI_and) ⟨by grind [bI], rfl⟩
abbrev mIP (σ : Nat → Nat → Int32) (q : Nat) : Prop := σ 2 (4 * q + 1) = 0 ∧ σ 2 (4 * q + 3) = σ 2 (4 * q) * σ 2 (4 * q + 2)
set_option maxRecDepth 100000 in
set_option maxHeartbeats 4000000 in
theorem CX11_powersIn {q a b : Nat} (hq : q ≤ 8) (ha : σ 2 (4 * q) = nI a) (ha8 : a ≤ 8) (hb : σ 2 (4 * q + 1) = nI b) (hb8 : b ≤ 8) : Ct l mX11_powersIn [.ref 0, .int (nI q)] (mW σ t) (q_eq (some (.int (if mIP σ a then nI a else if mIP σ b then nI b else 2000000001))) (mW σ t)) := by
  refine Ct.of rfl (Nat.le_of_ble_eq_true rfl) ?_
  refine g_aload_n dX11_powersIn_0 rfl rfl ?_
  refine g_getf dX11_powersIn_1 fX11_13 mW_0 rfl ?_
  refine g_iconst (v := 4) dX11_powersIn_4 (by decide) ?_
  refine g_iload_n dX11_powersIn_5 rfl rfl ?_
  refine g_imul dX11_powersIn_6 ?_
  rw [jx4]
  refine g_iald dX11_powersIn_7 mA2 (vin_n (by omega) (by decide)) ?_
  rw [nI_clamp (by omega), ha]
  refine g_istore_n dX11_powersIn_8 rfl (Nat.le_of_ble_eq_true rfl) rfl ?_
  refine g_aload_n dX11_powersIn_9 rfl rfl ?_
  refine g_getf dX11_powersIn_10 fX11_13 mW_0 rfl ?_
  refine g_iconst (v := 4) dX11_powersIn_13 (by decide) ?_
  refine g_iload_n dX11_powersIn_14 rfl rfl ?_
  refine g_imul dX11_powersIn_15 ?_
  refine g_iconst (v := 1) dX11_powersIn_16 (by decide) ?_
  refine g_iadd dX11_powersIn_17 ?_
  rw [jx41]
  refine g_iald dX11_powersIn_18 mA2 (vin_n (by omega) (by decide)) ?_
  rw [nI_clamp (by omega), hb]
  refine g_istore_n dX11_powersIn_19 rfl (Nat.le_of_ble_eq_true rfl) rfl ?_
  refine g_aload_n dX11_powersIn_20 rfl rfl ?_
  refine g_iload_n dX11_powersIn_21 rfl rfl ?_
  refine g_V1r (CX11_isPower ha8) kX11_powersIn_304 dX11_powersIn_22 mW_0 rfl ⟨rfl, rfl⟩ (Nat.le_of_ble_eq_true rfl) ⟨(Nat.le_of_ble_eq_true rfl), (Nat.le_of_ble_eq_true rfl)⟩ ?_
  refine g_if_eq (tgt := 32) dX11_powersIn_25 rfl (fun c_25 => ?_) (fun c_25 => ?_)
  · refine g_aload_n dX11_powersIn_32 rfl rfl ?_
    refine g_iload_n dX11_powersIn_33 rfl rfl ?_
    refine g_V1r (CX11_isPower hb8) kX11_powersIn_304 dX11_powersIn_34 mW_0 rfl ⟨rfl, rfl⟩ (Nat.le_of_ble_eq_true rfl) ⟨(Nat.le_of_ble_eq_true rfl), (Nat.le_of_ble_eq_true rfl)⟩ ?_
    refine g_if_eq (tgt := 44) dX11_powersIn_37 rfl (fun c_37 => ?_) (fun c_37 => ?_)
    · refine g_ldc dX11_powersIn_44 tb_854 ?_
      exact g_iret dX11_powersIn_46 rfl rfl ⟨by grind [bI], rfl⟩
    · refine g_iload_n dX11_powersIn_40 rfl rfl ?_
      refine g_goto (tgt := 46) dX11_powersIn_41 rfl ?_
      exact g_iret dX11_powersIn_46 rfl rfl ⟨by grind [bI], rfl⟩
  · refine g_iload_n dX11_powersIn_28 rfl rfl ?_
    refine g_goto (tgt := 46) dX11_powersIn_29 rfl ?_
    exact g_iret dX11_powersIn_46 rfl rfl ⟨by grind [bI], rfl⟩
set_option maxRecDepth 100000 in
set_option maxHeartbeats 4000000 in
theorem CX11_bothRule {q a b : Nat} {k : Int32} (hq : q ≤ 8) (ha : σ 2 (4 * q) = nI a) (ha8 : a ≤ 8) (hb : σ 2 (4 * q + 1) = nI b) (hb8 : b ≤ 8) (hk : 1 ≤ k ∧ k ≤ 4) : Ct l mX11_bothRule [.ref 0, .int (nI q), .int k] (mW σ t) (q_eq (some (.int (if σ 1 q = 1 then pickS k (σ 2 (4 * a)) (σ 2 (4 * a + 1)) (σ 2 (4 * b)) (σ 2 (4 * b + 1)) else pickM k (σ 2 (4 * a)) (σ 2 (4 * a + 1)) (σ 2 (4 * b)) (σ 2 (4 * b + 1))))) (mW σ t)) := by
  refine Ct.of rfl (Nat.le_of_ble_eq_true rfl) ?_
  refine g_aload_n dX11_bothRule_0 rfl rfl ?_
  refine g_getf dX11_bothRule_1 fX11_13 mW_0 rfl ?_
  refine g_iconst (v := 4) dX11_bothRule_4 (by decide) ?_
  refine g_iload_n dX11_bothRule_5 rfl rfl ?_
  refine g_imul dX11_bothRule_6 ?_
  rw [jx4]
  refine g_iald dX11_bothRule_7 mA2 (vin_n (by omega) (by decide)) ?_
  rw [nI_clamp (by omega), ha]
  refine g_istore_n dX11_bothRule_8 rfl (Nat.le_of_ble_eq_true rfl) rfl ?_
  refine g_aload_n dX11_bothRule_9 rfl rfl ?_
  refine g_getf dX11_bothRule_10 fX11_13 mW_0 rfl ?_
  refine g_iconst (v := 4) dX11_bothRule_13 (by decide) ?_
  refine g_iload_n dX11_bothRule_14 rfl rfl ?_
  refine g_imul dX11_bothRule_15 ?_
  refine g_iconst (v := 1) dX11_bothRule_16 (by decide) ?_
  refine g_iadd dX11_bothRule_17 ?_
  rw [jx41]
  refine g_iald dX11_bothRule_18 mA2 (vin_n (by omega) (by decide)) ?_
  rw [nI_clamp (by omega), hb]
  refine g_istore dX11_bothRule_19 (Nat.le_of_ble_eq_true rfl) rfl ?_
  refine g_aload_n dX11_bothRule_21 rfl rfl ?_
  refine g_getf dX11_bothRule_22 fX11_13 mW_0 rfl ?_
  refine g_iconst (v := 4) dX11_bothRule_25 (by decide) ?_
  refine g_iload_n dX11_bothRule_26 rfl rfl ?_
  refine g_imul dX11_bothRule_27 ?_
  rw [jx4]
  refine g_iald dX11_bothRule_28 mA2 (vin_n (by omega) (by decide)) ?_
  rw [nI_clamp (by omega)]
  refine g_istore dX11_bothRule_29 (Nat.le_of_ble_eq_true rfl) rfl ?_
  refine g_aload_n dX11_bothRule_31 rfl rfl ?_
  refine g_getf dX11_bothRule_32 fX11_13 mW_0 rfl ?_
  refine g_iconst (v := 4) dX11_bothRule_35 (by decide) ?_
  refine g_iload_n dX11_bothRule_36 rfl rfl ?_
  refine g_imul dX11_bothRule_37 ?_
  refine g_iconst (v := 1) dX11_bothRule_38 (by decide) ?_
  refine g_iadd dX11_bothRule_39 ?_
  rw [jx41]
  refine g_iald dX11_bothRule_40 mA2 (vin_n (by omega) (by decide)) ?_
  rw [nI_clamp (by omega)]
  refine g_istore dX11_bothRule_41 (Nat.le_of_ble_eq_true rfl) rfl ?_
  refine g_aload_n dX11_bothRule_43 rfl rfl ?_
  refine g_getf dX11_bothRule_44 fX11_13 mW_0 rfl ?_
  refine g_iconst (v := 4) dX11_bothRule_47 (by decide) ?_
  refine g_iload dX11_bothRule_48 rfl ?_
  refine g_imul dX11_bothRule_50 ?_
  rw [jx4]
  refine g_iald dX11_bothRule_51 mA2 (vin_n (by omega) (by decide)) ?_
  rw [nI_clamp (by omega)]
  refine g_istore dX11_bothRule_52 (Nat.le_of_ble_eq_true rfl) rfl ?_
  refine g_aload_n dX11_bothRule_54 rfl rfl ?_
  refine g_getf dX11_bothRule_55 fX11_13 mW_0 rfl ?_
  refine g_iconst (v := 4) dX11_bothRule_58 (by decide) ?_
  refine g_iload dX11_bothRule_59 rfl ?_
  refine g_imul dX11_bothRule_61 ?_
  refine g_iconst (v := 1) dX11_bothRule_62 (by decide) ?_
  refine g_iadd dX11_bothRule_63 ?_
  rw [jx41]
  refine g_iald dX11_bothRule_64 mA2 (vin_n (by omega) (by decide)) ?_
  rw [nI_clamp (by omega)]
  refine g_istore dX11_bothRule_65 (Nat.le_of_ble_eq_true rfl) rfl ?_
  refine g_aload_n dX11_bothRule_67 rfl rfl ?_
  refine g_getf dX11_bothRule_68 fX11_7 mW_0 rfl ?_
  refine g_iload_n dX11_bothRule_71 rfl rfl ?_
  refine g_iald dX11_bothRule_72 mA1 (vin_n (by omega) (by decide)) ?_
  rw [nI_clamp (by omega)]
  refine g_iconst (v := 1) dX11_bothRule_73 (by decide) ?_
  refine g_icmp_ne (tgt := 81) dX11_bothRule_74 rfl (fun c_74 => ?_) (fun c_74 => ?_)
  · refine g_iconst (v := 0) dX11_bothRule_81 (by decide) ?_
    refine g_istore dX11_bothRule_82 (Nat.le_of_ble_eq_true rfl) rfl ?_
    refine g_iload_n dX11_bothRule_84 rfl rfl ?_
    refine g_case (1) (fun s_85_0 => ?_) (fun s_85_0 => ?_)
    · refine g_tblEq (off := 27) (tgt := 112) dX11_bothRule_85 s_85_0 (by decide) (by decide) rfl rfl ?_
      refine g_iload dX11_bothRule_112 rfl ?_
      refine g_if_eq (tgt := 125) dX11_bothRule_114 rfl (fun c_114 => ?_) (fun c_114 => ?_)
      · refine g_iload dX11_bothRule_125 rfl ?_
        refine g_iload dX11_bothRule_127 rfl ?_
        refine g_imul dX11_bothRule_129 ?_
        exact g_iret dX11_bothRule_130 rfl rfl ⟨by clear ha hb; simp only [pickS, pickM]; grind, rfl⟩
      · refine g_iload dX11_bothRule_117 rfl ?_
        refine g_iload dX11_bothRule_119 rfl ?_
        refine g_iadd dX11_bothRule_121 ?_
        refine g_goto (tgt := 130) dX11_bothRule_122 rfl ?_
        exact g_iret dX11_bothRule_130 rfl rfl ⟨by clear ha hb; simp only [pickS, pickM]; grind, rfl⟩
    · refine g_case (2) (fun s_85_1 => ?_) (fun s_85_1 => ?_)
      · refine g_tblEq (off := 46) (tgt := 131) dX11_bothRule_85 s_85_1 (by decide) (by decide) rfl rfl ?_
        refine g_iload dX11_bothRule_131 rfl ?_
        refine g_if_eq (tgt := 150) dX11_bothRule_133 rfl (fun c_133 => ?_) (fun c_133 => ?_)
        · refine g_iload dX11_bothRule_150 rfl ?_
          refine g_iload dX11_bothRule_152 rfl ?_
          refine g_imul dX11_bothRule_154 ?_
          refine g_iload dX11_bothRule_155 rfl ?_
          refine g_imul dX11_bothRule_157 ?_
          refine g_iload dX11_bothRule_158 rfl ?_
          refine g_iload dX11_bothRule_160 rfl ?_
          refine g_imul dX11_bothRule_162 ?_
          refine g_iload dX11_bothRule_163 rfl ?_
          refine g_imul dX11_bothRule_165 ?_
          refine g_iadd dX11_bothRule_166 ?_
          refine g_iconst (v := 2) dX11_bothRule_167 (by decide) ?_
          refine g_iload dX11_bothRule_168 rfl ?_
          refine g_imul dX11_bothRule_170 ?_
          refine g_iload dX11_bothRule_171 rfl ?_
          refine g_imul dX11_bothRule_173 ?_
          refine g_iadd dX11_bothRule_174 ?_
          exact g_iret dX11_bothRule_175 rfl rfl ⟨by clear ha hb; simp only [pickS, pickM]; grind, rfl⟩
        · refine g_iload dX11_bothRule_136 rfl ?_
          refine g_iload dX11_bothRule_138 rfl ?_
          refine g_iadd dX11_bothRule_140 ?_
          refine g_iload dX11_bothRule_141 rfl ?_
          refine g_iload dX11_bothRule_143 rfl ?_
          refine g_imul dX11_bothRule_145 ?_
          refine g_isub dX11_bothRule_146 ?_
          refine g_goto (tgt := 175) dX11_bothRule_147 rfl ?_
          exact g_iret dX11_bothRule_175 rfl rfl ⟨by clear ha hb; simp only [pickS, pickM]; grind, rfl⟩
      · refine g_case (3) (fun s_85_2 => ?_) (fun s_85_2 => ?_)
        · refine g_tblEq (off := 91) (tgt := 176) dX11_bothRule_85 s_85_2 (by decide) (by decide) rfl rfl ?_
          refine g_iload dX11_bothRule_176 rfl ?_
          refine g_if_eq (tgt := 196) dX11_bothRule_178 rfl (fun c_178 => ?_) (fun c_178 => ?_)
          · refine g_iload dX11_bothRule_196 rfl ?_
            refine g_iload dX11_bothRule_198 rfl ?_
            refine g_imul dX11_bothRule_200 ?_
            refine g_iload dX11_bothRule_201 rfl ?_
            refine g_imul dX11_bothRule_203 ?_
            refine g_iload dX11_bothRule_204 rfl ?_
            refine g_imul dX11_bothRule_206 ?_
            exact g_iret dX11_bothRule_207 rfl rfl ⟨by clear ha hb; simp only [pickS, pickM]; grind, rfl⟩
          · refine g_iload dX11_bothRule_181 rfl ?_
            refine g_ineg dX11_bothRule_183 ?_
            refine g_iload dX11_bothRule_184 rfl ?_
            refine g_imul dX11_bothRule_186 ?_
            refine g_iload dX11_bothRule_187 rfl ?_
            refine g_iload dX11_bothRule_189 rfl ?_
            refine g_imul dX11_bothRule_191 ?_
            refine g_isub dX11_bothRule_192 ?_
            refine g_goto (tgt := 207) dX11_bothRule_193 rfl ?_
            exact g_iret dX11_bothRule_207 rfl rfl ⟨by clear ha hb; simp only [pickS, pickM]; grind, rfl⟩
        · refine g_tableOut (tgt := 208) dX11_bothRule_85 (by have a0 := ne_toInt (z := 1) rfl s_85_0; have a1 := ne_toInt (z := 2) rfl s_85_1; have a2 := ne_toInt (z := 3) rfl s_85_2; omega) rfl ?_
          refine g_iload dX11_bothRule_208 rfl ?_
          refine g_if_eq (tgt := 222) dX11_bothRule_210 rfl (fun c_210 => ?_) (fun c_210 => ?_)
          · refine g_iload dX11_bothRule_222 rfl ?_
            refine g_ineg dX11_bothRule_224 ?_
            refine g_iload dX11_bothRule_225 rfl ?_
            refine g_imul dX11_bothRule_227 ?_
            refine g_iload dX11_bothRule_228 rfl ?_
            refine g_imul dX11_bothRule_230 ?_
            refine g_iload dX11_bothRule_231 rfl ?_
            refine g_imul dX11_bothRule_233 ?_
            exact g_iret dX11_bothRule_234 rfl rfl ⟨by clear ha hb; simp only [pickS, pickM]; grind, rfl⟩
          · refine g_iload dX11_bothRule_213 rfl ?_
            refine g_ineg dX11_bothRule_215 ?_
            refine g_iload dX11_bothRule_216 rfl ?_
            refine g_imul dX11_bothRule_218 ?_
            refine g_goto (tgt := 234) dX11_bothRule_219 rfl ?_
            exact g_iret dX11_bothRule_234 rfl rfl ⟨by clear ha hb; simp only [pickS, pickM]; grind, rfl⟩
  · refine g_iconst (v := 1) dX11_bothRule_77 (by decide) ?_
    refine g_goto (tgt := 82) dX11_bothRule_78 rfl ?_
    refine g_istore dX11_bothRule_82 (Nat.le_of_ble_eq_true rfl) rfl ?_
    refine g_iload_n dX11_bothRule_84 rfl rfl ?_
    refine g_case (1) (fun s_85_0 => ?_) (fun s_85_0 => ?_)
    · refine g_tblEq (off := 27) (tgt := 112) dX11_bothRule_85 s_85_0 (by decide) (by decide) rfl rfl ?_
      refine g_iload dX11_bothRule_112 rfl ?_
      refine g_if_eq (tgt := 125) dX11_bothRule_114 rfl (fun c_114 => ?_) (fun c_114 => ?_)
      · refine g_iload dX11_bothRule_125 rfl ?_
        refine g_iload dX11_bothRule_127 rfl ?_
        refine g_imul dX11_bothRule_129 ?_
        exact g_iret dX11_bothRule_130 rfl rfl ⟨by clear ha hb; simp only [pickS, pickM]; grind, rfl⟩
      · refine g_iload dX11_bothRule_117 rfl ?_
        refine g_iload dX11_bothRule_119 rfl ?_
        refine g_iadd dX11_bothRule_121 ?_
        refine g_goto (tgt := 130) dX11_bothRule_122 rfl ?_
        exact g_iret dX11_bothRule_130 rfl rfl ⟨by clear ha hb; simp only [pickS, pickM]; grind, rfl⟩
    · refine g_case (2) (fun s_85_1 => ?_) (fun s_85_1 => ?_)
      · refine g_tblEq (off := 46) (tgt := 131) dX11_bothRule_85 s_85_1 (by decide) (by decide) rfl rfl ?_
        refine g_iload dX11_bothRule_131 rfl ?_
        refine g_if_eq (tgt := 150) dX11_bothRule_133 rfl (fun c_133 => ?_) (fun c_133 => ?_)
        · refine g_iload dX11_bothRule_150 rfl ?_
          refine g_iload dX11_bothRule_152 rfl ?_
          refine g_imul dX11_bothRule_154 ?_
          refine g_iload dX11_bothRule_155 rfl ?_
          refine g_imul dX11_bothRule_157 ?_
          refine g_iload dX11_bothRule_158 rfl ?_
          refine g_iload dX11_bothRule_160 rfl ?_
          refine g_imul dX11_bothRule_162 ?_
          refine g_iload dX11_bothRule_163 rfl ?_
          refine g_imul dX11_bothRule_165 ?_
          refine g_iadd dX11_bothRule_166 ?_
          refine g_iconst (v := 2) dX11_bothRule_167 (by decide) ?_
          refine g_iload dX11_bothRule_168 rfl ?_
          refine g_imul dX11_bothRule_170 ?_
          refine g_iload dX11_bothRule_171 rfl ?_
          refine g_imul dX11_bothRule_173 ?_
          refine g_iadd dX11_bothRule_174 ?_
          exact g_iret dX11_bothRule_175 rfl rfl ⟨by clear ha hb; simp only [pickS, pickM]; grind, rfl⟩
        · refine g_iload dX11_bothRule_136 rfl ?_
          refine g_iload dX11_bothRule_138 rfl ?_
          refine g_iadd dX11_bothRule_140 ?_
          refine g_iload dX11_bothRule_141 rfl ?_
          refine g_iload dX11_bothRule_143 rfl ?_
          refine g_imul dX11_bothRule_145 ?_
          refine g_isub dX11_bothRule_146 ?_
          refine g_goto (tgt := 175) dX11_bothRule_147 rfl ?_
          exact g_iret dX11_bothRule_175 rfl rfl ⟨by clear ha hb; simp only [pickS, pickM]; grind, rfl⟩
      · refine g_case (3) (fun s_85_2 => ?_) (fun s_85_2 => ?_)
        · refine g_tblEq (off := 91) (tgt := 176) dX11_bothRule_85 s_85_2 (by decide) (by decide) rfl rfl ?_
          refine g_iload dX11_bothRule_176 rfl ?_
          refine g_if_eq (tgt := 196) dX11_bothRule_178 rfl (fun c_178 => ?_) (fun c_178 => ?_)
          · refine g_iload dX11_bothRule_196 rfl ?_
            refine g_iload dX11_bothRule_198 rfl ?_
            refine g_imul dX11_bothRule_200 ?_
            refine g_iload dX11_bothRule_201 rfl ?_
            refine g_imul dX11_bothRule_203 ?_
            refine g_iload dX11_bothRule_204 rfl ?_
            refine g_imul dX11_bothRule_206 ?_
            exact g_iret dX11_bothRule_207 rfl rfl ⟨by clear ha hb; simp only [pickS, pickM]; grind, rfl⟩
          · refine g_iload dX11_bothRule_181 rfl ?_
            refine g_ineg dX11_bothRule_183 ?_
            refine g_iload dX11_bothRule_184 rfl ?_
            refine g_imul dX11_bothRule_186 ?_
            refine g_iload dX11_bothRule_187 rfl ?_
            refine g_iload dX11_bothRule_189 rfl ?_
            refine g_imul dX11_bothRule_191 ?_
            refine g_isub dX11_bothRule_192 ?_
            refine g_goto (tgt := 207) dX11_bothRule_193 rfl ?_
            exact g_iret dX11_bothRule_207 rfl rfl ⟨by clear ha hb; simp only [pickS, pickM]; grind, rfl⟩
        · refine g_tableOut (tgt := 208) dX11_bothRule_85 (by have a0 := ne_toInt (z := 1) rfl s_85_0; have a1 := ne_toInt (z := 2) rfl s_85_1; have a2 := ne_toInt (z := 3) rfl s_85_2; omega) rfl ?_
          refine g_iload dX11_bothRule_208 rfl ?_
          refine g_if_eq (tgt := 222) dX11_bothRule_210 rfl (fun c_210 => ?_) (fun c_210 => ?_)
          · refine g_iload dX11_bothRule_222 rfl ?_
            refine g_ineg dX11_bothRule_224 ?_
            refine g_iload dX11_bothRule_225 rfl ?_
            refine g_imul dX11_bothRule_227 ?_
            refine g_iload dX11_bothRule_228 rfl ?_
            refine g_imul dX11_bothRule_230 ?_
            refine g_iload dX11_bothRule_231 rfl ?_
            refine g_imul dX11_bothRule_233 ?_
            exact g_iret dX11_bothRule_234 rfl rfl ⟨by clear ha hb; simp only [pickS, pickM]; grind, rfl⟩
          · refine g_iload dX11_bothRule_213 rfl ?_
            refine g_ineg dX11_bothRule_215 ?_
            refine g_iload dX11_bothRule_216 rfl ?_
            refine g_imul dX11_bothRule_218 ?_
            refine g_goto (tgt := 234) dX11_bothRule_219 rfl ?_
            exact g_iret dX11_bothRule_234 rfl rfl ⟨by clear ha hb; simp only [pickS, pickM]; grind, rfl⟩
end
