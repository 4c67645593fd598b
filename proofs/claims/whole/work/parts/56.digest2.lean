theorem xK_ex3 {σ : Nat → Nat → Int32} {n : Nat} {x y z : Int32} (h : xK σ n) : xK (ex3 σ x y z) n ∧ xSame σ (ex3 σ x y z) := by
  have e : ∀ c, c ≠ 12 → ex3 σ x y z c = σ c := fun c hc => putC_ne hc
  exact ⟨xK_keep (fun c _ h2 => e c (by omega)) h, fun c hc => e c (by omega), fun c hc => e c (by omega)⟩
section
variable {l : Launch} {σ : Nat → Nat → Int32}
set_option maxRecDepth 100000 in
set_option maxHeartbeats 4000000 in
theorem CX10_diD {n g p n0 : Nat} {h : Int64} {Q : q_P} (hn : n ≤ 8) (hg : g ≤ 8) (h4 : σ 4 1 = nI g) (hp : p ≤ 47) (h6 : σ 6 1 = nI p) (hX : ∀ τ, xK τ n → xSame σ τ → Go l mX10_digest n0 Q (0, 0) 30 [some (.ref 0), some (.long (dgA (σ 2) (σ 3) (σ 1 2) h n)), none, some (.int (nI n))] [] (xW τ)) : ∀ (d j : Nat) (τ : Nat → Nat → Int32), j + d = n → xK τ n → xSame σ τ → Go l mX10_digest n0 Q (0, 0) 6 [some (.ref 0), some (.long (dgA (σ 2) (σ 3) (σ 1 2) h j)), none, some (.int (nI j))] [] (xW τ) := by
  intro d
  induction d with
  | zero =>
    intro j τ hj hK0 hS0
    have e1 : n = j := by omega
    subst e1
    refine g_iload_n dX10_digest_6 rfl rfl ?_
    refine g_aload_n dX10_digest_7 rfl rfl ?_
    refine g_getf dX10_digest_8 fX10_10 (xW_at (by decide) xC0) rfl ?_
    refine g_V0r (CX3_size xLed1) kX10_digest_121 dX10_digest_11 (xW_at xLed1.1.1 xLed1.2.1) rfl ⟨rfl, rfl⟩ (Nat.le_of_ble_eq_true rfl) ⟨(Nat.le_of_ble_eq_true rfl), (Nat.le_of_ble_eq_true rfl)⟩ ?_
    rw [show τ 1 2 = nI n from hK0.2.1]
    refine g_icmp_ge (tgt := 30) dX10_digest_14 rfl (fun c_14 => ?_) (fun c_14 => by exact absurd (nI_le (by omega) (by omega)) c_14)
    exact hX τ hK0 hS0
  | succ d ih =>
    intro j τ hj hK0 hS0
    refine g_iload_n dX10_digest_6 rfl rfl ?_
    refine g_aload_n dX10_digest_7 rfl rfl ?_
    refine g_getf dX10_digest_8 fX10_10 (xW_at (by decide) xC0) rfl ?_
    refine g_V0r (CX3_size xLed1) kX10_digest_121 dX10_digest_11 (xW_at xLed1.1.1 xLed1.2.1) rfl ⟨rfl, rfl⟩ (Nat.le_of_ble_eq_true rfl) ⟨(Nat.le_of_ble_eq_true rfl), (Nat.le_of_ble_eq_true rfl)⟩ ?_
    rw [show τ 1 2 = nI n from hK0.2.1]
    refine g_icmp_ge (tgt := 30) dX10_digest_14 rfl (fun c_14 => by exact absurd c_14 (nI_ge (by omega) (by omega))) (fun c_14 => ?_)
    refine g_aload_n dX10_digest_17 rfl rfl ?_
    refine g_lload_n dX10_digest_18 rfl rfl ?_
    refine g_iload_n dX10_digest_19 rfl rfl ?_
    refine g_V2p (CX10_digestWithRow hK0 (q := j) (by omega)) kX10_digest_276 dX10_digest_20 (xW_at (by decide) xC0) rfl ⟨rfl, rfl⟩ (Nat.le_of_ble_eq_true rfl) ⟨(Nat.le_of_ble_eq_true rfl), (Nat.le_of_ble_eq_true rfl)⟩ ?_
    rintro rv w1 ⟨τ', rfl, hK', hS, rfl⟩
    rw [(hS0.K).1, (hS0.K).2.1, (hS0.K).2.2]
    refine g_lstore_n dX10_digest_23 rfl (Nat.le_of_ble_eq_true rfl) rfl ?_
    refine g_iinc (v := 1) dX10_digest_24 (by decide) rfl (Nat.le_of_ble_eq_true rfl) rfl ?_
    refine g_goto (tgt := 6) dX10_digest_27 rfl ?_
    exact Go.eq rfl (show _ = _ by rw [← nI_1 j, dgA]; rfl) rfl rfl (ih (j + 1) τ' (by omega) hK' (hS0.tr hS))
set_option maxRecDepth 100000 in
set_option maxHeartbeats 4000000 in
theorem CX10_diE {n g p n0 : Nat} {h : Int64} {Q : q_P} (hn : n ≤ 8) (hg : g ≤ 8) (h4 : σ 4 1 = nI g) (hp : p ≤ 47) (h6 : σ 6 1 = nI p) (hX : ∀ τ, xK τ n → xSame σ τ → Go l mX10_digest n0 Q (0, 0) 65 [some (.ref 0), some (.long (hsF h (σ 5) g)), none, some (.int (nI g))] [] (xW τ)) : ∀ (d j : Nat) (τ : Nat → Nat → Int32), j + d = g → xK τ n → xSame σ τ → Go l mX10_digest n0 Q (0, 0) 32 [some (.ref 0), some (.long (hsF h (σ 5) j)), none, some (.int (nI j))] [] (xW τ) := by
  intro d
  induction d with
  | zero =>
    intro j τ hj hK0 hS0
    have e1 : g = j := by omega
    subst e1
    refine g_iload_n dX10_digest_32 rfl rfl ?_
    refine g_aload_n dX10_digest_33 rfl rfl ?_
    refine g_getf dX10_digest_34 fX10_21 (xW_at (by decide) xC0) rfl ?_
    refine g_V0r (CX4_size xNum4) kX10_digest_85 dX10_digest_37 (xW_at xNum4.1.1 xNum4.2.1) rfl ⟨rfl, rfl⟩ (Nat.le_of_ble_eq_true rfl) ⟨(Nat.le_of_ble_eq_true rfl), (Nat.le_of_ble_eq_true rfl)⟩ ?_
    rw [show τ 4 1 = nI g by rw [hS0.1 4 (by decide)]; exact h4]
    refine g_icmp_ge (tgt := 65) dX10_digest_40 rfl (fun c_40 => ?_) (fun c_40 => by exact absurd (nI_le (by omega) (by omega)) c_40)
    exact hX τ hK0 hS0
  | succ d ih =>
    intro j τ hj hK0 hS0
    refine g_iload_n dX10_digest_32 rfl rfl ?_
    refine g_aload_n dX10_digest_33 rfl rfl ?_
    refine g_getf dX10_digest_34 fX10_21 (xW_at (by decide) xC0) rfl ?_
    refine g_V0r (CX4_size xNum4) kX10_digest_85 dX10_digest_37 (xW_at xNum4.1.1 xNum4.2.1) rfl ⟨rfl, rfl⟩ (Nat.le_of_ble_eq_true rfl) ⟨(Nat.le_of_ble_eq_true rfl), (Nat.le_of_ble_eq_true rfl)⟩ ?_
    rw [show τ 4 1 = nI g by rw [hS0.1 4 (by decide)]; exact h4]
    refine g_icmp_ge (tgt := 65) dX10_digest_40 rfl (fun c_40 => by exact absurd c_40 (nI_ge (by omega) (by omega))) (fun c_40 => ?_)
    refine g_ldc2 dX10_digest_43 tb_840 ?_
    refine g_lload_n dX10_digest_46 rfl rfl ?_
    refine g_lmul dX10_digest_47 ?_
    refine g_aload_n dX10_digest_48 rfl rfl ?_
    refine g_getf dX10_digest_49 fX10_21 (xW_at (by decide) xC0) rfl ?_
    refine g_iload_n dX10_digest_52 rfl rfl ?_
    refine g_V1r (CX4_at xNum4 (by decide)) kX10_digest_254 dX10_digest_53 (xW_at xNum4.1.1 xNum4.2.1) rfl ⟨rfl, rfl⟩ (Nat.le_of_ble_eq_true rfl) ⟨(Nat.le_of_ble_eq_true rfl), (Nat.le_of_ble_eq_true rfl)⟩ ?_
    rw [show nmAt (τ 5) (τ 4 1) 8 (nI j) = σ 5 j by rw [hS0.1 4 (by decide), hS0.1 5 (by decide), h4, nmAt, if_pos ⟨nI_pos' (by omega), nI_lt (by omega) (by omega), nI_lt (b := 8) (by omega) (by decide)⟩, nI_clamp (by omega)]]
    refine g_i2l dX10_digest_56 ?_
    refine g_ladd dX10_digest_57 ?_
    refine g_lstore_n dX10_digest_58 rfl (Nat.le_of_ble_eq_true rfl) rfl ?_
    refine g_iinc (v := 1) dX10_digest_59 (by decide) rfl (Nat.le_of_ble_eq_true rfl) rfl ?_
    refine g_goto (tgt := 32) dX10_digest_62 rfl ?_
    exact Go.eq rfl (show _ = _ by rw [← nI_1 j, hsF]; rfl) rfl rfl (ih (j + 1) τ (by omega) hK0 hS0)
set_option maxRecDepth 100000 in
set_option maxHeartbeats 4000000 in
theorem CX10_diF {n g p n0 : Nat} {h : Int64} {Q : q_P} (hn : n ≤ 8) (hg : g ≤ 8) (h4 : σ 4 1 = nI g) (hp : p ≤ 47) (h6 : σ 6 1 = nI p) (hX : ∀ τ, xK τ n → xSame σ τ → Go l mX10_digest n0 Q (0, 0) 91 [some (.ref 0), some (.long (hsF h (gsV3 (σ 5) g) 3)), none, some (.int (nI 3))] [] (xW τ)) : ∀ (d j : Nat) (τ : Nat → Nat → Int32), j + d = 3 → xK τ n → xSame σ τ → Go l mX10_digest n0 Q (0, 0) 67 [some (.ref 0), some (.long (hsF h (gsV3 (σ 5) g) j)), none, some (.int (nI j))] [] (xW τ) := by
  intro d
  induction d with
  | zero =>
    intro j τ hj hK0 hS0
    have e1 : 3 = j := by omega
    subst e1
    refine g_iload_n dX10_digest_67 rfl rfl ?_
    refine g_iconst (v := 2) dX10_digest_68 (by decide) ?_
    refine g_icmp_gt (tgt := 91) dX10_digest_69 rfl (fun c_69 => ?_) (fun c_69 => by exfalso; revert c_69; decide)
    exact hX τ hK0 hS0
  | succ d ih =>
    intro j τ hj hK0 hS0
    refine g_iload_n dX10_digest_67 rfl rfl ?_
    refine g_iconst (v := 2) dX10_digest_68 (by decide) ?_
    refine g_icmp_gt (tgt := 91) dX10_digest_69 rfl (fun c_69 => by exact absurd c_69 (nI_nlt (a := 2) (by omega) (by decide))) (fun c_69 => ?_)
    refine g_ldc2 dX10_digest_72 tb_840 ?_
    refine g_lload_n dX10_digest_75 rfl rfl ?_
    refine g_lmul dX10_digest_76 ?_
    refine g_aload_n dX10_digest_77 rfl rfl ?_
    refine g_iload_n dX10_digest_78 rfl rfl ?_
    refine g_V1p (CX10_guess hg (show τ 4 1 = nI g by rw [hS0.1 4 (by decide)]; exact h4)) kX10_digest_282 dX10_digest_79 (xW_at (by decide) xC0) rfl ⟨rfl, rfl⟩ (Nat.le_of_ble_eq_true rfl) ⟨(Nat.le_of_ble_eq_true rfl), (Nat.le_of_ble_eq_true rfl)⟩ ?_
    rintro rv w1 ⟨x, y, z, rfl, rfl⟩
    obtain ⟨hK', hS⟩ := xK_ex3 (x := x) (y := y) (z := z) hK0
    rw [show (if 0 ≤ nI j ∧ nI j ≤ 2 then (if gsK (τ 5) g < 381 then (if nI j = 0 then gsD (gsK (τ 5) g) else if nI j = 1 then gsU (gsK (τ 5) g) else gsV (gsK (τ 5) g)) else 2000000001) else 2000000102) = gsV3 (σ 5) g j by
        rw [if_pos ⟨nI_pos' (by omega), nI_le (b := 2) (by omega) (by decide)⟩, hS0.1 5 (by decide), gsV3]
        rcases (show j = 0 ∨ j = 1 ∨ j = 2 by omega) with e | e | e <;> subst e <;> rfl]
    refine g_i2l dX10_digest_82 ?_
    refine g_ladd dX10_digest_83 ?_
    refine g_lstore_n dX10_digest_84 rfl (Nat.le_of_ble_eq_true rfl) rfl ?_
    refine g_iinc (v := 1) dX10_digest_85 (by decide) rfl (Nat.le_of_ble_eq_true rfl) rfl ?_
    refine g_goto (tgt := 67) dX10_digest_88 rfl ?_
    exact Go.eq rfl (show _ = _ by rw [← nI_1 j, hsF]; rfl) rfl rfl (ih (j + 1) _ (by omega) hK' (hS0.tr hS))
set_option maxRecDepth 100000 in
set_option maxHeartbeats 4000000 in
theorem CX10_diG {n g p n0 : Nat} {h : Int64} {Q : q_P} (hn : n ≤ 8) (hg : g ≤ 8) (h4 : σ 4 1 = nI g) (hp : p ≤ 47) (h6 : σ 6 1 = nI p) (hX : ∀ τ, xK τ n → xSame σ τ → Go l mX10_digest n0 Q (0, 0) 126 [some (.ref 0), some (.long (hsF h (σ 7) p)), none, some (.int (nI p))] [] (xW τ)) : ∀ (d j : Nat) (τ : Nat → Nat → Int32), j + d = p → xK τ n → xSame σ τ → Go l mX10_digest n0 Q (0, 0) 93 [some (.ref 0), some (.long (hsF h (σ 7) j)), none, some (.int (nI j))] [] (xW τ) := by
  intro d
  induction d with
  | zero =>
    intro j τ hj hK0 hS0
    have e1 : p = j := by omega
    subst e1
    refine g_iload_n dX10_digest_93 rfl rfl ?_
    refine g_aload_n dX10_digest_94 rfl rfl ?_
    refine g_getf dX10_digest_95 fX10_25 (xW_at (by decide) xC0) rfl ?_
    refine g_V0r (CX4_size xNum6) kX10_digest_85 dX10_digest_98 (xW_at xNum6.1.1 xNum6.2.1) rfl ⟨rfl, rfl⟩ (Nat.le_of_ble_eq_true rfl) ⟨(Nat.le_of_ble_eq_true rfl), (Nat.le_of_ble_eq_true rfl)⟩ ?_
    rw [show τ 6 1 = nI p by rw [hS0.1 6 (by decide)]; exact h6]
    refine g_icmp_ge (tgt := 126) dX10_digest_101 rfl (fun c_101 => ?_) (fun c_101 => by exact absurd (nI_le (by omega) (by omega)) c_101)
    exact hX τ hK0 hS0
  | succ d ih =>
    intro j τ hj hK0 hS0
    refine g_iload_n dX10_digest_93 rfl rfl ?_
    refine g_aload_n dX10_digest_94 rfl rfl ?_
    refine g_getf dX10_digest_95 fX10_25 (xW_at (by decide) xC0) rfl ?_
    refine g_V0r (CX4_size xNum6) kX10_digest_85 dX10_digest_98 (xW_at xNum6.1.1 xNum6.2.1) rfl ⟨rfl, rfl⟩ (Nat.le_of_ble_eq_true rfl) ⟨(Nat.le_of_ble_eq_true rfl), (Nat.le_of_ble_eq_true rfl)⟩ ?_
    rw [show τ 6 1 = nI p by rw [hS0.1 6 (by decide)]; exact h6]
    refine g_icmp_ge (tgt := 126) dX10_digest_101 rfl (fun c_101 => by exact absurd c_101 (nI_ge (by omega) (by omega))) (fun c_101 => ?_)
    refine g_ldc2 dX10_digest_104 tb_840 ?_
    refine g_lload_n dX10_digest_107 rfl rfl ?_
    refine g_lmul dX10_digest_108 ?_
    refine g_aload_n dX10_digest_109 rfl rfl ?_
    refine g_getf dX10_digest_110 fX10_25 (xW_at (by decide) xC0) rfl ?_
    refine g_iload_n dX10_digest_113 rfl rfl ?_
    refine g_V1r (CX4_at xNum6 (by decide)) kX10_digest_254 dX10_digest_114 (xW_at xNum6.1.1 xNum6.2.1) rfl ⟨rfl, rfl⟩ (Nat.le_of_ble_eq_true rfl) ⟨(Nat.le_of_ble_eq_true rfl), (Nat.le_of_ble_eq_true rfl)⟩ ?_
    rw [show nmAt (τ 7) (τ 6 1) 47 (nI j) = σ 7 j by rw [hS0.1 6 (by decide), hS0.1 7 (by decide), h6, nmAt, if_pos ⟨nI_pos' (by omega), nI_lt (by omega) (by omega), nI_lt (b := 47) (by omega) (by decide)⟩, nI_clamp (by omega)]]
    refine g_i2l dX10_digest_117 ?_
    refine g_ladd dX10_digest_118 ?_
    refine g_lstore_n dX10_digest_119 rfl (Nat.le_of_ble_eq_true rfl) rfl ?_
    refine g_iinc (v := 1) dX10_digest_120 (by decide) rfl (Nat.le_of_ble_eq_true rfl) rfl ?_
    refine g_goto (tgt := 93) dX10_digest_123 rfl ?_
    exact Go.eq rfl (show _ = _ by rw [← nI_1 j, hsF]; rfl) rfl rfl (ih (j + 1) τ (by omega) hK0 hS0)
set_option maxRecDepth 100000 in
set_option maxHeartbeats 4000000 in
theorem CX10_diH {n g p n0 : Nat} {h : Int64} {Q : q_P} (hn : n ≤ 8) (hg : g ≤ 8) (h4 : σ 4 1 = nI g) (hp : p ≤ 47) (h6 : σ 6 1 = nI p) (hX : ∀ τ, xK τ n → xSame σ τ → Go l mX10_digest n0 Q (0, 0) 152 [some (.ref 0), some (.long (hsF h (fun j => cntV σ n (nI j)) 6)), none, some (.int (nI 6))] [] (xW τ)) : ∀ (d j : Nat) (τ : Nat → Nat → Int32), j + d = 6 → xK τ n → xSame σ τ → Go l mX10_digest n0 Q (0, 0) 128 [some (.ref 0), some (.long (hsF h (fun j => cntV σ n (nI j)) j)), none, some (.int (nI j))] [] (xW τ) := by
  intro d
  induction d with
  | zero =>
    intro j τ hj hK0 hS0
    have e1 : 6 = j := by omega
    subst e1
    refine g_iload_n dX10_digest_128 rfl rfl ?_
    refine g_iconst (v := 5) dX10_digest_129 (by decide) ?_
    refine g_icmp_gt (tgt := 152) dX10_digest_130 rfl (fun c_130 => ?_) (fun c_130 => by exfalso; revert c_130; decide)
    exact hX τ hK0 hS0
  | succ d ih =>
    intro j τ hj hK0 hS0
    refine g_iload_n dX10_digest_128 rfl rfl ?_
    refine g_iconst (v := 5) dX10_digest_129 (by decide) ?_
    refine g_icmp_gt (tgt := 152) dX10_digest_130 rfl (fun c_130 => by exact absurd c_130 (nI_nlt (a := 5) (by omega) (by decide))) (fun c_130 => ?_)
    refine g_ldc2 dX10_digest_133 tb_840 ?_
    refine g_lload_n dX10_digest_136 rfl rfl ?_
    refine g_lmul dX10_digest_137 ?_
    refine g_aload_n dX10_digest_138 rfl rfl ?_
    refine g_iload_n dX10_digest_139 rfl rfl ?_
    refine g_V1r (CX10_count hK0.1 hK0.2.1) kX10_digest_285 dX10_digest_140 (xW_at (by decide) xC0) rfl ⟨rfl, rfl⟩ (Nat.le_of_ble_eq_true rfl) ⟨(Nat.le_of_ble_eq_true rfl), (Nat.le_of_ble_eq_true rfl)⟩ ?_
    rw [show cntV τ n (nI j) = cntV σ n (nI j) by unfold cntV; rw [(hS0.K).1, (hS0.K).2.1, (hS0.K).2.2, hS0.1 4 (by decide), hS0.1 6 (by decide), hS0.1 0 (by decide)]]
    refine g_i2l dX10_digest_143 ?_
    refine g_ladd dX10_digest_144 ?_
    refine g_lstore_n dX10_digest_145 rfl (Nat.le_of_ble_eq_true rfl) rfl ?_
    refine g_iinc (v := 1) dX10_digest_146 (by decide) rfl (Nat.le_of_ble_eq_true rfl) rfl ?_
    refine g_goto (tgt := 128) dX10_digest_149 rfl ?_
    exact Go.eq rfl (show _ = _ by rw [← nI_1 j, hsF]; rfl) rfl rfl (ih (j + 1) τ (by omega) hK0 hS0)
set_option maxRecDepth 100000 in
set_option maxHeartbeats 4000000 in
theorem CX10_digest {n g p : Nat} (hK : xK σ n) (hg : g ≤ 8) (h4 : σ 4 1 = nI g) (hp : p ≤ 47) (h6 : σ 6 1 = nI p) : Ct l mX10_digest [.ref 0] (xW σ) (fun rv w' => ∃ σ', w' = xW σ' ∧ xK σ' n ∧ xSame σ σ' ∧ rv = some (.long (dgW σ n g p))) := by
  refine Ct.of rfl (Nat.le_of_ble_eq_true rfl) ?_
  refine g_ldc2 dX10_digest_0 tb_835 ?_
  refine g_lstore_n dX10_digest_3 rfl (Nat.le_of_ble_eq_true rfl) rfl ?_
  refine g_iconst (v := 0) dX10_digest_4 (by decide) ?_
  refine g_istore_n dX10_digest_5 rfl (Nat.le_of_ble_eq_true rfl) rfl ?_
  refine CX10_diD (σ := σ) (h := 1493) hK.1 hg h4 hp h6 (fun τ1 hK1 hS1 => ?_) n 0 σ (by omega) hK xSame.rf
  refine g_iconst (v := 0) dX10_digest_30 (by decide) ?_
  refine g_istore_n dX10_digest_31 rfl (Nat.le_of_ble_eq_true rfl) rfl ?_
  refine CX10_diE (σ := σ) hK.1 hg h4 hp h6 (fun τ2 hK2 hS2 => ?_) g 0 τ1 (by omega) hK1 hS1
  refine g_iconst (v := 0) dX10_digest_65 (by decide) ?_
  refine g_istore_n dX10_digest_66 rfl (Nat.le_of_ble_eq_true rfl) rfl ?_
  refine CX10_diF (σ := σ) hK.1 hg h4 hp h6 (fun τ3 hK3 hS3 => ?_) 3 0 τ2 (by omega) hK2 hS2
  refine g_iconst (v := 0) dX10_digest_91 (by decide) ?_
  refine g_istore_n dX10_digest_92 rfl (Nat.le_of_ble_eq_true rfl) rfl ?_
  refine CX10_diG (σ := σ) hK.1 hg h4 hp h6 (fun τ4 hK4 hS4 => ?_) p 0 τ3 (by omega) hK3 hS3
  refine g_iconst (v := 0) dX10_digest_126 (by decide) ?_
  refine g_istore_n dX10_digest_127 rfl (Nat.le_of_ble_eq_true rfl) rfl ?_
  refine CX10_diH (σ := σ) hK.1 hg h4 hp h6 (fun τ5 hK5 hS5 => ?_) 6 0 τ4 (by omega) hK4 hS4
  refine g_lload_n dX10_digest_152 rfl rfl ?_
  exact g_lret dX10_digest_153 rfl rfl ⟨τ5, rfl, hK5, hS5, rfl⟩
end
