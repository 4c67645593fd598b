/-- the hash of numbers in a row -/
def hsF (h : Int64) (V : Nat → Int32) : Nat → Int64
  | 0 => h
  | j + 1 => 31 * hsF h V j + (V j).toInt64
def rwQ (K N : Nat → Int32) (sz : Int32) (q j : Nat) : Int32 := if j = 0 then ldKind K sz (nI q) else if nI j ≤ nums (ldKind K sz (nI q)) then ldNum N sz (nI q) (nI j - 1) else 2000000001
def dgR (K N : Nat → Int32) (sz : Int32) (h : Int64) (q : Nat) : Int64 :=
  31 * hsF (31 * hsF (hsF h (rwQ K N sz q) 5) (fun j => vAt (TT K N sz) (nI q) (nI j)) 8 + (RZ K N sz 5 q 1000000).toInt64) (fun j => lapV (RZ K N sz 3 q) (rnd 3) (nI j)) 3 + (nsF (TT K N sz) (nI q) 24).toInt64
def dgA (K N : Nat → Int32) (sz : Int32) (h : Int64) : Nat → Int64
  | 0 => h
  | q + 1 => dgR K N sz (dgA K N sz h q) q
def gsV3 (G : Nat → Int32) (g j : Nat) : Int32 := if gsK G g < 381 then (if j = 0 then gsD (gsK G g) else if j = 1 then gsU (gsK G g) else gsV (gsK G g)) else 2000000001
def dgW (σ : Nat → Nat → Int32) (n g p : Nat) : Int64 :=
  hsF (hsF (hsF (hsF (dgA (σ 2) (σ 3) (σ 1 2) 1493 n) (σ 5) g) (gsV3 (σ 5) g) 3) (σ 7) p) (fun j => cntV σ n (nI j)) 6
section
variable {l : Launch} {σ : Nat → Nat → Int32}
set_option maxRecDepth 100000 in
set_option maxHeartbeats 4000000 in
theorem CX10_dgA {n q n0 : Nat} {h0 h : Int64} {Q : q_P} (hq : q < n) (hX : ∀ τ, xK τ n → xSame σ τ → Go l mX10_digestWithRow n0 Q (0, 0) 35 [some (.ref 0), some (.long h0), none, some (.int (nI q)), some (.long (hsF h (rwQ (σ 2) (σ 3) (σ 1 2) q) 5)), none, some (.int (nI 5))] [] (xW τ)) : ∀ (d j : Nat) (τ : Nat → Nat → Int32), j + d = 5 → xK τ n → xSame σ τ → Go l mX10_digestWithRow n0 Q (0, 0) 6 [some (.ref 0), some (.long h0), none, some (.int (nI q)), some (.long (hsF h (rwQ (σ 2) (σ 3) (σ 1 2) q) j)), none, some (.int (nI j))] [] (xW τ) := by
  intro d
  induction d with
  | zero =>
    intro j τ hj hK0 hS0
    have e1 : j = 5 := by omega
    subst e1
    refine g_iload dX10_digestWithRow_6 rfl ?_
    refine g_iconst (v := 4) dX10_digestWithRow_8 (by decide) ?_
    refine g_icmp_gt (tgt := 35) dX10_digestWithRow_9 rfl (fun c_9 => ?_) (fun c_9 => by exfalso; revert c_9; decide)
    exact hX τ hK0 hS0
  | succ d ih =>
    intro j τ hj hK0 hS0
    have ev : (if ldH (τ 1 2) (nI q) then (if 0 ≤ nI j ∧ nI j ≤ 4 then (if nI j = 0 then ldKind (τ 2) (τ 1 2) (nI q) else if nI j ≤ nums (ldKind (τ 2) (τ 1 2) (nI q)) then ldNum (τ 3) (τ 1 2) (nI q) (nI j - 1) else 2000000001) else 2000000102) else 2000000101) = rwQ (σ 2) (σ 3) (σ 1 2) q j := by
      rw [if_pos (show ldH (τ 1 2) (nI q) by rw [hK0.2.1]; exact (ldH_iff hK0.1).mpr ⟨q, hq, rfl⟩), if_pos ⟨nI_pos' (by omega), nI_le (b := 4) (by omega) (by decide)⟩, (hS0.K).1, (hS0.K).2.1, (hS0.K).2.2, rwQ]
      by_cases e : j = 0
      · subst e; rfl
      · rw [if_neg e, if_neg (nI_ne0 (by omega) (by omega))]
    refine g_iload dX10_digestWithRow_6 rfl ?_
    refine g_iconst (v := 4) dX10_digestWithRow_8 (by decide) ?_
    refine g_icmp_gt (tgt := 35) dX10_digestWithRow_9 rfl (fun c_9 => by exact absurd c_9 (nI_nlt (a := 4) (by omega) (by decide))) (fun c_9 => ?_)
    refine g_ldc2 dX10_digestWithRow_12 tb_840 ?_
    refine g_lload dX10_digestWithRow_15 rfl ?_
    refine g_lmul dX10_digestWithRow_17 ?_
    refine g_aload_n dX10_digestWithRow_18 rfl rfl ?_
    refine g_iload_n dX10_digestWithRow_19 rfl rfl ?_
    refine g_iload dX10_digestWithRow_20 rfl ?_
    refine g_V2r CX10_row kX10_digestWithRow_288 dX10_digestWithRow_22 (xW_at (by decide) xC0) rfl ⟨rfl, rfl⟩ (Nat.le_of_ble_eq_true rfl) ⟨(Nat.le_of_ble_eq_true rfl), (Nat.le_of_ble_eq_true rfl)⟩ ?_
    rw [ev]
    refine g_i2l dX10_digestWithRow_25 ?_
    refine g_ladd dX10_digestWithRow_26 ?_
    refine g_lstore dX10_digestWithRow_27 (Nat.le_of_ble_eq_true rfl) rfl ?_
    refine g_iinc (v := 1) dX10_digestWithRow_29 (by decide) rfl (Nat.le_of_ble_eq_true rfl) rfl ?_
    refine g_goto (tgt := 6) dX10_digestWithRow_32 rfl ?_
    exact Go.eq rfl (show _ = _ by rw [← nI_1 j, hsF]; rfl) rfl rfl (ih (j + 1) τ (by omega) hK0 hS0)
set_option maxRecDepth 100000 in
set_option maxHeartbeats 4000000 in
theorem CX10_dgB {n q n0 : Nat} {h0 h : Int64} {Q : q_P} (hq : q < n) (hX : ∀ τ, xK τ n → xSame σ τ → Go l mX10_digestWithRow n0 Q (0, 0) 68 [some (.ref 0), some (.long h0), none, some (.int (nI q)), some (.long (hsF h (fun j => vAt (TT (σ 2) (σ 3) (σ 1 2)) (nI q) (nI j)) 8)), none, some (.int (nI 8))] [] (xW τ)) : ∀ (d j : Nat) (τ : Nat → Nat → Int32), j + d = 8 → xK τ n → xSame σ τ → Go l mX10_digestWithRow n0 Q (0, 0) 38 [some (.ref 0), some (.long h0), none, some (.int (nI q)), some (.long (hsF h (fun j => vAt (TT (σ 2) (σ 3) (σ 1 2)) (nI q) (nI j)) j)), none, some (.int (nI j))] [] (xW τ) := by
  intro d
  induction d with
  | zero =>
    intro j τ hj hK0 hS0
    have e1 : j = 8 := by omega
    subst e1
    refine g_iload dX10_digestWithRow_38 rfl ?_
    refine g_bipush (v := 7) dX10_digestWithRow_40 (by decide) ?_
    refine g_icmp_gt (tgt := 68) dX10_digestWithRow_42 rfl (fun c_42 => ?_) (fun c_42 => by exfalso; revert c_42; decide)
    exact hX τ hK0 hS0
  | succ d ih =>
    intro j τ hj hK0 hS0
    have ev : (if ldH (τ 1 2) (nI q) then (if 0 ≤ nI j ∧ nI j ≤ 200 then vAt (TT (τ 2) (τ 3) (τ 1 2)) (nI q) (nI j) else 2000000102) else 2000000101) = vAt (TT (σ 2) (σ 3) (σ 1 2)) (nI q) (nI j) := by
      rw [if_pos (show ldH (τ 1 2) (nI q) by rw [hK0.2.1]; exact (ldH_iff hK0.1).mpr ⟨q, hq, rfl⟩), if_pos ⟨nI_pos' (by omega), nI_le (b := 200) (by omega) (by decide)⟩, (hS0.K).1, (hS0.K).2.1, (hS0.K).2.2]
    refine g_iload dX10_digestWithRow_38 rfl ?_
    refine g_bipush (v := 7) dX10_digestWithRow_40 (by decide) ?_
    refine g_icmp_gt (tgt := 68) dX10_digestWithRow_42 rfl (fun c_42 => by exact absurd c_42 (nI_nlt (a := 7) (by omega) (by decide))) (fun c_42 => ?_)
    refine g_ldc2 dX10_digestWithRow_45 tb_840 ?_
    refine g_lload dX10_digestWithRow_48 rfl ?_
    refine g_lmul dX10_digestWithRow_50 ?_
    refine g_aload_n dX10_digestWithRow_51 rfl rfl ?_
    refine g_iload_n dX10_digestWithRow_52 rfl rfl ?_
    refine g_iload dX10_digestWithRow_53 rfl ?_
    refine g_V2p (CX10_term hK0) kX10_digestWithRow_291 dX10_digestWithRow_55 (xW_at (by decide) xC0) rfl ⟨rfl, rfl⟩ (Nat.le_of_ble_eq_true rfl) ⟨(Nat.le_of_ble_eq_true rfl), (Nat.le_of_ble_eq_true rfl)⟩ ?_
    rintro rv w1 ⟨τ', rfl, hK', hS, rfl⟩
    rw [ev]
    refine g_i2l dX10_digestWithRow_58 ?_
    refine g_ladd dX10_digestWithRow_59 ?_
    refine g_lstore dX10_digestWithRow_60 (Nat.le_of_ble_eq_true rfl) rfl ?_
    refine g_iinc (v := 1) dX10_digestWithRow_62 (by decide) rfl (Nat.le_of_ble_eq_true rfl) rfl ?_
    refine g_goto (tgt := 38) dX10_digestWithRow_65 rfl ?_
    exact Go.eq rfl (show _ = _ by rw [← nI_1 j, hsF]; rfl) rfl rfl (ih (j + 1) τ' (by omega) hK' (hS0.tr hS))
set_option maxRecDepth 100000 in
set_option maxHeartbeats 4000000 in
theorem CX10_dgC {n q n0 : Nat} {h0 h : Int64} {Q : q_P} (hq : q < n) (hX : ∀ τ, xK τ n → xSame σ τ → Go l mX10_digestWithRow n0 Q (0, 0) 121 [some (.ref 0), some (.long h0), none, some (.int (nI q)), some (.long (hsF h (fun j => lapV (RZ (σ 2) (σ 3) (σ 1 2) 3 q) (rnd 3) (nI j)) 3)), none, some (.int (nI 3))] [] (xW τ)) : ∀ (d j : Nat) (τ : Nat → Nat → Int32), j + d = 3 → xK τ n → xSame σ τ → Go l mX10_digestWithRow n0 Q (0, 0) 91 [some (.ref 0), some (.long h0), none, some (.int (nI q)), some (.long (hsF h (fun j => lapV (RZ (σ 2) (σ 3) (σ 1 2) 3 q) (rnd 3) (nI j)) j)), none, some (.int (nI j))] [] (xW τ) := by
  intro d
  induction d with
  | zero =>
    intro j τ hj hK0 hS0
    have e1 : j = 3 := by omega
    subst e1
    refine g_iload dX10_digestWithRow_91 rfl ?_
    refine g_iconst (v := 2) dX10_digestWithRow_93 (by decide) ?_
    refine g_icmp_gt (tgt := 121) dX10_digestWithRow_94 rfl (fun c_94 => ?_) (fun c_94 => by exfalso; revert c_94; decide)
    exact hX τ hK0 hS0
  | succ d ih =>
    intro j τ hj hK0 hS0
    have ev : (if ldH (τ 1 2) (nI q) then (if (2 ≤ (5 : Int32) ∧ (5 : Int32) ≤ 10) ∧ 0 ≤ nI j ∧ nI j ≤ 2 then lapV (RZ (τ 2) (τ 3) (τ 1 2) ((5 : Int32).toNatClampNeg - 2) (nI q).toNatClampNeg) (rnd ((5 : Int32).toNatClampNeg - 2)) (nI j) else 2000000102) else 2000000101) = lapV (RZ (σ 2) (σ 3) (σ 1 2) 3 q) (rnd 3) (nI j) := by
      rw [if_pos (show ldH (τ 1 2) (nI q) by rw [hK0.2.1]; exact (ldH_iff hK0.1).mpr ⟨q, hq, rfl⟩), if_pos ⟨by decide, nI_pos' (by omega), nI_le (b := 2) (by omega) (by decide)⟩, (hS0.K).1, (hS0.K).2.1, (hS0.K).2.2, nI_clamp (show q < 2 ^ 31 by have := hK0.1; omega)]
      rfl
    refine g_iload dX10_digestWithRow_91 rfl ?_
    refine g_iconst (v := 2) dX10_digestWithRow_93 (by decide) ?_
    refine g_icmp_gt (tgt := 121) dX10_digestWithRow_94 rfl (fun c_94 => by exact absurd c_94 (nI_nlt (a := 2) (by omega) (by decide))) (fun c_94 => ?_)
    refine g_ldc2 dX10_digestWithRow_97 tb_840 ?_
    refine g_lload dX10_digestWithRow_100 rfl ?_
    refine g_lmul dX10_digestWithRow_102 ?_
    refine g_aload_n dX10_digestWithRow_103 rfl rfl ?_
    refine g_iload_n dX10_digestWithRow_104 rfl rfl ?_
    refine g_iconst (v := 5) dX10_digestWithRow_105 (by decide) ?_
    refine g_iload dX10_digestWithRow_106 rfl ?_
    refine g_V3p (CX10_lap hK0) kX10_digestWithRow_205 dX10_digestWithRow_108 (xW_at (by decide) xC0) rfl ⟨rfl, rfl⟩ (Nat.le_of_ble_eq_true rfl) ⟨(Nat.le_of_ble_eq_true rfl), (Nat.le_of_ble_eq_true rfl)⟩ ?_
    rintro rv w1 ⟨τ', rfl, hK', hS, rfl⟩
    rw [ev]
    refine g_i2l dX10_digestWithRow_111 ?_
    refine g_ladd dX10_digestWithRow_112 ?_
    refine g_lstore dX10_digestWithRow_113 (Nat.le_of_ble_eq_true rfl) rfl ?_
    refine g_iinc (v := 1) dX10_digestWithRow_115 (by decide) rfl (Nat.le_of_ble_eq_true rfl) rfl ?_
    refine g_goto (tgt := 91) dX10_digestWithRow_118 rfl ?_
    exact Go.eq rfl (show _ = _ by rw [← nI_1 j, hsF]; rfl) rfl rfl (ih (j + 1) τ' (by omega) hK' (hS0.tr hS))
set_option maxRecDepth 100000 in
set_option maxHeartbeats 4000000 in
theorem CX10_digestWithRow {n q : Nat} {h0 : Int64} (hK : xK σ n) (hq : q < n) : Ct l mX10_digestWithRow [.ref 0, .long h0, .int (nI q)] (xW σ) (fun rv w' => ∃ σ', w' = xW σ' ∧ xK σ' n ∧ xSame σ σ' ∧ rv = some (.long (dgR (σ 2) (σ 3) (σ 1 2) h0 q))) := by
  refine Ct.of rfl (Nat.le_of_ble_eq_true rfl) ?_
  refine g_lload_n dX10_digestWithRow_0 rfl rfl ?_
  refine g_lstore dX10_digestWithRow_1 (Nat.le_of_ble_eq_true rfl) rfl ?_
  refine g_iconst (v := 0) dX10_digestWithRow_3 (by decide) ?_
  refine g_istore dX10_digestWithRow_4 (Nat.le_of_ble_eq_true rfl) rfl ?_
  refine CX10_dgA (σ := σ) (h := h0) hq (fun τ1 hK1 hS1 => ?_) 5 0 σ rfl hK xSame.rf
  refine g_iconst (v := 0) dX10_digestWithRow_35 (by decide) ?_
  refine g_istore dX10_digestWithRow_36 (Nat.le_of_ble_eq_true rfl) rfl ?_
  refine CX10_dgB (σ := σ) hq (fun τ2 hK2 hS2 => ?_) 8 0 τ1 rfl hK1 hS1
  have ev : (if ldH (τ2 1 2) (nI q) then (if (0 : Int32) ≤ 1000000 ∧ (2 : Int32) ≤ 7 ∧ (7 : Int32) ≤ 10 then RZ (τ2 2) (τ2 3) (τ2 1 2) ((7 : Int32).toNatClampNeg - 2) (nI q).toNatClampNeg (1000000 : Int32).toNatClampNeg else 2000000102) else 2000000101) = RZ (σ 2) (σ 3) (σ 1 2) 5 q 1000000 := by
    rw [if_pos (show ldH (τ2 1 2) (nI q) by rw [hK2.2.1]; exact (ldH_iff hK2.1).mpr ⟨q, hq, rfl⟩), if_pos (by decide), (hS2.K).1, (hS2.K).2.1, (hS2.K).2.2, nI_clamp (show q < 2 ^ 31 by have := hK2.1; omega)]
    rfl
  refine g_ldc2 dX10_digestWithRow_68 tb_840 ?_
  refine g_lload dX10_digestWithRow_71 rfl ?_
  refine g_lmul dX10_digestWithRow_73 ?_
  refine g_aload_n dX10_digestWithRow_74 rfl rfl ?_
  refine g_iload_n dX10_digestWithRow_75 rfl rfl ?_
  refine g_ldcw dX10_digestWithRow_76 tb_843 ?_
  refine g_bipush (v := 7) dX10_digestWithRow_79 (by decide) ?_
  refine g_V3p (CX10_by hK2) kX10_digestWithRow_295 dX10_digestWithRow_81 (xW_at (by decide) xC0) rfl ⟨rfl, rfl⟩ (Nat.le_of_ble_eq_true rfl) ⟨(Nat.le_of_ble_eq_true rfl), (Nat.le_of_ble_eq_true rfl)⟩ ?_
  rintro rv w1 ⟨τ3, rfl, hK3, hS3, rfl⟩
  rw [ev]
  refine g_i2l dX10_digestWithRow_84 ?_
  refine g_ladd dX10_digestWithRow_85 ?_
  refine g_lstore dX10_digestWithRow_86 (Nat.le_of_ble_eq_true rfl) rfl ?_
  refine g_iconst (v := 0) dX10_digestWithRow_88 (by decide) ?_
  refine g_istore dX10_digestWithRow_89 (Nat.le_of_ble_eq_true rfl) rfl ?_
  refine CX10_dgC (σ := σ) hq (fun τ4 hK4 hS4 => ?_) 3 0 τ3 rfl hK3 (hS2.tr hS3)
  have ev2 : (if ldH (τ4 1 2) (nI q) then nsF (TT (τ4 2) (τ4 3) (τ4 1 2)) (nI q) 24 else 2000000101) = nsF (TT (σ 2) (σ 3) (σ 1 2)) (nI q) 24 := by
    rw [if_pos (show ldH (τ4 1 2) (nI q) by rw [hK4.2.1]; exact (ldH_iff hK4.1).mpr ⟨q, hq, rfl⟩), (hS4.K).1, (hS4.K).2.1, (hS4.K).2.2]
  refine g_ldc2 dX10_digestWithRow_121 tb_840 ?_
  refine g_lload dX10_digestWithRow_124 rfl ?_
  refine g_lmul dX10_digestWithRow_126 ?_
  refine g_aload_n dX10_digestWithRow_127 rfl rfl ?_
  refine g_iload_n dX10_digestWithRow_128 rfl rfl ?_
  refine g_V1p (CX10_noughts hK4) kX10_digestWithRow_298 dX10_digestWithRow_129 (xW_at (by decide) xC0) rfl ⟨rfl, rfl⟩ (Nat.le_of_ble_eq_true rfl) ⟨(Nat.le_of_ble_eq_true rfl), (Nat.le_of_ble_eq_true rfl)⟩ ?_
  rintro rv w1 ⟨τ5, rfl, hK5, hS5, rfl⟩
  rw [ev2]
  refine g_i2l dX10_digestWithRow_132 ?_
  refine g_ladd dX10_digestWithRow_133 ?_
  exact g_lret dX10_digestWithRow_134 rfl rfl ⟨τ5, rfl, hK5, hS4.tr hS5, rfl⟩
end
