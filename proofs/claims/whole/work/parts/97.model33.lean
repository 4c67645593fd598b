/-! drawn rows -/
def sN (k : Nat) : Nat := (1103515245 * k + 12345) % 2147483648
theorem sN_lt (k : Nat) : sN k < 2 ^ 31 := Nat.mod_lt _ (by decide)
theorem nL_and (a : Nat) : nL a &&& 2147483647 = nL (a % 2147483648) := by
  rw [← Int64.toBitVec_inj, Int64.toBitVec_and]
  apply BitVec.eq_of_toNat_eq
  rw [BitVec.toNat_and]
  show (BitVec.ofNat 64 a).toNat &&& (2 ^ 31 - 1) = (BitVec.ofNat 64 (a % 2147483648)).toNat
  rw [BitVec.toNat_ofNat, BitVec.toNat_ofNat, Nat.and_two_pow_sub_one_eq_mod]
  omega
theorem nxS_n {k : Nat} (hk : k < 2 ^ 31) : nxS (nI k) = nI (sN k) := by
  unfold nxS
  rw [nI_64 hk, show (1103515245 : Int64) = nL 1103515245 from rfl, show (12345 : Int64) = nL 12345 from rfl, nL_mul, nL_add, nL_and, nL_32]
  rfl
def dN (k : Nat) : Nat := k / 65536 % 7
theorem nmD_n {k : Nat} (hk : k < 2 ^ 31) : nmD (nI k) = nI (dN k) - 3 := by
  unfold nmD jrem
  rw [show (65536 : Int32) = nI 65536 from rfl, nI_div hk (by decide), show (7 : Int32) = nI 7 from rfl, nI_rem (by omega) (by decide)]
  rfl
theorem dN_lt (k : Nat) : dN k < 7 := Nat.mod_lt _ (by decide)
theorem dN_bd (k : Nat) : -9 ≤ nI (dN k) - 3 ∧ nI (dN k) - 3 ≤ 9 := by
  have h := dN_lt k
  generalize dN k = x at h
  revert h x
  decide
theorem dN_bd3 (k : Nat) : -3 ≤ nI (dN k) - 3 ∧ nI (dN k) - 3 ≤ 3 := by
  have h := dN_lt k
  generalize dN k = x at h
  revert h x
  decide
def kN (s : Nat) : Nat → Nat
  | 0 => s
  | j + 1 => sN (sN (sN (sN (kN s j))))
theorem kN_lt {s : Nat} (h : s < 2 ^ 31) : ∀ j, kN s j < 2 ^ 31
  | 0 => h
  | j + 1 => sN_lt _
theorem drZ_k {s : Nat} (h : s < 2 ^ 31) : ∀ j, (drZ (nI s) j).1 = nI (kN s j)
  | 0 => rfl
  | j + 1 => by
    show nxS (nxS (nxS (nxS (drZ (nI s) j).1))) = _
    rw [drZ_k h j, nxS_n (kN_lt h j), nxS_n (sN_lt _), nxS_n (sN_lt _), nxS_n (sN_lt _)]
    rfl
set_option maxRecDepth 100000 in
theorem dg_ord0 : ∀ a, a < 19 → ∀ b, b < 19 → dgM (nI a - 9) (nI b - 9) = ordV (nI a - 9) (nI b - 9) := by decide +kernel
theorem dg_ord {c d : Int32} (hc : -9 ≤ c ∧ c ≤ 9) (hd : -9 ≤ d ∧ d ≤ 9) : dgM c d = ordV c d := by
  have hc0 : 0 ≤ c + 9 := by grind
  have hd0 : 0 ≤ d + 9 := by grind
  have e1 : c = nI (c + 9).toNatClampNeg - 9 := by rw [← tNC hc0]; grind
  have e2 : d = nI (d + 9).toNatClampNeg - 9 := by rw [← tNC hd0]; grind
  rw [e1, e2]
  exact dg_ord0 _ (tNC_lt (n := 19) hc0 (by show c + 9 < 19; grind) (by decide)) _ (tNC_lt (n := 19) hd0 (by show d + 9 < 19; grind) (by decide))
theorem ordV_pos (c d : Int32) : 0 < ordV c d ↔ ¬ ordV c d = 0 := by unfold ordV; grind
theorem drZ_s {s : Nat} (h : s < 2 ^ 31) (j : Nat) : drZ (nI s) (j + 1) = (nI (kN s (j + 1)), (drZ (nI s) j).2.1 + nI (lpA (ct 5 (nI (dN (sN (kN s j))) - 3) (nI (dN (sN (sN (kN s j)))) - 3) (nI (dN (sN (sN (sN (kN s j))))) - 3) (nI (dN (sN (sN (sN (sN (kN s j)))))) - 3)) 120), (drZ (nI s) j).2.2 + (if 0 < dgM (nI (dN (sN (kN s j))) - 3) (nI (dN (sN (sN (kN s j)))) - 3) then 1 else 0)) := by
  have e1 := nxS_n (kN_lt h j)
  have e2 := nxS_n (sN_lt (kN s j))
  have e3 := nxS_n (sN_lt (sN (kN s j)))
  have e4 := nxS_n (sN_lt (sN (sN (kN s j))))
  show (nxS (nxS (nxS (nxS (drZ (nI s) j).1))), _, _) = _
  rw [drZ_k h j, e1, e2, e3, e4, nmD_n (sN_lt _), nmD_n (sN_lt _), nmD_n (sN_lt _), nmD_n (sN_lt _), dg_ord (dN_bd _) (dN_bd _)]
  refine Prod.ext rfl (Prod.ext rfl ?_)
  show (if _ then _ else _) = _
  by_cases z : ordV (nI (dN (sN (kN s j))) - 3) (nI (dN (sN (sN (kN s j)))) - 3) = 0
  · rw [if_pos z, if_neg (fun y => (ordV_pos _ _).mp y z), Int32.add_zero]
  · rw [if_neg z, if_pos ((ordV_pos _ _).mpr z)]
section
variable {l : Launch} {σ : Nat → Nat → Int32} {t : Nat → Int64} {n : Nat}
set_option maxRecDepth 100000 in
set_option maxHeartbeats 4000000 in
theorem CX11_drawOf {k : Nat} (hk : k < 2 ^ 31) (ht : t 25 = nL k) : Ct l mX11_drawOf [.ref 0, .int 7] (mW σ t) (q_eq (some (.int (nI (dN (sN k))))) (mW σ (vp_updL t 25 (nL (sN k))))) := by
  refine Ct.of rfl (Nat.le_of_ble_eq_true rfl) ?_
  refine g_aload_n dX11_drawOf_0 rfl rfl ?_
  refine g_ldc2 dX11_drawOf_1 tb_1351 ?_
  refine g_aload_n dX11_drawOf_4 rfl rfl ?_
  refine g_getf dX11_drawOf_5 fX11_339 mW_0 rfl ?_
  rw [ht]
  refine g_lmul dX11_drawOf_8 ?_
  rw [show (1103515245 : Int64) * nL k = nL (1103515245 * k) from nL_mul _ _]
  refine g_ldc2 dX11_drawOf_9 tb_1352 ?_
  refine g_ladd dX11_drawOf_12 ?_
  rw [show nL (1103515245 * k) + 12345 = nL (1103515245 * k + 12345) from nL_add _ _]
  refine g_ldc2 dX11_drawOf_13 tb_1353 ?_
  refine g_lrem dX11_drawOf_16 (by decide) ?_
  rw [show (2147483648 : Int64) = nL 2147483648 from rfl, nL_rem (by omega) (by decide)]
  refine g_putf dX11_drawOf_17 pX11_339 mW_0 (Nat.le_of_ble_eq_true rfl) (fun _ => rfl) (fun _ => rfl) (mW_lng rfl) ?_
  refine g_aload_n dX11_drawOf_20 rfl rfl ?_
  refine g_getf dX11_drawOf_21 fX11_339 mW_0 rfl ?_
  rw [show vp_updL t 25 (nL ((1103515245 * k + 12345) % 2147483648)) 25 = nL (sN k) from rfl]
  refine g_ldc2 dX11_drawOf_24 tb_1354 ?_
  refine g_ldiv dX11_drawOf_27 (by decide) ?_
  rw [show (65536 : Int64) = nL 65536 from rfl, nL_div (by have := sN_lt k; omega) (by decide)]
  refine g_iload_n dX11_drawOf_28 rfl rfl ?_
  refine g_i2l dX11_drawOf_29 ?_
  refine g_lrem dX11_drawOf_30 (by decide) ?_
  rw [show (7 : Int32).toInt64 = nL 7 from rfl, nL_rem (by have := sN_lt k; omega) (by decide)]
  refine g_l2i dX11_drawOf_31 ?_
  rw [nL_32]
  exact g_iret dX11_drawOf_32 rfl rfl ⟨rfl, rfl⟩
def s4 (k : Nat) : Nat → Nat
  | 0 => k
  | i + 1 => sN (s4 k i)
theorem s4_lt {k : Nat} (h : k < 2 ^ 31) : ∀ i, s4 k i < 2 ^ 31
  | 0 => h
  | i + 1 => sN_lt _
set_option maxRecDepth 100000 in
set_option maxHeartbeats 4000000 in
theorem CX11_drI {n0 k N s j : Nat} {x A B : Int32} (hk : k < 2 ^ 31) (hX : ∀ (τ : Nat → Nat → Int32) (t : Nat → Int64) (x7 : Option Value), mDr σ τ → t 25 = nL (s4 k 4) → (∀ i, i < 4 → τ 2 (32 + i) = nI (dN (s4 k (i + 1))) - 3) → Go l mX11_drawnNow n0 (fun r w' => ∃ σ' t', w' = mW σ' t' ∧ mDr σ σ' ∧ r = some (.int (if x = 0 then (drZ (nI s) N).2.1 else if x = 1 then (drZ (nI s) N).2.2 else (drZ (nI s) N).1))) (0, 0) 54 [some (.ref 0), some (.int (nI N)), some (.int (nI s)), some (.int x), some (.int A), some (.int B), some (.int (nI j)), x7] [] (mW τ t)) : ∀ (d i : Nat) (τ : Nat → Nat → Int32) (t : Nat → Int64), i + d = 4 → mDr σ τ → t 25 = nL (s4 k i) → (∀ y, y < i → τ 2 (32 + y) = nI (dN (s4 k (y + 1))) - 3) → Go l mX11_drawnNow n0 (fun r w' => ∃ σ' t', w' = mW σ' t' ∧ mDr σ σ' ∧ r = some (.int (if x = 0 then (drZ (nI s) N).2.1 else if x = 1 then (drZ (nI s) N).2.2 else (drZ (nI s) N).1))) (0, 0) 24 [some (.ref 0), some (.int (nI N)), some (.int (nI s)), some (.int x), some (.int A), some (.int B), some (.int (nI j)), some (.int (nI i))] [] (mW τ t) := by
  intro d
  induction d with
  | zero =>
    intro i τ t hi hD ht hP
    have e1 : 4 = i := by omega
    subst e1
    refine g_iload dX11_drawnNow_24 rfl ?_
    refine g_iconst (v := 4) dX11_drawnNow_26 (by decide) ?_
    refine g_icmp_ge (tgt := 54) dX11_drawnNow_27 rfl (fun c_27 => ?_) (fun c_27 => by exfalso; revert c_27; decide)
    exact Go.eq rfl rfl rfl rfl (hX τ t _ hD ht (fun y hy => hP y hy))
  | succ d ih =>
    intro i τ t hi hD ht hP
    refine g_iload dX11_drawnNow_24 rfl ?_
    refine g_iconst (v := 4) dX11_drawnNow_26 (by decide) ?_
    refine g_icmp_ge (tgt := 54) dX11_drawnNow_27 rfl (fun c_27 => by exact absurd c_27 (nI_ge (b := 4) (by omega) (by omega))) (fun c_27 => ?_)
    refine g_aload_n dX11_drawnNow_30 rfl rfl ?_
    refine g_getf dX11_drawnNow_31 fX11_13 mW_0 rfl ?_
    refine g_bipush (v := 32) dX11_drawnNow_34 (by decide) ?_
    refine g_iload dX11_drawnNow_36 rfl ?_
    refine g_iadd dX11_drawnNow_38 ?_
    rw [show (32 : Int32) + nI i = nI (32 + i) from nI_add 32 i]
    refine g_aload_n dX11_drawnNow_39 rfl rfl ?_
    refine g_bipush (v := 7) dX11_drawnNow_40 (by decide) ?_
    refine g_V1r (CX11_drawOf (s4_lt hk i) ht) kX11_drawnNow_349 dX11_drawnNow_42 mW_0 rfl ⟨rfl, rfl⟩ (Nat.le_of_ble_eq_true rfl) ⟨(Nat.le_of_ble_eq_true rfl), (Nat.le_of_ble_eq_true rfl)⟩ ?_
    refine g_iconst (v := 3) dX11_drawnNow_45 (by decide) ?_
    refine g_isub dX11_drawnNow_46 ?_
    refine g_iast dX11_drawnNow_47 mA2 (vin_n (by omega) (by decide)) (mW_arrN (k' := 32 + i) (fun _ => rfl) (nI_clamp (by omega))) ?_
    refine g_iinc (v := 1) dX11_drawnNow_48 (by decide) rfl (Nat.le_of_ble_eq_true rfl) rfl ?_
    refine g_goto (tgt := 24) dX11_drawnNow_51 rfl ?_
    exact Go.eq rfl (show _ = _ by rw [← nI_1 i]; rfl) rfl rfl (ih (i + 1) _ _ (by omega) (hD.tr ⟨fun c a _ _ _ _ => put_ne a, fun y hy => by rw [put_ix, if_neg (by omega)], fun y _ => ⟨by rw [put_ne (by decide)], by rw [put_ne (by decide)]⟩, fun y _ => by rw [put_ne (by decide)]⟩) rfl (fun y hy => by
      rw [put_ix]
      by_cases e : y = i
      · rw [if_pos (by rw [e]), e]; rfl
      · rw [if_neg (by omega)]; exact hP y (by omega)))
set_option maxRecDepth 100000 in
set_option maxHeartbeats 4000000 in
theorem CX11_drM {n0 N s j : Nat} {x : Int32} (hs : s < 2 ^ 31) (hN : ∀ (τ : Nat → Nat → Int32) (t : Nat → Int64) (x7 : Option Value), mDr σ τ → t 25 = nL (kN s (j + 1)) → Go l mX11_drawnNow n0 (fun r w' => ∃ σ' t', w' = mW σ' t' ∧ mDr σ σ' ∧ r = some (.int (if x = 0 then (drZ (nI s) N).2.1 else if x = 1 then (drZ (nI s) N).2.2 else (drZ (nI s) N).1))) (0, 0) 15 [some (.ref 0), some (.int (nI N)), some (.int (nI s)), some (.int x), some (.int (drZ (nI s) (j + 1)).2.1), some (.int (drZ (nI s) (j + 1)).2.2), some (.int (nI (j + 1))), x7] [] (mW τ t)) (τ : Nat → Nat → Int32) (t : Nat → Int64) (x7 : Option Value) (hD : mDr σ τ) (ht : t 25 = nL (s4 (kN s j) 4)) (hP : ∀ i, i < 4 → τ 2 (32 + i) = nI (dN (s4 (kN s j) (i + 1))) - 3) : Go l mX11_drawnNow n0 (fun r w' => ∃ σ' t', w' = mW σ' t' ∧ mDr σ σ' ∧ r = some (.int (if x = 0 then (drZ (nI s) N).2.1 else if x = 1 then (drZ (nI s) N).2.2 else (drZ (nI s) N).1))) (0, 0) 54 [some (.ref 0), some (.int (nI N)), some (.int (nI s)), some (.int x), some (.int (drZ (nI s) j).2.1), some (.int (drZ (nI s) j).2.2), some (.int (nI j)), x7] [] (mW τ t) := by
  have q0 : τ 2 32 = nI (dN (sN (kN s j))) - 3 := hP 0 (by decide)
  have q1 : τ 2 (32 + 1) = nI (dN (sN (sN (kN s j)))) - 3 := hP 1 (by decide)
  have q2 : τ 2 (32 + 2) = nI (dN (sN (sN (sN (kN s j))))) - 3 := hP 2 (by decide)
  have q3 : τ 2 (32 + 3) = nI (dN (sN (sN (sN (sN (kN s j)))))) - 3 := hP 3 (by decide)
  refine g_aload_n dX11_drawnNow_54 rfl rfl ?_
  refine g_bipush (v := 8) dX11_drawnNow_55 (by decide) ?_
  refine g_iconst (v := 5) dX11_drawnNow_57 (by decide) ?_
  refine g_V2p (CX11_layToldZ (T := 3) (q := 8) (by decide) (by decide) ⟨by rw [q0]; exact (dN_bd _).1, by rw [q0]; exact (dN_bd _).2⟩ ⟨by rw [q1]; exact (dN_bd _).1, by rw [q1]; exact (dN_bd _).2⟩) kX11_drawnNow_169 dX11_drawnNow_58 mW_0 rfl ⟨rfl, rfl⟩ (Nat.le_of_ble_eq_true rfl) ⟨(Nat.le_of_ble_eq_true rfl), (Nat.le_of_ble_eq_true rfl)⟩ ?_
  rintro rv w1 ⟨rfl, τ1, ld, tn, rfl, HZ, g1, g2, g3⟩
  rw [show (nI (2 + 3) : Int32) = 5 from rfl, show 4 * 8 = 32 from rfl, q0, q1, q2, q3] at HZ
  have eD : mDr σ τ1 := hD.tr ⟨fun c a b d e f => g1 c b d e f, fun y hy => by rw [g1 2 (by decide) (by decide) (by decide) (by decide)], fun y hy => g2 y (by omega), fun y hy => g3 y (by omega)⟩
  have e2 : τ1 2 = τ 2 := g1 2 (by decide) (by decide) (by decide) (by decide)
  refine g_iload dX11_drawnNow_61 rfl ?_
  refine g_aload_n dX11_drawnNow_63 rfl rfl ?_
  refine g_bipush (v := 8) dX11_drawnNow_64 (by decide) ?_
  refine g_V1r (CX11_lapOf HZ.1 (mRZ_v HZ) HZ.2.2.2) kX11_drawnNow_187 dX11_drawnNow_66 mW_0 rfl ⟨rfl, rfl⟩ (Nat.le_of_ble_eq_true rfl) ⟨(Nat.le_of_ble_eq_true rfl), (Nat.le_of_ble_eq_true rfl)⟩ ?_
  rw [← lpA_eq HZ.1.2.2.2.1 HZ.1.2.2.2.2.1 HZ.2.1 (show 1 ≤ rnd 3 by decide) HZ.2.2.2]
  refine g_iadd dX11_drawnNow_69 ?_
  refine g_istore dX11_drawnNow_70 (Nat.le_of_ble_eq_true rfl) rfl ?_
  refine g_iload dX11_drawnNow_72 rfl ?_
  refine g_aload_n dX11_drawnNow_74 rfl rfl ?_
  refine g_getf dX11_drawnNow_75 fX11_13 mW_0 rfl ?_
  refine g_bipush (v := 32) dX11_drawnNow_78 (by decide) ?_
  refine g_iald dX11_drawnNow_80 mA2 (vin_n (i := 32) (by decide) (by decide)) ?_
  rw [show (32 : Int32).toNatClampNeg = 32 from rfl, e2, q0]
  refine g_aload_n dX11_drawnNow_81 rfl rfl ?_
  refine g_getf dX11_drawnNow_82 fX11_13 mW_0 rfl ?_
  refine g_bipush (v := 33) dX11_drawnNow_85 (by decide) ?_
  refine g_iald dX11_drawnNow_87 mA2 (vin_n (i := 33) (by decide) (by decide)) ?_
  rw [show (33 : Int32).toNatClampNeg = 33 from rfl, e2, q1]
  refine g_S2r CX11_degenerate kX11_drawnNow_272 dX11_drawnNow_88 ⟨rfl, rfl⟩ (Nat.le_of_ble_eq_true rfl) ⟨(Nat.le_of_ble_eq_true rfl), (Nat.le_of_ble_eq_true rfl)⟩ ?_
  refine g_if_le (tgt := 98) dX11_drawnNow_91 rfl (fun c_91 => ?_) (fun c_91 => ?_)
  · refine g_iconst (v := 0) dX11_drawnNow_98 (by decide) ?_
    refine g_iadd dX11_drawnNow_99 ?_
    refine g_istore dX11_drawnNow_100 (Nat.le_of_ble_eq_true rfl) rfl ?_
    refine g_iinc (v := 1) dX11_drawnNow_102 (by decide) rfl (Nat.le_of_ble_eq_true rfl) rfl ?_
    refine g_goto (tgt := 15) dX11_drawnNow_105 rfl ?_
    exact Go.eq rfl (show _ = _ by rw [drZ_s hs j, if_neg (Int32.not_lt.mpr c_91), ← nI_1 j]; rfl) rfl rfl (hN τ1 t _ eD ht)
  · refine g_iconst (v := 1) dX11_drawnNow_94 (by decide) ?_
    refine g_goto (tgt := 99) dX11_drawnNow_95 rfl ?_
    refine g_iadd dX11_drawnNow_99 ?_
    refine g_istore dX11_drawnNow_100 (Nat.le_of_ble_eq_true rfl) rfl ?_
    refine g_iinc (v := 1) dX11_drawnNow_102 (by decide) rfl (Nat.le_of_ble_eq_true rfl) rfl ?_
    refine g_goto (tgt := 15) dX11_drawnNow_105 rfl ?_
    exact Go.eq rfl (show _ = _ by rw [drZ_s hs j, if_pos (Int32.not_le.mp c_91), ← nI_1 j]; rfl) rfl rfl (hN τ1 t _ eD ht)
set_option maxRecDepth 100000 in
set_option maxHeartbeats 4000000 in
theorem CX11_drL {n0 N s : Nat} {x : Int32} (hs : s < 2 ^ 31) (hN : N ≤ 30) : ∀ (d j : Nat) (τ : Nat → Nat → Int32) (t : Nat → Int64) (x7 : Option Value), j + d = N → mDr σ τ → t 25 = nL (kN s j) → Go l mX11_drawnNow n0 (fun r w' => ∃ σ' t', w' = mW σ' t' ∧ mDr σ σ' ∧ r = some (.int (if x = 0 then (drZ (nI s) N).2.1 else if x = 1 then (drZ (nI s) N).2.2 else (drZ (nI s) N).1))) (0, 0) 15 [some (.ref 0), some (.int (nI N)), some (.int (nI s)), some (.int x), some (.int (drZ (nI s) j).2.1), some (.int (drZ (nI s) j).2.2), some (.int (nI j)), x7] [] (mW τ t) := by
  intro d
  induction d with
  | zero =>
    intro j τ t x7 hj hD ht
    have e1 : N = j := by omega
    subst e1
    refine g_iload dX11_drawnNow_15 rfl ?_
    refine g_iload_n dX11_drawnNow_17 rfl rfl ?_
    refine g_icmp_ge (tgt := 108) dX11_drawnNow_18 rfl (fun c_18 => ?_) (fun c_18 => by exact absurd (nI_le (by omega) (by omega)) c_18)
    refine g_iload_n dX11_drawnNow_108 rfl rfl ?_
    refine g_if_ne (tgt := 117) dX11_drawnNow_109 rfl (fun c_109 => ?_) (fun c_109 => ?_)
    · refine g_iload_n dX11_drawnNow_117 rfl rfl ?_
      refine g_iconst (v := 1) dX11_drawnNow_118 (by decide) ?_
      refine g_icmp_ne (tgt := 127) dX11_drawnNow_119 rfl (fun c_119 => ?_) (fun c_119 => ?_)
      · refine g_aload_n dX11_drawnNow_127 rfl rfl ?_
        refine g_getf dX11_drawnNow_128 fX11_339 mW_0 rfl ?_
        rw [ht]
        refine g_l2i dX11_drawnNow_131 ?_
        rw [nL_32, ← drZ_k hs]
        exact g_iret dX11_drawnNow_132 rfl rfl ⟨τ, t, rfl, hD, by first | rw [if_pos c_109] | rw [if_neg c_109, if_pos c_119] | rw [if_neg c_109, if_neg c_119]⟩
      · refine g_iload dX11_drawnNow_122 rfl ?_
        refine g_goto (tgt := 132) dX11_drawnNow_124 rfl ?_
        exact g_iret dX11_drawnNow_132 rfl rfl ⟨τ, t, rfl, hD, by first | rw [if_pos c_109] | rw [if_neg c_109, if_pos c_119] | rw [if_neg c_109, if_neg c_119]⟩
    · refine g_iload dX11_drawnNow_112 rfl ?_
      refine g_goto (tgt := 132) dX11_drawnNow_114 rfl ?_
      exact g_iret dX11_drawnNow_132 rfl rfl ⟨τ, t, rfl, hD, by first | rw [if_pos c_109] | rw [if_neg c_109, if_pos c_119] | rw [if_neg c_109, if_neg c_119]⟩
  | succ d ih =>
    intro j τ t x7 hj hD ht
    refine g_iload dX11_drawnNow_15 rfl ?_
    refine g_iload_n dX11_drawnNow_17 rfl rfl ?_
    refine g_icmp_ge (tgt := 108) dX11_drawnNow_18 rfl (fun c_18 => by exact absurd c_18 (nI_ge (by omega) (by omega))) (fun c_18 => ?_)
    refine g_iconst (v := 0) dX11_drawnNow_21 (by decide) ?_
    refine g_istore dX11_drawnNow_22 (Nat.le_of_ble_eq_true rfl) rfl ?_
    exact Go.eq rfl rfl rfl rfl (CX11_drI (kN_lt hs j) (fun τ1 t1 y d1 q1 p1 => CX11_drM hs (fun τ2 t2 y2 d2 q2 => ih (j + 1) τ2 t2 y2 (by omega) d2 q2) τ1 t1 y d1 q1 p1) 4 0 τ t (by omega) hD ht (fun y hy => absurd hy (by omega)))
set_option maxRecDepth 100000 in
set_option maxHeartbeats 4000000 in
theorem CX11_drawnNow {N s : Nat} {x : Int32} (hs : s < 2 ^ 31) (hN : N ≤ 30) : Ct l mX11_drawnNow [.ref 0, .int (nI N), .int (nI s), .int x] (mW σ t) (fun r w' => ∃ σ' t', w' = mW σ' t' ∧ mDr σ σ' ∧ r = some (.int (if x = 0 then (drZ (nI s) N).2.1 else if x = 1 then (drZ (nI s) N).2.2 else (drZ (nI s) N).1))) := by
  refine Ct.of rfl (Nat.le_of_ble_eq_true rfl) ?_
  refine g_aload_n dX11_drawnNow_0 rfl rfl ?_
  refine g_iload_n dX11_drawnNow_1 rfl rfl ?_
  refine g_i2l dX11_drawnNow_2 ?_
  rw [nI_64 hs]
  refine g_putf dX11_drawnNow_3 pX11_339 mW_0 (Nat.le_of_ble_eq_true rfl) (fun _ => rfl) (fun _ => rfl) (mW_lng rfl) ?_
  refine g_iconst (v := 0) dX11_drawnNow_6 (by decide) ?_
  refine g_istore dX11_drawnNow_7 (Nat.le_of_ble_eq_true rfl) rfl ?_
  refine g_iconst (v := 0) dX11_drawnNow_9 (by decide) ?_
  refine g_istore dX11_drawnNow_10 (Nat.le_of_ble_eq_true rfl) rfl ?_
  refine g_iconst (v := 0) dX11_drawnNow_12 (by decide) ?_
  refine g_istore dX11_drawnNow_13 (Nat.le_of_ble_eq_true rfl) rfl ?_
  exact Go.eq rfl rfl rfl rfl (CX11_drL hs hN N 0 σ (vp_updL t 25 (nL s)) none (by omega) mDr.rf rfl)
set_option maxRecDepth 100000 in
set_option maxHeartbeats 4000000 in
theorem CX11_drawn_out {tm seed x : Int32} (ho : ¬ ((1 ≤ tm ∧ tm ≤ 30) ∧ 0 ≤ seed ∧ 0 ≤ x ∧ x ≤ 2)) : Ct l mX11_drawn [.ref 0, .int tm, .int seed, .int x] (mW σ t) (q_eq (some (.int 2000000102)) (mW σ t)) := by
  refine Ct.of rfl (Nat.le_of_ble_eq_true rfl) ?_
  refine g_iload_n dX11_drawn_0 rfl rfl ?_
  refine g_iconst (v := 1) dX11_drawn_1 (by decide) ?_
  refine g_bipush (v := 30) dX11_drawn_2 (by decide) ?_
  refine g_S3r CX11_within kX11_drawn_68 dX11_drawn_4 ⟨rfl, rfl⟩ (Nat.le_of_ble_eq_true rfl) ⟨(Nat.le_of_ble_eq_true rfl), (Nat.le_of_ble_eq_true rfl)⟩ ?_
  refine g_if_eq (tgt := 33) dX11_drawn_7 rfl (fun c_7 => ?_) (fun c_7 => ?_)
  · refine g_ldc dX11_drawn_33 tb_964 ?_
    exact g_iret dX11_drawn_35 rfl rfl ⟨rfl, rfl⟩
  · refine g_iload_n dX11_drawn_10 rfl rfl ?_
    refine g_if_lt (tgt := 33) dX11_drawn_11 rfl (fun c_11 => ?_) (fun c_11 => ?_)
    · refine g_ldc dX11_drawn_33 tb_964 ?_
      exact g_iret dX11_drawn_35 rfl rfl ⟨rfl, rfl⟩
    · refine g_iload_n dX11_drawn_14 rfl rfl ?_
      refine g_iconst (v := 0) dX11_drawn_15 (by decide) ?_
      refine g_iconst (v := 2) dX11_drawn_16 (by decide) ?_
      refine g_S3r CX11_within kX11_drawn_68 dX11_drawn_17 ⟨rfl, rfl⟩ (Nat.le_of_ble_eq_true rfl) ⟨(Nat.le_of_ble_eq_true rfl), (Nat.le_of_ble_eq_true rfl)⟩ ?_
      refine g_if_eq (tgt := 33) dX11_drawn_20 rfl (fun c_20 => ?_) (fun c_20 => by exact absurd ⟨Classical.byContradiction (fun z => c_7 (bI_f z)), Int32.not_lt.mp c_11, Classical.byContradiction (fun z => c_20 (bI_f z))⟩ ho)
      refine g_ldc dX11_drawn_33 tb_964 ?_
      exact g_iret dX11_drawn_35 rfl rfl ⟨rfl, rfl⟩
set_option maxRecDepth 100000 in
set_option maxHeartbeats 4000000 in
theorem CX11_drawn {N s : Nat} {x : Int32} (hs : s < 2 ^ 31) (hN1 : 1 ≤ N) (hN2 : N ≤ 30) (hx : 0 ≤ x ∧ x ≤ 2) : Ct l mX11_drawn [.ref 0, .int (nI N), .int (nI s), .int x] (mW σ t) (fun r w' => ∃ σ' t', w' = mW σ' t' ∧ mDr σ σ' ∧ r = some (.int (if x = 0 then (drZ (nI s) N).2.1 else if x = 1 then (drZ (nI s) N).2.2 else (drZ (nI s) N).1))) := by
  refine Ct.of rfl (Nat.le_of_ble_eq_true rfl) ?_
  refine g_iload_n dX11_drawn_0 rfl rfl ?_
  refine g_iconst (v := 1) dX11_drawn_1 (by decide) ?_
  refine g_bipush (v := 30) dX11_drawn_2 (by decide) ?_
  refine g_S3r CX11_within kX11_drawn_68 dX11_drawn_4 ⟨rfl, rfl⟩ (Nat.le_of_ble_eq_true rfl) ⟨(Nat.le_of_ble_eq_true rfl), (Nat.le_of_ble_eq_true rfl)⟩ ?_
  refine g_if_eq (tgt := 33) dX11_drawn_7 rfl (fun c_7 => by exact absurd ⟨nI_le (a := 1) hN1 (by omega), nI_le (b := 30) hN2 (by decide)⟩ (bI_0.mp c_7)) (fun c_7 => ?_)
  refine g_iload_n dX11_drawn_10 rfl rfl ?_
  refine g_if_lt (tgt := 33) dX11_drawn_11 rfl (fun c_11 => by exact absurd c_11 (nI_pos (by omega))) (fun c_11 => ?_)
  refine g_iload_n dX11_drawn_14 rfl rfl ?_
  refine g_iconst (v := 0) dX11_drawn_15 (by decide) ?_
  refine g_iconst (v := 2) dX11_drawn_16 (by decide) ?_
  refine g_S3r CX11_within kX11_drawn_68 dX11_drawn_17 ⟨rfl, rfl⟩ (Nat.le_of_ble_eq_true rfl) ⟨(Nat.le_of_ble_eq_true rfl), (Nat.le_of_ble_eq_true rfl)⟩ ?_
  refine g_if_eq (tgt := 33) dX11_drawn_20 rfl (fun c_20 => by exact absurd hx (bI_0.mp c_20)) (fun c_20 => ?_)
  refine g_aload_n dX11_drawn_23 rfl rfl ?_
  refine g_iload_n dX11_drawn_24 rfl rfl ?_
  refine g_iload_n dX11_drawn_25 rfl rfl ?_
  refine g_iload_n dX11_drawn_26 rfl rfl ?_
  refine g_V3p (CX11_drawnNow hs hN2) kX11_drawn_352 dX11_drawn_27 mW_0 rfl ⟨rfl, rfl⟩ (Nat.le_of_ble_eq_true rfl) ⟨(Nat.le_of_ble_eq_true rfl), (Nat.le_of_ble_eq_true rfl)⟩ ?_
  rintro rv w1 ⟨τ, t1, rfl, hD, rfl⟩
  refine g_goto (tgt := 35) dX11_drawn_30 rfl ?_
  exact g_iret dX11_drawn_35 rfl rfl ⟨τ, t1, rfl, hD, rfl⟩
end
