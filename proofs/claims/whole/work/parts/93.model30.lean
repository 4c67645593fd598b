/-- the equations' lines as they are laid -/
def eL (a : Nat → Nat) (s i k : Nat) : Nat := if k < s then a (s + i - 1 - k) else if k = s then a (s + i) else 0
def eT (a : Nat → Nat) (s j k : Nat) : Nat → Nat → Nat := fun i c => if i < j ∨ (i = j ∧ c < k) then eL a s i c else 0
theorem eT_st {τ : Nat → Nat → Int32} {a : Nat → Nat} {s j k : Nat} (hj : j < 16) (hk : k < 17) (h : tbl τ (eT a s j k)) : tbl (put τ 12 (17 * j + k) (nI (eL a s j k))) (eT a s j (k + 1)) := by
  refine tbl_put h hj hk ?_ ?_
  · unfold eT; congr 1; rw [if_pos (Or.inr ⟨rfl, by omega⟩)]
  · intro i c _ _ hn; unfold eT
    by_cases e : i < j ∨ i = j ∧ c < k
    · rw [if_pos e, if_pos (by omega)]
    · rw [if_neg e, if_neg (by omega)]
theorem eT_nx {τ : Nat → Nat → Int32} {a : Nat → Nat} {s j : Nat} (h : tbl τ (eT a s j (s + 1))) : tbl τ (eT a s (j + 1) 0) := tbl_17 h (fun i c hc => by
  unfold eT
  by_cases e : i < j ∨ i = j ∧ c < s + 1
  · rw [if_pos e, if_pos (by omega)]
  · rw [if_neg e]
    by_cases e2 : i < j + 1 ∨ i = j + 1 ∧ c < 0
    · rw [if_pos e2]
      unfold eL
      rw [if_neg (by omega), if_neg (by omega)]
    · rw [if_neg e2])
section
variable {l : Launch} {σ : Nat → Nat → Int32} {t : Nat → Int64} {q ld tn : Nat} {A : Nat → Int32} {a : Nat → Nat}
theorem mRq_G {τ : Nat → Nat → Int32} (h : mG σ τ) (HQ : mRq σ q ld tn) : mRq τ q ld tn := by
  unfold mRq
  rw [h 8 (by decide), h 9 (by decide)]
  exact HQ
theorem rsV_G {τ : Nat → Nat → Int32} (h : mG σ τ) : rsV τ q ld tn = rsV σ q ld tn := by
  funext k
  unfold rsV
  rw [h 10 (by decide)]
set_option maxRecDepth 100000 in
set_option maxHeartbeats 4000000 in
theorem CX11_lbI {n0 s j : Nat} (hs : s ≤ 16) (HQ : mRq σ q ld tn) (hv : rsV σ q ld tn = A) (hA : ∀ k, A k = nI (a k)) (hj : j < 16 - s) (hX : ∀ (τ : Nat → Nat → Int32) (x4 : Option Value), mG σ τ → tbl τ (eT a s (j + 1) 0) → Go l mX11_layTable n0 (fun r w' => r = none ∧ ∃ τ', w' = mW τ' t ∧ mG σ τ' ∧ tbl τ' (eT a s (16 - s) 0)) (0, 0) 2 [some (.ref 0), some (.int (nI q)), some (.int (nI s)), some (.int (nI (j + 1))), x4] [] (mW τ t)) : ∀ (d k : Nat) (τ : Nat → Nat → Int32), k + d = s → mG σ τ → tbl τ (eT a s j k) → Go l mX11_layTable n0 (fun r w' => r = none ∧ ∃ τ', w' = mW τ' t ∧ mG σ τ' ∧ tbl τ' (eT a s (16 - s) 0)) (0, 0) 13 [some (.ref 0), some (.int (nI q)), some (.int (nI s)), some (.int (nI j)), some (.int (nI k))] [] (mW τ t) := by
  intro d
  induction d with
  | zero =>
    intro k τ hk hG hT
    have e1 : s = k := by omega
    subst e1
    refine g_iload dX11_layTable_13 rfl ?_
    refine g_iload_n dX11_layTable_15 rfl rfl ?_
    refine g_icmp_ge (tgt := 51) dX11_layTable_16 rfl (fun c_16 => ?_) (fun c_16 => by exact absurd (nI_le (by omega) (by omega)) c_16)
    refine g_aload_n dX11_layTable_51 rfl rfl ?_
    refine g_getf dX11_layTable_52 fX11_44 mW_0 rfl ?_
    refine g_bipush (v := 17) dX11_layTable_55 (by decide) ?_
    refine g_iload_n dX11_layTable_57 rfl rfl ?_
    refine g_imul dX11_layTable_58 ?_
    rw [n17 j]
    refine g_iload_n dX11_layTable_59 rfl rfl ?_
    refine g_iadd dX11_layTable_60 ?_
    rw [nI_add]
    refine g_aload_n dX11_layTable_61 rfl rfl ?_
    refine g_iload_n dX11_layTable_62 rfl rfl ?_
    refine g_iload_n dX11_layTable_63 rfl rfl ?_
    refine g_iload_n dX11_layTable_64 rfl rfl ?_
    refine g_iadd dX11_layTable_65 ?_
    rw [nI_add]
    refine g_i2l dX11_layTable_66 ?_
    rw [nI_64 (k := s + j) (by omega)]
    refine g_V2r (CX11_restAt (mRq_G hG HQ) (by omega)) kX11_layTable_162 dX11_layTable_67 mW_0 rfl ⟨rfl, rfl⟩ (Nat.le_of_ble_eq_true rfl) ⟨(Nat.le_of_ble_eq_true rfl), (Nat.le_of_ble_eq_true rfl)⟩ ?_
    rw [rsV_G hG, hv, show A (s + j) = nI (eL a s j s) by rw [hA, eL, if_neg (by omega), if_pos rfl]]
    refine g_iast dX11_layTable_70 mA12 (vin_n (by omega) (by decide)) (mW_arrN (k' := 17 * j + s) (fun _ => rfl) (nI_clamp (by omega))) ?_
    refine g_iinc (v := 1) dX11_layTable_71 (by decide) rfl (Nat.le_of_ble_eq_true rfl) rfl ?_
    refine g_goto (tgt := 2) dX11_layTable_74 rfl ?_
    exact Go.eq rfl (show _ = _ by rw [← nI_1 j]; rfl) rfl rfl (hX _ _ hG.put (eT_nx (eT_st (by omega) (by omega) hT)))
  | succ d ih =>
    intro k τ hk hG hT
    refine g_iload dX11_layTable_13 rfl ?_
    refine g_iload_n dX11_layTable_15 rfl rfl ?_
    refine g_icmp_ge (tgt := 51) dX11_layTable_16 rfl (fun c_16 => by exact absurd c_16 (nI_ge (by omega) (by omega))) (fun c_16 => ?_)
    refine g_aload_n dX11_layTable_19 rfl rfl ?_
    refine g_getf dX11_layTable_20 fX11_44 mW_0 rfl ?_
    refine g_bipush (v := 17) dX11_layTable_23 (by decide) ?_
    refine g_iload_n dX11_layTable_25 rfl rfl ?_
    refine g_imul dX11_layTable_26 ?_
    rw [n17 j]
    refine g_iload dX11_layTable_27 rfl ?_
    refine g_iadd dX11_layTable_29 ?_
    rw [nI_add]
    refine g_aload_n dX11_layTable_30 rfl rfl ?_
    refine g_iload_n dX11_layTable_31 rfl rfl ?_
    refine g_iload_n dX11_layTable_32 rfl rfl ?_
    refine g_iload_n dX11_layTable_33 rfl rfl ?_
    refine g_iadd dX11_layTable_34 ?_
    rw [nI_add]
    refine g_iconst (v := 1) dX11_layTable_35 (by decide) ?_
    refine g_isub dX11_layTable_36 ?_
    rw [show nI (s + j) - 1 = nI (s + j - 1) from nI_sub (b := 1) (by omega)]
    refine g_iload dX11_layTable_37 rfl ?_
    refine g_isub dX11_layTable_39 ?_
    rw [nI_sub (by omega)]
    refine g_i2l dX11_layTable_40 ?_
    rw [nI_64 (k := s + j - 1 - k) (by omega)]
    refine g_V2r (CX11_restAt (mRq_G hG HQ) (by omega)) kX11_layTable_162 dX11_layTable_41 mW_0 rfl ⟨rfl, rfl⟩ (Nat.le_of_ble_eq_true rfl) ⟨(Nat.le_of_ble_eq_true rfl), (Nat.le_of_ble_eq_true rfl)⟩ ?_
    rw [rsV_G hG, hv, show A (s + j - 1 - k) = nI (eL a s j k) by rw [hA, eL, if_pos (by omega)]]
    refine g_iast dX11_layTable_44 mA12 (vin_n (by omega) (by decide)) (mW_arrN (k' := 17 * j + k) (fun _ => rfl) (nI_clamp (by omega))) ?_
    refine g_iinc (v := 1) dX11_layTable_45 (by decide) rfl (Nat.le_of_ble_eq_true rfl) rfl ?_
    refine g_goto (tgt := 13) dX11_layTable_48 rfl ?_
    exact Go.eq rfl (show _ = _ by rw [← nI_1 k]; rfl) rfl rfl (ih (k + 1) _ (by omega) hG.put (eT_st (by omega) (by omega) hT))
set_option maxRecDepth 100000 in
set_option maxHeartbeats 4000000 in
theorem CX11_lbL {n0 s : Nat} (hs : s ≤ 16) (HQ : mRq σ q ld tn) (hv : rsV σ q ld tn = A) (hA : ∀ k, A k = nI (a k)) : ∀ (d j : Nat) (τ : Nat → Nat → Int32) (x4 : Option Value), j + d = 16 - s → mG σ τ → tbl τ (eT a s j 0) → Go l mX11_layTable n0 (fun r w' => r = none ∧ ∃ τ', w' = mW τ' t ∧ mG σ τ' ∧ tbl τ' (eT a s (16 - s) 0)) (0, 0) 2 [some (.ref 0), some (.int (nI q)), some (.int (nI s)), some (.int (nI j)), x4] [] (mW τ t) := by
  intro d
  induction d with
  | zero =>
    intro j τ x4 hj hG hT
    refine g_iload_n dX11_layTable_2 rfl rfl ?_
    refine g_bipush (v := 16) dX11_layTable_3 (by decide) ?_
    refine g_iload_n dX11_layTable_5 rfl rfl ?_
    refine g_isub dX11_layTable_6 ?_
    rw [show (16 : Int32) - nI s = nI (16 - s) from nI_sub (a := 16) (by omega)]
    refine g_icmp_ge (tgt := 77) dX11_layTable_7 rfl (fun c_7 => ?_) (fun c_7 => by exact absurd (nI_le (by omega) (by omega)) c_7)
    exact g_vret dX11_layTable_77 rfl rfl ⟨rfl, τ, rfl, hG, by rw [show 16 - s = j by omega]; exact hT⟩
  | succ d ih =>
    intro j τ x4 hj hG hT
    refine g_iload_n dX11_layTable_2 rfl rfl ?_
    refine g_bipush (v := 16) dX11_layTable_3 (by decide) ?_
    refine g_iload_n dX11_layTable_5 rfl rfl ?_
    refine g_isub dX11_layTable_6 ?_
    rw [show (16 : Int32) - nI s = nI (16 - s) from nI_sub (a := 16) (by omega)]
    refine g_icmp_ge (tgt := 77) dX11_layTable_7 rfl (fun c_7 => by exact absurd c_7 (nI_ge (by omega) (by omega))) (fun c_7 => ?_)
    refine g_iconst (v := 0) dX11_layTable_10 (by decide) ?_
    refine g_istore dX11_layTable_11 (Nat.le_of_ble_eq_true rfl) rfl ?_
    exact Go.eq rfl rfl rfl rfl (CX11_lbI hs HQ hv hA (by omega) (fun τ2 y g2 t2 => ih (j + 1) τ2 y (by omega) g2 t2) s 0 τ (by omega) hG hT)
set_option maxRecDepth 100000 in
set_option maxHeartbeats 4000000 in
theorem CX11_layTable {s : Nat} (hs : s ≤ 16) (HQ : mRq σ q ld tn) (hv : rsV σ q ld tn = A) (hA : ∀ k, A k = nI (a k)) (h0 : ∀ i, i < 272 → σ 12 i = 0) : Ct l mX11_layTable [.ref 0, .int (nI q), .int (nI s)] (mW σ t) (fun r w' => r = none ∧ ∃ τ', w' = mW τ' t ∧ mG σ τ' ∧ tbl τ' (eT a s (16 - s) 0)) := by
  refine Ct.of rfl (Nat.le_of_ble_eq_true rfl) ?_
  refine g_iconst (v := 0) dX11_layTable_0 (by decide) ?_
  refine g_istore_n dX11_layTable_1 rfl (Nat.le_of_ble_eq_true rfl) rfl ?_
  exact Go.eq rfl rfl rfl rfl (CX11_lbL hs HQ hv hA (16 - s) 0 σ none (by omega) (fun _ _ => rfl) (fun i k hi hk => by rw [h0 _ (by omega), eT, if_neg (by omega)]; rfl))
end
