def mG2 (σ : Nat → Nat → Int32) (u v : Int32) : Nat → Nat → Int32 := put (put σ 0 23 u) 0 24 v
theorem mG2_uv {σ : Nat → Nat → Int32} {u v u1 v1 : Int32} : put (put (mG2 σ u v) 0 23 u1) 0 24 v1 = mG2 σ u1 v1 := by
  funext j i
  unfold mG2 put upd
  by_cases h : j = 0 <;> by_cases h2 : i = 23 <;> by_cases h3 : i = 24 <;> simp [h, h2, h3]
theorem mG2_id {σ : Nat → Nat → Int32} : mG2 σ (σ 0 23) (σ 0 24) = σ := by
  have e : put σ 0 23 (σ 0 23) = σ := put_id
  unfold mG2
  rw [e, put_id]
def gU (k : Nat) : Int32 := if k < 19 then nI k - 9 else (nI k - 19) / 19 - 9
def gV (k : Nat) : Int32 := if k < 19 then 0 else (nI k - 19) - (nI k - 19) / 19 * 19 - 9
def gDg (k : Nat) : Nat := if k < 19 then 1 else 2
def mgP (G : Nat → Int32) (g k : Nat) : Bool := igB G (gDg k) (gU k) (gV k) (g - gDg k)
theorem mgP_a {G : Nat → Int32} {g k : Nat} (h : k < 19) : mgP G g k = igB G 1 (gU k) (gV k) (g - 1) := by rw [mgP, gDg, if_pos h]
theorem mgP_b {G : Nat → Int32} {g k : Nat} (h : 19 ≤ k) : mgP G g k = igB G 2 (gU k) (gV k) (g - 2) := by rw [mgP, gDg, if_neg (by omega)]
theorem bB_t {b : Bool} (h : ¬ bB b = 0) : b = true := by
  cases b with
  | true => rfl
  | false => exact absurd rfl h
theorem bB_f {b : Bool} (h : bB b = 0) : ¬ b = true := by
  cases b with
  | false => decide
  | true => exact absurd h (by decide)
def mgQ (σ : Nat → Nat → Int32) (t : Nat → Int64) (K : Nat) : q_P := fun r w' => (K < 380 ∧ r = some (.int (nI (gDg K))) ∧ w' = mW (mG2 σ (gU K) (gV K)) t) ∨ (¬ K < 380 ∧ r = some (.int 2000000001) ∧ ∃ u v, w' = mW (mG2 σ u v) t)
def mgK (G : Nat → Int32) (g : Nat) : Nat := fs (mgP G g) 380 0
def mgD (G : Nat → Int32) (g : Nat) : Int32 := if igB G 0 0 0 g then 0 else if mgK G g < 380 then nI (gDg (mgK G g)) else 2000000001
def mgU (G : Nat → Int32) (g : Nat) : Int32 := if igB G 0 0 0 g then 0 else gU (mgK G g)
def mgV (G : Nat → Int32) (g : Nat) : Int32 := if igB G 0 0 0 g then 0 else gV (mgK G g)
def gtV (G : Nat → Int32) (g : Nat) (k : Int32) : Int32 := if mgD G g = 2000000001 ∨ k = 0 then mgD G g else if k = 1 then mgU G g else mgV G g
def mgF (G : Nat → Int32) (g : Nat) : Int32 := if mgD G g = 0 then 0 else G 0
def mgS (G : Nat → Int32) (g : Nat) : Int32 := if mgD G g = 2 then G 1 else mgU G g * mgF G g
section
variable {l : Launch} {σ : Nat → Nat → Int32} {t : Nat → Int64} {n : Nat}
set_option maxRecDepth 100000 in
set_option maxHeartbeats 4000000 in
theorem CX11_gnL {g n0 : Nat} (hg : g ≤ 8) (hg0 : σ 0 4 = nI g) : ∀ (d k : Nat) (u v : Int32) (x2 : Option Value), k + d = 380 → Go l mX11_guessNow n0 (mgQ σ t (fs (mgP (σ 3) g) d k)) (0, 0) 24 [some (.ref 0), some (.int (nI k)), x2] [] (mW (mG2 σ u v) t) := by
  intro d
  induction d with
  | zero =>
    intro k u v x2 hk0
    have e1 : 380 = k := by omega
    subst e1
    refine g_iload_n dX11_guessNow_24 rfl rfl ?_
    refine g_sipush (v := 380) dX11_guessNow_25 (by decide) ?_
    refine g_icmp_ge (tgt := 113) dX11_guessNow_28 rfl (fun c_28 => ?_) (fun c_28 => by exfalso; revert c_28; decide)
    refine g_ldc dX11_guessNow_113 tb_854 ?_
    exact g_iret dX11_guessNow_115 rfl rfl (Or.inr ⟨by show ¬ 380 < 380; omega, rfl, u, v, rfl⟩)
  | succ d ih =>
    intro k u v x2 hk0
    rcases Nat.lt_or_ge k 19 with hk | hk
    · refine g_iload_n dX11_guessNow_24 rfl rfl ?_
      refine g_sipush (v := 380) dX11_guessNow_25 (by decide) ?_
      refine g_icmp_ge (tgt := 113) dX11_guessNow_28 rfl (fun c_28 => by exact absurd c_28 (nI_ge (b := 380) (by omega) (by decide))) (fun c_28 => ?_)
      refine g_iload_n dX11_guessNow_31 rfl rfl ?_
      refine g_bipush (v := 19) dX11_guessNow_32 (by decide) ?_
      refine g_icmp_ge (tgt := 41) dX11_guessNow_34 rfl (fun c_34 => by exact absurd c_34 (nI_ge (b := 19) (by omega) (by decide))) (fun c_34 => ?_)
      refine g_iconst (v := 1) dX11_guessNow_37 (by decide) ?_
      refine g_goto (tgt := 42) dX11_guessNow_38 rfl ?_
      refine g_istore_n dX11_guessNow_42 rfl (Nat.le_of_ble_eq_true rfl) rfl ?_
      refine g_aload_n dX11_guessNow_43 rfl rfl ?_
      refine g_iload_n dX11_guessNow_44 rfl rfl ?_
      refine g_iconst (v := 1) dX11_guessNow_45 (by decide) ?_
      refine g_icmp_ne (tgt := 53) dX11_guessNow_46 rfl (fun c_46 => by exfalso; revert c_46; decide) (fun c_46 => ?_)
      refine g_iload_n dX11_guessNow_49 rfl rfl ?_
      refine g_goto (tgt := 60) dX11_guessNow_50 rfl ?_
      refine g_bipush (v := 9) dX11_guessNow_60 (by decide) ?_
      refine g_isub dX11_guessNow_62 ?_
      refine g_putf dX11_guessNow_63 pX11_322 mW_0 (Nat.le_of_ble_eq_true rfl) (fun _ => rfl) (fun _ => rfl) (mW_obj rfl) ?_
      refine g_aload_n dX11_guessNow_66 rfl rfl ?_
      refine g_iload_n dX11_guessNow_67 rfl rfl ?_
      refine g_iconst (v := 1) dX11_guessNow_68 (by decide) ?_
      refine g_icmp_ne (tgt := 76) dX11_guessNow_69 rfl (fun c_69 => by exfalso; revert c_69; decide) (fun c_69 => ?_)
      refine g_iconst (v := 0) dX11_guessNow_72 (by decide) ?_
      refine g_goto (tgt := 86) dX11_guessNow_73 rfl ?_
      refine g_putf dX11_guessNow_86 pX11_325 mW_0 (Nat.le_of_ble_eq_true rfl) (fun _ => rfl) (fun _ => rfl) (mW_obj rfl) ?_
      refine g_aload_n dX11_guessNow_89 rfl rfl ?_
      refine g_iload_n dX11_guessNow_90 rfl rfl ?_
      refine g_aload_n dX11_guessNow_91 rfl rfl ?_
      refine g_getf dX11_guessNow_92 fX11_322 mW_0 rfl ?_
      refine g_aload_n dX11_guessNow_95 rfl rfl ?_
      refine g_getf dX11_guessNow_96 fX11_325 mW_0 rfl ?_
      refine Go.eq rfl rfl (show _ = [Value.int (gV k), Value.int (gU k), Value.int (nI 1), Value.ref 0] by rw [gU, gV, if_pos hk, if_pos hk]; rfl) (show _ = mW (mG2 σ (gU k) (gV k)) t by rw [gU, gV, if_pos hk, if_pos hk]; exact congrArg (fun z => mW z t) mG2_uv) ?_
      refine g_V3r (CX11_isGuess (σ := mG2 σ (gU k) (gV k)) (dg := 1) hg (show mG2 σ (gU k) (gV k) 0 4 = nI g from hg0) (by decide)) kX11_guessNow_328 dX11_guessNow_99 mW_0 rfl ⟨rfl, rfl⟩ (Nat.le_of_ble_eq_true rfl) ⟨(Nat.le_of_ble_eq_true rfl), (Nat.le_of_ble_eq_true rfl)⟩ ?_
      refine g_if_eq (tgt := 107) dX11_guessNow_102 rfl (fun c_102 => ?_) (fun c_102 => ?_)
      · refine g_iinc (v := 1) dX11_guessNow_107 (by decide) rfl (Nat.le_of_ble_eq_true rfl) rfl ?_
        refine g_goto (tgt := 24) dX11_guessNow_110 rfl ?_
        refine Go.mono (Q' := (mgQ σ t (fs (mgP (σ 3) g) d (k + 1)))) (fun r w2 h => by rw [fs, if_neg (by rw [mgP_a hk]; exact bB_f c_102)]; exact h) ?_
        exact Go.eq rfl (show _ = _ by rw [← nI_1 k]; rfl) rfl rfl (ih (k + 1) _ _ _ (by omega))
      · refine g_iload_n dX11_guessNow_105 rfl rfl ?_
        exact g_iret dX11_guessNow_106 rfl rfl (by rw [fs, if_pos (by rw [mgP_a hk]; exact bB_t c_102)]; exact Or.inl ⟨by omega, by rw [gDg, if_pos hk]; rfl, rfl⟩)
    · refine g_iload_n dX11_guessNow_24 rfl rfl ?_
      refine g_sipush (v := 380) dX11_guessNow_25 (by decide) ?_
      refine g_icmp_ge (tgt := 113) dX11_guessNow_28 rfl (fun c_28 => by exact absurd c_28 (nI_ge (b := 380) (by omega) (by decide))) (fun c_28 => ?_)
      refine g_iload_n dX11_guessNow_31 rfl rfl ?_
      refine g_bipush (v := 19) dX11_guessNow_32 (by decide) ?_
      refine g_icmp_ge (tgt := 41) dX11_guessNow_34 rfl (fun c_34 => ?_) (fun c_34 => by exact absurd (nI_le (a := 19) (by omega) (by omega)) c_34)
      refine g_iconst (v := 2) dX11_guessNow_41 (by decide) ?_
      refine g_istore_n dX11_guessNow_42 rfl (Nat.le_of_ble_eq_true rfl) rfl ?_
      refine g_aload_n dX11_guessNow_43 rfl rfl ?_
      refine g_iload_n dX11_guessNow_44 rfl rfl ?_
      refine g_iconst (v := 1) dX11_guessNow_45 (by decide) ?_
      refine g_icmp_ne (tgt := 53) dX11_guessNow_46 rfl (fun c_46 => ?_) (fun c_46 => by exfalso; revert c_46; decide)
      refine g_iload_n dX11_guessNow_53 rfl rfl ?_
      refine g_bipush (v := 19) dX11_guessNow_54 (by decide) ?_
      refine g_isub dX11_guessNow_56 ?_
      refine g_bipush (v := 19) dX11_guessNow_57 (by decide) ?_
      refine g_idiv dX11_guessNow_59 (by decide) ?_
      refine g_bipush (v := 9) dX11_guessNow_60 (by decide) ?_
      refine g_isub dX11_guessNow_62 ?_
      refine g_putf dX11_guessNow_63 pX11_322 mW_0 (Nat.le_of_ble_eq_true rfl) (fun _ => rfl) (fun _ => rfl) (mW_obj rfl) ?_
      refine g_aload_n dX11_guessNow_66 rfl rfl ?_
      refine g_iload_n dX11_guessNow_67 rfl rfl ?_
      refine g_iconst (v := 1) dX11_guessNow_68 (by decide) ?_
      refine g_icmp_ne (tgt := 76) dX11_guessNow_69 rfl (fun c_69 => ?_) (fun c_69 => by exfalso; revert c_69; decide)
      refine g_iload_n dX11_guessNow_76 rfl rfl ?_
      refine g_bipush (v := 19) dX11_guessNow_77 (by decide) ?_
      refine g_isub dX11_guessNow_79 ?_
      refine g_bipush (v := 19) dX11_guessNow_80 (by decide) ?_
      refine g_irem dX11_guessNow_82 (by decide) ?_
      refine g_bipush (v := 9) dX11_guessNow_83 (by decide) ?_
      refine g_isub dX11_guessNow_85 ?_
      refine g_putf dX11_guessNow_86 pX11_325 mW_0 (Nat.le_of_ble_eq_true rfl) (fun _ => rfl) (fun _ => rfl) (mW_obj rfl) ?_
      refine g_aload_n dX11_guessNow_89 rfl rfl ?_
      refine g_iload_n dX11_guessNow_90 rfl rfl ?_
      refine g_aload_n dX11_guessNow_91 rfl rfl ?_
      refine g_getf dX11_guessNow_92 fX11_322 mW_0 rfl ?_
      refine g_aload_n dX11_guessNow_95 rfl rfl ?_
      refine g_getf dX11_guessNow_96 fX11_325 mW_0 rfl ?_
      refine Go.eq rfl rfl (show _ = [Value.int (gV k), Value.int (gU k), Value.int (nI 2), Value.ref 0] by rw [gU, gV, if_neg (Nat.not_lt.mpr hk), if_neg (Nat.not_lt.mpr hk)]; rfl) (show _ = mW (mG2 σ (gU k) (gV k)) t by rw [gU, gV, if_neg (Nat.not_lt.mpr hk), if_neg (Nat.not_lt.mpr hk)]; exact congrArg (fun z => mW z t) mG2_uv) ?_
      refine g_V3r (CX11_isGuess (σ := mG2 σ (gU k) (gV k)) (dg := 2) hg (show mG2 σ (gU k) (gV k) 0 4 = nI g from hg0) (by decide)) kX11_guessNow_328 dX11_guessNow_99 mW_0 rfl ⟨rfl, rfl⟩ (Nat.le_of_ble_eq_true rfl) ⟨(Nat.le_of_ble_eq_true rfl), (Nat.le_of_ble_eq_true rfl)⟩ ?_
      refine g_if_eq (tgt := 107) dX11_guessNow_102 rfl (fun c_102 => ?_) (fun c_102 => ?_)
      · refine g_iinc (v := 1) dX11_guessNow_107 (by decide) rfl (Nat.le_of_ble_eq_true rfl) rfl ?_
        refine g_goto (tgt := 24) dX11_guessNow_110 rfl ?_
        refine Go.mono (Q' := (mgQ σ t (fs (mgP (σ 3) g) d (k + 1)))) (fun r w2 h => by rw [fs, if_neg (by rw [mgP_b hk]; exact bB_f c_102)]; exact h) ?_
        exact Go.eq rfl (show _ = _ by rw [← nI_1 k]; rfl) rfl rfl (ih (k + 1) _ _ _ (by omega))
      · refine g_iload_n dX11_guessNow_105 rfl rfl ?_
        exact g_iret dX11_guessNow_106 rfl rfl (by rw [fs, if_pos (by rw [mgP_b hk]; exact bB_t c_102)]; exact Or.inl ⟨by omega, by rw [gDg, if_neg (Nat.not_lt.mpr hk)]; rfl, rfl⟩)
set_option maxRecDepth 100000 in
set_option maxHeartbeats 4000000 in
theorem CX11_guessNow {g : Nat} (hg : g ≤ 8) (hg0 : σ 0 4 = nI g) : Ct l mX11_guessNow [.ref 0] (mW σ t) (fun r w' => ∃ u v, w' = mW (mG2 σ u v) t ∧ r = some (.int (mgD (σ 3) g)) ∧ (mgD (σ 3) g ≠ 2000000001 → u = mgU (σ 3) g ∧ v = mgV (σ 3) g)) := by
  refine Ct.of rfl (Nat.le_of_ble_eq_true rfl) ?_
  refine g_aload_n dX11_guessNow_0 rfl rfl ?_
  refine g_iconst (v := 0) dX11_guessNow_1 (by decide) ?_
  refine g_putf dX11_guessNow_2 pX11_322 mW_0 (Nat.le_of_ble_eq_true rfl) (fun _ => rfl) (fun _ => rfl) (mW_obj rfl) ?_
  refine g_aload_n dX11_guessNow_5 rfl rfl ?_
  refine g_iconst (v := 0) dX11_guessNow_6 (by decide) ?_
  refine g_putf dX11_guessNow_7 pX11_325 mW_0 (Nat.le_of_ble_eq_true rfl) (fun _ => rfl) (fun _ => rfl) (mW_obj rfl) ?_
  refine g_aload_n dX11_guessNow_10 rfl rfl ?_
  refine g_iconst (v := 0) dX11_guessNow_11 (by decide) ?_
  refine g_iconst (v := 0) dX11_guessNow_12 (by decide) ?_
  refine g_iconst (v := 0) dX11_guessNow_13 (by decide) ?_
  refine g_V3r (CX11_isGuess (σ := mG2 σ 0 0) (dg := 0) hg (show mG2 σ 0 0 0 4 = nI g from hg0) (by decide)) kX11_guessNow_328 dX11_guessNow_14 mW_0 rfl ⟨rfl, rfl⟩ (Nat.le_of_ble_eq_true rfl) ⟨(Nat.le_of_ble_eq_true rfl), (Nat.le_of_ble_eq_true rfl)⟩ ?_
  refine g_if_eq (tgt := 22) dX11_guessNow_17 rfl (fun c_17 => ?_) (fun c_17 => ?_)
  · refine g_iconst (v := 0) dX11_guessNow_22 (by decide) ?_
    refine g_istore_n dX11_guessNow_23 rfl (Nat.le_of_ble_eq_true rfl) rfl ?_
    refine Go.mono (Q' := mgQ σ t (fs (mgP (σ 3) g) 380 0)) (fun r w2 h => ?_) (Go.eq rfl rfl rfl rfl (CX11_gnL hg hg0 380 0 0 0 none rfl))
    have hz : ¬ igB (σ 3) 0 0 0 g = true := bB_f c_17
    rcases h with ⟨h1, rfl, rfl⟩ | ⟨h1, rfl, u, v, rfl⟩
    · exact ⟨_, _, rfl, by rw [mgD, if_neg hz, if_pos (show mgK (σ 3) g < 380 from h1)]; rfl, fun _ => ⟨by rw [mgU, if_neg hz]; rfl, by rw [mgV, if_neg hz]; rfl⟩⟩
    · have e : mgD (σ 3) g = 2000000001 := by rw [mgD, if_neg hz, if_neg (show ¬ mgK (σ 3) g < 380 from h1)]
      exact ⟨u, v, rfl, by rw [e], fun z => absurd e z⟩
  · refine g_iconst (v := 0) dX11_guessNow_20 (by decide) ?_
    exact g_iret dX11_guessNow_21 rfl rfl ⟨0, 0, rfl, by rw [mgD, if_pos (show igB (σ 3) 0 0 0 g = true from bB_t c_17)], fun _ => ⟨by rw [mgU, if_pos (show igB (σ 3) 0 0 0 g = true from bB_t c_17)], by rw [mgV, if_pos (show igB (σ 3) 0 0 0 g = true from bB_t c_17)]⟩⟩
set_option maxRecDepth 100000 in
set_option maxHeartbeats 4000000 in
theorem CX11_guessTold {g : Nat} (hg : g ≤ 8) (hg0 : σ 0 4 = nI g) {k : Int32} : Ct l mX11_guessTold [.ref 0, .int k] (mW σ t) (fun r w' => ∃ u v, w' = mW (mG2 σ u v) t ∧ r = some (.int (gtV (σ 3) g k))) := by
  refine Ct.of rfl (Nat.le_of_ble_eq_true rfl) ?_
  refine g_aload_n dX11_guessTold_0 rfl rfl ?_
  refine g_V0p (CX11_guessNow hg hg0) kX11_guessTold_331 dX11_guessTold_1 mW_0 rfl ⟨rfl, rfl⟩ (Nat.le_of_ble_eq_true rfl) ⟨(Nat.le_of_ble_eq_true rfl), (Nat.le_of_ble_eq_true rfl)⟩ ?_
  rintro rv w1 ⟨u, v, rfl, rfl, huv⟩
  refine g_istore_n dX11_guessTold_4 rfl (Nat.le_of_ble_eq_true rfl) rfl ?_
  refine g_iload_n dX11_guessTold_5 rfl rfl ?_
  refine g_ldc dX11_guessTold_6 tb_854 ?_
  refine g_icmp_eq (tgt := 15) dX11_guessTold_8 rfl (fun c_8 => ?_) (fun c_8 => ?_)
  · refine g_iload_n dX11_guessTold_15 rfl rfl ?_
    refine g_goto (tgt := 35) dX11_guessTold_16 rfl ?_
    exact g_iret dX11_guessTold_35 rfl rfl ⟨u, v, rfl, by first | (rw [gtV, if_pos (Or.inl c_8)]) | (rw [gtV, if_pos (Or.inr c_12)]) | (rw [gtV, if_neg (fun z => z.elim c_8 c_12), if_pos c_21, ← (huv c_8).1]; rfl) | (rw [gtV, if_neg (fun z => z.elim c_8 c_12), if_neg c_21, ← (huv c_8).2]; rfl)⟩
  · refine g_iload_n dX11_guessTold_11 rfl rfl ?_
    refine g_if_ne (tgt := 19) dX11_guessTold_12 rfl (fun c_12 => ?_) (fun c_12 => ?_)
    · refine g_iload_n dX11_guessTold_19 rfl rfl ?_
      refine g_iconst (v := 1) dX11_guessTold_20 (by decide) ?_
      refine g_icmp_ne (tgt := 31) dX11_guessTold_21 rfl (fun c_21 => ?_) (fun c_21 => ?_)
      · refine g_aload_n dX11_guessTold_31 rfl rfl ?_
        refine g_getf dX11_guessTold_32 fX11_325 mW_0 rfl ?_
        exact g_iret dX11_guessTold_35 rfl rfl ⟨u, v, rfl, by first | (rw [gtV, if_pos (Or.inl c_8)]) | (rw [gtV, if_pos (Or.inr c_12)]) | (rw [gtV, if_neg (fun z => z.elim c_8 c_12), if_pos c_21, ← (huv c_8).1]; rfl) | (rw [gtV, if_neg (fun z => z.elim c_8 c_12), if_neg c_21, ← (huv c_8).2]; rfl)⟩
      · refine g_aload_n dX11_guessTold_24 rfl rfl ?_
        refine g_getf dX11_guessTold_25 fX11_322 mW_0 rfl ?_
        refine g_goto (tgt := 35) dX11_guessTold_28 rfl ?_
        exact g_iret dX11_guessTold_35 rfl rfl ⟨u, v, rfl, by first | (rw [gtV, if_pos (Or.inl c_8)]) | (rw [gtV, if_pos (Or.inr c_12)]) | (rw [gtV, if_neg (fun z => z.elim c_8 c_12), if_pos c_21, ← (huv c_8).1]; rfl) | (rw [gtV, if_neg (fun z => z.elim c_8 c_12), if_neg c_21, ← (huv c_8).2]; rfl)⟩
    · refine g_iload_n dX11_guessTold_15 rfl rfl ?_
      refine g_goto (tgt := 35) dX11_guessTold_16 rfl ?_
      exact g_iret dX11_guessTold_35 rfl rfl ⟨u, v, rfl, by first | (rw [gtV, if_pos (Or.inl c_8)]) | (rw [gtV, if_pos (Or.inr c_12)]) | (rw [gtV, if_neg (fun z => z.elim c_8 c_12), if_pos c_21, ← (huv c_8).1]; rfl) | (rw [gtV, if_neg (fun z => z.elim c_8 c_12), if_neg c_21, ← (huv c_8).2]; rfl)⟩
set_option maxRecDepth 100000 in
set_option maxHeartbeats 4000000 in
theorem CX11_guess {g : Nat} (hg : g ≤ 8) (hg0 : σ 0 4 = nI g) {k : Int32} : Ct l mX11_guess [.ref 0, .int k] (mW σ t) (fun r w' => ∃ u v, w' = mW (mG2 σ u v) t ∧ r = some (.int (if 0 ≤ k ∧ k ≤ 2 then gtV (σ 3) g k else 2000000102))) := by
  refine Ct.of rfl (Nat.le_of_ble_eq_true rfl) ?_
  refine g_iload_n dX11_guess_0 rfl rfl ?_
  refine g_iconst (v := 0) dX11_guess_1 (by decide) ?_
  refine g_iconst (v := 2) dX11_guess_2 (by decide) ?_
  refine g_S3r CX11_within kX11_guess_68 dX11_guess_3 ⟨rfl, rfl⟩ (Nat.le_of_ble_eq_true rfl) ⟨(Nat.le_of_ble_eq_true rfl), (Nat.le_of_ble_eq_true rfl)⟩ ?_
  refine g_if_eq (tgt := 17) dX11_guess_6 rfl (fun c_6 => ?_) (fun c_6 => ?_)
  · refine g_ldc dX11_guess_17 tb_964 ?_
    exact g_iret dX11_guess_19 rfl rfl (by first | exact ⟨u, v, rfl, by rw [if_pos (Classical.byContradiction (fun z => c_6 (bI_f z)))]⟩ | exact ⟨σ 0 23, σ 0 24, by rw [mG2_id], by rw [if_neg (bI_0.mp c_6)]⟩)
  · refine g_aload_n dX11_guess_9 rfl rfl ?_
    refine g_iload_n dX11_guess_10 rfl rfl ?_
    refine g_V1p (CX11_guessTold hg hg0) kX11_guess_334 dX11_guess_11 mW_0 rfl ⟨rfl, rfl⟩ (Nat.le_of_ble_eq_true rfl) ⟨(Nat.le_of_ble_eq_true rfl), (Nat.le_of_ble_eq_true rfl)⟩ ?_
    rintro rv w1 ⟨u, v, rfl, rfl⟩
    refine g_goto (tgt := 19) dX11_guess_14 rfl ?_
    exact g_iret dX11_guess_19 rfl rfl (by first | exact ⟨u, v, rfl, by rw [if_pos (Classical.byContradiction (fun z => c_6 (bI_f z)))]⟩ | exact ⟨σ 0 23, σ 0 24, by rw [mG2_id], by rw [if_neg (bI_0.mp c_6)]⟩)
set_option maxRecDepth 100000 in
set_option maxHeartbeats 4000000 in
theorem CX11_found {g : Nat} (hg : g ≤ 8) (hg0 : σ 0 4 = nI g) (hn : n ≤ 8) (h0 : σ 0 0 = nI n) : Ct l mX11_found [.ref 0] (mW σ t) (fun r w' => ∃ u v, if mgD (σ 3) g = 2000000001 then w' = mW (mG2 σ u v) t ∧ r = some (.int 2000000103) else w' = mW (mAd (mG2 σ u v) n 0 (mgU (σ 3) g) (mgV (σ 3) g) (mgF (σ 3) g) (mgS (σ 3) g)) t ∧ r = some (.int (adR n))) := by
  refine Ct.of rfl (Nat.le_of_ble_eq_true rfl) ?_
  refine g_aload_n dX11_found_0 rfl rfl ?_
  refine g_V0p (CX11_guessNow hg hg0) kX11_found_331 dX11_found_1 mW_0 rfl ⟨rfl, rfl⟩ (Nat.le_of_ble_eq_true rfl) ⟨(Nat.le_of_ble_eq_true rfl), (Nat.le_of_ble_eq_true rfl)⟩ ?_
  rintro rv w1 ⟨u, v, rfl, rfl, huv⟩
  refine g_istore_n dX11_found_4 rfl (Nat.le_of_ble_eq_true rfl) rfl ?_
  refine g_iload_n dX11_found_5 rfl rfl ?_
  refine g_ldc dX11_found_6 tb_854 ?_
  refine g_icmp_ne (tgt := 14) dX11_found_8 rfl (fun c_8 => ?_) (fun c_8 => ?_)
  · refine g_iload_n dX11_found_14 rfl rfl ?_
    refine g_if_ne (tgt := 22) dX11_found_15 rfl (fun c_15 => ?_) (fun c_15 => ?_)
    · refine g_aload_n dX11_found_22 rfl rfl ?_
      refine g_getf dX11_found_23 fX11_16 mW_0 rfl ?_
      refine g_iconst (v := 0) dX11_found_26 (by decide) ?_
      refine g_iald dX11_found_27 mA3 (vin_n (i := 0) (n := 8) (by decide) (by decide)) ?_
      refine g_istore_n dX11_found_28 rfl (Nat.le_of_ble_eq_true rfl) rfl ?_
      refine g_aload_n dX11_found_29 rfl rfl ?_
      refine g_iconst (v := 0) dX11_found_30 (by decide) ?_
      refine g_aload_n dX11_found_31 rfl rfl ?_
      refine g_getf dX11_found_32 fX11_322 mW_0 rfl ?_
      refine g_aload_n dX11_found_35 rfl rfl ?_
      refine g_getf dX11_found_36 fX11_325 mW_0 rfl ?_
      refine g_iload_n dX11_found_39 rfl rfl ?_
      refine g_iload_n dX11_found_40 rfl rfl ?_
      refine g_iconst (v := 2) dX11_found_41 (by decide) ?_
      refine g_icmp_ne (tgt := 54) dX11_found_42 rfl (fun c_42 => ?_) (fun c_42 => ?_)
      · refine g_aload_n dX11_found_54 rfl rfl ?_
        refine g_getf dX11_found_55 fX11_322 mW_0 rfl ?_
        refine g_iload_n dX11_found_58 rfl rfl ?_
        refine g_imul dX11_found_59 ?_
        obtain ⟨e1, e2⟩ := huv c_8
        subst e1 e2
        refine Go.eq rfl rfl (show _ = [Value.int (mgS (σ 3) g), .int (mgF (σ 3) g), .int (mgV (σ 3) g), .int (mgU (σ 3) g), .int 0, .ref 0] by unfold mgS mgF; first | (rw [if_pos c_15, if_pos c_42]; rfl) | (rw [if_pos c_15, if_neg c_42]; rfl) | (rw [if_neg c_15, if_pos c_42]; rfl) | (rw [if_neg c_15, if_neg c_42]; rfl)) rfl ?_
        refine g_V5r (CX11_comes (σ := mG2 σ (mgU (σ 3) g) (mgV (σ 3) g)) hn (show mG2 σ (mgU (σ 3) g) (mgV (σ 3) g) 0 0 = nI n from h0)) kX11_found_300 dX11_found_60 mW_0 rfl ⟨rfl, rfl⟩ (Nat.le_of_ble_eq_true rfl) ⟨(Nat.le_of_ble_eq_true rfl), (Nat.le_of_ble_eq_true rfl)⟩ ?_
        exact g_iret dX11_found_63 rfl rfl ⟨_, _, by rw [if_neg c_8]; exact ⟨rfl, rfl⟩⟩
      · refine g_aload_n dX11_found_45 rfl rfl ?_
        refine g_getf dX11_found_46 fX11_16 mW_0 rfl ?_
        refine g_iconst (v := 1) dX11_found_49 (by decide) ?_
        refine g_iald dX11_found_50 mA3 (vin_n (i := 1) (n := 8) (by decide) (by decide)) ?_
        refine g_goto (tgt := 60) dX11_found_51 rfl ?_
        obtain ⟨e1, e2⟩ := huv c_8
        subst e1 e2
        refine Go.eq rfl rfl (show _ = [Value.int (mgS (σ 3) g), .int (mgF (σ 3) g), .int (mgV (σ 3) g), .int (mgU (σ 3) g), .int 0, .ref 0] by unfold mgS mgF; first | (rw [if_pos c_15, if_pos c_42]; rfl) | (rw [if_pos c_15, if_neg c_42]; rfl) | (rw [if_neg c_15, if_pos c_42]; rfl) | (rw [if_neg c_15, if_neg c_42]; rfl)) rfl ?_
        refine g_V5r (CX11_comes (σ := mG2 σ (mgU (σ 3) g) (mgV (σ 3) g)) hn (show mG2 σ (mgU (σ 3) g) (mgV (σ 3) g) 0 0 = nI n from h0)) kX11_found_300 dX11_found_60 mW_0 rfl ⟨rfl, rfl⟩ (Nat.le_of_ble_eq_true rfl) ⟨(Nat.le_of_ble_eq_true rfl), (Nat.le_of_ble_eq_true rfl)⟩ ?_
        exact g_iret dX11_found_63 rfl rfl ⟨_, _, by rw [if_neg c_8]; exact ⟨rfl, rfl⟩⟩
    · refine g_iconst (v := 0) dX11_found_18 (by decide) ?_
      refine g_goto (tgt := 28) dX11_found_19 rfl ?_
      refine g_istore_n dX11_found_28 rfl (Nat.le_of_ble_eq_true rfl) rfl ?_
      refine g_aload_n dX11_found_29 rfl rfl ?_
      refine g_iconst (v := 0) dX11_found_30 (by decide) ?_
      refine g_aload_n dX11_found_31 rfl rfl ?_
      refine g_getf dX11_found_32 fX11_322 mW_0 rfl ?_
      refine g_aload_n dX11_found_35 rfl rfl ?_
      refine g_getf dX11_found_36 fX11_325 mW_0 rfl ?_
      refine g_iload_n dX11_found_39 rfl rfl ?_
      refine g_iload_n dX11_found_40 rfl rfl ?_
      refine g_iconst (v := 2) dX11_found_41 (by decide) ?_
      refine g_icmp_ne (tgt := 54) dX11_found_42 rfl (fun c_42 => ?_) (fun c_42 => ?_)
      · refine g_aload_n dX11_found_54 rfl rfl ?_
        refine g_getf dX11_found_55 fX11_322 mW_0 rfl ?_
        refine g_iload_n dX11_found_58 rfl rfl ?_
        refine g_imul dX11_found_59 ?_
        obtain ⟨e1, e2⟩ := huv c_8
        subst e1 e2
        refine Go.eq rfl rfl (show _ = [Value.int (mgS (σ 3) g), .int (mgF (σ 3) g), .int (mgV (σ 3) g), .int (mgU (σ 3) g), .int 0, .ref 0] by unfold mgS mgF; first | (rw [if_pos c_15, if_pos c_42]; rfl) | (rw [if_pos c_15, if_neg c_42]; rfl) | (rw [if_neg c_15, if_pos c_42]; rfl) | (rw [if_neg c_15, if_neg c_42]; rfl)) rfl ?_
        refine g_V5r (CX11_comes (σ := mG2 σ (mgU (σ 3) g) (mgV (σ 3) g)) hn (show mG2 σ (mgU (σ 3) g) (mgV (σ 3) g) 0 0 = nI n from h0)) kX11_found_300 dX11_found_60 mW_0 rfl ⟨rfl, rfl⟩ (Nat.le_of_ble_eq_true rfl) ⟨(Nat.le_of_ble_eq_true rfl), (Nat.le_of_ble_eq_true rfl)⟩ ?_
        exact g_iret dX11_found_63 rfl rfl ⟨_, _, by rw [if_neg c_8]; exact ⟨rfl, rfl⟩⟩
      · refine g_aload_n dX11_found_45 rfl rfl ?_
        refine g_getf dX11_found_46 fX11_16 mW_0 rfl ?_
        refine g_iconst (v := 1) dX11_found_49 (by decide) ?_
        refine g_iald dX11_found_50 mA3 (vin_n (i := 1) (n := 8) (by decide) (by decide)) ?_
        refine g_goto (tgt := 60) dX11_found_51 rfl ?_
        obtain ⟨e1, e2⟩ := huv c_8
        subst e1 e2
        refine Go.eq rfl rfl (show _ = [Value.int (mgS (σ 3) g), .int (mgF (σ 3) g), .int (mgV (σ 3) g), .int (mgU (σ 3) g), .int 0, .ref 0] by unfold mgS mgF; first | (rw [if_pos c_15, if_pos c_42]; rfl) | (rw [if_pos c_15, if_neg c_42]; rfl) | (rw [if_neg c_15, if_pos c_42]; rfl) | (rw [if_neg c_15, if_neg c_42]; rfl)) rfl ?_
        refine g_V5r (CX11_comes (σ := mG2 σ (mgU (σ 3) g) (mgV (σ 3) g)) hn (show mG2 σ (mgU (σ 3) g) (mgV (σ 3) g) 0 0 = nI n from h0)) kX11_found_300 dX11_found_60 mW_0 rfl ⟨rfl, rfl⟩ (Nat.le_of_ble_eq_true rfl) ⟨(Nat.le_of_ble_eq_true rfl), (Nat.le_of_ble_eq_true rfl)⟩ ?_
        exact g_iret dX11_found_63 rfl rfl ⟨_, _, by rw [if_neg c_8]; exact ⟨rfl, rfl⟩⟩
  · refine g_ldc dX11_found_11 tb_1007 ?_
    exact g_iret dX11_found_13 rfl rfl ⟨u, v, by rw [if_pos c_8]; exact ⟨rfl, rfl⟩⟩
end
