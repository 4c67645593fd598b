def imB (T : Nat → Nat → Nat) (s u : Nat) : Nat → Bool
  | 0 => true
  | i + 1 => imB T s u i && decide (T (u + i) s = 0)
theorem imB_t {T : Nat → Nat → Nat} {s u i : Nat} (h : ¬ bB (imB T s u i) = 0) (h2 : T (u + i) s = 0) : (1 : Int32) = bB (imB T s u (i + 1)) := by
  rw [imB, bB_t h, decide_eq_true h2]; rfl
theorem imB_f {T : Nat → Nat → Nat} {s u i : Nat} (h : bB (imB T s u i) = 0) : (0 : Int32) = bB (imB T s u (i + 1)) := by
  rw [imB, Bool.eq_false_iff.mpr (bB_f h)]; rfl
theorem imB_g {T : Nat → Nat → Nat} {s u i : Nat} (h : ¬ T (u + i) s = 0) : (0 : Int32) = bB (imB T s u (i + 1)) := by
  rw [imB, decide_eq_false h, Bool.and_false]; rfl
theorem imB_all {T : Nat → Nat → Nat} {s u : Nat} : ∀ i, imB T s u i = true ↔ ∀ k, k < i → T (u + k) s = 0
  | 0 => ⟨fun _ k hk => absurd hk (by omega), fun _ => rfl⟩
  | i + 1 => by
    rw [imB, Bool.and_eq_true, imB_all i, decide_eq_true_iff]
    constructor
    · rintro ⟨h1, h2⟩ k hk
      rcases Nat.lt_or_ge k i with y | y
      · exact h1 k y
      · rw [show k = i by omega]; exact h2
    · exact fun h => ⟨fun k hk => h k (by omega), h i (by omega)⟩
def pvO (T : Nat → Nat → Nat) (u : Nat) (pv : Nat → Nat) : Prop := ∀ i, i < u → pv i < 17 ∧ T i (pv i) ≠ 0 ∧ (∀ c, c < pv i → T i c = 0) ∧ ∀ j, j < u → j ≠ i → pv j ≠ pv i
section
variable {l : Launch} {σ : Nat → Nat → Int32} {t : Nat → Int64} {T : Nat → Nat → Nat}
set_option maxRecDepth 100000 in
set_option maxHeartbeats 4000000 in
theorem CX11_imW {n0 u m s P i : Nat} {pv : Nat → Nat} {τ : Nat → Nat → Int32} (hP : P < 8) (hm : m ≤ 16) (hu : u ≤ m) (hs : s < 17) (hB : ∀ i k, T i k < P) (hT : tbl σ T) (hpv : pvO T u pv) (hi : i < u) (hf : ∀ c, c ≠ 13 → τ c = σ c) (hX : ∀ (x6 : Option Value), Go l mX11_isMet n0 (fun r w' => ∃ τ', w' = mW τ' t ∧ r = some (.int (bB (imB T s u (m - u)))) ∧ (∀ c, c ≠ 13 → τ' c = σ c) ∧ (∀ i, i < u → τ' 13 (pv i) = nI (T i s)) ∧ ∀ c, (∀ i, i < u → c ≠ pv i) → τ' 13 c = σ 13 c) (0, 0) 48 [some (.ref 0), some (.int (nI u)), some (.int (nI m)), some (.int (nI s)), some (.int (bB (imB T s u (m - u)))), some (.int (nI (i + 1))), x6] [] (mW (put τ 13 (pv i) (nI (T i s))) t)) : ∀ (d k : Nat), k + d = pv i → Go l mX11_isMet n0 (fun r w' => ∃ τ', w' = mW τ' t ∧ r = some (.int (bB (imB T s u (m - u)))) ∧ (∀ c, c ≠ 13 → τ' c = σ c) ∧ (∀ i, i < u → τ' 13 (pv i) = nI (T i s)) ∧ ∀ c, (∀ i, i < u → c ≠ pv i) → τ' 13 c = σ 13 c) (0, 0) 57 [some (.ref 0), some (.int (nI u)), some (.int (nI m)), some (.int (nI s)), some (.int (bB (imB T s u (m - u)))), some (.int (nI i)), some (.int (nI k))] [] (mW τ t) := by
  intro d
  induction d with
  | zero =>
    intro k hk
    have hz := hpv i hi
    refine g_aload_n dX11_isMet_57 rfl rfl ?_
    refine g_getf dX11_isMet_58 fX11_44 mW_0 rfl ?_
    refine g_bipush (v := 17) dX11_isMet_61 (by decide) ?_
    refine g_iload dX11_isMet_63 rfl ?_
    refine g_imul dX11_isMet_65 ?_
    rw [n17 i]
    refine g_iload dX11_isMet_66 rfl ?_
    refine g_iadd dX11_isMet_68 ?_
    rw [nI_add]
    refine g_iald dX11_isMet_69 mA12 (vin_n (by omega) (by decide)) ?_
    rw [nI_clamp (by omega), show τ 12 = σ 12 from hf 12 (by decide), hT i k (by omega) (by omega)]
    refine g_if_ne (tgt := 79) dX11_isMet_70 rfl (fun c_70 => ?_) (fun c_70 => by exact absurd ((nI0 (by have := hB i k; omega)).mp c_70) (by rw [show k = pv i by omega]; exact hz.2.1))
    refine g_aload_n dX11_isMet_79 rfl rfl ?_
    refine g_getf dX11_isMet_80 fX11_47 mW_0 rfl ?_
    refine g_iload dX11_isMet_83 rfl ?_
    refine g_aload_n dX11_isMet_85 rfl rfl ?_
    refine g_getf dX11_isMet_86 fX11_44 mW_0 rfl ?_
    refine g_bipush (v := 17) dX11_isMet_89 (by decide) ?_
    refine g_iload dX11_isMet_91 rfl ?_
    refine g_imul dX11_isMet_93 ?_
    rw [n17 i]
    refine g_iload_n dX11_isMet_94 rfl rfl ?_
    refine g_iadd dX11_isMet_95 ?_
    rw [nI_add]
    refine g_iald dX11_isMet_96 mA12 (vin_n (by omega) (by decide)) ?_
    rw [nI_clamp (by omega), show τ 12 = σ 12 from hf 12 (by decide), hT i s (by omega) (by omega)]
    refine g_iast dX11_isMet_97 mA13 (vin_n (by omega) (by decide)) (mW_arrN (k' := pv i) (fun _ => rfl) (by rw [show k = pv i by omega]; exact nI_clamp (by omega))) ?_
    refine g_iinc (v := 1) dX11_isMet_98 (by decide) rfl (Nat.le_of_ble_eq_true rfl) rfl ?_
    refine g_goto (tgt := 48) dX11_isMet_101 rfl ?_
    exact Go.eq rfl (show _ = _ by rw [← nI_1 i]; rfl) rfl rfl (hX _)
  | succ d ih =>
    intro k hk
    have hz := hpv i hi
    refine g_aload_n dX11_isMet_57 rfl rfl ?_
    refine g_getf dX11_isMet_58 fX11_44 mW_0 rfl ?_
    refine g_bipush (v := 17) dX11_isMet_61 (by decide) ?_
    refine g_iload dX11_isMet_63 rfl ?_
    refine g_imul dX11_isMet_65 ?_
    rw [n17 i]
    refine g_iload dX11_isMet_66 rfl ?_
    refine g_iadd dX11_isMet_68 ?_
    rw [nI_add]
    refine g_iald dX11_isMet_69 mA12 (vin_n (by omega) (by decide)) ?_
    rw [nI_clamp (by omega), show τ 12 = σ 12 from hf 12 (by decide), hT i k (by omega) (by omega)]
    refine g_if_ne (tgt := 79) dX11_isMet_70 rfl (fun c_70 => by exact absurd ((nI0 (by have := hB i k; omega)).mpr (hz.2.2.1 k (by omega))) c_70) (fun c_70 => ?_)
    refine g_iinc (v := 1) dX11_isMet_73 (by decide) rfl (Nat.le_of_ble_eq_true rfl) rfl ?_
    refine g_goto (tgt := 57) dX11_isMet_76 rfl ?_
    exact Go.eq rfl (show _ = _ by rw [← nI_1 k]; rfl) rfl rfl (ih (k + 1) (by omega))
set_option maxRecDepth 100000 in
set_option maxHeartbeats 4000000 in
theorem CX11_imM {n0 u m s P : Nat} {pv : Nat → Nat} (hP : P < 8) (hm : m ≤ 16) (hu : u ≤ m) (hs : s < 17) (hB : ∀ i k, T i k < P) (hT : tbl σ T) (hpv : pvO T u pv) : ∀ (d i : Nat) (τ : Nat → Nat → Int32) (x6 : Option Value), i + d = u → (∀ c, c ≠ 13 → τ c = σ c) → (∀ j, j < i → τ 13 (pv j) = nI (T j s)) → (∀ c, (∀ j, j < i → c ≠ pv j) → τ 13 c = σ 13 c) → Go l mX11_isMet n0 (fun r w' => ∃ τ', w' = mW τ' t ∧ r = some (.int (bB (imB T s u (m - u)))) ∧ (∀ c, c ≠ 13 → τ' c = σ c) ∧ (∀ i, i < u → τ' 13 (pv i) = nI (T i s)) ∧ ∀ c, (∀ i, i < u → c ≠ pv i) → τ' 13 c = σ 13 c) (0, 0) 48 [some (.ref 0), some (.int (nI u)), some (.int (nI m)), some (.int (nI s)), some (.int (bB (imB T s u (m - u)))), some (.int (nI i)), x6] [] (mW τ t) := by
  intro d
  induction d with
  | zero =>
    intro i τ x6 hi hf h1 h2
    have e1 : u = i := by omega
    subst e1
    refine g_iload dX11_isMet_48 rfl ?_
    refine g_iload_n dX11_isMet_50 rfl rfl ?_
    refine g_icmp_ge (tgt := 104) dX11_isMet_51 rfl (fun c_51 => ?_) (fun c_51 => by exact absurd (nI_le (by omega) (by omega)) c_51)
    refine g_iload dX11_isMet_104 rfl ?_
    exact g_zret dX11_isMet_106 rfl rfl (by cases imB T s u (m - u) <;> decide) ⟨τ, rfl, rfl, hf, h1, h2⟩
  | succ d ih =>
    intro i τ x6 hi hf h1 h2
    refine g_iload dX11_isMet_48 rfl ?_
    refine g_iload_n dX11_isMet_50 rfl rfl ?_
    refine g_icmp_ge (tgt := 104) dX11_isMet_51 rfl (fun c_51 => by exact absurd c_51 (nI_ge (by omega) (by omega))) (fun c_51 => ?_)
    refine g_iconst (v := 0) dX11_isMet_54 (by decide) ?_
    refine g_istore dX11_isMet_55 (Nat.le_of_ble_eq_true rfl) rfl ?_
    exact Go.eq rfl rfl rfl rfl (CX11_imW hP hm hu hs hB hT hpv (by omega) hf (fun y => ih (i + 1) _ y (by omega) (fun c hc => (put_ne hc).trans (hf c hc)) (fun j hj => by
      rw [put_ix]
      by_cases e : j = i
      · rw [if_pos (by rw [e]), e]
      · rw [if_neg ((hpv i (by omega)).2.2.2 j (by omega) e)]
        exact h1 j (by omega)) (fun c hc => by
      rw [put_ix, if_neg (hc i (by omega))]
      exact h2 c (fun j hj => hc j (by omega)))) (pv i) 0 (by omega))
set_option maxRecDepth 100000 in
set_option maxHeartbeats 4000000 in
theorem CX11_imA {n0 u m s P : Nat} {pv : Nat → Nat} (hP : P < 8) (hm : m ≤ 16) (hu : u ≤ m) (hs : s < 17) (hB : ∀ i k, T i k < P) (hT : tbl σ T) (hpv : pvO T u pv) : ∀ (d i : Nat), i + d = m - u → Go l mX11_isMet n0 (fun r w' => ∃ τ', w' = mW τ' t ∧ r = some (.int (bB (imB T s u (m - u)))) ∧ (∀ c, c ≠ 13 → τ' c = σ c) ∧ (∀ i, i < u → τ' 13 (pv i) = nI (T i s)) ∧ ∀ c, (∀ i, i < u → c ≠ pv i) → τ' 13 c = σ 13 c) (0, 0) 6 [some (.ref 0), some (.int (nI u)), some (.int (nI m)), some (.int (nI s)), some (.int (bB (imB T s u i))), some (.int (nI (u + i))), none] [] (mW σ t) := by
  intro d
  induction d with
  | zero =>
    intro i hi
    refine g_iload dX11_isMet_6 rfl ?_
    refine g_iload_n dX11_isMet_8 rfl rfl ?_
    refine g_icmp_ge (tgt := 45) dX11_isMet_9 rfl (fun c_9 => ?_) (fun c_9 => by exact absurd (nI_le (by omega) (by omega)) c_9)
    refine g_iconst (v := 0) dX11_isMet_45 (by decide) ?_
    refine g_istore dX11_isMet_46 (Nat.le_of_ble_eq_true rfl) rfl ?_
    exact Go.eq rfl (show _ = _ by rw [show m - u = i by omega]; rfl) rfl rfl (CX11_imM hP hm hu hs hB hT hpv u 0 σ none (by omega) (fun _ _ => rfl) (fun j hj => absurd hj (by omega)) (fun _ _ => rfl))
  | succ d ih =>
    intro i hi
    refine g_iload dX11_isMet_6 rfl ?_
    refine g_iload_n dX11_isMet_8 rfl rfl ?_
    refine g_icmp_ge (tgt := 45) dX11_isMet_9 rfl (fun c_9 => by exact absurd c_9 (nI_ge (by omega) (by omega))) (fun c_9 => ?_)
    refine g_iload dX11_isMet_12 rfl ?_
    refine g_if_eq (tgt := 36) dX11_isMet_14 rfl (fun c_14 => ?_) (fun c_14 => ?_)
    · refine g_iconst (v := 0) dX11_isMet_36 (by decide) ?_
      refine g_istore dX11_isMet_37 (Nat.le_of_ble_eq_true rfl) rfl ?_
      refine g_iinc (v := 1) dX11_isMet_39 (by decide) rfl (Nat.le_of_ble_eq_true rfl) rfl ?_
      refine g_goto (tgt := 6) dX11_isMet_42 rfl ?_
      exact Go.eq rfl (show _ = _ by first | (rw [← imB_t (T := T) (s := s) (u := u) c_14 ((nI0 (by have := hB (u + i) s; omega)).mp c_29), show nI (u + (i + 1)) = nI (u + i) + 1 from (nI_1 (u + i)).symm]; rfl) | (rw [← imB_g (T := T) (s := s) (u := u) (fun z => c_29 ((nI0 (by have := hB (u + i) s; omega)).mpr z)), show nI (u + (i + 1)) = nI (u + i) + 1 from (nI_1 (u + i)).symm]; rfl) | (rw [← imB_f (T := T) (s := s) (u := u) c_14, show nI (u + (i + 1)) = nI (u + i) + 1 from (nI_1 (u + i)).symm]; rfl)) rfl rfl (ih (i + 1) (by omega))
    · refine g_aload_n dX11_isMet_17 rfl rfl ?_
      refine g_getf dX11_isMet_18 fX11_44 mW_0 rfl ?_
      refine g_bipush (v := 17) dX11_isMet_21 (by decide) ?_
      refine g_iload dX11_isMet_23 rfl ?_
      refine g_imul dX11_isMet_25 ?_
      rw [n17 (u + i)]
      refine g_iload_n dX11_isMet_26 rfl rfl ?_
      refine g_iadd dX11_isMet_27 ?_
      rw [nI_add]
      refine g_iald dX11_isMet_28 mA12 (vin_n (by omega) (by decide)) ?_
      rw [nI_clamp (by omega), hT (u + i) s (by omega) (by omega)]
      refine g_if_ne (tgt := 36) dX11_isMet_29 rfl (fun c_29 => ?_) (fun c_29 => ?_)
      · refine g_iconst (v := 0) dX11_isMet_36 (by decide) ?_
        refine g_istore dX11_isMet_37 (Nat.le_of_ble_eq_true rfl) rfl ?_
        refine g_iinc (v := 1) dX11_isMet_39 (by decide) rfl (Nat.le_of_ble_eq_true rfl) rfl ?_
        refine g_goto (tgt := 6) dX11_isMet_42 rfl ?_
        exact Go.eq rfl (show _ = _ by first | (rw [← imB_t (T := T) (s := s) (u := u) c_14 ((nI0 (by have := hB (u + i) s; omega)).mp c_29), show nI (u + (i + 1)) = nI (u + i) + 1 from (nI_1 (u + i)).symm]; rfl) | (rw [← imB_g (T := T) (s := s) (u := u) (fun z => c_29 ((nI0 (by have := hB (u + i) s; omega)).mpr z)), show nI (u + (i + 1)) = nI (u + i) + 1 from (nI_1 (u + i)).symm]; rfl) | (rw [← imB_f (T := T) (s := s) (u := u) c_14, show nI (u + (i + 1)) = nI (u + i) + 1 from (nI_1 (u + i)).symm]; rfl)) rfl rfl (ih (i + 1) (by omega))
      · refine g_iconst (v := 1) dX11_isMet_32 (by decide) ?_
        refine g_goto (tgt := 37) dX11_isMet_33 rfl ?_
        refine g_istore dX11_isMet_37 (Nat.le_of_ble_eq_true rfl) rfl ?_
        refine g_iinc (v := 1) dX11_isMet_39 (by decide) rfl (Nat.le_of_ble_eq_true rfl) rfl ?_
        refine g_goto (tgt := 6) dX11_isMet_42 rfl ?_
        exact Go.eq rfl (show _ = _ by first | (rw [← imB_t (T := T) (s := s) (u := u) c_14 ((nI0 (by have := hB (u + i) s; omega)).mp c_29), show nI (u + (i + 1)) = nI (u + i) + 1 from (nI_1 (u + i)).symm]; rfl) | (rw [← imB_g (T := T) (s := s) (u := u) (fun z => c_29 ((nI0 (by have := hB (u + i) s; omega)).mpr z)), show nI (u + (i + 1)) = nI (u + i) + 1 from (nI_1 (u + i)).symm]; rfl) | (rw [← imB_f (T := T) (s := s) (u := u) c_14, show nI (u + (i + 1)) = nI (u + i) + 1 from (nI_1 (u + i)).symm]; rfl)) rfl rfl (ih (i + 1) (by omega))
set_option maxRecDepth 100000 in
set_option maxHeartbeats 4000000 in
theorem CX11_isMet {u m s P : Nat} {pv : Nat → Nat} (hP : P < 8) (hm : m ≤ 16) (hu : u ≤ m) (hs : s < 17) (hB : ∀ i k, T i k < P) (hT : tbl σ T) (hpv : pvO T u pv) : Ct l mX11_isMet [.ref 0, .int (nI u), .int (nI m), .int (nI s)] (mW σ t) (fun r w' => ∃ τ', w' = mW τ' t ∧ r = some (.int (bB (imB T s u (m - u)))) ∧ (∀ c, c ≠ 13 → τ' c = σ c) ∧ (∀ i, i < u → τ' 13 (pv i) = nI (T i s)) ∧ ∀ c, (∀ i, i < u → c ≠ pv i) → τ' 13 c = σ 13 c) := by
  refine Ct.of rfl (Nat.le_of_ble_eq_true rfl) ?_
  refine g_iconst (v := 1) dX11_isMet_0 (by decide) ?_
  refine g_istore dX11_isMet_1 (Nat.le_of_ble_eq_true rfl) rfl ?_
  refine g_iload_n dX11_isMet_3 rfl rfl ?_
  refine g_istore dX11_isMet_4 (Nat.le_of_ble_eq_true rfl) rfl ?_
  exact Go.eq rfl rfl rfl rfl (CX11_imA hP hm hu hs hB hT hpv (m - u) 0 (by omega))
end
