abbrev mdV (v m : Int32) : Int32 := jrem (jrem v m + m) m
/-- the pairs of rests of a told row -/
def mPr (σ : Nat → Nat → Int32) (q m : Nat) (X Y : Nat → Nat) : Prop := mdV (σ 2 (4 * q + 2)) (nI m) = nI (X 0) ∧ mdV (σ 2 (4 * q + 3)) (nI m) = nI (Y 0) ∧ (∀ j, X (j + 1) = Y j) ∧ (∀ j, mdV (σ 2 (4 * q) * nI (Y j) + σ 2 (4 * q + 1) * nI (X j)) (nI m) = nI (Y (j + 1))) ∧ (∀ j, X j < m) ∧ (∀ j, Y j < m)
def mMt (μ : Nat → Int32) (m : Nat) (X Y : Nat → Nat) (j : Nat) : Prop := (∀ i, i < j → μ (m * X i + Y i) = nI i) ∧ ∀ u v, u < m → v < m → (∀ i, i < j → ¬ (X i = u ∧ Y i = v)) → μ (m * u + v) = 2000000001
def ltQ (σ : Nat → Nat → Int32) (t : Nat → Int64) (q : Nat) (X Y : Nat → Nat) (B : Nat) : q_P := fun r w' => r = none ∧ ∃ (i j : Nat) (σ' : Nat → Nat → Int32), w' = mW σ' t ∧ i < j ∧ j < B ∧ X i = X j ∧ Y i = Y j ∧ (∀ a b, a < b → b < j → ¬ (X a = X b ∧ Y a = Y b)) ∧ σ' 8 = upd (σ 8) q (nI i) ∧ σ' 9 = upd (σ 9) q (nI (j - i)) ∧ σ' 10 = ru (σ 10) (512 * q) j (fun k => nI (X k)) ∧ ∀ c, c ≠ 8 → c ≠ 9 → c ≠ 10 → c ≠ 11 → σ' c = σ c
theorem put_self {σ : Nat → Nat → Int32} {c k : Nat} {v : Int32} : put σ c k v c k = v := by simp [put, upd]
theorem ixB {m x y : Nat} (hm : m ≤ 10) (hx : x < m) (hy : y < m) : m * x + y < 100 := by
  have := Nat.mul_le_mul hm (show x ≤ 9 by omega)
  omega
theorem ixU {m x y u v : Nat} (hy : y < m) (hv : v < m) (h : m * x + y = m * u + v) : x = u ∧ y = v := by
  have h1 : (m * x + y) / m = x := by rw [Nat.mul_add_div (by omega), Nat.div_eq_of_lt hy]; rfl
  have h2 : (m * u + v) / m = u := by rw [Nat.mul_add_div (by omega), Nat.div_eq_of_lt hv]; rfl
  have e : x = u := by rw [← h1, h, h2]
  subst e
  exact ⟨rfl, by omega⟩
theorem nI_inJ {a b : Nat} (ha : a < 2 ^ 31) (hb : b < 2 ^ 31) (h : nI a = nI b) : a = b := by
  have h1 := nI_clamp ha
  rw [h, nI_clamp hb] at h1
  exact h1.symm
theorem nI_nN {a : Nat} (ha : a < 100000) : nI a ≠ 2000000001 := fun h => by
  have := nI_inJ (b := 2000000001) (by omega) (by decide) h
  omega
theorem mMt_dis {μ : Nat → Int32} {m : Nat} {X Y : Nat → Nat} {j : Nat} (hj : j < 100000) (h : mMt μ m X Y j) : ∀ a b, a < b → b < j → ¬ (X a = X b ∧ Y a = Y b) := by
  rintro a b hab hb ⟨e1, e2⟩
  have h1 := h.1 a (by omega)
  have h2 := h.1 b hb
  rw [e1, e2, h2] at h1
  have := nI_inJ (by omega) (by omega) h1
  omega
theorem mMt_up {μ : Nat → Int32} {m : Nat} {X Y : Nat → Nat} {j : Nat} (hj : j < 100000) (hX : ∀ j, X j < m) (hY : ∀ j, Y j < m) (h : mMt μ m X Y j) (hN : μ (m * X j + Y j) = 2000000001) : mMt (upd μ (m * X j + Y j) (nI j)) m X Y (j + 1) := by
  refine ⟨fun i hi => ?_, fun u v hu hv hn => ?_⟩
  · unfold upd
    by_cases e : m * X i + Y i = m * X j + Y j
    · rw [if_pos e]
      rcases Nat.lt_or_ge i j with y | y
      · have h1 := h.1 i y
        rw [e, hN] at h1
        exact absurd h1.symm (nI_nN (by omega))
      · rw [show i = j by omega]
    · rw [if_neg e]
      refine h.1 i ?_
      rcases Nat.lt_or_ge i j with y | y
      · exact y
      · exact absurd (by rw [show i = j by omega]) e
  · unfold upd
    rw [if_neg (fun e => by
      have := ixU hv (hY j) e
      exact hn j (by omega) ⟨this.1.symm, this.2.symm⟩)]
    exact h.2 u v hu hv (fun i hi => hn i (by omega))
theorem put_11 {σ : Nat → Nat → Int32} {μ ρ : Nat → Int32} {k : Nat} {v : Int32} : put (putC (putC σ 11 μ) 10 ρ) 11 k v = putC (putC σ 11 (upd μ k v)) 10 ρ := by
  funext c i
  unfold put putC
  by_cases h : c = 11 <;> by_cases h2 : c = 10 <;> simp [h, h2]
theorem byt {x : Nat} (h : x < 127) : vp_nar .byte (nI x).toInt8.toInt32 = nI x := by
  have e : ∀ i, i < 127 → vp_nar .byte (nI i).toInt8.toInt32 = nI i := by decide +kernel
  exact e x h
section
variable {l : Launch} {σ : Nat → Nat → Int32} {t : Nat → Int64} {q m B : Nat} {X Y : Nat → Nat}
set_option maxRecDepth 100000 in
set_option maxHeartbeats 4000000 in
theorem CX11_ltoL {n0 : Nat} (hq : q ≤ 8) (hm : 2 ≤ m ∧ m ≤ 10) (hP : mPr σ q m X Y) (hB : B ≤ 400) (hR : ∃ a b, a < b ∧ b < B ∧ X a = X b ∧ Y a = Y b) : ∀ (d j : Nat) (μ : Nat → Int32) (x6 : Option Value), j + d = B → mMt μ m X Y j → Go l mX11_layTold n0 (ltQ σ t q X Y B) (0, 0) 57 [some (.ref 0), some (.int (nI q)), some (.int (nI m)), some (.int (nI (X j))), some (.int (nI (Y j))), some (.int (nI j)), x6] [] (mW (putC (putC σ 11 μ) 10 (ru (σ 10) (512 * q) j (fun k => nI (X k)))) t) := by
  obtain ⟨hX0, hY0, hXs, hYs, hX, hY⟩ := hP
  have hm0 : ¬ nI m = 0 := fun z => by have := (nI0 (n := m) (by omega)).mp z; omega
  intro d
  induction d with
  | zero =>
    intro j μ x6 hj hM
    obtain ⟨a, b, hab, hb, e⟩ := hR
    exact absurd e (mMt_dis (by omega) hM a b hab (by omega))
  | succ d ih =>
    intro j μ x6 hj hM
    have hix := ixB hm.2 (hX j) (hY j)
    have hxj := hX j
    refine g_aload_n dX11_layTold_57 rfl rfl ?_
    refine g_getf dX11_layTold_58 fX11_41 mW_0 rfl ?_
    refine g_iload_n dX11_layTold_61 rfl rfl ?_
    refine g_iload_n dX11_layTold_62 rfl rfl ?_
    refine g_imul dX11_layTold_63 ?_
    refine g_iload dX11_layTold_64 rfl ?_
    refine g_iadd dX11_layTold_66 ?_
    rw [nI_mul, nI_add]
    refine g_iald dX11_layTold_67 mA11 (vin_n (by omega) (by decide)) ?_
    refine Go.eq rfl rfl (show _ = [Value.int (μ (m * X j + Y j))] by rw [nI_clamp (by omega)]; rfl) rfl ?_
    refine g_ldc dX11_layTold_68 tb_854 ?_
    refine g_icmp_ne (tgt := 144) dX11_layTold_70 rfl (fun c_70 => ?_) (fun c_70 => ?_)
    · obtain ⟨i, hi, e1, e2⟩ : ∃ i, i < j ∧ X i = X j ∧ Y i = Y j := Classical.byContradiction (fun z => c_70 (hM.2 _ _ (hX j) (hY j) (fun i hi e => z ⟨i, hi, e.1, e.2⟩)))
      have hμ : μ (m * X j + Y j) = nI i := by rw [← e1, ← e2]; exact hM.1 i hi
      refine g_aload_n dX11_layTold_144 rfl rfl ?_
      refine g_getf dX11_layTold_145 fX11_32 mW_0 rfl ?_
      refine g_iload_n dX11_layTold_148 rfl rfl ?_
      refine g_aload_n dX11_layTold_149 rfl rfl ?_
      refine g_getf dX11_layTold_150 fX11_41 mW_0 rfl ?_
      refine g_iload_n dX11_layTold_153 rfl rfl ?_
      refine g_iload_n dX11_layTold_154 rfl rfl ?_
      refine g_imul dX11_layTold_155 ?_
      refine g_iload dX11_layTold_156 rfl ?_
      refine g_iadd dX11_layTold_158 ?_
      rw [nI_mul, nI_add]
      refine g_iald dX11_layTold_159 mA11 (vin_n (by omega) (by decide)) ?_
      refine Go.eq rfl rfl (show _ = [Value.int (nI i), Value.int (nI q), Value.ref 8] by rw [nI_clamp (by omega)]; exact congrArg (fun z => [Value.int z, Value.int (nI q), Value.ref 8]) hμ) rfl ?_
      refine g_iast dX11_layTold_160 mA8 (vin_n (by omega) (by decide)) (mW_arrN (k' := q) (fun _ => rfl) (nI_clamp (by omega))) ?_
      refine g_aload_n dX11_layTold_161 rfl rfl ?_
      refine g_getf dX11_layTold_162 fX11_35 mW_0 rfl ?_
      refine g_iload_n dX11_layTold_165 rfl rfl ?_
      refine g_iload dX11_layTold_166 rfl ?_
      refine g_aload_n dX11_layTold_168 rfl rfl ?_
      refine g_getf dX11_layTold_169 fX11_32 mW_0 rfl ?_
      refine g_iload_n dX11_layTold_172 rfl rfl ?_
      refine g_iald dX11_layTold_173 mA8 (vin_n (by omega) (by decide)) ?_
      refine Go.eq rfl rfl (show _ = [Value.int (nI i), Value.int (nI j), Value.int (nI q), Value.ref 9] by rw [nI_clamp (by omega)]; exact congrArg (fun z => [Value.int z, Value.int (nI j), Value.int (nI q), Value.ref 9]) put_self) rfl ?_
      refine g_isub dX11_layTold_174 ?_
      rw [nI_sub (by omega)]
      refine g_iast dX11_layTold_175 mA9 (vin_n (by omega) (by decide)) (mW_arrN (k' := q) (fun _ => rfl) (nI_clamp (by omega))) ?_
      exact g_vret dX11_layTold_176 rfl rfl ⟨rfl, i, j, _, rfl, hi, by omega, e1, e2, mMt_dis (by omega) hM, rfl, rfl, rfl, fun c h1 h2 h3 h4 => by simp [put, putC, h1, h2, h3, h4]⟩
    · refine g_aload_n dX11_layTold_73 rfl rfl ?_
      refine g_getf dX11_layTold_74 fX11_41 mW_0 rfl ?_
      refine g_iload_n dX11_layTold_77 rfl rfl ?_
      refine g_iload_n dX11_layTold_78 rfl rfl ?_
      refine g_imul dX11_layTold_79 ?_
      refine g_iload dX11_layTold_80 rfl ?_
      refine g_iadd dX11_layTold_82 ?_
      rw [nI_mul, nI_add]
      refine g_iload dX11_layTold_83 rfl ?_
      refine g_iast dX11_layTold_85 mA11 (vin_n (by omega) (by decide)) (mW_arrN (k' := m * X j + Y j) (fun _ => rfl) (nI_clamp (by omega))) ?_
      rw [put_11]
      refine g_aload_n dX11_layTold_86 rfl rfl ?_
      refine g_getf dX11_layTold_87 fX11_38 mW_0 rfl ?_
      refine g_sipush (v := 512) dX11_layTold_90 (by decide) ?_
      refine g_iload_n dX11_layTold_93 rfl rfl ?_
      refine g_imul dX11_layTold_94 ?_
      rw [show (512 : Int32) = nI 512 from rfl, nI_mul]
      refine g_iload dX11_layTold_95 rfl ?_
      refine g_iadd dX11_layTold_97 ?_
      rw [nI_add]
      refine g_iload_n dX11_layTold_98 rfl rfl ?_
      refine g_i2b dX11_layTold_99 ?_
      refine g_bast dX11_layTold_100 mA10 (vin_n (by omega) (by decide)) (mW_arrB (k' := 512 * q + j) (fun _ => rfl) (nI_clamp (by omega)) (byt (by omega))) ?_
      refine g_aload_n dX11_layTold_101 rfl rfl ?_
      refine g_getf dX11_layTold_102 fX11_13 mW_0 rfl ?_
      refine g_iconst (v := 4) dX11_layTold_105 (by decide) ?_
      refine g_iload_n dX11_layTold_106 rfl rfl ?_
      refine g_imul dX11_layTold_107 ?_
      rw [jx4]
      refine g_iald dX11_layTold_108 mA2 (vin_n (by omega) (by decide)) ?_
      rw [nI_clamp (by omega)]
      refine g_iload dX11_layTold_109 rfl ?_
      refine g_imul dX11_layTold_111 ?_
      refine g_aload_n dX11_layTold_112 rfl rfl ?_
      refine g_getf dX11_layTold_113 fX11_13 mW_0 rfl ?_
      refine g_iconst (v := 4) dX11_layTold_116 (by decide) ?_
      refine g_iload_n dX11_layTold_117 rfl rfl ?_
      refine g_imul dX11_layTold_118 ?_
      refine g_iconst (v := 1) dX11_layTold_119 (by decide) ?_
      refine g_iadd dX11_layTold_120 ?_
      rw [jx41]
      refine g_iald dX11_layTold_121 mA2 (vin_n (by omega) (by decide)) ?_
      rw [nI_clamp (by omega)]
      refine g_iload_n dX11_layTold_122 rfl rfl ?_
      refine g_imul dX11_layTold_123 ?_
      refine g_iadd dX11_layTold_124 ?_
      refine g_iload_n dX11_layTold_125 rfl rfl ?_
      refine g_S2r (CX11_mod hm0) kX11_layTold_159 dX11_layTold_126 ⟨rfl, rfl⟩ (Nat.le_of_ble_eq_true rfl) ⟨(Nat.le_of_ble_eq_true rfl), (Nat.le_of_ble_eq_true rfl)⟩ ?_
      refine Go.eq rfl rfl (congrArg (fun z => [Value.int z]) (show _ = nI (Y (j + 1)) from hYs j)) rfl ?_
      refine g_istore dX11_layTold_129 (Nat.le_of_ble_eq_true rfl) rfl ?_
      refine g_iload dX11_layTold_131 rfl ?_
      refine g_istore_n dX11_layTold_133 rfl (Nat.le_of_ble_eq_true rfl) rfl ?_
      refine g_iload dX11_layTold_134 rfl ?_
      refine g_istore dX11_layTold_136 (Nat.le_of_ble_eq_true rfl) rfl ?_
      refine g_iinc (v := 1) dX11_layTold_138 (by decide) rfl (Nat.le_of_ble_eq_true rfl) rfl ?_
      refine g_goto (tgt := 57) dX11_layTold_141 rfl ?_
      refine Go.eq rfl (show _ = _ by rw [← nI_1 j, hXs j]; rfl) rfl (show mW (put (putC (putC σ 11 (upd μ (m * X j + Y j) (nI j))) 10 (ru (σ 10) (512 * q) j (fun k => nI (X k)))) 10 (512 * q + j) (nI (X j))) t = _ by rw [put_putC, ru_1 rfl]) (ih (j + 1) (upd μ (m * X j + Y j) (nI j)) _ (by omega) (mMt_up (by omega) hX hY hM c_70))
set_option maxRecDepth 100000 in
set_option maxHeartbeats 4000000 in
theorem CX11_ltoC {n0 : Nat} (hq : q ≤ 8) (hm : 2 ≤ m ∧ m ≤ 10) (hP : mPr σ q m X Y) (hB : B ≤ 400) (hR : ∃ a b, a < b ∧ b < B ∧ X a = X b ∧ Y a = Y b) : ∀ (d k : Nat), k + d = m * m → Go l mX11_layTold n0 (ltQ σ t q X Y B) (0, 0) 2 [some (.ref 0), some (.int (nI q)), some (.int (nI m)), some (.int (nI k)), none, none, none] [] (mW (putC σ 11 (ru (σ 11) 0 k (fun _ => 2000000001))) t) := by
  obtain ⟨hX0, hY0, hXs, hYs, hX, hY⟩ := hP
  have hm0 : ¬ nI m = 0 := fun z => by have := (nI0 (n := m) (by omega)).mp z; omega
  have hmm : m * m ≤ 10 * 10 := Nat.mul_le_mul hm.2 hm.2
  intro d
  induction d with
  | zero =>
    intro k hk
    have e1 : k = m * m := by omega
    subst e1
    refine g_iload_n dX11_layTold_2 rfl rfl ?_
    refine g_iload_n dX11_layTold_3 rfl rfl ?_
    refine g_iload_n dX11_layTold_4 rfl rfl ?_
    refine g_imul dX11_layTold_5 ?_
    rw [nI_mul]
    refine g_icmp_ge (tgt := 23) dX11_layTold_6 rfl (fun c_6 => ?_) (fun c_6 => by exact absurd (nI_le (by omega) (by omega)) c_6)
    refine g_aload_n dX11_layTold_23 rfl rfl ?_
    refine g_getf dX11_layTold_24 fX11_13 mW_0 rfl ?_
    refine g_iconst (v := 4) dX11_layTold_27 (by decide) ?_
    refine g_iload_n dX11_layTold_28 rfl rfl ?_
    refine g_imul dX11_layTold_29 ?_
    refine g_iconst (v := 2) dX11_layTold_30 (by decide) ?_
    refine g_iadd dX11_layTold_31 ?_
    rw [jx42]
    refine g_iald dX11_layTold_32 mA2 (vin_n (by omega) (by decide)) ?_
    rw [nI_clamp (by omega)]
    refine g_iload_n dX11_layTold_33 rfl rfl ?_
    refine g_S2r (CX11_mod hm0) kX11_layTold_159 dX11_layTold_34 ⟨rfl, rfl⟩ (Nat.le_of_ble_eq_true rfl) ⟨(Nat.le_of_ble_eq_true rfl), (Nat.le_of_ble_eq_true rfl)⟩ ?_
    refine Go.eq rfl rfl (congrArg (fun z => [Value.int z]) (show _ = nI (X 0) from hX0)) rfl ?_
    refine g_istore_n dX11_layTold_37 rfl (Nat.le_of_ble_eq_true rfl) rfl ?_
    refine g_aload_n dX11_layTold_38 rfl rfl ?_
    refine g_getf dX11_layTold_39 fX11_13 mW_0 rfl ?_
    refine g_iconst (v := 4) dX11_layTold_42 (by decide) ?_
    refine g_iload_n dX11_layTold_43 rfl rfl ?_
    refine g_imul dX11_layTold_44 ?_
    refine g_iconst (v := 3) dX11_layTold_45 (by decide) ?_
    refine g_iadd dX11_layTold_46 ?_
    rw [jx43]
    refine g_iald dX11_layTold_47 mA2 (vin_n (by omega) (by decide)) ?_
    rw [nI_clamp (by omega)]
    refine g_iload_n dX11_layTold_48 rfl rfl ?_
    refine g_S2r (CX11_mod hm0) kX11_layTold_159 dX11_layTold_49 ⟨rfl, rfl⟩ (Nat.le_of_ble_eq_true rfl) ⟨(Nat.le_of_ble_eq_true rfl), (Nat.le_of_ble_eq_true rfl)⟩ ?_
    refine Go.eq rfl rfl (congrArg (fun z => [Value.int z]) (show _ = nI (Y 0) from hY0)) rfl ?_
    refine g_istore dX11_layTold_52 (Nat.le_of_ble_eq_true rfl) rfl ?_
    refine g_iconst (v := 0) dX11_layTold_54 (by decide) ?_
    refine g_istore dX11_layTold_55 (Nat.le_of_ble_eq_true rfl) rfl ?_
    exact Go.eq rfl rfl rfl (show mW (putC σ 11 (ru (σ 11) 0 (m * m) (fun _ => 2000000001))) t = mW (putC (putC σ 11 (ru (σ 11) 0 (m * m) (fun _ => 2000000001))) 10 (ru (σ 10) (512 * q) 0 (fun k => nI (X k)))) t by rw [ru_0]; exact congrArg (fun z => mW z t) (putC_id (σ := putC σ 11 (ru (σ 11) 0 (m * m) (fun _ => 2000000001))) (c := 10)).symm) (CX11_ltoL hq hm ⟨hX0, hY0, hXs, hYs, hX, hY⟩ hB hR B 0 _ none (by omega) ⟨fun i hi => absurd hi (by omega), fun u v hu hv _ => by have h1 : m * u + v < m * m := Nat.lt_of_lt_of_le (Nat.add_lt_add_left hv _) (by rw [← Nat.mul_succ]; exact Nat.mul_le_mul_left m hu); have h3 := ru_in (V := σ 11) (F := fun _ => (2000000001 : Int32)) (s := 0) h1; rw [Nat.zero_add] at h3; exact h3⟩)
  | succ d ih =>
    intro k hk
    refine g_iload_n dX11_layTold_2 rfl rfl ?_
    refine g_iload_n dX11_layTold_3 rfl rfl ?_
    refine g_iload_n dX11_layTold_4 rfl rfl ?_
    refine g_imul dX11_layTold_5 ?_
    rw [nI_mul]
    refine g_icmp_ge (tgt := 23) dX11_layTold_6 rfl (fun c_6 => by exact absurd c_6 (nI_ge (by omega) (by omega))) (fun c_6 => ?_)
    refine g_aload_n dX11_layTold_9 rfl rfl ?_
    refine g_getf dX11_layTold_10 fX11_41 mW_0 rfl ?_
    refine g_iload_n dX11_layTold_13 rfl rfl ?_
    refine g_ldc dX11_layTold_14 tb_854 ?_
    refine g_iast dX11_layTold_16 mA11 (vin_n (by omega) (by decide)) (mW_arrN (k' := k) (fun _ => rfl) (nI_clamp (by omega))) ?_
    refine g_iinc (v := 1) dX11_layTold_17 (by decide) rfl (Nat.le_of_ble_eq_true rfl) rfl ?_
    refine g_goto (tgt := 2) dX11_layTold_20 rfl ?_
    exact Go.eq rfl (show _ = _ by rw [← nI_1 k]; rfl) rfl (show mW (put (putC σ 11 (ru (σ 11) 0 k (fun _ => 2000000001))) 11 k 2000000001) t = _ by rw [put_putC]; have e := ru_1 (V := σ 11) (F := fun _ => 2000000001) (s := 0) (j := k) rfl; rw [Nat.zero_add] at e; rw [e]) (ih (k + 1) (by omega))
set_option maxRecDepth 100000 in
set_option maxHeartbeats 4000000 in
theorem CX11_layTold (hq : q ≤ 8) (hm : 2 ≤ m ∧ m ≤ 10) (hP : mPr σ q m X Y) (hB : B ≤ 400) (hR : ∃ a b, a < b ∧ b < B ∧ X a = X b ∧ Y a = Y b) : Ct l mX11_layTold [.ref 0, .int (nI q), .int (nI m)] (mW σ t) (ltQ σ t q X Y B) := by
  refine Ct.of rfl (Nat.le_of_ble_eq_true rfl) ?_
  refine g_iconst (v := 0) dX11_layTold_0 (by decide) ?_
  refine g_istore_n dX11_layTold_1 rfl (Nat.le_of_ble_eq_true rfl) rfl ?_
  exact Go.eq rfl rfl rfl (by rw [ru_0, putC_id]) (CX11_ltoC hq hm hP hB hR (m * m) 0 (by omega))
end
