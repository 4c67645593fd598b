theorem n17 (a : Nat) : (17 : Int32) * nI a = nI (17 * a) := nI_mul 17 a
def mG (σ τ : Nat → Nat → Int32) : Prop := ∀ c, c ≠ 12 → τ c = σ c
theorem mG.put {σ τ : Nat → Nat → Int32} {k : Nat} {v : Int32} (h : mG σ τ) : mG σ (put τ 12 k v) := fun c hc => (put_ne hc).trans (h c hc)
def swK (T : Nat → Nat → Nat) (a b k : Nat) : Nat → Nat → Nat := fun i c => if c < k then swT T a b i c else T i c
theorem swK_at {T : Nat → Nat → Nat} {a b k i : Nat} : swK T a b k i k = T i k := if_neg (Nat.lt_irrefl k)
theorem swK_st {τ : Nat → Nat → Int32} {T : Nat → Nat → Nat} {a b k : Nat} (ha : a < 16) (hb : b < 16) (hk : k < 17) (h : tbl τ (swK T a b k)) : tbl (put (put τ 12 (17 * a + k) (nI (T b k))) 12 (17 * b + k) (nI (T a k))) (swK T a b (k + 1)) := by
  refine tbl_put (T := fun i c => if i = a ∧ c = k then T b k else swK T a b k i c) (tbl_put h ha hk ?_ ?_) hb hk ?_ ?_
  · rw [if_pos ⟨rfl, rfl⟩]
  · intro i c _ _ hn; rw [if_neg hn]
  · unfold swK swT; congr 1; grind
  · intro i c _ _ hn; unfold swK swT; grind
def muK (T : Nat → Nat → Nat) (a b P k : Nat) : Nat → Nat → Nat := fun i c => if c < k then muT T a b P i c else T i c
theorem muK_at {T : Nat → Nat → Nat} {a b P k i : Nat} : muK T a b P k i k = T i k := if_neg (Nat.lt_irrefl k)
theorem muK_st {τ : Nat → Nat → Int32} {T : Nat → Nat → Nat} {a b P k : Nat} (ha : a < 16) (hk : k < 17) (h : tbl τ (muK T a b P k)) : tbl (put τ 12 (17 * a + k) (nI (T a k * b % P))) (muK T a b P (k + 1)) := by
  refine tbl_put h ha hk ?_ ?_
  · unfold muK muT; congr 1; grind
  · intro i c _ _ hn; unfold muK muT; grind
def taK (T : Nat → Nat → Nat) (f a c P k : Nat) : Nat → Nat → Nat := fun i e => if e < k then taT T f a c P i e else T i e
theorem taK_at {T : Nat → Nat → Nat} {f a c P k i : Nat} : taK T f a c P k i k = T i k := if_neg (Nat.lt_irrefl k)
theorem taK_st {τ : Nat → Nat → Int32} {T : Nat → Nat → Nat} {f a c P k : Nat} (hf : f < 16) (hk : k < 17) (h : tbl τ (taK T f a c P k)) : tbl (put τ 12 (17 * f + k) (nI (sbN P (T f k) (T f c) (T a k)))) (taK T f a c P (k + 1)) := by
  refine tbl_put h hf hk ?_ ?_
  · unfold taK taT; congr 1; grind
  · intro i c _ _ hn; unfold taK taT; grind
theorem tbl_17 {τ : Nat → Nat → Int32} {T T' : Nat → Nat → Nat} (h : tbl τ T) (e : ∀ i k, k < 17 → T i k = T' i k) : tbl τ T' := fun i k hi hk => by rw [h i k hi hk, e i k hk]
section
variable {l : Launch} {σ : Nat → Nat → Int32} {t : Nat → Int64} {T : Nat → Nat → Nat}
set_option maxRecDepth 100000 in
set_option maxHeartbeats 4000000 in
theorem CX11_swL {n0 a b : Nat} (ha : a < 16) (hb : b < 16) : ∀ (d k : Nat) (τ : Nat → Nat → Int32) (x4 : Option Value), k + d = 17 → mG σ τ → tbl τ (swK T a b k) → Go l mX11_swapLines n0 (fun r w' => r = none ∧ ∃ τ', w' = mW τ' t ∧ mG σ τ' ∧ tbl τ' (swT T a b)) (0, 0) 2 [some (.ref 0), some (.int (nI a)), some (.int (nI b)), some (.int (nI k)), x4] [] (mW τ t) := by
  intro d
  induction d with
  | zero =>
    intro k τ x4 hk hG hT
    refine g_iload_n dX11_swapLines_2 rfl rfl ?_
    refine g_bipush (v := 17) dX11_swapLines_3 (by decide) ?_
    refine g_icmp_ge (tgt := 62) dX11_swapLines_5 rfl (fun c_5 => ?_) (fun c_5 => by exact absurd (nI_le (a := 17) (by omega) (by omega)) c_5)
    exact g_vret dX11_swapLines_62 rfl rfl ⟨rfl, τ, rfl, hG, tbl_17 hT (fun i c hc => if_pos (by omega))⟩
  | succ d ih =>
    intro k τ x4 hk hG hT
    have va : τ 12 (17 * a + k) = nI (T a k) := by rw [hT a k (by omega) (by omega), swK_at]
    have vb : τ 12 (17 * b + k) = nI (T b k) := by rw [hT b k (by omega) (by omega), swK_at]
    refine g_iload_n dX11_swapLines_2 rfl rfl ?_
    refine g_bipush (v := 17) dX11_swapLines_3 (by decide) ?_
    refine g_icmp_ge (tgt := 62) dX11_swapLines_5 rfl (fun c_5 => by exact absurd c_5 (nI_ge (b := 17) (by omega) (by omega))) (fun c_5 => ?_)
    refine g_aload_n dX11_swapLines_8 rfl rfl ?_
    refine g_getf dX11_swapLines_9 fX11_44 mW_0 rfl ?_
    refine g_bipush (v := 17) dX11_swapLines_12 (by decide) ?_
    refine g_iload_n dX11_swapLines_14 rfl rfl ?_
    refine g_imul dX11_swapLines_15 ?_
    rw [n17 a]
    refine g_iload_n dX11_swapLines_16 rfl rfl ?_
    refine g_iadd dX11_swapLines_17 ?_
    rw [nI_add]
    refine g_iald dX11_swapLines_18 mA12 (vin_n (by omega) (by decide)) ?_
    rw [nI_clamp (by omega), va]
    refine g_istore dX11_swapLines_19 (Nat.le_of_ble_eq_true rfl) rfl ?_
    refine g_aload_n dX11_swapLines_21 rfl rfl ?_
    refine g_getf dX11_swapLines_22 fX11_44 mW_0 rfl ?_
    refine g_bipush (v := 17) dX11_swapLines_25 (by decide) ?_
    refine g_iload_n dX11_swapLines_27 rfl rfl ?_
    refine g_imul dX11_swapLines_28 ?_
    rw [n17 a]
    refine g_iload_n dX11_swapLines_29 rfl rfl ?_
    refine g_iadd dX11_swapLines_30 ?_
    rw [nI_add]
    refine g_aload_n dX11_swapLines_31 rfl rfl ?_
    refine g_getf dX11_swapLines_32 fX11_44 mW_0 rfl ?_
    refine g_bipush (v := 17) dX11_swapLines_35 (by decide) ?_
    refine g_iload_n dX11_swapLines_37 rfl rfl ?_
    refine g_imul dX11_swapLines_38 ?_
    rw [n17 b]
    refine g_iload_n dX11_swapLines_39 rfl rfl ?_
    refine g_iadd dX11_swapLines_40 ?_
    rw [nI_add]
    refine g_iald dX11_swapLines_41 mA12 (vin_n (by omega) (by decide)) ?_
    rw [nI_clamp (by omega), vb]
    refine g_iast dX11_swapLines_42 mA12 (vin_n (by omega) (by decide)) (mW_arrN (k' := 17 * a + k) (fun _ => rfl) (nI_clamp (by omega))) ?_
    refine g_aload_n dX11_swapLines_43 rfl rfl ?_
    refine g_getf dX11_swapLines_44 fX11_44 mW_0 rfl ?_
    refine g_bipush (v := 17) dX11_swapLines_47 (by decide) ?_
    refine g_iload_n dX11_swapLines_49 rfl rfl ?_
    refine g_imul dX11_swapLines_50 ?_
    rw [n17 b]
    refine g_iload_n dX11_swapLines_51 rfl rfl ?_
    refine g_iadd dX11_swapLines_52 ?_
    rw [nI_add]
    refine g_iload dX11_swapLines_53 rfl ?_
    refine g_iast dX11_swapLines_55 mA12 (vin_n (by omega) (by decide)) (mW_arrN (k' := 17 * b + k) (fun _ => rfl) (nI_clamp (by omega))) ?_
    refine g_iinc (v := 1) dX11_swapLines_56 (by decide) rfl (Nat.le_of_ble_eq_true rfl) rfl ?_
    refine g_goto (tgt := 2) dX11_swapLines_59 rfl ?_
    exact Go.eq rfl (show _ = _ by rw [← nI_1 k]; rfl) rfl rfl (ih (k + 1) _ _ (by omega) hG.put.put (swK_st ha hb (by omega) hT))
set_option maxRecDepth 100000 in
set_option maxHeartbeats 4000000 in
theorem CX11_swapLines {a b : Nat} (ha : a < 16) (hb : b < 16) (hT : tbl σ T) : Ct l mX11_swapLines [.ref 0, .int (nI a), .int (nI b)] (mW σ t) (fun r w' => r = none ∧ ∃ τ', w' = mW τ' t ∧ mG σ τ' ∧ tbl τ' (swT T a b)) := by
  refine Ct.of rfl (Nat.le_of_ble_eq_true rfl) ?_
  refine g_iconst (v := 0) dX11_swapLines_0 (by decide) ?_
  refine g_istore_n dX11_swapLines_1 rfl (Nat.le_of_ble_eq_true rfl) rfl ?_
  exact Go.eq rfl rfl rfl rfl (CX11_swL ha hb 17 0 σ none (by omega) (fun _ _ => rfl) (tbl_17 hT (fun i c _ => (if_neg (by omega)).symm)))
set_option maxRecDepth 100000 in
set_option maxHeartbeats 4000000 in
theorem CX11_moL {n0 a b c P : Nat} (hP : 2 ≤ P ∧ P < 8) (ha : a < 16) (hc : c < 17) (hB : ∀ i k, T i k < P) (hb : b < P ∧ T a c * b % P = 1) : ∀ (d k : Nat) (τ : Nat → Nat → Int32), k + d = 17 → mG σ τ → tbl τ (muK T a b P k) → Go l mX11_makeOne n0 (fun r w' => r = none ∧ ∃ τ' b, w' = mW τ' t ∧ mG σ τ' ∧ b < P ∧ T a c * b % P = 1 ∧ tbl τ' (muT T a b P)) (0, 0) 32 [some (.ref 0), some (.int (nI a)), some (.int (nI c)), some (.int (nI P)), some (.int (nI b)), some (.int (nI k))] [] (mW τ t) := by
  intro d
  induction d with
  | zero =>
    intro k τ hk hG hT
    refine g_iload dX11_makeOne_32 rfl ?_
    refine g_bipush (v := 17) dX11_makeOne_34 (by decide) ?_
    refine g_icmp_ge (tgt := 74) dX11_makeOne_36 rfl (fun c_36 => ?_) (fun c_36 => by exact absurd (nI_le (a := 17) (by omega) (by omega)) c_36)
    exact g_vret dX11_makeOne_74 rfl rfl ⟨rfl, τ, b, rfl, hG, hb.1, hb.2, tbl_17 hT (fun i c hc => if_pos (by omega))⟩
  | succ d ih =>
    intro k τ hk hG hT
    have va : τ 12 (17 * a + k) = nI (T a k) := by rw [hT a k (by omega) (by omega), muK_at]
    have hx : T a k * b ≤ 7 * 7 := Nat.mul_le_mul (by have := hB a k; omega) (by omega)
    refine g_iload dX11_makeOne_32 rfl ?_
    refine g_bipush (v := 17) dX11_makeOne_34 (by decide) ?_
    refine g_icmp_ge (tgt := 74) dX11_makeOne_36 rfl (fun c_36 => by exact absurd c_36 (nI_ge (b := 17) (by omega) (by omega))) (fun c_36 => ?_)
    refine g_aload_n dX11_makeOne_39 rfl rfl ?_
    refine g_getf dX11_makeOne_40 fX11_44 mW_0 rfl ?_
    refine g_bipush (v := 17) dX11_makeOne_43 (by decide) ?_
    refine g_iload_n dX11_makeOne_45 rfl rfl ?_
    refine g_imul dX11_makeOne_46 ?_
    rw [n17 a]
    refine g_iload dX11_makeOne_47 rfl ?_
    refine g_iadd dX11_makeOne_49 ?_
    rw [nI_add]
    refine g_aload_n dX11_makeOne_50 rfl rfl ?_
    refine g_getf dX11_makeOne_51 fX11_44 mW_0 rfl ?_
    refine g_bipush (v := 17) dX11_makeOne_54 (by decide) ?_
    refine g_iload_n dX11_makeOne_56 rfl rfl ?_
    refine g_imul dX11_makeOne_57 ?_
    rw [n17 a]
    refine g_iload dX11_makeOne_58 rfl ?_
    refine g_iadd dX11_makeOne_60 ?_
    rw [nI_add]
    refine g_iald dX11_makeOne_61 mA12 (vin_n (by omega) (by decide)) ?_
    rw [nI_clamp (by omega), va]
    refine g_iload dX11_makeOne_62 rfl ?_
    refine g_imul dX11_makeOne_64 ?_
    rw [nI_mul]
    refine g_iload_n dX11_makeOne_65 rfl rfl ?_
    refine g_irem dX11_makeOne_66 (nI_ne0 (by omega) (by omega)) ?_
    rw [nI_rem (by omega) (by omega)]
    refine g_iast dX11_makeOne_67 mA12 (vin_n (by omega) (by decide)) (mW_arrN (k' := 17 * a + k) (fun _ => rfl) (nI_clamp (by omega))) ?_
    refine g_iinc (v := 1) dX11_makeOne_68 (by decide) rfl (Nat.le_of_ble_eq_true rfl) rfl ?_
    refine g_goto (tgt := 32) dX11_makeOne_71 rfl ?_
    exact Go.eq rfl (show _ = _ by rw [← nI_1 k]; rfl) rfl rfl (ih (k + 1) _ (by omega) hG.put (muK_st ha (by omega) hT))
set_option maxRecDepth 100000 in
set_option maxHeartbeats 4000000 in
theorem CX11_mo1 {n0 a c P : Nat} (hP : 2 ≤ P ∧ P < 8) (ha : a < 16) (hc : c < 17) (hB : ∀ i k, T i k < P) (hT : tbl σ T) : ∀ (d b : Nat), b + d = P → (∃ y, b ≤ y ∧ y < P ∧ T a c * y % P = 1) → Go l mX11_makeOne n0 (fun r w' => r = none ∧ ∃ τ' b, w' = mW τ' t ∧ mG σ τ' ∧ b < P ∧ T a c * b % P = 1 ∧ tbl τ' (muT T a b P)) (0, 0) 3 [some (.ref 0), some (.int (nI a)), some (.int (nI c)), some (.int (nI P)), some (.int (nI b)), none] [] (mW σ t) := by
  intro d
  induction d with
  | zero =>
    intro b hb hex
    obtain ⟨y, h1, h2, h3⟩ := hex
    exact absurd h2 (by omega)
  | succ d ih =>
    intro b hb hex
    have hx : T a c * b ≤ 7 * 7 := Nat.mul_le_mul (by have := hB a c; omega) (by omega)
    refine g_aload_n dX11_makeOne_3 rfl rfl ?_
    refine g_getf dX11_makeOne_4 fX11_44 mW_0 rfl ?_
    refine g_bipush (v := 17) dX11_makeOne_7 (by decide) ?_
    refine g_iload_n dX11_makeOne_9 rfl rfl ?_
    refine g_imul dX11_makeOne_10 ?_
    rw [n17 a]
    refine g_iload_n dX11_makeOne_11 rfl rfl ?_
    refine g_iadd dX11_makeOne_12 ?_
    rw [nI_add]
    refine g_iald dX11_makeOne_13 mA12 (vin_n (by omega) (by decide)) ?_
    rw [nI_clamp (by omega), hT a c (by omega) (by omega)]
    refine g_iload dX11_makeOne_14 rfl ?_
    refine g_imul dX11_makeOne_16 ?_
    rw [nI_mul]
    refine g_iload_n dX11_makeOne_17 rfl rfl ?_
    refine g_irem dX11_makeOne_18 (nI_ne0 (by omega) (by omega)) ?_
    rw [nI_rem (by omega) (by omega)]
    refine g_iconst (v := 1) dX11_makeOne_19 (by decide) ?_
    refine g_icmp_eq (tgt := 29) dX11_makeOne_20 rfl (fun c_20 => ?_) (fun c_20 => ?_)
    · refine g_iconst (v := 0) dX11_makeOne_29 (by decide) ?_
      refine g_istore dX11_makeOne_30 (Nat.le_of_ble_eq_true rfl) rfl ?_
      exact Go.eq rfl rfl rfl rfl (CX11_moL hP ha hc hB ⟨by omega, nI_inj (b := 1) (by have := Nat.mod_lt (T a c * b) (show 0 < P by omega); omega) (by decide) c_20⟩ 17 0 σ (by omega) (fun _ _ => rfl) (tbl_17 hT (fun i c _ => (if_neg (by omega)).symm)))
    · refine g_iinc (v := 1) dX11_makeOne_23 (by decide) rfl (Nat.le_of_ble_eq_true rfl) rfl ?_
      refine g_goto (tgt := 3) dX11_makeOne_26 rfl ?_
      refine Go.eq rfl (show _ = _ by rw [← nI_1 b]; rfl) rfl rfl (ih (b + 1) (by omega) ?_)
      obtain ⟨y, h1, h2, h3⟩ := hex
      rcases Nat.lt_or_ge b y with g | g
      · exact ⟨y, g, h2, h3⟩
      · exfalso
        apply c_20
        rw [show b = y by omega, h3]; rfl
set_option maxRecDepth 100000 in
set_option maxHeartbeats 4000000 in
theorem CX11_makeOne {a c P : Nat} (hP : 2 ≤ P ∧ P < 8) (ha : a < 16) (hc : c < 17) (hB : ∀ i k, T i k < P) (hT : tbl σ T) (hex : ∃ y, 1 ≤ y ∧ y < P ∧ T a c * y % P = 1) : Ct l mX11_makeOne [.ref 0, .int (nI a), .int (nI c), .int (nI P)] (mW σ t) (fun r w' => r = none ∧ ∃ τ' b, w' = mW τ' t ∧ mG σ τ' ∧ b < P ∧ T a c * b % P = 1 ∧ tbl τ' (muT T a b P)) := by
  refine Ct.of rfl (Nat.le_of_ble_eq_true rfl) ?_
  refine g_iconst (v := 1) dX11_makeOne_0 (by decide) ?_
  refine g_istore dX11_makeOne_1 (Nat.le_of_ble_eq_true rfl) rfl ?_
  exact Go.eq rfl rfl rfl rfl (CX11_mo1 hP ha hc hB hT (P - 1) 1 (by omega) hex)
set_option maxRecDepth 100000 in
set_option maxHeartbeats 4000000 in
theorem CX11_taL {n0 f a c P : Nat} (hP : 2 ≤ P ∧ P < 8) (hf : f < 16) (ha : a < 16) (hc : c < 17) (hB : ∀ i k, T i k < P) : ∀ (d k : Nat) (τ : Nat → Nat → Int32), k + d = 17 → mG σ τ → tbl τ (taK T f a c P k) → Go l mX11_takeAway n0 (fun r w' => r = none ∧ ∃ τ', w' = mW τ' t ∧ mG σ τ' ∧ tbl τ' (taT T f a c P)) (0, 0) 16 [some (.ref 0), some (.int (nI f)), some (.int (nI a)), some (.int (nI c)), some (.int (nI P)), some (.int (nI (T f c))), some (.int (nI k))] [] (mW τ t) := by
  intro d
  induction d with
  | zero =>
    intro k τ hk hG hT
    refine g_iload dX11_takeAway_16 rfl ?_
    refine g_bipush (v := 17) dX11_takeAway_18 (by decide) ?_
    refine g_icmp_ge (tgt := 74) dX11_takeAway_20 rfl (fun c_20 => ?_) (fun c_20 => by exact absurd (nI_le (a := 17) (by omega) (by omega)) c_20)
    exact g_vret dX11_takeAway_74 rfl rfl ⟨rfl, τ, rfl, hG, tbl_17 hT (fun i c hc => if_pos (by omega))⟩
  | succ d ih =>
    intro k τ hk hG hT
    have vf : τ 12 (17 * f + k) = nI (T f k) := by rw [hT f k (by omega) (by omega), taK_at]
    have va : τ 12 (17 * a + k) = nI (T a k) := by rw [hT a k (by omega) (by omega), taK_at]
    refine g_iload dX11_takeAway_16 rfl ?_
    refine g_bipush (v := 17) dX11_takeAway_18 (by decide) ?_
    refine g_icmp_ge (tgt := 74) dX11_takeAway_20 rfl (fun c_20 => by exact absurd c_20 (nI_ge (b := 17) (by omega) (by omega))) (fun c_20 => ?_)
    refine g_aload_n dX11_takeAway_23 rfl rfl ?_
    refine g_getf dX11_takeAway_24 fX11_44 mW_0 rfl ?_
    refine g_bipush (v := 17) dX11_takeAway_27 (by decide) ?_
    refine g_iload_n dX11_takeAway_29 rfl rfl ?_
    refine g_imul dX11_takeAway_30 ?_
    rw [n17 f]
    refine g_iload dX11_takeAway_31 rfl ?_
    refine g_iadd dX11_takeAway_33 ?_
    rw [nI_add]
    refine g_aload_n dX11_takeAway_34 rfl rfl ?_
    refine g_getf dX11_takeAway_35 fX11_44 mW_0 rfl ?_
    refine g_bipush (v := 17) dX11_takeAway_38 (by decide) ?_
    refine g_iload_n dX11_takeAway_40 rfl rfl ?_
    refine g_imul dX11_takeAway_41 ?_
    rw [n17 f]
    refine g_iload dX11_takeAway_42 rfl ?_
    refine g_iadd dX11_takeAway_44 ?_
    rw [nI_add]
    refine g_iald dX11_takeAway_45 mA12 (vin_n (by omega) (by decide)) ?_
    rw [nI_clamp (by omega), vf]
    refine g_iload dX11_takeAway_46 rfl ?_
    refine g_aload_n dX11_takeAway_48 rfl rfl ?_
    refine g_getf dX11_takeAway_49 fX11_44 mW_0 rfl ?_
    refine g_bipush (v := 17) dX11_takeAway_52 (by decide) ?_
    refine g_iload_n dX11_takeAway_54 rfl rfl ?_
    refine g_imul dX11_takeAway_55 ?_
    rw [n17 a]
    refine g_iload dX11_takeAway_56 rfl ?_
    refine g_iadd dX11_takeAway_58 ?_
    rw [nI_add]
    refine g_iald dX11_takeAway_59 mA12 (vin_n (by omega) (by decide)) ?_
    rw [nI_clamp (by omega), va]
    refine g_imul dX11_takeAway_60 ?_
    refine g_isub dX11_takeAway_61 ?_
    refine g_iload dX11_takeAway_62 rfl ?_
    refine g_S2r (CX11_mod (nI_ne0 (by omega) (by omega))) kX11_takeAway_159 dX11_takeAway_64 ⟨rfl, rfl⟩ (Nat.le_of_ble_eq_true rfl) ⟨(Nat.le_of_ble_eq_true rfl), (Nat.le_of_ble_eq_true rfl)⟩ ?_
    rw [sbN_md P hP.2 hP.1 _ (hB f k) _ (hB f c) _ (hB a k)]
    refine g_iast dX11_takeAway_67 mA12 (vin_n (by omega) (by decide)) (mW_arrN (k' := 17 * f + k) (fun _ => rfl) (nI_clamp (by omega))) ?_
    refine g_iinc (v := 1) dX11_takeAway_68 (by decide) rfl (Nat.le_of_ble_eq_true rfl) rfl ?_
    refine g_goto (tgt := 16) dX11_takeAway_71 rfl ?_
    exact Go.eq rfl (show _ = _ by rw [← nI_1 k]; rfl) rfl rfl (ih (k + 1) _ (by omega) hG.put (taK_st hf (by omega) hT))
set_option maxRecDepth 100000 in
set_option maxHeartbeats 4000000 in
theorem CX11_takeAway {f a c P : Nat} (hP : 2 ≤ P ∧ P < 8) (hf : f < 16) (ha : a < 16) (hc : c < 17) (hB : ∀ i k, T i k < P) (hT : tbl σ T) : Ct l mX11_takeAway [.ref 0, .int (nI f), .int (nI a), .int (nI c), .int (nI P)] (mW σ t) (fun r w' => r = none ∧ ∃ τ', w' = mW τ' t ∧ mG σ τ' ∧ tbl τ' (taT T f a c P)) := by
  refine Ct.of rfl (Nat.le_of_ble_eq_true rfl) ?_
  refine g_aload_n dX11_takeAway_0 rfl rfl ?_
  refine g_getf dX11_takeAway_1 fX11_44 mW_0 rfl ?_
  refine g_bipush (v := 17) dX11_takeAway_4 (by decide) ?_
  refine g_iload_n dX11_takeAway_6 rfl rfl ?_
  refine g_imul dX11_takeAway_7 ?_
  rw [n17 f]
  refine g_iload_n dX11_takeAway_8 rfl rfl ?_
  refine g_iadd dX11_takeAway_9 ?_
  rw [nI_add]
  refine g_iald dX11_takeAway_10 mA12 (vin_n (by omega) (by decide)) ?_
  rw [nI_clamp (by omega), hT f c (by omega) (by omega)]
  refine g_istore dX11_takeAway_11 (Nat.le_of_ble_eq_true rfl) rfl ?_
  refine g_iconst (v := 0) dX11_takeAway_13 (by decide) ?_
  refine g_istore dX11_takeAway_14 (Nat.le_of_ble_eq_true rfl) rfl ?_
  exact Go.eq rfl rfl rfl rfl (CX11_taL hP hf ha hc hB 17 0 σ (by omega) (fun _ _ => rfl) (tbl_17 hT (fun i c _ => (if_neg (by omega)).symm)))
set_option maxRecDepth 100000 in
set_option maxHeartbeats 4000000 in
theorem CX11_lwL {n0 u m c P : Nat} (hP : P < 8) (hm : m ≤ 16) (hc : c < 17) (hB : ∀ i k, T i k < P) (hT : tbl σ T) : ∀ (d j : Nat), j + d = m → Go l mX11_lineWith n0 (q_eq (some (.int (nI (fs (fun i => decide (¬ T i c = 0)) d j)))) (mW σ t)) (0, 0) 3 [some (.ref 0), some (.int (nI u)), some (.int (nI m)), some (.int (nI c)), some (.int (nI j))] [] (mW σ t) := by
  intro d
  induction d with
  | zero =>
    intro j hj
    refine g_iload dX11_lineWith_3 rfl ?_
    refine g_iload_n dX11_lineWith_5 rfl rfl ?_
    refine g_icmp_ge (tgt := 30) dX11_lineWith_6 rfl (fun c_6 => ?_) (fun c_6 => by exact absurd (nI_le (by omega) (by omega)) c_6)
    refine g_iload dX11_lineWith_30 rfl ?_
    exact g_iret dX11_lineWith_32 rfl rfl ⟨rfl, rfl⟩
  | succ d ih =>
    intro j hj
    refine g_iload dX11_lineWith_3 rfl ?_
    refine g_iload_n dX11_lineWith_5 rfl rfl ?_
    refine g_icmp_ge (tgt := 30) dX11_lineWith_6 rfl (fun c_6 => by exact absurd c_6 (nI_ge (by omega) (by omega))) (fun c_6 => ?_)
    refine g_aload_n dX11_lineWith_9 rfl rfl ?_
    refine g_getf dX11_lineWith_10 fX11_44 mW_0 rfl ?_
    refine g_bipush (v := 17) dX11_lineWith_13 (by decide) ?_
    refine g_iload dX11_lineWith_15 rfl ?_
    refine g_imul dX11_lineWith_17 ?_
    rw [n17 j]
    refine g_iload_n dX11_lineWith_18 rfl rfl ?_
    refine g_iadd dX11_lineWith_19 ?_
    rw [nI_add]
    refine g_iald dX11_lineWith_20 mA12 (vin_n (by omega) (by decide)) ?_
    rw [nI_clamp (by omega), hT j c (by omega) (by omega)]
    refine g_if_ne (tgt := 30) dX11_lineWith_21 rfl (fun c_21 => ?_) (fun c_21 => ?_)
    · refine g_iload dX11_lineWith_30 rfl ?_
      exact g_iret dX11_lineWith_32 rfl rfl ⟨by rw [fs, if_pos (show decide (¬ T j c = 0) = true from decide_eq_true (fun z => c_21 ((nI0 (by have := hB j c; omega)).mpr z)))], rfl⟩
    · refine g_iinc (v := 1) dX11_lineWith_24 (by decide) rfl (Nat.le_of_ble_eq_true rfl) rfl ?_
      refine g_goto (tgt := 3) dX11_lineWith_27 rfl ?_
      refine Go.mono (Q' := (q_eq (some (.int (nI (fs (fun i => decide (¬ T i c = 0)) d (j + 1))))) (mW σ t))) (fun r w2 h => by rw [fs, if_neg (show ¬ decide (¬ T j c = 0) = true from fun z => (show ¬ T j c = 0 from of_decide_eq_true z) ((nI0 (by have := hB j c; omega)).mp c_21))]; exact h) ?_
      exact Go.eq rfl (show _ = _ by rw [← nI_1 j]; rfl) rfl rfl (ih (j + 1) (by omega))
set_option maxRecDepth 100000 in
set_option maxHeartbeats 4000000 in
theorem CX11_lineWith {u m c P : Nat} (hP : P < 8) (hm : m ≤ 16) (hu : u ≤ m) (hc : c < 17) (hB : ∀ i k, T i k < P) (hT : tbl σ T) : Ct l mX11_lineWith [.ref 0, .int (nI u), .int (nI m), .int (nI c)] (mW σ t) (q_eq (some (.int (nI (fs (fun i => decide (¬ T i c = 0)) (m - u) u)))) (mW σ t)) := by
  refine Ct.of rfl (Nat.le_of_ble_eq_true rfl) ?_
  refine g_iload_n dX11_lineWith_0 rfl rfl ?_
  refine g_istore dX11_lineWith_1 (Nat.le_of_ble_eq_true rfl) rfl ?_
  exact Go.eq rfl rfl rfl rfl (CX11_lwL hP hm hc hB hT (m - u) u (by omega))
end
