def gaT (T : Nat → Nat → Nat) (u k P i : Nat) : Nat → Nat → Nat := fun j c => if j < i ∧ j ≠ u then sbN P (T j c) (T j k) (T u c) else T j c
theorem gaT_u {T : Nat → Nat → Nat} {u k P i c : Nat} : gaT T u k P i u c = T u c := if_neg (fun h => h.2 rfl)
theorem gaT_lo {T : Nat → Nat → Nat} {u k P i j c : Nat} (h : j < i) (h2 : j ≠ u) : gaT T u k P i j c = sbN P (T j c) (T j k) (T u c) := if_pos ⟨h, h2⟩
theorem gaT_hi {T : Nat → Nat → Nat} {u k P i j c : Nat} (h : i ≤ j) : gaT T u k P i j c = T j c := if_neg (fun z => absurd z.1 (by omega))
theorem gaT_st {T : Nat → Nat → Nat} {u k P i : Nat} (hi : i ≠ u) : taT (gaT T u k P i) i u k P = gaT T u k P (i + 1) := by
  funext j c
  unfold taT
  by_cases e : j = i
  · subst e
    rw [if_pos rfl, gaT_hi (Nat.le_refl _), gaT_hi (Nat.le_refl _), gaT_u, gaT_lo (by omega) hi]
  · rw [if_neg e]
    unfold gaT
    by_cases e2 : j < i ∧ j ≠ u
    · rw [if_pos e2, if_pos ⟨by omega, e2.2⟩]
    · rw [if_neg e2, if_neg (by omega)]
theorem gaT_sk {T : Nat → Nat → Nat} {u k P : Nat} : gaT T u k P (u + 1) = gaT T u k P u := by
  funext j c
  unfold gaT
  by_cases e2 : j < u ∧ j ≠ u
  · rw [if_pos e2, if_pos ⟨by omega, e2.2⟩]
  · rw [if_neg e2, if_neg (by omega)]
theorem gaT_0 {T : Nat → Nat → Nat} {u k P : Nat} : gaT T u k P 0 = T := by
  funext j c
  exact gaT_hi (Nat.zero_le j)
theorem gaT_lt {T : Nat → Nat → Nat} {u k P i : Nat} (hP : 0 < P) (hB : ∀ i c, T i c < P) (j c : Nat) : gaT T u k P i j c < P := by
  unfold gaT
  split
  · exact sbN_lt hP
  · exact hB j c
theorem sol_ga {P m s u k : Nat} {T : Nat → Nat → Nat} {x : Nat → Int} (hP : 0 < P) (hu : u < m) : ∀ i, sol P m s (gaT T u k P i) x ↔ sol P m s T x
  | 0 => by rw [gaT_0]
  | i + 1 => by
    by_cases e : i = u
    · subst e; rw [gaT_sk]; exact sol_ga hP hu i
    · rw [← gaT_st e, sol_ta hP hu e]; exact sol_ga hP hu i
theorem sbN_0 {P a b : Nat} (h : a < P) : sbN P a b 0 = a := by
  unfold sbN
  rw [show ((a : Int) - (b : Int) * ((0 : Nat) : Int)) = a by simp, Int.emod_eq_of_lt (by omega) (by omega)]
  omega
theorem sbN_1 {P a : Nat} : sbN P a a 1 = 0 := by
  unfold sbN
  simp
theorem gsI_st {P m k u ln b : Nat} {T : Nat → Nat → Nat} {pv : Nat → Nat} (hP : 2 ≤ P) (h : gsI P m k u T pv) (hl : u ≤ ln) (hm : ln < m) (hb : T ln k * b % P = 1) : gsI P m (k + 1) (u + 1) (gaT (muT (swT T u ln) u b P) u k P m) (fun i => if i = u then k else pv i) := by
  obtain ⟨h1, h2, h3, h4, h5⟩ := h
  have f1 : ∀ c, muT (swT T u ln) u b P u c = T ln c * b % P := fun c => by unfold muT swT; rw [if_pos rfl, if_pos rfl]
  have f2 : ∀ i c, i ≠ u → muT (swT T u ln) u b P i c = if i = ln then T u c else T i c := fun i c hi => by unfold muT swT; rw [if_neg hi, if_neg hi]
  have f3 : ∀ c, c < k → muT (swT T u ln) u b P u c = 0 := fun c hc => by rw [f1, h5 ln hl hm c hc, Nat.zero_mul, Nat.zero_mod]
  have f4 : muT (swT T u ln) u b P u k = 1 := by rw [f1]; exact hb
  have f5 : ∀ i c, muT (swT T u ln) u b P i c < P := fun i c => by
    by_cases e : i = u
    · subst e; rw [f1]; exact Nat.mod_lt _ (by omega)
    · rw [f2 i c e]; split <;> exact h1 _ _
  generalize muT (swT T u ln) u b P = T2 at f1 f2 f3 f4 f5
  have g0 : ∀ i c, i < m → i ≠ u → c < k → gaT T2 u k P m i c = T2 i c := fun i c hi hu hc => by rw [gaT_lo hi hu, f3 c hc, sbN_0 (f5 i c)]
  have g1 : ∀ i, i < m → i ≠ u → gaT T2 u k P m i k = 0 := fun i hi hu => by rw [gaT_lo hi hu, f4, sbN_1]
  refine ⟨fun i c => gaT_lt (by omega) f5 i c, by omega, by omega, fun i hi => ?_, fun i hi him c hc => ?_⟩
  · by_cases e : i = u
    · subst e
      simp only [reduceIte]
      exact ⟨by omega, by rw [gaT_u]; exact f4, fun j hj hji => g1 j hj hji, fun c hc => by rw [gaT_u]; exact f3 c hc⟩
    · obtain ⟨a1, a2, a3, a4⟩ := h4 i (by omega)
      simp only [if_neg e]
      refine ⟨by omega, ?_, fun j hj hji => ?_, fun c hc => ?_⟩
      · rw [g0 i _ (by omega) e a1, f2 i _ e, if_neg (by omega)]; exact a2
      · by_cases eu : j = u
        · subst eu
          rw [gaT_u]; exact f3 _ a1
        · rw [g0 j _ hj eu a1, f2 j _ eu]
          split
          · exact a3 u (by omega) (by omega)
          · exact a3 j hj hji
      · rw [g0 i _ (by omega) e (by omega), f2 i _ e, if_neg (by omega)]; exact a4 c hc
  · rcases Nat.lt_or_ge c k with y | y
    · rw [g0 i c him (by omega) y, f2 i c (by omega)]
      split
      · exact h5 u (by omega) (by omega) c y
      · exact h5 i (by omega) him c y
    · rw [show c = k by omega]
      exact g1 i him (by omega)
theorem prm_inv {P v : Nat} (h : prm P) (hv : v < P) (h0 : ¬ v = 0) : ∃ y, 1 ≤ y ∧ y < P ∧ v * y % P = 1 := by
  have k2 : ∀ v, v < 2 → ¬ v = 0 → ∃ y, y < 2 ∧ 1 ≤ y ∧ v * y % 2 = 1 := by decide
  have k3 : ∀ v, v < 3 → ¬ v = 0 → ∃ y, y < 3 ∧ 1 ≤ y ∧ v * y % 3 = 1 := by decide
  have k5 : ∀ v, v < 5 → ¬ v = 0 → ∃ y, y < 5 ∧ 1 ≤ y ∧ v * y % 5 = 1 := by decide
  have k7 : ∀ v, v < 7 → ¬ v = 0 → ∃ y, y < 7 ∧ 1 ≤ y ∧ v * y % 7 = 1 := by decide
  rcases h with rfl | rfl | rfl | rfl
  · obtain ⟨y, a, b, c⟩ := k2 v hv h0; exact ⟨y, b, a, c⟩
  · obtain ⟨y, a, b, c⟩ := k3 v hv h0; exact ⟨y, b, a, c⟩
  · obtain ⟨y, a, b, c⟩ := k5 v hv h0; exact ⟨y, b, a, c⟩
  · obtain ⟨y, a, b, c⟩ := k7 v hv h0; exact ⟨y, b, a, c⟩
theorem prm_bd {P : Nat} (h : prm P) : 2 ≤ P ∧ P < 8 := by rcases h with rfl | rfl | rfl | rfl <;> decide
theorem gsI_pv {P m s u : Nat} {T : Nat → Nat → Nat} {pv : Nat → Nat} (hs : s ≤ 16) (h : gsI P m s u T pv) : pvO T u pv := by
  obtain ⟨h1, h2, h3, h4, h5⟩ := h
  intro i hi
  obtain ⟨a1, a2, a3, a4⟩ := h4 i hi
  refine ⟨by omega, by omega, a4, fun j hj hji e => ?_⟩
  have := (h4 j hj).2.1
  rw [e, a3 j (by omega) hji] at this
  omega
theorem gsI_0 {P s : Nat} {T : Nat → Nat → Nat} (hB : ∀ i c, T i c < P) : gsI P (16 - s) 0 0 T (fun _ => 0) := ⟨hB, by omega, by omega, fun i hi => absurd hi (by omega), fun i _ _ c hc => absurd hc (by omega)⟩
theorem eT_lt {P s j k : Nat} {a : Nat → Nat} (hP : 0 < P) (ha : ∀ k, a k < P) (i c : Nat) : eT a s j k i c < P := by
  unfold eT eL
  split
  · split
    · exact ha _
    · split
      · exact ha _
      · exact hP
  · exact hP
theorem tbl_13 {τ : Nat → Nat → Int32} {T : Nat → Nat → Nat} {k : Nat} {v : Int32} (h : tbl τ T) : tbl (put τ 13 k v) T := fun i c hi hc => by rw [put_ne (by decide)]; exact h i c hi hc
def mGg (σ τ : Nat → Nat → Int32) : Prop := ∀ c, c ≠ 12 → c ≠ 13 → τ c = σ c
theorem isS_ok {σ τ τ1 : Nat → Nat → Int32} {P s u : Nat} {a : Nat → Nat} {T : Nat → Nat → Nat} {pv : Nat → Nat} (hP : P < 8) (hg : mGg σ τ) (hI : gsI P (16 - s) s u T pv) (hS : ∀ x, sol P (16 - s) s T x ↔ sol P (16 - s) s (eT a s (16 - s) 0) x) (hz : ∀ c, c < s → τ 13 c = 0) (g1 : ∀ c, c ≠ 13 → τ1 c = τ c) (g2 : ∀ i, i < u → τ1 13 (pv i) = nI (T i s)) (g3 : ∀ c, (∀ i, i < u → c ≠ pv i) → τ1 13 c = τ 13 c) : mGg σ τ1 ∧ (imB T s u (16 - s - u) = true → ∃ F : Nat → Nat, (∀ k, k < s → τ1 13 k = nI (F k) ∧ F k < P) ∧ sol P (16 - s) s (eT a s (16 - s) 0) (fun k => (F k : Int))) ∧ (imB T s u (16 - s - u) = false → ∀ x, ¬ sol P (16 - s) s (eT a s (16 - s) 0) x) := by
  obtain ⟨h1, h2, h3, h4, h5⟩ := id hI
  refine ⟨fun c a b => (g1 c b).trans (hg c a b), fun hb => ?_, fun hb x hx => ?_⟩
  · have hF : ∀ i, i < u → (τ1 13 (pv i)).toNatClampNeg = T i s := fun i hi => by rw [g2 i hi, nI_clamp (by have := h1 i s; omega)]
    have h0 : ∀ c, c < s → (∀ i, i < u → c ≠ pv i) → τ1 13 c = 0 := fun c hc hn => by rw [g3 c hn, hz c hc]
    refine ⟨fun c => (τ1 13 c).toNatClampNeg, fun k hk => ?_, (hS _).mp (gsI_met hI hF (fun c hc hn => by rw [h0 c hc hn]; rfl) (fun i hi hm => ?_))⟩
    · by_cases e : ∃ i, i < u ∧ k = pv i
      · obtain ⟨i, hi, rfl⟩ := e
        show τ1 13 (pv i) = nI (τ1 13 (pv i)).toNatClampNeg ∧ (τ1 13 (pv i)).toNatClampNeg < P
        rw [hF i hi]
        exact ⟨g2 i hi, h1 i s⟩
      · have e0 := h0 k hk (fun i hi z => e ⟨i, hi, z⟩)
        show τ1 13 k = nI (τ1 13 k).toNatClampNeg ∧ (τ1 13 k).toNatClampNeg < P
        rw [e0]
        have := h1 0 0
        exact ⟨rfl, by show 0 < P; omega⟩
    · have := (imB_all (16 - s - u)).mp hb (i - u) (by omega)
      rw [show u + (i - u) = i by omega] at this
      exact this
  · have hn : ¬ ∀ k, k < 16 - s - u → T (u + k) s = 0 := fun z => by rw [(imB_all (16 - s - u)).mpr z] at hb; cases hb
    apply hn
    intro k hk
    by_cases e : T (u + k) s = 0
    · exact e
    · exact absurd ((hS x).mpr hx) (gsI_unmet hI (show u ≤ u + k by omega) (by omega) e x)
section
variable {l : Launch} {σ : Nat → Nat → Int32} {t : Nat → Int64} {q ld tn P s : Nat} {A : Nat → Int32} {a : Nat → Nat}
set_option maxRecDepth 100000 in
set_option maxHeartbeats 4000000 in
theorem CX11_isC {n0 u k ln : Nat} {T : Nat → Nat → Nat} {τ0 : Nat → Nat → Int32} (hP : 2 ≤ P ∧ P < 8) (hs : s ≤ 16) (hu : u < 16 - s) (hk : k < s) (hB : ∀ i c, T i c < P) (hX : ∀ (τ : Nat → Nat → Int32) (x8 : Option Value), mG τ0 τ → tbl τ (gaT T u k P (16 - s)) → Go l mX11_isSolved n0 (fun r w' => ∃ τ' b, w' = mW τ' t ∧ r = some (.int (bB b)) ∧ mGg σ τ' ∧ (b = true → ∃ F : Nat → Nat, (∀ k, k < s → τ' 13 k = nI (F k) ∧ F k < P) ∧ sol P (16 - s) s (eT a s (16 - s) 0) (fun k => (F k : Int))) ∧ (b = false → ∀ x, ¬ sol P (16 - s) s (eT a s (16 - s) 0) x)) (0, 0) 43 [some (.ref 0), some (.int (nI q)), some (.int (nI s)), some (.int (nI P)), some (.int (nI (16 - s))), some (.int (nI (u + 1))), some (.int (nI (k + 1))), some (.int (nI ln)), x8] [] (mW τ t)) : ∀ (d i : Nat) (τ : Nat → Nat → Int32), i + d = 16 - s → mG τ0 τ → tbl τ (gaT T u k P i) → Go l mX11_isSolved n0 (fun r w' => ∃ τ' b, w' = mW τ' t ∧ r = some (.int (bB b)) ∧ mGg σ τ' ∧ (b = true → ∃ F : Nat → Nat, (∀ k, k < s → τ' 13 k = nI (F k) ∧ F k < P) ∧ sol P (16 - s) s (eT a s (16 - s) 0) (fun k => (F k : Int))) ∧ (b = false → ∀ x, ¬ sol P (16 - s) s (eT a s (16 - s) 0) x)) (0, 0) 96 [some (.ref 0), some (.int (nI q)), some (.int (nI s)), some (.int (nI P)), some (.int (nI (16 - s))), some (.int (nI u)), some (.int (nI k)), some (.int (nI ln)), some (.int (nI i))] [] (mW τ t) := by
  intro d
  induction d with
  | zero =>
    intro i τ hi hG hT
    refine g_iload dX11_isSolved_96 rfl ?_
    refine g_iload dX11_isSolved_98 rfl ?_
    refine g_icmp_ge (tgt := 127) dX11_isSolved_100 rfl (fun c_100 => ?_) (fun c_100 => by exact absurd (nI_le (by omega) (by omega)) c_100)
    refine g_iinc (v := 1) dX11_isSolved_127 (by decide) rfl (Nat.le_of_ble_eq_true rfl) rfl ?_
    refine g_iinc (v := 1) dX11_isSolved_130 (by decide) rfl (Nat.le_of_ble_eq_true rfl) rfl ?_
    refine g_goto (tgt := 43) dX11_isSolved_133 rfl ?_
    exact Go.eq rfl (show _ = _ by rw [← nI_1 u, ← nI_1 k]; rfl) rfl rfl (hX τ _ hG (by rw [show 16 - s = i by omega]; exact hT))
  | succ d ih =>
    intro i τ hi hG hT
    refine g_iload dX11_isSolved_96 rfl ?_
    refine g_iload dX11_isSolved_98 rfl ?_
    refine g_icmp_ge (tgt := 127) dX11_isSolved_100 rfl (fun c_100 => by exact absurd c_100 (nI_ge (by omega) (by omega))) (fun c_100 => ?_)
    refine g_iload dX11_isSolved_103 rfl ?_
    refine g_iload dX11_isSolved_105 rfl ?_
    refine g_icmp_eq (tgt := 121) dX11_isSolved_107 rfl (fun c_107 => ?_) (fun c_107 => ?_)
    · refine g_iinc (v := 1) dX11_isSolved_121 (by decide) rfl (Nat.le_of_ble_eq_true rfl) rfl ?_
      refine g_goto (tgt := 96) dX11_isSolved_124 rfl ?_
      exact Go.eq rfl (show _ = _ by rw [← nI_1 i]; rfl) rfl rfl (ih (i + 1) τ (by omega) hG (by rw [show i = u from nI_inj (by omega) (by omega) c_107, gaT_sk]; rw [show i = u from nI_inj (by omega) (by omega) c_107] at hT; exact hT))
    · refine g_aload_n dX11_isSolved_110 rfl rfl ?_
      refine g_iload dX11_isSolved_111 rfl ?_
      refine g_iload dX11_isSolved_113 rfl ?_
      refine g_iload dX11_isSolved_115 rfl ?_
      refine g_iload_n dX11_isSolved_117 rfl rfl ?_
      refine g_V4p (CX11_takeAway hP (f := i) (a := u) (c := k) (by omega) (by omega) (by omega) (gaT_lt (by omega) hB) hT) kX11_isSolved_229 dX11_isSolved_118 mW_0 rfl ⟨rfl, rfl⟩ (Nat.le_of_ble_eq_true rfl) ⟨(Nat.le_of_ble_eq_true rfl), (Nat.le_of_ble_eq_true rfl)⟩ ?_
      rintro rv w1 ⟨rfl, τ1, rfl, g1, g2⟩
      refine g_iinc (v := 1) dX11_isSolved_121 (by decide) rfl (Nat.le_of_ble_eq_true rfl) rfl ?_
      refine g_goto (tgt := 96) dX11_isSolved_124 rfl ?_
      exact Go.eq rfl (show _ = _ by rw [← nI_1 i]; rfl) rfl rfl (ih (i + 1) τ1 (by omega) (fun c hc => (g1 c hc).trans (hG c hc)) (by rw [← gaT_st (fun z => c_107 (by rw [z]))]; exact g2))
set_option maxRecDepth 100000 in
set_option maxHeartbeats 4000000 in
theorem CX11_isB {n0 : Nat} (hP : prm P) (hs : s ≤ 16) : ∀ (d k u : Nat) (T : Nat → Nat → Nat) (pv : Nat → Nat) (τ : Nat → Nat → Int32) (x7 x8 : Option Value), k + d = s → mGg σ τ → tbl τ T → gsI P (16 - s) k u T pv → (∀ x, sol P (16 - s) s T x ↔ sol P (16 - s) s (eT a s (16 - s) 0) x) → (∀ c, c < k → τ 13 c = 0) → Go l mX11_isSolved n0 (fun r w' => ∃ τ' b, w' = mW τ' t ∧ r = some (.int (bB b)) ∧ mGg σ τ' ∧ (b = true → ∃ F : Nat → Nat, (∀ k, k < s → τ' 13 k = nI (F k) ∧ F k < P) ∧ sol P (16 - s) s (eT a s (16 - s) 0) (fun k => (F k : Int))) ∧ (b = false → ∀ x, ¬ sol P (16 - s) s (eT a s (16 - s) 0) x)) (0, 0) 43 [some (.ref 0), some (.int (nI q)), some (.int (nI s)), some (.int (nI P)), some (.int (nI (16 - s))), some (.int (nI u)), some (.int (nI k)), x7, x8] [] (mW τ t) := by
  intro d
  induction d with
  | zero =>
    intro k u T pv τ x7 x8 hk hg hT hI hS hz
    have e1 : s = k := by omega
    subst e1
    obtain ⟨h1, h2, h3, h4, h5⟩ := id hI
    refine g_iload dX11_isSolved_43 rfl ?_
    refine g_iload_n dX11_isSolved_45 rfl rfl ?_
    refine g_icmp_ge (tgt := 136) dX11_isSolved_46 rfl (fun c_46 => ?_) (fun c_46 => by exact absurd (nI_le (by omega) (by omega)) c_46)
    refine g_aload_n dX11_isSolved_136 rfl rfl ?_
    refine g_iload dX11_isSolved_137 rfl ?_
    refine g_iload dX11_isSolved_139 rfl ?_
    refine g_iload_n dX11_isSolved_141 rfl rfl ?_
    refine g_V3p (CX11_isMet (prm_bd hP).2 (by omega) h2 (by omega) h1 hT (gsI_pv hs hI)) kX11_isSolved_233 dX11_isSolved_142 mW_0 rfl ⟨rfl, rfl⟩ (Nat.le_of_ble_eq_true rfl) ⟨(Nat.le_of_ble_eq_true rfl), (Nat.le_of_ble_eq_true rfl)⟩ ?_
    rintro rv wa ⟨τ1, rfl, rfl, g1, g2, g3⟩
    exact g_zret dX11_isSolved_145 rfl rfl (by cases imB T s u (16 - s - u) <;> decide) ⟨τ1, imB T s u (16 - s - u), rfl, rfl, isS_ok (prm_bd hP).2 hg hI hS hz g1 g2 g3⟩
  | succ d ih =>
    intro k u T pv τ x7 x8 hk hg hT hI hS hz
    obtain ⟨h1, h2, h3, h4, h5⟩ := id hI
    have hB2 := prm_bd hP
    have l1 := fs_ge (fun i => decide (¬ T i k = 0)) (16 - s - u) u
    have l2 := fs_le (fun i => decide (¬ T i k = 0)) (16 - s - u) u
    have l3 := fs_or (p := (fun i => decide (¬ T i k = 0))) (16 - s - u) u
    have l4 := fs_no (p := (fun i => decide (¬ T i k = 0))) (16 - s - u) u
    generalize hln : fs (fun i => decide (¬ T i k = 0)) (16 - s - u) u = ln at l1 l2 l3 l4
    have z1 : ∀ c, c < k + 1 → put τ 13 k 0 13 c = 0 := fun c hc => by rw [put_ix]; by_cases e : c = k; rw [if_pos e]; rw [if_neg e]; exact hz c (by omega)
    have g1 : mGg σ (put τ 13 k 0) := fun c a b => (put_ne b).trans (hg c a b)
    refine g_iload dX11_isSolved_43 rfl ?_
    refine g_iload_n dX11_isSolved_45 rfl rfl ?_
    refine g_icmp_ge (tgt := 136) dX11_isSolved_46 rfl (fun c_46 => by exact absurd c_46 (nI_ge (by omega) (by omega))) (fun c_46 => ?_)
    refine g_aload_n dX11_isSolved_49 rfl rfl ?_
    refine g_getf dX11_isSolved_50 fX11_47 mW_0 rfl ?_
    refine g_iload dX11_isSolved_53 rfl ?_
    refine g_iconst (v := 0) dX11_isSolved_55 (by decide) ?_
    refine g_iast dX11_isSolved_56 mA13 (vin_n (by omega) (by decide)) (mW_arrN (k' := k) (fun _ => rfl) (nI_clamp (by omega))) ?_
    refine g_aload_n dX11_isSolved_57 rfl rfl ?_
    refine g_iload dX11_isSolved_58 rfl ?_
    refine g_iload dX11_isSolved_60 rfl ?_
    refine g_iload dX11_isSolved_62 rfl ?_
    refine g_V3r (CX11_lineWith hB2.2 (by omega) h2 (by omega) h1 (tbl_13 hT)) kX11_isSolved_219 dX11_isSolved_64 mW_0 rfl ⟨rfl, rfl⟩ (Nat.le_of_ble_eq_true rfl) ⟨(Nat.le_of_ble_eq_true rfl), (Nat.le_of_ble_eq_true rfl)⟩ ?_
    rw [hln]
    refine g_istore dX11_isSolved_67 (Nat.le_of_ble_eq_true rfl) rfl ?_
    refine g_iload dX11_isSolved_69 rfl ?_
    refine g_iload dX11_isSolved_71 rfl ?_
    refine g_icmp_ge (tgt := 130) dX11_isSolved_73 rfl (fun c_73 => ?_) (fun c_73 => ?_)
    · refine g_iinc (v := 1) dX11_isSolved_130 (by decide) rfl (Nat.le_of_ble_eq_true rfl) rfl ?_
      refine g_goto (tgt := 43) dX11_isSolved_133 rfl ?_
      exact Go.eq rfl (show _ = _ by rw [← nI_1 k]; rfl) rfl rfl (ih (k + 1) u T pv (put τ 13 k 0) _ _ (by omega) g1 (tbl_13 hT) (gsI_no hI (fun i hi hm => Classical.byContradiction (fun z => l4 i hi (by have := (nI_le_iff (by omega) (by omega)).mp c_73; omega) (decide_eq_true z)))) hS z1)
    · refine g_aload_n dX11_isSolved_76 rfl rfl ?_
      refine g_iload dX11_isSolved_77 rfl ?_
      refine g_iload dX11_isSolved_79 rfl ?_
      refine g_V2p (CX11_swapLines (a := u) (b := ln) (by omega) (by have := (show ln < 16 - s by rcases Nat.lt_or_ge ln (16 - s) with y | y; exact y; exact absurd (nI_le y (by omega)) c_73); omega) (tbl_13 hT)) kX11_isSolved_222 dX11_isSolved_81 mW_0 rfl ⟨rfl, rfl⟩ (Nat.le_of_ble_eq_true rfl) ⟨(Nat.le_of_ble_eq_true rfl), (Nat.le_of_ble_eq_true rfl)⟩ ?_
      rintro rv wa ⟨rfl, τw, rfl, w1, w2⟩
      refine g_aload_n dX11_isSolved_84 rfl rfl ?_
      refine g_iload dX11_isSolved_85 rfl ?_
      refine g_iload dX11_isSolved_87 rfl ?_
      refine g_iload_n dX11_isSolved_89 rfl rfl ?_
      refine g_V3p (CX11_makeOne hB2 (a := u) (c := k) (by have := (show ln < 16 - s by rcases Nat.lt_or_ge ln (16 - s) with y | y; exact y; exact absurd (nI_le y (by omega)) c_73); omega) (by omega) (fun i c => by unfold swT; split; exact h1 _ _; split; exact h1 _ _; exact h1 _ _) w2 (by rw [show swT T u ln u k = T ln k from if_pos rfl]; exact prm_inv hP (h1 _ _) (by rcases l3 with e | e; exact absurd (show ln < 16 - s by rcases Nat.lt_or_ge ln (16 - s) with y | y; exact y; exact absurd (nI_le y (by omega)) c_73) (by omega); exact of_decide_eq_true e))) kX11_isSolved_225 dX11_isSolved_90 mW_0 rfl ⟨rfl, rfl⟩ (Nat.le_of_ble_eq_true rfl) ⟨(Nat.le_of_ble_eq_true rfl), (Nat.le_of_ble_eq_true rfl)⟩ ?_
      rintro rv wb ⟨rfl, τm, b, rfl, m1, hb1, hb2, m2⟩
      have f5 : ∀ i c, muT (swT T u ln) u b P i c < P := fun i c => by unfold muT swT; split; exact Nat.mod_lt _ (by omega); split; exact h1 _ _; exact h1 _ _
      refine g_iconst (v := 0) dX11_isSolved_93 (by decide) ?_
      refine g_istore dX11_isSolved_94 (Nat.le_of_ble_eq_true rfl) rfl ?_
      have hlm : ln < 16 - s := by rcases Nat.lt_or_ge ln (16 - s) with y | y; exact y; exact absurd (nI_le y (by omega)) c_73
      exact Go.eq rfl rfl rfl rfl (CX11_isC hB2 hs (by omega) (by omega) f5 (fun τ3 y8 e3 t3 => ih (k + 1) (u + 1) _ _ τ3 _ y8 (by omega) (fun c a b => by rw [e3 c a, m1 c a, w1 c a, g1 c a b]) t3 (gsI_st hB2.1 hI l1 hlm (by rw [show T ln k = swT T u ln u k from (if_pos rfl).symm]; exact hb2)) (fun x => (sol_ga (by omega) (by omega) (16 - s)).trans ((sol_mu hb2).trans ((sol_sw (by omega) hlm).trans (hS x)))) (fun c hc => by rw [e3 13 (by decide), m1 13 (by decide), w1 13 (by decide)]; exact z1 c hc)) (16 - s) 0 τm (by omega) (fun _ _ => rfl) (by rw [gaT_0]; exact m2))
set_option maxRecDepth 100000 in
set_option maxHeartbeats 4000000 in
theorem CX11_isA {n0 : Nat} (hP : prm P) (hs : s ≤ 16) (HQ : mRq σ q ld tn) (hv : rsV σ q ld tn = A) (hA : ∀ k, A k = nI (a k)) (ha : ∀ k, a k < P) : ∀ (d k : Nat) (τ : Nat → Nat → Int32), k + d = 272 → mG σ τ → (∀ i, i < k → τ 12 i = 0) → Go l mX11_isSolved n0 (fun r w' => ∃ τ' b, w' = mW τ' t ∧ r = some (.int (bB b)) ∧ mGg σ τ' ∧ (b = true → ∃ F : Nat → Nat, (∀ k, k < s → τ' 13 k = nI (F k) ∧ F k < P) ∧ sol P (16 - s) s (eT a s (16 - s) 0) (fun k => (F k : Int))) ∧ (b = false → ∀ x, ¬ sol P (16 - s) s (eT a s (16 - s) 0) x)) (0, 0) 9 [some (.ref 0), some (.int (nI q)), some (.int (nI s)), some (.int (nI P)), some (.int (nI (16 - s))), some (.int (nI k)), none, none, none] [] (mW τ t) := by
  intro d
  induction d with
  | zero =>
    intro k τ hk hG hz
    refine g_iload dX11_isSolved_9 rfl ?_
    refine g_sipush (v := 272) dX11_isSolved_11 (by decide) ?_
    refine g_icmp_ge (tgt := 31) dX11_isSolved_14 rfl (fun c_14 => ?_) (fun c_14 => by exact absurd (nI_le (a := 272) (by omega) (by omega)) c_14)
    refine g_aload_n dX11_isSolved_31 rfl rfl ?_
    refine g_iload_n dX11_isSolved_32 rfl rfl ?_
    refine g_iload_n dX11_isSolved_33 rfl rfl ?_
    refine g_V2p (CX11_layTable hs (mRq_G hG HQ) ((rsV_G hG).trans hv) hA (fun i hi => hz i (by omega))) kX11_isSolved_216 dX11_isSolved_34 mW_0 rfl ⟨rfl, rfl⟩ (Nat.le_of_ble_eq_true rfl) ⟨(Nat.le_of_ble_eq_true rfl), (Nat.le_of_ble_eq_true rfl)⟩ ?_
    rintro rv w1 ⟨rfl, τ1, rfl, g1, g2⟩
    refine g_iconst (v := 0) dX11_isSolved_37 (by decide) ?_
    refine g_istore dX11_isSolved_38 (Nat.le_of_ble_eq_true rfl) rfl ?_
    refine g_iconst (v := 0) dX11_isSolved_40 (by decide) ?_
    refine g_istore dX11_isSolved_41 (Nat.le_of_ble_eq_true rfl) rfl ?_
    exact Go.eq rfl rfl rfl rfl (CX11_isB hP hs s 0 0 _ _ τ1 none none (by omega) (fun c x y => (g1 c x).trans (hG c x)) g2 (gsI_0 (eT_lt (by have := prm_bd hP; omega) ha)) (fun _ => Iff.rfl) (fun c hc => absurd hc (by omega)))
  | succ d ih =>
    intro k τ hk hG hz
    refine g_iload dX11_isSolved_9 rfl ?_
    refine g_sipush (v := 272) dX11_isSolved_11 (by decide) ?_
    refine g_icmp_ge (tgt := 31) dX11_isSolved_14 rfl (fun c_14 => by exact absurd c_14 (nI_ge (b := 272) (by omega) (by omega))) (fun c_14 => ?_)
    refine g_aload_n dX11_isSolved_17 rfl rfl ?_
    refine g_getf dX11_isSolved_18 fX11_44 mW_0 rfl ?_
    refine g_iload dX11_isSolved_21 rfl ?_
    refine g_iconst (v := 0) dX11_isSolved_23 (by decide) ?_
    refine g_iast dX11_isSolved_24 mA12 (vin_n (by omega) (by decide)) (mW_arrN (k' := k) (fun _ => rfl) (nI_clamp (by omega))) ?_
    refine g_iinc (v := 1) dX11_isSolved_25 (by decide) rfl (Nat.le_of_ble_eq_true rfl) rfl ?_
    refine g_goto (tgt := 9) dX11_isSolved_28 rfl ?_
    exact Go.eq rfl (show _ = _ by rw [← nI_1 k]; rfl) rfl rfl (ih (k + 1) _ (by omega) hG.put (fun i hi => by rw [put_ix]; by_cases e : i = k; rw [if_pos e]; rw [if_neg e]; exact hz i (by omega)))
set_option maxRecDepth 100000 in
set_option maxHeartbeats 4000000 in
theorem CX11_isSolved (hP : prm P) (hs : s ≤ 16) (HQ : mRq σ q ld tn) (hv : rsV σ q ld tn = A) (hA : ∀ k, A k = nI (a k)) (ha : ∀ k, a k < P) : Ct l mX11_isSolved [.ref 0, .int (nI q), .int (nI s), .int (nI P)] (mW σ t) (fun r w' => ∃ τ' b, w' = mW τ' t ∧ r = some (.int (bB b)) ∧ mGg σ τ' ∧ (b = true → ∃ F : Nat → Nat, (∀ k, k < s → τ' 13 k = nI (F k) ∧ F k < P) ∧ sol P (16 - s) s (eT a s (16 - s) 0) (fun k => (F k : Int))) ∧ (b = false → ∀ x, ¬ sol P (16 - s) s (eT a s (16 - s) 0) x)) := by
  refine Ct.of rfl (Nat.le_of_ble_eq_true rfl) ?_
  refine g_bipush (v := 16) dX11_isSolved_0 (by decide) ?_
  refine g_iload_n dX11_isSolved_2 rfl rfl ?_
  refine g_isub dX11_isSolved_3 ?_
  rw [show (16 : Int32) - nI s = nI (16 - s) from nI_sub (a := 16) (by omega)]
  refine g_istore dX11_isSolved_4 (Nat.le_of_ble_eq_true rfl) rfl ?_
  refine g_iconst (v := 0) dX11_isSolved_6 (by decide) ?_
  refine g_istore dX11_isSolved_7 (Nat.le_of_ble_eq_true rfl) rfl ?_
  exact Go.eq rfl rfl rfl rfl (CX11_isA hP hs HQ hv hA ha 272 0 σ (by omega) (fun _ _ => rfl) (fun i hi => absurd hi (by omega)))
end
