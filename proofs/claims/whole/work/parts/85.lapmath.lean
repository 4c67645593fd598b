theorem fs_no {p : Nat → Bool} : ∀ d j k, j ≤ k → k < fs p d j → ¬ p k = true
  | 0, j, k, h1, h2 => absurd h2 (by unfold fs; omega)
  | d + 1, j, k, h1, h2 => by
    rw [fs] at h2
    by_cases h : p j = true
    · rw [if_pos h] at h2; omega
    · rw [if_neg h] at h2
      rcases Nat.lt_or_ge j k with y | y
      · exact fs_no d (j + 1) k (by omega) h2
      · rw [show k = j by omega]; exact h
theorem fs_is {p : Nat → Bool} {d j x : Nat} (h1 : j ≤ x) (h2 : x ≤ j + d) (h3 : x = j + d ∨ p x = true) (h4 : ∀ k, j ≤ k → k < x → ¬ p k = true) : fs p d j = x := by
  have a := fs_le p d j
  have b := fs_ge p d j
  rcases Nat.lt_trichotomy (fs p d j) x with y | y | y
  · rcases fs_or (p := p) d j with e | e
    · omega
    · exact absurd e (h4 _ b y)
  · exact y
  · rcases h3 with e | e
    · omega
    · exact absurd e (fs_no d j x h1 y)
/-- b is a period from 6 on -/
def pD (A : Nat → Int32) (b : Nat) : Prop := ∀ k, 6 ≤ k → A (k + b) = A k
theorem pD_ld {A : Nat → Int32} {ld tn b : Nat} (h1 : 1 ≤ tn) (hp : ∀ k, ld ≤ k → A (k + tn) = A k) (h : pD A b) : ∀ k, ld ≤ k → A (k + b) = A k := by
  intro k hk
  have h2 := per_dvd hp (D := tn * 6) (Nat.dvd_mul_right tn 6)
  have h3 : 6 ≤ tn * 6 := by omega
  rw [← h2 (k + b) (by omega), ← h2 k hk, show k + b + tn * 6 = k + tn * 6 + b by omega]
  exact h _ (by omega)
theorem pD_ca {A : Nat → Int32} {ld tn b : Nat} (h1 : 1 ≤ tn) (h6 : ld ≤ 6) (hp : ∀ k, ld ≤ k → A (k + tn) = A k) : caB A ld b tn = true ↔ pD A b := by
  rw [caB_all]
  constructor
  · intro h k hk
    have e : k = ld + (k - ld) % tn + tn * ((k - ld) / tn) := by have := Nat.mod_add_div (k - ld) tn; omega
    have h2 := per_dvd hp (D := tn * ((k - ld) / tn)) (Nat.dvd_mul_right _ _)
    have h3 : A k = A (ld + (k - ld) % tn) := by
      have := h2 (ld + (k - ld) % tn) (by omega)
      rw [← e] at this; exact this
    have h4 : A (k + b) = A (ld + (k - ld) % tn + b) := by
      have := h2 (ld + (k - ld) % tn + b) (by omega)
      rw [show ld + (k - ld) % tn + b + tn * ((k - ld) / tn) = k + b by omega] at this
      exact this
    rw [h3, h4]
    exact (h _ (Nat.mod_lt _ (by omega))).symm
  · intro h k hk
    exact (pD_ld h1 hp h (ld + k) (by omega)).symm
theorem mLp_min {A : Nat → Int32} {ld tn : Nat} (h1 : 1 ≤ tn) (h6 : ld ≤ 6) (hp : ∀ k, ld ≤ k → A (k + tn) = A k) : pD A (mLp A ld tn) ∧ 1 ≤ mLp A ld tn ∧ ∀ b, 1 ≤ b → b < mLp A ld tn → ¬ pD A b := by
  have hO := mLp_ok h1 hp
  refine ⟨(pD_ca h1 h6 hp).mp hO.1, hO.2.1, fun b hb h2 h => ?_⟩
  have := fs_no (p := fun j => caB A ld (j + 1) tn) (tn - 1) 0 (b - 1) (by omega) (by unfold mLp at h2; omega)
  rw [show b - 1 + 1 = b by omega] at this
  exact this ((pD_ca h1 h6 hp).mpr h)
theorem rpt_red {A : Nat → Int32} {R b : Nat} (hb : 1 ≤ b) (hR : 1 ≤ R) (hd : b ∣ R) (hpR : pD A R) (h : rpt A R b) : ∀ k, 6 ≤ k → A k = A (6 + (k - 6) % b) := by
  obtain ⟨n, rfl⟩ := hd
  have st : ∀ j i, i < b → j < n → A (6 + i + b * j) = A (6 + i) := by
    intro j
    induction j with
    | zero => intro i _ _; rfl
    | succ j ih =>
      intro i hi hj
      have e : b * (j + 1) + b ≤ b * n := by
        have : b * (j + 1 + 1) ≤ b * n := Nat.mul_le_mul_left b (by omega)
        rw [Nat.mul_succ] at this; exact this
      have h2 := h (i + b * j) (by rw [Nat.mul_succ] at e; omega)
      rw [Nat.mul_succ, show 6 + i + (b * j + b) = 6 + (i + b * j) + b by omega, ← h2, ← Nat.add_assoc]
      exact ih i hi (by omega)
  intro k hk
  rw [per_red (P := A) (show 0 < b * n by omega) hpR k hk]
  have e1 : (k - 6) % (b * n) = (k - 6) % b + b * ((k - 6) / b % n) := Nat.mod_mul
  rw [e1, ← Nat.add_assoc]
  have hn : 0 < n := Nat.pos_of_ne_zero (fun z => by subst z; simp at hR)
  exact st _ _ (Nat.mod_lt _ (by omega)) (Nat.mod_lt _ hn)
theorem rpt_pD {A : Nat → Int32} {R b : Nat} (hb : 1 ≤ b) (hR : 1 ≤ R) (hd : b ∣ R) (hpR : pD A R) : rpt A R b ↔ pD A b := by
  constructor
  · intro h k hk
    have hr := rpt_red hb hR hd hpR h
    rw [hr (k + b) (by omega), hr k hk, show k + b - 6 = k - 6 + b by omega, Nat.add_mod_right]
  · intro h k _
    exact (h (6 + k) (by omega)).symm
theorem lpA_eq {A : Nat → Int32} {ld tn R : Nat} (h1 : 1 ≤ tn) (h6 : ld ≤ 6) (hd : tn ∣ R) (hR : 1 ≤ R) (hp : ∀ k, ld ≤ k → A (k + tn) = A k) : lpA A R = mLp A ld tn := by
  obtain ⟨m1, m2, m3⟩ := mLp_min h1 h6 hp
  have hpR : pD A R := fun k hk => per_dvd hp hd k (by omega)
  have hdv : mLp A ld tn ∣ R := by
    apply Nat.dvd_of_mod_eq_zero
    rcases Nat.eq_zero_or_pos (R % mLp A ld tn) with y | y
    · exact y
    · exfalso
      refine m3 _ y (Nat.mod_lt _ (by omega)) (fun k hk => ?_)
      have h2 := per_dvd (i := 6) m1 (D := mLp A ld tn * (R / mLp A ld tn)) (Nat.dvd_mul_right _ _)
      rw [← h2 (k + R % mLp A ld tn) (by omega), show k + R % mLp A ld tn + mLp A ld tn * (R / mLp A ld tn) = k + R by have := Nat.mod_add_div R (mLp A ld tn); omega]
      exact hpR k hk
  have hle := Nat.le_of_dvd (by omega) hdv
  unfold lpA
  rw [fs_is (x := mLp A ld tn - 1) (by omega) (by omega) (Or.inr ?_) ?_]
  · omega
  · unfold slB
    rw [decide_eq_true_iff, show mLp A ld tn - 1 + 1 = mLp A ld tn by omega]
    exact ⟨Nat.mod_eq_zero_of_dvd hdv, (rpt_pD m2 hR hdv hpR).mpr m1⟩
  · intro k _ hk h
    unfold slB at h
    rw [decide_eq_true_iff] at h
    exact m3 (k + 1) (by omega) (by omega) ((rpt_pD (by omega) hR (Nat.dvd_of_mod_eq_zero h.1) hpR).mp h.2)
theorem hdF_ok {A : Nat → Int32} {p : Nat} : ∀ h, (∀ k, h ≤ k → A k = A (k + p)) → (∀ k, hdF A p h ≤ k → A k = A (k + p)) ∧ (hdF A p h = 0 ∨ A (hdF A p h - 1) ≠ A (hdF A p h - 1 + p))
  | 0, H => ⟨H, Or.inl rfl⟩
  | h + 1, H => by
    rw [hdF]
    by_cases e : A h = A (h + p)
    · rw [if_pos e]
      refine hdF_ok h (fun k hk => ?_)
      rcases Nat.lt_or_ge h k with y | y
      · exact H k y
      · rw [show k = h by omega]; exact e
    · rw [if_neg e]
      exact ⟨H, Or.inr e⟩
theorem hdA_eq {A : Nat → Int32} {ld tn R : Nat} (h1 : 1 ≤ tn) (h6 : ld ≤ 6) (hd : tn ∣ R) (hR : 1 ≤ R) (hp : ∀ k, ld ≤ k → A (k + tn) = A k) : hdA A R = mHd A ld tn := by
  obtain ⟨m1, m2, m3⟩ := mLp_min h1 h6 hp
  unfold hdA mHd
  rw [lpA_eq h1 h6 hd hR hp]
  have hl := pD_ld h1 hp m1
  obtain ⟨g1, g2⟩ := hdF_ok (A := A) (p := mLp A ld tn) 6 (fun k hk => (m1 k hk).symm)
  have ca : ∀ f, f ≤ ld → (caB A f (mLp A ld tn) (ld + tn - f) = true ↔ ∀ k, f ≤ k → A k = A (k + mLp A ld tn)) := by
    intro f hf
    rw [caB_all]
    constructor
    · intro h k hk
      rcases Nat.lt_or_ge k ld with y | y
      · have := h (k - f) (by omega)
        rw [show f + (k - f) = k by omega] at this
        exact this
      · exact (hl k y).symm
    · intro h k hk
      exact h (f + k) (by omega)
  have hx : hdF A (mLp A ld tn) 6 ≤ ld := by
    rcases Nat.lt_or_ge ld (hdF A (mLp A ld tn) 6) with y | y
    · rcases g2 with e | e
      · omega
      · exact absurd (hl _ (by omega)).symm e
    · exact y
  exact (fs_is (p := fun f => caB A f (mLp A ld tn) (ld + tn - f)) (by omega) (by omega) (Or.inr ((ca _ hx).mpr g1)) (fun k _ hk h => by
    have := (ca k (by omega)).mp h
    rcases g2 with e | e
    · omega
    · exact e (this _ (by omega)))).symm
theorem mZc_nz {A : Nat → Int32} {h : Nat} : ∀ i, mZc A h i = nI (nz0 A h i)
  | 0 => rfl
  | i + 1 => by
    rw [mZc, nz0, mZc_nz i]
    by_cases e : A (h + i) = 0
    · rw [if_pos e, if_pos e, ← nI_1]
    · rw [if_neg e, if_neg e, Nat.add_zero, Int32.add_zero]
theorem lap_eq {A : Nat → Int32} {ld tn R : Nat} (h1 : 1 ≤ tn) (h6 : ld ≤ 6) (hd : tn ∣ R) (hR : 1 ≤ R) (hp : ∀ k, ld ≤ k → A (k + tn) = A k) (x : Int32) : mLpV A ld tn x = lapV A R x := by
  unfold mLpV lapV mZr zrA
  rw [hdA_eq h1 h6 hd hR hp, lpA_eq h1 h6 hd hR hp, mZc_nz]
theorem mRZ_lap {σ : Nat → Nat → Int32} {A : Nat → Int32} {T q ld tn : Nat} (hT : T < 9) (H : mRZ σ A T q ld tn) (x : Int32) : mLpV A ld tn x = lapV A (rnd T) x := by
  obtain ⟨⟨g1, g2, g3, g4, g5, g6⟩, h2, h3, h4⟩ := H
  exact lap_eq g4 g5 h2 (rnd_bd T hT).1 h4 x
