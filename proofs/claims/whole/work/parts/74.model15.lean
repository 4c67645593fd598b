theorem int_md (v : Int) (M : Nat) (h : 0 < M) : (v.tmod M + M).tmod M = v % M := by
  have h1 : v.tmod M + M = v % M + (if 0 ≤ v ∨ (M : Int) ∣ v then M else 0) := by
    rw [Int.tmod_eq_emod]
    split <;> simp
  have h0 := Int.emod_nonneg v (show (M : Int) ≠ 0 by omega)
  have h2 := Int.emod_lt_of_pos v (show (0 : Int) < M by omega)
  rw [h1, Int.tmod_eq_emod_of_nonneg (by split <;> omega)]
  split
  · rw [Int.add_emod_right, Int.emod_emod]
  · rw [show ((0 : Nat) : Int) = 0 from rfl, Int.add_zero, Int.emod_emod]
theorem per_red {α : Type} {P : Nat → α} {i L : Nat} (hL : 0 < L) (h : ∀ k, i ≤ k → P (k + L) = P k) : ∀ k, i ≤ k → P k = P (i + (k - i) % L) := by
  intro k
  induction k using Nat.strongRecOn with
  | ind k ih =>
    intro hk
    rcases Nat.lt_or_ge (k - i) L with y | y
    · rw [Nat.mod_eq_of_lt y, show i + (k - i) = k by omega]
    · have h1 := ih (k - L) (by omega) (by omega)
      have h2 := h (k - L) (by omega)
      rw [show k - L + L = k by omega] at h2
      rw [h2, h1, show k - L - i = k - i - L by omega, ← Nat.mod_eq_sub_mod y]
theorem per_min {α : Type} {P : Nat → α} {i j R : Nat} (step : ∀ a b, P a = P b → P (a + 1) = P (b + 1)) (hij : i < j) (e : P i = P j) (dis : ∀ a b, a < b → b < j → P a ≠ P b) (hR : 1 ≤ R) (eR : P 6 = P (6 + R)) : i ≤ 6 ∧ (j - i) ∣ R ∧ ∀ k, i ≤ k → P (k + (j - i)) = P k := by
  have hp : ∀ d, P (i + d + (j - i)) = P (i + d) := by
    intro d
    induction d with
    | zero => rw [show i + 0 + (j - i) = j by omega]; exact e.symm
    | succ d ih => rw [show i + (d + 1) + (j - i) = i + d + (j - i) + 1 by omega]; exact step _ _ ih
  have hp2 : ∀ k, i ≤ k → P (k + (j - i)) = P k := fun k hk => by
    have := hp (k - i)
    rw [show i + (k - i) = k by omega] at this
    exact this
  have hr := per_red (show 0 < j - i by omega) hp2
  have inj : ∀ a b, a < j → b < j → P a = P b → a = b := fun a b ha hb h => by
    rcases Nat.lt_trichotomy a b with y | y | y
    · exact absurd h (dis a b y hb)
    · exact y
    · exact absurd h.symm (dis b a y ha)
  have hi : i ≤ 6 := by
    rcases Nat.lt_or_ge 6 i with y | y
    · exfalso
      rcases Nat.lt_or_ge (6 + R) j with z | z
      · exact dis 6 (6 + R) (by omega) z eR
      · rw [hr (6 + R) (by omega)] at eR
        have h3 := Nat.mod_lt (6 + R - i) (show 0 < j - i by omega)
        exact dis 6 _ (by omega) (by omega) eR
    · exact y
  refine ⟨hi, ?_, hp2⟩
  rw [hr 6 hi, hr (6 + R) (by omega)] at eR
  have h3 := Nat.mod_lt (6 + R - i) (show 0 < j - i by omega)
  have h4 := Nat.mod_lt (6 - i) (show 0 < j - i by omega)
  have h5 := inj _ _ (by omega) (by omega) eR
  have h6 : (6 + R - i) % (j - i) = (6 - i) % (j - i) := by omega
  have h7 := Nat.sub_mod_eq_zero_of_mod_eq h6
  rw [show 6 + R - i - (6 - i) = R by omega] at h7
  exact Nat.dvd_of_mod_eq_zero h7
theorem mdV_jfm {v : Int32} {M : Nat} (h1 : 0 < M) (h2 : M ≤ 10) : mdV v (nI M) = jfm v (nI M) := by
  have hM : (0 : Int) < (M : Int) := by omega
  have hb1 : v.toInt.tmod M < M := Int.tmod_lt_of_pos _ hM
  have hb2 : -(M : Int) < v.toInt.tmod M := Int.lt_tmod_of_pos _ hM
  rw [← Int32.toInt_inj, jfm_toInt h1 (by omega)]
  show (jrem (jrem v (nI M) + nI M) (nI M)).toInt = _
  rw [jrem_toInt (by omega), Int32.toInt_add, jrem_toInt (by omega), nI_toInt (by omega), Int.bmod_eq_of_le (by omega) (by omega)]
  exact int_md _ _ h1
theorem jfm_bd {v : Int32} {M : Nat} (h1 : 0 < M) (h2 : M ≤ 10) : ∃ x, x < M ∧ jfm v (nI M) = nI x := by
  have e := jfm_toInt (x := v) h1 (show M < 2 ^ 30 by omega)
  have h0 := Int.emod_nonneg v.toInt (show (M : Int) ≠ 0 by omega)
  have h3 := Int.emod_lt_of_pos v.toInt (show (0 : Int) < M by omega)
  refine ⟨(v.toInt % M).toNat, by omega, ?_⟩
  rw [← Int32.toInt_inj, e, nI_toInt (by omega)]
  omega
theorem ct_bd {M : Nat} {c d e f : Int32} (h1 : 0 < M) (h2 : M ≤ 10) : ∀ k, ∃ x, x < M ∧ ct (nI M) c d e f k = nI x
  | 0 => jfm_bd h1 h2
  | 1 => jfm_bd h1 h2
  | k + 2 => by rw [ct_2]; exact jfm_bd h1 h2
def ctX (M : Nat) (c d e f : Int32) (k : Nat) : Nat := (ct (nI M) c d e f k).toNatClampNeg
theorem ctX_eq {M : Nat} {c d e f : Int32} (h1 : 0 < M) (h2 : M ≤ 10) (k : Nat) : ct (nI M) c d e f k = nI (ctX M c d e f k) ∧ ctX M c d e f k < M := by
  obtain ⟨x, hx, eX⟩ := ct_bd (c := c) (d := d) (e := e) (f := f) h1 h2 k
  have : ctX M c d e f k = x := by rw [ctX, eX, nI_clamp (by omega)]
  rw [this]
  exact ⟨eX, hx⟩
theorem mPr_ct {σ : Nat → Nat → Int32} {q m : Nat} (h1 : 0 < m) (h2 : m ≤ 10) : mPr σ q m (ctX m (σ 2 (4 * q)) (σ 2 (4 * q + 1)) (σ 2 (4 * q + 2)) (σ 2 (4 * q + 3))) (fun j => ctX m (σ 2 (4 * q)) (σ 2 (4 * q + 1)) (σ 2 (4 * q + 2)) (σ 2 (4 * q + 3)) (j + 1)) := by
  have E := fun k => ctX_eq (c := σ 2 (4 * q)) (d := σ 2 (4 * q + 1)) (e := σ 2 (4 * q + 2)) (f := σ 2 (4 * q + 3)) h1 h2 k
  refine ⟨?_, ?_, fun j => rfl, fun j => ?_, fun j => (E j).2, fun j => (E (j + 1)).2⟩
  · rw [mdV_jfm h1 h2, ← (E 0).1]; rfl
  · rw [mdV_jfm h1 h2, ← (E 1).1]; rfl
  · rw [mdV_jfm h1 h2, ← (E (j + 1)).1, ← (E j).1, ← (E (j + 1 + 1)).1]; rfl
/-- row q's rests modulo 2 + T lie ready, as the ledger says -/
def mRZ (σ : Nat → Nat → Int32) (A : Nat → Int32) (T q ld tn : Nat) : Prop := mRq σ q ld tn ∧ tn ∣ rnd T ∧ (∀ k, k < ld + tn → σ 10 (512 * q + k) = A k) ∧ ∀ k, ld ≤ k → A (k + tn) = A k
theorem mRZ_v {σ : Nat → Nat → Int32} {A : Nat → Int32} {T q ld tn : Nat} (H : mRZ σ A T q ld tn) : rsV σ q ld tn = A := by
  obtain ⟨⟨h1, h2, h3, h4, h5, h6⟩, h7, h8, h9⟩ := H
  funext k
  rw [rsV, h8 _ (rIx_lt h4), rIx]
  split
  · rfl
  · exact (per_red (P := A) (show 0 < tn by omega) h9 k (by omega)).symm
section
variable {l : Launch} {σ : Nat → Nat → Int32} {t : Nat → Int64} {q m T : Nat}
def mtZ (σ : Nat → Nat → Int32) (t : Nat → Int64) (q T : Nat) (A : Nat → Int32) : q_P := fun r w' => r = none ∧ ∃ σ' ld tn, w' = mW σ' t ∧ mRZ σ' A T q ld tn ∧ (∀ c, c ≠ 8 → c ≠ 9 → c ≠ 10 → c ≠ 11 → σ' c = σ c) ∧ (∀ x, x ≠ q → σ' 8 x = σ 8 x ∧ σ' 9 x = σ 9 x) ∧ ∀ i, i < 512 * q ∨ 512 * q + 512 ≤ i → σ' 10 i = σ 10 i
theorem CX11_layToldZ (hT : T < 9) (hq : q ≤ 8) (hc : -9 ≤ σ 2 (4 * q) ∧ σ 2 (4 * q) ≤ 9) (hd : -9 ≤ σ 2 (4 * q + 1) ∧ σ 2 (4 * q + 1) ≤ 9) : Ct l mX11_layTold [.ref 0, .int (nI q), .int (nI (2 + T))] (mW σ t) (mtZ σ t q T (ct (nI (2 + T)) (σ 2 (4 * q)) (σ 2 (4 * q + 1)) (σ 2 (4 * q + 2)) (σ 2 (4 * q + 3)))) := by
  have hr := rnd_bd T hT
  have E := fun k => ctX_eq (M := 2 + T) (c := σ 2 (4 * q)) (d := σ 2 (4 * q + 1)) (e := σ 2 (4 * q + 2)) (f := σ 2 (4 * q + 3)) (by omega) (by omega) k
  have hX : ∀ k, 6 ≤ k → ctX (2 + T) (σ 2 (4 * q)) (σ 2 (4 * q + 1)) (σ 2 (4 * q + 2)) (σ 2 (4 * q + 3)) (k + rnd T) = ctX (2 + T) (σ 2 (4 * q)) (σ 2 (4 * q + 1)) (σ 2 (4 * q + 2)) (σ 2 (4 * q + 3)) k := fun k hk => by
    rw [ctX, ct_per hT hc hd hk, ctX]
  refine Ct.mono (CX11_layTold (B := 6 + rnd T + 1) hq ⟨by omega, by omega⟩ (mPr_ct (by omega) (by omega)) (by omega) ⟨6, 6 + rnd T, by omega, by omega, (hX 6 (by omega)).symm, by have := hX 7 (by omega); rw [show 7 + rnd T = 6 + rnd T + 1 by omega] at this; exact this.symm⟩) (fun r w' h => ?_)
  obtain ⟨rfl, i, j, σ', rfl, hij, hjB, e1, e2, dis, h8, h9, h10, hf⟩ := h
  have hm := per_min (P := fun k => (ctX (2 + T) (σ 2 (4 * q)) (σ 2 (4 * q + 1)) (σ 2 (4 * q + 2)) (σ 2 (4 * q + 3)) k, ctX (2 + T) (σ 2 (4 * q)) (σ 2 (4 * q + 1)) (σ 2 (4 * q + 2)) (σ 2 (4 * q + 3)) (k + 1))) (R := rnd T) (fun a b h => ?_) hij (Prod.ext e1 e2) (fun a b hab hb h => dis a b hab hb ⟨(Prod.ext_iff.mp h).1, (Prod.ext_iff.mp h).2⟩) hr.1 (Prod.ext (hX 6 (by omega)).symm (by have := hX 7 (by omega); rw [show 7 + rnd T = 6 + rnd T + 1 by omega] at this; exact this.symm))
  · obtain ⟨hi6, hdv, hper⟩ := hm
    have hle : j - i ≤ rnd T := Nat.le_of_dvd (by omega) hdv
    refine ⟨rfl, σ', i, j - i, rfl, ⟨⟨hq, by rw [h8]; simp [upd], by rw [h9]; simp [upd], by omega, hi6, by omega⟩, hdv, fun k hk => ?_, fun k hk => ?_⟩, hf, fun x hx => ⟨by rw [h8]; simp [upd, hx], by rw [h9]; simp [upd, hx]⟩, fun x hx => ?_⟩
    · rw [h10, ru_in (by omega), ← (E k).1]
    · rw [(E k).1, (E (k + (j - i))).1]
      exact congrArg nI (Prod.ext_iff.mp (hper k hk)).1
    · rw [h10, ru_out (by omega)]
  · have g1 := (Prod.ext_iff.mp h).1
    have g2 := (Prod.ext_iff.mp h).2
    simp only at g1 g2
    refine Prod.ext g2 ?_
    show ctX _ _ _ _ _ (a + 2) = ctX _ _ _ _ _ (b + 2)
    rw [ctX, ctX, ct_2, ct_2, (E (a + 1)).1, (E a).1, (E (b + 1)).1, (E b).1, g1, g2]
end
