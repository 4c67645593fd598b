/-! the reference's lines of equations -/
def sI (f : Nat → Int) : Nat → Int
  | 0 => 0
  | n + 1 => sI f n + f n
theorem sI_cong {f g : Nat → Int} : ∀ n, (∀ k, k < n → f k = g k) → sI f n = sI g n
  | 0, _ => rfl
  | n + 1, h => by rw [sI, sI, sI_cong n (fun k hk => h k (by omega)), h n (by omega)]
theorem sI_zero {f : Nat → Int} : ∀ n, (∀ k, k < n → f k = 0) → sI f n = 0
  | 0, _ => rfl
  | n + 1, h => by rw [sI, sI_zero n (fun k hk => h k (by omega)), h n (by omega)]; rfl
theorem sI_one {f : Nat → Int} {p : Nat} : ∀ n, p < n → (∀ k, k < n → k ≠ p → f k = 0) → sI f n = f p
  | 0, h, _ => absurd h (by omega)
  | n + 1, h, h2 => by
    rw [sI]
    by_cases e : n = p
    · subst e
      rw [sI_zero n (fun k hk => h2 k (by omega) (by omega)), Int.zero_add]
    · rw [sI_one n (by omega) (fun k hk hp => h2 k (by omega) hp), h2 n (by omega) e, Int.add_zero]
theorem dvL {P a : Int} (h : P ∣ a) (c : Int) : P ∣ a * c := Int.dvd_mul_of_dvd_left h
theorem dvR {P a : Int} (h : P ∣ a) (c : Int) : P ∣ c * a := Int.dvd_mul_of_dvd_right h
def tbl (τ : Nat → Nat → Int32) (T : Nat → Nat → Nat) : Prop := ∀ i k, i < 16 → k < 17 → τ 12 (17 * i + k) = nI (T i k)
theorem tbl_put {τ : Nat → Nat → Int32} {T T' : Nat → Nat → Nat} {a b : Nat} {x : Int32} (h : tbl τ T) (ha : a < 16) (hb : b < 17) (hv : x = nI (T' a b)) (hT : ∀ i k, i < 16 → k < 17 → ¬ (i = a ∧ k = b) → T' i k = T i k) : tbl (put τ 12 (17 * a + b) x) T' := by
  intro i k hi hk
  rw [put_ix]
  by_cases e : i = a ∧ k = b
  · rw [if_pos (by rw [e.1, e.2]), hv, e.1, e.2]
  · rw [if_neg (by omega), h i k hi hk, hT i k hi hk e]
def sbN (P a b c : Nat) : Nat := (((a : Int) - b * c) % P).toNat
theorem sbN_lt {P a b c : Nat} (hP : 0 < P) : sbN P a b c < P := by
  unfold sbN
  have h1 := Int.emod_nonneg ((a : Int) - b * c) (show (P : Int) ≠ 0 by omega)
  have h2 := Int.emod_lt_of_pos ((a : Int) - b * c) (show (0 : Int) < P by omega)
  omega
theorem sbN_dvd {P a b c : Nat} (hP : 0 < P) : (P : Int) ∣ (sbN P a b c : Int) - ((a : Int) - b * c) := by
  have h1 := Int.emod_nonneg ((a : Int) - b * c) (show (P : Int) ≠ 0 by omega)
  have e : (sbN P a b c : Int) = ((a : Int) - b * c) % P := by unfold sbN; omega
  rw [e]
  have := Int.dvd_sub_self_of_emod_eq (a := ((a : Int) - b * c)) (b := P) rfl
  have h3 : (P : Int) ∣ ((a : Int) - b * c) - ((a : Int) - b * c) % P := by
    rw [Int.dvd_iff_emod_eq_zero, Int.sub_emod, Int.emod_emod, Int.sub_self, Int.zero_emod]
  have h4 := Int.dvd_neg.mpr h3
  rw [Int.neg_sub] at h4
  exact h4
set_option maxRecDepth 100000 in
theorem sbN_md : ∀ P, P < 8 → 2 ≤ P → ∀ a, a < P → ∀ b, b < P → ∀ c, c < P → jrem (jrem (nI a - nI b * nI c) (nI P) + nI P) (nI P) = nI (sbN P a b c) := by decide +kernel
/-- the equations' lines: line i asks that the sum of T i k * x k, k < s, be T i s modulo P -/
def eqn (T : Nat → Nat → Nat) (s : Nat) (x : Nat → Int) (i : Nat) : Int := sI (fun k => (T i k : Int) * x k) s - T i s
def sol (P m s : Nat) (T : Nat → Nat → Nat) (x : Nat → Int) : Prop := ∀ i, i < m → (P : Int) ∣ eqn T s x i
theorem sI_lin {P b c : Int} {f g h : Nat → Int} {x : Nat → Int} : ∀ n, (∀ k, k < n → P ∣ f k - (b * g k + c * h k)) → P ∣ sI (fun k => f k * x k) n - (b * sI (fun k => g k * x k) n + c * sI (fun k => h k * x k) n)
  | 0, _ => by simp [sI]
  | n + 1, hh => by
    have ih := sI_lin (P := P) (b := b) (c := c) (f := f) (g := g) (h := h) (x := x) n (fun k hk => hh k (by omega))
    have h1 := Int.dvd_add ih (dvL (hh n (by omega)) (x n))
    simp only [sI]
    have e : sI (fun k => f k * x k) n + f n * x n - (b * (sI (fun k => g k * x k) n + g n * x n) + c * (sI (fun k => h k * x k) n + h n * x n)) = (sI (fun k => f k * x k) n - (b * sI (fun k => g k * x k) n + c * sI (fun k => h k * x k) n)) + (f n - (b * g n + c * h n)) * x n := by grind
    rw [e]
    exact h1
theorem eqn_lin {P : Nat} {b c : Int} {T T' : Nat → Nat → Nat} {s i j i' : Nat} {x : Nat → Int} (h : ∀ k, k < s + 1 → (P : Int) ∣ (T' i' k : Int) - (b * T i k + c * T j k)) : (P : Int) ∣ eqn T' s x i' - (b * eqn T s x i + c * eqn T s x j) := by
  have h1 := sI_lin (P := P) (b := b) (c := c) (f := fun k => (T' i' k : Int)) (g := fun k => (T i k : Int)) (h := fun k => (T j k : Int)) (x := x) s (fun k hk => h k (by omega))
  have h2 := Int.dvd_sub h1 (h s (by omega))
  unfold eqn
  have e : sI (fun k => (T' i' k : Int) * x k) s - (T' i' s : Int) - (b * (sI (fun k => (T i k : Int) * x k) s - (T i s : Int)) + c * (sI (fun k => (T j k : Int) * x k) s - (T j s : Int))) = (sI (fun k => (T' i' k : Int) * x k) s - (b * sI (fun k => (T i k : Int) * x k) s + c * sI (fun k => (T j k : Int) * x k) s)) - ((T' i' s : Int) - (b * T i s + c * T j s)) := by grind
  rw [e]
  exact h2
theorem dvd_of_sub {P a b : Int} (h : P ∣ a - b) : P ∣ a ↔ P ∣ b := by
  constructor
  · intro h2
    have := Int.dvd_sub h2 h
    rw [show a - (a - b) = b by omega] at this
    exact this
  · intro h2
    have := Int.dvd_add h h2
    rw [show a - b + b = a by omega] at this
    exact this
def swT (T : Nat → Nat → Nat) (a b : Nat) : Nat → Nat → Nat := fun i k => if i = a then T b k else if i = b then T a k else T i k
def muT (T : Nat → Nat → Nat) (a b P : Nat) : Nat → Nat → Nat := fun i k => if i = a then T i k * b % P else T i k
def taT (T : Nat → Nat → Nat) (f a c P : Nat) : Nat → Nat → Nat := fun i k => if i = f then sbN P (T i k) (T f c) (T a k) else T i k
theorem eqn_cong {T T' : Nat → Nat → Nat} {s i i' : Nat} {x : Nat → Int} (h : ∀ k, T' i' k = T i k) : eqn T' s x i' = eqn T s x i := by
  unfold eqn
  rw [h s, sI_cong s (fun k _ => by rw [h k])]
theorem sol_sw {P m s a b : Nat} {T : Nat → Nat → Nat} {x : Nat → Int} (ha : a < m) (hb : b < m) : sol P m s (swT T a b) x ↔ sol P m s T x := by
  have e : ∀ i, eqn (swT T a b) s x i = eqn T s x (if i = a then b else if i = b then a else i) := fun i => eqn_cong (fun k => by unfold swT; split; rfl; split <;> rfl)
  constructor
  · intro h i hi
    have h2 : i = (if (if i = a then b else if i = b then a else i) = a then b else if (if i = a then b else if i = b then a else i) = b then a else (if i = a then b else if i = b then a else i)) := by grind
    rw [h2, ← e]
    refine h _ ?_
    grind
  · intro h i hi
    rw [e]
    refine h _ ?_
    grind
theorem mod_dvd' (a P : Nat) : (P : Int) ∣ ((a % P : Nat) : Int) - a := by
  have h3 : (P : Int) ∣ (a : Int) - (a : Int) % P := by
    rw [Int.dvd_iff_emod_eq_zero, Int.sub_emod, Int.emod_emod, Int.sub_self, Int.zero_emod]
  have h4 := Int.dvd_neg.mpr h3
  rw [Int.neg_sub] at h4
  rw [Int.natCast_emod]
  exact h4
theorem sol_mu {P m s a b v : Nat} {T : Nat → Nat → Nat} {x : Nat → Int} (hv : v * b % P = 1) : sol P m s (muT T a b P) x ↔ sol P m s T x := by
  have hvb : (P : Int) ∣ (1 : Int) - v * b := by
    have := mod_dvd' (v * b) P
    rw [hv] at this
    simpa using this
  have e1 : ∀ i, i ≠ a → eqn (muT T a b P) s x i = eqn T s x i := fun i hi => eqn_cong (fun k => if_neg hi)
  have e2 : (P : Int) ∣ eqn (muT T a b P) s x a - ((b : Int) * eqn T s x a + 0 * eqn T s x a) := eqn_lin (fun k _ => by
    have h := mod_dvd' (T a k * b) P
    unfold muT
    rw [if_pos rfl]
    have e : ((T a k * b % P : Nat) : Int) - ((b : Int) * (T a k : Int) + 0 * (T a k : Int)) = ((T a k * b % P : Nat) : Int) - ((T a k * b : Nat) : Int) := by
      rw [Int.natCast_mul (T a k) b]; grind
    rw [e]; exact h)
  have e3 : (P : Int) ∣ eqn (muT T a b P) s x a ↔ (P : Int) ∣ eqn T s x a := by
    rw [dvd_of_sub e2]
    constructor
    · intro h
      have h1 := dvR h (v : Int)
      have h2 := dvL hvb (eqn T s x a)
      have h3 := Int.dvd_add h1 h2
      have e : (v : Int) * ((b : Int) * eqn T s x a + 0 * eqn T s x a) + (1 - (v : Int) * b) * eqn T s x a = eqn T s x a := by grind
      rw [e] at h3
      exact h3
    · intro h
      have h1 := dvR h (b : Int)
      have e : (b : Int) * eqn T s x a + 0 * eqn T s x a = (b : Int) * eqn T s x a := by grind
      rw [e]; exact h1
  constructor
  · intro h i hi
    by_cases e : i = a
    · subst e; exact e3.mp (h i hi)
    · rw [← e1 i e]; exact h i hi
  · intro h i hi
    by_cases e : i = a
    · subst e; exact e3.mpr (h i hi)
    · rw [e1 i e]; exact h i hi
theorem sol_ta {P m s f a c : Nat} {T : Nat → Nat → Nat} {x : Nat → Int} (hP : 0 < P) (ha : a < m) (hfa : f ≠ a) : sol P m s (taT T f a c P) x ↔ sol P m s T x := by
  have e1 : ∀ i, i ≠ f → eqn (taT T f a c P) s x i = eqn T s x i := fun i hi => eqn_cong (fun k => if_neg hi)
  have e2 : (P : Int) ∣ eqn (taT T f a c P) s x f - ((1 : Int) * eqn T s x f + (-(T f c : Int)) * eqn T s x a) := eqn_lin (fun k _ => by
    have h := sbN_dvd (P := P) (a := T f k) (b := T f c) (c := T a k) hP
    unfold taT
    rw [if_pos rfl]
    have e : ((sbN P (T f k) (T f c) (T a k) : Nat) : Int) - ((1 : Int) * (T f k : Int) + (-(T f c : Int)) * (T a k : Int)) = ((sbN P (T f k) (T f c) (T a k) : Nat) : Int) - ((T f k : Int) - (T f c : Int) * (T a k : Int)) := by grind
    rw [e]; exact h)
  have e3 : (P : Int) ∣ eqn T s x a → ((P : Int) ∣ eqn (taT T f a c P) s x f ↔ (P : Int) ∣ eqn T s x f) := by
    intro h
    rw [dvd_of_sub e2]
    have h1 := dvR h (-(T f c : Int))
    constructor
    · intro h2
      have := Int.dvd_sub h2 h1
      have e : (1 : Int) * eqn T s x f + (-(T f c : Int)) * eqn T s x a - (-(T f c : Int)) * eqn T s x a = eqn T s x f := by grind
      rw [e] at this; exact this
    · intro h2
      have := Int.dvd_add h2 h1
      have e : eqn T s x f + (-(T f c : Int)) * eqn T s x a = (1 : Int) * eqn T s x f + (-(T f c : Int)) * eqn T s x a := by grind
      rw [e] at this; exact this
  constructor
  · intro h i hi
    have h2 := h a ha
    rw [e1 a (Ne.symm hfa)] at h2
    by_cases e : i = f
    · subst e; exact (e3 h2).mp (h i hi)
    · rw [← e1 i e]; exact h i hi
  · intro h i hi
    by_cases e : i = f
    · subst e; exact (e3 (h a ha)).mpr (h i hi)
    · rw [e1 i e]; exact h i hi
/-- the lines are cleared up to column k -/
def gsI (P m k u : Nat) (T : Nat → Nat → Nat) (pv : Nat → Nat) : Prop :=
  (∀ i c, T i c < P) ∧ u ≤ m ∧ u ≤ k ∧ (∀ i, i < u → pv i < k ∧ T i (pv i) = 1 ∧ (∀ j, j < m → j ≠ i → T j (pv i) = 0) ∧ ∀ c, c < pv i → T i c = 0) ∧ ∀ i, u ≤ i → i < m → ∀ c, c < k → T i c = 0
theorem gsI_no {P m k u : Nat} {T : Nat → Nat → Nat} {pv : Nat → Nat} (h : gsI P m k u T pv) (hz : ∀ i, u ≤ i → i < m → T i k = 0) : gsI P m (k + 1) u T pv := by
  obtain ⟨h1, h2, h3, h4, h5⟩ := h
  refine ⟨h1, h2, by omega, fun i hi => ?_, fun i hi hm c hc => ?_⟩
  · obtain ⟨a, b⟩ := h4 i hi
    exact ⟨by omega, b⟩
  · rcases Nat.lt_or_ge c k with y | y
    · exact h5 i hi hm c y
    · rw [show c = k by omega]; exact hz i hi hm
theorem gsI_met {P m s u : Nat} {T : Nat → Nat → Nat} {pv : Nat → Nat} {F : Nat → Nat} (h : gsI P m s u T pv) (hF : ∀ i, i < u → F (pv i) = T i s) (hF0 : ∀ c, c < s → (∀ i, i < u → c ≠ pv i) → F c = 0) (hz : ∀ i, u ≤ i → i < m → T i s = 0) : sol P m s T (fun k => (F k : Int)) := by
  obtain ⟨h1, h2, h3, h4, h5⟩ := h
  intro i hi
  unfold eqn
  rcases Nat.lt_or_ge i u with y | y
  · obtain ⟨a, b, c, d⟩ := h4 i y
    rw [sI_one s a (fun k hk hp => ?_), b]
    · show (P : Int) ∣ ((1 : Nat) : Int) * (F (pv i) : Int) - (T i s : Int)
      rw [hF i y]; simp
    · by_cases e : ∃ j, j < u ∧ k = pv j
      · obtain ⟨j, hj, rfl⟩ := e
        have hji : i ≠ j := fun z => hp (by rw [z])
        rw [(h4 j hj).2.2.1 i hi hji]; simp
      · show (T i k : Int) * (F k : Int) = 0
        rw [hF0 k hk (fun j hj z => e ⟨j, hj, z⟩)]; simp
  · rw [sI_zero s (fun k hk => by rw [h5 i y hi k hk]; simp), hz i y hi]
    simp
theorem gsI_unmet {P m s u i : Nat} {T : Nat → Nat → Nat} {pv : Nat → Nat} (h : gsI P m s u T pv) (hi : u ≤ i) (hm : i < m) (hz : T i s ≠ 0) (x : Nat → Int) : ¬ sol P m s T x := by
  obtain ⟨h1, h2, h3, h4, h5⟩ := h
  intro hs
  have := hs i hm
  unfold eqn at this
  rw [sI_zero s (fun k hk => by rw [h5 i hi hm k hk]; simp)] at this
  have h6 := h1 i s
  have h7 : (P : Int) ∣ (T i s : Int) := by
    have := Int.dvd_neg.mpr this
    simpa using this
  have h8 := Int.le_of_dvd (by omega) h7
  omega
