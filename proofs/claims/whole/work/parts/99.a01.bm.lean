/-! Massey's theorem, and that both ways to the least recurrence agree -/
def cvI (y : Nat → Int) (a : Nat → Nat) (j : Nat) : Int := sI (fun i => y i * (a (j - i) : Int)) (j + 1)
def gen (P : Nat) (a : Nat → Nat) (n L : Nat) (y : Nat → Int) : Prop := (P : Int) ∣ y 0 - 1 ∧ (∀ k, L < k → y k = 0) ∧ ∀ j, L ≤ j → j < n → (P : Int) ∣ cvI y a j
theorem gen.le {P : Nat} {a : Nat → Nat} {n m L : Nat} {y : Nat → Int} (h : gen P a n L y) (hm : m ≤ n) : gen P a m L y := ⟨h.1, h.2.1, fun j a b => h.2.2 j a (by omega)⟩
theorem sI_app {f : Nat → Int} {m : Nat} : ∀ q, sI f (m + q) = sI f m + sI (fun k => f (m + k)) q
  | 0 => by simp [sI]
  | q + 1 => by
    rw [← Nat.add_assoc, sI, sI_app q, sI, Int.add_assoc]
theorem sI_dvd {P : Int} {f : Nat → Int} : ∀ n, (∀ k, k < n → P ∣ f k) → P ∣ sI f n
  | 0, _ => by simp [sI]
  | n + 1, h => by rw [sI]; exact Int.dvd_add (sI_dvd n (fun k hk => h k (by omega))) (h n (by omega))
theorem sI_add {f g : Nat → Int} : ∀ n, sI (fun k => f k + g k) n = sI f n + sI g n
  | 0 => rfl
  | n + 1 => by simp only [sI]; rw [sI_add n]; omega
theorem sI_mul {f : Nat → Int} {c : Int} : ∀ n, sI (fun k => c * f k) n = c * sI f n
  | 0 => by simp [sI]
  | n + 1 => by simp only [sI]; rw [sI_mul n, Int.mul_add]
theorem sI_swap {F : Nat → Nat → Int} {q : Nat} : ∀ p, sI (fun i => sI (fun k => F i k) q) p = sI (fun k => sI (fun i => F i k) p) q
  | 0 => by rw [show sI (fun i => sI (fun k => F i k) q) 0 = 0 from rfl]; exact (sI_zero q (fun k _ => rfl)).symm
  | p + 1 => by
    rw [sI, sI_swap p, ← sI_add]
    rfl
theorem cv_tr {y : Nat → Int} {a : Nat → Nat} {L m : Nat} (h : ∀ k, L < k → y k = 0) (hm : L ≤ m) : cvI y a m = sI (fun i => y i * (a (m - i) : Int)) (L + 1) := by
  unfold cvI
  rw [show m + 1 = (L + 1) + (m - L) by omega, sI_app, sI_zero (m - L) (fun k _ => by rw [h _ (by omega)]; simp), Int.add_zero]
theorem sI_hd {P : Int} {f : Nat → Int} : ∀ m, (∀ k, 1 ≤ k → k < m + 1 → P ∣ f k) → P ∣ sI f (m + 1) - f 0
  | 0, _ => by simp [sI]
  | m + 1, h => by
    have h1 := sI_hd (P := P) (f := f) m (fun k a b => h k a (by omega))
    have h2 := h (m + 1) (by omega) (by omega)
    rw [sI, show sI f (m + 1) + f (m + 1) - f 0 = (sI f (m + 1) - f 0) + f (m + 1) by omega]
    exact Int.dvd_add h1 h2
theorem massey {P : Nat} {a : Nat → Nat} {n L L' : Nat} {x y : Nat → Int} (hx : gen P a n L x) (hn : ¬ (P : Int) ∣ cvI x a n) (hy : gen P a (n + 1) L' y) : n + 1 ≤ L + L' := by
  rcases Nat.lt_or_ge n (L + L') with z | z
  · exact z
  · exfalso
    apply hn
    -- the double sum
    have d1 : sI (fun i => x i * cvI y a (n - i)) (L + 1) = sI (fun i => sI (fun k => x i * (y k * (a (n - i - k) : Int))) (L' + 1)) (L + 1) := sI_cong _ (fun i hi => by
      rw [cv_tr hy.2.1 (show L' ≤ n - i by omega), ← sI_mul])
    have d2 : sI (fun k => y k * cvI x a (n - k)) (L' + 1) = sI (fun k => sI (fun i => x i * (y k * (a (n - i - k) : Int))) (L + 1)) (L' + 1) := sI_cong _ (fun k hk => by
      rw [cv_tr hx.2.1 (show L ≤ n - k by omega), ← sI_mul]
      exact sI_cong _ (fun i hi => by rw [show n - k - i = n - i - k by omega]; grind))
    have d3 : sI (fun i => x i * cvI y a (n - i)) (L + 1) = sI (fun k => y k * cvI x a (n - k)) (L' + 1) := by rw [d1, d2, sI_swap]
    have e1 : (P : Int) ∣ sI (fun i => x i * cvI y a (n - i)) (L + 1) := sI_dvd _ (fun i hi => dvR (hy.2.2 (n - i) (by omega) (by omega)) _)
    rw [d3] at e1
    have e2 := sI_hd (P := P) (f := fun k => y k * cvI x a (n - k)) L' (fun k h1 h2 => dvR (hx.2.2 (n - k) (by omega) (by omega)) _)
    have e3 := Int.dvd_sub e1 e2
    have e4 := dvL hy.1 (cvI x a n)
    have e5 := Int.dvd_sub e3 e4
    have e6 : sI (fun k => y k * cvI x a (n - k)) (L' + 1) - (sI (fun k => y k * cvI x a (n - k)) (L' + 1) - y 0 * cvI x a (n - 0)) - (y 0 - 1) * cvI x a n = cvI x a n := by
      rw [show n - 0 = n from rfl]; grind
    rw [e6] at e5
    exact e5
/-- a shifted row beneath a row -/
theorem cv_sh {b : Nat → Int} {a : Nat → Nat} {g j : Nat} : sI (fun i => (if i < g then 0 else b (i - g)) * (a (j - i) : Int)) (j + 1) = if j < g then 0 else cvI b a (j - g) := by
  by_cases h : j < g
  · rw [if_pos h]
    exact sI_zero _ (fun k hk => by rw [if_pos (by omega)]; simp)
  · rw [if_neg h, show j + 1 = g + (j - g + 1) by omega, sI_app, sI_zero g (fun k hk => by rw [if_pos hk]; simp), Int.zero_add]
    unfold cvI
    exact sI_cong _ (fun k hk => by rw [if_neg (by omega), show g + k - g = k by omega, show j - (g + k) = j - g - k by omega])
theorem cv_up {P : Nat} {a : Nat → Nat} {c c' b : Nat → Int} {e : Int} {g j : Nat} (h : ∀ i, i < j + 1 → (P : Int) ∣ c' i - (c i - e * (if i < g then 0 else b (i - g)))) : (P : Int) ∣ cvI c' a j - (cvI c a j - e * (if j < g then 0 else cvI b a (j - g))) := by
  have h1 := sI_lin (P := P) (b := 1) (c := -e) (f := c') (g := c) (h := fun i => if i < g then 0 else b (i - g)) (x := fun i => (a (j - i) : Int)) (j + 1) (fun k hk => by
    have := h k hk
    rw [show c' k - (1 * c k + -e * (if k < g then 0 else b (k - g))) = c' k - (c k - e * (if k < g then 0 else b (k - g))) by grind]
    exact this)
  rw [cv_sh] at h1
  have e1 : cvI c' a j - (1 * cvI c a j + -e * (if j < g then 0 else cvI b a (j - g))) = cvI c' a j - (cvI c a j - e * (if j < g then 0 else cvI b a (j - g))) := by grind
  unfold cvI at e1 h1 ⊢
  rw [e1] at h1
  exact h1
