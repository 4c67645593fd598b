def bmB (P : Nat) (a : Nat → Nat) (n L g v : Nat) (b : Nat → Nat) : Prop :=
  (g = n + 1 ∧ L = 0 ∧ v = 1 ∧ (∀ k, b k = if k = 0 then 1 else 0) ∧ ∀ j, j < n → a j = 0) ∨
  (g ≤ n ∧ L ≤ n - g + 1 ∧ (∀ k, n - g + 1 - L < k → b k = 0) ∧ (∀ j, n - g + 1 - L ≤ j → j < n - g → (P : Int) ∣ cvI (fun k => (b k : Int)) a j) ∧ (P : Int) ∣ cvI (fun k => (b k : Int)) a (n - g) - (v : Int))
def bmN (P : Nat) (a : Nat → Nat) (n L g v : Nat) (c b : Nat → Nat) : Prop :=
  (∀ k, c k < P) ∧ (∀ k, b k < P) ∧ 0 < v ∧ v < P ∧ c 0 = 1 ∧ L ≤ n ∧ 1 ≤ g ∧ (∀ k, L < k → c k = 0) ∧ (∀ j, L ≤ j → j < n → (P : Int) ∣ cvI (fun k => (c k : Int)) a j) ∧ (∀ z, z < L → ∀ y, ¬ gen P a n z y) ∧ bmB P a n L g v b
def c2F (P e g : Nat) (c b : Nat → Nat) (k : Nat) : Nat := if 17 ≤ k then 0 else if k < g then c k else sbN P (c k) e (b (k - g))
theorem bm_mend {P n L g v d i L2 : Nat} {a c b : Nat → Nat} (hP : 2 ≤ P) (hn : n < 16) (H : bmN P a n L g v c b) (hd : (P : Int) ∣ cvI (fun k => (c k : Int)) a n - (d : Int)) (hi : i * v % P = 1) (h1 : L ≤ L2) (h2 : n + 1 ≤ L2 + L) (h3 : g = n + 1 → L2 = n + 1) :
    (∀ k, c2F P (d * i) g c b k < P) ∧ c2F P (d * i) g c b 0 = 1 ∧ (∀ k, L2 < k → c2F P (d * i) g c b k = 0) ∧ ∀ j, L2 ≤ j → j < n + 1 → (P : Int) ∣ cvI (fun k => (c2F P (d * i) g c b k : Int)) a j := by
  obtain ⟨hc, hb, hv0, hv, hc0, hL, hg, hdeg, hgen, hmin, hB⟩ := H
  refine ⟨fun k => ?_, ?_, fun k hk => ?_, fun j hj1 hj2 => ?_⟩
  · unfold c2F
    split
    · omega
    · split
      · exact hc k
      · exact sbN_lt (by omega)
  · unfold c2F
    rw [if_neg (by omega), if_pos (by omega)]; exact hc0
  · unfold c2F
    split
    · rfl
    · split
      · exact hdeg k (by omega)
      · have hbk : b (k - g) = 0 := by
          rcases hB with ⟨e1, e2, e3, e4, e5⟩ | ⟨e1, e2, e3, e4, e5⟩
          · rw [e4, if_neg (by have := h3 e1; omega)]
          · exact e3 _ (by omega)
        rw [hdeg k (by omega), hbk]
        exact sbN_0 (by omega)
  · rcases hB with ⟨e1, e2, e3, e4, e5⟩ | ⟨e1, e2, e3, e4, e5⟩
    · have := h3 e1
      omega
    · have up := cv_up (P := P) (a := a) (c := fun k => (c k : Int)) (c' := fun k => (c2F P (d * i) g c b k : Int)) (b := fun k => (b k : Int)) (e := ((d * i : Nat) : Int)) (g := g) (j := j) (fun k hk => by
        unfold c2F
        rw [if_neg (by omega)]
        by_cases hkg : k < g
        · rw [if_pos hkg, if_pos hkg]
          simp
        · rw [if_neg hkg, if_neg hkg]
          exact sbN_dvd (by omega))
      rw [dvd_of_sub up]
      rcases Nat.lt_or_ge j n with y | y
      · have g1 := hgen j (by omega) y
        by_cases hjg : j < g
        · rw [if_pos hjg]
          simpa using g1
        · rw [if_neg hjg]
          exact Int.dvd_sub g1 (dvR (e4 (j - g) (by omega) (by omega)) _)
      · have ej : j = n := by omega
        subst ej
        rw [if_neg (by omega)]
        have k1 := dvR e5 ((d * i : Nat) : Int)
        have k2 : (P : Int) ∣ (1 : Int) - ((i * v : Nat) : Int) := by
          have := mod_dvd' (i * v) P
          rw [hi] at this
          simpa using this
        have k3 := dvR k2 (d : Int)
        have k4 := Int.dvd_add (Int.dvd_sub hd k1) k3
        have e : cvI (fun k => (c k : Int)) a j - (d : Int) - ((d * i : Nat) : Int) * (cvI (fun k => (b k : Int)) a (j - g) - (v : Int)) + (d : Int) * (1 - ((i * v : Nat) : Int)) = cvI (fun k => (c k : Int)) a j - ((d * i : Nat) : Int) * cvI (fun k => (b k : Int)) a (j - g) := by
          rw [Int.natCast_mul d i, Int.natCast_mul i v]; grind
        rw [e] at k4
        exact k4
theorem bm_gen {P n L g v : Nat} {a c b : Nat → Nat} (H : bmN P a n L g v c b) : gen P a n L (fun k => (c k : Int)) := by
  obtain ⟨hc, hb, hv0, hv, hc0, hL, hg, hdeg, hgen, hmin, hB⟩ := H
  refine ⟨?_, fun k hk => ?_, hgen⟩
  · show (P : Int) ∣ (c 0 : Int) - 1
    rw [hc0]; simp
  · show (c k : Int) = 0
    rw [hdeg k hk]; rfl
theorem bm_no {P n L g v : Nat} {a c b : Nat → Nat} (hP : 2 ≤ P) (ha : ∀ k, a k < P) (H : bmN P a n L g v c b) (hd : (P : Int) ∣ cvI (fun k => (c k : Int)) a n) : bmN P a (n + 1) L (g + 1) v c b := by
  obtain ⟨hc, hb, hv0, hv, hc0, hL, hg, hdeg, hgen, hmin, hB⟩ := H
  refine ⟨hc, hb, hv0, hv, hc0, by omega, by omega, hdeg, fun j h1 h2 => ?_, fun z hz y hy => hmin z hz y (hy.le (by omega)), ?_⟩
  · rcases Nat.lt_or_ge j n with y | y
    · exact hgen j h1 y
    · rw [show j = n by omega]; exact hd
  · rcases hB with ⟨e1, e2, e3, e4, e5⟩ | ⟨e1, e2, e3, e4, e5⟩
    · refine Or.inl ⟨by omega, e2, e3, e4, fun j hj => ?_⟩
      rcases Nat.lt_or_ge j n with y | y
      · exact e5 j y
      · rw [show j = n by omega]
        rw [cv_tr (L := 0) (fun k hk => by show (c k : Int) = 0; rw [hdeg k (by omega)]; rfl) (by omega)] at hd
        have e : sI (fun i => ((fun k => (c k : Int)) i) * (a (n - i) : Int)) (0 + 1) = (a n : Int) := by
          simp only [sI, hc0]
          simp
        rw [e] at hd
        have h8 := ha n
        rcases Nat.eq_zero_or_pos (a n) with w | w
        · exact w
        · have := Int.le_of_dvd (by omega) hd
          omega
    · refine Or.inr ⟨by omega, by omega, ?_, ?_, ?_⟩
      · rw [show n + 1 - (g + 1) = n - g by omega]; exact e3
      · rw [show n + 1 - (g + 1) = n - g by omega]; exact e4
      · rw [show n + 1 - (g + 1) = n - g by omega]; exact e5
theorem bm_long {P n L g v d i : Nat} {a c b : Nat → Nat} (hP : 2 ≤ P) (hn : n < 16) (H : bmN P a n L g v c b) (hd : (P : Int) ∣ cvI (fun k => (c k : Int)) a n - (d : Int)) (hd0 : 0 < d) (hdP : d < P) (hi : i * v % P = 1) (h2L : 2 * L ≤ n) : bmN P a (n + 1) (n + 1 - L) 1 d (c2F P (d * i) g c b) c := by
  have hG := bm_gen H
  have hM := bm_mend (L2 := n + 1 - L) hP hn H hd hi (by omega) (by omega) (fun e => by
    obtain ⟨hc, hb, hv0, hv, hc0, hL, hg, hdeg, hgen, hmin, hB⟩ := H
    rcases hB with ⟨e1, e2, e3, e4, e5⟩ | ⟨e1, e2, e3, e4, e5⟩ <;> omega)
  obtain ⟨hc, hb, hv0, hv, hc0, hL, hg, hdeg, hgen, hmin, hB⟩ := H
  refine ⟨hM.1, hc, hd0, hdP, hM.2.1, by omega, by omega, hM.2.2.1, hM.2.2.2, fun z hz y hy => ?_, Or.inr ⟨by omega, by omega, fun k hk => hdeg k (by omega), fun j h1 h2 => hgen j (by omega) (by omega), ?_⟩⟩
  · have hnd : ¬ (P : Int) ∣ cvI (fun k => (c k : Int)) a n := fun z => by
      have h5 := (dvd_of_sub hd).mp z
      have := Int.le_of_dvd (by omega) h5
      omega
    have := massey hG hnd hy
    omega
  · rw [show n + 1 - 1 = n by omega]; exact hd
theorem bm_short {P n L g v d i : Nat} {a c b : Nat → Nat} (hP : 2 ≤ P) (hn : n < 16) (H : bmN P a n L g v c b) (hd : (P : Int) ∣ cvI (fun k => (c k : Int)) a n - (d : Int)) (hi : i * v % P = 1) (h2L : n < 2 * L) : bmN P a (n + 1) L (g + 1) v (c2F P (d * i) g c b) b := by
  have hM := bm_mend (L2 := L) hP hn H hd hi (by omega) (by omega) (fun e => by
    obtain ⟨hc, hb, hv0, hv, hc0, hL, hg, hdeg, hgen, hmin, hB⟩ := H
    rcases hB with ⟨e1, e2, e3, e4, e5⟩ | ⟨e1, e2, e3, e4, e5⟩ <;> omega)
  obtain ⟨hc, hb, hv0, hv, hc0, hL, hg, hdeg, hgen, hmin, hB⟩ := H
  refine ⟨hM.1, hb, hv0, hv, hM.2.1, by omega, by omega, hM.2.2.1, hM.2.2.2, fun z hz y hy => hmin z hz y (hy.le (by omega)), ?_⟩
  rcases hB with ⟨e1, e2, e3, e4, e5⟩ | ⟨e1, e2, e3, e4, e5⟩
  · omega
  · refine Or.inr ⟨by omega, by omega, ?_, ?_, ?_⟩
    · rw [show n + 1 - (g + 1) = n - g by omega]; exact e3
    · rw [show n + 1 - (g + 1) = n - g by omega]; exact e4
    · rw [show n + 1 - (g + 1) = n - g by omega]; exact e5
/-! the walk's own numbers -/
def sS (c a : Nat → Nat) (n : Nat) : Nat → Nat
  | 0 => 0
  | j + 1 => sS c a n j + c j * a (n - j)
theorem sS_I {c a : Nat → Nat} {n : Nat} : ∀ j, (sS c a n j : Int) = sI (fun i => (c i : Int) * (a (n - i) : Int)) j
  | 0 => rfl
  | j + 1 => by rw [sS, sI, Int.natCast_add, Int.natCast_mul, sS_I j]
theorem sS_bd {c a : Nat → Nat} {n P : Nat} (hP : P < 8) (hc : ∀ k, c k < P) (ha : ∀ k, a k < P) : ∀ j, sS c a n j ≤ 49 * j
  | 0 => Nat.le_refl 0
  | j + 1 => by
    rw [sS]
    have h1 := sS_bd (n := n) hP hc ha j
    have h2 : c j * a (n - j) ≤ 7 * 7 := Nat.mul_le_mul (by have := hc j; omega) (by have := ha (n - j); omega)
    omega
theorem msS_n {C A : Nat → Int32} {c a : Nat → Nat} {n : Nat} (hC : ∀ k, k < 17 → C k = nI (c k)) (hA : ∀ k, A k = nI (a k)) : ∀ j, j ≤ 17 → msS C A n j = nI (sS c a n j)
  | 0, _ => rfl
  | j + 1, h => by rw [msS, sS, msS_n hC hA j (by omega), hC j (by omega), hA, nI_mul, nI_add]
theorem msV_n {C A : Nat → Int32} {c a : Nat → Nat} {n L P : Nat} (hP : 2 ≤ P ∧ P < 8) (hC : ∀ k, k < 17 → C k = nI (c k)) (hA : ∀ k, A k = nI (a k)) (hc : ∀ k, c k < P) (ha : ∀ k, a k < P) (hL : L ≤ n) (hL2 : L ≤ 16) (hdeg : ∀ k, L < k → c k = 0) : ∃ d, d < P ∧ msV C A (nI P) L n = nI d ∧ (P : Int) ∣ cvI (fun k => (c k : Int)) a n - (d : Int) := by
  have hb := sS_bd (n := n) hP.2 hc ha (L + 1)
  refine ⟨sS c a n (L + 1) % P, Nat.mod_lt _ (by omega), ?_, ?_⟩
  · unfold msV
    rw [Nat.min_eq_left hL, msS_n hC hA _ (by omega), jrem_nI (by omega) (by omega)]
  · rw [cv_tr (fun k hk => by show (c k : Int) = 0; rw [hdeg k hk]; rfl) hL]
    have h1 := mod_dvd' (sS c a n (L + 1)) P
    have h2 := Int.dvd_neg.mpr h1
    rw [Int.neg_sub, sS_I] at h2
    exact h2
theorem jfm_sb {P a b c : Nat} (hP : 2 ≤ P ∧ P < 8) (ha : a < 8) (hb : b < 64) (hc : c < 8) : jfm (nI a - nI b * nI c) (nI P) = nI (sbN P a b c) := by
  have h2 : b * c ≤ 64 * 8 := Nat.mul_le_mul (by omega) (by omega)
  have h3 := sbN_lt (a := a) (b := b) (c := c) (show 0 < P by omega)
  rw [← Int32.toInt_inj, jfm_toInt (by omega) (by omega), nI_toInt (by omega), nI_mul, Int32.toInt_sub, nI_toInt (by omega), nI_toInt (by omega), Int.bmod_eq_of_le (by omega) (by omega)]
  unfold sbN
  have h1 := Int.emod_nonneg ((a : Int) - b * c) (show (P : Int) ≠ 0 by omega)
  rw [Int.natCast_mul]
  omega
theorem mdF_n {C B : Nat → Int32} {c b : Nat → Nat} {P e g : Nat} (hP : 2 ≤ P ∧ P < 8) (hC : ∀ k, k < 17 → C k = nI (c k)) (hB : ∀ k, k < 17 → B k = nI (b k)) (hc : ∀ k, c k < P) (hb : ∀ k, b k < P) (he : e < 64) (hg : g ≤ 17) : ∀ k, k < 17 → mdF C B (nI e) (nI P) g k = nI (c2F P e g c b k) := by
  intro k hk
  unfold mdF ru c2F
  rw [if_neg (show ¬ 17 ≤ k by omega)]
  by_cases h : k < g
  · rw [if_neg (by omega), if_pos h]; exact hC k hk
  · rw [if_pos (by omega), if_neg h]
    show jfm (C (g + (k - g)) - nI e * B (k - g)) (nI P) = _
    rw [show g + (k - g) = k by omega, hC k hk, hB (k - g) (by omega)]
    exact jfm_sb hP (by have := hc k; omega) he (by have := hb (k - g); omega)
theorem ivS_n {P v : Nat} (hP : prm P) (hv : v < P) (h0 : ¬ v = 0) : ∃ i, i < P ∧ ivS (nI v) (nI P) (P - 1) 1 = nI i ∧ i * v % P = 1 := by
  have k2 : ∀ v, v < 2 → ¬ v = 0 → ∃ i, i < 2 ∧ ivS (nI v) (nI 2) 1 1 = nI i ∧ i * v % 2 = 1 := by decide +kernel
  have k3 : ∀ v, v < 3 → ¬ v = 0 → ∃ i, i < 3 ∧ ivS (nI v) (nI 3) 2 1 = nI i ∧ i * v % 3 = 1 := by decide +kernel
  have k5 : ∀ v, v < 5 → ¬ v = 0 → ∃ i, i < 5 ∧ ivS (nI v) (nI 5) 4 1 = nI i ∧ i * v % 5 = 1 := by decide +kernel
  have k7 : ∀ v, v < 7 → ¬ v = 0 → ∃ i, i < 7 ∧ ivS (nI v) (nI 7) 6 1 = nI i ∧ i * v % 7 = 1 := by decide +kernel
  rcases hP with rfl | rfl | rfl | rfl
  · exact k2 v hv h0
  · exact k3 v hv h0
  · exact k5 v hv h0
  · exact k7 v hv h0
