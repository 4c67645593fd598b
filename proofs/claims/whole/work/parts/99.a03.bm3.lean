theorem cpy17 {C S : Nat → Int32} {k : Nat} (hk : k < 17) : va_cpy C S 0 0 17 k = C k := by
  unfold va_cpy
  simp
  intro h
  omega
theorem bmR_ok {A : Nat → Int32} {a : Nat → Nat} {P : Nat} {s0 : bmT} (hP : prm P) (hA : ∀ k, A k = nI (a k)) (ha : ∀ k, a k < P) (h1 : ∀ k, k < 17 → s0.1 k = dl0 k) (h2 : ∀ k, k < 17 → s0.2.1 k = dl0 k) (h3 : s0.2.2.2 = (0, 1, 1)) : ∀ n, n ≤ 16 → ∃ c b v, (∀ k, k < 17 → (bmR A P s0 n).1 k = nI (c k)) ∧ (∀ k, k < 17 → (bmR A P s0 n).2.1 k = nI (b k)) ∧ (bmR A P s0 n).2.2.2.2.2 = nI v ∧ bmN P a n (bmR A P s0 n).2.2.2.1 (bmR A P s0 n).2.2.2.2.1 v c b := by
  have hB := prm_bd hP
  intro n
  induction n with
  | zero =>
    intro _
    refine ⟨fun k => if k = 0 then 1 else 0, fun k => if k = 0 then 1 else 0, 1, fun k hk => ?_, fun k hk => ?_, ?_, ?_⟩
    · show s0.1 k = _
      rw [h1 k hk]; unfold dl0; by_cases e : k = 0 <;> simp [e] <;> rfl
    · show s0.2.1 k = _
      rw [h2 k hk]; unfold dl0; by_cases e : k = 0 <;> simp [e] <;> rfl
    · show s0.2.2.2.2.2 = _
      rw [h3]; rfl
    · show bmN P a 0 s0.2.2.2.1 s0.2.2.2.2.1 1 _ _
      rw [h3]
      refine ⟨fun k => by show (if k = 0 then 1 else 0) < P; split <;> omega, fun k => by show (if k = 0 then 1 else 0) < P; split <;> omega, by omega, by omega, rfl, Nat.le_refl _, Nat.le_refl _, fun k hk => if_neg (by show ¬ k = 0; have : 0 < k := hk; omega), fun j _ h => absurd h (by omega), fun z hz => absurd hz (by show ¬ z < 0; omega), Or.inl ⟨rfl, rfl, rfl, fun k => rfl, fun j h => absurd h (by omega)⟩⟩
  | succ n ih =>
    intro hn
    obtain ⟨c, b, v, hC, hBb, hf, H⟩ := ih (by omega)
    show ∃ c b v, (∀ k, k < 17 → (bm1 A P n (bmR A P s0 n)).1 k = nI (c k)) ∧ (∀ k, k < 17 → (bm1 A P n (bmR A P s0 n)).2.1 k = nI (b k)) ∧ (bm1 A P n (bmR A P s0 n)).2.2.2.2.2 = nI v ∧ bmN P a (n + 1) (bm1 A P n (bmR A P s0 n)).2.2.2.1 (bm1 A P n (bmR A P s0 n)).2.2.2.2.1 v c b
    generalize bmR A P s0 n = s at hC hBb hf H
    obtain ⟨C, B, S, L, g, f⟩ := s
    replace hC : ∀ k, k < 17 → C k = nI (c k) := hC
    replace hBb : ∀ k, k < 17 → B k = nI (b k) := hBb
    replace hf : f = nI v := hf
    replace H : bmN P a n L g v c b := H
    subst hf
    obtain ⟨hc, hb, hv0, hv, hc0, hL, hg, hdeg, hgen, hmin, hBB⟩ := id H
    have hg17 : g ≤ 17 := by rcases hBB with ⟨e1, _⟩ | ⟨e1, _⟩ <;> omega
    obtain ⟨d, hd, em, hdv⟩ := msV_n (n := n) (L := L) hB hC hA hc ha hL (by omega) hdeg
    obtain ⟨i, hi, ei, hiv⟩ := ivS_n hP hv (by omega)
    have hdi : d * i ≤ 7 * 7 := Nat.mul_le_mul (by omega) (by omega)
    unfold bm1
    simp only [em, ei]
    by_cases z : d = 0
    · subst z
      rw [if_pos (show nI 0 = 0 from rfl)]
      exact ⟨c, b, v, hC, hBb, rfl, bm_no hB.1 ha H (by simpa using hdv)⟩
    · have nz : ¬ nI d = 0 := fun y => z ((nI0 (by omega)).mp y)
      rw [if_neg nz, nI_mul]
      by_cases h2L : 2 * L ≤ n
      · rw [if_pos h2L]
        refine ⟨c2F P (d * i) g c b, c, d, fun k hk => mdF_n hB hC hBb hc hb (by omega) hg17 k hk, fun k hk => ?_, rfl, bm_long hB.1 (by omega) H hdv (by omega) hd hiv h2L⟩
        show va_cpy (va_cpy C S 0 0 17) B 0 0 17 k = _
        rw [cpy17 hk, cpy17 hk]; exact hC k hk
      · rw [if_neg h2L]
        exact ⟨c2F P (d * i) g c b, b, v, fun k hk => mdF_n hB hC hBb hc hb (by omega) hg17 k hk, hBb, rfl, bm_short (L := L) hB.1 (by omega) H hdv hiv (Nat.lt_of_not_le h2L)⟩
/-- a solution of the equations and a row that makes the terms nought are one -/
def yOf (s : Nat) (x : Nat → Int) (k : Nat) : Int := if k = 0 then 1 else if k ≤ s then -(x (k - 1)) else 0
theorem cv_eq {a : Nat → Nat} {s i : Nat} {x : Nat → Int} (hi : i < 16 - s) : cvI (yOf s x) a (s + i) = -(eqn (eT a s (16 - s) 0) s x i) := by
  rw [cv_tr (L := s) (fun k hk => by unfold yOf; rw [if_neg (by omega), if_neg (by omega)]) (by omega)]
  rw [show s + 1 = 1 + s by omega, sI_app]
  unfold eqn
  have e1 : sI (fun k => (eT a s (16 - s) 0 i k : Int) * x k) s = sI (fun k => (a (s + i - 1 - k) : Int) * x k) s := sI_cong s (fun k hk => by
    unfold eT eL
    rw [if_pos (Or.inl hi), if_pos hk])
  have e2 : eT a s (16 - s) 0 i s = a (s + i) := by
    unfold eT eL
    rw [if_pos (Or.inl hi), if_neg (by omega), if_pos rfl]
  have e3 : sI (fun k => yOf s x (1 + k) * (a (s + i - (1 + k)) : Int)) s = sI (fun k => (-1) * ((a (s + i - 1 - k) : Int) * x k)) s := sI_cong s (fun k hk => by
    unfold yOf
    rw [if_neg (by omega), if_pos (by omega), show 1 + k - 1 = k by omega, show s + i - (1 + k) = s + i - 1 - k by omega]
    grind)
  rw [e1, e2, e3, sI_mul]
  have e4 : sI (fun k => yOf s x k * (a (s + i - k) : Int)) 1 = (a (s + i) : Int) := by
    simp [sI, yOf]
  rw [e4]
  grind
theorem sol_gen {P : Nat} {a : Nat → Nat} {s : Nat} {x : Nat → Int} (h : sol P (16 - s) s (eT a s (16 - s) 0) x) : gen P a 16 s (yOf s x) := by
  refine ⟨by unfold yOf; rw [if_pos rfl]; simp, fun k hk => by unfold yOf; rw [if_neg (by omega), if_neg (by omega)], fun j h1 h2 => ?_⟩
  have := h (j - s) (by omega)
  have e := cv_eq (a := a) (s := s) (i := j - s) (x := x) (by omega)
  rw [show s + (j - s) = j by omega] at e
  rw [e]
  exact Int.dvd_neg.mpr this
theorem gen_sol {P : Nat} {a : Nat → Nat} {s : Nat} {y : Nat → Int} (h : gen P a 16 s y) (hy : y 0 = 1) : sol P (16 - s) s (eT a s (16 - s) 0) (fun k => -(y (k + 1))) := by
  intro i hi
  have e := cv_eq (a := a) (x := fun k => -(y (k + 1))) hi
  have e2 : yOf s (fun k => -(y (k + 1))) = y := by
    funext k
    unfold yOf
    by_cases h0 : k = 0
    · rw [if_pos h0, h0, hy]
    · rw [if_neg h0]
      by_cases hk : k ≤ s
      · rw [if_pos hk]
        show - -(y (k - 1 + 1)) = y k
        rw [show k - 1 + 1 = k by omega]; omega
      · rw [if_neg hk, h.2.1 k (by omega)]
  rw [e2] at e
  have h2 := h.2.2 (s + i) (by omega) (by omega)
  rw [e] at h2
  have := Int.dvd_neg.mpr h2
  rw [Int.neg_neg] at this
  exact this
/-- a row that fails somewhere fails somewhere first -/
theorem first_fail {P : Nat} {a : Nat → Nat} {L : Nat} {y : Nat → Int} : ∀ (d n : Nat), L ≤ n → gen P a n L y → ¬ gen P a (n + d) L y → ∃ m, n ≤ m ∧ m < n + d ∧ gen P a m L y ∧ ¬ (P : Int) ∣ cvI y a m
  | 0, n, _, h, h2 => absurd h h2
  | d + 1, n, hL, h, h2 => by
    by_cases e : (P : Int) ∣ cvI y a n
    · have h3 : gen P a (n + 1) L y := ⟨h.1, h.2.1, fun j a1 a2 => by
        rcases Nat.lt_or_ge j n with z | z
        · exact h.2.2 j a1 z
        · rw [show j = n by omega]; exact e⟩
      obtain ⟨m, b1, b2, b3, b4⟩ := first_fail d (n + 1) (by omega) h3 (by rw [show n + 1 + d = n + (d + 1) by omega]; exact h2)
      exact ⟨m, by omega, by omega, b3, b4⟩
    · exact ⟨n, Nat.le_refl n, by omega, h, e⟩
theorem least_ix {p : Nat → Prop} : ∀ n, p n → ∃ m, m ≤ n ∧ p m ∧ ∀ k, k < m → ¬ p k := by
  intro n
  induction n using Nat.strongRecOn with
  | ind n ih =>
    intro h
    by_cases e : ∃ k, k < n ∧ p k
    · obtain ⟨k, hk, pk⟩ := e
      obtain ⟨m, a, b, c⟩ := ih k hk pk
      exact ⟨m, by omega, b, c⟩
    · exact ⟨n, Nat.le_refl n, h, fun k hk pk => e ⟨k, hk, pk⟩⟩
theorem prm_dv {P : Nat} (hP : prm P) {z : Int} (h : ¬ (P : Int) ∣ z) : ∃ v : Int, (P : Int) ∣ v * z - 1 := by
  have hB := prm_bd hP
  have h1 := Int.emod_nonneg z (show (P : Int) ≠ 0 by omega)
  have h2 := Int.emod_lt_of_pos z (show (0 : Int) < P by omega)
  obtain ⟨y, y1, y2, y3⟩ := prm_inv hP (v := (z % P).toNat) (by omega) (fun e => h (Int.dvd_of_emod_eq_zero (by omega)))
  refine ⟨y, ?_⟩
  have e1 := mod_dvd' ((z % P).toNat * y) P
  rw [y3] at e1
  have e2 : ((z % P).toNat : Int) = z % P := by omega
  have e3 : (P : Int) ∣ z - z % P := by
    rw [Int.dvd_iff_emod_eq_zero, Int.sub_emod, Int.emod_emod, Int.sub_self, Int.zero_emod]
  have e4 := dvR e3 (y : Int)
  have e5 := Int.dvd_sub e4 e1
  rw [Int.natCast_mul, e2] at e5
  have e6 : (y : Int) * (z - z % P) - (((1 : Nat) : Int) - z % P * (y : Int)) = (y : Int) * z - 1 := by grind
  rw [e6] at e5
  exact e5
theorem gen_uni {P : Nat} {a : Nat → Nat} {L : Nat} {x y : Nat → Int} (hP : prm P) (hL : L ≤ 8) (hx : gen P a 16 L x) (hy : gen P a 16 L y) (hmin : ∀ z, z < L → ∀ y, ¬ gen P a 16 z y) : ∀ k, (P : Int) ∣ x k - y k := by
  intro k0
  by_cases hk0 : (P : Int) ∣ x k0 - y k0
  · exact hk0
  · exfalso
    obtain ⟨m, hm1, hm2, hm3⟩ := least_ix (p := fun k => ¬ (P : Int) ∣ x k - y k) k0 hk0
    have hmL : m ≤ L := by
      rcases Nat.lt_or_ge L m with z | z
      · exfalso
        apply hm2
        rw [hx.2.1 m z, hy.2.1 m z]; simp
      · exact z
    have hm0 : 0 < m := by
      rcases Nat.eq_zero_or_pos m with z | z
      · exfalso
        apply hm2
        rw [z]
        have := Int.dvd_sub hx.1 hy.1
        rw [show x 0 - 1 - (y 0 - 1) = x 0 - y 0 by omega] at this
        exact this
      · exact z
    obtain ⟨v, hv⟩ := prm_dv hP hm2
    have hz : ∀ j, L ≤ j → j < 16 → (P : Int) ∣ cvI (fun k => x k - y k) a j := fun j h1 h2 => by
      have e : cvI (fun k => x k - y k) a j = cvI x a j - cvI y a j := by
        unfold cvI
        have e1 : sI (fun i => (x i - y i) * (a (j - i) : Int)) (j + 1) = sI (fun i => x i * (a (j - i) : Int) + (-1) * (y i * (a (j - i) : Int))) (j + 1) := sI_cong _ (fun i _ => by grind)
        rw [e1, sI_add, sI_mul]; omega
      rw [e]
      exact Int.dvd_sub (hx.2.2 j h1 h2) (hy.2.2 j h1 h2)
    have hw : gen P a (16 - m) (L - m) (fun k => v * (x (k + m) - y (k + m))) := by
      refine ⟨?_, fun k hk => ?_, fun j h1 h2 => ?_⟩
      · show (P : Int) ∣ v * (x (0 + m) - y (0 + m)) - 1
        rw [Nat.zero_add]; exact hv
      · show v * (x (k + m) - y (k + m)) = 0
        rw [hx.2.1 _ (by omega), hy.2.1 _ (by omega)]; simp
      · have h3 := hz (j + m) (by omega) (by omega)
        unfold cvI at h3
        rw [show j + m + 1 = m + (j + 1) by omega, sI_app] at h3
        have h4 : (P : Int) ∣ sI (fun i => (x i - y i) * (a (j + m - i) : Int)) m := sI_dvd _ (fun i hi => dvL (Classical.byContradiction (fun q => hm3 i hi q)) _)
        have h5 := Int.dvd_sub h3 h4
        rw [show ∀ p q : Int, p + q - p = q by intro p q; omega] at h5
        have h6 := dvR h5 v
        rw [← sI_mul] at h6
        unfold cvI
        rw [sI_cong (g := fun k => v * ((x (m + k) - y (m + k)) * (a (j + m - (m + k)) : Int))) (j + 1) (fun k hk => by
          show v * (x (k + m) - y (k + m)) * (a (j - k) : Int) = v * ((x (m + k) - y (m + k)) * (a (j + m - (m + k)) : Int))
          rw [show k + m = m + k by omega, show j + m - (m + k) = j - k by omega]; grind)]
        exact h6
    obtain ⟨n, n1, n2, n3, n4⟩ := first_fail m (16 - m) (by omega) hw (by rw [show 16 - m + m = 16 by omega]; exact hmin _ (by omega) _)
    have := massey n3 n4 (hx.le (show n + 1 ≤ 16 by omega))
    omega
theorem ls_eq {A : Nat → Int32} {P L s : Nat} {C : Nat → Int32} {F : Nat → Nat} {x : Int32} (hP : prm P) (hA : ∀ k, A k = nI (aN A k)) (ha : ∀ k, aN A k < P) (hb : bmOk A P L C) (hL : L ≤ 16) (hs : lsOk P (aN A) s F) (hx : 0 ≤ x ∧ x ≤ 8) : lsV P L C x = lsM s F x := by
  have hB := prm_bd hP
  obtain ⟨s0, z, g1, g2, g3, rfl, rfl, rfl⟩ := hb
  obtain ⟨c, b, v, hC, -, -, H⟩ := bmR_ok hP hA ha g1 g2 g3 16 (Nat.le_refl _)
  generalize (bmR A P s0 16).2.2.2.1 = L at hL H
  generalize (bmR A P s0 16).2.2.2.2.1 = g at H
  generalize (bmR A P s0 16).1 = C at hC
  obtain ⟨s16, sno, ssol, sF⟩ := hs
  have hG := bm_gen H
  obtain ⟨hc, hbb, hv0, hv, hc0, hLn, hg, hdeg, hgen, hmin, hBB⟩ := H
  have e : s = L := by
    rcases Nat.lt_trichotomy s L with y | y | y
    · exact absurd (sol_gen ssol) (hmin s y _)
    · exact y
    · exact absurd (gen_sol hG (by show (c 0 : Int) = 1; rw [hc0]; rfl)) (sno L y _)
  subst e
  unfold lsV lsM
  by_cases h0 : x = 0
  · rw [if_pos h0, if_pos h0]
  · rw [if_neg h0, if_neg h0]
    by_cases h8 : 8 < nI s
    · rw [if_pos h8, if_pos h8]
    · rw [if_neg h8, if_neg h8]
      have hs8 : s ≤ 8 := by
        rcases Nat.lt_or_ge 8 s with y | y
        · exact absurd (nI_lt (a := 8) y (by omega)) h8
        · exact y
      unfold fcV
      by_cases hxs : nI s < x
      · rw [if_pos hxs, if_neg (fun q => absurd q.2.1 (Int32.not_le.mpr hxs))]
      · rw [if_neg hxs]
        have hx0 : 0 ≤ x := hx.1
        have e1 := tNC hx0
        have hk : x.toNatClampNeg ≤ s := by
          rcases Nat.lt_or_ge s x.toNatClampNeg with y | y
          · exfalso; apply hxs; rw [e1]; exact nI_lt y (by have := tNC_lt (n := 9) hx0 (by show x < 9; grind) (by decide); omega)
          · exact y
        have hk1 : 1 ≤ x.toNatClampNeg := by
          rcases Nat.eq_zero_or_pos x.toNatClampNeg with y | y
          · exact absurd (by rw [e1, y]; rfl) h0
          · exact y
        generalize x.toNatClampNeg = k at e1 hk hk1
        subst e1
        rw [if_pos ⟨nI_le (a := 1) hk1 (by omega), nI_le hk (by omega), nI_lt (b := 17) (by omega) (by decide)⟩, show nI k - 1 = nI (k - 1) from nI_sub (b := 1) hk1, nI_clamp (by omega), hC k (by omega)]
        have hu := gen_uni hP hs8 hG (sol_gen ssol) hmin k
        have hu2 : (P : Int) ∣ (c k : Int) + (F (k - 1) : Int) := by
          have e2 : yOf s (fun k => (F k : Int)) k = -(F (k - 1) : Int) := by
            unfold yOf
            rw [if_neg (by omega), if_pos hk]
          rw [e2] at hu
          rw [show (c k : Int) + (F (k - 1) : Int) = (c k : Int) - -(F (k - 1) : Int) by omega]
          exact hu
        have hF := sF (k - 1) (by omega)
        have hck := hc k
        rw [← Int32.toInt_inj, jfm_toInt (by omega) (by omega), nI_toInt (by omega), Int32.toInt_neg, nI_toInt (by omega), Int.bmod_eq_of_le (by omega) (by omega)]
        have e3 : (F (k - 1) : Int) % (P : Int) = (F (k - 1) : Int) := Int.emod_eq_of_lt (by omega) (by omega)
        rw [← e3]
        apply Int.emod_eq_emod_iff_emod_sub_eq_zero.mpr
        have := Int.dvd_neg.mpr hu2
        rw [show -((c k : Int) + (F (k - 1) : Int)) = -(c k : Int) - (F (k - 1) : Int) by omega] at this
        exact Int.emod_eq_zero_of_dvd this
