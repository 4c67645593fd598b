theorem ldCp_a {σ : Nat → Nat → Int32} {i a b i' a' b' q : Nat} (h1 : a ≠ b) (h2 : a ≠ i) (hq : q < 8) : ldCp σ i a b i' a' b' a q = σ a' q := by
  unfold ldCp
  rw [put_ne h2, putC_ne h1, putC_eq]
  unfold va_cpy
  rw [if_pos ⟨by omega, by omega⟩]
  congr 1
  omega
theorem ldCp_b {σ : Nat → Nat → Int32} {i a b i' a' b' q : Nat} (h1 : b ≠ i) (h2 : b' ≠ a) (hq : q < 32) : ldCp σ i a b i' a' b' b q = σ b' q := by
  unfold ldCp
  rw [put_ne h1, putC_eq]
  unfold va_cpy
  rw [if_pos ⟨by omega, by omega⟩, putC_ne h2]
  congr 1
  omega
theorem ldCp_i {σ : Nat → Nat → Int32} {i a b i' a' b' : Nat} (h1 : i' ≠ a) (h2 : i' ≠ b) : ldCp σ i a b i' a' b' i 2 = σ i' 2 := by
  unfold ldCp
  rw [put_ix, if_pos rfl, putC_ne h2, putC_ne h1]
theorem ldCp_ne {σ : Nat → Nat → Int32} {i a b i' a' b' c : Nat} (h1 : c ≠ i) (h2 : c ≠ a) (h3 : c ≠ b) : ldCp σ i a b i' a' b' c = σ c := by
  unfold ldCp
  rw [put_ne h1, putC_ne h3, putC_ne h2]
theorem nmCp_v {σ : Nat → Nat → Int32} {i a a' : Nat} (h : i ≠ a) : ∀ j x, nmCp σ i a a' j a x = if x < j then σ a' x else σ a x
  | 0, x => by rw [nmCp, put_ne (Ne.symm h), if_neg (by omega)]
  | j + 1, x => by
    rw [nmCp, put_ne (Ne.symm h), put_ix]
    by_cases e : x = j
    · rw [if_pos e, if_pos (by omega), e]
    · rw [if_neg e, nmCp_v h j x]
      by_cases z : x < j
      · rw [if_pos z, if_pos (by omega)]
      · rw [if_neg z, if_neg (by omega)]
section
variable {l : Launch} {σ τ : Nat → Nat → Int32} {t : Nat → Int64} {N : Nat}
set_option maxHeartbeats 4000000 in
theorem AG_drop (H : INV σ τ N) : AG l σ τ t N mX10_drop mX11_drop [] := by
  obtain ⟨n, g, p, rr, hL, hG, hP, hr, hR, hKp⟩ := H
  obtain ⟨xk, mk, hv, hlr⟩ := id hL
  have hn := xk.1
  have h12 := xk.2.1
  have h0 := mk.1.2.1
  have e0 : σ 1 2 = 0 ↔ n = 0 := by rw [h12]; exact nI0 (by omega)
  refine AG.ee (CX10_drop (by rw [h12]; exact nI_pos' (by omega))) (CX11_drop hn h0) ?_ ?_
  · by_cases z : n = 0
    · rw [if_pos (e0.mpr z), if_neg (by omega)]
    · rw [if_neg (fun w => z (e0.mp w)), if_pos (by omega), h12]; exact nI_sub (b := 1) (by omega)
  · by_cases z : n = 0
    · rw [if_pos (e0.mpr z), if_neg (by omega)]
      exact INVs hL hG hP hr hR hKp
    · have e1 : σ 1 2 - 1 = nI (n - 1) := by rw [h12]; exact nI_sub (b := 1) (by omega)
      rw [if_neg (fun w => z (e0.mp w)), if_pos (by omega), e1]
      have x1 : ∀ c, c ≠ 1 → c ≠ 13 → c ≠ 17 → xChg (put σ 1 2 (nI (n - 1))) (nI (n - 1)) c = σ c := fun c a b d => by rw [xChg_ne b d, put_ne a]
      have hv' : vAll (σ 2) (σ 3) (n - 1) := hv.lt (by omega)
      refine ⟨n - 1, g, p, rr, ⟨xK_chg (σ := σ) xk (by omega) (Nat.le_refl _) (by omega) (by rw [put_ix, if_pos rfl]) (by rw [put_ne (by decide), put_ne (by decide)]; exact hv') (fun q hq => ⟨by rw [put_ne (by decide)], fun j hj => by rw [put_ne (by decide)]⟩) (fun c a b => put_ne (by omega)), mKK_drop mk (by omega) hlr hv, ?_, ?_⟩, hG.same (x1 4 (by decide) (by decide) (by decide)) (x1 5 (by decide) (by decide) (by decide)) (by rw [put_ix, if_neg (by decide)]) (put_ne (by decide)), hP.same (x1 6 (by decide) (by decide) (by decide)) (x1 7 (by decide) (by decide) (by decide)) (by rw [put_ix, if_neg (by decide)]) (put_ne (by decide)), by omega, ⟨by rw [x1 0 (by decide) (by decide) (by decide)]; exact hR.1, by rw [put_ix, if_neg (by decide)]; exact hR.2⟩, hKp.same (by rw [x1 0 (by decide) (by decide) (by decide)]) (fun c hc => x1 c (by omega) (by omega) (by omega)) (fun k hk => by rw [put_ix, if_neg (by omega)]) (fun c hc => put_ne (by omega))⟩
      · rw [x1 2 (by decide) (by decide) (by decide), x1 3 (by decide) (by decide) (by decide)]; exact hv'
      · rw [x1 2 (by decide) (by decide) (by decide), x1 3 (by decide) (by decide) (by decide), put_ne (by decide), put_ne (by decide)]; exact hlr.lt (by omega)
theorem gs_bd0 : ∀ q, q < 381 → (-9 ≤ gsU q ∧ gsU q ≤ 9) ∧ -9 ≤ gsV q ∧ gsV q ≤ 9 := by decide +kernel
set_option maxHeartbeats 4000000 in
theorem AG_found (H : INV σ τ N) : AG l σ τ t N mX10_found mX11_found [] := by
  obtain ⟨n, g, p, rr, hL, hG, hP, hr, hR, hKp⟩ := H
  obtain ⟨xk, mk, hv, hlr⟩ := id hL
  have hn := xk.1
  have h12 := xk.2.1
  have h0 := mk.1.2.1
  have hno := gs_none (G' := τ 3) (g := g)
  rw [← gs_key hG.1 hG.2.2.2] at hno
  have xs : ∀ x y z, xSame σ (ex3 σ x y z) := fun x y z => ⟨fun c hc => putC_ne (by omega), fun c hc => putC_ne (by omega)⟩
  have xk2 : ∀ x y z, xK (ex3 σ x y z) n := fun x y z => xK_k2 (fun c hc => putC_ne (by omega)) xk
  by_cases z : gsK (σ 5) g < 381
  · obtain ⟨e1, e2, e3⟩ := gs_vals hG.1 hG.2.2.2 z
    obtain ⟨f1, f2⟩ := found_eq hG.1 hG.2.2.2 z
    have bd := gs_bd0 _ z
    refine ⟨fun u ς => u = adR n ∧ ∃ a b c, ς = adS (ex3 σ a b c) n 0 (gsU (gsK (σ 5) g)) (gsV (gsK (σ 5) g)) (fdE (σ 5) g) (fdF (σ 5) g), fun u ς => u = adR n ∧ ∃ a b, ς = mAd (mG2 τ a b) n 0 (gsU (gsK (σ 5) g)) (gsV (gsK (σ 5) g)) (fdE (σ 5) g) (fdF (σ 5) g), Ct.mono (CX10_found hn h12 hG.1 hG.2.1) (fun r w ⟨a, b, c, d⟩ => ?_), Ct.mono (CX11_found hG.1 hG.2.2.1 hn h0) (fun r w ⟨a, b, d⟩ => ?_), fun u ς u2 ς2 h1 h2 => ?_⟩
    · rw [if_pos z] at d
      exact ⟨_, _, d.1, d.2, rfl, a, b, c, rfl⟩
    · rw [if_neg (hno.mp z)] at d
      refine ⟨_, _, t, d.2, d.1, rfl, a, b, ?_⟩
      rw [e2, e3, f1, f2]
    · obtain ⟨h1, a, b, c, rfl⟩ := h1
      obtain ⟨h2, a2, b2, rfl⟩ := h2
      obtain ⟨c1, c2, c3, c4, c5⟩ := INVc hL hG hP hR hKp (xs a b c) (xk2 a b c) (mG2_sm (u := a2) (v := b2)).sw (mG2_KK mk)
      exact ⟨by rw [h1, h2], INV_add c1 c2 c3 hr c4 c5 (Or.inl rfl) (v4c (fun _ => ⟨vOk0 (fun _ => bd.1), rfl⟩) (fun _ => ⟨vOk0 (fun _ => bd.2), rfl⟩) (fun _ => ⟨vOk0 (fun w => absurd w (by decide)), rfl⟩) (fun _ => ⟨vOk0 (fun w => absurd w (by decide)), rfl⟩)) (v4n (fun w => absurd (by decide) w) (fun w => absurd (by decide) w) (fun w => absurd (by decide) w))⟩
  · have zn : mgD (τ 3) g = 2000000001 := Classical.byContradiction (fun y => z (hno.mpr y))
    refine AG.q (v := 2000000103) (v' := 2000000103) hL hG hP hr hR hKp (Ct.mono (CX10_found hn h12 hG.1 hG.2.1) (fun r w ⟨a, b, c, d⟩ => ?_)) (Ct.mono (CX11_found hG.1 hG.2.2.1 hn h0) (fun r w ⟨a, b, d⟩ => ?_)) rfl
    · rw [if_neg z] at d
      exact ⟨_, d.2, xk2 a b c, xs a b c, d.1⟩
    · rw [if_pos zn] at d
      exact ⟨_, t, d.1, mG2_KK mk, mG2_sm.sw, d.2⟩
set_option maxHeartbeats 4000000 in
theorem AG_put (H : INV σ τ N) (r k v : Int32) : AG l σ τ t N mX10_put mX11_put [.int r, .int k, .int v] := by
  obtain ⟨n, g, p, rr, hL, hG, hP, hr, hR, hKp⟩ := H
  obtain ⟨xk, mk, hv, hlr⟩ := id hL
  have hn := xk.1
  have h12 := xk.2.1
  have h0 := mk.1.2.1
  by_cases hH : ldH (nI n) r
  · obtain ⟨q, hq, rfl⟩ := (ldH_iff hn).mp hH
    have ha := hlr.at hq
    have et : tolP (σ 2) (nI n) (nI q) ↔ τ 1 q = 0 := by rw [ha.1]; exact tol_n hn hq
    by_cases hk : 0 ≤ k ∧ k ≤ 3
    · have ek := tNC hk.1
      have hk4 := tNC_lt (n := 4) hk.1 (show k < 4 from Int32.lt_of_le_of_lt hk.2 (by decide)) (by decide)
      generalize k.toNatClampNeg = j at ek hk4
      subst ek
      by_cases z : τ 1 q = 0 ∧ ptP (nI j) v
      · have zK : σ 2 q = 0 := by rw [← ha.1]; exact z.1
        have eI : (nI q * 4 + nI j).toNatClampNeg = 4 * q + j := by
          rw [show (4 : Int32) = nI 4 from rfl, nI_mul, nI_add, nI_clamp (by omega)]; omega
        have eV : τ 2 (4 * q + j) = σ 3 (4 * q + j) := by
          have := (hlr q hq).2.2 j hk4
          rw [if_pos (show nI j < nums (σ 2 q) by rw [zK]; exact nI_lt (b := 4) hk4 (by decide))] at this
          exact this
        have hpt : j < 2 → -9 ≤ v ∧ v ≤ 9 := fun w => by
          have := z.2
          unfold ptP at this
          rw [if_pos (by rcases (show j = 0 ∨ j = 1 by omega) with rfl | rfl; exact Or.inl rfl; exact Or.inr rfl)] at this
          exact this
        refine AG.ee CX10_put (CX11_put hq hn h0) ?_ ?_
        · rw [h12, if_pos hH, if_pos hk, if_pos (et.mpr z.1), if_pos z.2, if_pos hk, if_pos z.1, if_pos z.2, ldN hn hq hk4, nI_clamp (by omega), eV]
        · rw [h12, if_pos ⟨hH, hk, et.mpr z.1, z.2⟩, if_pos ⟨hk, z.1, z.2⟩, eI, nI_clamp (show j < 2 ^ 31 by omega)]
          have x1 : ∀ c, c ≠ 3 → c ≠ 13 → c ≠ 17 → xChg (put σ 3 (4 * q + j) v) (nI q) c = σ c := fun c a b d => by rw [xChg_ne b d, put_ne a]
          have x3 : ∀ i, xChg (put σ 3 (4 * q + j) v) (nI q) 3 i = if i = 4 * q + j then v else σ 3 i := fun i => by rw [xChg_ne (by decide) (by decide), put_ix]
          have t1 : ∀ c, c ≠ 0 → c ≠ 2 → mChg (put τ 2 (4 * q + j) v) c = τ c := fun c a b => by rw [mChg_ne a, put_ne b]
          have t2 : ∀ i, mChg (put τ 2 (4 * q + j) v) 2 i = if i = 4 * q + j then v else τ 2 i := fun i => by rw [mChg_ne (by decide), put_ix]
          have t0 : ∀ x, x ≠ 13 → x ≠ 14 → mChg (put τ 2 (4 * q + j) v) 0 x = τ 0 x := fun x a b => by rw [mChg_0 a b, put_ne (by decide)]
          have W1 : vAll (σ 2) (fun i => if i = 4 * q + j then v else σ 3 i) n := fun x hx => by
            refine ⟨(hv x hx).1, fun i hi w => ?_⟩
            show vOk (σ 2 x) x i (if 4 * x + i = 4 * q + j then v else σ 3 (4 * x + i))
            by_cases e : 4 * x + i = 4 * q + j
            · have e1 : x = q := by omega
              have e2 : i = j := by omega
              rw [if_pos e, e1, e2, zK]
              exact vOk0 hpt
            · rw [if_neg e]; exact (hv x hx).2 i hi w
          have W2 : LR (σ 2) (fun i => if i = 4 * q + j then v else σ 3 i) (τ 1) (fun i => if i = 4 * q + j then v else τ 2 i) n := fun x hx => by
            refine ⟨(hlr x hx).1, (hlr x hx).2.1, fun i hi => ?_⟩
            show (if 4 * x + i = 4 * q + j then v else τ 2 (4 * x + i)) = if nI i < nums (σ 2 x) then (if 4 * x + i = 4 * q + j then v else σ 3 (4 * x + i)) else 2000000001
            by_cases e : 4 * x + i = 4 * q + j
            · have e1 : x = q := by omega
              have e2 : i = j := by omega
              rw [if_pos e, if_pos e, e1, e2, zK, if_pos (show nI j < nums 0 from nI_lt (b := 4) hk4 (by decide))]
            · rw [if_neg e, if_neg e]; exact (hlr x hx).2.2 i hi
          have ex3f : xChg (put σ 3 (4 * q + j) v) (nI q) 3 = fun i => if i = 4 * q + j then v else σ 3 i := funext x3
          have et2f : mChg (put τ 2 (4 * q + j) v) 2 = fun i => if i = 4 * q + j then v else τ 2 i := funext t2
          have eP3 : put σ 3 (4 * q + j) v 3 = fun i => if i = 4 * q + j then v else σ 3 i := funext (fun i => put_ix)
          refine ⟨n, g, p, rr, ⟨xK_chg (σ := σ) xk (by omega) (by omega) hn (by rw [put_ne (by decide)]; exact h12) (by rw [put_ne (by decide), eP3]; exact W1) (fun x hx => ⟨by rw [put_ne (by decide)], fun i hi => by rw [put_ix, if_neg (by omega)]⟩) (fun c a b => put_ne (by omega)), mKK_new (K := σ 2) (N := fun i => if i = 4 * q + j then v else σ 3 i) hn (by rw [t0 0 (by decide) (by decide)]; exact h0) mChg_z.1 mChg_z.2 (by rw [t1 1 (by decide) (by decide), et2f]; exact W2) W1, ?_, ?_⟩, hG.same (x1 4 (by decide) (by decide) (by decide)) (x1 5 (by decide) (by decide) (by decide)) (t0 4 (by decide) (by decide)) (t1 3 (by decide) (by decide)), hP.same (x1 6 (by decide) (by decide) (by decide)) (x1 7 (by decide) (by decide) (by decide)) (t0 6 (by decide) (by decide)) (t1 4 (by decide) (by decide)), by omega, ⟨by rw [x1 0 (by decide) (by decide) (by decide)]; exact hR.1, by rw [t0 3 (by decide) (by decide)]; exact hR.2⟩, hKp.same (by rw [x1 0 (by decide) (by decide) (by decide)]) (fun c hc => x1 c (by omega) (by omega) (by omega)) (fun x hx => t0 x (by omega) (by omega)) (fun c hc => t1 c (by omega) (by omega))⟩
          · rw [x1 2 (by decide) (by decide) (by decide), ex3f]; exact W1
          · rw [x1 2 (by decide) (by decide) (by decide), ex3f, t1 1 (by decide) (by decide), et2f]; exact W2
      · refine AG.ee CX10_put (CX11_put hq hn h0) ?_ ?_
        · rw [h12, if_pos hH, if_pos hk, if_pos hk]
          by_cases w : τ 1 q = 0
          · rw [if_pos (et.mpr w), if_pos w, if_neg (fun y => z ⟨w, y⟩), if_neg (fun y => z ⟨w, y⟩)]
          · rw [if_neg (fun y => w (et.mp y)), if_neg w]
        · rw [h12, if_neg (fun y => z ⟨et.mp y.2.2.1, y.2.2.2⟩), if_neg (fun y => z y.2)]
          exact INVs hL hG hP hr hR hKp
    · refine AG.ee CX10_put (CX11_put hq hn h0) ?_ ?_
      · rw [h12, if_pos hH, if_neg hk, if_neg hk]
      · rw [h12, if_neg (fun y => hk y.2.1), if_neg (fun y => hk y.1)]
        exact INVs hL hG hP hr hR hKp
  · refine AG.ee CX10_put (CX11_put_no hn h0 hH) ?_ ?_
    · rw [h12, if_neg hH]
    · rw [h12, if_neg (fun y => hH y.1)]
      exact INVs hL hG hP hr hR hKp
end
