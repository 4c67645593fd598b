section
variable {l : Launch} {σ τ : Nat → Nat → Int32} {t : Nat → Int64} {N : Nat}
set_option maxHeartbeats 4000000 in
theorem AG_ease (H : INV σ τ N) (r : Int32) : AG l σ τ t N mX10_ease mX11_ease [.int r] := by
  obtain ⟨n, g, p, rr, hL, hG, hP, hr, hR, hKp⟩ := H
  obtain ⟨xk, mk, hv, hlr⟩ := id hL
  have hn := xk.1
  have h12 := xk.2.1
  have h0 := mk.1.2.1
  have hwf := hv.wf hn
  have hwe := hv.we hn
  have E := hlr.eq hn
  by_cases hH : ldH (nI n) r
  · obtain ⟨q, hq, rfl⟩ := (ldH_iff hn).mp hH
    obtain ⟨o, b, m, hf⟩ := rRf_ex hn hq (hlr q hq).2.1 hwf hwe
    have hz := ez_eq hn hq hlr hf
    have hM := CX11_ease (l := l) (t := t) mk.1 hq (rRf_m hn hq hlr hf)
    have T0 : vAt (TT (τ 1) (τ 2) (nI n)) (nI q) 0 = vAt (TT (σ 2) (σ 3) (nI n)) (nI q) 0 := TT_eq E hwf (by omega)
    have T1 : vAt (TT (τ 1) (τ 2) (nI n)) (nI q) 1 = vAt (TT (σ 2) (σ 3) (nI n)) (nI q) 1 := TT_eq E hwf (by omega)
    have kS := mLt_S mk.1
    have kK := mKK_St mk kS (mLt_K mk.1).1
    by_cases z : eaP (σ 2) (σ 3) (nI n) (nI q)
    · have zc := hz.1.mp z.1
      obtain ⟨e1, e2⟩ := hz.2 zc
      have zt : tellP (easC τ q o b m) (easD τ q o b m) (vAt (TT (τ 1) (τ 2) (nI n)) (nI q) 0) (vAt (TT (τ 1) (τ 2) (nI n)) (nI q) 1) := by rw [T0, T1, ← e1, ← e2]; exact z.2
      rw [if_pos ⟨zc, zt⟩, if_pos zc, if_pos zt] at hM
      refine ⟨fun u ς => u = σ 2 q ∧ ∃ ρ, xK ρ n ∧ xSame σ ρ ∧ ς = xChg (ldWr ρ 2 3 q 0 (ezC (σ 2) (σ 3) (nI n) (nI q)) (ezD (σ 2) (σ 3) (nI n) (nI q)) (vAt (TT (σ 2) (σ 3) (nI n)) (nI q) 0) (vAt (TT (σ 2) (σ 3) (nI n)) (nI q) 1)) (nI q), fun u ς => u = τ 1 q ∧ ς = mLay (mLt τ n) q 0 (easC τ q o b m) (easD τ q o b m) (vAt (TT (τ 1) (τ 2) (nI n)) (nI q) 0) (vAt (TT (τ 1) (τ 2) (nI n)) (nI q) 1), Ct.mono (CX10_ease xk) (fun r w ⟨ρ, a, b, c⟩ => ?_), Ct.mono hM (fun r w h => ⟨_, _, t, h.1, h.2, rfl, rfl⟩), fun u ς u2 ς2 h1 h2 => ?_⟩
      · rw [if_pos ⟨q, hq, rfl⟩, h12, if_pos z, ldK hn hq, nI_clamp (show q < 2 ^ 31 by omega)] at c
        exact ⟨_, _, c.1, c.2, rfl, ρ, a, b, rfl⟩
      · obtain ⟨a1, ρ, a2, a3, rfl⟩ := h1
        obtain ⟨b1, rfl⟩ := h2
        refine ⟨by rw [a1, b1, (hlr q hq).1], ?_⟩
        obtain ⟨⟨c1, c2, c3, c4⟩, d2, d3, d4, d5⟩ := INVc hL hG hP hR hKp a3 a2 kS.sm.sw kK
        rw [e1, e2, T0, T1]
        have zt2 := zt
        rw [T0, T1] at zt2
        generalize vAt (TT (σ 2) (σ 3) (nI n)) (nI q) 0 = f0 at zt2
        generalize vAt (TT (σ 2) (σ 3) (nI n)) (nI q) 1 = f1 at zt2
        generalize easC τ q o b m = cc at zt2
        generalize easD τ q o b m = dd at zt2
        generalize mLt τ n = ω at c2 c4 d2 d3 d4 d5
        have W := wr_LR (σ := ρ) (τ := ω) (n := n) (n' := n) (q := q) (k := 0) (A := cc) (B := dd) (C := f0) (D := f1) (A' := cc) (B' := dd) (C' := f0) (D' := f1) hq (fun x hx => Or.inr hx) c4 c3 (Or.inl rfl) (v4c (fun _ => ⟨vOk0 (fun _ => zt2.1), rfl⟩) (fun _ => ⟨vOk0 (fun _ => zt2.2.1), rfl⟩) (fun _ => ⟨vOk0 (fun w => absurd w (by decide)), rfl⟩) (fun _ => ⟨vOk0 (fun w => absurd w (by decide)), rfl⟩)) (v4n (fun w => absurd (by decide) w) (fun w => absurd (by decide) w) (fun w => absurd (by decide) w))
        have x1 : ∀ c, c ≠ 2 → c ≠ 3 → c ≠ 13 → c ≠ 17 → xChg (ldWr ρ 2 3 q 0 cc dd f0 f1) (nI q) c = ρ c := fun c a b d e => by rw [xChg_ne d e, ldWr_ne a b]
        have t1 : ∀ c, c ≠ 0 → mLay ω q 0 cc dd f0 f1 c = ldWr ω 1 2 q 0 cc dd f0 f1 c := fun c a => by rw [mLay_w, mChg_ne a]
        have t2 : ∀ c, c ≠ 0 → c ≠ 1 → c ≠ 2 → mLay ω q 0 cc dd f0 f1 c = ω c := fun c a b d => by rw [t1 c a, ldWr_ne b d]
        have t0 : ∀ x, x ≠ 13 → x ≠ 14 → mLay ω q 0 cc dd f0 f1 0 x = ω 0 x := fun x a b => by rw [mLay_w, mChg_0 a b, ldWr_ne (by decide) (by decide)]
        refine ⟨n, g, p, rr, ⟨xK_chg (σ := ρ) c1 (by omega) (by omega) hn (by rw [ldWr_ne (by decide) (by decide)]; exact c1.2.1) W.2 (fun x hx => ⟨by rw [ldWr_a (by decide), if_neg (by omega)], fun j hj => by rw [ldWr_v (by decide) hj, if_neg (by omega)]⟩) (fun c a b => ldWr_ne (by omega) (by omega)), mKK_new (K := ldWr ρ 2 3 q 0 cc dd f0 f1 2) (N := ldWr ρ 2 3 q 0 cc dd f0 f1 3) hn (by rw [t0 0 (by decide) (by decide)]; exact c2.1.2.1) (by rw [mLay_w]; exact mChg_z.1) (by rw [mLay_w]; exact mChg_z.2) (by rw [t1 1 (by decide), t1 2 (by decide)]; exact W.1) W.2, ?_, ?_⟩, d2.same (x1 4 (by decide) (by decide) (by decide) (by decide)) (x1 5 (by decide) (by decide) (by decide) (by decide)) (t0 4 (by decide) (by decide)) (t2 3 (by decide) (by decide) (by decide)), d3.same (x1 6 (by decide) (by decide) (by decide) (by decide)) (x1 7 (by decide) (by decide) (by decide) (by decide)) (t0 6 (by decide) (by decide)) (t2 4 (by decide) (by decide) (by decide)), by omega, ⟨by rw [x1 0 (by decide) (by decide) (by decide) (by decide)]; exact d4.1, by rw [t0 3 (by decide) (by decide)]; exact d4.2⟩, d5.same (by rw [x1 0 (by decide) (by decide) (by decide) (by decide)]) (fun c hc => x1 c (by omega) (by omega) (by omega) (by omega)) (fun x hx => t0 x (by omega) (by omega)) (fun c hc => t2 c (by omega) (by omega) (by omega))⟩
        · rw [xChg_ne (by decide) (by decide), xChg_ne (by decide) (by decide)]; exact W.2
        · rw [xChg_ne (by decide) (by decide), xChg_ne (by decide) (by decide), t1 1 (by decide), t1 2 (by decide)]; exact W.1
    · refine AG.q (v := 2000000103) (v' := 2000000103) hL hG hP hr hR hKp (Ct.mono (CX10_ease xk) (fun r w ⟨ρ, a, b, c⟩ => ?_)) (Ct.mono hM (fun r w h => ?_)) rfl
      · rw [if_pos ⟨q, hq, rfl⟩, h12, if_neg z] at c
        exact ⟨ρ, c.2, a, b, c.1⟩
      · by_cases y : mCB τ q o b
        · obtain ⟨e1, e2⟩ := hz.2 y
          have zt : ¬ tellP (easC τ q o b m) (easD τ q o b m) (vAt (TT (τ 1) (τ 2) (nI n)) (nI q) 0) (vAt (TT (τ 1) (τ 2) (nI n)) (nI q) 1) := fun w => by
            rw [T0, T1, ← e1, ← e2] at w
            exact z ⟨hz.1.mpr y, w⟩
          rw [if_neg (fun w => zt w.2), if_pos y, if_neg zt] at h
          exact ⟨_, t, h.2, kK, kS.sm.sw, h.1⟩
        · rw [if_neg (fun w => y w.1), if_neg y] at h
          exact ⟨_, t, h.2, mk, mSm.rf.sw, h.1⟩
  · refine AG.q (v := 2000000101) (v' := 2000000101) hL hG hP hr hR hKp (Ct.mono (CX10_ease xk) (fun r w ⟨ρ, a, b, c⟩ => ?_)) (MQq.of mk (CX11_ease_no hn h0 hH)) rfl
    rw [if_neg (fun y => hH ((ldH_iff hn).mpr y))] at c
    exact ⟨ρ, c.2, a, b, c.1⟩
set_option maxHeartbeats 4000000 in
theorem AG_rows (H : INV σ τ N) : AG l σ τ t N mX10_rows mX11_rows [] := by
  obtain ⟨n, g, p, rr, hL, hG, hP, hr, hR, hKp⟩ := H
  obtain ⟨xk, mk, hv, hlr⟩ := id hL
  have hD := rd_eq hP.2.2.2
  have xr : ∀ c, c ≠ 8 → c ≠ 9 → c ≠ 10 → c ≠ 11 → (rdGo (σ 7) p 0 (put (put σ 9 2 0) 8 2 0)).2 c = σ c := fun c a b d e => by rw [rdGo_ne ⟨a, b, d, e⟩, put_ne a, put_ne b]
  have xk2 : xK (rdGo (σ 7) p 0 (put (put σ 9 2 0) 8 2 0)).2 n := xK_k2 (fun c hc => xr c (by omega) (by omega) (by omega) (by omega)) xk
  have mk2 : mKK (mRd τ p).2 n := mKK_rd mk
  have ms2 : mSm τ (mRd τ p).2 := mSm_rd
  obtain ⟨c1, c2, c3, c4, c5⟩ := INVc hL hG hP hR hKp ⟨fun c hc => xr c (by omega) (by omega) (by omega) (by omega), fun c hc => xr c (by omega) (by omega) (by omega) (by omega)⟩ xk2 ms2.sw mk2
  have hX := CX10_rows (l := l) hP.1 hP.2.1
  have hM := CX11_rows (l := l) (t := t) hP.1 hP.2.2.1
  by_cases z : rdW σ p
  · have z2 := hD.2.1.mp z
    obtain ⟨n1, w1, w2, w3, w4, w5⟩ := hD.2.2 z
    rw [if_pos z, if_pos z] at hX
    rw [if_pos z2, if_pos z2, w3, nI_clamp (by omega)] at hM
    refine AG.ee hX hM w2 ?_
    generalize (rdGo (σ 7) p 0 (put (put σ 9 2 0) 8 2 0)).2 = ρ at *
    generalize (mRd τ p).2 = ω at *
    unfold rwS mRows
    have x1 : ∀ c, c ≠ 0 → c ≠ 1 → c ≠ 2 → c ≠ 3 → c ≠ 6 → c ≠ 13 → c ≠ 17 → put (put (put (xChg (ldCp ρ 1 2 3 9 10 11) 0) 6 1 0) 0 11 0) 0 12 (ρ 0 12 + 1) c = ρ c := fun c a b d e f h i => by rw [put_ne a, put_ne a, put_ne f, xChg_ne h i, ldCp_ne b d e]
    have x2 : ∀ c, c ≠ 0 → c ≠ 6 → put (put (put (xChg (ldCp ρ 1 2 3 9 10 11) 0) 6 1 0) 0 11 0) 0 12 (ρ 0 12 + 1) c = xChg (ldCp ρ 1 2 3 9 10 11) 0 c := fun c a b => by rw [put_ne a, put_ne a, put_ne b]
    have xA : ∀ q, q < 8 → xChg (ldCp ρ 1 2 3 9 10 11) 0 2 q = ρ 10 q := fun q hq => by rw [xChg_ne (by decide) (by decide), ldCp_a (by decide) (by decide) hq]
    have xB : ∀ q, q < 32 → xChg (ldCp ρ 1 2 3 9 10 11) 0 3 q = ρ 11 q := fun q hq => by rw [xChg_ne (by decide) (by decide), ldCp_b (by decide) (by decide) hq]
    have eX : ∀ q, q < n1 → xChg (ldCp ρ 1 2 3 9 10 11) 0 2 q = ρ 10 q ∧ ∀ j, j < 4 → xChg (ldCp ρ 1 2 3 9 10 11) 0 3 (4 * q + j) = ρ 11 (4 * q + j) := fun q hq => ⟨xA q (by omega), fun j hj => xB _ (by omega)⟩
    have V1 : vAll (xChg (ldCp ρ 1 2 3 9 10 11) 0 2) (xChg (ldCp ρ 1 2 3 9 10 11) 0 3) n1 := vAll_cg eX w5
    have t1 : ∀ c, c ≠ 0 → c ≠ 1 → c ≠ 2 → mChg (put (put (putC (putC (put ω 0 0 (nI n1)) 1 (ru (ω 1) 0 n1 (ω 5))) 2 (ru (ω 2) 0 (4 * n1) (ω 6))) 0 3 (ω 0 3 + 1)) 0 6 0) c = ω c := fun c a b d => by rw [mChg_ne a, put_ne a, put_ne a, putC_ne d, putC_ne b, put_ne a]
    have tA : mChg (put (put (putC (putC (put ω 0 0 (nI n1)) 1 (ru (ω 1) 0 n1 (ω 5))) 2 (ru (ω 2) 0 (4 * n1) (ω 6))) 0 3 (ω 0 3 + 1)) 0 6 0) 1 = ru (ω 1) 0 n1 (ω 5) := by rw [mChg_ne (by decide), put_ne (by decide), put_ne (by decide), putC_ne (by decide), putC_eq]
    have tB : mChg (put (put (putC (putC (put ω 0 0 (nI n1)) 1 (ru (ω 1) 0 n1 (ω 5))) 2 (ru (ω 2) 0 (4 * n1) (ω 6))) 0 3 (ω 0 3 + 1)) 0 6 0) 2 = ru (ω 2) 0 (4 * n1) (ω 6) := by rw [mChg_ne (by decide), put_ne (by decide), put_ne (by decide), putC_eq]
    have t0 : ∀ x, x ≠ 0 → x ≠ 3 → x ≠ 6 → x ≠ 13 → x ≠ 14 → mChg (put (put (putC (putC (put ω 0 0 (nI n1)) 1 (ru (ω 1) 0 n1 (ω 5))) 2 (ru (ω 2) 0 (4 * n1) (ω 6))) 0 3 (ω 0 3 + 1)) 0 6 0) 0 x = ω 0 x := fun x a b d e f => by rw [mChg_0 e f, put_ix, if_neg d, put_ix, if_neg b, putC_ne (by decide), putC_ne (by decide), put_ix, if_neg a]
    have ru0 : ∀ (V F : Nat → Int32) (k j : Nat), k < j → ru V 0 j F k = F k := fun V F k j h => by
      have := ru_in (V := V) (F := F) (s := 0) (j := j) (k := k) h
      rw [Nat.zero_add] at this; exact this
    have L1 : LR (xChg (ldCp ρ 1 2 3 9 10 11) 0 2) (xChg (ldCp ρ 1 2 3 9 10 11) 0 3) (ru (ω 1) 0 n1 (ω 5)) (ru (ω 2) 0 (4 * n1) (ω 6)) n1 := LR_cg eX (fun q hq => ⟨ru0 _ _ _ _ hq, fun j hj => ru0 _ _ _ _ (by omega)⟩) w4
    refine ⟨n1, g, 0, rr + 1, ⟨?_, ?_, by rw [x2 2 (by decide) (by decide), x2 3 (by decide) (by decide)]; exact V1, by rw [x2 2 (by decide) (by decide), x2 3 (by decide) (by decide), tA, tB]; exact L1⟩, c2.same (x1 4 (by decide) (by decide) (by decide) (by decide) (by decide) (by decide) (by decide)) (x1 5 (by decide) (by decide) (by decide) (by decide) (by decide) (by decide) (by decide)) (t0 4 (by decide) (by decide) (by decide) (by decide) (by decide)) (t1 3 (by decide) (by decide) (by decide)), ⟨by omega, ?_, ?_, fun i hi => absurd hi (by omega)⟩, by omega, ⟨?_, ?_⟩, Or.inl ⟨?_, ?_⟩⟩
    · have K := xK_chg (σ := ρ) (ς := ldCp ρ 1 2 3 9 10 11) (n' := n1) (ρ := 0) xk2 (by omega) (by omega) w1 (by rw [ldCp_i (by decide) (by decide)]; exact w2) (vAll_cg (fun q hq => ⟨ldCp_a (by decide) (by decide) (by omega), fun j hj => ldCp_b (by decide) (by decide) (by omega)⟩) w5) (fun q hq => absurd hq (by omega)) (fun c a b => ldCp_ne (by omega) (by omega) (by omega))
      exact xK_k2 (fun c hc => x2 c (by omega) (by omega)) K
    · exact mKK_new (K := xChg (ldCp ρ 1 2 3 9 10 11) 0 2) (N := xChg (ldCp ρ 1 2 3 9 10 11) 0 3) w1 (by rw [mChg_0 (by decide) (by decide), put_ix, if_neg (by decide), put_ix, if_neg (by decide), putC_ne (by decide), putC_ne (by decide), put_ix, if_pos rfl]) mChg_z.1 mChg_z.2 (by rw [tA, tB]; exact L1) V1
    · rw [put_ne (by decide), put_ne (by decide), put_ix, if_pos rfl]; rfl
    · rw [mChg_0 (by decide) (by decide), put_ix, if_pos rfl]; rfl
    · rw [put_ix, if_pos rfl, c4.1, nI_1]
    · rw [mChg_0 (by decide) (by decide), put_ix, if_neg (by decide), put_ix, if_pos rfl, c4.2, nI_1]
    · rw [put_ix, if_neg (by decide), put_ix, if_pos rfl]
    · rw [t0 26 (by decide) (by decide) (by decide) (by decide) (by decide)]
      rcases c5 with ⟨-, w | ⟨a, ha, ea⟩⟩ | ⟨-, ea, -⟩
      · exact Or.inl w
      · exact Or.inr ⟨a, by omega, ea⟩
      · exact Or.inr ⟨rr, by omega, ea⟩
  · have z2 : ¬ mWh τ p := fun w => z (hD.2.1.mpr w)
    rw [if_neg z, if_neg z] at hX
    rw [if_neg z2, if_neg z2] at hM
    exact AG.ee hX hM rfl (INVs c1 c2 c3 hr c4 c5)
set_option maxHeartbeats 4000000 in
theorem AG_image (H : INV σ τ N) : AG l σ τ t N mX10_image mX11_image [] := by
  obtain ⟨n, g, p, rr, hL, hG, hP, hr, hR, hKp⟩ := H
  obtain ⟨xk, mk, hv, hlr⟩ := id hL
  have hn := xk.1
  have h12 := xk.2.1
  have h0 := mk.1.2.1
  have e0 : σ 1 2 = 0 ↔ n = 0 := by rw [h12]; exact nI0 (by omega)
  have e00 : τ 0 0 = 0 ↔ n = 0 := by rw [h0]; exact nI0 (by omega)
  have x1 : ∀ c, c ≠ 0 → c < 168 → put (nmCp (ldCp σ 168 169 170 1 2 3) 171 172 5 g) 0 11 1 c = σ c := fun c a b => by rw [put_ne a, nmCp_ne (by omega) (by omega), ldCp_ne (by omega) (by omega) (by omega)]
  by_cases z : n = 0
  · refine AG.ee (CX10_image hG.1 hG.2.1) CX11_image ?_ ?_
    · rw [if_pos (e0.mpr z), if_pos (e00.mpr z)]
    · rw [if_pos (e0.mpr z), if_pos (e00.mpr z)]
      exact INVs hL hG hP hr hR hKp
  · refine AG.ee (CX10_image hG.1 hG.2.1) CX11_image ?_ ?_
    · rw [if_neg (fun w => z (e0.mp w)), if_neg (fun w => z (e00.mp w)), x1 1 (by decide) (by decide), h12, h0]
    · rw [if_neg (fun w => z (e0.mp w)), if_neg (fun w => z (e00.mp w))]
      unfold mImg
      have x0 : ∀ x, x ≠ 11 → put (nmCp (ldCp σ 168 169 170 1 2 3) 171 172 5 g) 0 11 1 0 x = σ 0 x := fun x a => by rw [put_ix, if_neg a, nmCp_ne (by decide) (by decide), ldCp_ne (by decide) (by decide) (by decide)]
      have t1 : ∀ c, c ≠ 0 → c < 15 → putC (putC (putC (put (put (put τ 0 26 (τ 0 3)) 0 27 (τ 0 0)) 0 28 (τ 0 4)) 15 (ru (τ 15) 0 8 (τ 1))) 16 (ru (τ 16) 0 32 (τ 2))) 17 (ru (τ 17) 0 8 (τ 3)) c = τ c := fun c a b => by rw [putC_ne (by omega), putC_ne (by omega), putC_ne (by omega), put_ne a, put_ne a, put_ne a]
      have t00 : ∀ x, putC (putC (putC (put (put (put τ 0 26 (τ 0 3)) 0 27 (τ 0 0)) 0 28 (τ 0 4)) 15 (ru (τ 15) 0 8 (τ 1))) 16 (ru (τ 16) 0 32 (τ 2))) 17 (ru (τ 17) 0 8 (τ 3)) 0 x = if x = 28 then τ 0 4 else if x = 27 then τ 0 0 else if x = 26 then τ 0 3 else τ 0 x := fun x => by rw [putC_ne (by decide), putC_ne (by decide), putC_ne (by decide), put_ix, put_ix, put_ix]
      have t0 : ∀ x, x < 26 → putC (putC (putC (put (put (put τ 0 26 (τ 0 3)) 0 27 (τ 0 0)) 0 28 (τ 0 4)) 15 (ru (τ 15) 0 8 (τ 1))) 16 (ru (τ 16) 0 32 (τ 2))) 17 (ru (τ 17) 0 8 (τ 3)) 0 x = τ 0 x := fun x a => by rw [t00, if_neg (by omega), if_neg (by omega), if_neg (by omega)]
      have ru0 : ∀ (V F : Nat → Int32) (k j : Nat), k < j → ru V 0 j F k = F k := fun V F k j h => by
        have := ru_in (V := V) (F := F) (s := 0) (j := j) (k := k) h
        rw [Nat.zero_add] at this; exact this
      have eX : ∀ q, q < n → put (nmCp (ldCp σ 168 169 170 1 2 3) 171 172 5 g) 0 11 1 169 q = σ 2 q ∧ ∀ j, j < 4 → put (nmCp (ldCp σ 168 169 170 1 2 3) 171 172 5 g) 0 11 1 170 (4 * q + j) = σ 3 (4 * q + j) := fun q hq => ⟨by rw [put_ne (by decide), nmCp_ne (by decide) (by decide), ldCp_a (by decide) (by decide) (by omega)], fun j hj => by rw [put_ne (by decide), nmCp_ne (by decide) (by decide), ldCp_b (by decide) (by decide) (by omega)]⟩
      refine ⟨n, g, p, rr, hL.keep (fun c hc => x1 c (by omega) (by omega)) (fun c hc => t1 c (by omega) (by omega)) (fun k hk => t0 k (by omega)), hG.same (x1 4 (by decide) (by decide)) (x1 5 (by decide) (by decide)) (t0 4 (by decide)) (t1 3 (by decide) (by decide)), hP.same (x1 6 (by decide) (by decide)) (x1 7 (by decide) (by decide)) (t0 6 (by decide)) (t1 4 (by decide) (by decide)), by omega, ⟨by rw [x0 12 (by decide)]; exact hR.1, by rw [t0 3 (by decide)]; exact hR.2⟩, Or.inr ⟨by rw [put_ix, if_pos rfl], ?_, n, g, by omega, hn, ?_, ?_, vAll_cg eX hv, ?_, hG.1, ?_, ?_, fun i hi => ?_⟩⟩
      · rw [t00, if_neg (by decide), if_neg (by decide), if_pos rfl]; exact hR.2
      · rw [put_ne (by decide), nmCp_ne (by decide) (by decide), ldCp_i (by decide) (by decide)]; exact h12
      · rw [t00, if_neg (by decide), if_pos rfl]; exact h0
      · refine LR_cg eX (fun q hq => ⟨?_, fun j hj => ?_⟩) hlr
        · rw [putC_ne (by decide), putC_ne (by decide), putC_eq, ru0 _ _ _ _ (by omega)]
        · rw [putC_ne (by decide), putC_eq, ru0 _ _ _ _ (by omega)]
      · rw [put_ne (by decide), nmCp_sz]
      · rw [t00, if_pos rfl]; exact hG.2.2.1
      · rw [putC_eq, ru0 _ _ _ _ (by have := hG.1; omega), put_ne (by decide), nmCp_v (by decide), if_pos hi, ldCp_ne (by decide) (by decide) (by decide)]
        exact hG.2.2.2 i hi
set_option maxHeartbeats 4000000 in
theorem AG_restore (H : INV σ τ N) (hN : N ≤ 10000) : AG l σ τ t N mX10_restore mX11_restore [] := by
  obtain ⟨n, g, p, rr, hL, hG, hP, hr, hR, hKp⟩ := H
  obtain ⟨xk, mk, hv, hlr⟩ := id hL
  rcases id hKp with ⟨k1, k2⟩ | ⟨k1, k2, n1, g1, a1, a2, a3, a4, a5, a6, a7, a8, a9, a10⟩
  · have hne : ¬ τ 0 26 = τ 0 3 := by
      rw [hR.2]
      rcases k2 with w | ⟨a, ha, ea⟩
      · rw [w]; exact fun y => nI_nN (a := rr) (by omega) y.symm
      · rw [ea]; exact fun y => by have := nI_inj (by omega) (by omega) y; omega
    refine AG.ee (CX10_restore (g := 0) (by omega) (fun w => absurd k1 w)) CX11_restore ?_ ?_
    · rw [if_pos k1, if_neg hne]
    · rw [if_pos k1, if_neg hne]
      exact INVs hL hG hP hr hR hKp
  · have h11 : ¬ σ 0 11 = 0 := by rw [k1]; decide
    have he : τ 0 26 = τ 0 3 := by rw [k2, hR.2]
    have ru0 : ∀ (V F : Nat → Int32) (k j : Nat), k < j → ru V 0 j F k = F k := fun V F k j h => by
      have := ru_in (V := V) (F := F) (s := 0) (j := j) (k := k) h
      rw [Nat.zero_add] at this; exact this
    have x2 : ∀ c, c ≠ 13 → c ≠ 17 → c ≠ 4 → c ≠ 5 → xChg (nmCp (ldCp σ 1 2 3 168 169 170) 4 5 172 g1) 0 c = ldCp σ 1 2 3 168 169 170 c := fun c a b d e => by rw [xChg_ne a b, nmCp_ne d e]
    have x1 : ∀ c, c ≠ 13 → c ≠ 17 → c ≠ 4 → c ≠ 5 → c ≠ 1 → c ≠ 2 → c ≠ 3 → xChg (nmCp (ldCp σ 1 2 3 168 169 170) 4 5 172 g1) 0 c = σ c := fun c a b d e f h i => by rw [x2 c a b d e, ldCp_ne f h i]
    have s1 : ldCp σ 1 2 3 168 169 170 1 2 = nI n1 := by rw [ldCp_i (by decide) (by decide)]; exact a3
    have eX : ∀ q, q < n1 → ldCp σ 1 2 3 168 169 170 2 q = σ 169 q ∧ ∀ j, j < 4 → ldCp σ 1 2 3 168 169 170 3 (4 * q + j) = σ 170 (4 * q + j) := fun q hq => ⟨ldCp_a (by decide) (by decide) (by omega), fun j hj => ldCp_b (by decide) (by decide) (by omega)⟩
    have V1 := vAll_cg eX a5
    refine AG.ee (CX10_restore a7 (fun _ => a8)) CX11_restore ?_ ?_
    · rw [if_neg h11, if_pos he, x2 1 (by decide) (by decide) (by decide) (by decide), s1, a4]
    · rw [if_neg h11, if_pos he]
      unfold mRst
      have t1 : ∀ c, c ≠ 0 → c ≠ 1 → c ≠ 2 → c ≠ 3 → mChg (putC (putC (putC (put (put τ 0 0 (τ 0 27)) 0 4 (τ 0 28)) 1 (ru (τ 1) 0 8 (τ 15))) 2 (ru (τ 2) 0 32 (τ 16))) 3 (ru (τ 3) 0 8 (τ 17))) c = τ c := fun c a b d e => by rw [mChg_ne a, putC_ne e, putC_ne d, putC_ne b, put_ne a, put_ne a]
      have t0 : ∀ x, x ≠ 13 → x ≠ 14 → mChg (putC (putC (putC (put (put τ 0 0 (τ 0 27)) 0 4 (τ 0 28)) 1 (ru (τ 1) 0 8 (τ 15))) 2 (ru (τ 2) 0 32 (τ 16))) 3 (ru (τ 3) 0 8 (τ 17))) 0 x = if x = 4 then τ 0 28 else if x = 0 then τ 0 27 else τ 0 x := fun x a b => by rw [mChg_0 a b, putC_ne (by decide), putC_ne (by decide), putC_ne (by decide), put_ix, put_ix]
      have tA : mChg (putC (putC (putC (put (put τ 0 0 (τ 0 27)) 0 4 (τ 0 28)) 1 (ru (τ 1) 0 8 (τ 15))) 2 (ru (τ 2) 0 32 (τ 16))) 3 (ru (τ 3) 0 8 (τ 17))) 1 = ru (τ 1) 0 8 (τ 15) := by rw [mChg_ne (by decide), putC_ne (by decide), putC_ne (by decide), putC_eq]
      have tB : mChg (putC (putC (putC (put (put τ 0 0 (τ 0 27)) 0 4 (τ 0 28)) 1 (ru (τ 1) 0 8 (τ 15))) 2 (ru (τ 2) 0 32 (τ 16))) 3 (ru (τ 3) 0 8 (τ 17))) 2 = ru (τ 2) 0 32 (τ 16) := by rw [mChg_ne (by decide), putC_ne (by decide), putC_eq]
      have tC : mChg (putC (putC (putC (put (put τ 0 0 (τ 0 27)) 0 4 (τ 0 28)) 1 (ru (τ 1) 0 8 (τ 15))) 2 (ru (τ 2) 0 32 (τ 16))) 3 (ru (τ 3) 0 8 (τ 17))) 3 = ru (τ 3) 0 8 (τ 17) := by rw [mChg_ne (by decide), putC_eq]
      have L1 : LR (ldCp σ 1 2 3 168 169 170 2) (ldCp σ 1 2 3 168 169 170 3) (ru (τ 1) 0 8 (τ 15)) (ru (τ 2) 0 32 (τ 16)) n1 := LR_cg eX (fun q hq => ⟨ru0 _ _ _ _ (by omega), fun j hj => ru0 _ _ _ _ (by omega)⟩) a6
      refine ⟨n1, g1, p, rr, ⟨?_, ?_, ?_, ?_⟩, ⟨a7, ?_, ?_, fun i hi => ?_⟩, hP.same (x1 6 (by decide) (by decide) (by decide) (by decide) (by decide) (by decide) (by decide)) (x1 7 (by decide) (by decide) (by decide) (by decide) (by decide) (by decide) (by decide)) (by rw [t0 6 (by decide) (by decide), if_neg (by decide), if_neg (by decide)]) (t1 4 (by decide) (by decide) (by decide) (by decide)), by omega, ⟨by rw [x1 0 (by decide) (by decide) (by decide) (by decide) (by decide) (by decide) (by decide)]; exact hR.1, by rw [t0 3 (by decide) (by decide), if_neg (by decide), if_neg (by decide)]; exact hR.2⟩, hKp.same (by rw [x1 0 (by decide) (by decide) (by decide) (by decide) (by decide) (by decide) (by decide)]) (fun c hc => x1 c (by omega) (by omega) (by omega) (by omega) (by omega) (by omega) (by omega)) (fun x hx => by rw [t0 x (by omega) (by omega), if_neg (by omega), if_neg (by omega)]) (fun c hc => t1 c (by omega) (by omega) (by omega) (by omega))⟩
      · have e2 : nmCp (ldCp σ 1 2 3 168 169 170) 4 5 172 g1 2 = ldCp σ 1 2 3 168 169 170 2 := nmCp_ne (by decide) (by decide) _
        have e3 : nmCp (ldCp σ 1 2 3 168 169 170) 4 5 172 g1 3 = ldCp σ 1 2 3 168 169 170 3 := nmCp_ne (by decide) (by decide) _
        exact xK_chg (σ := σ) (ς := nmCp (ldCp σ 1 2 3 168 169 170) 4 5 172 g1) (n' := n1) (ρ := 0) xk (by omega) (by omega) a2 (by rw [nmCp_ne (by decide) (by decide)]; exact s1) (by rw [e2, e3]; exact V1) (fun q hq => absurd hq (by omega)) (fun c a b => by rw [nmCp_ne (by omega) (by omega), ldCp_ne (by omega) (by omega) (by omega)])
      · exact mKK_new (K := ldCp σ 1 2 3 168 169 170 2) (N := ldCp σ 1 2 3 168 169 170 3) a2 (by rw [t0 0 (by decide) (by decide), if_neg (by decide), if_pos rfl]; exact a4) mChg_z.1 mChg_z.2 (by rw [tA, tB]; exact L1) V1
      · rw [x2 2 (by decide) (by decide) (by decide) (by decide), x2 3 (by decide) (by decide) (by decide) (by decide)]; exact V1
      · rw [x2 2 (by decide) (by decide) (by decide) (by decide), x2 3 (by decide) (by decide) (by decide) (by decide), tA, tB]; exact L1
      · rw [xChg_ne (by decide) (by decide), nmCp_sz]
      · rw [t0 4 (by decide) (by decide), if_pos rfl]; exact a9
      · rw [tC, ru0 _ _ _ _ (by omega), xChg_ne (by decide) (by decide), nmCp_v (by decide), if_pos hi, ldCp_ne (by decide) (by decide) (by decide)]
        exact a10 i hi
/-- the digest, a long -/
theorem AG_digest (H : INV σ τ N) : ∃ (v : Int64) (P1 P2 : (Nat → Nat → Int32) → Prop), Ct l mX10_digest [.ref 0] (xW σ) (fun r w => ∃ σ', r = some (.long v) ∧ w = xW σ' ∧ P1 σ') ∧ Ct l mX11_digest [.ref 0] (mW τ t) (fun r w => ∃ τ' t', r = some (.long v) ∧ w = mW τ' t' ∧ P2 τ') ∧ ∀ σ' τ', P1 σ' → P2 τ' → INV σ' τ' (N + 1) := by
  obtain ⟨n, g, p, rr, hL, hG, hP, hr, hR, hKp⟩ := H
  obtain ⟨xk, mk, hv, hlr⟩ := id hL
  have hn := xk.1
  have e := dgW_eq (p := p) hn hG.1 xk.2.1 (hv.wf hn) (hv.we hn) hlr mk.1.2.1 (hG.2.2.1.trans hG.2.1.symm) (hP.2.2.1.trans hP.2.1.symm) (hR.2.trans hR.1.symm) hG.2.2.2 (fun i hi => (hP.2.2.2 i hi).1)
  refine ⟨dgW σ n g p, fun ς => xK ς n ∧ xSame σ ς, fun ς => mKK ς n ∧ mSw τ ς, Ct.mono (CX10_digest xk hG.1 hG.2.1 hP.1 hP.2.1) (fun r w ⟨ς, a, b, c, d⟩ => ⟨ς, d, a, b, c⟩), Ct.mono (CX11_digest mk hG.1 hG.2.2.1 hP.1 hP.2.2.1) (fun r w ⟨ς, t', a, b, c, d⟩ => ⟨ς, t', by rw [d, e], a, b, c.sw⟩), fun ς ς2 h1 h2 => INVq hL hG hP hr hR hKp h1.2 h1.1 h2.2 h2.1⟩
/-- the beginning -/
theorem INV_0 : INV xS0 mS0 0 := by
  have xz : ∀ c k, c ≠ 162 → xS0 c k = 0 := fun c k h => by unfold xS0; rw [put_ne h]
  have mz : ∀ c k, c ≠ 0 ∨ k ≠ 26 → mS0 c k = 0 := fun c k h => by
    unfold mS0
    by_cases z : c = 0
    · subst z
      rw [put_ix, if_neg (h.elim (fun w => absurd rfl w) id)]
    · rw [put_ne z]
  refine ⟨0, 0, 0, 0, ⟨⟨by omega, xz 1 2 (by decide), ?_, ?_, ⟨0, by omega, xz 13 1 (by decide), fun q hq => absurd hq (by omega)⟩, fun t ht => ⟨0, by omega, xz 17 t (by decide), fun q hq => absurd hq (by omega)⟩⟩, ?_, fun q hq => absurd hq (by omega), fun q hq => absurd hq (by omega)⟩, ⟨by omega, xz 4 1 (by decide), mz 0 4 (by decide), fun i hi => absurd hi (by omega)⟩, ⟨by omega, xz 6 1 (by decide), mz 0 6 (by decide), fun i hi => absurd hi (by omega)⟩, by omega, ⟨xz 0 12 (by decide), mz 0 3 (by decide)⟩, Or.inl ⟨xz 0 11 (by decide), Or.inl ?_⟩⟩
  · rw [xz 1 2 (by decide)]; exact vAll.wf (n := 0) (by omega) (fun q hq => absurd hq (by omega))
  · rw [xz 1 2 (by decide)]; exact vAll.we (n := 0) (by omega) (fun q hq => absurd hq (by omega))
  · exact mKK_new (K := fun _ => 0) (N := fun _ => 0) (by omega) (mz 0 0 (by decide)) (mz 0 13 (by decide)) (mz 0 14 (by decide)) (fun q hq => absurd hq (by omega)) (fun q hq => absurd hq (by omega))
  · unfold mS0; rw [put_ix, if_pos rfl]
end
