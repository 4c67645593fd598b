section
variable {l : Launch} {σ : Nat → Nat → Int32} {t : Nat → Int64} {n q T L D a c nn ss lda tna ldc tnc k : Nat}
theorem CX11_mdR (hT : T < 9) (hn : n ≤ 8) (hq : q < n) (hwf : ldWf (σ 1) (σ 2) (nI n)) (h0 : σ 1 q ≠ 0) (ea : σ 2 (4 * q) = nI a) (ha : a < q) (hc : c < q) (hc1 : σ 1 q = 1 ∨ σ 1 q = 2 → σ 2 (4 * q + 1) = nI c) (hE : σ 1 q = 3 → σ 2 (4 * q + 1) = nI nn ∧ nn ≤ 5 ∧ σ 2 (4 * q + 2) = nI ss ∧ ss ≤ 9) (HA : mRZ σ (RZ (σ 1) (σ 2) (nI n) T a) T a lda tna) (HC : mRZ σ (RZ (σ 1) (σ 2) (nI n) T c) T c ldc tnc) (hk : k ≤ 1000) : Ct l mX11_madeRest [.ref 0, .int (nI q), .int (nI k), .int (nI (2 + T))] (mW (putC (put (put σ 8 q (nI L)) 9 q (nI D)) 10 (ru ((put (put σ 8 q (nI L)) 9 q (nI D)) 10) (512 * q) k (RZ (σ 1) (σ 2) (nI n) T q))) t) (q_eq (some (.int ((RZ (σ 1) (σ 2) (nI n) T q) k))) (mW (putC (put (put σ 8 q (nI L)) 9 q (nI D)) 10 (ru ((put (put σ 8 q (nI L)) 9 q (nI D)) 10) (512 * q) k (RZ (σ 1) (σ 2) (nI n) T q))) t)) := by
  have GA : mRZ (putC (put (put σ 8 q (nI L)) 9 q (nI D)) 10 (ru ((put (put σ 8 q (nI L)) 9 q (nI D)) 10) (512 * q) k (RZ (σ 1) (σ 2) (nI n) T q))) (RZ (σ 1) (σ 2) (nI n) T a) T a lda tna := mRZ_fr rfl ha HA
  have GC : mRZ (putC (put (put σ 8 q (nI L)) 9 q (nI D)) 10 (ru ((put (put σ 8 q (nI L)) 9 q (nI D)) 10) (512 * q) k (RZ (σ 1) (σ 2) (nI n) T q))) (RZ (σ 1) (σ 2) (nI n) T c) T c ldc tnc := mRZ_fr rfl hc HC
  have e := CX11_madeRest (l := l) (t := t) (σ := (putC (put (put σ 8 q (nI L)) 9 q (nI D)) 10 (ru ((put (put σ 8 q (nI L)) 9 q (nI D)) 10) (512 * q) k (RZ (σ 1) (σ 2) (nI n) T q)))) (q := q) (m := 2 + T) (k := k) (a := a) (b := c) (lda := lda) (tna := tna) (ldb := ldc) (tnb := tnc) (nn := nn) (ss := ss) (by omega) ⟨by omega, by omega⟩ (by omega) ea GA.1 (fun z => ⟨hc1 z, GC.1⟩) hE
  rw [mRZ_v GA, mRZ_v GC] at e
  have v : mrV (σ 1 q) (RZ (σ 1) (σ 2) (nI n) T a) (RZ (σ 1) (σ 2) (nI n) T c) (nI (2 + T)) nn ss k = (RZ (σ 1) (σ 2) (nI n) T q) k := mrV_RZ hT hn hq hwf h0 ea (by omega) (fun z => ⟨hc1 z, by omega⟩) hE
  refine Ct.mono e (fun r w2 h => ?_)
  obtain ⟨rfl, rfl⟩ := h
  exact ⟨congrArg (fun z => some (Value.int z)) v, rfl⟩
set_option maxRecDepth 100000 in
set_option maxHeartbeats 4000000 in
theorem CX11_layRest1 (hT : T < 9) (hn : n ≤ 8) (hq : q < n) (hwf : ldWf (σ 1) (σ 2) (nI n)) (hwe : ldWe (σ 1) (σ 2) (nI n)) (h0 : σ 1 q ≠ 0) (hP : ∀ x, x < q → ∃ ld tn, mRZ σ (RZ (σ 1) (σ 2) (nI n) T x) T x ld tn) : Ct l mX11_layRest [.ref 0, .int (nI q), .int (nI (2 + T))] (mW σ t) (mtZ σ t q T (RZ (σ 1) (σ 2) (nI n) T q)) := by
  have hr := rnd_bd T hT
  obtain ⟨a, b, nn, ss, hA, hB, hE⟩ := mEx hn hq hwf hwe
  obtain ⟨ea, ha⟩ := hA h0
  obtain ⟨c, hc, hc1, hc2⟩ : ∃ c, c < q ∧ (σ 1 q = 1 ∨ σ 1 q = 2 → σ 2 (4 * q + 1) = nI c) ∧ (¬ (σ 1 q = 1 ∨ σ 1 q = 2) → c = a) := by
    by_cases hb : σ 1 q = 1 ∨ σ 1 q = 2
    · have := hB h0 (by rcases hb with e | e <;> rw [e] <;> decide) (by rcases hb with e | e <;> rw [e] <;> decide)
      exact ⟨b, this.2, fun _ => this.1, fun z => absurd hb z⟩
    · exact ⟨a, ha, fun z => absurd z hb, fun _ => rfl⟩
  obtain ⟨lda, tna, HA⟩ := hP a ha
  obtain ⟨ldc, tnc, HC⟩ := hP c hc
  have a1 := HA.1.2.2.2
  have c1 := HC.1.2.2.2
  refine Ct.of rfl (Nat.le_of_ble_eq_true rfl) ?_
  by_cases h3 : σ 1 q = 3
  · obtain ⟨hL, m1⟩ := ldE_f (s := ss) a1.2.1 (hE h3).2.1.1
    obtain ⟨hdv, d1, hD⟩ := tnE_f (n := nn) a1.1 HA.2.1
    have hper := RZ_turnE hT hn hq hwf h3 ea (by omega) ⟨(hE h3).1, (hE h3).2.1.2, (hE h3).2.2⟩ HA.2.2.2 (L := ldE lda nn ss) (D := tna / Nat.gcd tna nn) m1 d1
    refine g_aload_n dX11_layRest_0 rfl rfl ?_
    refine g_getf dX11_layRest_1 fX11_7 mW_0 rfl ?_
    refine g_iload_n dX11_layRest_4 rfl rfl ?_
    refine g_iald dX11_layRest_5 mA1 (vin_n (by omega) (by decide)) ?_
    rw [nI_clamp (by omega)]
    refine g_if_ne (tgt := 16) dX11_layRest_6 rfl (fun c_6 => ?_) (fun c_6 => by exact absurd c_6 h0)
    refine g_aload_n dX11_layRest_16 rfl rfl ?_
    refine g_iload_n dX11_layRest_17 rfl rfl ?_
    refine g_V1v (CX11_layTurnE (by omega) ea (by omega) HA.1 HC.1 hc1 hc2 h3 (hE h3).1 (hE h3).2.1 (hE h3).2.2.1 (hE h3).2.2.2) kX11_layRest_173 dX11_layRest_18 mW_0 rfl ⟨rfl, rfl⟩ (Nat.le_of_ble_eq_true rfl) ⟨(Nat.le_of_ble_eq_true rfl), (Nat.le_of_ble_eq_true rfl)⟩ ?_
    refine g_iconst (v := 0) dX11_layRest_21 (by decide) ?_
    refine g_istore_n dX11_layRest_22 rfl (Nat.le_of_ble_eq_true rfl) rfl ?_
    have hLD : (ldE lda nn ss) + (tna / Nat.gcd tna nn) ≤ 400 := by have := Nat.le_of_dvd (show 0 < rnd T by omega) hdv; omega
    refine Go.mono (Q' := q_eq none (mW (putC (put (put σ 8 q (nI (ldE lda nn ss))) 9 q (nI (tna / Nat.gcd tna nn))) 10 (ru ((put (put σ 8 q (nI (ldE lda nn ss))) 9 q (nI (tna / Nat.gcd tna nn))) 10) (512 * q) ((ldE lda nn ss) + (tna / Nat.gcd tna nn)) (RZ (σ 1) (σ 2) (nI n) T q))) t)) (fun r w2 h => by obtain ⟨rfl, rfl⟩ := h; exact fillZ (by omega) hT rfl hL hD hdv hper) ?_
    exact Go.eq rfl rfl rfl (by rw [ru_0]; exact congrArg (fun z => mW z t) (putC_id (σ := (put (put σ 8 q (nI (ldE lda nn ss))) 9 q (nI (tna / Nat.gcd tna nn)))) (c := 10)).symm) (CX11_lrL (σ := (put (put σ 8 q (nI (ldE lda nn ss))) 9 q (nI (tna / Nat.gcd tna nn)))) (A := (RZ (σ 1) (σ 2) (nI n) T q)) (L := (ldE lda nn ss)) (D := (tna / Nat.gcd tna nn)) (by omega) hLD (by simp [put, upd]) (by simp [put, upd]) (fun k => by obtain ⟨x, hx, ex⟩ := RZ_bd (K := σ 1) (N := σ 2) (sz := nI n) hT q k; exact ⟨x, by omega, ex⟩) (fun k hk => CX11_mdR hT hn hq hwf h0 ea ha hc hc1 (fun z => ⟨(hE z).1, (hE z).2.1.2, (hE z).2.2⟩) HA HC (by omega)) ((ldE lda nn ss) + (tna / Nat.gcd tna nn)) 0 (by omega))
  · obtain ⟨hL, m1, m2⟩ := mxN_f a1.2.1 c1.2.1
    obtain ⟨hdv, d1, d2, hD⟩ := tnS_f a1.1 c1.1 HA.2.1 HC.2.1
    have hper := RZ_turn (nn := 0) (ss := 0) hT hn hq hwf h0 h3 ea (by omega) (fun z => ⟨hc1 z, by omega⟩) HA.2.2.2 HC.2.2.2 (L := mxN lda ldc) (D := tnS tna tnc) ⟨m1, m2⟩ d1 d2
    refine g_aload_n dX11_layRest_0 rfl rfl ?_
    refine g_getf dX11_layRest_1 fX11_7 mW_0 rfl ?_
    refine g_iload_n dX11_layRest_4 rfl rfl ?_
    refine g_iald dX11_layRest_5 mA1 (vin_n (by omega) (by decide)) ?_
    rw [nI_clamp (by omega)]
    refine g_if_ne (tgt := 16) dX11_layRest_6 rfl (fun c_6 => ?_) (fun c_6 => by exact absurd c_6 h0)
    refine g_aload_n dX11_layRest_16 rfl rfl ?_
    refine g_iload_n dX11_layRest_17 rfl rfl ?_
    refine g_V1v (CX11_layTurn (by omega) ea (by omega) HA.1 HC.1 hc1 hc2 h3) kX11_layRest_173 dX11_layRest_18 mW_0 rfl ⟨rfl, rfl⟩ (Nat.le_of_ble_eq_true rfl) ⟨(Nat.le_of_ble_eq_true rfl), (Nat.le_of_ble_eq_true rfl)⟩ ?_
    refine g_iconst (v := 0) dX11_layRest_21 (by decide) ?_
    refine g_istore_n dX11_layRest_22 rfl (Nat.le_of_ble_eq_true rfl) rfl ?_
    have hLD : (mxN lda ldc) + (tnS tna tnc) ≤ 400 := by have := Nat.le_of_dvd (show 0 < rnd T by omega) hdv; omega
    refine Go.mono (Q' := q_eq none (mW (putC (put (put σ 8 q (nI (mxN lda ldc))) 9 q (nI (tnS tna tnc))) 10 (ru ((put (put σ 8 q (nI (mxN lda ldc))) 9 q (nI (tnS tna tnc))) 10) (512 * q) ((mxN lda ldc) + (tnS tna tnc)) (RZ (σ 1) (σ 2) (nI n) T q))) t)) (fun r w2 h => by obtain ⟨rfl, rfl⟩ := h; exact fillZ (by omega) hT rfl hL hD hdv hper) ?_
    exact Go.eq rfl rfl rfl (by rw [ru_0]; exact congrArg (fun z => mW z t) (putC_id (σ := (put (put σ 8 q (nI (mxN lda ldc))) 9 q (nI (tnS tna tnc)))) (c := 10)).symm) (CX11_lrL (σ := (put (put σ 8 q (nI (mxN lda ldc))) 9 q (nI (tnS tna tnc)))) (A := (RZ (σ 1) (σ 2) (nI n) T q)) (L := (mxN lda ldc)) (D := (tnS tna tnc)) (by omega) hLD (by simp [put, upd]) (by simp [put, upd]) (fun k => by obtain ⟨x, hx, ex⟩ := RZ_bd (K := σ 1) (N := σ 2) (sz := nI n) hT q k; exact ⟨x, by omega, ex⟩) (fun k hk => CX11_mdR hT hn hq hwf h0 ea ha hc hc1 (fun z => ⟨(hE z).1, (hE z).2.1.2, (hE z).2.2⟩) HA HC (by omega)) ((mxN lda ldc) + (tnS tna tnc)) 0 (by omega))
end
