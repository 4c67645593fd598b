section
variable {l : Launch} {σ : Nat → Nat → Int32} {t : Nat → Int64} {n q m T L D : Nat}
set_option maxRecDepth 100000 in
set_option maxHeartbeats 4000000 in
theorem CX11_lrL {A : Nat → Int32} {n0 : Nat} (hq : q ≤ 8) (hLD : L + D ≤ 400) (h8 : σ 8 q = nI L) (h9 : σ 9 q = nI D) (hA : ∀ k, ∃ x, x < 127 ∧ A k = nI x) (hmade : ∀ k, k < L + D → Ct l mX11_madeRest [.ref 0, .int (nI q), .int (nI k), .int (nI m)] (mW (putC σ 10 (ru (σ 10) (512 * q) k A)) t) (q_eq (some (.int (A k))) (mW (putC σ 10 (ru (σ 10) (512 * q) k A)) t))) : ∀ (d k : Nat), k + d = L + D → Go l mX11_layRest n0 (q_eq none (mW (putC σ 10 (ru (σ 10) (512 * q) (L + D) A)) t)) (0, 0) 23 [some (.ref 0), some (.int (nI q)), some (.int (nI m)), some (.int (nI k))] [] (mW (putC σ 10 (ru (σ 10) (512 * q) k A)) t) := by
  intro d
  induction d with
  | zero =>
    intro k hk
    have e1 : k = L + D := by omega
    subst e1
    refine g_iload_n dX11_layRest_23 rfl rfl ?_
    refine g_aload_n dX11_layRest_24 rfl rfl ?_
    refine g_getf dX11_layRest_25 fX11_32 mW_0 rfl ?_
    refine g_iload_n dX11_layRest_28 rfl rfl ?_
    refine g_iald dX11_layRest_29 mA8 (vin_n (by omega) (by decide)) ?_
    refine Go.eq rfl rfl (show _ = [Value.int (nI L), Value.int (nI (L + D))] by rw [nI_clamp (by omega)]; exact congrArg (fun z => [Value.int z, Value.int (nI (L + D))]) h8) rfl ?_
    refine g_aload_n dX11_layRest_30 rfl rfl ?_
    refine g_getf dX11_layRest_31 fX11_35 mW_0 rfl ?_
    refine g_iload_n dX11_layRest_34 rfl rfl ?_
    refine g_iald dX11_layRest_35 mA9 (vin_n (by omega) (by decide)) ?_
    refine Go.eq rfl rfl (show _ = [Value.int (nI D), Value.int (nI L), Value.int (nI (L + D))] by rw [nI_clamp (by omega)]; exact congrArg (fun z => [Value.int z, Value.int (nI L), Value.int (nI (L + D))]) h9) rfl ?_
    refine g_iadd dX11_layRest_36 ?_
    rw [nI_add]
    refine g_icmp_ge (tgt := 66) dX11_layRest_37 rfl (fun c_37 => ?_) (fun c_37 => by exact absurd (nI_le (by omega) (by omega)) c_37)
    exact g_vret dX11_layRest_66 rfl rfl ⟨rfl, rfl⟩
  | succ d ih =>
    intro k hk
    obtain ⟨x, hx, ex⟩ := hA k
    refine g_iload_n dX11_layRest_23 rfl rfl ?_
    refine g_aload_n dX11_layRest_24 rfl rfl ?_
    refine g_getf dX11_layRest_25 fX11_32 mW_0 rfl ?_
    refine g_iload_n dX11_layRest_28 rfl rfl ?_
    refine g_iald dX11_layRest_29 mA8 (vin_n (by omega) (by decide)) ?_
    refine Go.eq rfl rfl (show _ = [Value.int (nI L), Value.int (nI k)] by rw [nI_clamp (by omega)]; exact congrArg (fun z => [Value.int z, Value.int (nI k)]) h8) rfl ?_
    refine g_aload_n dX11_layRest_30 rfl rfl ?_
    refine g_getf dX11_layRest_31 fX11_35 mW_0 rfl ?_
    refine g_iload_n dX11_layRest_34 rfl rfl ?_
    refine g_iald dX11_layRest_35 mA9 (vin_n (by omega) (by decide)) ?_
    refine Go.eq rfl rfl (show _ = [Value.int (nI D), Value.int (nI L), Value.int (nI k)] by rw [nI_clamp (by omega)]; exact congrArg (fun z => [Value.int z, Value.int (nI L), Value.int (nI k)]) h9) rfl ?_
    refine g_iadd dX11_layRest_36 ?_
    rw [nI_add]
    refine g_icmp_ge (tgt := 66) dX11_layRest_37 rfl (fun c_37 => by exact absurd c_37 (nI_ge (by omega) (by omega))) (fun c_37 => ?_)
    refine g_aload_n dX11_layRest_40 rfl rfl ?_
    refine g_getf dX11_layRest_41 fX11_38 mW_0 rfl ?_
    refine g_sipush (v := 512) dX11_layRest_44 (by decide) ?_
    refine g_iload_n dX11_layRest_47 rfl rfl ?_
    refine g_imul dX11_layRest_48 ?_
    rw [show (512 : Int32) = nI 512 from rfl, nI_mul]
    refine g_iload_n dX11_layRest_49 rfl rfl ?_
    refine g_iadd dX11_layRest_50 ?_
    rw [nI_add]
    refine g_aload_n dX11_layRest_51 rfl rfl ?_
    refine g_iload_n dX11_layRest_52 rfl rfl ?_
    refine g_iload_n dX11_layRest_53 rfl rfl ?_
    refine g_iload_n dX11_layRest_54 rfl rfl ?_
    refine g_V3r (hmade k (by omega)) kX11_layRest_177 dX11_layRest_55 mW_0 rfl ⟨rfl, rfl⟩ (Nat.le_of_ble_eq_true rfl) ⟨(Nat.le_of_ble_eq_true rfl), (Nat.le_of_ble_eq_true rfl)⟩ ?_
    refine g_i2b dX11_layRest_58 ?_
    refine g_bast dX11_layRest_59 mA10 (vin_n (by omega) (by decide)) (mW_arrB (k' := 512 * q + k) (fun _ => rfl) (nI_clamp (by omega)) (show _ = A k by rw [ex]; exact byt hx)) ?_
    refine g_iinc (v := 1) dX11_layRest_60 (by decide) rfl (Nat.le_of_ble_eq_true rfl) rfl ?_
    refine g_goto (tgt := 23) dX11_layRest_63 rfl ?_
    exact Go.eq rfl (show _ = _ by rw [← nI_1 k]; rfl) rfl (show mW (put (putC σ 10 (ru (σ 10) (512 * q) k A)) 10 (512 * q + k) (A k)) t = _ by rw [put_putC, ru_1 rfl]) (ih (k + 1) (by omega))
set_option maxRecDepth 100000 in
set_option maxHeartbeats 4000000 in
theorem CX11_layRest0 (hT : T < 9) (hn : n ≤ 8) (hq : q < n) (hwf : ldWf (σ 1) (σ 2) (nI n)) (hwe : ldWe (σ 1) (σ 2) (nI n)) (h0 : σ 1 q = 0) : Ct l mX11_layRest [.ref 0, .int (nI q), .int (nI (2 + T))] (mW σ t) (mtZ σ t q T (RZ (σ 1) (σ 2) (nI n) T q)) := by
  refine Ct.of rfl (Nat.le_of_ble_eq_true rfl) ?_
  have hE := hwe.2 q (by omega) (by rw [ldK hn hq]; exact h0)
  rw [ldN0 hn hq, ldN1 hn hq] at hE
  obtain ⟨hc, hd⟩ := hE
  have eR : (RZ (σ 1) (σ 2) (nI n) T q) = ct (nI (2 + T)) (σ 2 (4 * q)) (σ 2 (4 * q + 1)) (σ 2 (4 * q + 2)) (σ 2 (4 * q + 3)) := by
    funext k
    rw [RZ_fix hwf (by omega), rzRow, ldK hn hq, if_pos h0, ldN0 hn hq, ldN1 hn hq, ldN2 hn hq, ldN3 hn hq]
  refine g_aload_n dX11_layRest_0 rfl rfl ?_
  refine g_getf dX11_layRest_1 fX11_7 mW_0 rfl ?_
  refine g_iload_n dX11_layRest_4 rfl rfl ?_
  refine g_iald dX11_layRest_5 mA1 (vin_n (by omega) (by decide)) ?_
  rw [nI_clamp (by omega)]
  refine g_if_ne (tgt := 16) dX11_layRest_6 rfl (fun c_6 => by exact absurd h0 c_6) (fun c_6 => ?_)
  refine g_aload_n dX11_layRest_9 rfl rfl ?_
  refine g_iload_n dX11_layRest_10 rfl rfl ?_
  refine g_iload_n dX11_layRest_11 rfl rfl ?_
  refine g_V2p (CX11_layToldZ hT (by omega) hc hd) kX11_layRest_169 dX11_layRest_12 mW_0 rfl ⟨rfl, rfl⟩ (Nat.le_of_ble_eq_true rfl) ⟨(Nat.le_of_ble_eq_true rfl), (Nat.le_of_ble_eq_true rfl)⟩ ?_
  rintro rv w1 ⟨rfl, σ', ld, tn, rfl, g1, g2, g3, g4⟩
  exact g_vret dX11_layRest_15 rfl rfl ⟨rfl, σ', ld, tn, rfl, by rw [eR]; exact g1, g2, g3, g4⟩
/-- what the fill of a made row leaves -/
theorem fillZ {A : Nat → Int32} {σ1 : Nat → Nat → Int32} (hq : q ≤ 8) (hT : T < 9) (e1 : σ1 = put (put σ 8 q (nI L)) 9 q (nI D)) (hL : L ≤ 6) (hD : 1 ≤ D) (hdv : D ∣ rnd T) (hper : ∀ k, L ≤ k → A (k + D) = A k) : mtZ σ t q T A none (mW (putC σ1 10 (ru (σ1 10) (512 * q) (L + D) A)) t) := by
  have hr := rnd_bd T hT
  have hle : D ≤ rnd T := Nat.le_of_dvd (by omega) hdv
  have s8 : σ1 8 q = nI L := by rw [e1]; simp [put, upd]
  have s9 : σ1 9 q = nI D := by rw [e1]; simp [put, upd]
  have s10 : σ1 10 = σ 10 := by rw [e1]; rfl
  refine ⟨rfl, _, L, D, rfl, ⟨⟨hq, s8, s9, hD, hL, by omega⟩, hdv, fun k hk => ?_, hper⟩, fun c h1 h2 h3 h4 => ?_, fun x hx => ⟨?_, ?_⟩, fun i hi => ?_⟩
  · rw [putC_eq, ru_in hk]
  · rw [putC_ne h3, e1, put_ne h2, put_ne h1]
  · rw [putC_ne (by decide), e1]; simp [put, upd, hx]
  · rw [putC_ne (by decide), e1]; simp [put, upd, hx]
  · rw [putC_eq, s10, ru_out (by omega)]
theorem mRZ_fr {A B : Nat → Int32} {a ld tn k : Nat} {σ1 : Nat → Nat → Int32} (e1 : σ1 = put (put σ 8 q (nI L)) 9 q (nI D)) (ha : a < q) (H : mRZ σ A T a ld tn) : mRZ (putC σ1 10 (ru (σ1 10) (512 * q) k B)) A T a ld tn := by
  obtain ⟨⟨h1, h2, h3, h4, h5, h6⟩, h7, h8, h9⟩ := H
  have s10 : σ1 10 = σ 10 := by rw [e1]; rfl
  refine ⟨⟨h1, ?_, ?_, h4, h5, h6⟩, h7, fun k hk => ?_, h9⟩
  · rw [putC_ne (by decide), e1]; simpa [put, upd, show a ≠ q by omega] using h2
  · rw [putC_ne (by decide), e1]; simpa [put, upd, show a ≠ q by omega] using h3
  · rw [putC_eq, s10, ru_out (by omega)]; exact h8 k hk
end
