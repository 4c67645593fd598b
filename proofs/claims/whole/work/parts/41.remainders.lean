def cyI (t r : Nat) : Nat := 18 + 2 * (8 * t + r)
theorem rnd_bd : ∀ t, t < 9 → 1 ≤ rnd t ∧ rnd t ≤ 336 := by decide
theorem xcell_o : ∀ c, 18 ≤ c → c < 162 → c % 2 = 0 → ∀ f, xcell c f = .inr (1, [.int (nI (2 + (c - 18) / 16)), .int (nI (rnd ((c - 18) / 16))), .ref (c + 1)]) := by
  intro c h1 h2 h3 f
  unfold xcell
  split
  all_goals first | (exfalso; omega) | (rw [if_pos h3])
theorem xcell_e : ∀ c, 18 ≤ c → c < 162 → ¬ c % 2 = 0 → ∀ f, xcell c f = .inl (0, 6 + rnd ((c - 18) / 16), .inl f) := by
  intro c h1 h2 h3 f
  unfold xcell
  split
  all_goals first | (exfalso; omega) | (rw [if_neg h3])
theorem xCycI {t r : Nat} (ht : t < 9) (hr : r < 8) : xCyc (cyI t r) (2 + t) (rnd t) := by
  have hb := rnd_bd t ht
  refine ⟨by unfold cyI; omega, fun f => ?_, fun f => ?_⟩
  · have := xcell_o (cyI t r) (by unfold cyI; omega) (by unfold cyI; omega) (by unfold cyI; omega) f
    rw [this, show (cyI t r - 18) / 16 = t by unfold cyI; omega]
  · have := xcell_e (cyI t r + 1) (by unfold cyI; omega) (by unfold cyI; omega) (by unfold cyI; omega) f
    rw [this, show (cyI t r + 1 - 18) / 16 = t by unfold cyI; omega]
theorem xC15 : ∀ f, xcell 15 f = .inr (6, [.ref 16, .ref 17]) := fun _ => rfl
theorem xC16 : ∀ f, xcell 16 f = .inl (3, 72, .inr (.inr (.inr (.inr (fun j => if j < 72 then some (18 + 2 * j) else none))))) := fun _ => rfl
theorem xC17 : ∀ f, xcell 17 f = .inl (0, 9, .inl f) := fun _ => rfl
def mnI (f : Nat → Int32) (r : Int32) : Nat → Int32 := fun t => if r < f t then r else f t
section
variable {l : Launch} {w : q_Wd} {σ : Nat → Nat → Int32}
set_option maxRecDepth 100000 in
set_option maxHeartbeats 4000000 in
theorem CX6_forgetFrom_loop {r : Int32} {n0 : Nat} : ∀ (d j : Nat), j + d = 9 → Go l mX6_forgetFrom n0 (q_eq none (xW (putC σ 17 (ru (σ 17) 0 9 (mnI (σ 17) r))))) (0, 0) 2 [some (.ref 15), some (.int r), some (.int (nI j))] [] (xW (putC σ 17 (ru (σ 17) 0 j (mnI (σ 17) r)))) := by
  intro d
  induction d with
  | zero =>
    intro j hj
    have e1 : j = 9 := by omega
    subst e1
    refine g_iload_n dX6_forgetFrom_2 rfl rfl ?_
    refine g_bipush (v := 9) dX6_forgetFrom_3 (by decide) ?_
    refine g_icmp_ge (tgt := 30) dX6_forgetFrom_5 rfl (fun c_5 => ?_) (fun c_5 => by exfalso; revert c_5; decide)
    exact g_vret dX6_forgetFrom_30 rfl rfl ⟨rfl, rfl⟩
  | succ d ih =>
    intro j hj
    have b0 : 0 ≤ nI j := nI_pos' (by omega)
    have b9 : nI j < 9 := nI_lt (b := 9) (by omega) (by decide)
    refine g_iload_n dX6_forgetFrom_2 rfl rfl ?_
    refine g_bipush (v := 9) dX6_forgetFrom_3 (by decide) ?_
    refine g_icmp_ge (tgt := 30) dX6_forgetFrom_5 rfl (fun c_5 => by exfalso; grind) (fun c_5 => ?_)
    refine g_aload_n dX6_forgetFrom_8 rfl rfl ?_
    refine g_getf dX6_forgetFrom_9 fX6_17 (xW_at (by decide) xC15) rfl ?_
    refine g_iload_n dX6_forgetFrom_12 rfl rfl ?_
    refine g_aload_n dX6_forgetFrom_13 rfl rfl ?_
    refine g_getf dX6_forgetFrom_14 fX6_17 (xW_at (by decide) xC15) rfl ?_
    refine g_iload_n dX6_forgetFrom_17 rfl rfl ?_
    refine g_iald dX6_forgetFrom_18 (xW_at (by decide) xC17) (vin_lt 9 b0 b9 (by decide)) ?_
    refine Go.eq rfl rfl (show _ = [Value.int (σ 17 j), Value.int (nI j), Value.ref 17] by rw [nI_clamp (by omega)]; rw [putC_eq, ru_out (by omega)]) rfl ?_
    refine g_iload_n dX6_forgetFrom_19 rfl rfl ?_
    refine g_S2r CJ9_min kX6_forgetFrom_24 dX6_forgetFrom_20 ⟨rfl, rfl⟩ (Nat.le_of_ble_eq_true rfl) ⟨(Nat.le_of_ble_eq_true rfl), (Nat.le_of_ble_eq_true rfl)⟩ ?_
    refine g_iast dX6_forgetFrom_23 (xW_at (by decide) xC17) (vin_lt 9 b0 b9 (by decide)) (show _ = xW (putC σ 17 (ru (σ 17) 0 (j + 1) (mnI (σ 17) r))) by rw [xW_arr xC17, put_putC, nI_clamp (by omega)]; congr 2; have := ru_1 (V := σ 17) (F := mnI (σ 17) r) (s := 0) (j := j) (x := if r < σ 17 j then r else σ 17 j) rfl; rw [Nat.zero_add] at this; exact this) ?_
    refine g_iinc (v := 1) dX6_forgetFrom_24 (by decide) rfl (Nat.le_of_ble_eq_true rfl) rfl ?_
    refine g_goto (tgt := 2) dX6_forgetFrom_27 rfl ?_
    exact Go.eq rfl (show _ = _ by rw [← nI_1 j]; rfl) rfl rfl (ih (j + 1) (by omega))
set_option maxRecDepth 100000 in
set_option maxHeartbeats 4000000 in
theorem CX6_forgetFrom {r : Int32} : Ct l mX6_forgetFrom [.ref 15, .int r] (xW σ) (q_eq none (xW (putC σ 17 (ru (σ 17) 0 9 (mnI (σ 17) r))))) := by
  refine Ct.of rfl (Nat.le_of_ble_eq_true rfl) ?_
  refine g_iconst (v := 0) dX6_forgetFrom_0 (by decide) ?_
  refine g_istore_n dX6_forgetFrom_1 rfl (Nat.le_of_ble_eq_true rfl) rfl ?_
  exact Go.eq rfl rfl rfl (show xW σ = _ by rw [ru_0, putC_id]) (CX6_forgetFrom_loop 9 0 rfl)
set_option maxRecDepth 100000 in
set_option maxHeartbeats 4000000 in
theorem CX6_filled {t r : Nat} (ht : t < 9) (hr : r < 8) : Ct l mX6_filled [.ref 15, .int (nI r), .int (nI t)] (xW σ) (q_eq (some (.ref (cyI t r))) (xW σ)) := by
  have r0 : 0 ≤ nI r := nI_pos' (by omega)
  have r8 : nI r < 8 := nI_lt (b := 8) hr (by decide)
  have t0 : 0 ≤ nI t := nI_pos' (by omega)
  have t9 : nI t < 9 := nI_lt (b := 9) ht (by decide)
  have e : nI t * 8 + nI r = nI (8 * t + r) := by rw [show (8 : Int32) = nI 8 from rfl, nI_mul, nI_add, Nat.mul_comm]
  refine Ct.of rfl (Nat.le_of_ble_eq_true rfl) ?_
  refine g_iload_n dX6_filled_0 rfl rfl ?_
  refine g_if_lt (tgt := 24) dX6_filled_1 rfl (fun c_1 => by exfalso; grind) (fun c_1 => ?_)
  refine g_iload_n dX6_filled_4 rfl rfl ?_
  refine g_bipush (v := 8) dX6_filled_5 (by decide) ?_
  refine g_icmp_ge (tgt := 24) dX6_filled_7 rfl (fun c_7 => by exfalso; grind) (fun c_7 => ?_)
  refine g_iload_n dX6_filled_10 rfl rfl ?_
  refine g_if_lt (tgt := 24) dX6_filled_11 rfl (fun c_11 => by exfalso; grind) (fun c_11 => ?_)
  refine g_iload_n dX6_filled_14 rfl rfl ?_
  refine g_bipush (v := 9) dX6_filled_15 (by decide) ?_
  refine g_icmp_ge (tgt := 24) dX6_filled_17 rfl (fun c_17 => by exfalso; grind) (fun c_17 => ?_)
  refine g_iconst (v := 1) dX6_filled_20 (by decide) ?_
  refine g_goto (tgt := 25) dX6_filled_21 rfl ?_
  refine g_istore_n dX6_filled_25 rfl (Nat.le_of_ble_eq_true rfl) rfl ?_
  refine g_aload_n dX6_filled_26 rfl rfl ?_
  refine g_getf dX6_filled_27 fX6_11 (xW_at (by decide) xC15) rfl ?_
  refine g_iload_n dX6_filled_30 rfl rfl ?_
  refine g_if_eq (tgt := 43) dX6_filled_31 rfl (fun c_31 => by exfalso; revert c_31; decide) (fun c_31 => ?_)
  refine g_iload_n dX6_filled_34 rfl rfl ?_
  refine g_bipush (v := 8) dX6_filled_35 (by decide) ?_
  refine g_imul dX6_filled_37 ?_
  refine g_iload_n dX6_filled_38 rfl rfl ?_
  refine g_iadd dX6_filled_39 ?_
  rw [e]
  refine g_goto (tgt := 44) dX6_filled_40 rfl ?_
  refine g_aald dX6_filled_44 (xW_at (by decide) xC16) (vin_lt (nI 72) (nI_pos' (by omega)) (nI_lt (by omega) (by omega)) (by decide)) (show (if (nI (8 * t + r)).toNatClampNeg < 72 then some (18 + 2 * (nI (8 * t + r)).toNatClampNeg) else none) = some (cyI t r) by rw [nI_clamp (by omega), if_pos (by omega)]; rfl) ?_
  exact g_aret dX6_filled_45 rfl rfl ⟨rfl, rfl⟩
end
