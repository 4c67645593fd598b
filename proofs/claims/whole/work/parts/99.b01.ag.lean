/-! every call: both answer alike, and the invariant goes on -/
def AG (l : Launch) (σ τ : Nat → Nat → Int32) (t : Nat → Int64) (N : Nat) (MX MM : q_M) (as : List Value) : Prop := ∃ (P1 P2 : Int32 → (Nat → Nat → Int32) → Prop), Ct l MX (.ref 0 :: as) (xW σ) (fun r w => ∃ v σ', r = some (.int v) ∧ w = xW σ' ∧ P1 v σ') ∧ Ct l MM (.ref 0 :: as) (mW τ t) (fun r w => ∃ v τ' t', r = some (.int v) ∧ w = mW τ' t' ∧ P2 v τ') ∧ ∀ v σ' v2 τ', P1 v σ' → P2 v2 τ' → v = v2 ∧ INV σ' τ' (N + 1)
section
variable {l : Launch} {σ τ : Nat → Nat → Int32} {t : Nat → Int64} {N : Nat} {MX MM : q_M} {as : List Value}
theorem AG.ee {v v' : Int32} {σ' τ' : Nat → Nat → Int32} (hx : Ct l MX (.ref 0 :: as) (xW σ) (q_eq (some (.int v)) (xW σ'))) (hm : Ct l MM (.ref 0 :: as) (mW τ t) (q_eq (some (.int v')) (mW τ' t))) (e : v = v') (hI : INV σ' τ' (N + 1)) : AG l σ τ t N MX MM as :=
  ⟨fun u ς => u = v ∧ ς = σ', fun u ς => u = v' ∧ ς = τ', Ct.mono hx (fun r w h => ⟨v, σ', h.1, h.2, rfl, rfl⟩), Ct.mono hm (fun r w h => ⟨v', τ', t, h.1, h.2, rfl, rfl⟩), fun u ς u2 ς2 h1 h2 => ⟨by rw [h1.1, h2.1, e], by rw [h1.2, h2.2]; exact hI⟩⟩
def CQ (σ : Nat → Nat → Int32) (n : Nat) (v : Int32) : q_P := fun r w => ∃ σ', w = xW σ' ∧ xK σ' n ∧ xSame σ σ' ∧ r = some (.int v)
def MQq (τ : Nat → Nat → Int32) (n : Nat) (v : Int32) : q_P := fun r w => ∃ τ' t', w = mW τ' t' ∧ mKK τ' n ∧ mSw τ τ' ∧ r = some (.int v)
theorem CQ.of {n : Nat} {v : Int32} (hK : xK σ n) (h : Ct l MX (.ref 0 :: as) (xW σ) (q_eq (some (.int v)) (xW σ))) : Ct l MX (.ref 0 :: as) (xW σ) (CQ σ n v) := Ct.mono h (fun r w z => ⟨σ, z.2, hK, xSame.rf, z.1⟩)
theorem MQq.of {n : Nat} {v : Int32} (hK : mKK τ n) (h : Ct l MM (.ref 0 :: as) (mW τ t) (q_eq (some (.int v)) (mW τ t))) : Ct l MM (.ref 0 :: as) (mW τ t) (MQq τ n v) := Ct.mono h (fun r w z => ⟨τ, t, z.2, hK, mSm.rf.sw, z.1⟩)
theorem MQq.ofm {n : Nat} {v : Int32} (h : Ct l MM (.ref 0 :: as) (mW τ t) (fun r w' => ∃ σ', w' = mW σ' t ∧ mKK σ' n ∧ mSm τ σ' ∧ r = some (.int v))) : Ct l MM (.ref 0 :: as) (mW τ t) (MQq τ n v) := Ct.mono h (fun r w ⟨τ', a, b, c, d⟩ => ⟨τ', t, a, b, c.sw, d⟩)
theorem AG.q {n g p r : Nat} {v v' : Int32} (hL : LDG σ τ n) (hG : GV σ τ g) (hP : PG σ τ p) (hr : r ≤ N) (hR : RDS σ τ r) (hK : KP σ τ r) (hx : Ct l MX (.ref 0 :: as) (xW σ) (CQ σ n v)) (hm : Ct l MM (.ref 0 :: as) (mW τ t) (MQq τ n v')) (e : v = v') : AG l σ τ t N MX MM as :=
  ⟨fun u ς => u = v ∧ xK ς n ∧ xSame σ ς, fun u ς => u = v' ∧ mKK ς n ∧ mSw τ ς, Ct.mono hx (fun r w ⟨ς, a, b, c, d⟩ => ⟨v, ς, d, a, rfl, b, c⟩), Ct.mono hm (fun r w ⟨ς, t', a, b, c, d⟩ => ⟨v', ς, t', d, a, rfl, b, c⟩), fun u ς u2 ς2 h1 h2 => ⟨by rw [h1.1, h2.1, e], INVq hL hG hP hr hR hK h1.2.2 h1.2.1 h2.2.2 h2.2.1⟩⟩
end
section
variable {l : Launch} {σ τ : Nat → Nat → Int32} {t : Nat → Int64} {N : Nat}
theorem mKK_rd {n p : Nat} (H : mKK τ n) : mKK (mRd τ p).2 n := by
  have h := (rdM_ok (G := τ 4) p 0 (mR0 τ) mR0_ok).2.1
  have h2 := mR0_sm (σ := τ).tr h
  exact mKK_keep (fun c hc => h2.1 c (by omega) (by omega) (by omega)) (fun k hk => h2.2 k (by omega) (by omega) (by omega)) H
theorem mSm_rd {p : Nat} : mSm τ (mRd τ p).2 := by
  have h := (rdM_ok (G := τ 4) p 0 (mR0 τ) mR0_ok).2.1
  have h2 := mR0_sm (σ := τ).tr h
  exact ⟨fun c hc => h2.1 c (by omega) (by omega) (by omega), fun k hk => h2.2 k (by omega) (by omega) (by omega)⟩
set_option maxHeartbeats 4000000 in
theorem AG_row (H : INV σ τ N) (r k : Int32) : AG l σ τ t N mX10_row mX11_row [.int r, .int k] := by
  obtain ⟨n, g, p, rr, hL, hG, hP, hr, hR, hKp⟩ := H
  obtain ⟨xk, mk, hv, hlr⟩ := id hL
  have hn := xk.1
  have h12 := xk.2.1
  have h0 := mk.1.2.1
  have hwf := hv.wf hn
  have hwe := hv.we hn
  have E := hlr.eq hn
  by_cases hH : ldH (nI n) r
  · obtain ⟨q, hq, rfl⟩ := (ldH_iff hn).mp hH
    refine AG.q hL hG hP hr hR hKp (CQ.of xk CX10_row) (MQq.of mk (CX11_row hq hn h0)) ?_
    rw [h12, if_pos hH]
    by_cases hk : 0 ≤ k ∧ k ≤ 4
    · rw [if_pos hk, if_pos hk]; exact row_eq hn hlr hq hk
    · rw [if_neg hk, if_neg hk]
  · refine AG.q hL hG hP hr hR hKp (CQ.of xk CX10_row) (MQq.of mk (CX11_row_no hn h0 hH)) ?_
    rw [h12, if_neg hH]
set_option maxHeartbeats 4000000 in
theorem AG_as (H : INV σ τ N) (r k : Int32) : AG l σ τ t N mX10_as mX11_as [.int r, .int k] := by
  obtain ⟨n, g, p, rr, hL, hG, hP, hr, hR, hKp⟩ := H
  obtain ⟨xk, mk, hv, hlr⟩ := id hL
  have hn := xk.1
  have h12 := xk.2.1
  have h0 := mk.1.2.1
  have hwf := hv.wf hn
  have hwe := hv.we hn
  have E := hlr.eq hn
  by_cases hH : ldH (nI n) r
  · obtain ⟨q, hq, rfl⟩ := (ldH_iff hn).mp hH
    refine AG.q hL hG hP hr hR hKp (CQ.of xk CX10_as) (MQq.of mk (CX11_as hq hn h0)) ?_
    rw [h12, if_pos hH, ldK hn hq, (hlr q hq).1]
    by_cases hk : 0 ≤ k ∧ k ≤ 6
    · rw [if_pos hk, if_pos hk]; exact as_eq (hlr q hq).2.1 hk
    · rw [if_neg hk, if_neg hk]
  · refine AG.q hL hG hP hr hR hKp (CQ.of xk CX10_as) (MQq.of mk (CX11_as_no hn h0 hH)) ?_
    rw [h12, if_neg hH]
set_option maxHeartbeats 4000000 in
theorem AG_term (H : INV σ τ N) (r k : Int32) : AG l σ τ t N mX10_term mX11_term [.int r, .int k] := by
  obtain ⟨n, g, p, rr, hL, hG, hP, hr, hR, hKp⟩ := H
  obtain ⟨xk, mk, hv, hlr⟩ := id hL
  have hn := xk.1
  have h12 := xk.2.1
  have h0 := mk.1.2.1
  have hwf := hv.wf hn
  have hwe := hv.we hn
  have E := hlr.eq hn
  by_cases hH : ldH (nI n) r
  · obtain ⟨q, hq, rfl⟩ := (ldH_iff hn).mp hH
    refine AG.q hL hG hP hr hR hKp (CX10_term xk) (Ct.mono (CX11_term hq hn h0 mk.1) (fun r w z => ?_)) (v' := if 0 ≤ k ∧ k ≤ 200 then vAt (TT (τ 1) (τ 2) (nI n)) (nI q) k else 2000000102) ?_
    · by_cases hk : 0 ≤ k ∧ k ≤ 200
      · rw [if_pos hk, if_pos hk] at z
        rw [if_pos hk]
        exact ⟨_, t, z.2, mKK_St mk (mLt_S mk.1) (mLt_K mk.1).1, (mLt_S mk.1).sm.sw, z.1⟩
      · rw [if_neg hk, if_neg hk] at z
        rw [if_neg hk]
        exact ⟨_, t, z.2, mk, mSm.rf.sw, z.1⟩
    · rw [h12, if_pos hH, TT_eq E hwf (by omega)]
  · refine AG.q hL hG hP hr hR hKp (CX10_term xk) (MQq.of mk (CX11_term_no hn h0 hH)) ?_
    rw [h12, if_neg hH]
set_option maxHeartbeats 4000000 in
theorem AG_by (H : INV σ τ N) (r k m : Int32) : AG l σ τ t N mX10_by mX11_by [.int r, .int k, .int m] := by
  obtain ⟨n, g, p, rr, hL, hG, hP, hr, hR, hKp⟩ := H
  obtain ⟨xk, mk, hv, hlr⟩ := id hL
  have hn := xk.1
  have h12 := xk.2.1
  have h0 := mk.1.2.1
  have hwf := hv.wf hn
  have hwe := hv.we hn
  have E := hlr.eq hn
  by_cases hH : ldH (nI n) r
  · obtain ⟨q, hq, rfl⟩ := (ldH_iff hn).mp hH
    by_cases hk : 0 ≤ k ∧ 2 ≤ m ∧ m ≤ 10
    · obtain ⟨T, hT, rfl⟩ := mod_ex hk.2
      have ek := tNC hk.1
      have hk2 : k.toNatClampNeg < 2147483648 := by have := Int32.toInt_lt k; show k.toInt.toNat < _; omega
      refine AG.q hL hG hP hr hR hKp (CX10_by xk) (MQq.ofm (v := RZ (τ 1) (τ 2) (nI n) T q k.toNatClampNeg) ?_) ?_
      · have := CX11_byK (l := l) (t := t) hT mk hq hk2
        rw [← ek] at this
        exact this
      · rw [h12, if_pos hH, if_pos hk, nI_clamp (show 2 + T < 2 ^ 31 by omega), nI_clamp (show q < 2 ^ 31 by omega), Nat.add_sub_cancel_left, RZ_eq E hwf (by omega)]
    · refine AG.q hL hG hP hr hR hKp (CX10_by xk) (MQq.of mk (CX11_by_out hn h0 hq hk)) ?_
      rw [h12, if_pos hH, if_neg hk]
  · refine AG.q hL hG hP hr hR hKp (CX10_by xk) (MQq.of mk (CX11_by_no hn h0 hH)) ?_
    rw [h12, if_neg hH]
set_option maxHeartbeats 4000000 in
theorem AG_lap (H : INV σ τ N) (r m k : Int32) : AG l σ τ t N mX10_lap mX11_lap [.int r, .int m, .int k] := by
  obtain ⟨n, g, p, rr, hL, hG, hP, hr, hR, hKp⟩ := H
  obtain ⟨xk, mk, hv, hlr⟩ := id hL
  have hn := xk.1
  have h12 := xk.2.1
  have h0 := mk.1.2.1
  have hwf := hv.wf hn
  have hwe := hv.we hn
  have E := hlr.eq hn
  by_cases hH : ldH (nI n) r
  · obtain ⟨q, hq, rfl⟩ := (ldH_iff hn).mp hH
    by_cases hk : (2 ≤ m ∧ m ≤ 10) ∧ 0 ≤ k ∧ k ≤ 2
    · obtain ⟨T, hT, rfl⟩ := mod_ex hk.1
      refine AG.q hL hG hP hr hR hKp (CX10_lap xk) (MQq.ofm (CX11_lap hT mk hq hk.2)) ?_
      rw [h12, if_pos hH, if_pos hk, nI_clamp (show 2 + T < 2 ^ 31 by omega), nI_clamp (show q < 2 ^ 31 by omega), Nat.add_sub_cancel_left, RZ_eq E hwf (by omega)]
    · refine AG.q hL hG hP hr hR hKp (CX10_lap xk) (MQq.of mk (CX11_lap_out hn h0 hq hk)) ?_
      rw [h12, if_pos hH, if_neg hk]
  · refine AG.q hL hG hP hr hR hKp (CX10_lap xk) (MQq.of mk (CX11_lap_no hn h0 hH)) ?_
    rw [h12, if_neg hH]
set_option maxHeartbeats 4000000 in
theorem AG_ends (H : INV σ τ N) (r : Int32) : AG l σ τ t N mX10_ends mX11_ends [.int r] := by
  obtain ⟨n, g, p, rr, hL, hG, hP, hr, hR, hKp⟩ := H
  obtain ⟨xk, mk, hv, hlr⟩ := id hL
  have hn := xk.1
  have h12 := xk.2.1
  have h0 := mk.1.2.1
  have hwf := hv.wf hn
  have hwe := hv.we hn
  have E := hlr.eq hn
  by_cases hH : ldH (nI n) r
  · obtain ⟨q, hq, rfl⟩ := (ldH_iff hn).mp hH
    refine AG.q hL hG hP hr hR hKp (CX10_ends xk) (MQq.ofm (CX11_ends mk hq)) ?_
    rw [h12, if_pos hH, nI_clamp (show q < 2 ^ 31 by omega)]
    congr 1
    funext T
    unfold zrQ
    rw [RZ_eq E hwf (by omega)]
  · refine AG.q hL hG hP hr hR hKp (CX10_ends xk) (MQq.of mk (CX11_ends_no hn h0 hH)) ?_
    rw [h12, if_neg hH]
set_option maxHeartbeats 4000000 in
theorem AG_open (H : INV σ τ N) (r k : Int32) : AG l σ τ t N mX10_open mX11_open [.int r, .int k] := by
  obtain ⟨n, g, p, rr, hL, hG, hP, hr, hR, hKp⟩ := H
  obtain ⟨xk, mk, hv, hlr⟩ := id hL
  have hn := xk.1
  have h12 := xk.2.1
  have h0 := mk.1.2.1
  have hwf := hv.wf hn
  have hwe := hv.we hn
  have E := hlr.eq hn
  by_cases hH : ldH (nI n) r
  · obtain ⟨q, hq, rfl⟩ := (ldH_iff hn).mp hH
    by_cases hk : 0 ≤ k ∧ k ≤ 1
    · refine AG.q hL hG hP hr hR hKp (CX10_open xk) (MQq.ofm (CX11_open mk hq hk)) ?_
      have eR : (fun T => RZ (τ 1) (τ 2) (nI n) T q) = fun T => RZ (σ 2) (σ 3) (nI n) T q := by funext T; rw [RZ_eq E hwf (by omega)]
      rw [h12, if_pos hH, if_pos hk, nI_clamp (show q < 2 ^ 31 by omega), eR, op_eq hwf hwe (by omega)]
    · refine AG.q hL hG hP hr hR hKp (CX10_open xk) (MQq.of mk (CX11_open_out hn h0 hq hk)) ?_
      rw [h12, if_pos hH, if_neg hk]
  · refine AG.q hL hG hP hr hR hKp (CX10_open xk) (MQq.of mk (CX11_open_no hn h0 hH)) ?_
    rw [h12, if_neg hH]
set_option maxHeartbeats 4000000 in
theorem AG_meets (H : INV σ τ N) (r s m : Int32) : AG l σ τ t N mX10_meets mX11_meets [.int r, .int s, .int m] := by
  obtain ⟨n, g, p, rr, hL, hG, hP, hr, hR, hKp⟩ := H
  obtain ⟨xk, mk, hv, hlr⟩ := id hL
  have hn := xk.1
  have h12 := xk.2.1
  have h0 := mk.1.2.1
  have hwf := hv.wf hn
  have hwe := hv.we hn
  have E := hlr.eq hn
  by_cases hH : ldH (nI n) r
  · obtain ⟨q, hq, rfl⟩ := (ldH_iff hn).mp hH
    by_cases hH2 : ldH (nI n) s
    · obtain ⟨q2, hq2, rfl⟩ := (ldH_iff hn).mp hH2
      by_cases hk : 2 ≤ m ∧ m ≤ 10
      · obtain ⟨T, hT, rfl⟩ := mod_ex hk
        refine AG.q hL hG hP hr hR hKp (CX10_meets xk) (MQq.ofm (CX11_meets hT mk hq hq2)) ?_
        rw [h12, if_pos ⟨hH, hH2⟩, if_pos hk, nI_clamp (show 2 + T < 2 ^ 31 by omega), nI_clamp (show q < 2 ^ 31 by omega), nI_clamp (show q2 < 2 ^ 31 by omega), Nat.add_sub_cancel_left, RZ_eq E hwf (show q < 8 by omega), RZ_eq E hwf (show q2 < 8 by omega)]
      · refine AG.q hL hG hP hr hR hKp (CX10_meets xk) (MQq.of mk (CX11_meets_out hn h0 hq hq2 hk)) ?_
        rw [h12, if_pos ⟨hH, hH2⟩, if_neg hk]
    · refine AG.q hL hG hP hr hR hKp (CX10_meets xk) (MQq.of mk (CX11_meets_no2 hn h0 hq hH2)) ?_
      rw [h12, if_neg (fun z => hH2 z.2)]
  · refine AG.q hL hG hP hr hR hKp (CX10_meets xk) (MQq.of mk (CX11_meets_no hn h0 hH)) ?_
    rw [h12, if_neg (fun z => hH z.1)]
set_option maxHeartbeats 4000000 in
theorem AG_rule (H : INV σ τ N) (r k : Int32) : AG l σ τ t N mX10_rule mX11_rule [.int r, .int k] := by
  obtain ⟨n, g, p, rr, hL, hG, hP, hr, hR, hKp⟩ := H
  obtain ⟨xk, mk, hv, hlr⟩ := id hL
  have hn := xk.1
  have h12 := xk.2.1
  have h0 := mk.1.2.1
  have hwf := hv.wf hn
  have hwe := hv.we hn
  have E := hlr.eq hn
  by_cases hH : ldH (nI n) r
  · obtain ⟨q, hq, rfl⟩ := (ldH_iff hn).mp hH
    obtain ⟨o, b, m, hf⟩ := rRf_ex hn hq (hlr q hq).2.1 hwf hwe
    refine AG.q hL hG hP hr hR hKp (CQ.of xk CX10_rule) (MQq.of mk (CX11_rule hq hn h0 (rRf_m hn hq hlr hf))) ?_
    rw [h12, if_pos hH]
    by_cases hk : 0 ≤ k ∧ k ≤ 4
    · rw [if_pos hk, if_pos hk]; exact rule_eq hn hq hlr hf hk
    · rw [if_neg hk, if_neg hk]
  · refine AG.q hL hG hP hr hR hKp (CQ.of xk CX10_rule) (MQq.of mk (CX11_rule_no hn h0 hH)) ?_
    rw [h12, if_neg hH]
set_option maxHeartbeats 4000000 in
theorem AG_roots (H : INV σ τ N) (r k : Int32) : AG l σ τ t N mX10_roots mX11_roots [.int r, .int k] := by
  obtain ⟨n, g, p, rr, hL, hG, hP, hr, hR, hKp⟩ := H
  obtain ⟨xk, mk, hv, hlr⟩ := id hL
  have hn := xk.1
  have h12 := xk.2.1
  have h0 := mk.1.2.1
  have hwf := hv.wf hn
  have hwe := hv.we hn
  have E := hlr.eq hn
  by_cases hH : ldH (nI n) r
  · obtain ⟨q, hq, rfl⟩ := (ldH_iff hn).mp hH
    have ha := hlr.at hq
    by_cases z : σ 2 q = 0
    · have hw := hwe.2 q (by omega) (by rw [ldK hn hq]; exact z)
      rw [ldN0 hn hq, ldN1 hn hq] at hw
      have a0 := ha.2.1
      have a1 := ha.2.2.1 (by rw [z]; decide)
      refine AG.q hL hG hP hr hR hKp (CQ.of xk CX10_roots) (MQq.of mk (CX11_roots hq hn h0 (by rw [a0, a1]; exact rt_bd hw.1 hw.2))) ?_
      rw [h12, if_pos hH]
      by_cases hk : 0 ≤ k ∧ k ≤ 4
      · rw [if_pos hk, if_pos hk, if_pos ((tol_n hn hq).mpr z), if_pos (by rw [ha.1]; exact z), a0, a1, ldN0 hn hq, ldN1 hn hq]
        exact (rt_eq hw.1 hw.2 hk).symm
      · rw [if_neg hk, if_neg hk]
    · have zt : ¬ τ 1 q = 0 := by rw [ha.1]; exact z
      refine AG.q hL hG hP hr hR hKp (CQ.of xk CX10_roots) (MQq.of mk (CX11_rootsN hq hn h0 zt)) ?_
      rw [h12, if_pos hH]
      by_cases hk : 0 ≤ k ∧ k ≤ 4
      · rw [if_pos hk, if_pos hk, if_neg (fun w => z ((tol_n hn hq).mp w))]
      · rw [if_neg hk, if_neg hk]
  · refine AG.q hL hG hP hr hR hKp (CQ.of xk CX10_roots) (MQq.of mk (CX11_roots_no hn h0 hH)) ?_
    rw [h12, if_neg hH]
set_option maxHeartbeats 4000000 in
theorem AG_noughts (H : INV σ τ N) (r : Int32) : AG l σ τ t N mX10_noughts mX11_noughts [.int r] := by
  obtain ⟨n, g, p, rr, hL, hG, hP, hr, hR, hKp⟩ := H
  obtain ⟨xk, mk, hv, hlr⟩ := id hL
  have hn := xk.1
  have h12 := xk.2.1
  have h0 := mk.1.2.1
  have hwf := hv.wf hn
  have hwe := hv.we hn
  have E := hlr.eq hn
  by_cases hH : ldH (nI n) r
  · obtain ⟨q, hq, rfl⟩ := (ldH_iff hn).mp hH
    refine AG.q hL hG hP hr hR hKp (CX10_noughts xk) (Ct.mono (CX11_noughts mk.1 hq) (fun r w ⟨ς, a, b, c, d⟩ => ⟨ς, t, a, mKK_St mk c b, c.sm.sw, d⟩)) ?_
    rw [h12, if_pos hH, nsF_eq (fun x => (TT_eq E hwf (show q < 8 by omega)).symm)]
  · refine AG.q hL hG hP hr hR hKp (CX10_noughts xk) (MQq.of mk (CX11_noughts_no hn h0 hH)) ?_
    rw [h12, if_neg hH]
set_option maxHeartbeats 4000000 in
theorem AG_count (H : INV σ τ N) (k : Int32) : AG l σ τ t N mX10_count mX11_count [.int k] := by
  obtain ⟨n, g, p, rr, hL, hG, hP, hr, hR, hKp⟩ := H
  obtain ⟨xk, mk, hv, hlr⟩ := id hL
  have hn := xk.1
  have h12 := xk.2.1
  have h0 := mk.1.2.1
  have hwf := hv.wf hn
  have hwe := hv.we hn
  have E := hlr.eq hn
  refine AG.q hL hG hP hr hR hKp (CQ.of xk (CX10_count hn h12)) (MQq.of mk (CX11_count hn h0)) ?_
  exact cnt_eq hn h12 hwe hlr h0 (hG.2.2.1.trans hG.2.1.symm) (hP.2.2.1.trans hP.2.1.symm) (hR.2.trans hR.1.symm)
set_option maxHeartbeats 4000000 in
theorem AG_guess (H : INV σ τ N) (k : Int32) : AG l σ τ t N mX10_guess mX11_guess [.int k] := by
  obtain ⟨n, g, p, rr, hL, hG, hP, hr, hR, hKp⟩ := H
  obtain ⟨xk, mk, hv, hlr⟩ := id hL
  have hn := xk.1
  have h12 := xk.2.1
  have h0 := mk.1.2.1
  have hwf := hv.wf hn
  have hwe := hv.we hn
  have E := hlr.eq hn
  refine AG.q hL hG hP hr hR hKp (Ct.mono (CX10_guess hG.1 hG.2.1) (fun r w ⟨x, y, z, a, b⟩ => ⟨_, a, ?_, ?_, b⟩)) (Ct.mono (CX11_guess hG.1 hG.2.2.1) (fun r w ⟨u, v, a, b⟩ => ⟨_, t, a, mG2_KK mk, mG2_sm.sw, b⟩)) ?_
  · exact xK_k2 (fun c hc => putC_ne (by omega)) xk
  · exact ⟨fun c hc => putC_ne (by omega), fun c hc => putC_ne (by omega)⟩
  · by_cases hk : 0 ≤ k ∧ k ≤ 2
    · rw [if_pos hk, if_pos hk]; exact guess_eq hG.1 hG.2.2.2
    · rw [if_neg hk, if_neg hk]
set_option maxHeartbeats 4000000 in
theorem AG_fault (H : INV σ τ N) : AG l σ τ t N mX10_fault mX11_fault [] := by
  obtain ⟨n, g, p, rr, hL, hG, hP, hr, hR, hKp⟩ := H
  obtain ⟨xk, mk, hv, hlr⟩ := id hL
  have hn := xk.1
  have h12 := xk.2.1
  have h0 := mk.1.2.1
  have hwf := hv.wf hn
  have hwe := hv.we hn
  have E := hlr.eq hn
  have hD := rd_eq hP.2.2.2
  refine AG.q hL hG hP hr hR hKp (Ct.mono (CX10_fault hP.1 hP.2.1) (fun r w z => ⟨_, z.2, ?_, ?_, z.1⟩)) (Ct.mono (CX11_fault hP.1 hP.2.2.1) (fun r w z => ⟨_, t, z.2, ?_, ?_, z.1⟩)) ?_
  · exact xK_k2 (fun c hc => by rw [rdGo_ne (by omega), put_ne (by omega), put_ne (by omega)]) xk
  · exact ⟨fun c hc => by rw [rdGo_ne (by omega), put_ne (by omega), put_ne (by omega)], fun c hc => by rw [rdGo_ne (by omega), put_ne (by omega), put_ne (by omega)]⟩
  · exact mKK_rd mk
  · exact mSm_rd.sw
  · rw [hD.1]
set_option maxHeartbeats 4000000 in
theorem AG_drawn (H : INV σ τ N) (a s k : Int32) : AG l σ τ t N mX10_drawn mX11_drawn [.int a, .int s, .int k] := by
  obtain ⟨n, g, p, rr, hL, hG, hP, hr, hR, hKp⟩ := H
  obtain ⟨xk, mk, hv, hlr⟩ := id hL
  have hn := xk.1
  have h12 := xk.2.1
  have h0 := mk.1.2.1
  have hwf := hv.wf hn
  have hwe := hv.we hn
  have E := hlr.eq hn
  have hX : Ct l mX10_drawn [.ref 0, .int a, .int s, .int k] (xW σ) (CQ σ n _) := Ct.mono (CX10_drawn (tm := a) (seed := s) (k := k)) (fun r w ⟨F, e1, e2⟩ => ⟨_, e1, xK_k2 (fun c hc => putC_ne (by omega)) xk, ⟨fun c hc => putC_ne (by omega), fun c hc => putC_ne (by omega)⟩, e2⟩)
  by_cases hk : (1 ≤ a ∧ a ≤ 30) ∧ 0 ≤ s ∧ 0 ≤ k ∧ k ≤ 2
  · have ea := tNC (show 0 ≤ a from Int32.le_trans (by decide) hk.1.1)
    have es := tNC hk.2.1
    have hs : s.toNatClampNeg < 2 ^ 31 := by have := Int32.toInt_lt s; show s.toInt.toNat < _; omega
    have h30 := tNC_lt (n := 31) (show 0 ≤ a from Int32.le_trans (by decide) hk.1.1) (show a < 31 from Int32.lt_of_le_of_lt hk.1.2 (by decide)) (by decide)
    have h1 : 1 ≤ a.toNatClampNeg := by
      rcases Nat.eq_zero_or_pos a.toNatClampNeg with y | y
      · rw [y] at ea; rw [ea] at hk; exact absurd hk.1.1 (by decide)
      · exact y
    have hM := CX11_drawn (l := l) (σ := τ) (t := t) (x := k) hs h1 (by omega) hk.2.2
    rw [← ea, ← es] at hM
    refine AG.q hL hG hP hr hR hKp hX (Ct.mono hM (fun r w ⟨ς, t', e1, e2, e3⟩ => ⟨ς, t', e1, e2.KK mk, e2.sw, e3⟩)) ?_
    rw [if_pos hk]
  · refine AG.q hL hG hP hr hR hKp hX (MQq.of mk (CX11_drawn_out hk)) ?_
    rw [if_neg hk]
set_option maxHeartbeats 4000000 in
theorem AG_least (H : INV σ τ N) (r p k : Int32) : AG l σ τ t N mX10_least mX11_least [.int r, .int p, .int k] := by
  obtain ⟨n, g, pp, rr, hL, hG, hP, hr, hR, hKp⟩ := H
  obtain ⟨xk, mk, hv, hlr⟩ := id hL
  have hn := xk.1
  have h12 := xk.2.1
  have h0 := mk.1.2.1
  have hwf := hv.wf hn
  have hwe := hv.we hn
  have E := hlr.eq hn
  by_cases hH : ldH (nI n) r
  · obtain ⟨q, hq, rfl⟩ := (ldH_iff hn).mp hH
    by_cases hk : (p = 2 ∨ p = 3 ∨ p = 5 ∨ p = 7) ∧ 0 ≤ k ∧ k ≤ 8
    · obtain ⟨P, hPm, rfl, -, -⟩ := prm_ex hk.1
      have hB := prm_bd hPm
      have eR : RZ (τ 1) (τ 2) (nI n) (P - 2) q = RZ (σ 2) (σ 3) (nI n) (P - 2) q := RZ_eq E hwf (by omega)
      have hA := aN_ok (K := σ 2) (N := σ 3) (sz := nI n) (q := q) hPm
      refine ⟨fun u ς => xK ς n ∧ xSame σ ς ∧ ∃ L C, bmOk (RZ (σ 2) (σ 3) (nI n) (P - 2) q) P L C ∧ L ≤ 16 ∧ u = lsV P L C k, fun u ς => mKK ς n ∧ mSw τ ς ∧ ∃ s F, lsOk P (aN (RZ (σ 2) (σ 3) (nI n) (P - 2) q)) s F ∧ u = lsM s F k, Ct.mono (CX10_least xk) (fun r w ⟨ς, a, b, c, d⟩ => ?_), Ct.mono (CX11_least hPm mk hq hk.2) (fun r w ⟨ς, s, F, a, b, c, d, e⟩ => ⟨_, ς, t, e, a, b, c.sw, s, F, by rw [← eR]; exact d, rfl⟩), fun u ς u2 ς2 h1 h2 => ?_⟩
      · rw [h12, if_pos hH, if_pos hk, nI_clamp (show q < 2 ^ 31 by omega), nI_clamp (show P < 2 ^ 31 by omega)] at d
        obtain ⟨L, C, d1, d2, d3⟩ := d
        exact ⟨_, ς, d3, a, b, c, L, C, d1, d2, rfl⟩
      · obtain ⟨a1, a2, L, C, a3, a4, a5⟩ := h1
        obtain ⟨b1, b2, s, F, b3, b4⟩ := h2
        exact ⟨by rw [a5, b4]; exact ls_eq hPm hA.1 hA.2 a3 a4 b3 hk.2, INVq hL hG hP hr hR hKp a2 a1 b2 b1⟩
    · refine AG.q hL hG hP hr hR hKp (Ct.mono (CX10_least xk) (fun r w ⟨ς, a, b, c, d⟩ => ?_)) (MQq.of mk (CX11_least_out hn h0 hq hk)) rfl
      rw [h12, if_pos hH, if_neg hk] at d
      exact ⟨ς, a, b, c, d⟩
  · refine AG.q hL hG hP hr hR hKp (Ct.mono (CX10_least xk) (fun r w ⟨ς, a, b, c, d⟩ => ?_)) (MQq.of mk (CX11_least_no hn h0 hH)) rfl
    rw [h12, if_neg hH] at d
    exact ⟨ς, a, b, c, d⟩
end
