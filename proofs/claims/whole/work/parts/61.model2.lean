def pwM (c d : Int32) : Nat → Int32 × Int32
  | 0 => (2, c)
  | k + 1 => ((pwM c d k).2, c * (pwM c d k).2 + d * (pwM c d k).1)
def pw1 (v : Int32) : Nat → Int32
  | 0 => 1
  | k + 1 => pw1 v k * v
def wrF (v : Int32) : Nat → Nat → Nat
  | 0, x => x
  | d + 1, x => if nI x * nI x < v then wrF v d (x + 1) else x
def wrM (v : Int32) : Int32 := if nI (wrF v 12 0) * nI (wrF v 12 0) = v then nI (wrF v 12 0) else 2000000001
def dgF (c d : Int64) : Nat → Nat → Int64 → Int64 → Int32
  | 0, _, _, _ => 0
  | f + 1, n, one, nx => if 1 < n ∧ nx = 0 then nI n else dgF c d f (n + 1) nx (c * nx + d * one)
def dgM (c d : Int32) : Int32 := if d = 0 ∨ c * c + 4 * d = 0 then 0 else dgF c.toInt64 d.toInt64 12 1 0 1
def rtM (c d k : Int32) : Int32 :=
  if k = 0 then (if 0 < c * c + 4 * d then 2 else if c * c + 4 * d = 0 then 1 else 0)
  else if k = 1 then (if wrM (c * c + 4 * d) = 2000000001 then 2000000001 else (c + wrM (c * c + 4 * d)) / 2)
  else if k = 2 then (if wrM (c * c + 4 * d) = 2000000001 then 2000000001 else (c - wrM (c * c + 4 * d)) / 2)
  else if k = 3 then dgM c d
  else if c * c + 4 * d ≤ 0 ∨ c = 0 then 0 else if 0 < c then 1 else -1
theorem lcmp0 {a : Int64} : (if a < 0 then (-1 : Int32) else if a = 0 then 0 else 1) = 0 ↔ a = 0 := by
  by_cases h : a = 0
  · subst h; decide
  · by_cases h2 : a < 0 <;> simp [h, h2]
section
variable {l : Launch} {w : q_Wd}
set_option maxRecDepth 100000 in
set_option maxHeartbeats 4000000 in
theorem CX11_powL {c d : Int32} {N n0 : Nat} (hN : N ≤ 100) : ∀ (dd j : Nat) (x6 : Option Value), j + dd = N → Go l mX11_powers n0 (q_eq (some (.int (pwM c d N).1)) w) (0, 0) 8 [some (.int c), some (.int d), some (.int (nI N)), some (.int (pwM c d j).1), some (.int (pwM c d j).2), some (.int (nI j)), x6] [] w := by
  intro dd
  induction dd with
  | zero =>
    intro j x6 hj
    have e1 : N = j := by omega
    subst e1
    refine g_iload dX11_powers_8 rfl ?_
    refine g_iload_n dX11_powers_10 rfl rfl ?_
    refine g_icmp_ge (tgt := 37) dX11_powers_11 rfl (fun c_11 => ?_) (fun c_11 => by exact absurd (nI_le (by omega) (by omega)) c_11)
    refine g_iload_n dX11_powers_37 rfl rfl ?_
    exact g_iret dX11_powers_38 rfl rfl ⟨rfl, rfl⟩
  | succ dd ih =>
    intro j x6 hj
    refine g_iload dX11_powers_8 rfl ?_
    refine g_iload_n dX11_powers_10 rfl rfl ?_
    refine g_icmp_ge (tgt := 37) dX11_powers_11 rfl (fun c_11 => by exact absurd c_11 (nI_ge (by omega) (by omega))) (fun c_11 => ?_)
    refine g_iload_n dX11_powers_14 rfl rfl ?_
    refine g_iload dX11_powers_15 rfl ?_
    refine g_imul dX11_powers_17 ?_
    refine g_iload_n dX11_powers_18 rfl rfl ?_
    refine g_iload_n dX11_powers_19 rfl rfl ?_
    refine g_imul dX11_powers_20 ?_
    refine g_iadd dX11_powers_21 ?_
    refine g_istore dX11_powers_22 (Nat.le_of_ble_eq_true rfl) rfl ?_
    refine g_iload dX11_powers_24 rfl ?_
    refine g_istore_n dX11_powers_26 rfl (Nat.le_of_ble_eq_true rfl) rfl ?_
    refine g_iload dX11_powers_27 rfl ?_
    refine g_istore dX11_powers_29 (Nat.le_of_ble_eq_true rfl) rfl ?_
    refine g_iinc (v := 1) dX11_powers_31 (by decide) rfl (Nat.le_of_ble_eq_true rfl) rfl ?_
    refine g_goto (tgt := 8) dX11_powers_34 rfl ?_
    exact Go.eq rfl (show _ = _ by rw [← nI_1 j]; rfl) rfl rfl (ih (j + 1) _ (by omega))
set_option maxRecDepth 100000 in
set_option maxHeartbeats 4000000 in
theorem CX11_powers {c d : Int32} {N : Nat} (hN : N ≤ 100) : Ct l mX11_powers [.int c, .int d, .int (nI N)] w (q_eq (some (.int (pwM c d N).1)) w) := by
  refine Ct.of rfl (Nat.le_of_ble_eq_true rfl) ?_
  refine g_iconst (v := 2) dX11_powers_0 (by decide) ?_
  refine g_istore_n dX11_powers_1 rfl (Nat.le_of_ble_eq_true rfl) rfl ?_
  refine g_iload_n dX11_powers_2 rfl rfl ?_
  refine g_istore dX11_powers_3 (Nat.le_of_ble_eq_true rfl) rfl ?_
  refine g_iconst (v := 0) dX11_powers_5 (by decide) ?_
  refine g_istore dX11_powers_6 (Nat.le_of_ble_eq_true rfl) rfl ?_
  exact Go.eq rfl rfl rfl rfl (CX11_powL hN N 0 none (by omega))
set_option maxRecDepth 100000 in
set_option maxHeartbeats 4000000 in
theorem CX11_pw1L {v : Int32} {N n0 : Nat} (hN : N ≤ 100) : ∀ (d j : Nat), j + d = N → Go l mX11_power n0 (q_eq (some (.int (pw1 v N))) w) (0, 0) 4 [some (.int v), some (.int (nI N)), some (.int (pw1 v j)), some (.int (nI j))] [] w := by
  intro d
  induction d with
  | zero =>
    intro j hj
    have e1 : N = j := by omega
    subst e1
    refine g_iload_n dX11_power_4 rfl rfl ?_
    refine g_iload_n dX11_power_5 rfl rfl ?_
    refine g_icmp_ge (tgt := 19) dX11_power_6 rfl (fun c_6 => ?_) (fun c_6 => by exact absurd (nI_le (by omega) (by omega)) c_6)
    refine g_iload_n dX11_power_19 rfl rfl ?_
    exact g_iret dX11_power_20 rfl rfl ⟨rfl, rfl⟩
  | succ d ih =>
    intro j hj
    refine g_iload_n dX11_power_4 rfl rfl ?_
    refine g_iload_n dX11_power_5 rfl rfl ?_
    refine g_icmp_ge (tgt := 19) dX11_power_6 rfl (fun c_6 => by exact absurd c_6 (nI_ge (by omega) (by omega))) (fun c_6 => ?_)
    refine g_iload_n dX11_power_9 rfl rfl ?_
    refine g_iload_n dX11_power_10 rfl rfl ?_
    refine g_imul dX11_power_11 ?_
    refine g_istore_n dX11_power_12 rfl (Nat.le_of_ble_eq_true rfl) rfl ?_
    refine g_iinc (v := 1) dX11_power_13 (by decide) rfl (Nat.le_of_ble_eq_true rfl) rfl ?_
    refine g_goto (tgt := 4) dX11_power_16 rfl ?_
    exact Go.eq rfl (show _ = _ by rw [← nI_1 j]; rfl) rfl rfl (ih (j + 1) (by omega))
set_option maxRecDepth 100000 in
set_option maxHeartbeats 4000000 in
theorem CX11_power {v : Int32} {N : Nat} (hN : N ≤ 100) : Ct l mX11_power [.int v, .int (nI N)] w (q_eq (some (.int (pw1 v N))) w) := by
  refine Ct.of rfl (Nat.le_of_ble_eq_true rfl) ?_
  refine g_iconst (v := 1) dX11_power_0 (by decide) ?_
  refine g_istore_n dX11_power_1 rfl (Nat.le_of_ble_eq_true rfl) rfl ?_
  refine g_iconst (v := 0) dX11_power_2 (by decide) ?_
  refine g_istore_n dX11_power_3 rfl (Nat.le_of_ble_eq_true rfl) rfl ?_
  exact Go.eq rfl rfl rfl rfl (CX11_pw1L hN N 0 (by omega))
set_option maxRecDepth 100000 in
set_option maxHeartbeats 4000000 in
theorem CX11_wrL {v : Int32} {n0 : Nat} (hv : v ≤ 144) : ∀ (d x : Nat), x + d = 12 → Go l mX11_wholeRoot n0 (q_eq (some (.int (if nI (wrF v d x) * nI (wrF v d x) = v then nI (wrF v d x) else 2000000001))) w) (0, 0) 2 [some (.int v), some (.int (nI x))] [] w := by
  intro d
  induction d with
  | zero =>
    intro x hx
    have e1 : 12 = x := by omega
    subst e1
    refine g_iload_n dX11_wholeRoot_2 rfl rfl ?_
    refine g_iload_n dX11_wholeRoot_3 rfl rfl ?_
    refine g_imul dX11_wholeRoot_4 ?_
    refine g_iload_n dX11_wholeRoot_5 rfl rfl ?_
    refine g_icmp_ge (tgt := 15) dX11_wholeRoot_6 rfl (fun c_6 => ?_) (fun c_6 => by exact absurd hv c_6)
    refine g_iload_n dX11_wholeRoot_15 rfl rfl ?_
    refine g_iload_n dX11_wholeRoot_16 rfl rfl ?_
    refine g_imul dX11_wholeRoot_17 ?_
    refine g_iload_n dX11_wholeRoot_18 rfl rfl ?_
    refine g_icmp_ne (tgt := 26) dX11_wholeRoot_19 rfl (fun c_19 => ?_) (fun c_19 => ?_)
    · refine g_ldc dX11_wholeRoot_26 tb_854 ?_
      exact g_iret dX11_wholeRoot_28 rfl rfl ⟨by grind [wrF], rfl⟩
    · refine g_iload_n dX11_wholeRoot_22 rfl rfl ?_
      refine g_goto (tgt := 28) dX11_wholeRoot_23 rfl ?_
      exact g_iret dX11_wholeRoot_28 rfl rfl ⟨by grind [wrF], rfl⟩
  | succ d ih =>
    intro x hx
    refine g_iload_n dX11_wholeRoot_2 rfl rfl ?_
    refine g_iload_n dX11_wholeRoot_3 rfl rfl ?_
    refine g_imul dX11_wholeRoot_4 ?_
    refine g_iload_n dX11_wholeRoot_5 rfl rfl ?_
    refine g_icmp_ge (tgt := 15) dX11_wholeRoot_6 rfl (fun c_6 => ?_) (fun c_6 => ?_)
    · refine g_iload_n dX11_wholeRoot_15 rfl rfl ?_
      refine g_iload_n dX11_wholeRoot_16 rfl rfl ?_
      refine g_imul dX11_wholeRoot_17 ?_
      refine g_iload_n dX11_wholeRoot_18 rfl rfl ?_
      refine g_icmp_ne (tgt := 26) dX11_wholeRoot_19 rfl (fun c_19 => ?_) (fun c_19 => ?_)
      · refine g_ldc dX11_wholeRoot_26 tb_854 ?_
        exact g_iret dX11_wholeRoot_28 rfl rfl ⟨by rw [wrF, if_neg (Int32.not_lt.mpr c_6)]; first | rw [if_pos c_19] | rw [if_neg c_19], rfl⟩
      · refine g_iload_n dX11_wholeRoot_22 rfl rfl ?_
        refine g_goto (tgt := 28) dX11_wholeRoot_23 rfl ?_
        exact g_iret dX11_wholeRoot_28 rfl rfl ⟨by rw [wrF, if_neg (Int32.not_lt.mpr c_6)]; first | rw [if_pos c_19] | rw [if_neg c_19], rfl⟩
    · refine g_iinc (v := 1) dX11_wholeRoot_9 (by decide) rfl (Nat.le_of_ble_eq_true rfl) rfl ?_
      refine g_goto (tgt := 2) dX11_wholeRoot_12 rfl ?_
      refine Go.mono (Q' := q_eq (some (.int (if nI (wrF v d (x + 1)) * nI (wrF v d (x + 1)) = v then nI (wrF v d (x + 1)) else 2000000001))) w) (fun r w2 h => by rw [wrF, if_pos (Int32.not_le.mp c_6)]; exact h) ?_
      exact Go.eq rfl (show _ = _ by rw [← nI_1 x]; rfl) rfl rfl (ih (x + 1) (by omega))
set_option maxRecDepth 100000 in
set_option maxHeartbeats 4000000 in
theorem CX11_wholeRoot {v : Int32} (hv : v ≤ 144) : Ct l mX11_wholeRoot [.int v] w (q_eq (some (.int (wrM v))) w) := by
  refine Ct.of rfl (Nat.le_of_ble_eq_true rfl) ?_
  refine g_iconst (v := 0) dX11_wholeRoot_0 (by decide) ?_
  refine g_istore_n dX11_wholeRoot_1 rfl (Nat.le_of_ble_eq_true rfl) rfl ?_
  exact Go.eq rfl rfl rfl rfl (CX11_wrL hv 12 0 rfl)
end
section
variable {l : Launch} {σ : Nat → Nat → Int32} {t : Nat → Int64} {n : Nat}
theorem ltr {c : Int32} (h : 32 ≤ c ∧ c ≤ 126) : vp_nar .byte c.toInt8.toInt32 = c := by
  have e : ∀ i, i < 127 → vp_nar .byte (nI i).toInt8.toInt32 = nI i := by decide +kernel
  have h0 : 0 ≤ c := by grind
  rw [tNC h0]
  exact e _ (tNC_lt (n := 127) h0 (by show c < 127; grind) (by decide))
set_option maxRecDepth 100000 in
set_option maxHeartbeats 4000000 in
theorem CX11_letter {p : Nat} {c : Int32} (hp : p ≤ 47) (hp0 : σ 0 6 = nI p) : Ct l mX11_letter [.ref 0, .int c] (mW σ t) (q_eq (some (.int (if 32 ≤ c ∧ c ≤ 126 then pgR p 47 else 2000000102))) (mW (if 32 ≤ c ∧ c ≤ 126 then (if p < 47 then put (put σ 4 p c) 0 6 (nI (p + 1)) else σ) else σ) t)) := by
  refine Ct.of rfl (Nat.le_of_ble_eq_true rfl) ?_
  rcases Nat.lt_or_ge p 47 with q | q
  · refine g_iload_n dX11_letter_0 rfl rfl ?_
    refine g_bipush (v := 32) dX11_letter_1 (by decide) ?_
    refine g_bipush (v := 126) dX11_letter_3 (by decide) ?_
    refine g_S3r CX11_within kX11_letter_68 dX11_letter_5 ⟨rfl, rfl⟩ (Nat.le_of_ble_eq_true rfl) ⟨(Nat.le_of_ble_eq_true rfl), (Nat.le_of_ble_eq_true rfl)⟩ ?_
    refine g_if_ne (tgt := 14) dX11_letter_8 rfl (fun c_8 => ?_) (fun c_8 => ?_)
    · refine g_aload_n dX11_letter_14 rfl rfl ?_
      refine g_getf dX11_letter_15 fX11_73 mW_0 rfl ?_
      refine g_bipush (v := 47) dX11_letter_18 (by decide) ?_
      refine g_icmp_ne (tgt := 26) dX11_letter_20 rfl (fun c_20 => ?_) (fun c_20 => by exact absurd (nI_lt (b := 47) q (by decide)) (by rw [← hp0, c_20]; decide))
      refine g_aload_n dX11_letter_26 rfl rfl ?_
      refine g_getf dX11_letter_27 fX11_19 mW_0 rfl ?_
      refine g_aload_n dX11_letter_30 rfl rfl ?_
      refine g_getf dX11_letter_31 fX11_73 mW_0 rfl ?_
      refine g_iload_n dX11_letter_34 rfl rfl ?_
      refine g_i2b dX11_letter_35 ?_
      refine g_bast dX11_letter_36 mA4 (by rw [hp0]; exact vin_n (by omega) (by decide)) (mW_arrB (k' := p) (fun _ => rfl) (by rw [hp0]; exact (nI_clamp (by omega))) (ltr (Classical.byContradiction (fun z => c_8 (bI_f z))))) ?_
      refine g_aload_n dX11_letter_37 rfl rfl ?_
      refine g_dup dX11_letter_38 rfl ?_
      refine g_getf dX11_letter_39 fX11_73 mW_0 rfl ?_
      refine g_iconst (v := 1) dX11_letter_42 (by decide) ?_
      refine g_iadd dX11_letter_43 ?_
      refine g_putf dX11_letter_44 pX11_73 mW_0 (Nat.le_of_ble_eq_true rfl) (fun _ => rfl) (fun _ => rfl) (mW_obj rfl) ?_
      refine g_aload_n dX11_letter_47 rfl rfl ?_
      refine g_getf dX11_letter_48 fX11_73 mW_0 rfl ?_
      exact g_iret dX11_letter_51 rfl rfl ⟨by rw [if_pos (Classical.byContradiction (fun z => c_8 (bI_f z))), pgR, if_pos q, ← nI_1 p, ← hp0]; rfl, by rw [if_pos (Classical.byContradiction (fun z => c_8 (bI_f z))), if_pos q, ← nI_1 p, ← hp0]; rfl⟩
    · refine g_ldc dX11_letter_11 tb_964 ?_
      exact g_iret dX11_letter_13 rfl rfl ⟨by rw [if_neg (bI_0.mp c_8)], by rw [if_neg (bI_0.mp c_8)]⟩
  · refine g_iload_n dX11_letter_0 rfl rfl ?_
    refine g_bipush (v := 32) dX11_letter_1 (by decide) ?_
    refine g_bipush (v := 126) dX11_letter_3 (by decide) ?_
    refine g_S3r CX11_within kX11_letter_68 dX11_letter_5 ⟨rfl, rfl⟩ (Nat.le_of_ble_eq_true rfl) ⟨(Nat.le_of_ble_eq_true rfl), (Nat.le_of_ble_eq_true rfl)⟩ ?_
    refine g_if_ne (tgt := 14) dX11_letter_8 rfl (fun c_8 => ?_) (fun c_8 => ?_)
    · refine g_aload_n dX11_letter_14 rfl rfl ?_
      refine g_getf dX11_letter_15 fX11_73 mW_0 rfl ?_
      refine g_bipush (v := 47) dX11_letter_18 (by decide) ?_
      refine g_icmp_ne (tgt := 26) dX11_letter_20 rfl (fun c_20 => by exact absurd (by rw [hp0, show p = 47 by omega]; rfl) c_20) (fun c_20 => ?_)
      refine g_ldc dX11_letter_23 tb_965 ?_
      exact g_iret dX11_letter_25 rfl rfl ⟨by rw [if_pos (Classical.byContradiction (fun z => c_8 (bI_f z))), pgR, if_neg (by omega)], by rw [if_pos (Classical.byContradiction (fun z => c_8 (bI_f z))), if_neg (by omega)]⟩
    · refine g_ldc dX11_letter_11 tb_964 ?_
      exact g_iret dX11_letter_13 rfl rfl ⟨by rw [if_neg (bI_0.mp c_8)], by rw [if_neg (bI_0.mp c_8)]⟩
set_option maxRecDepth 100000 in
set_option maxHeartbeats 4000000 in
theorem CX11_give {p : Nat} {c : Int32} (hp : p ≤ 8) (hp0 : σ 0 4 = nI p) : Ct l mX11_give [.ref 0, .int c] (mW σ t) (q_eq (some (.int (if -99 ≤ c ∧ c ≤ 99 then pgR p 8 else 2000000102))) (mW (if -99 ≤ c ∧ c ≤ 99 then (if p < 8 then put (put σ 3 p c) 0 4 (nI (p + 1)) else σ) else σ) t)) := by
  refine Ct.of rfl (Nat.le_of_ble_eq_true rfl) ?_
  rcases Nat.lt_or_ge p 8 with q | q
  · refine g_iload_n dX11_give_0 rfl rfl ?_
    refine g_bipush (v := -99) dX11_give_1 (by decide) ?_
    refine g_bipush (v := 99) dX11_give_3 (by decide) ?_
    refine g_S3r CX11_within kX11_give_68 dX11_give_5 ⟨rfl, rfl⟩ (Nat.le_of_ble_eq_true rfl) ⟨(Nat.le_of_ble_eq_true rfl), (Nat.le_of_ble_eq_true rfl)⟩ ?_
    refine g_if_ne (tgt := 14) dX11_give_8 rfl (fun c_8 => ?_) (fun c_8 => ?_)
    · refine g_aload_n dX11_give_14 rfl rfl ?_
      refine g_getf dX11_give_15 fX11_319 mW_0 rfl ?_
      refine g_bipush (v := 8) dX11_give_18 (by decide) ?_
      refine g_icmp_ne (tgt := 26) dX11_give_20 rfl (fun c_20 => ?_) (fun c_20 => by exact absurd (nI_lt (b := 8) q (by decide)) (by rw [← hp0, c_20]; decide))
      refine g_aload_n dX11_give_26 rfl rfl ?_
      refine g_getf dX11_give_27 fX11_16 mW_0 rfl ?_
      refine g_aload_n dX11_give_30 rfl rfl ?_
      refine g_getf dX11_give_31 fX11_319 mW_0 rfl ?_
      refine g_iload_n dX11_give_34 rfl rfl ?_
      refine g_iast dX11_give_35 mA3 (by rw [hp0]; exact vin_n (by omega) (by decide)) (mW_arrN (k' := p) (fun _ => rfl) (by rw [hp0]; exact (nI_clamp (by omega)))) ?_
      refine g_aload_n dX11_give_36 rfl rfl ?_
      refine g_dup dX11_give_37 rfl ?_
      refine g_getf dX11_give_38 fX11_319 mW_0 rfl ?_
      refine g_iconst (v := 1) dX11_give_41 (by decide) ?_
      refine g_iadd dX11_give_42 ?_
      refine g_putf dX11_give_43 pX11_319 mW_0 (Nat.le_of_ble_eq_true rfl) (fun _ => rfl) (fun _ => rfl) (mW_obj rfl) ?_
      refine g_aload_n dX11_give_46 rfl rfl ?_
      refine g_getf dX11_give_47 fX11_319 mW_0 rfl ?_
      exact g_iret dX11_give_50 rfl rfl ⟨by rw [if_pos (Classical.byContradiction (fun z => c_8 (bI_f z))), pgR, if_pos q, ← nI_1 p, ← hp0]; rfl, by rw [if_pos (Classical.byContradiction (fun z => c_8 (bI_f z))), if_pos q, ← nI_1 p, ← hp0]; rfl⟩
    · refine g_ldc dX11_give_11 tb_964 ?_
      exact g_iret dX11_give_13 rfl rfl ⟨by rw [if_neg (bI_0.mp c_8)], by rw [if_neg (bI_0.mp c_8)]⟩
  · refine g_iload_n dX11_give_0 rfl rfl ?_
    refine g_bipush (v := -99) dX11_give_1 (by decide) ?_
    refine g_bipush (v := 99) dX11_give_3 (by decide) ?_
    refine g_S3r CX11_within kX11_give_68 dX11_give_5 ⟨rfl, rfl⟩ (Nat.le_of_ble_eq_true rfl) ⟨(Nat.le_of_ble_eq_true rfl), (Nat.le_of_ble_eq_true rfl)⟩ ?_
    refine g_if_ne (tgt := 14) dX11_give_8 rfl (fun c_8 => ?_) (fun c_8 => ?_)
    · refine g_aload_n dX11_give_14 rfl rfl ?_
      refine g_getf dX11_give_15 fX11_319 mW_0 rfl ?_
      refine g_bipush (v := 8) dX11_give_18 (by decide) ?_
      refine g_icmp_ne (tgt := 26) dX11_give_20 rfl (fun c_20 => by exact absurd (by rw [hp0, show p = 8 by omega]; rfl) c_20) (fun c_20 => ?_)
      refine g_ldc dX11_give_23 tb_965 ?_
      exact g_iret dX11_give_25 rfl rfl ⟨by rw [if_pos (Classical.byContradiction (fun z => c_8 (bI_f z))), pgR, if_neg (by omega)], by rw [if_pos (Classical.byContradiction (fun z => c_8 (bI_f z))), if_neg (by omega)]⟩
    · refine g_ldc dX11_give_11 tb_964 ?_
      exact g_iret dX11_give_13 rfl rfl ⟨by rw [if_neg (bI_0.mp c_8)], by rw [if_neg (bI_0.mp c_8)]⟩
set_option maxRecDepth 100000 in
set_option maxHeartbeats 4000000 in
theorem CX11_blank : Ct l mX11_blank [.ref 0] (mW σ t) (q_eq (some (.int (σ 0 6))) (mW (put σ 0 6 0) t)) := by
  refine Ct.of rfl (Nat.le_of_ble_eq_true rfl) ?_
  refine g_aload_n dX11_blank_0 rfl rfl ?_
  refine g_getf dX11_blank_1 fX11_73 mW_0 rfl ?_
  refine g_istore_n dX11_blank_4 rfl (Nat.le_of_ble_eq_true rfl) rfl ?_
  refine g_aload_n dX11_blank_5 rfl rfl ?_
  refine g_iconst (v := 0) dX11_blank_6 (by decide) ?_
  refine g_putf dX11_blank_7 pX11_73 mW_0 (Nat.le_of_ble_eq_true rfl) (fun _ => rfl) (fun _ => rfl) (mW_obj rfl) ?_
  refine g_iload_n dX11_blank_10 rfl rfl ?_
  exact g_iret dX11_blank_11 rfl rfl ⟨rfl, rfl⟩
set_option maxRecDepth 100000 in
set_option maxHeartbeats 4000000 in
theorem CX11_forget : Ct l mX11_forget [.ref 0] (mW σ t) (q_eq (some (.int (σ 0 4))) (mW (put σ 0 4 0) t)) := by
  refine Ct.of rfl (Nat.le_of_ble_eq_true rfl) ?_
  refine g_aload_n dX11_forget_0 rfl rfl ?_
  refine g_getf dX11_forget_1 fX11_319 mW_0 rfl ?_
  refine g_istore_n dX11_forget_4 rfl (Nat.le_of_ble_eq_true rfl) rfl ?_
  refine g_aload_n dX11_forget_5 rfl rfl ?_
  refine g_iconst (v := 0) dX11_forget_6 (by decide) ?_
  refine g_putf dX11_forget_7 pX11_319 mW_0 (Nat.le_of_ble_eq_true rfl) (fun _ => rfl) (fun _ => rfl) (mW_obj rfl) ?_
  refine g_iload_n dX11_forget_10 rfl rfl ?_
  exact g_iret dX11_forget_11 rfl rfl ⟨rfl, rfl⟩
set_option maxRecDepth 100000 in
set_option maxHeartbeats 4000000 in
theorem CX11_drop (hn : n ≤ 8) (h0 : σ 0 0 = nI n) : Ct l mX11_drop [.ref 0] (mW σ t) (q_eq (some (.int (if 0 < n then nI (n - 1) else 2000000103))) (mW (if 0 < n then put σ 0 0 (nI (n - 1)) else σ) t)) := by
  refine Ct.of rfl (Nat.le_of_ble_eq_true rfl) ?_
  rcases (show 0 < n ∨ n = 0 by omega) with q | q
  · refine g_aload_n dX11_drop_0 rfl rfl ?_
    refine g_getf dX11_drop_1 fX11_116 mW_0 rfl ?_
    refine g_if_ne (tgt := 10) dX11_drop_4 rfl (fun c_4 => ?_) (fun c_4 => by exact absurd (nI_lt (a := 0) q (by omega)) (by rw [← h0, c_4]; decide))
    refine g_aload_n dX11_drop_10 rfl rfl ?_
    refine g_dup dX11_drop_11 rfl ?_
    refine g_getf dX11_drop_12 fX11_116 mW_0 rfl ?_
    refine g_iconst (v := 1) dX11_drop_15 (by decide) ?_
    refine g_isub dX11_drop_16 ?_
    refine g_putf dX11_drop_17 pX11_116 mW_0 (Nat.le_of_ble_eq_true rfl) (fun _ => rfl) (fun _ => rfl) (mW_obj rfl) ?_
    refine g_aload_n dX11_drop_20 rfl rfl ?_
    refine g_getf dX11_drop_21 fX11_116 mW_0 rfl ?_
    exact g_iret dX11_drop_24 rfl rfl ⟨by rw [if_pos q, ← nI_sub (b := 1) (by omega), ← h0]; rfl, by rw [if_pos q, ← nI_sub (b := 1) (by omega), ← h0]; rfl⟩
  · refine g_aload_n dX11_drop_0 rfl rfl ?_
    refine g_getf dX11_drop_1 fX11_116 mW_0 rfl ?_
    refine g_if_ne (tgt := 10) dX11_drop_4 rfl (fun c_4 => by exact absurd (by rw [h0, show n = 0 by omega]; rfl) c_4) (fun c_4 => ?_)
    refine g_ldc dX11_drop_7 tb_1007 ?_
    exact g_iret dX11_drop_9 rfl rfl ⟨by rw [if_neg (by omega)], by rw [if_neg (by omega)]⟩
theorem putIx {q : Nat} {k : Int32} (hq : q ≤ 8) (hk : 0 ≤ k ∧ k ≤ 3) : vp_in (4 * nI q + k) 36 ∧ (4 * nI q + k).toNatClampNeg = 4 * q + k.toNatClampNeg := by
  have e : k = 0 ∨ k = 1 ∨ k = 2 ∨ k = 3 := by grind
  rcases e with e | e | e | e <;> subst e
  · rw [show 4 * nI q + 0 = nI (4 * q) by rw [← jx4]; grind, nI_clamp (by omega)]; exact ⟨vin_n (by omega) (by decide), rfl⟩
  · rw [jx41, nI_clamp (by omega)]; exact ⟨vin_n (by omega) (by decide), rfl⟩
  · rw [jx42, nI_clamp (by omega)]; exact ⟨vin_n (by omega) (by decide), rfl⟩
  · rw [jx43, nI_clamp (by omega)]; exact ⟨vin_n (by omega) (by decide), rfl⟩
set_option maxRecDepth 100000 in
set_option maxHeartbeats 4000000 in
theorem CX11_put_no {r : Int32} {k v : Int32} (hn : n ≤ 8) (h0 : σ 0 0 = nI n) (hr : ¬ ldH (nI n) r) : Ct l mX11_put [.ref 0, .int r, .int k, .int v] (mW σ t) (q_eq (some (.int 2000000101)) (mW σ t)) := by
  refine Ct.of rfl (Nat.le_of_ble_eq_true rfl) ?_
  refine g_aload_n dX11_put_0 rfl rfl ?_
  refine g_iload_n dX11_put_1 rfl rfl ?_
  refine g_V1r (CX11_isRow h0) kX11_put_193 dX11_put_2 mW_0 rfl ⟨rfl, rfl⟩ (Nat.le_of_ble_eq_true rfl) ⟨(Nat.le_of_ble_eq_true rfl), (Nat.le_of_ble_eq_true rfl)⟩ ?_
  rw [mIsF hn hr]
  refine g_if_ne (tgt := 11) dX11_put_5 rfl (fun c_5 => by exfalso; revert c_5; decide) (fun c_5 => ?_)
  refine g_ldc dX11_put_8 tb_1020 ?_
  exact g_iret dX11_put_10 rfl rfl ⟨rfl, rfl⟩
set_option maxRecDepth 100000 in
set_option maxHeartbeats 4000000 in
theorem CX11_put {q : Nat} (hq : q < n) {k v : Int32} (hn : n ≤ 8) (h0 : σ 0 0 = nI n) : Ct l mX11_put [.ref 0, .int (nI q), .int k, .int v] (mW σ t) (q_eq (some (.int (if 0 ≤ k ∧ k ≤ 3 then (if σ 1 q = 0 then (if ptP k v then σ 2 (4 * q + k.toNatClampNeg) else 2000000102) else 2000000103) else 2000000102))) (mW (if (0 ≤ k ∧ k ≤ 3) ∧ σ 1 q = 0 ∧ ptP k v then mChg (put σ 2 (4 * q + k.toNatClampNeg) v) else σ) t)) := by
  refine Ct.of rfl (Nat.le_of_ble_eq_true rfl) ?_
  refine g_aload_n dX11_put_0 rfl rfl ?_
  refine g_iload_n dX11_put_1 rfl rfl ?_
  refine g_V1r (CX11_isRow h0) kX11_put_193 dX11_put_2 mW_0 rfl ⟨rfl, rfl⟩ (Nat.le_of_ble_eq_true rfl) ⟨(Nat.le_of_ble_eq_true rfl), (Nat.le_of_ble_eq_true rfl)⟩ ?_
  rw [mIsT hn hq]
  refine g_if_ne (tgt := 11) dX11_put_5 rfl (fun c_5 => ?_) (fun c_5 => by exfalso; revert c_5; decide)
  refine g_iload_n dX11_put_11 rfl rfl ?_
  refine g_iconst (v := 0) dX11_put_12 (by decide) ?_
  refine g_iconst (v := 3) dX11_put_13 (by decide) ?_
  refine g_S3r CX11_within kX11_put_68 dX11_put_14 ⟨rfl, rfl⟩ (Nat.le_of_ble_eq_true rfl) ⟨(Nat.le_of_ble_eq_true rfl), (Nat.le_of_ble_eq_true rfl)⟩ ?_
  refine g_if_ne (tgt := 23) dX11_put_17 rfl (fun c_17 => ?_) (fun c_17 => ?_)
  · refine g_aload_n dX11_put_23 rfl rfl ?_
    refine g_iload_n dX11_put_24 rfl rfl ?_
    refine g_V1r (CX11_isTold (q := q) (by omega)) kX11_put_245 dX11_put_25 mW_0 rfl ⟨rfl, rfl⟩ (Nat.le_of_ble_eq_true rfl) ⟨(Nat.le_of_ble_eq_true rfl), (Nat.le_of_ble_eq_true rfl)⟩ ?_
    refine g_if_ne (tgt := 34) dX11_put_28 rfl (fun c_28 => ?_) (fun c_28 => ?_)
    · refine g_iload_n dX11_put_34 rfl rfl ?_
      refine g_iconst (v := 2) dX11_put_35 (by decide) ?_
      refine g_icmp_ge (tgt := 49) dX11_put_36 rfl (fun c_36 => ?_) (fun c_36 => ?_)
      · refine g_iload_n dX11_put_49 rfl rfl ?_
        refine g_S1r CX11_isMany kX11_put_297 dX11_put_50 ⟨rfl, rfl⟩ (Nat.le_of_ble_eq_true rfl) ⟨(Nat.le_of_ble_eq_true rfl), (Nat.le_of_ble_eq_true rfl)⟩ ?_
        refine g_if_ne (tgt := 59) dX11_put_53 rfl (fun c_53 => ?_) (fun c_53 => ?_)
        · refine g_aload_n dX11_put_59 rfl rfl ?_
          refine g_getf dX11_put_60 fX11_13 mW_0 rfl ?_
          refine g_iconst (v := 4) dX11_put_63 (by decide) ?_
          refine g_iload_n dX11_put_64 rfl rfl ?_
          refine g_imul dX11_put_65 ?_
          refine g_iload_n dX11_put_66 rfl rfl ?_
          refine g_iadd dX11_put_67 ?_
          refine g_iald dX11_put_68 mA2 (putIx (by omega) (Classical.byContradiction (fun z => c_17 (bI_f z)))).1 ?_
          rw [(putIx (q := q) (by omega) (Classical.byContradiction (fun z => c_17 (bI_f z)))).2]
          refine g_istore dX11_put_69 (Nat.le_of_ble_eq_true rfl) rfl ?_
          refine g_aload_n dX11_put_71 rfl rfl ?_
          refine g_getf dX11_put_72 fX11_13 mW_0 rfl ?_
          refine g_iconst (v := 4) dX11_put_75 (by decide) ?_
          refine g_iload_n dX11_put_76 rfl rfl ?_
          refine g_imul dX11_put_77 ?_
          refine g_iload_n dX11_put_78 rfl rfl ?_
          refine g_iadd dX11_put_79 ?_
          refine g_iload_n dX11_put_80 rfl rfl ?_
          refine g_iast dX11_put_81 mA2 (putIx (by omega) (Classical.byContradiction (fun z => c_17 (bI_f z)))).1 (mW_arrN (k' := 4 * q + k.toNatClampNeg) (fun _ => rfl) (putIx (q := q) (by omega) (Classical.byContradiction (fun z => c_17 (bI_f z)))).2) ?_
          refine g_aload_n dX11_put_82 rfl rfl ?_
          refine g_V0v CX11_changes kX11_put_122 dX11_put_83 mW_0 rfl ⟨rfl, rfl⟩ (Nat.le_of_ble_eq_true rfl) ⟨(Nat.le_of_ble_eq_true rfl), (Nat.le_of_ble_eq_true rfl)⟩ ?_
          refine g_iload dX11_put_86 rfl ?_
          exact g_iret dX11_put_88 rfl rfl ⟨by grind [bI], by grind [bI]⟩
        · refine g_ldc dX11_put_56 tb_964 ?_
          exact g_iret dX11_put_58 rfl rfl ⟨by grind [bI], by grind [bI]⟩
      · refine g_iload_n dX11_put_39 rfl rfl ?_
        refine g_S1r CX11_isFew kX11_put_294 dX11_put_40 ⟨rfl, rfl⟩ (Nat.le_of_ble_eq_true rfl) ⟨(Nat.le_of_ble_eq_true rfl), (Nat.le_of_ble_eq_true rfl)⟩ ?_
        refine g_if_ne (tgt := 59) dX11_put_43 rfl (fun c_43 => ?_) (fun c_43 => ?_)
        · refine g_aload_n dX11_put_59 rfl rfl ?_
          refine g_getf dX11_put_60 fX11_13 mW_0 rfl ?_
          refine g_iconst (v := 4) dX11_put_63 (by decide) ?_
          refine g_iload_n dX11_put_64 rfl rfl ?_
          refine g_imul dX11_put_65 ?_
          refine g_iload_n dX11_put_66 rfl rfl ?_
          refine g_iadd dX11_put_67 ?_
          refine g_iald dX11_put_68 mA2 (putIx (by omega) (Classical.byContradiction (fun z => c_17 (bI_f z)))).1 ?_
          rw [(putIx (q := q) (by omega) (Classical.byContradiction (fun z => c_17 (bI_f z)))).2]
          refine g_istore dX11_put_69 (Nat.le_of_ble_eq_true rfl) rfl ?_
          refine g_aload_n dX11_put_71 rfl rfl ?_
          refine g_getf dX11_put_72 fX11_13 mW_0 rfl ?_
          refine g_iconst (v := 4) dX11_put_75 (by decide) ?_
          refine g_iload_n dX11_put_76 rfl rfl ?_
          refine g_imul dX11_put_77 ?_
          refine g_iload_n dX11_put_78 rfl rfl ?_
          refine g_iadd dX11_put_79 ?_
          refine g_iload_n dX11_put_80 rfl rfl ?_
          refine g_iast dX11_put_81 mA2 (putIx (by omega) (Classical.byContradiction (fun z => c_17 (bI_f z)))).1 (mW_arrN (k' := 4 * q + k.toNatClampNeg) (fun _ => rfl) (putIx (q := q) (by omega) (Classical.byContradiction (fun z => c_17 (bI_f z)))).2) ?_
          refine g_aload_n dX11_put_82 rfl rfl ?_
          refine g_V0v CX11_changes kX11_put_122 dX11_put_83 mW_0 rfl ⟨rfl, rfl⟩ (Nat.le_of_ble_eq_true rfl) ⟨(Nat.le_of_ble_eq_true rfl), (Nat.le_of_ble_eq_true rfl)⟩ ?_
          refine g_iload dX11_put_86 rfl ?_
          exact g_iret dX11_put_88 rfl rfl ⟨by grind [bI], by grind [bI]⟩
        · refine g_goto (tgt := 56) dX11_put_46 rfl ?_
          refine g_ldc dX11_put_56 tb_964 ?_
          exact g_iret dX11_put_58 rfl rfl ⟨by grind [bI], by grind [bI]⟩
    · refine g_ldc dX11_put_31 tb_1007 ?_
      exact g_iret dX11_put_33 rfl rfl ⟨by grind [bI], by grind [bI]⟩
  · refine g_ldc dX11_put_20 tb_964 ?_
    exact g_iret dX11_put_22 rfl rfl ⟨by grind [bI], by grind [bI]⟩
set_option maxRecDepth 100000 in
set_option maxHeartbeats 4000000 in
theorem CX11_copyL {i j a b N n0 : Nat} (hi : i < 18) (hj : j < 18) (hij : i ≠ j) (ha : ∀ f, mcell t i f = .inl (0, a, .inl f)) (hb : ∀ f, mcell t j f = .inl (0, b, .inl f)) (hNa : N ≤ a) (hNb : N ≤ b) (hN : N ≤ 100) (hal : a ≤ 100) (hbl : b ≤ 100) : ∀ (d x : Nat), x + d = N → Go l mX11_copy n0 (q_eq none (mW (putC σ j (ru (σ j) 0 N (σ i))) t)) (0, 0) 2 [some (.ref i), some (.ref j), some (.int (nI N)), some (.int (nI x))] [] (mW (putC σ j (ru (σ j) 0 x (σ i))) t) := by
  intro d
  induction d with
  | zero =>
    intro x hx
    have e1 : N = x := by omega
    subst e1
    refine g_iload_n dX11_copy_2 rfl rfl ?_
    refine g_iload_n dX11_copy_3 rfl rfl ?_
    refine g_icmp_ge (tgt := 19) dX11_copy_4 rfl (fun c_4 => ?_) (fun c_4 => by exact absurd (nI_le (by omega) (by omega)) c_4)
    exact g_vret dX11_copy_19 rfl rfl ⟨rfl, rfl⟩
  | succ d ih =>
    intro x hx
    refine g_iload_n dX11_copy_2 rfl rfl ?_
    refine g_iload_n dX11_copy_3 rfl rfl ?_
    refine g_icmp_ge (tgt := 19) dX11_copy_4 rfl (fun c_4 => by exact absurd c_4 (nI_ge (by omega) (by omega))) (fun c_4 => ?_)
    refine g_aload_n dX11_copy_7 rfl rfl ?_
    refine g_iload_n dX11_copy_8 rfl rfl ?_
    refine g_aload_n dX11_copy_9 rfl rfl ?_
    refine g_iload_n dX11_copy_10 rfl rfl ?_
    refine g_iald dX11_copy_11 (mW_at (F := fun f => .inl (0, a, .inl f)) hi ha) (vin_n (by omega) (by omega)) ?_
    rw [nI_clamp (by omega), putC_ne hij]
    refine g_iast dX11_copy_12 (mW_at (F := fun f => .inl (0, b, .inl f)) hj hb) (vin_n (by omega) (by omega)) (mW_arrN (k' := x) hb (nI_clamp (by omega))) ?_
    refine g_iinc (v := 1) dX11_copy_13 (by decide) rfl (Nat.le_of_ble_eq_true rfl) rfl ?_
    refine g_goto (tgt := 2) dX11_copy_16 rfl ?_
    exact Go.eq rfl (show _ = _ by rw [← nI_1 x]; rfl) rfl (show mW (put (putC σ j (ru (σ j) 0 x (σ i))) j x (σ i x)) t = mW (putC σ j (ru (σ j) 0 (x + 1) (σ i))) t by rw [put_putC]; have e := ru_1 (V := σ j) (F := σ i) (s := 0) (j := x) rfl; rw [Nat.zero_add] at e; rw [e]) (ih (x + 1) (by omega))
set_option maxRecDepth 100000 in
set_option maxHeartbeats 4000000 in
theorem CX11_copy {i j a b N : Nat} (hi : i < 18) (hj : j < 18) (hij : i ≠ j) (ha : ∀ f, mcell t i f = .inl (0, a, .inl f)) (hb : ∀ f, mcell t j f = .inl (0, b, .inl f)) (hNa : N ≤ a) (hNb : N ≤ b) (hN : N ≤ 100) (hal : a ≤ 100) (hbl : b ≤ 100) : Ct l mX11_copy [.ref i, .ref j, .int (nI N)] (mW σ t) (q_eq none (mW (putC σ j (ru (σ j) 0 N (σ i))) t)) := by
  refine Ct.of rfl (Nat.le_of_ble_eq_true rfl) ?_
  refine g_iconst (v := 0) dX11_copy_0 (by decide) ?_
  refine g_istore_n dX11_copy_1 rfl (Nat.le_of_ble_eq_true rfl) rfl ?_
  exact Go.eq rfl rfl rfl (by rw [ru_0, putC_id]) (CX11_copyL hi hj hij ha hb hNa hNb hN hal hbl N 0 (by omega))
def mImg (σ : Nat → Nat → Int32) : Nat → Nat → Int32 := putC (putC (putC (put (put (put σ 0 26 (σ 0 3)) 0 27 (σ 0 0)) 0 28 (σ 0 4)) 15 (ru (σ 15) 0 8 (σ 1))) 16 (ru (σ 16) 0 32 (σ 2))) 17 (ru (σ 17) 0 8 (σ 3))
def mRst (σ : Nat → Nat → Int32) : Nat → Nat → Int32 := mChg (putC (putC (putC (put (put σ 0 0 (σ 0 27)) 0 4 (σ 0 28)) 1 (ru (σ 1) 0 8 (σ 15))) 2 (ru (σ 2) 0 32 (σ 16))) 3 (ru (σ 3) 0 8 (σ 17)))
set_option maxRecDepth 100000 in
set_option maxHeartbeats 4000000 in
theorem CX11_image : Ct l mX11_image [.ref 0] (mW σ t) (q_eq (some (.int (if σ 0 0 = 0 then 2000000103 else σ 0 0))) (mW (if σ 0 0 = 0 then σ else mImg σ) t)) := by
  refine Ct.of rfl (Nat.le_of_ble_eq_true rfl) ?_
  refine g_aload_n dX11_image_0 rfl rfl ?_
  refine g_getf dX11_image_1 fX11_116 mW_0 rfl ?_
  refine g_if_ne (tgt := 10) dX11_image_4 rfl (fun c_4 => ?_) (fun c_4 => ?_)
  · refine g_aload_n dX11_image_10 rfl rfl ?_
    refine g_aload_n dX11_image_11 rfl rfl ?_
    refine g_getf dX11_image_12 fX11_119 mW_0 rfl ?_
    refine g_putf dX11_image_15 pX11_55 mW_0 (Nat.le_of_ble_eq_true rfl) (fun _ => rfl) (fun _ => rfl) (mW_obj rfl) ?_
    refine g_aload_n dX11_image_18 rfl rfl ?_
    refine g_aload_n dX11_image_19 rfl rfl ?_
    refine g_getf dX11_image_20 fX11_116 mW_0 rfl ?_
    refine g_putf dX11_image_23 pX11_355 mW_0 (Nat.le_of_ble_eq_true rfl) (fun _ => rfl) (fun _ => rfl) (mW_obj rfl) ?_
    refine g_aload_n dX11_image_26 rfl rfl ?_
    refine g_aload_n dX11_image_27 rfl rfl ?_
    refine g_getf dX11_image_28 fX11_319 mW_0 rfl ?_
    refine g_putf dX11_image_31 pX11_358 mW_0 (Nat.le_of_ble_eq_true rfl) (fun _ => rfl) (fun _ => rfl) (mW_obj rfl) ?_
    refine g_aload_n dX11_image_34 rfl rfl ?_
    refine g_getf dX11_image_35 fX11_7 mW_0 rfl ?_
    refine g_aload_n dX11_image_38 rfl rfl ?_
    refine g_getf dX11_image_39 fX11_59 mW_0 rfl ?_
    refine g_bipush (v := 8) dX11_image_42 (by decide) ?_
    refine g_S3v (CX11_copy (i := 1) (j := 15) (a := 9) (b := 9) (N := 8) (by decide) (by decide) (by decide) (fun _ => rfl) (fun _ => rfl) (by decide) (by decide) (by decide) (by decide) (by decide)) kX11_image_361 dX11_image_44 ⟨rfl, rfl⟩ (Nat.le_of_ble_eq_true rfl) ⟨(Nat.le_of_ble_eq_true rfl), (Nat.le_of_ble_eq_true rfl)⟩ ?_
    refine g_aload_n dX11_image_47 rfl rfl ?_
    refine g_getf dX11_image_48 fX11_13 mW_0 rfl ?_
    refine g_aload_n dX11_image_51 rfl rfl ?_
    refine g_getf dX11_image_52 fX11_62 mW_0 rfl ?_
    refine g_bipush (v := 32) dX11_image_55 (by decide) ?_
    refine g_S3v (CX11_copy (i := 2) (j := 16) (a := 36) (b := 36) (N := 32) (by decide) (by decide) (by decide) (fun _ => rfl) (fun _ => rfl) (by decide) (by decide) (by decide) (by decide) (by decide)) kX11_image_361 dX11_image_57 ⟨rfl, rfl⟩ (Nat.le_of_ble_eq_true rfl) ⟨(Nat.le_of_ble_eq_true rfl), (Nat.le_of_ble_eq_true rfl)⟩ ?_
    refine g_aload_n dX11_image_60 rfl rfl ?_
    refine g_getf dX11_image_61 fX11_16 mW_0 rfl ?_
    refine g_aload_n dX11_image_64 rfl rfl ?_
    refine g_getf dX11_image_65 fX11_65 mW_0 rfl ?_
    refine g_bipush (v := 8) dX11_image_68 (by decide) ?_
    refine g_S3v (CX11_copy (i := 3) (j := 17) (a := 8) (b := 8) (N := 8) (by decide) (by decide) (by decide) (fun _ => rfl) (fun _ => rfl) (by decide) (by decide) (by decide) (by decide) (by decide)) kX11_image_361 dX11_image_70 ⟨rfl, rfl⟩ (Nat.le_of_ble_eq_true rfl) ⟨(Nat.le_of_ble_eq_true rfl), (Nat.le_of_ble_eq_true rfl)⟩ ?_
    refine g_aload_n dX11_image_73 rfl rfl ?_
    refine g_getf dX11_image_74 fX11_116 mW_0 rfl ?_
    exact g_iret dX11_image_77 rfl rfl ⟨by rw [if_neg c_4]; rfl, by rw [if_neg c_4]; rfl⟩
  · refine g_ldc dX11_image_7 tb_1007 ?_
    exact g_iret dX11_image_9 rfl rfl ⟨by rw [if_pos c_4], by rw [if_pos c_4]⟩
set_option maxRecDepth 100000 in
set_option maxHeartbeats 4000000 in
theorem CX11_restore : Ct l mX11_restore [.ref 0] (mW σ t) (q_eq (some (.int (if σ 0 26 = σ 0 3 then σ 0 27 else 2000000103))) (mW (if σ 0 26 = σ 0 3 then mRst σ else σ) t)) := by
  refine Ct.of rfl (Nat.le_of_ble_eq_true rfl) ?_
  refine g_aload_n dX11_restore_0 rfl rfl ?_
  refine g_getf dX11_restore_1 fX11_55 mW_0 rfl ?_
  refine g_aload_n dX11_restore_4 rfl rfl ?_
  refine g_getf dX11_restore_5 fX11_119 mW_0 rfl ?_
  refine g_icmp_eq (tgt := 14) dX11_restore_8 rfl (fun c_8 => ?_) (fun c_8 => ?_)
  · refine g_aload_n dX11_restore_14 rfl rfl ?_
    refine g_aload_n dX11_restore_15 rfl rfl ?_
    refine g_getf dX11_restore_16 fX11_355 mW_0 rfl ?_
    refine g_putf dX11_restore_19 pX11_116 mW_0 (Nat.le_of_ble_eq_true rfl) (fun _ => rfl) (fun _ => rfl) (mW_obj rfl) ?_
    refine g_aload_n dX11_restore_22 rfl rfl ?_
    refine g_aload_n dX11_restore_23 rfl rfl ?_
    refine g_getf dX11_restore_24 fX11_358 mW_0 rfl ?_
    refine g_putf dX11_restore_27 pX11_319 mW_0 (Nat.le_of_ble_eq_true rfl) (fun _ => rfl) (fun _ => rfl) (mW_obj rfl) ?_
    refine g_aload_n dX11_restore_30 rfl rfl ?_
    refine g_getf dX11_restore_31 fX11_59 mW_0 rfl ?_
    refine g_aload_n dX11_restore_34 rfl rfl ?_
    refine g_getf dX11_restore_35 fX11_7 mW_0 rfl ?_
    refine g_bipush (v := 8) dX11_restore_38 (by decide) ?_
    refine g_S3v (CX11_copy (i := 15) (j := 1) (a := 9) (b := 9) (N := 8) (by decide) (by decide) (by decide) (fun _ => rfl) (fun _ => rfl) (by decide) (by decide) (by decide) (by decide) (by decide)) kX11_restore_361 dX11_restore_40 ⟨rfl, rfl⟩ (Nat.le_of_ble_eq_true rfl) ⟨(Nat.le_of_ble_eq_true rfl), (Nat.le_of_ble_eq_true rfl)⟩ ?_
    refine g_aload_n dX11_restore_43 rfl rfl ?_
    refine g_getf dX11_restore_44 fX11_62 mW_0 rfl ?_
    refine g_aload_n dX11_restore_47 rfl rfl ?_
    refine g_getf dX11_restore_48 fX11_13 mW_0 rfl ?_
    refine g_bipush (v := 32) dX11_restore_51 (by decide) ?_
    refine g_S3v (CX11_copy (i := 16) (j := 2) (a := 36) (b := 36) (N := 32) (by decide) (by decide) (by decide) (fun _ => rfl) (fun _ => rfl) (by decide) (by decide) (by decide) (by decide) (by decide)) kX11_restore_361 dX11_restore_53 ⟨rfl, rfl⟩ (Nat.le_of_ble_eq_true rfl) ⟨(Nat.le_of_ble_eq_true rfl), (Nat.le_of_ble_eq_true rfl)⟩ ?_
    refine g_aload_n dX11_restore_56 rfl rfl ?_
    refine g_getf dX11_restore_57 fX11_65 mW_0 rfl ?_
    refine g_aload_n dX11_restore_60 rfl rfl ?_
    refine g_getf dX11_restore_61 fX11_16 mW_0 rfl ?_
    refine g_bipush (v := 8) dX11_restore_64 (by decide) ?_
    refine g_S3v (CX11_copy (i := 17) (j := 3) (a := 8) (b := 8) (N := 8) (by decide) (by decide) (by decide) (fun _ => rfl) (fun _ => rfl) (by decide) (by decide) (by decide) (by decide) (by decide)) kX11_restore_361 dX11_restore_66 ⟨rfl, rfl⟩ (Nat.le_of_ble_eq_true rfl) ⟨(Nat.le_of_ble_eq_true rfl), (Nat.le_of_ble_eq_true rfl)⟩ ?_
    refine g_aload_n dX11_restore_69 rfl rfl ?_
    refine g_V0v CX11_changes kX11_restore_122 dX11_restore_70 mW_0 rfl ⟨rfl, rfl⟩ (Nat.le_of_ble_eq_true rfl) ⟨(Nat.le_of_ble_eq_true rfl), (Nat.le_of_ble_eq_true rfl)⟩ ?_
    refine g_aload_n dX11_restore_73 rfl rfl ?_
    refine g_getf dX11_restore_74 fX11_116 mW_0 rfl ?_
    exact g_iret dX11_restore_77 rfl rfl ⟨by rw [if_pos c_8]; rfl, by rw [if_pos c_8]; rfl⟩
  · refine g_ldc dX11_restore_11 tb_1007 ?_
    exact g_iret dX11_restore_13 rfl rfl ⟨by rw [if_neg c_8], by rw [if_neg c_8]⟩
end
