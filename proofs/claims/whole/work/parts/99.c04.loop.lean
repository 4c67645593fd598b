theorem INV_up {σ τ : Nat → Nat → Int32} {N : Nat} (H : INV σ τ N) : INV σ τ (N + 1) := by
  obtain ⟨n, g, p, r, a1, a2, a3, a4, a5, a6⟩ := H
  exact ⟨n, g, p, r, a1, a2, a3, by omega, a5, a6⟩
section LWM
variable {p : Program} {l : Launch} {e : Env} {s : State} {m : MethodId} {below : List Frame} {meth : Method} {c : Code} {b L : Nat} {xs : Nat → Int32} {D : va_G} {tc : Nat → ClassId} {adx adm : Nat → Nat}
theorem lw_gt {i L : Nat} (hi : i ≤ 2565) (hL : L ≤ 2560) : Int32.ofNat L - 5 < nI i ↔ L < i + 5 := by
  have e : (Int32.ofNat L - 5).toInt = (L : Int) - 5 := by
    rw [Int32.toInt_sub, show Int32.ofNat L = nI L from rfl, nI_toInt (by omega), show (5 : Int32).toInt = 5 from rfl, Int.bmod_eq_of_le (by omega) (by omega)]
  rw [Int32.lt_iff_toInt_lt, e, nI_toInt (by omega)]
  omega
set_option maxHeartbeats 4000000 in
set_option maxRecDepth 100000 in
theorem law_loop (hL : L ≤ 2560) (C0 : LC p s m meth c b L xs D tc) : ∀ (n i N : Nat) (σ τ : Nat → Nat → Int32) (t : Nat → Int64) (H : Heap) (locs : List Loc) (ls : Array Slot), L + 1 ≤ i + n → i ≤ 2565 → N ≤ i → INV σ τ N → lv_has ls 4 [(0, .ref b), (1, .ref (adx 0)), (2, .ref (adm 0)), (3, .int (nI i))] → W2 D (lwA s) H (q_w tc adx (xW σ)) (q_w tc adm (mW τ t)) → va_S (lwA s) s.heap H locs → q_okw (xW σ) → q_okw (mW τ t) → W p l e room_1 s m #[Value.ref b] below meth c H locs 191 16496 (lw_Z below #[Value.ref b] s) (F0 m 18 ls []) := by
  obtain ⟨hx, hb, hr, hml, hown, hts, hX, hbl, hlocks, hgv⟩ := C0.1
  have hbA : ¬ lwA s b := Nat.not_le.mpr hbl
  intro n
  induction n with
  | zero =>
    intro i N σ τ t H locs ls hin hi5 hNi HI hl hW hS o1 o2
    refine lv_iload_n hx hb dL_law_18 rfl (lv_at hl 3 rfl) ?_
    refine lv_aload_n hx hb dL_law_19 rfl (lv_at hl 0 rfl) ?_
    refine va_slen hx hb hX hbl hbA hS dL_law_20 ?_
    refine lv_iconst (v := 5) hx hb dL_law_21 (by decide) ?_
    refine lv_isub hx hb dL_law_22 ?_
    refine lv_icmp_gt (tgt := 1106) hx hb dL_law_23 rfl (fun cc => ?_) (fun cc => absurd ((lw_gt hi5 hL).mpr (by omega)) cc)
    refine lv_iconst (v := 1) hx hb dL_law_1106 (by decide) ?_
    refine va_forget (fun q hq => hS.2.2 q hq) ?_
    refine W.widen (k := 600000) (n := 7302250) (Nat.le_of_ble_eq_true rfl) (Nat.le_of_ble_eq_true rfl) ?_
    exact lw_ret hx hb hr hlocks dL_law_1107
  | succ n ih =>
    intro i N σ τ t H locs ls hin hi5 hNi HI hl hW hS o1 o2
    refine lv_iload_n hx hb dL_law_18 rfl (lv_at hl 3 rfl) ?_
    refine lv_aload_n hx hb dL_law_19 rfl (lv_at hl 0 rfl) ?_
    refine va_slen hx hb hX hbl hbA hS dL_law_20 ?_
    refine lv_iconst (v := 5) hx hb dL_law_21 (by decide) ?_
    refine lv_isub hx hb dL_law_22 ?_
    refine lv_icmp_gt (tgt := 1106) hx hb dL_law_23 rfl (fun cc => ?_) (fun cc => ?_)
    · refine lv_iconst (v := 1) hx hb dL_law_1106 (by decide) ?_
      refine va_forget (fun q hq => hS.2.2 q hq) ?_
      refine W.widen (k := 600000) (n := 7302250) (Nat.le_of_ble_eq_true rfl) (Nat.le_of_ble_eq_true rfl) ?_
      exact lw_ret hx hb hr hlocks dL_law_1107
    · have hi : i + 5 ≤ L := by
        rcases Nat.lt_or_ge L (i + 5) with y | y
        · exact absurd ((lw_gt hi5 hL).mpr y) cc
        · exact y
      have hN : N ≤ 10000 := by omega
      have nx : ∀ (σ' τ' : Nat → Nat → Int32) (t' : Nat → Int64) (H' : Heap) (locs' : List Loc), INV σ' τ' (N + 1) → W2 D (lwA s) H' (q_w tc adx (xW σ')) (q_w tc adm (mW τ' t')) → va_S (lwA s) s.heap H' locs' → q_okw (xW σ') → q_okw (mW τ' t') → W p l e room_1 s m #[Value.ref b] below meth c H' locs' 191 16496 (lw_Z below #[Value.ref b] s) (F0 m 1100 ls []) := by
        intro σ' τ' t' H' locs' HI' hW' hS' o1' o2'
        refine lv_iinc (v := nI (i + 5)) (lv' := [(3, .int (nI (i + 5))), (0, .ref b), (1, .ref (adx 0)), (2, .ref (adm 0))]) hx hb dL_law_1100 hl (k := 3) rfl (nI_add i 5) (by decide) rfl (fun ls' hl' => ?_)
        refine lv_goto (tgt := 18) hx hb dL_law_1103 rfl ?_
        exact ih (i + 5) (N + 1) σ' τ' t' H' locs' ls' (by omega) (by omega) (by omega) HI' (lv_sub hl' [1, 2, 3, 0] rfl) hW' hS' o1' o2'
      refine lv_aload_n hx hb dL_law_26 rfl (lv_at hl 0 rfl) ?_
      refine lv_iload_n hx hb dL_law_27 rfl (lv_at hl 3 rfl) ?_
      refine va_sld hx hb hX hbl hbA hS (vp_in_nI (by omega) (by omega)) dL_law_28 ?_
      refine lv_bipush (v := 63) hx hb dL_law_29 (by decide) ?_
      refine lv_iand hx hb dL_law_31 ?_
      generalize xs (nI i).toNatClampNeg &&& 63 = z
      by_cases z0 : z = 0
      · subst z0
        refine lv_tableIn (off := 148) (tgt := 180) hx hb dL_law_32 (by decide) (by decide) rfl rfl ?_
        exact law_letter C0 hl hi hL hN HI hW hS o1 o2 nx
      by_cases z1 : z = 1
      · subst z1
        refine lv_tableIn (off := 171) (tgt := 203) hx hb dL_law_32 (by decide) (by decide) rfl rfl ?_
        exact law_blank C0 hl hi hL hN HI hW hS o1 o2 nx
      by_cases z2 : z = 2
      · subst z2
        refine lv_tableIn (off := 184) (tgt := 216) hx hb dL_law_32 (by decide) (by decide) rfl rfl ?_
        exact law_fault C0 hl hi hL hN HI hW hS o1 o2 nx
      by_cases z3 : z = 3
      · subst z3
        refine lv_tableIn (off := 197) (tgt := 229) hx hb dL_law_32 (by decide) (by decide) rfl rfl ?_
        exact law_rows C0 hl hi hL hN HI hW hS o1 o2 nx
      by_cases z4 : z = 4
      · subst z4
        refine lv_tableIn (off := 210) (tgt := 242) hx hb dL_law_32 (by decide) (by decide) rfl rfl ?_
        exact law_row C0 hl hi hL hN HI hW hS o1 o2 nx
      by_cases z5 : z = 5
      · subst z5
        refine lv_tableIn (off := 243) (tgt := 275) hx hb dL_law_32 (by decide) (by decide) rfl rfl ?_
        exact law_as C0 hl hi hL hN HI hW hS o1 o2 nx
      by_cases z6 : z = 6
      · subst z6
        refine lv_tableIn (off := 276) (tgt := 308) hx hb dL_law_32 (by decide) (by decide) rfl rfl ?_
        exact law_term C0 hl hi hL hN HI hW hS o1 o2 nx
      by_cases z7 : z = 7
      · subst z7
        refine lv_tableIn (off := 309) (tgt := 341) hx hb dL_law_32 (by decide) (by decide) rfl rfl ?_
        exact law_by C0 hl hi hL hN HI hW hS o1 o2 nx
      by_cases z8 : z = 8
      · subst z8
        refine lv_tableIn (off := 352) (tgt := 384) hx hb dL_law_32 (by decide) (by decide) rfl rfl ?_
        exact law_lap C0 hl hi hL hN HI hW hS o1 o2 nx
      by_cases z9 : z = 9
      · subst z9
        refine lv_tableIn (off := 395) (tgt := 427) hx hb dL_law_32 (by decide) (by decide) rfl rfl ?_
        exact law_least C0 hl hi hL hN HI hW hS o1 o2 nx
      by_cases z10 : z = 10
      · subst z10
        refine lv_tableIn (off := 438) (tgt := 470) hx hb dL_law_32 (by decide) (by decide) rfl rfl ?_
        exact law_rule C0 hl hi hL hN HI hW hS o1 o2 nx
      by_cases z11 : z = 11
      · subst z11
        refine lv_tableIn (off := 471) (tgt := 503) hx hb dL_law_32 (by decide) (by decide) rfl rfl ?_
        exact law_roots C0 hl hi hL hN HI hW hS o1 o2 nx
      by_cases z12 : z = 12
      · subst z12
        refine lv_tableIn (off := 504) (tgt := 536) hx hb dL_law_32 (by decide) (by decide) rfl rfl ?_
        exact law_noughts C0 hl hi hL hN HI hW hS o1 o2 nx
      by_cases z13 : z = 13
      · subst z13
        refine lv_tableIn (off := 527) (tgt := 559) hx hb dL_law_32 (by decide) (by decide) rfl rfl ?_
        exact law_ends C0 hl hi hL hN HI hW hS o1 o2 nx
      by_cases z14 : z = 14
      · subst z14
        refine lv_tableIn (off := 550) (tgt := 582) hx hb dL_law_32 (by decide) (by decide) rfl rfl ?_
        exact law_open C0 hl hi hL hN HI hW hS o1 o2 nx
      by_cases z15 : z = 15
      · subst z15
        refine lv_tableIn (off := 583) (tgt := 615) hx hb dL_law_32 (by decide) (by decide) rfl rfl ?_
        exact law_meets C0 hl hi hL hN HI hW hS o1 o2 nx
      by_cases z16 : z = 16
      · subst z16
        refine lv_tableIn (off := 626) (tgt := 658) hx hb dL_law_32 (by decide) (by decide) rfl rfl ?_
        exact law_told C0 hl hi hL hN HI hW hS o1 o2 nx
      by_cases z17 : z = 17
      · subst z17
        refine lv_tableIn (off := 679) (tgt := 711) hx hb dL_law_32 (by decide) (by decide) rfl rfl ?_
        exact law_sum C0 hl hi hL hN HI hW hS o1 o2 nx
      by_cases z18 : z = 18
      · subst z18
        refine lv_tableIn (off := 712) (tgt := 744) hx hb dL_law_32 (by decide) (by decide) rfl rfl ?_
        exact law_product C0 hl hi hL hN HI hW hS o1 o2 nx
      by_cases z19 : z = 19
      · subst z19
        refine lv_tableIn (off := 745) (tgt := 777) hx hb dL_law_32 (by decide) (by decide) rfl rfl ?_
        exact law_each C0 hl hi hL hN HI hW hS o1 o2 nx
      by_cases z20 : z = 20
      · subst z20
        refine lv_tableIn (off := 788) (tgt := 820) hx hb dL_law_32 (by decide) (by decide) rfl rfl ?_
        exact law_step C0 hl hi hL hN HI hW hS o1 o2 nx
      by_cases z21 : z = 21
      · subst z21
        refine lv_tableIn (off := 811) (tgt := 843) hx hb dL_law_32 (by decide) (by decide) rfl rfl ?_
        exact law_put C0 hl hi hL hN HI hW hS o1 o2 nx
      by_cases z22 : z = 22
      · subst z22
        refine lv_tableIn (off := 854) (tgt := 886) hx hb dL_law_32 (by decide) (by decide) rfl rfl ?_
        exact law_drop C0 hl hi hL hN HI hW hS o1 o2 nx
      by_cases z23 : z = 23
      · subst z23
        refine lv_tableIn (off := 867) (tgt := 899) hx hb dL_law_32 (by decide) (by decide) rfl rfl ?_
        exact law_ease C0 hl hi hL hN HI hW hS o1 o2 nx
      by_cases z24 : z = 24
      · subst z24
        refine lv_tableIn (off := 890) (tgt := 922) hx hb dL_law_32 (by decide) (by decide) rfl rfl ?_
        exact law_give C0 hl hi hL hN HI hW hS o1 o2 nx
      by_cases z25 : z = 25
      · subst z25
        refine lv_tableIn (off := 913) (tgt := 945) hx hb dL_law_32 (by decide) (by decide) rfl rfl ?_
        exact law_forget C0 hl hi hL hN HI hW hS o1 o2 nx
      by_cases z26 : z = 26
      · subst z26
        refine lv_tableIn (off := 926) (tgt := 958) hx hb dL_law_32 (by decide) (by decide) rfl rfl ?_
        exact law_guess C0 hl hi hL hN HI hW hS o1 o2 nx
      by_cases z27 : z = 27
      · subst z27
        refine lv_tableIn (off := 949) (tgt := 981) hx hb dL_law_32 (by decide) (by decide) rfl rfl ?_
        exact law_found C0 hl hi hL hN HI hW hS o1 o2 nx
      by_cases z28 : z = 28
      · subst z28
        refine lv_tableIn (off := 962) (tgt := 994) hx hb dL_law_32 (by decide) (by decide) rfl rfl ?_
        exact law_drawn C0 hl hi hL hN HI hW hS o1 o2 nx
      by_cases z29 : z = 29
      · subst z29
        refine lv_tableIn (off := 1005) (tgt := 1037) hx hb dL_law_32 (by decide) (by decide) rfl rfl ?_
        exact law_image C0 hl hi hL hN HI hW hS o1 o2 nx
      by_cases z30 : z = 30
      · subst z30
        refine lv_tableIn (off := 1018) (tgt := 1050) hx hb dL_law_32 (by decide) (by decide) rfl rfl ?_
        exact law_restore C0 hl hi hL hN HI hW hS o1 o2 nx
      by_cases z31 : z = 31
      · subst z31
        refine lv_tableIn (off := 1031) (tgt := 1063) hx hb dL_law_32 (by decide) (by decide) rfl rfl ?_
        exact law_count C0 hl hi hL hN HI hW hS o1 o2 nx
      by_cases z32 : z = 32
      · subst z32
        refine lv_tableIn (off := 1054) (tgt := 1086) hx hb dL_law_32 (by decide) (by decide) rfl rfl ?_
        exact law_digest C0 hl hi hL hN HI hW hS o1 o2 nx
      have hout : z.toInt < 0 ∨ 32 < z.toInt := by
        have a0 := ne_toInt (z := 0) rfl z0
        have a1 := ne_toInt (z := 1) rfl z1
        have a2 := ne_toInt (z := 2) rfl z2
        have a3 := ne_toInt (z := 3) rfl z3
        have a4 := ne_toInt (z := 4) rfl z4
        have a5 := ne_toInt (z := 5) rfl z5
        have a6 := ne_toInt (z := 6) rfl z6
        have a7 := ne_toInt (z := 7) rfl z7
        have a8 := ne_toInt (z := 8) rfl z8
        have a9 := ne_toInt (z := 9) rfl z9
        have a10 := ne_toInt (z := 10) rfl z10
        have a11 := ne_toInt (z := 11) rfl z11
        have a12 := ne_toInt (z := 12) rfl z12
        have a13 := ne_toInt (z := 13) rfl z13
        have a14 := ne_toInt (z := 14) rfl z14
        have a15 := ne_toInt (z := 15) rfl z15
        have a16 := ne_toInt (z := 16) rfl z16
        have a17 := ne_toInt (z := 17) rfl z17
        have a18 := ne_toInt (z := 18) rfl z18
        have a19 := ne_toInt (z := 19) rfl z19
        have a20 := ne_toInt (z := 20) rfl z20
        have a21 := ne_toInt (z := 21) rfl z21
        have a22 := ne_toInt (z := 22) rfl z22
        have a23 := ne_toInt (z := 23) rfl z23
        have a24 := ne_toInt (z := 24) rfl z24
        have a25 := ne_toInt (z := 25) rfl z25
        have a26 := ne_toInt (z := 26) rfl z26
        have a27 := ne_toInt (z := 27) rfl z27
        have a28 := ne_toInt (z := 28) rfl z28
        have a29 := ne_toInt (z := 29) rfl z29
        have a30 := ne_toInt (z := 30) rfl z30
        have a31 := ne_toInt (z := 31) rfl z31
        have a32 := ne_toInt (z := 32) rfl z32
        omega
      refine lv_tableOut (tgt := 1100) hx hb dL_law_32 hout rfl ?_
      exact nx σ τ t H locs (INV_up HI) hW hS o1 o2
end LWM
