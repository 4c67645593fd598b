def bI (p : Prop) [Decidable p] : Int32 := if p then 1 else 0
theorem bI_t {p : Prop} [Decidable p] (h : p) : bI p = 1 := if_pos h
theorem bI_f {p : Prop} [Decidable p] (h : ¬ p) : bI p = 0 := if_neg h
section
variable {l : Launch} {w : q_Wd}
set_option maxRecDepth 100000 in
set_option maxHeartbeats 4000000 in
theorem cX10_isWithin_c {v a b : Int32} : Ct l mX10_isWithin [.int v, .int a, .int b] w (q_eq (some (.int (bI (a ≤ v ∧ v ≤ b)))) w) := by
  refine Ct.of rfl (Nat.le_of_ble_eq_true rfl) ?_
  refine g_iload_n dX10_isWithin_0 rfl rfl ?_
  refine g_iload_n dX10_isWithin_1 rfl rfl ?_
  refine g_icmp_lt (tgt := 14) dX10_isWithin_2 rfl (fun c_2 => ?_) (fun c_2 => ?_)
  · refine g_iconst (v := 0) dX10_isWithin_14 (by decide) ?_
    exact g_zret dX10_isWithin_15 rfl rfl (by decide) ⟨by first | rfl | grind [bI], rfl⟩
  · refine g_iload_n dX10_isWithin_5 rfl rfl ?_
    refine g_iload_n dX10_isWithin_6 rfl rfl ?_
    refine g_icmp_gt (tgt := 14) dX10_isWithin_7 rfl (fun c_7 => ?_) (fun c_7 => ?_)
    · refine g_iconst (v := 0) dX10_isWithin_14 (by decide) ?_
      exact g_zret dX10_isWithin_15 rfl rfl (by decide) ⟨by first | rfl | grind [bI], rfl⟩
    · refine g_iconst (v := 1) dX10_isWithin_10 (by decide) ?_
      refine g_goto (tgt := 15) dX10_isWithin_11 rfl ?_
      exact g_zret dX10_isWithin_15 rfl rfl (by decide) ⟨by first | rfl | grind [bI], rfl⟩
set_option maxRecDepth 100000 in
set_option maxHeartbeats 4000000 in
theorem cX3_holds_c {i a b : Nat} {sz r : Int32} (hL : w[i]? = some (.inr (3, [.ref a, .ref b, .int sz]))) : Ct l mX3_holds [.ref i, .int r] w (q_eq (some (.int (bI (0 ≤ r ∧ r < sz ∧ r < 8)))) w) := by
  refine Ct.of rfl (Nat.le_of_ble_eq_true rfl) ?_
  refine g_iload_n dX3_holds_0 rfl rfl ?_
  refine g_if_lt (tgt := 22) dX3_holds_1 rfl (fun c_1 => ?_) (fun c_1 => ?_)
  · refine g_iconst (v := 0) dX3_holds_22 (by decide) ?_
    exact g_zret dX3_holds_23 rfl rfl (by decide) ⟨by first | rfl | grind [bI], rfl⟩
  · refine g_iload_n dX3_holds_4 rfl rfl ?_
    refine g_aload_n dX3_holds_5 rfl rfl ?_
    refine g_getf dX3_holds_6 fX3_18 hL rfl ?_
    refine g_icmp_ge (tgt := 22) dX3_holds_9 rfl (fun c_9 => ?_) (fun c_9 => ?_)
    · refine g_iconst (v := 0) dX3_holds_22 (by decide) ?_
      exact g_zret dX3_holds_23 rfl rfl (by decide) ⟨by first | rfl | grind [bI], rfl⟩
    · refine g_iload_n dX3_holds_12 rfl rfl ?_
      refine g_bipush (v := 8) dX3_holds_13 (by decide) ?_
      refine g_icmp_ge (tgt := 22) dX3_holds_15 rfl (fun c_15 => ?_) (fun c_15 => ?_)
      · refine g_iconst (v := 0) dX3_holds_22 (by decide) ?_
        exact g_zret dX3_holds_23 rfl rfl (by decide) ⟨by first | rfl | grind [bI], rfl⟩
      · refine g_iconst (v := 1) dX3_holds_18 (by decide) ?_
        refine g_goto (tgt := 23) dX3_holds_19 rfl ?_
        exact g_zret dX3_holds_23 rfl rfl (by decide) ⟨by first | rfl | grind [bI], rfl⟩
end
