section
variable {l : Launch} {M : q_M} {n0 n : Nat} {Q : q_P} {k k' : Nat × Nat} {pc : Nat} {L : q_Ls} {st : List Value} {w v t : q_Wd} {c : q_Cel}
theorem Go.nw (hv : v.length = n) (kk : Go l M n0 Q k pc L (.ref (n + t.length) :: st) (v ++ (t ++ [c]))) : Go l M n0 Q k pc L (.ref (v ++ t).length :: st) ((v ++ t) ++ [c]) := by
  rw [List.length_append, hv, List.append_assoc]; exact kk
theorem Go.rm (h : k = k') (kk : Go l M n0 Q k' pc L st w) : Go l M n0 Q k pc L st w := by
  subst h; exact kk
theorem wAt (hv : v.length = n) (j : Nat) (h : t[j]? = some c) : (v ++ t)[n + j]? = some c := by
  subst hv
  rw [List.getElem?_append_right (Nat.le_add_right _ _), Nat.add_sub_cancel_left]
  exact h
theorem wSet (hv : v.length = n) (j : Nat) : (v ++ t).set (n + j) c = v ++ t.set j c := by
  subst hv
  rw [List.set_append_right _ _ (Nat.le_add_right _ _), Nat.add_sub_cancel_left]
end
section
variable {l : Launch} {w : q_Wd} {n : Nat}
set_option maxRecDepth 100000 in
set_option maxHeartbeats 4000000 in
theorem CX3_init (hn : w.length = n) : Ct l mX3_init [.ref n] (w ++ [.inr (3, [.null, .null, .int 0])]) (q_eq none (w ++ [.inr (3, [.ref (n + 1), .ref (n + 2), .int 0]), .inl (0, 8, .inl (fun _ => 0)), .inl (0, 32, .inl (fun _ => 0))])) := by
  refine Ct.of rfl (Nat.le_of_ble_eq_true rfl) ?_
  refine g_aload_n dX3_init_0 rfl rfl ?_
  refine g_objInit dX3_init_1 tb_118 (Nat.le_of_ble_eq_true rfl) (Nat.le_of_ble_eq_true rfl) ?_
  refine g_aload_n dX3_init_4 rfl rfl ?_
  refine g_bipush (v := 8) dX3_init_5 (by decide) ?_
  refine g_newi (N := 8) dX3_init_7 (by decide) rfl (by decide) (Nat.le_of_ble_eq_true rfl) (Nat.le_of_ble_eq_true rfl) ?_
  refine Go.nw hn ?_
  refine g_putF (w' := (w ++ [.inr (3, [.ref (n + 1), .null, .int 0]), .inl (0, 8, .inl (fun _ => 0))])) dX3_init_9 pX3_9 rfl (wAt hn 0 rfl) (Nat.le_of_ble_eq_true rfl) (fun _ => rfl) (fun _ => rfl) (wSet hn 0) ?_
  refine g_aload_n dX3_init_12 rfl rfl ?_
  refine g_bipush (v := 32) dX3_init_13 (by decide) ?_
  refine g_newi (N := 32) dX3_init_15 (by decide) rfl (by decide) (Nat.le_of_ble_eq_true rfl) (Nat.le_of_ble_eq_true rfl) ?_
  refine Go.nw hn ?_
  refine g_putF (w' := (w ++ [.inr (3, [.ref (n + 1), .ref (n + 2), .int 0]), .inl (0, 8, .inl (fun _ => 0)), .inl (0, 32, .inl (fun _ => 0))])) dX3_init_17 pX3_15 rfl (wAt hn 0 rfl) (Nat.le_of_ble_eq_true rfl) (fun _ => rfl) (fun _ => rfl) (wSet hn 0) ?_
  exact g_vret dX3_init_20 rfl rfl ⟨rfl, rfl⟩
set_option maxRecDepth 100000 in
set_option maxHeartbeats 4000000 in
theorem CX4_init (hn : w.length = n) {N : Nat} (hN : N ≤ 1000) : Ct l (mX4_init N) [.ref n, .int (nI N)] (w ++ [.inr (4, [.null, .int 0])]) (q_eq none (w ++ [.inr (4, [.ref (n + 1), .int 0]), .inl (0, N, .inl (fun _ => 0))])) := by
  refine Ct.of rfl (Nat.le_of_ble_eq_true rfl) ?_
  refine g_aload_n dX4_init_0 rfl rfl ?_
  refine g_objInit dX4_init_1 tb_135 (Nat.le_of_ble_eq_true rfl) (Nat.le_of_ble_eq_true rfl) ?_
  refine g_aload_n dX4_init_4 rfl rfl ?_
  refine g_iload_n dX4_init_5 rfl rfl ?_
  refine g_iconst (v := 0) dX4_init_6 (by decide) ?_
  refine g_S2r CJ9_max (kX4_init_7 _) dX4_init_7 ⟨rfl, rfl⟩ (Nat.le_of_ble_eq_true rfl) ⟨Nat.zero_le _, Nat.zero_le _⟩ ?_
  rw [if_neg (nI_pos (by omega))]
  refine g_newi (N := N) dX4_init_10 (nI_pos (by omega)) (nI_clamp (by omega)) (by omega) (Nat.le_of_ble_eq_true rfl) (by show 0 + N ≤ N; omega) ?_
  refine Go.nw hn ?_
  refine g_putF (w' := (w ++ [.inr (4, [.ref (n + 1), .int 0]), .inl (0, N, .inl (fun _ => 0))])) dX4_init_12 pX4_13 rfl (wAt hn 0 rfl) (Nat.le_of_ble_eq_true rfl) (fun _ => rfl) (fun _ => rfl) (wSet hn 0) ?_
  exact g_vret dX4_init_15 rfl (Prod.ext rfl (Nat.zero_add _)) ⟨rfl, rfl⟩
set_option maxRecDepth 100000 in
set_option maxHeartbeats 4000000 in
theorem CX5_init (hn : w.length = n) : Ct l mX5_init [.ref n] (w ++ [.inr (5, [.null, .int 0, .int 0])]) (q_eq none (w ++ [.inr (5, [.ref (n + 1), .int 0, .int 0]), .inr (3, [.ref (n + 1 + 1), .ref (n + 1 + 2), .int 0]), .inl (0, 8, .inl (fun _ => 0)), .inl (0, 32, .inl (fun _ => 0))])) := by
  refine Ct.of rfl (Nat.le_of_ble_eq_true rfl) ?_
  refine g_aload_n dX5_init_0 rfl rfl ?_
  refine g_objInit dX5_init_1 tb_151 (Nat.le_of_ble_eq_true rfl) (Nat.le_of_ble_eq_true rfl) ?_
  refine g_aload_n dX5_init_4 rfl rfl ?_
  refine g_new dX5_init_5 nX5_9 (Nat.le_of_ble_eq_true rfl) (Nat.le_of_ble_eq_true rfl) ?_
  refine Go.nw hn ?_
  refine g_dup dX5_init_8 rfl ?_
  refine Go.eq rfl rfl rfl (show _ = (w ++ [.inr (5, [.null, .int 0, .int 0])]) ++ [.inr (3, [.null, .null, .int 0])] by rw [List.append_assoc]) ?_
  refine g_callIN (as := []) (st := [.ref (n + 1), .ref n]) (CX3_init (w := w ++ [.inr (5, [.null, .int 0, .int 0])]) (n := n + 1) (by rw [List.length_append, hn]; rfl)) kX5_init_11 rfl rfl dX5_init_9 (Nat.le_of_ble_eq_true rfl) ⟨(Nat.le_of_ble_eq_true rfl), (Nat.le_of_ble_eq_true rfl)⟩ ?_
  rintro r w1 ⟨rfl, rfl⟩
  refine Go.eq rfl rfl (show _ = [.ref (n + 1), .ref n] from rfl) (show _ = (w ++ [.inr (5, [.null, .int 0, .int 0]), .inr (3, [.ref (n + 1 + 1), .ref (n + 1 + 2), .int 0]), .inl (0, 8, .inl (fun _ => 0)), .inl (0, 32, .inl (fun _ => 0))]) by rw [List.append_assoc]; rfl) ?_
  refine g_putF (w' := (w ++ [.inr (5, [.ref (n + 1), .int 0, .int 0]), .inr (3, [.ref (n + 1 + 1), .ref (n + 1 + 2), .int 0]), .inl (0, 8, .inl (fun _ => 0)), .inl (0, 32, .inl (fun _ => 0))])) dX5_init_12 pX5_12 rfl (wAt hn 0 rfl) (Nat.le_of_ble_eq_true rfl) (fun _ => rfl) (fun _ => rfl) (wSet hn 0) ?_
  exact g_vret dX5_init_15 rfl rfl ⟨rfl, rfl⟩
set_option maxRecDepth 100000 in
set_option maxHeartbeats 4000000 in
theorem CX2_init (hn : w.length = n) : Ct l mX2_init [.ref n] (w ++ [.inr (2, [.int 0, .int 0, .int 0])]) (q_eq none (w ++ [.inr (2, [.int 0, .int 0, .int 0])])) := by
  refine Ct.of rfl (Nat.le_of_ble_eq_true rfl) ?_
  refine g_aload_n dX2_init_0 rfl rfl ?_
  refine g_objInit dX2_init_1 tb_169 (Nat.le_of_ble_eq_true rfl) (Nat.le_of_ble_eq_true rfl) ?_
  exact g_vret dX2_init_4 rfl rfl ⟨rfl, rfl⟩
set_option maxRecDepth 100000 in
set_option maxHeartbeats 4000000 in
theorem CX9_init (hn : w.length = n) : Ct l mX9_init [.ref n] (w ++ [.inr (7, [.null, .int 0])]) (q_eq none (w ++ [.inr (7, [.ref (n + 1), .int 0]), .inl (0, 1608, .inl (fun _ => 0))])) := by
  refine Ct.of rfl (Nat.le_of_ble_eq_true rfl) ?_
  refine g_aload_n dX9_init_0 rfl rfl ?_
  refine g_objInit dX9_init_1 tb_185 (Nat.le_of_ble_eq_true rfl) (Nat.le_of_ble_eq_true rfl) ?_
  refine g_aload_n dX9_init_4 rfl rfl ?_
  refine g_sipush (v := 1608) dX9_init_5 (by decide) ?_
  refine g_newi (N := 1608) dX9_init_8 (by decide) rfl (by decide) (Nat.le_of_ble_eq_true rfl) (Nat.le_of_ble_eq_true rfl) ?_
  refine Go.nw hn ?_
  refine g_putF (w' := (w ++ [.inr (7, [.ref (n + 1), .int 0]), .inl (0, 1608, .inl (fun _ => 0))])) dX9_init_10 pX9_11 rfl (wAt hn 0 rfl) (Nat.le_of_ble_eq_true rfl) (fun _ => rfl) (fun _ => rfl) (wSet hn 0) ?_
  exact g_vret dX9_init_13 rfl rfl ⟨rfl, rfl⟩
set_option maxRecDepth 100000 in
set_option maxHeartbeats 4000000 in
theorem CX0_init (hn : w.length = n) : Ct l mX0_init [.ref n] (w ++ [.inr (0, [.null, .null, .null, .int 0, .int 0])]) (q_eq none (w ++ [.inr (0, [.ref (n + 1), .ref (n + 2), .ref (n + 3), .int 2, .int 0]), .inl (0, 17, .inl (fun _ => 0)), .inl (0, 17, .inl (fun _ => 0)), .inl (0, 17, .inl (fun _ => 0))])) := by
  refine Ct.of rfl (Nat.le_of_ble_eq_true rfl) ?_
  refine g_aload_n dX0_init_0 rfl rfl ?_
  refine g_objInit dX0_init_1 tb_236 (Nat.le_of_ble_eq_true rfl) (Nat.le_of_ble_eq_true rfl) ?_
  refine g_aload_n dX0_init_4 rfl rfl ?_
  refine g_bipush (v := 17) dX0_init_5 (by decide) ?_
  refine g_newi (N := 17) dX0_init_7 (by decide) rfl (by decide) (Nat.le_of_ble_eq_true rfl) (Nat.le_of_ble_eq_true rfl) ?_
  refine Go.nw hn ?_
  refine g_putF (w' := (w ++ [.inr (0, [.ref (n + 1), .null, .null, .int 0, .int 0]), .inl (0, 17, .inl (fun _ => 0))])) dX0_init_9 pX0_9 rfl (wAt hn 0 rfl) (Nat.le_of_ble_eq_true rfl) (fun _ => rfl) (fun _ => rfl) (wSet hn 0) ?_
  refine g_aload_n dX0_init_12 rfl rfl ?_
  refine g_bipush (v := 17) dX0_init_13 (by decide) ?_
  refine g_newi (N := 17) dX0_init_15 (by decide) rfl (by decide) (Nat.le_of_ble_eq_true rfl) (Nat.le_of_ble_eq_true rfl) ?_
  refine Go.nw hn ?_
  refine g_putF (w' := (w ++ [.inr (0, [.ref (n + 1), .ref (n + 2), .null, .int 0, .int 0]), .inl (0, 17, .inl (fun _ => 0)), .inl (0, 17, .inl (fun _ => 0))])) dX0_init_17 pX0_13 rfl (wAt hn 0 rfl) (Nat.le_of_ble_eq_true rfl) (fun _ => rfl) (fun _ => rfl) (wSet hn 0) ?_
  refine g_aload_n dX0_init_20 rfl rfl ?_
  refine g_bipush (v := 17) dX0_init_21 (by decide) ?_
  refine g_newi (N := 17) dX0_init_23 (by decide) rfl (by decide) (Nat.le_of_ble_eq_true rfl) (Nat.le_of_ble_eq_true rfl) ?_
  refine Go.nw hn ?_
  refine g_putF (w' := (w ++ [.inr (0, [.ref (n + 1), .ref (n + 2), .ref (n + 3), .int 0, .int 0]), .inl (0, 17, .inl (fun _ => 0)), .inl (0, 17, .inl (fun _ => 0)), .inl (0, 17, .inl (fun _ => 0))])) dX0_init_25 pX0_16 rfl (wAt hn 0 rfl) (Nat.le_of_ble_eq_true rfl) (fun _ => rfl) (fun _ => rfl) (wSet hn 0) ?_
  refine g_aload_n dX0_init_28 rfl rfl ?_
  refine g_iconst (v := 2) dX0_init_29 (by decide) ?_
  refine g_putf (w' := (w ++ [.inr (0, [.ref (n + 1), .ref (n + 2), .ref (n + 3), .int 2, .int 0]), .inl (0, 17, .inl (fun _ => 0)), .inl (0, 17, .inl (fun _ => 0)), .inl (0, 17, .inl (fun _ => 0))])) dX0_init_30 pX0_19 (wAt hn 0 rfl) (Nat.le_of_ble_eq_true rfl) (fun _ => rfl) (fun _ => rfl) (wSet hn 0) ?_
  exact g_vret dX0_init_33 rfl rfl ⟨rfl, rfl⟩
theorem rnd_q : ∀ a, a < 9 → q_rounds (nI (2 + a) - 2).toNatClampNeg = nI (rnd a) ∧ (6 + nI (rnd a)).toNatClampNeg = 6 + rnd a ∧ ¬ 6 + nI (rnd a) < 0 ∧ bI (2 ≤ nI (2 + a) ∧ nI (2 + a) ≤ 10) = 1 ∧ ¬ ((nI (2 + a) - 2) < 0 ∨ 9 ≤ (nI (2 + a) - 2).toNatClampNeg) := by decide
set_option maxRecDepth 100000 in
set_option maxHeartbeats 4000000 in
theorem CX1_init (hn : w.length = n) {a : Nat} (ha : a < 9) : Ct l (mX1_init (6 + rnd a)) [.ref n, .int (nI (2 + a))] (w ++ [.inr (1, [.int 0, .int 0, .null])]) (q_eq none (w ++ [.inr (1, [.int (nI (2 + a)), .int (nI (rnd a)), .ref (n + 1)]), .inl (0, 6 + rnd a, .inl (fun _ => 0))])) := by
  refine Ct.of rfl (Nat.le_of_ble_eq_true rfl) ?_
  obtain ⟨e1, e2, e3, e4, e5⟩ := rnd_q a ha
  have hb := rnd_bd a ha
  refine g_aload_n dX1_init_0 rfl rfl ?_
  refine g_objInit dX1_init_1 tb_205 (Nat.le_of_ble_eq_true rfl) (Nat.le_of_ble_eq_true rfl) ?_
  refine g_aload_n dX1_init_4 rfl rfl ?_
  refine g_iload_n dX1_init_5 rfl rfl ?_
  refine g_SN1r CX10_isModulus (kX1_init_9 _) dX1_init_6 ⟨rfl, rfl⟩ (Nat.le_of_ble_eq_true rfl) ⟨Nat.zero_le _, Nat.zero_le _⟩ ?_
  rw [e4]
  refine g_if_eq (tgt := 16) dX1_init_9 rfl (fun c_9 => by exfalso; revert c_9; decide) (fun c_9 => ?_)
  refine g_iload_n dX1_init_12 rfl rfl ?_
  refine g_goto (tgt := 17) dX1_init_13 rfl ?_
  refine g_putF (w' := (w ++ [.inr (1, [.int (nI (2 + a)), .int 0, .null])])) dX1_init_17 pX1_13 rfl (wAt hn 0 rfl) (Nat.le_of_ble_eq_true rfl) (fun _ => rfl) (fun _ => rfl) (wSet hn 0) ?_
  refine g_aload_n dX1_init_20 rfl rfl ?_
  refine g_rounds dX1_init_21 dX1_init_24 dX1_init_25 dX1_init_28 dX1_init_29 dX1_init_30 tb_212 fX1_13 rfl (wAt hn 0 rfl) rfl e5 ?_
  rw [e1]
  refine g_putF (w' := (w ++ [.inr (1, [.int (nI (2 + a)), .int (nI (rnd a)), .null])])) dX1_init_31 pX1_23 rfl (wAt hn 0 rfl) (Nat.le_of_ble_eq_true rfl) (fun _ => rfl) (fun _ => rfl) (wSet hn 0) ?_
  refine g_aload_n dX1_init_34 rfl rfl ?_
  refine g_bipush (v := 6) dX1_init_35 (by decide) ?_
  refine g_aload_n dX1_init_37 rfl rfl ?_
  refine g_getf dX1_init_38 fX1_23 (wAt hn 0 rfl) rfl ?_
  refine g_iadd dX1_init_41 ?_
  refine g_newi (N := 6 + rnd a) dX1_init_42 e3 e2 (by omega) (Nat.le_of_ble_eq_true rfl) (by show 0 + (6 + rnd a) ≤ 6 + rnd a; omega) ?_
  refine Go.nw hn ?_
  refine g_putF (w' := (w ++ [.inr (1, [.int (nI (2 + a)), .int (nI (rnd a)), .ref (n + 1)]), .inl (0, 6 + rnd a, .inl (fun _ => 0))])) dX1_init_44 pX1_26 rfl (wAt hn 0 rfl) (Nat.le_of_ble_eq_true rfl) (fun _ => rfl) (fun _ => rfl) (wSet hn 0) ?_
  exact g_vret dX1_init_47 rfl (Prod.ext rfl (Nat.zero_add _)) ⟨rfl, rfl⟩
end
