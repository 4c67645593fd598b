def cyc (j : Nat) : q_Wd := (List.range (2 * j)).map (fun c => xcell (18 + c) (fun _ => 0))
def x6A (j : Nat) : q_Cel := .inl (3, 72, .inr (.inr (.inr (.inr (fun q => if q < j then some (18 + 2 * q) else none)))))
def x6T (j : Nat) : q_Wd := [.inr (6, [.ref 16, .ref 17]), x6A j, .inl (0, 9, .inl (fun _ => 0))] ++ cyc j
def slX : Nat → Nat
  | 0 => 81
  | j + 1 => slX j + 3 + (6 + rnd (j / 8))
theorem slXB : ∀ j, j < 72 → slX j + 3 + (6 + rnd (j / 8)) ≤ 6633 := by decide +kernel
theorem x6len {w : q_Wd} {j : Nat} (hw : w.length = 15) : (w ++ x6T j).length = 18 + 2 * j := by
  rw [List.length_append, hw, x6T, List.length_append, cyc, List.length_map, List.length_range]
  show 15 + (3 + 2 * j) = _
  omega
theorem x6at {w : q_Wd} {j : Nat} (hw : w.length = 15) : (w ++ x6T j)[15]? = some (.inr (6, [.ref 16, .ref 17])) := wAt (n := 15) hw 0 rfl
theorem x6at2 {w t : q_Wd} {j : Nat} (hw : w.length = 15) : ((w ++ x6T j) ++ t)[16]? = some (x6A j) := by
  rw [List.append_assoc]
  exact wAt (n := 15) hw 1 rfl
theorem x6up {j : Nat} : va_up (fun q => if q < j then some (18 + 2 * q) else none) j (some (18 + 2 * j)) = (fun q => if q < j + 1 then some (18 + 2 * q) else none) := by
  funext q
  unfold va_up
  grind
theorem x6step {w : q_Wd} {a b : Nat} (hw : w.length = 15) (ha : a < 9) (hb : b < 8) : ((w ++ x6T (8 * a + b)) ++ ([.inr (1, [.int (nI (2 + a)), .int (nI (rnd a)), .ref (18 + 2 * (8 * a + b) + 1)]), .inl (0, 6 + rnd a, .inl (fun _ => 0))] : q_Wd)).set 16 (x6A (8 * a + b + 1)) = w ++ x6T (8 * a + b + 1) := by
  have e1 := xcell_o (18 + 2 * (8 * a + b)) (by omega) (by omega) (by omega) (fun _ => 0)
  have e2 := xcell_e (18 + 2 * (8 * a + b) + 1) (by omega) (by omega) (by omega) (fun _ => 0)
  rw [show (18 + 2 * (8 * a + b) - 18) / 16 = a by omega] at e1
  rw [show (18 + 2 * (8 * a + b) + 1 - 18) / 16 = a by omega] at e2
  have e3 : cyc (8 * a + b + 1) = cyc (8 * a + b) ++ [.inr (1, [.int (nI (2 + a)), .int (nI (rnd a)), .ref (18 + 2 * (8 * a + b) + 1)]), .inl (0, 6 + rnd a, .inl (fun _ => 0))] := by
    rw [← e1, ← e2]
    unfold cyc
    rw [show 2 * (8 * a + b + 1) = 2 * (8 * a + b) + 1 + 1 by omega, List.range_succ, List.range_succ, List.map_append, List.map_append, List.append_assoc]
    rfl
  rw [List.append_assoc]
  show (w ++ _).set (15 + 1) _ = _
  rw [wSet (n := 15) hw 1, x6T, x6T, e3]
  rfl
section
variable {l : Launch} {w : q_Wd}
set_option maxRecDepth 100000 in
set_option maxHeartbeats 4000000 in
theorem CX6_iI {a n0 : Nat} {Q : q_P} (ha : a < 9) (hw : w.length = 15) (hX : Go l mX6_init n0 Q (2 + 2 * (8 * a + 8), slX (8 * a + 8)) 64 [some (.ref 15), some (.int (nI a)), some (.int (nI 8))] [] (w ++ x6T (8 * a + 8))) : ∀ (d b : Nat), b + d = 8 → Go l mX6_init n0 Q (2 + 2 * (8 * a + b), slX (8 * a + b)) 31 [some (.ref 15), some (.int (nI a)), some (.int (nI b))] [] (w ++ x6T (8 * a + b)) := by
  intro d
  induction d with
  | zero =>
    intro b hb
    have e1 : 8 = b := by omega
    subst e1
    refine g_iload_n dX6_init_31 rfl rfl ?_
    refine g_bipush (v := 8) dX6_init_32 (by decide) ?_
    refine g_icmp_ge (tgt := 64) dX6_init_34 rfl (fun c_34 => ?_) (fun c_34 => by exfalso; revert c_34; decide)
    exact hX
  | succ d ih =>
    intro b hb
    have hB := slXB (8 * a + b) (by omega)
    rw [show (8 * a + b) / 8 = a by omega] at hB
    refine g_iload_n dX6_init_31 rfl rfl ?_
    refine g_bipush (v := 8) dX6_init_32 (by decide) ?_
    refine g_icmp_ge (tgt := 64) dX6_init_34 rfl (fun c_34 => by exact absurd c_34 (nI_ge (b := 8) (by omega) (by decide))) (fun c_34 => ?_)
    refine g_aload_n dX6_init_37 rfl rfl ?_
    refine g_getf dX6_init_38 fX6_11 (x6at hw) rfl ?_
    refine g_iload_n dX6_init_41 rfl rfl ?_
    refine g_bipush (v := 8) dX6_init_42 (by decide) ?_
    refine g_imul dX6_init_44 ?_
    refine g_iload_n dX6_init_45 rfl rfl ?_
    refine g_iadd dX6_init_46 ?_
    rw [show nI a * 8 + nI b = nI (8 * a + b) by rw [show (8 : Int32) = nI 8 from rfl, nI_mul, nI_add, Nat.mul_comm]]
    refine g_new dX6_init_47 nX6_9 (by show 2 + 2 * (8 * a + b) + 1 ≤ 146; omega) (by show slX (8 * a + b) + 3 ≤ 6633; omega) ?_
    rw [x6len hw]
    refine g_dup dX6_init_50 rfl ?_
    refine g_iconst (v := 2) dX6_init_51 (by decide) ?_
    refine g_iload_n dX6_init_52 rfl rfl ?_
    refine g_iadd dX6_init_53 ?_
    rw [show (2 : Int32) + nI a = nI (2 + a) from nI_add 2 a]
    refine g_callI (as := [.int (nI (2 + a))]) (st := [.ref (18 + 2 * (8 * a + b)), .int (nI (8 * a + b)), .ref 16]) (CX1_init (n := 18 + 2 * (8 * a + b)) (x6len hw) ha) (kX6_init_21 _) rfl rfl dX6_init_54 (Nat.le_of_ble_eq_true rfl) ⟨by show 2 + 2 * (8 * a + b) + 1 + 1 ≤ 146; omega, hB⟩ ?_
    rintro r w1 ⟨rfl, rfl⟩
    refine g_aast (w' := w ++ x6T (8 * a + b + 1)) dX6_init_57 (x6at2 hw) (by rw [vp_in, nI_clamp (by omega)]; exact fun h => h.elim (nI_pos (by omega)) (fun h => by omega)) (wAt (x6len hw) 0 rfl) (by rw [nI_clamp (by omega), x6up]; exact x6step hw ha (by omega)) ?_
    refine g_iinc (v := 1) dX6_init_58 (by decide) rfl (Nat.le_of_ble_eq_true rfl) rfl ?_
    refine g_goto (tgt := 31) dX6_init_61 rfl ?_
    refine Go.rm (k' := (2 + 2 * (8 * a + (b + 1)), slX (8 * a + (b + 1)))) (Prod.ext rfl (show slX (8 * a + b) + 3 + (6 + rnd a) = slX (8 * a + b) + 3 + (6 + rnd ((8 * a + b) / 8)) by rw [show (8 * a + b) / 8 = a by omega])) ?_
    exact Go.eq rfl (show _ = _ by rw [← nI_1 b]; rfl) rfl rfl (ih (b + 1) (by omega))
set_option maxRecDepth 100000 in
set_option maxHeartbeats 4000000 in
theorem CX6_iO {n0 : Nat} {Q : q_P} (hw : w.length = 15) (hQ : Q none (w ++ x6T 72)) : ∀ (d a : Nat), a + d = 9 → Go l mX6_init n0 Q (2 + 2 * (8 * a), slX (8 * a)) 23 [some (.ref 15), some (.int (nI a)), none] [] (w ++ x6T (8 * a)) := by
  intro d
  induction d with
  | zero =>
    intro a ha
    have e1 : 9 = a := by omega
    subst e1
    refine g_iload_n dX6_init_23 rfl rfl ?_
    refine g_bipush (v := 9) dX6_init_24 (by decide) ?_
    refine g_icmp_ge (tgt := 70) dX6_init_26 rfl (fun c_26 => ?_) (fun c_26 => by exfalso; revert c_26; decide)
    exact g_vret dX6_init_70 rfl rfl hQ
  | succ d ih =>
    intro a ha
    refine g_iload_n dX6_init_23 rfl rfl ?_
    refine g_bipush (v := 9) dX6_init_24 (by decide) ?_
    refine g_icmp_ge (tgt := 70) dX6_init_26 rfl (fun c_26 => by exact absurd c_26 (nI_ge (b := 9) (by omega) (by decide))) (fun c_26 => ?_)
    refine g_iconst (v := 0) dX6_init_29 (by decide) ?_
    refine g_istore_n dX6_init_30 rfl (Nat.le_of_ble_eq_true rfl) rfl ?_
    refine CX6_iI (a := a) (by omega) hw ?_ 8 0 (by omega)
    refine g_iinc (v := 1) dX6_init_64 (by decide) rfl (Nat.le_of_ble_eq_true rfl) rfl ?_
    refine g_goto (tgt := 23) dX6_init_67 rfl ?_
    refine Go.cut [2] rfl ?_
    exact Go.eq rfl (show _ = _ by rw [← nI_1 a]; rfl) rfl rfl (ih (a + 1) (by omega))
set_option maxRecDepth 100000 in
set_option maxHeartbeats 4000000 in
theorem CX6_init (hw : w.length = 15) : Ct l mX6_init [.ref 15] (w ++ [.inr (6, [.null, .null])]) (q_eq none (w ++ x6T 72)) := by
  refine Ct.of rfl (Nat.le_of_ble_eq_true rfl) ?_
  refine g_aload_n dX6_init_0 rfl rfl ?_
  refine g_objInit dX6_init_1 tb_198 (Nat.le_of_ble_eq_true rfl) (Nat.le_of_ble_eq_true rfl) ?_
  refine g_aload_n dX6_init_4 rfl rfl ?_
  refine g_bipush (v := 72) dX6_init_5 (by decide) ?_
  refine g_newq (N := 72) dX6_init_7 tb_199 (by decide) rfl (by decide) (Nat.le_of_ble_eq_true rfl) (Nat.le_of_ble_eq_true rfl) ?_
  refine Go.nw hw ?_
  refine g_putF (w' := (w ++ [.inr (6, [.ref 16, .null]), .inl (3, 72, .inr (.inr (.inr (.inr (fun _ => none)))))])) dX6_init_10 pX6_11 rfl (wAt (n := 15) hw 0 rfl) (Nat.le_of_ble_eq_true rfl) (fun _ => rfl) (fun _ => rfl) (wSet (n := 15) hw 0) ?_
  refine g_aload_n dX6_init_13 rfl rfl ?_
  refine g_bipush (v := 9) dX6_init_14 (by decide) ?_
  refine g_newi (N := 9) dX6_init_16 (by decide) rfl (by decide) (Nat.le_of_ble_eq_true rfl) (Nat.le_of_ble_eq_true rfl) ?_
  refine Go.nw hw ?_
  refine g_putF (w' := (w ++ [.inr (6, [.ref 16, .ref 17]), .inl (3, 72, .inr (.inr (.inr (.inr (fun _ => none))))), .inl (0, 9, .inl (fun _ => 0))])) dX6_init_18 pX6_17 rfl (wAt (n := 15) hw 0 rfl) (Nat.le_of_ble_eq_true rfl) (fun _ => rfl) (fun _ => rfl) (wSet (n := 15) hw 0) ?_
  refine Go.eq rfl rfl rfl (show _ = w ++ x6T 0 by rw [show x6T 0 = [.inr (6, [.ref 16, .ref 17]), .inl (3, 72, .inr (.inr (.inr (.inr (fun _ => none))))), .inl (0, 9, .inl (fun _ => 0))] from by unfold x6T x6A cyc; simp]) ?_
  refine g_iconst (v := 0) dX6_init_21 (by decide) ?_
  refine g_istore_n dX6_init_22 rfl (Nat.le_of_ble_eq_true rfl) rfl ?_
  exact Go.eq rfl rfl rfl rfl (CX6_iO (l := l) (w := w) hw ⟨rfl, rfl⟩ 9 0 rfl)
set_option maxRecDepth 100000 in
set_option maxHeartbeats 4000000 in
theorem CX10_i2 {n0 : Nat} {Q : q_P} {U : q_Wd} (hU : U.length = 161) (hQ : Q none ((.inr (8, [.ref 1, .ref 4, .ref 6, .ref 8, .ref 12, .ref 13, .ref 15, .ref 162, .ref 166, .ref 168, .ref 171, .int 0, .int 0]) :: U) ++ [.inr (0, [.ref 163, .ref 164, .ref 165, .int 2, .int 0]), .inl (0, 17, .inl (fun _ => 0)), .inl (0, 17, .inl (fun _ => 0)), .inl (0, 17, .inl (fun _ => 0)), .inr (1, [.int 5, .int 120, .ref 167]), .inl (0, 126, .inl (fun _ => 0)), .inr (3, [.ref 169, .ref 170, .int 0]), .inl (0, 8, .inl (fun _ => 0)), .inl (0, 32, .inl (fun _ => 0)), .inr (4, [.ref 172, .int 0]), .inl (0, 8, .inl (fun _ => 0))])) : Go l mX10_init n0 Q (161, 8396) 85 [some (.ref 0)] [] (.inr (8, [.ref 1, .ref 4, .ref 6, .ref 8, .ref 12, .ref 13, .ref 15, .null, .null, .null, .null, .int 0, .int 0]) :: U) := by
  refine g_aload_n dX10_init_85 rfl rfl ?_
  have hl7 : ((.inr (8, [.ref 1, .ref 4, .ref 6, .ref 8, .ref 12, .ref 13, .ref 15, .null, .null, .null, .null, .int 0, .int 0]) :: U) : q_Wd).length = 162 := by show U.length + 1 = _; rw [hU]
  refine g_new dX10_init_86 nX10_56 (Nat.le_of_ble_eq_true rfl) (Nat.le_of_ble_eq_true rfl) ?_
  refine Go.eq rfl rfl (show _ = [Value.ref 162, Value.ref 0] from congrArg (fun m => [Value.ref m, Value.ref 0]) hl7) rfl ?_
  refine g_dup dX10_init_89 rfl ?_
  refine g_callIN (as := []) (st := [.ref 162, .ref 0]) (CX0_init (w := (.inr (8, [.ref 1, .ref 4, .ref 6, .ref 8, .ref 12, .ref 13, .ref 15, .null, .null, .null, .null, .int 0, .int 0]) :: U)) hl7) kX10_init_58 rfl rfl dX10_init_90 (Nat.le_of_ble_eq_true rfl) ⟨(Nat.le_of_ble_eq_true rfl), (Nat.le_of_ble_eq_true rfl)⟩ ?_
  rintro r w1 ⟨rfl, rfl⟩
  refine Go.eq rfl rfl (show _ = [Value.ref 162, Value.ref 0] from rfl) (show _ = ((.inr (8, [.ref 1, .ref 4, .ref 6, .ref 8, .ref 12, .ref 13, .ref 15, .null, .null, .null, .null, .int 0, .int 0]) :: U) ++ [.inr (0, [.ref 163, .ref 164, .ref 165, .int 2, .int 0]), .inl (0, 17, .inl (fun _ => 0)), .inl (0, 17, .inl (fun _ => 0)), .inl (0, 17, .inl (fun _ => 0))]) from rfl) ?_
  refine g_putF (w' := ((.inr (8, [.ref 1, .ref 4, .ref 6, .ref 8, .ref 12, .ref 13, .ref 15, .ref 162, .null, .null, .null, .int 0, .int 0]) :: U) ++ [.inr (0, [.ref 163, .ref 164, .ref 165, .int 2, .int 0]), .inl (0, 17, .inl (fun _ => 0)), .inl (0, 17, .inl (fun _ => 0)), .inl (0, 17, .inl (fun _ => 0))])) dX10_init_93 pX10_59 rfl rfl (Nat.le_of_ble_eq_true rfl) (fun _ => rfl) (fun _ => rfl) rfl ?_
  refine g_aload_n dX10_init_96 rfl rfl ?_
  have hl8 : (((.inr (8, [.ref 1, .ref 4, .ref 6, .ref 8, .ref 12, .ref 13, .ref 15, .ref 162, .null, .null, .null, .int 0, .int 0]) :: U) ++ [.inr (0, [.ref 163, .ref 164, .ref 165, .int 2, .int 0]), .inl (0, 17, .inl (fun _ => 0)), .inl (0, 17, .inl (fun _ => 0)), .inl (0, 17, .inl (fun _ => 0))]) : q_Wd).length = 166 := by show (U ++ _).length + 1 = _; rw [List.length_append, hU]; rfl
  refine g_new dX10_init_97 nX10_63 (Nat.le_of_ble_eq_true rfl) (Nat.le_of_ble_eq_true rfl) ?_
  refine Go.eq rfl rfl (show _ = [Value.ref 166, Value.ref 0] from congrArg (fun m => [Value.ref m, Value.ref 0]) hl8) rfl ?_
  refine g_dup dX10_init_100 rfl ?_
  refine g_iconst (v := 5) dX10_init_101 (by decide) ?_
  refine g_callI (as := [.int 5]) (st := [.ref 166, .ref 0]) (CX1_init (w := ((.inr (8, [.ref 1, .ref 4, .ref 6, .ref 8, .ref 12, .ref 13, .ref 15, .ref 162, .null, .null, .null, .int 0, .int 0]) :: U) ++ [.inr (0, [.ref 163, .ref 164, .ref 165, .int 2, .int 0]), .inl (0, 17, .inl (fun _ => 0)), .inl (0, 17, .inl (fun _ => 0)), .inl (0, 17, .inl (fun _ => 0))])) (a := 3) hl8 (by decide)) (kX10_init_65 _) rfl rfl dX10_init_102 (Nat.le_of_ble_eq_true rfl) ⟨(Nat.le_of_ble_eq_true rfl), (Nat.le_of_ble_eq_true rfl)⟩ ?_
  rintro r w1 ⟨rfl, rfl⟩
  refine Go.eq rfl rfl (show _ = [Value.ref 166, Value.ref 0] from rfl) (show _ = ((.inr (8, [.ref 1, .ref 4, .ref 6, .ref 8, .ref 12, .ref 13, .ref 15, .ref 162, .null, .null, .null, .int 0, .int 0]) :: U) ++ [.inr (0, [.ref 163, .ref 164, .ref 165, .int 2, .int 0]), .inl (0, 17, .inl (fun _ => 0)), .inl (0, 17, .inl (fun _ => 0)), .inl (0, 17, .inl (fun _ => 0)), .inr (1, [.int 5, .int 120, .ref 167]), .inl (0, 126, .inl (fun _ => 0))]) from List.append_assoc _ _ _) ?_
  refine g_putF (w' := ((.inr (8, [.ref 1, .ref 4, .ref 6, .ref 8, .ref 12, .ref 13, .ref 15, .ref 162, .ref 166, .null, .null, .int 0, .int 0]) :: U) ++ [.inr (0, [.ref 163, .ref 164, .ref 165, .int 2, .int 0]), .inl (0, 17, .inl (fun _ => 0)), .inl (0, 17, .inl (fun _ => 0)), .inl (0, 17, .inl (fun _ => 0)), .inr (1, [.int 5, .int 120, .ref 167]), .inl (0, 126, .inl (fun _ => 0))])) dX10_init_105 pX10_66 rfl rfl (Nat.le_of_ble_eq_true rfl) (fun _ => rfl) (fun _ => rfl) rfl ?_
  refine g_aload_n dX10_init_108 rfl rfl ?_
  have hl9 : (((.inr (8, [.ref 1, .ref 4, .ref 6, .ref 8, .ref 12, .ref 13, .ref 15, .ref 162, .ref 166, .null, .null, .int 0, .int 0]) :: U) ++ [.inr (0, [.ref 163, .ref 164, .ref 165, .int 2, .int 0]), .inl (0, 17, .inl (fun _ => 0)), .inl (0, 17, .inl (fun _ => 0)), .inl (0, 17, .inl (fun _ => 0)), .inr (1, [.int 5, .int 120, .ref 167]), .inl (0, 126, .inl (fun _ => 0))]) : q_Wd).length = 168 := by show (U ++ _).length + 1 = _; rw [List.length_append, hU]; rfl
  refine g_new dX10_init_109 nX10_7 (Nat.le_of_ble_eq_true rfl) (Nat.le_of_ble_eq_true rfl) ?_
  refine Go.eq rfl rfl (show _ = [Value.ref 168, Value.ref 0] from congrArg (fun m => [Value.ref m, Value.ref 0]) hl9) rfl ?_
  refine g_dup dX10_init_112 rfl ?_
  refine g_callIN (as := []) (st := [.ref 168, .ref 0]) (CX3_init (w := ((.inr (8, [.ref 1, .ref 4, .ref 6, .ref 8, .ref 12, .ref 13, .ref 15, .ref 162, .ref 166, .null, .null, .int 0, .int 0]) :: U) ++ [.inr (0, [.ref 163, .ref 164, .ref 165, .int 2, .int 0]), .inl (0, 17, .inl (fun _ => 0)), .inl (0, 17, .inl (fun _ => 0)), .inl (0, 17, .inl (fun _ => 0)), .inr (1, [.int 5, .int 120, .ref 167]), .inl (0, 126, .inl (fun _ => 0))])) hl9) kX10_init_9 rfl rfl dX10_init_113 (Nat.le_of_ble_eq_true rfl) ⟨(Nat.le_of_ble_eq_true rfl), (Nat.le_of_ble_eq_true rfl)⟩ ?_
  rintro r w1 ⟨rfl, rfl⟩
  refine Go.eq rfl rfl (show _ = [Value.ref 168, Value.ref 0] from rfl) (show _ = ((.inr (8, [.ref 1, .ref 4, .ref 6, .ref 8, .ref 12, .ref 13, .ref 15, .ref 162, .ref 166, .null, .null, .int 0, .int 0]) :: U) ++ [.inr (0, [.ref 163, .ref 164, .ref 165, .int 2, .int 0]), .inl (0, 17, .inl (fun _ => 0)), .inl (0, 17, .inl (fun _ => 0)), .inl (0, 17, .inl (fun _ => 0)), .inr (1, [.int 5, .int 120, .ref 167]), .inl (0, 126, .inl (fun _ => 0)), .inr (3, [.ref 169, .ref 170, .int 0]), .inl (0, 8, .inl (fun _ => 0)), .inl (0, 32, .inl (fun _ => 0))]) from List.append_assoc _ _ _) ?_
  refine g_putF (w' := ((.inr (8, [.ref 1, .ref 4, .ref 6, .ref 8, .ref 12, .ref 13, .ref 15, .ref 162, .ref 166, .ref 168, .null, .int 0, .int 0]) :: U) ++ [.inr (0, [.ref 163, .ref 164, .ref 165, .int 2, .int 0]), .inl (0, 17, .inl (fun _ => 0)), .inl (0, 17, .inl (fun _ => 0)), .inl (0, 17, .inl (fun _ => 0)), .inr (1, [.int 5, .int 120, .ref 167]), .inl (0, 126, .inl (fun _ => 0)), .inr (3, [.ref 169, .ref 170, .int 0]), .inl (0, 8, .inl (fun _ => 0)), .inl (0, 32, .inl (fun _ => 0))])) dX10_init_116 pX10_70 rfl rfl (Nat.le_of_ble_eq_true rfl) (fun _ => rfl) (fun _ => rfl) rfl ?_
  refine g_aload_n dX10_init_119 rfl rfl ?_
  have hl10 : (((.inr (8, [.ref 1, .ref 4, .ref 6, .ref 8, .ref 12, .ref 13, .ref 15, .ref 162, .ref 166, .ref 168, .null, .int 0, .int 0]) :: U) ++ [.inr (0, [.ref 163, .ref 164, .ref 165, .int 2, .int 0]), .inl (0, 17, .inl (fun _ => 0)), .inl (0, 17, .inl (fun _ => 0)), .inl (0, 17, .inl (fun _ => 0)), .inr (1, [.int 5, .int 120, .ref 167]), .inl (0, 126, .inl (fun _ => 0)), .inr (3, [.ref 169, .ref 170, .int 0]), .inl (0, 8, .inl (fun _ => 0)), .inl (0, 32, .inl (fun _ => 0))]) : q_Wd).length = 171 := by show (U ++ _).length + 1 = _; rw [List.length_append, hU]; rfl
  refine g_new dX10_init_120 nX10_16 (Nat.le_of_ble_eq_true rfl) (Nat.le_of_ble_eq_true rfl) ?_
  refine Go.eq rfl rfl (show _ = [Value.ref 171, Value.ref 0] from congrArg (fun m => [Value.ref m, Value.ref 0]) hl10) rfl ?_
  refine g_dup dX10_init_123 rfl ?_
  refine g_bipush (v := 8) dX10_init_124 (by decide) ?_
  refine g_callI (as := [.int 8]) (st := [.ref 171, .ref 0]) (CX4_init (w := ((.inr (8, [.ref 1, .ref 4, .ref 6, .ref 8, .ref 12, .ref 13, .ref 15, .ref 162, .ref 166, .ref 168, .null, .int 0, .int 0]) :: U) ++ [.inr (0, [.ref 163, .ref 164, .ref 165, .int 2, .int 0]), .inl (0, 17, .inl (fun _ => 0)), .inl (0, 17, .inl (fun _ => 0)), .inl (0, 17, .inl (fun _ => 0)), .inr (1, [.int 5, .int 120, .ref 167]), .inl (0, 126, .inl (fun _ => 0)), .inr (3, [.ref 169, .ref 170, .int 0]), .inl (0, 8, .inl (fun _ => 0)), .inl (0, 32, .inl (fun _ => 0))])) (N := 8) hl10 (by decide)) (kX10_init_18 _) rfl rfl dX10_init_126 (Nat.le_of_ble_eq_true rfl) ⟨(Nat.le_of_ble_eq_true rfl), (Nat.le_of_ble_eq_true rfl)⟩ ?_
  rintro r w1 ⟨rfl, rfl⟩
  refine Go.eq rfl rfl (show _ = [Value.ref 171, Value.ref 0] from rfl) (show _ = ((.inr (8, [.ref 1, .ref 4, .ref 6, .ref 8, .ref 12, .ref 13, .ref 15, .ref 162, .ref 166, .ref 168, .null, .int 0, .int 0]) :: U) ++ [.inr (0, [.ref 163, .ref 164, .ref 165, .int 2, .int 0]), .inl (0, 17, .inl (fun _ => 0)), .inl (0, 17, .inl (fun _ => 0)), .inl (0, 17, .inl (fun _ => 0)), .inr (1, [.int 5, .int 120, .ref 167]), .inl (0, 126, .inl (fun _ => 0)), .inr (3, [.ref 169, .ref 170, .int 0]), .inl (0, 8, .inl (fun _ => 0)), .inl (0, 32, .inl (fun _ => 0)), .inr (4, [.ref 172, .int 0]), .inl (0, 8, .inl (fun _ => 0))]) from List.append_assoc _ _ _) ?_
  refine g_putF (w' := ((.inr (8, [.ref 1, .ref 4, .ref 6, .ref 8, .ref 12, .ref 13, .ref 15, .ref 162, .ref 166, .ref 168, .ref 171, .int 0, .int 0]) :: U) ++ [.inr (0, [.ref 163, .ref 164, .ref 165, .int 2, .int 0]), .inl (0, 17, .inl (fun _ => 0)), .inl (0, 17, .inl (fun _ => 0)), .inl (0, 17, .inl (fun _ => 0)), .inr (1, [.int 5, .int 120, .ref 167]), .inl (0, 126, .inl (fun _ => 0)), .inr (3, [.ref 169, .ref 170, .int 0]), .inl (0, 8, .inl (fun _ => 0)), .inl (0, 32, .inl (fun _ => 0)), .inr (4, [.ref 172, .int 0]), .inl (0, 8, .inl (fun _ => 0))])) dX10_init_129 pX10_73 rfl rfl (Nat.le_of_ble_eq_true rfl) (fun _ => rfl) (fun _ => rfl) rfl ?_
  exact g_vret dX10_init_132 rfl rfl hQ
set_option maxRecDepth 100000 in
set_option maxHeartbeats 4000000 in
theorem CX10_init0 {Q : q_P} (hQ : Q none (([.inr (8, [.ref 1, .ref 4, .ref 6, .ref 8, .ref 12, .ref 13, .ref 15, .ref 162, .ref 166, .ref 168, .ref 171, .int 0, .int 0]), .inr (3, [.ref 2, .ref 3, .int 0]), .inl (0, 8, .inl (fun _ => 0)), .inl (0, 32, .inl (fun _ => 0)), .inr (4, [.ref 5, .int 0]), .inl (0, 8, .inl (fun _ => 0)), .inr (4, [.ref 7, .int 0]), .inl (0, 47, .inl (fun _ => 0)), .inr (5, [.ref 9, .int 0, .int 0]), .inr (3, [.ref 10, .ref 11, .int 0]), .inl (0, 8, .inl (fun _ => 0)), .inl (0, 32, .inl (fun _ => 0)), .inr (2, [.int 0, .int 0, .int 0]), .inr (7, [.ref 14, .int 0]), .inl (0, 1608, .inl (fun _ => 0))] ++ x6T 72) ++ [.inr (0, [.ref 163, .ref 164, .ref 165, .int 2, .int 0]), .inl (0, 17, .inl (fun _ => 0)), .inl (0, 17, .inl (fun _ => 0)), .inl (0, 17, .inl (fun _ => 0)), .inr (1, [.int 5, .int 120, .ref 167]), .inl (0, 126, .inl (fun _ => 0)), .inr (3, [.ref 169, .ref 170, .int 0]), .inl (0, 8, .inl (fun _ => 0)), .inl (0, 32, .inl (fun _ => 0)), .inr (4, [.ref 172, .int 0]), .inl (0, 8, .inl (fun _ => 0))])) : Ct l mX10_init [.ref 0] [.inr (8, [.null, .null, .null, .null, .null, .null, .null, .null, .null, .null, .null, .int 0, .int 0])] Q := by
  refine Ct.of rfl (Nat.le_of_ble_eq_true rfl) ?_
  refine g_aload_n dX10_init_0 rfl rfl ?_
  refine g_objInit dX10_init_1 tb_110 (Nat.le_of_ble_eq_true rfl) (Nat.le_of_ble_eq_true rfl) ?_
  refine g_aload_n dX10_init_4 rfl rfl ?_
  have hl0 : ([.inr (8, [.null, .null, .null, .null, .null, .null, .null, .null, .null, .null, .null, .int 0, .int 0])] : q_Wd).length = 1 := rfl
  refine g_new dX10_init_5 nX10_7 (Nat.le_of_ble_eq_true rfl) (Nat.le_of_ble_eq_true rfl) ?_
  refine Go.eq rfl rfl (show _ = [Value.ref 1, Value.ref 0] from congrArg (fun m => [Value.ref m, Value.ref 0]) hl0) rfl ?_
  refine g_dup dX10_init_8 rfl ?_
  refine g_callIN (as := []) (st := [.ref 1, .ref 0]) (CX3_init (w := [.inr (8, [.null, .null, .null, .null, .null, .null, .null, .null, .null, .null, .null, .int 0, .int 0])]) hl0) kX10_init_9 rfl rfl dX10_init_9 (Nat.le_of_ble_eq_true rfl) ⟨(Nat.le_of_ble_eq_true rfl), (Nat.le_of_ble_eq_true rfl)⟩ ?_
  rintro r w1 ⟨rfl, rfl⟩
  refine Go.eq rfl rfl (show _ = [Value.ref 1, Value.ref 0] from rfl) (show _ = [.inr (8, [.null, .null, .null, .null, .null, .null, .null, .null, .null, .null, .null, .int 0, .int 0]), .inr (3, [.ref 2, .ref 3, .int 0]), .inl (0, 8, .inl (fun _ => 0)), .inl (0, 32, .inl (fun _ => 0))] from rfl) ?_
  refine g_putF (w' := [.inr (8, [.ref 1, .null, .null, .null, .null, .null, .null, .null, .null, .null, .null, .int 0, .int 0]), .inr (3, [.ref 2, .ref 3, .int 0]), .inl (0, 8, .inl (fun _ => 0)), .inl (0, 32, .inl (fun _ => 0))]) dX10_init_12 pX10_10 rfl rfl (Nat.le_of_ble_eq_true rfl) (fun _ => rfl) (fun _ => rfl) rfl ?_
  refine g_aload_n dX10_init_15 rfl rfl ?_
  have hl1 : ([.inr (8, [.ref 1, .null, .null, .null, .null, .null, .null, .null, .null, .null, .null, .int 0, .int 0]), .inr (3, [.ref 2, .ref 3, .int 0]), .inl (0, 8, .inl (fun _ => 0)), .inl (0, 32, .inl (fun _ => 0))] : q_Wd).length = 4 := rfl
  refine g_new dX10_init_16 nX10_16 (Nat.le_of_ble_eq_true rfl) (Nat.le_of_ble_eq_true rfl) ?_
  refine Go.eq rfl rfl (show _ = [Value.ref 4, Value.ref 0] from congrArg (fun m => [Value.ref m, Value.ref 0]) hl1) rfl ?_
  refine g_dup dX10_init_19 rfl ?_
  refine g_bipush (v := 8) dX10_init_20 (by decide) ?_
  refine g_callI (as := [.int 8]) (st := [.ref 4, .ref 0]) (CX4_init (w := [.inr (8, [.ref 1, .null, .null, .null, .null, .null, .null, .null, .null, .null, .null, .int 0, .int 0]), .inr (3, [.ref 2, .ref 3, .int 0]), .inl (0, 8, .inl (fun _ => 0)), .inl (0, 32, .inl (fun _ => 0))]) (N := 8) hl1 (by decide)) (kX10_init_18 _) rfl rfl dX10_init_22 (Nat.le_of_ble_eq_true rfl) ⟨(Nat.le_of_ble_eq_true rfl), (Nat.le_of_ble_eq_true rfl)⟩ ?_
  rintro r w1 ⟨rfl, rfl⟩
  refine Go.eq rfl rfl (show _ = [Value.ref 4, Value.ref 0] from rfl) (show _ = [.inr (8, [.ref 1, .null, .null, .null, .null, .null, .null, .null, .null, .null, .null, .int 0, .int 0]), .inr (3, [.ref 2, .ref 3, .int 0]), .inl (0, 8, .inl (fun _ => 0)), .inl (0, 32, .inl (fun _ => 0)), .inr (4, [.ref 5, .int 0]), .inl (0, 8, .inl (fun _ => 0))] from rfl) ?_
  refine g_putF (w' := [.inr (8, [.ref 1, .ref 4, .null, .null, .null, .null, .null, .null, .null, .null, .null, .int 0, .int 0]), .inr (3, [.ref 2, .ref 3, .int 0]), .inl (0, 8, .inl (fun _ => 0)), .inl (0, 32, .inl (fun _ => 0)), .inr (4, [.ref 5, .int 0]), .inl (0, 8, .inl (fun _ => 0))]) dX10_init_25 pX10_21 rfl rfl (Nat.le_of_ble_eq_true rfl) (fun _ => rfl) (fun _ => rfl) rfl ?_
  refine g_aload_n dX10_init_28 rfl rfl ?_
  have hl2 : ([.inr (8, [.ref 1, .ref 4, .null, .null, .null, .null, .null, .null, .null, .null, .null, .int 0, .int 0]), .inr (3, [.ref 2, .ref 3, .int 0]), .inl (0, 8, .inl (fun _ => 0)), .inl (0, 32, .inl (fun _ => 0)), .inr (4, [.ref 5, .int 0]), .inl (0, 8, .inl (fun _ => 0))] : q_Wd).length = 6 := rfl
  refine g_new dX10_init_29 nX10_16 (Nat.le_of_ble_eq_true rfl) (Nat.le_of_ble_eq_true rfl) ?_
  refine Go.eq rfl rfl (show _ = [Value.ref 6, Value.ref 0] from congrArg (fun m => [Value.ref m, Value.ref 0]) hl2) rfl ?_
  refine g_dup dX10_init_32 rfl ?_
  refine g_bipush (v := 47) dX10_init_33 (by decide) ?_
  refine g_callI (as := [.int 47]) (st := [.ref 6, .ref 0]) (CX4_init (w := [.inr (8, [.ref 1, .ref 4, .null, .null, .null, .null, .null, .null, .null, .null, .null, .int 0, .int 0]), .inr (3, [.ref 2, .ref 3, .int 0]), .inl (0, 8, .inl (fun _ => 0)), .inl (0, 32, .inl (fun _ => 0)), .inr (4, [.ref 5, .int 0]), .inl (0, 8, .inl (fun _ => 0))]) (N := 47) hl2 (by decide)) (kX10_init_18 _) rfl rfl dX10_init_35 (Nat.le_of_ble_eq_true rfl) ⟨(Nat.le_of_ble_eq_true rfl), (Nat.le_of_ble_eq_true rfl)⟩ ?_
  rintro r w1 ⟨rfl, rfl⟩
  refine Go.eq rfl rfl (show _ = [Value.ref 6, Value.ref 0] from rfl) (show _ = [.inr (8, [.ref 1, .ref 4, .null, .null, .null, .null, .null, .null, .null, .null, .null, .int 0, .int 0]), .inr (3, [.ref 2, .ref 3, .int 0]), .inl (0, 8, .inl (fun _ => 0)), .inl (0, 32, .inl (fun _ => 0)), .inr (4, [.ref 5, .int 0]), .inl (0, 8, .inl (fun _ => 0)), .inr (4, [.ref 7, .int 0]), .inl (0, 47, .inl (fun _ => 0))] from rfl) ?_
  refine g_putF (w' := [.inr (8, [.ref 1, .ref 4, .ref 6, .null, .null, .null, .null, .null, .null, .null, .null, .int 0, .int 0]), .inr (3, [.ref 2, .ref 3, .int 0]), .inl (0, 8, .inl (fun _ => 0)), .inl (0, 32, .inl (fun _ => 0)), .inr (4, [.ref 5, .int 0]), .inl (0, 8, .inl (fun _ => 0)), .inr (4, [.ref 7, .int 0]), .inl (0, 47, .inl (fun _ => 0))]) dX10_init_38 pX10_25 rfl rfl (Nat.le_of_ble_eq_true rfl) (fun _ => rfl) (fun _ => rfl) rfl ?_
  refine g_aload_n dX10_init_41 rfl rfl ?_
  have hl3 : ([.inr (8, [.ref 1, .ref 4, .ref 6, .null, .null, .null, .null, .null, .null, .null, .null, .int 0, .int 0]), .inr (3, [.ref 2, .ref 3, .int 0]), .inl (0, 8, .inl (fun _ => 0)), .inl (0, 32, .inl (fun _ => 0)), .inr (4, [.ref 5, .int 0]), .inl (0, 8, .inl (fun _ => 0)), .inr (4, [.ref 7, .int 0]), .inl (0, 47, .inl (fun _ => 0))] : q_Wd).length = 8 := rfl
  refine g_new dX10_init_42 nX10_28 (Nat.le_of_ble_eq_true rfl) (Nat.le_of_ble_eq_true rfl) ?_
  refine Go.eq rfl rfl (show _ = [Value.ref 8, Value.ref 0] from congrArg (fun m => [Value.ref m, Value.ref 0]) hl3) rfl ?_
  refine g_dup dX10_init_45 rfl ?_
  refine g_callIN (as := []) (st := [.ref 8, .ref 0]) (CX5_init (w := [.inr (8, [.ref 1, .ref 4, .ref 6, .null, .null, .null, .null, .null, .null, .null, .null, .int 0, .int 0]), .inr (3, [.ref 2, .ref 3, .int 0]), .inl (0, 8, .inl (fun _ => 0)), .inl (0, 32, .inl (fun _ => 0)), .inr (4, [.ref 5, .int 0]), .inl (0, 8, .inl (fun _ => 0)), .inr (4, [.ref 7, .int 0]), .inl (0, 47, .inl (fun _ => 0))]) hl3) kX10_init_30 rfl rfl dX10_init_46 (Nat.le_of_ble_eq_true rfl) ⟨(Nat.le_of_ble_eq_true rfl), (Nat.le_of_ble_eq_true rfl)⟩ ?_
  rintro r w1 ⟨rfl, rfl⟩
  refine Go.eq rfl rfl (show _ = [Value.ref 8, Value.ref 0] from rfl) (show _ = [.inr (8, [.ref 1, .ref 4, .ref 6, .null, .null, .null, .null, .null, .null, .null, .null, .int 0, .int 0]), .inr (3, [.ref 2, .ref 3, .int 0]), .inl (0, 8, .inl (fun _ => 0)), .inl (0, 32, .inl (fun _ => 0)), .inr (4, [.ref 5, .int 0]), .inl (0, 8, .inl (fun _ => 0)), .inr (4, [.ref 7, .int 0]), .inl (0, 47, .inl (fun _ => 0)), .inr (5, [.ref 9, .int 0, .int 0]), .inr (3, [.ref 10, .ref 11, .int 0]), .inl (0, 8, .inl (fun _ => 0)), .inl (0, 32, .inl (fun _ => 0))] from rfl) ?_
  refine g_putF (w' := [.inr (8, [.ref 1, .ref 4, .ref 6, .ref 8, .null, .null, .null, .null, .null, .null, .null, .int 0, .int 0]), .inr (3, [.ref 2, .ref 3, .int 0]), .inl (0, 8, .inl (fun _ => 0)), .inl (0, 32, .inl (fun _ => 0)), .inr (4, [.ref 5, .int 0]), .inl (0, 8, .inl (fun _ => 0)), .inr (4, [.ref 7, .int 0]), .inl (0, 47, .inl (fun _ => 0)), .inr (5, [.ref 9, .int 0, .int 0]), .inr (3, [.ref 10, .ref 11, .int 0]), .inl (0, 8, .inl (fun _ => 0)), .inl (0, 32, .inl (fun _ => 0))]) dX10_init_49 pX10_31 rfl rfl (Nat.le_of_ble_eq_true rfl) (fun _ => rfl) (fun _ => rfl) rfl ?_
  refine g_aload_n dX10_init_52 rfl rfl ?_
  have hl4 : ([.inr (8, [.ref 1, .ref 4, .ref 6, .ref 8, .null, .null, .null, .null, .null, .null, .null, .int 0, .int 0]), .inr (3, [.ref 2, .ref 3, .int 0]), .inl (0, 8, .inl (fun _ => 0)), .inl (0, 32, .inl (fun _ => 0)), .inr (4, [.ref 5, .int 0]), .inl (0, 8, .inl (fun _ => 0)), .inr (4, [.ref 7, .int 0]), .inl (0, 47, .inl (fun _ => 0)), .inr (5, [.ref 9, .int 0, .int 0]), .inr (3, [.ref 10, .ref 11, .int 0]), .inl (0, 8, .inl (fun _ => 0)), .inl (0, 32, .inl (fun _ => 0))] : q_Wd).length = 12 := rfl
  refine g_new dX10_init_53 nX10_35 (Nat.le_of_ble_eq_true rfl) (Nat.le_of_ble_eq_true rfl) ?_
  refine Go.eq rfl rfl (show _ = [Value.ref 12, Value.ref 0] from congrArg (fun m => [Value.ref m, Value.ref 0]) hl4) rfl ?_
  refine g_dup dX10_init_56 rfl ?_
  refine g_callIN (as := []) (st := [.ref 12, .ref 0]) (CX2_init (w := [.inr (8, [.ref 1, .ref 4, .ref 6, .ref 8, .null, .null, .null, .null, .null, .null, .null, .int 0, .int 0]), .inr (3, [.ref 2, .ref 3, .int 0]), .inl (0, 8, .inl (fun _ => 0)), .inl (0, 32, .inl (fun _ => 0)), .inr (4, [.ref 5, .int 0]), .inl (0, 8, .inl (fun _ => 0)), .inr (4, [.ref 7, .int 0]), .inl (0, 47, .inl (fun _ => 0)), .inr (5, [.ref 9, .int 0, .int 0]), .inr (3, [.ref 10, .ref 11, .int 0]), .inl (0, 8, .inl (fun _ => 0)), .inl (0, 32, .inl (fun _ => 0))]) hl4) kX10_init_37 rfl rfl dX10_init_57 (Nat.le_of_ble_eq_true rfl) ⟨(Nat.le_of_ble_eq_true rfl), (Nat.le_of_ble_eq_true rfl)⟩ ?_
  rintro r w1 ⟨rfl, rfl⟩
  refine Go.eq rfl rfl (show _ = [Value.ref 12, Value.ref 0] from rfl) (show _ = [.inr (8, [.ref 1, .ref 4, .ref 6, .ref 8, .null, .null, .null, .null, .null, .null, .null, .int 0, .int 0]), .inr (3, [.ref 2, .ref 3, .int 0]), .inl (0, 8, .inl (fun _ => 0)), .inl (0, 32, .inl (fun _ => 0)), .inr (4, [.ref 5, .int 0]), .inl (0, 8, .inl (fun _ => 0)), .inr (4, [.ref 7, .int 0]), .inl (0, 47, .inl (fun _ => 0)), .inr (5, [.ref 9, .int 0, .int 0]), .inr (3, [.ref 10, .ref 11, .int 0]), .inl (0, 8, .inl (fun _ => 0)), .inl (0, 32, .inl (fun _ => 0)), .inr (2, [.int 0, .int 0, .int 0])] from rfl) ?_
  refine g_putF (w' := [.inr (8, [.ref 1, .ref 4, .ref 6, .ref 8, .ref 12, .null, .null, .null, .null, .null, .null, .int 0, .int 0]), .inr (3, [.ref 2, .ref 3, .int 0]), .inl (0, 8, .inl (fun _ => 0)), .inl (0, 32, .inl (fun _ => 0)), .inr (4, [.ref 5, .int 0]), .inl (0, 8, .inl (fun _ => 0)), .inr (4, [.ref 7, .int 0]), .inl (0, 47, .inl (fun _ => 0)), .inr (5, [.ref 9, .int 0, .int 0]), .inr (3, [.ref 10, .ref 11, .int 0]), .inl (0, 8, .inl (fun _ => 0)), .inl (0, 32, .inl (fun _ => 0)), .inr (2, [.int 0, .int 0, .int 0])]) dX10_init_60 pX10_38 rfl rfl (Nat.le_of_ble_eq_true rfl) (fun _ => rfl) (fun _ => rfl) rfl ?_
  refine g_aload_n dX10_init_63 rfl rfl ?_
  have hl5 : ([.inr (8, [.ref 1, .ref 4, .ref 6, .ref 8, .ref 12, .null, .null, .null, .null, .null, .null, .int 0, .int 0]), .inr (3, [.ref 2, .ref 3, .int 0]), .inl (0, 8, .inl (fun _ => 0)), .inl (0, 32, .inl (fun _ => 0)), .inr (4, [.ref 5, .int 0]), .inl (0, 8, .inl (fun _ => 0)), .inr (4, [.ref 7, .int 0]), .inl (0, 47, .inl (fun _ => 0)), .inr (5, [.ref 9, .int 0, .int 0]), .inr (3, [.ref 10, .ref 11, .int 0]), .inl (0, 8, .inl (fun _ => 0)), .inl (0, 32, .inl (fun _ => 0)), .inr (2, [.int 0, .int 0, .int 0])] : q_Wd).length = 13 := rfl
  refine g_new dX10_init_64 nX10_42 (Nat.le_of_ble_eq_true rfl) (Nat.le_of_ble_eq_true rfl) ?_
  refine Go.eq rfl rfl (show _ = [Value.ref 13, Value.ref 0] from congrArg (fun m => [Value.ref m, Value.ref 0]) hl5) rfl ?_
  refine g_dup dX10_init_67 rfl ?_
  refine g_callIN (as := []) (st := [.ref 13, .ref 0]) (CX9_init (w := [.inr (8, [.ref 1, .ref 4, .ref 6, .ref 8, .ref 12, .null, .null, .null, .null, .null, .null, .int 0, .int 0]), .inr (3, [.ref 2, .ref 3, .int 0]), .inl (0, 8, .inl (fun _ => 0)), .inl (0, 32, .inl (fun _ => 0)), .inr (4, [.ref 5, .int 0]), .inl (0, 8, .inl (fun _ => 0)), .inr (4, [.ref 7, .int 0]), .inl (0, 47, .inl (fun _ => 0)), .inr (5, [.ref 9, .int 0, .int 0]), .inr (3, [.ref 10, .ref 11, .int 0]), .inl (0, 8, .inl (fun _ => 0)), .inl (0, 32, .inl (fun _ => 0)), .inr (2, [.int 0, .int 0, .int 0])]) hl5) kX10_init_44 rfl rfl dX10_init_68 (Nat.le_of_ble_eq_true rfl) ⟨(Nat.le_of_ble_eq_true rfl), (Nat.le_of_ble_eq_true rfl)⟩ ?_
  rintro r w1 ⟨rfl, rfl⟩
  refine Go.eq rfl rfl (show _ = [Value.ref 13, Value.ref 0] from rfl) (show _ = [.inr (8, [.ref 1, .ref 4, .ref 6, .ref 8, .ref 12, .null, .null, .null, .null, .null, .null, .int 0, .int 0]), .inr (3, [.ref 2, .ref 3, .int 0]), .inl (0, 8, .inl (fun _ => 0)), .inl (0, 32, .inl (fun _ => 0)), .inr (4, [.ref 5, .int 0]), .inl (0, 8, .inl (fun _ => 0)), .inr (4, [.ref 7, .int 0]), .inl (0, 47, .inl (fun _ => 0)), .inr (5, [.ref 9, .int 0, .int 0]), .inr (3, [.ref 10, .ref 11, .int 0]), .inl (0, 8, .inl (fun _ => 0)), .inl (0, 32, .inl (fun _ => 0)), .inr (2, [.int 0, .int 0, .int 0]), .inr (7, [.ref 14, .int 0]), .inl (0, 1608, .inl (fun _ => 0))] from rfl) ?_
  refine g_putF (w' := [.inr (8, [.ref 1, .ref 4, .ref 6, .ref 8, .ref 12, .ref 13, .null, .null, .null, .null, .null, .int 0, .int 0]), .inr (3, [.ref 2, .ref 3, .int 0]), .inl (0, 8, .inl (fun _ => 0)), .inl (0, 32, .inl (fun _ => 0)), .inr (4, [.ref 5, .int 0]), .inl (0, 8, .inl (fun _ => 0)), .inr (4, [.ref 7, .int 0]), .inl (0, 47, .inl (fun _ => 0)), .inr (5, [.ref 9, .int 0, .int 0]), .inr (3, [.ref 10, .ref 11, .int 0]), .inl (0, 8, .inl (fun _ => 0)), .inl (0, 32, .inl (fun _ => 0)), .inr (2, [.int 0, .int 0, .int 0]), .inr (7, [.ref 14, .int 0]), .inl (0, 1608, .inl (fun _ => 0))]) dX10_init_71 pX10_45 rfl rfl (Nat.le_of_ble_eq_true rfl) (fun _ => rfl) (fun _ => rfl) rfl ?_
  refine g_aload_n dX10_init_74 rfl rfl ?_
  have hl6 : ([.inr (8, [.ref 1, .ref 4, .ref 6, .ref 8, .ref 12, .ref 13, .null, .null, .null, .null, .null, .int 0, .int 0]), .inr (3, [.ref 2, .ref 3, .int 0]), .inl (0, 8, .inl (fun _ => 0)), .inl (0, 32, .inl (fun _ => 0)), .inr (4, [.ref 5, .int 0]), .inl (0, 8, .inl (fun _ => 0)), .inr (4, [.ref 7, .int 0]), .inl (0, 47, .inl (fun _ => 0)), .inr (5, [.ref 9, .int 0, .int 0]), .inr (3, [.ref 10, .ref 11, .int 0]), .inl (0, 8, .inl (fun _ => 0)), .inl (0, 32, .inl (fun _ => 0)), .inr (2, [.int 0, .int 0, .int 0]), .inr (7, [.ref 14, .int 0]), .inl (0, 1608, .inl (fun _ => 0))] : q_Wd).length = 15 := rfl
  refine g_new dX10_init_75 nX10_49 (Nat.le_of_ble_eq_true rfl) (Nat.le_of_ble_eq_true rfl) ?_
  refine Go.eq rfl rfl (show _ = [Value.ref 15, Value.ref 0] from congrArg (fun m => [Value.ref m, Value.ref 0]) hl6) rfl ?_
  refine g_dup dX10_init_78 rfl ?_
  refine g_callI (as := []) (st := [.ref 15, .ref 0]) (CX6_init (w := [.inr (8, [.ref 1, .ref 4, .ref 6, .ref 8, .ref 12, .ref 13, .null, .null, .null, .null, .null, .int 0, .int 0]), .inr (3, [.ref 2, .ref 3, .int 0]), .inl (0, 8, .inl (fun _ => 0)), .inl (0, 32, .inl (fun _ => 0)), .inr (4, [.ref 5, .int 0]), .inl (0, 8, .inl (fun _ => 0)), .inr (4, [.ref 7, .int 0]), .inl (0, 47, .inl (fun _ => 0)), .inr (5, [.ref 9, .int 0, .int 0]), .inr (3, [.ref 10, .ref 11, .int 0]), .inl (0, 8, .inl (fun _ => 0)), .inl (0, 32, .inl (fun _ => 0)), .inr (2, [.int 0, .int 0, .int 0]), .inr (7, [.ref 14, .int 0]), .inl (0, 1608, .inl (fun _ => 0))]) hl6) kX10_init_51 rfl rfl dX10_init_79 (Nat.le_of_ble_eq_true rfl) ⟨(Nat.le_of_ble_eq_true rfl), (Nat.le_of_ble_eq_true rfl)⟩ ?_
  rintro r w1 ⟨rfl, rfl⟩
  refine g_putF (w' := ([.inr (8, [.ref 1, .ref 4, .ref 6, .ref 8, .ref 12, .ref 13, .ref 15, .null, .null, .null, .null, .int 0, .int 0]), .inr (3, [.ref 2, .ref 3, .int 0]), .inl (0, 8, .inl (fun _ => 0)), .inl (0, 32, .inl (fun _ => 0)), .inr (4, [.ref 5, .int 0]), .inl (0, 8, .inl (fun _ => 0)), .inr (4, [.ref 7, .int 0]), .inl (0, 47, .inl (fun _ => 0)), .inr (5, [.ref 9, .int 0, .int 0]), .inr (3, [.ref 10, .ref 11, .int 0]), .inl (0, 8, .inl (fun _ => 0)), .inl (0, 32, .inl (fun _ => 0)), .inr (2, [.int 0, .int 0, .int 0]), .inr (7, [.ref 14, .int 0]), .inl (0, 1608, .inl (fun _ => 0))] ++ x6T 72)) dX10_init_82 pX10_52 rfl rfl (Nat.le_of_ble_eq_true rfl) (fun _ => rfl) (fun _ => rfl) rfl ?_
  have hz := x6len (w := [.inr (8, [.ref 1, .ref 4, .ref 6, .ref 8, .ref 12, .ref 13, .ref 15, .null, .null, .null, .null, .int 0, .int 0]), .inr (3, [.ref 2, .ref 3, .int 0]), .inl (0, 8, .inl (fun _ => 0)), .inl (0, 32, .inl (fun _ => 0)), .inr (4, [.ref 5, .int 0]), .inl (0, 8, .inl (fun _ => 0)), .inr (4, [.ref 7, .int 0]), .inl (0, 47, .inl (fun _ => 0)), .inr (5, [.ref 9, .int 0, .int 0]), .inr (3, [.ref 10, .ref 11, .int 0]), .inl (0, 8, .inl (fun _ => 0)), .inl (0, 32, .inl (fun _ => 0)), .inr (2, [.int 0, .int 0, .int 0]), .inr (7, [.ref 14, .int 0]), .inl (0, 1608, .inl (fun _ => 0))]) (j := 72) rfl
  have hU0 : (([.inr (3, [.ref 2, .ref 3, .int 0]), .inl (0, 8, .inl (fun _ => 0)), .inl (0, 32, .inl (fun _ => 0)), .inr (4, [.ref 5, .int 0]), .inl (0, 8, .inl (fun _ => 0)), .inr (4, [.ref 7, .int 0]), .inl (0, 47, .inl (fun _ => 0)), .inr (5, [.ref 9, .int 0, .int 0]), .inr (3, [.ref 10, .ref 11, .int 0]), .inl (0, 8, .inl (fun _ => 0)), .inl (0, 32, .inl (fun _ => 0)), .inr (2, [.int 0, .int 0, .int 0]), .inr (7, [.ref 14, .int 0]), .inl (0, 1608, .inl (fun _ => 0))] : q_Wd) ++ x6T 72).length = 161 := Nat.succ.inj hz
  exact CX10_i2 (U := ([.inr (3, [.ref 2, .ref 3, .int 0]), .inl (0, 8, .inl (fun _ => 0)), .inl (0, 32, .inl (fun _ => 0)), .inr (4, [.ref 5, .int 0]), .inl (0, 8, .inl (fun _ => 0)), .inr (4, [.ref 7, .int 0]), .inl (0, 47, .inl (fun _ => 0)), .inr (5, [.ref 9, .int 0, .int 0]), .inr (3, [.ref 10, .ref 11, .int 0]), .inl (0, 8, .inl (fun _ => 0)), .inl (0, 32, .inl (fun _ => 0)), .inr (2, [.int 0, .int 0, .int 0]), .inr (7, [.ref 14, .int 0]), .inl (0, 1608, .inl (fun _ => 0))] : q_Wd) ++ x6T 72) hU0 hQ
end
def xS0 : Nat → Nat → Int32 := put (fun _ _ => 0) 162 3 2
theorem rng173 : List.range 173 = ([0, 1, 2, 3, 4, 5, 6, 7, 8, 9, 10, 11, 12, 13, 14] ++ ([15, 16, 17] ++ (List.range (2 * 72)).map (fun c => 18 + c))) ++ [162, 163, 164, 165, 166, 167, 168, 169, 170, 171, 172] := by decide +kernel
theorem xW0 : ([.inr (8, [.ref 1, .ref 4, .ref 6, .ref 8, .ref 12, .ref 13, .ref 15, .ref 162, .ref 166, .ref 168, .ref 171, .int 0, .int 0]), .inr (3, [.ref 2, .ref 3, .int 0]), .inl (0, 8, .inl (fun _ => 0)), .inl (0, 32, .inl (fun _ => 0)), .inr (4, [.ref 5, .int 0]), .inl (0, 8, .inl (fun _ => 0)), .inr (4, [.ref 7, .int 0]), .inl (0, 47, .inl (fun _ => 0)), .inr (5, [.ref 9, .int 0, .int 0]), .inr (3, [.ref 10, .ref 11, .int 0]), .inl (0, 8, .inl (fun _ => 0)), .inl (0, 32, .inl (fun _ => 0)), .inr (2, [.int 0, .int 0, .int 0]), .inr (7, [.ref 14, .int 0]), .inl (0, 1608, .inl (fun _ => 0))] ++ x6T 72) ++ [.inr (0, [.ref 163, .ref 164, .ref 165, .int 2, .int 0]), .inl (0, 17, .inl (fun _ => 0)), .inl (0, 17, .inl (fun _ => 0)), .inl (0, 17, .inl (fun _ => 0)), .inr (1, [.int 5, .int 120, .ref 167]), .inl (0, 126, .inl (fun _ => 0)), .inr (3, [.ref 169, .ref 170, .int 0]), .inl (0, 8, .inl (fun _ => 0)), .inl (0, 32, .inl (fun _ => 0)), .inr (4, [.ref 172, .int 0]), .inl (0, 8, .inl (fun _ => 0))] = xW xS0 := by
  have e : (List.map (fun c => xcell c (xS0 c)) (List.map (fun c => 18 + c) (List.range (2 * 72)))) = cyc 72 := by
    rw [List.map_map]
    unfold cyc
    refine List.map_congr_left (fun c hc => ?_)
    have := List.mem_range.mp hc
    show xcell (18 + c) (put (fun _ _ => 0) 162 3 2 (18 + c)) = _
    rw [put_ne (by omega)]
  unfold xW x6T
  rw [rng173, List.map_append, List.map_append, List.map_append, e]
  rfl
theorem CX10_init {l : Launch} : Ct l mX10_init [.ref 0] [.inr (8, [.null, .null, .null, .null, .null, .null, .null, .null, .null, .null, .null, .int 0, .int 0])] (q_eq none (xW xS0)) := CX10_init0 ⟨rfl, xW0⟩
