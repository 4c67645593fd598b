def cxP (σ : Nat → Nat → Int32) (C B S : Nat → Int32) (p L : Int32) : Nat → Nat → Int32 := fun c => if c = 162 then (fun k => if k = 3 then p else if k = 4 then L else σ 162 k) else if c = 163 then C else if c = 164 then B else if c = 165 then S else σ c
theorem cxP_id {σ : Nat → Nat → Int32} : cxP σ (σ 163) (σ 164) (σ 165) (σ 162 3) (σ 162 4) = σ := by
  funext c i
  unfold cxP
  by_cases h : c = 162
  · subst h
    by_cases h3 : i = 3
    · simp [h3]
    · by_cases h4 : i = 4 <;> simp [h3, h4]
  · by_cases h1 : c = 163
    · simp [h1]
    · by_cases h2 : c = 164
      · simp [h2]
      · by_cases h3 : c = 165 <;> simp [h, h1, h2, h3]
theorem cxP_C {σ : Nat → Nat → Int32} {C B S : Nat → Int32} {p L : Int32} {F : Nat → Int32} : putC (cxP σ C B S p L) 163 F = cxP σ F B S p L := by
  funext c; unfold putC cxP; by_cases h : c = 163 <;> simp [h]
theorem cxP_B {σ : Nat → Nat → Int32} {C B S : Nat → Int32} {p L : Int32} {F : Nat → Int32} : putC (cxP σ C B S p L) 164 F = cxP σ C F S p L := by
  funext c; unfold putC cxP; by_cases h : c = 164 <;> simp [h]
theorem cxP_S {σ : Nat → Nat → Int32} {C B S : Nat → Int32} {p L : Int32} {F : Nat → Int32} : putC (cxP σ C B S p L) 165 F = cxP σ C B F p L := by
  funext c; unfold putC cxP; by_cases h : c = 165 <;> simp [h]
theorem cxP_p {σ : Nat → Nat → Int32} {C B S : Nat → Int32} {p L x : Int32} : put (cxP σ C B S p L) 162 3 x = cxP σ C B S x L := by
  funext c i; unfold put upd cxP
  by_cases h : c = 162
  · subst h
    by_cases h3 : i = 3 <;> simp [h3]
  · simp [h]
theorem cxP_L {σ : Nat → Nat → Int32} {C B S : Nat → Int32} {p L x : Int32} : put (cxP σ C B S p L) 162 4 x = cxP σ C B S p x := by
  funext c i; unfold put upd cxP
  by_cases h : c = 162
  · subst h
    by_cases h3 : i = 3
    · simp [h3]
    · by_cases h4 : i = 4 <;> simp [h3, h4]
  · simp [h]
theorem xC162 : ∀ f, xcell 162 f = .inr (0, [.ref 163, .ref 164, .ref 165, .int (f 3), .int (f 4)]) := fun _ => rfl
theorem xC163 : ∀ f, xcell 163 f = .inl (0, 17, .inl f) := fun _ => rfl
theorem xC164 : ∀ f, xcell 164 f = .inl (0, 17, .inl f) := fun _ => rfl
theorem xC165 : ∀ f, xcell 165 f = .inl (0, 17, .inl f) := fun _ => rfl
def dl0 (k : Nat) : Int32 := if k = 0 then 1 else 0
def msS (C A : Nat → Int32) (n : Nat) : Nat → Int32
  | 0 => 0
  | j + 1 => msS C A n j + C j * A (n - j)
def msV (C A : Nat → Int32) (p : Int32) (L n : Nat) : Int32 := jrem (msS C A n (min L n + 1)) p
def ivS (v p : Int32) : Nat → Nat → Int32
  | 0, _ => 0
  | d + 1, j => if jrem (nI j * v) p = 1 then nI j else ivS v p d (j + 1)
def mdF (C B : Nat → Int32) (f p : Int32) (g : Nat) : Nat → Int32 := ru C g (17 - g) (fun i => jfm (C (g + i) - f * B i) p)
abbrev bmT : Type := (Nat → Int32) × (Nat → Int32) × (Nat → Int32) × Nat × Nat × Int32
def bm1 (A : Nat → Int32) (P : Nat) (n : Nat) (s : bmT) : bmT := match s with
  | (C, B, S, L, g, f) =>
    if msV C A (nI P) L n = 0 then (C, B, S, L, g + 1, f)
    else if 2 * L ≤ n then (mdF C B (msV C A (nI P) L n * ivS f (nI P) (P - 1) 1) (nI P) g, va_cpy (va_cpy C S 0 0 17) B 0 0 17, va_cpy C S 0 0 17, n + 1 - L, 1, msV C A (nI P) L n)
    else (mdF C B (msV C A (nI P) L n * ivS f (nI P) (P - 1) 1) (nI P) g, B, S, L, g + 1, f)
def bmR (A : Nat → Int32) (P : Nat) (s : bmT) : Nat → bmT
  | 0 => s
  | n + 1 => bm1 A P n (bmR A P s n)
theorem bmR_bd {A : Nat → Int32} {P : Nat} {s : bmT} (h0 : s.2.2.2.1 = 0) (h1 : s.2.2.2.2.1 = 1) : ∀ n, (bmR A P s n).2.2.2.1 ≤ n ∧ 1 ≤ (bmR A P s n).2.2.2.2.1 ∧ (bmR A P s n).2.2.2.2.1 ≤ n + 1
  | 0 => by unfold bmR; omega
  | n + 1 => by
    have ih := bmR_bd (A := A) (P := P) h0 h1 n
    unfold bmR bm1
    generalize bmR A P s n = z at ih ⊢
    obtain ⟨C, B, S, L, g, f⟩ := z
    dsimp only at ih ⊢
    split
    · dsimp only; omega
    · split
      · dsimp only; omega
      · dsimp only; omega
section
variable {l : Launch} {w : q_Wd} {σ : Nat → Nat → Int32} {C B S : Nat → Int32} {p L : Int32}
set_option maxRecDepth 100000 in
set_option maxHeartbeats 4000000 in
theorem CX0_length : Ct l mX0_length [.ref 162] (xW σ) (q_eq (some (.int (σ 162 4))) (xW σ)) := by
  refine Ct.of rfl (Nat.le_of_ble_eq_true rfl) ?_
  refine g_aload_n dX0_length_0 rfl rfl ?_
  refine g_getf dX0_length_1 fX0_23 (xW_at (by decide) xC162) rfl ?_
  exact g_iret dX0_length_4 rfl rfl ⟨rfl, rfl⟩
set_option maxRecDepth 100000 in
set_option maxHeartbeats 4000000 in
theorem CX0_inverse_loop {P n0 : Nat} {v : Int32} (hP : 2 ≤ P ∧ P ≤ 7) (hp : σ 162 3 = nI P) : ∀ (d j : Nat), j + d = P → Go l mX0_inverse n0 (q_eq (some (.int (ivS v (nI P) d j))) (xW σ)) (0, 0) 2 [some (.ref 162), some (.int v), some (.int (nI j))] [] (xW σ) := by
  intro d
  induction d with
  | zero =>
    intro j hj
    refine g_iload_n dX0_inverse_2 rfl rfl ?_
    refine g_aload_n dX0_inverse_3 rfl rfl ?_
    refine g_getf dX0_inverse_4 fX0_19 (xW_at (by decide) xC162) rfl ?_
    refine g_icmp_ge (tgt := 30) dX0_inverse_7 rfl (fun c_7 => ?_) (fun c_7 => by exact absurd (by rw [hp]; exact nI_le (by omega) (by omega)) c_7)
    refine g_iconst (v := 0) dX0_inverse_30 (by decide) ?_
    exact g_iret dX0_inverse_31 rfl rfl ⟨rfl, rfl⟩
  | succ d ih =>
    intro j hj
    have eP : ¬ nI P = 0 := nI_ne0 (by omega) (by omega)
    refine g_iload_n dX0_inverse_2 rfl rfl ?_
    refine g_aload_n dX0_inverse_3 rfl rfl ?_
    refine g_getf dX0_inverse_4 fX0_19 (xW_at (by decide) xC162) rfl ?_
    refine g_icmp_ge (tgt := 30) dX0_inverse_7 rfl (fun c_7 => by rw [hp] at c_7; exact absurd c_7 (nI_ge (by omega) (by omega))) (fun c_7 => ?_)
    refine g_iload_n dX0_inverse_10 rfl rfl ?_
    refine g_iload_n dX0_inverse_11 rfl rfl ?_
    refine g_imul dX0_inverse_12 ?_
    refine g_aload_n dX0_inverse_13 rfl rfl ?_
    refine g_getf dX0_inverse_14 fX0_19 (xW_at (by decide) xC162) rfl ?_
    refine g_irem dX0_inverse_17 (by rw [hp]; exact eP) ?_
    rw [hp]
    refine g_iconst (v := 1) dX0_inverse_18 (by decide) ?_
    refine g_icmp_ne (tgt := 24) dX0_inverse_19 rfl (fun c_19 => ?_) (fun c_19 => ?_)
    · refine g_iinc (v := 1) dX0_inverse_24 (by decide) rfl (Nat.le_of_ble_eq_true rfl) rfl ?_
      refine g_goto (tgt := 2) dX0_inverse_27 rfl ?_
      have e : ivS v (nI P) (d + 1) j = ivS v (nI P) d (j + 1) := by rw [ivS, if_neg (show ¬ jrem (nI j * v) (nI P) = 1 from c_19)]
      rw [e]
      exact Go.eq rfl (show _ = _ by rw [← nI_1 j]; rfl) rfl rfl (ih (j + 1) (by omega))
    · refine g_iload_n dX0_inverse_22 rfl rfl ?_
      exact g_iret dX0_inverse_23 rfl rfl ⟨by rw [ivS, if_pos (show jrem (nI j * v) (nI P) = 1 from c_19)], rfl⟩
set_option maxRecDepth 100000 in
set_option maxHeartbeats 4000000 in
theorem CX0_inverse {P : Nat} {v : Int32} (hP : 2 ≤ P ∧ P ≤ 7) (hp : σ 162 3 = nI P) : Ct l mX0_inverse [.ref 162, .int v] (xW σ) (q_eq (some (.int (ivS v (nI P) (P - 1) 1))) (xW σ)) := by
  refine Ct.of rfl (Nat.le_of_ble_eq_true rfl) ?_
  refine g_iconst (v := 1) dX0_inverse_0 (by decide) ?_
  refine g_istore_n dX0_inverse_1 rfl (Nat.le_of_ble_eq_true rfl) rfl ?_
  exact CX0_inverse_loop hP hp (P - 1) 1 (by omega)
set_option maxRecDepth 100000 in
set_option maxHeartbeats 4000000 in
theorem CX0_missAt_loop {i m R : Nat} (h : xCyc i m R) {P Ln n n0 : Nat} (hP : 2 ≤ P ∧ P ≤ 7) (hp : σ 162 3 = nI P) (hL : σ 162 4 = nI Ln) (hLn : Ln ≤ 16) (hn : n ≤ 15) : ∀ (d j : Nat), j + d = min Ln n + 1 → Go l mX0_missAt n0 (q_eq (some (.int (msV (σ 163) (cyN (σ (i + 1)) R) (nI P) Ln n))) (xW σ)) (0, 0) 5 [some (.ref 162), some (.ref i), some (.int (nI n)), some (.int (msS (σ 163) (cyN (σ (i + 1)) R) n j)), some (.int (nI j))] [] (xW σ) := by
  intro d
  induction d with
  | zero =>
    intro j hj
    have eP : ¬ nI P = 0 := nI_ne0 (by omega) (by omega)
    rcases Nat.lt_or_ge Ln j with q | q
    · refine g_iload dX0_missAt_5 rfl ?_
      refine g_aload_n dX0_missAt_7 rfl rfl ?_
      refine g_getf dX0_missAt_8 fX0_23 (xW_at (by decide) xC162) rfl ?_
      rw [hL]
      refine g_icmp_gt (tgt := 52) dX0_missAt_11 rfl (fun c_11 => ?_) (fun c_11 => by exact absurd (nI_lt q (by omega)) c_11)
      refine g_iload_n dX0_missAt_52 rfl rfl ?_
      refine g_aload_n dX0_missAt_53 rfl rfl ?_
      refine g_getf dX0_missAt_54 fX0_19 (xW_at (by decide) xC162) rfl ?_
      refine g_irem dX0_missAt_57 (by rw [hp]; exact eP) ?_
      rw [hp]
      exact g_iret dX0_missAt_58 rfl rfl ⟨by rw [msV, show min Ln n + 1 = j by omega]; rfl, rfl⟩
    · refine g_iload dX0_missAt_5 rfl ?_
      refine g_aload_n dX0_missAt_7 rfl rfl ?_
      refine g_getf dX0_missAt_8 fX0_23 (xW_at (by decide) xC162) rfl ?_
      rw [hL]
      refine g_icmp_gt (tgt := 52) dX0_missAt_11 rfl (fun c_11 => by exact absurd c_11 (nI_nlt q (by omega))) (fun c_11 => ?_)
      refine g_iload dX0_missAt_14 rfl ?_
      refine g_iload_n dX0_missAt_16 rfl rfl ?_
      refine g_icmp_gt (tgt := 52) dX0_missAt_17 rfl (fun c_17 => ?_) (fun c_17 => by exact absurd (nI_lt (by omega) (by omega)) c_17)
      refine g_iload_n dX0_missAt_52 rfl rfl ?_
      refine g_aload_n dX0_missAt_53 rfl rfl ?_
      refine g_getf dX0_missAt_54 fX0_19 (xW_at (by decide) xC162) rfl ?_
      refine g_irem dX0_missAt_57 (by rw [hp]; exact eP) ?_
      rw [hp]
      exact g_iret dX0_missAt_58 rfl rfl ⟨by rw [msV, show min Ln n + 1 = j by omega]; rfl, rfl⟩
  | succ d ih =>
    intro j hj
    refine g_iload dX0_missAt_5 rfl ?_
    refine g_aload_n dX0_missAt_7 rfl rfl ?_
    refine g_getf dX0_missAt_8 fX0_23 (xW_at (by decide) xC162) rfl ?_
    rw [hL]
    refine g_icmp_gt (tgt := 52) dX0_missAt_11 rfl (fun c_11 => by exact absurd c_11 (nI_nlt (by omega) (by omega))) (fun c_11 => ?_)
    refine g_iload dX0_missAt_14 rfl ?_
    refine g_iload_n dX0_missAt_16 rfl rfl ?_
    refine g_icmp_gt (tgt := 52) dX0_missAt_17 rfl (fun c_17 => by exact absurd c_17 (nI_nlt (by omega) (by omega))) (fun c_17 => ?_)
    refine g_iload dX0_missAt_20 rfl ?_
    refine g_bipush (v := 17) dX0_missAt_22 (by decide) ?_
    refine g_icmp_ge (tgt := 52) dX0_missAt_24 rfl (fun c_24 => by exact absurd c_24 (nI_ge (b := 17) (by omega) (by decide))) (fun c_24 => ?_)
    refine g_iload_n dX0_missAt_27 rfl rfl ?_
    refine g_aload_n dX0_missAt_28 rfl rfl ?_
    refine g_getf dX0_missAt_29 fX0_9 (xW_at (by decide) xC162) rfl ?_
    refine g_iload dX0_missAt_32 rfl ?_
    refine g_iald dX0_missAt_34 (xW_at (by decide) xC163) (vin_lt 17 (nI_pos' (by omega)) (nI_lt (b := 17) (by omega) (by decide)) (by decide)) ?_
    refine Go.eq rfl rfl (show _ = [Value.int (σ 163 j), Value.int (msS (σ 163) (cyN (σ (i + 1)) R) n j)] by rw [nI_clamp (by omega)]) rfl ?_
    refine g_aload_n dX0_missAt_35 rfl rfl ?_
    refine g_iload_n dX0_missAt_36 rfl rfl ?_
    refine g_iload dX0_missAt_37 rfl ?_
    refine g_isub dX0_missAt_39 ?_
    rw [nI_sub (a := n) (b := j) (by omega)]
    refine g_V1r (CX1_at h (k := n - j) (by omega)) kX0_missAt_60 dX0_missAt_40 (xW_at (by have := h.1; omega) h.2.1) rfl ⟨rfl, rfl⟩ (Nat.le_of_ble_eq_true rfl) ⟨(Nat.le_of_ble_eq_true rfl), (Nat.le_of_ble_eq_true rfl)⟩ ?_
    refine g_imul dX0_missAt_43 ?_
    refine g_iadd dX0_missAt_44 ?_
    refine g_istore_n dX0_missAt_45 rfl (Nat.le_of_ble_eq_true rfl) rfl ?_
    refine g_iinc (v := 1) dX0_missAt_46 (by decide) rfl (Nat.le_of_ble_eq_true rfl) rfl ?_
    refine g_goto (tgt := 5) dX0_missAt_49 rfl ?_
    exact Go.eq rfl (show _ = _ by rw [← nI_1 j, msS]; rfl) rfl rfl (ih (j + 1) (by omega))
set_option maxRecDepth 100000 in
set_option maxHeartbeats 4000000 in
theorem CX0_missAt {i m R : Nat} (h : xCyc i m R) {P Ln n : Nat} (hP : 2 ≤ P ∧ P ≤ 7) (hp : σ 162 3 = nI P) (hL : σ 162 4 = nI Ln) (hLn : Ln ≤ 16) (hn : n ≤ 15) : Ct l mX0_missAt [.ref 162, .ref i, .int (nI n)] (xW σ) (q_eq (some (.int (msV (σ 163) (cyN (σ (i + 1)) R) (nI P) Ln n))) (xW σ)) := by
  refine Ct.of rfl (Nat.le_of_ble_eq_true rfl) ?_
  refine g_iconst (v := 0) dX0_missAt_0 (by decide) ?_
  refine g_istore_n dX0_missAt_1 rfl (Nat.le_of_ble_eq_true rfl) rfl ?_
  refine g_iconst (v := 0) dX0_missAt_2 (by decide) ?_
  refine g_istore dX0_missAt_3 (Nat.le_of_ble_eq_true rfl) rfl ?_
  exact CX0_missAt_loop h hP hp hL hLn hn (min Ln n + 1) 0 (by omega)
set_option maxRecDepth 100000 in
set_option maxHeartbeats 4000000 in
theorem CX0_mend_loop {P g n0 : Nat} {f : Int32} (hP : 2 ≤ P ∧ P ≤ 7) (hp : σ 162 3 = nI P) (hg : g ≤ 17) : ∀ (d j : Nat), j + d = 17 - g → Go l mX0_mend n0 (q_eq none (xW (putC σ 163 (mdF (σ 163) (σ 164) f (nI P) g)))) (0, 0) 2 [some (.ref 162), some (.int f), some (.int (nI g)), some (.int (nI j))] [] (xW (putC σ 163 (ru (σ 163) g j (fun q => jfm (σ 163 (g + q) - f * σ 164 q) (nI P))))) := by
  intro d
  induction d with
  | zero =>
    intro j hj
    refine g_iload_n dX0_mend_2 rfl rfl ?_
    refine g_iload_n dX0_mend_3 rfl rfl ?_
    refine g_iadd dX0_mend_4 ?_
    rw [nI_add j g]
    refine g_bipush (v := 17) dX0_mend_5 (by decide) ?_
    refine g_icmp_ge (tgt := 48) dX0_mend_7 rfl (fun c_7 => ?_) (fun c_7 => by exact absurd (nI_le (a := 17) (by omega) (by omega)) c_7)
    exact g_vret dX0_mend_48 rfl rfl ⟨rfl, by rw [mdF, show 17 - g = j by omega]⟩
  | succ d ih =>
    intro j hj
    have eP : ¬ nI P = 0 := nI_ne0 (by omega) (by omega)
    refine g_iload_n dX0_mend_2 rfl rfl ?_
    refine g_iload_n dX0_mend_3 rfl rfl ?_
    refine g_iadd dX0_mend_4 ?_
    rw [nI_add j g]
    refine g_bipush (v := 17) dX0_mend_5 (by decide) ?_
    refine g_icmp_ge (tgt := 48) dX0_mend_7 rfl (fun c_7 => by exact absurd c_7 (nI_ge (b := 17) (by omega) (by decide))) (fun c_7 => ?_)
    refine g_aload_n dX0_mend_10 rfl rfl ?_
    refine g_getf dX0_mend_11 fX0_9 (xW_at (by decide) xC162) rfl ?_
    refine g_iload_n dX0_mend_14 rfl rfl ?_
    refine g_iload_n dX0_mend_15 rfl rfl ?_
    refine g_iadd dX0_mend_16 ?_
    rw [nI_add j g]
    refine g_aload_n dX0_mend_17 rfl rfl ?_
    refine g_getf dX0_mend_18 fX0_9 (xW_at (by decide) xC162) rfl ?_
    refine g_iload_n dX0_mend_21 rfl rfl ?_
    refine g_iload_n dX0_mend_22 rfl rfl ?_
    refine g_iadd dX0_mend_23 ?_
    rw [nI_add j g]
    refine g_iald dX0_mend_24 (xW_at (by decide) xC163) (vin_lt 17 (nI_pos' (by omega)) (nI_lt (b := 17) (by omega) (by decide)) (by decide)) ?_
    refine Go.eq rfl rfl (show _ = Value.int (σ 163 (g + j)) :: _ from congrArg (fun z => Value.int z :: _) (by rw [nI_clamp (by omega), putC_eq, ru_out (by omega), Nat.add_comm])) rfl ?_
    refine g_iload_n dX0_mend_25 rfl rfl ?_
    refine g_aload_n dX0_mend_26 rfl rfl ?_
    refine g_getf dX0_mend_27 fX0_13 (xW_at (by decide) xC162) rfl ?_
    refine g_iload_n dX0_mend_30 rfl rfl ?_
    refine g_iald dX0_mend_31 (xW_at (by decide) xC164) (vin_lt 17 (nI_pos' (by omega)) (nI_lt (b := 17) (by omega) (by decide)) (by decide)) ?_
    refine Go.eq rfl rfl (show _ = Value.int (σ 164 j) :: _ from congrArg (fun z => Value.int z :: _) (by rw [nI_clamp (by omega), putC_ne (by decide)])) rfl ?_
    refine g_imul dX0_mend_32 ?_
    refine g_isub dX0_mend_33 ?_
    refine g_aload_n dX0_mend_34 rfl rfl ?_
    refine g_getf dX0_mend_35 fX0_19 (xW_at (by decide) xC162) rfl ?_
    refine Go.eq rfl rfl (show _ = Value.int (nI P) :: _ from congrArg (fun z => Value.int z :: _) hp) rfl ?_
    refine g_S2r (CJ9_floorMod eP) kX0_mend_26 dX0_mend_38 ⟨rfl, rfl⟩ (Nat.le_of_ble_eq_true rfl) ⟨(Nat.le_of_ble_eq_true rfl), (Nat.le_of_ble_eq_true rfl)⟩ ?_
    refine g_iast dX0_mend_41 (xW_at (by decide) xC163) (vin_lt 17 (nI_pos' (by omega)) (nI_lt (b := 17) (by omega) (by decide)) (by decide)) (show _ = xW (putC σ 163 (ru (σ 163) g (j + 1) (fun q => jfm (σ 163 (g + q) - f * σ 164 q) (nI P)))) by rw [xW_arr xC163, put_putC, nI_clamp (by omega), Nat.add_comm j g, ru_1 rfl]) ?_
    refine g_iinc (v := 1) dX0_mend_42 (by decide) rfl (Nat.le_of_ble_eq_true rfl) rfl ?_
    refine g_goto (tgt := 2) dX0_mend_45 rfl ?_
    exact Go.eq rfl (show _ = _ by rw [← nI_1 j]; rfl) rfl rfl (ih (j + 1) (by omega))
set_option maxRecDepth 100000 in
set_option maxHeartbeats 4000000 in
theorem CX0_mend {P g : Nat} {f : Int32} (hP : 2 ≤ P ∧ P ≤ 7) (hp : σ 162 3 = nI P) (hg : g ≤ 17) : Ct l mX0_mend [.ref 162, .int f, .int (nI g)] (xW σ) (q_eq none (xW (putC σ 163 (mdF (σ 163) (σ 164) f (nI P) g)))) := by
  refine Ct.of rfl (Nat.le_of_ble_eq_true rfl) ?_
  refine g_iconst (v := 0) dX0_mend_0 (by decide) ?_
  refine g_istore_n dX0_mend_1 rfl (Nat.le_of_ble_eq_true rfl) rfl ?_
  exact Go.eq rfl rfl rfl (show xW σ = _ by rw [ru_0, putC_id]) (CX0_mend_loop hP hp hg (17 - g) 0 (by omega))
def fcV (C : Nat → Int32) (p L i : Int32) : Int32 := if 1 ≤ i ∧ i ≤ L ∧ i < 17 then jfm (-(C i.toNatClampNeg)) p else 0
set_option maxRecDepth 100000 in
set_option maxHeartbeats 4000000 in
theorem CX0_factor {i : Int32} (hp : ¬ σ 162 3 = 0) : Ct l mX0_factor [.ref 162, .int i] (xW σ) (q_eq (some (.int (fcV (σ 163) (σ 162 3) (σ 162 4) i))) (xW σ)) := by
  refine Ct.of rfl (Nat.le_of_ble_eq_true rfl) ?_
  refine g_iload_n dX0_factor_0 rfl rfl ?_
  refine g_iconst (v := 1) dX0_factor_1 (by decide) ?_
  refine g_icmp_lt (tgt := 36) dX0_factor_2 rfl (fun c_2 => ?_) (fun c_2 => ?_)
  · refine g_iconst (v := 0) dX0_factor_36 (by decide) ?_
    exact g_iret dX0_factor_37 rfl rfl ⟨by grind [fcV], rfl⟩
  · refine g_iload_n dX0_factor_5 rfl rfl ?_
    refine g_aload_n dX0_factor_6 rfl rfl ?_
    refine g_getf dX0_factor_7 fX0_23 (xW_at (by decide) xC162) rfl ?_
    refine g_icmp_gt (tgt := 36) dX0_factor_10 rfl (fun c_10 => ?_) (fun c_10 => ?_)
    · refine g_iconst (v := 0) dX0_factor_36 (by decide) ?_
      exact g_iret dX0_factor_37 rfl rfl ⟨by grind [fcV], rfl⟩
    · refine g_iload_n dX0_factor_13 rfl rfl ?_
      refine g_bipush (v := 17) dX0_factor_14 (by decide) ?_
      refine g_icmp_ge (tgt := 36) dX0_factor_16 rfl (fun c_16 => ?_) (fun c_16 => ?_)
      · refine g_iconst (v := 0) dX0_factor_36 (by decide) ?_
        exact g_iret dX0_factor_37 rfl rfl ⟨by grind [fcV], rfl⟩
      · refine g_aload_n dX0_factor_19 rfl rfl ?_
        refine g_getf dX0_factor_20 fX0_9 (xW_at (by decide) xC162) rfl ?_
        refine g_iload_n dX0_factor_23 rfl rfl ?_
        refine g_iald dX0_factor_24 (xW_at (by decide) xC163) (vin_lt 17 (by grind) (by grind) (by decide)) ?_
        refine g_ineg dX0_factor_25 ?_
        refine g_aload_n dX0_factor_26 rfl rfl ?_
        refine g_getf dX0_factor_27 fX0_19 (xW_at (by decide) xC162) rfl ?_
        refine g_S2r (CJ9_floorMod hp) kX0_factor_26 dX0_factor_30 ⟨rfl, rfl⟩ (Nat.le_of_ble_eq_true rfl) ⟨(Nat.le_of_ble_eq_true rfl), (Nat.le_of_ble_eq_true rfl)⟩ ?_
        refine g_goto (tgt := 37) dX0_factor_33 rfl ?_
        exact g_iret dX0_factor_37 rfl rfl ⟨by grind [fcV], rfl⟩
end
