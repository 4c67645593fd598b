/-- the first place from j on, of d, where p holds; else j + d -/
def fs (p : Nat → Bool) : Nat → Nat → Nat
  | 0, j => j
  | d + 1, j => if p j then j else fs p d (j + 1)
theorem put_put {σ : Nat → Nat → Int32} {c k : Nat} {x y : Int32} : put (put σ c k x) c k y = put σ c k y := by
  funext j i
  unfold put upd
  by_cases h : j = c <;> by_cases h2 : i = k <;> simp [h, h2]
abbrev gAt (G : Nat → Int32) (g : Nat) (p : Int32) : Int32 := nmAt G (nI g) 8 p
abbrev exOk (G : Nat → Int32) (g dg : Nat) (u v : Int32) : Prop := ∀ k, k < g → dg ≤ k → gAt G g (nI k) = u * gAt G g (nI k - 1) + v * gAt G g (nI k - 2)
def ex3 (σ : Nat → Nat → Int32) (dg u v : Int32) : Nat → Nat → Int32 := putC σ 12 (fun k => if k = 0 then dg else if k = 1 then u else if k = 2 then v else σ 12 k)
theorem ex3_d {σ : Nat → Nat → Int32} {dg u v x : Int32} : put (ex3 σ dg u v) 12 0 x = ex3 σ x u v := by
  funext j i
  by_cases h : j = 12
  · subst h
    by_cases h0 : i = 0 <;> simp [put, upd, ex3, putC, h0]
  · simp [put, ex3, putC, h]
theorem ex3_u {σ : Nat → Nat → Int32} {dg u v x : Int32} : put (ex3 σ dg u v) 12 1 x = ex3 σ dg x v := by
  funext j i
  by_cases h : j = 12
  · subst h
    by_cases h0 : i = 0
    · simp [put, upd, ex3, putC, h0]
    · by_cases h1 : i = 1 <;> simp [put, upd, ex3, putC, h0, h1]
  · simp [put, ex3, putC, h]
theorem ex3_v {σ : Nat → Nat → Int32} {dg u v x : Int32} : put (ex3 σ dg u v) 12 2 x = ex3 σ dg u x := by
  funext j i
  by_cases h : j = 12
  · subst h
    by_cases h0 : i = 0
    · simp [put, upd, ex3, putC, h0]
    · by_cases h1 : i = 1
      · simp [put, upd, ex3, putC, h0, h1]
      · by_cases h2 : i = 2 <;> simp [put, upd, ex3, putC, h0, h1, h2]
  · simp [put, ex3, putC, h]
theorem ex3_id {σ : Nat → Nat → Int32} : ex3 σ (σ 12 0) (σ 12 1) (σ 12 2) = σ := by
  funext j i
  by_cases h : j = 12
  · subst h
    by_cases h0 : i = 0
    · simp [ex3, putC, h0]
    · by_cases h1 : i = 1
      · simp [ex3, putC, h1]
      · by_cases h2 : i = 2 <;> simp [ex3, putC, h0, h1, h2]
  · simp [ex3, putC, h]
theorem xC12 : ∀ f, xcell 12 f = .inr (2, [.int (f 0), .int (f 1), .int (f 2)]) := fun _ => rfl
theorem xS12 {σ σ' : Nat → Nat → Int32} {k : Nat} {x : Int32} (hF : [Value.int (upd (σ 12) k x 0), .int (upd (σ 12) k x 1), .int (upd (σ 12) k x 2)] = [Value.int (σ 12 0), .int (σ 12 1), .int (σ 12 2)].set k (.int x)) (h : put σ 12 k x = σ') : (xW σ).set 12 (.inr (2, [Value.int (σ 12 0), .int (σ 12 1), .int (σ 12 2)].set k (.int x))) = xW σ' := by
  rw [← h]; exact xW_obj xC12 hF
def exP1 (G : Nat → Int32) (g : Nat) (k : Nat) : Bool := decide (exOk G g 1 (nI k - 9) 0)
def exP2 (G : Nat → Int32) (g : Nat) (k : Nat) : Bool := decide (exOk G g 2 (nI (k / 19) - 9) (nI (k % 19) - 9))
theorem fs_ge (p : Nat → Bool) : ∀ d j, j ≤ fs p d j
  | 0, j => Nat.le_refl j
  | d + 1, j => by
    unfold fs
    split
    · exact Nat.le_refl j
    · exact Nat.le_trans (Nat.le_succ j) (fs_ge p d (j + 1))
theorem fs_le (p : Nat → Bool) : ∀ d j, fs p d j ≤ j + d
  | 0, j => Nat.le_refl j
  | d + 1, j => by
    unfold fs
    split
    · omega
    · have := fs_le p d (j + 1); omega
section
variable {l : Launch} {σ : Nat → Nat → Int32}
set_option maxRecDepth 100000 in
set_option maxHeartbeats 4000000 in
theorem CX2_fits_loop {g dg n0 : Nat} (hg : σ 4 1 = nI g) (hg8 : g ≤ 8) : ∀ (d j : Nat), dg ≤ j → (∀ k, k < j → dg ≤ k → gAt (σ 5) g (nI k) = σ 12 1 * gAt (σ 5) g (nI k - 1) + σ 12 2 * gAt (σ 5) g (nI k - 2)) → g ≤ j + d ∧ j ≤ 10 → Go l mX2_fits n0 (q_eq (some (.int (bI (exOk (σ 5) g dg (σ 12 1) (σ 12 2))))) (xW σ)) (0, 0) 5 [some (.ref 12), some (.ref 4), some (.int (nI j))] [] (xW σ) := by
  intro d
  induction d with
  | zero =>
    intro j hj hinv hb
    have hz : g ≤ j := by omega
    refine g_iload_n dX2_fits_5 rfl rfl ?_
    refine g_aload_n dX2_fits_6 rfl rfl ?_
    refine g_V0r (CX4_size xNum4) kX2_fits_29 dX2_fits_7 (xW_at xNum4.1.1 xNum4.2.1) rfl ⟨rfl, rfl⟩ (Nat.le_of_ble_eq_true rfl) ⟨(Nat.le_of_ble_eq_true rfl), (Nat.le_of_ble_eq_true rfl)⟩ ?_
    refine g_icmp_ge (tgt := 54) dX2_fits_10 rfl (fun c_10 => ?_) (fun c_10 => by exact absurd (by rw [hg]; exact nI_le hz (by omega)) c_10)
    refine g_iconst (v := 1) dX2_fits_54 (by decide) ?_
    exact g_zret dX2_fits_55 rfl rfl (by first | decide | exact bI_and) ⟨by rw [bI_t (fun k h1 h2 => hinv k (by omega) h2)], rfl⟩
  | succ d ih =>
    intro j hj hinv hb
    refine g_iload_n dX2_fits_5 rfl rfl ?_
    refine g_aload_n dX2_fits_6 rfl rfl ?_
    refine g_V0r (CX4_size xNum4) kX2_fits_29 dX2_fits_7 (xW_at xNum4.1.1 xNum4.2.1) rfl ⟨rfl, rfl⟩ (Nat.le_of_ble_eq_true rfl) ⟨(Nat.le_of_ble_eq_true rfl), (Nat.le_of_ble_eq_true rfl)⟩ ?_
    refine g_icmp_ge (tgt := 54) dX2_fits_10 rfl (fun c_10 => ?_) (fun c_10 => ?_)
    · have hz : g ≤ j := by
        rcases Nat.lt_or_ge j g with q | q
        · rw [hg] at c_10; exact absurd c_10 (nI_ge q (by omega))
        · exact q
      refine g_iconst (v := 1) dX2_fits_54 (by decide) ?_
      exact g_zret dX2_fits_55 rfl rfl (by first | decide | exact bI_and) ⟨by rw [bI_t (fun k h1 h2 => hinv k (by omega) h2)], rfl⟩
    · have hlt : j < g := Nat.lt_of_not_le (fun q => c_10 (by rw [hg]; exact nI_le q (by omega)))
      refine g_aload_n dX2_fits_13 rfl rfl ?_
      refine g_iload_n dX2_fits_14 rfl rfl ?_
      refine g_V1r (CX4_at xNum4 (by decide)) kX2_fits_35 dX2_fits_15 (xW_at xNum4.1.1 xNum4.2.1) rfl ⟨rfl, rfl⟩ (Nat.le_of_ble_eq_true rfl) ⟨(Nat.le_of_ble_eq_true rfl), (Nat.le_of_ble_eq_true rfl)⟩ ?_
      refine g_aload_n dX2_fits_18 rfl rfl ?_
      refine g_getf dX2_fits_19 fX2_13 (xW_at (by decide) xC12) rfl ?_
      refine g_aload_n dX2_fits_22 rfl rfl ?_
      refine g_iload_n dX2_fits_23 rfl rfl ?_
      refine g_iconst (v := 1) dX2_fits_24 (by decide) ?_
      refine g_isub dX2_fits_25 ?_
      refine g_V1r (CX4_at xNum4 (by decide)) kX2_fits_35 dX2_fits_26 (xW_at xNum4.1.1 xNum4.2.1) rfl ⟨rfl, rfl⟩ (Nat.le_of_ble_eq_true rfl) ⟨(Nat.le_of_ble_eq_true rfl), (Nat.le_of_ble_eq_true rfl)⟩ ?_
      refine g_imul dX2_fits_29 ?_
      refine g_aload_n dX2_fits_30 rfl rfl ?_
      refine g_getf dX2_fits_31 fX2_16 (xW_at (by decide) xC12) rfl ?_
      refine g_aload_n dX2_fits_34 rfl rfl ?_
      refine g_iload_n dX2_fits_35 rfl rfl ?_
      refine g_iconst (v := 2) dX2_fits_36 (by decide) ?_
      refine g_isub dX2_fits_37 ?_
      refine g_V1r (CX4_at xNum4 (by decide)) kX2_fits_35 dX2_fits_38 (xW_at xNum4.1.1 xNum4.2.1) rfl ⟨rfl, rfl⟩ (Nat.le_of_ble_eq_true rfl) ⟨(Nat.le_of_ble_eq_true rfl), (Nat.le_of_ble_eq_true rfl)⟩ ?_
      refine g_imul dX2_fits_41 ?_
      refine g_iadd dX2_fits_42 ?_
      refine g_icmp_eq (tgt := 48) dX2_fits_43 rfl (fun c_43 => ?_) (fun c_43 => ?_)
      · refine g_iinc (v := 1) dX2_fits_48 (by decide) rfl (Nat.le_of_ble_eq_true rfl) rfl ?_
        refine g_goto (tgt := 5) dX2_fits_51 rfl ?_
        have hinv2 : ∀ k, k < j + 1 → dg ≤ k → gAt (σ 5) g (nI k) = σ 12 1 * gAt (σ 5) g (nI k - 1) + σ 12 2 * gAt (σ 5) g (nI k - 2) := by
          intro k h1 h2
          rcases Nat.lt_or_ge k j with q | q
          · exact hinv k q h2
          · have e : k = j := by omega
            subst e
            rw [hg] at c_43
            exact c_43
        exact Go.eq rfl (show _ = _ by rw [← nI_1 j]; rfl) rfl rfl (ih (j + 1) (by omega) hinv2 (by omega))
      · refine g_iconst (v := 0) dX2_fits_46 (by decide) ?_
        exact g_zret dX2_fits_47 rfl rfl (by first | decide | exact bI_and) ⟨by rw [bI_f (fun H => c_43 (by rw [hg]; exact H j hlt hj))], rfl⟩
set_option maxRecDepth 100000 in
set_option maxHeartbeats 4000000 in
theorem CX2_fits {g dg : Nat} (hg : σ 4 1 = nI g) (hg8 : g ≤ 8) (hd : σ 12 0 = nI dg) (hd2 : dg ≤ 2) : Ct l mX2_fits [.ref 12, .ref 4] (xW σ) (q_eq (some (.int (bI (exOk (σ 5) g dg (σ 12 1) (σ 12 2))))) (xW σ)) := by
  refine Ct.of rfl (Nat.le_of_ble_eq_true rfl) ?_
  refine g_aload_n dX2_fits_0 rfl rfl ?_
  refine g_getf dX2_fits_1 fX2_7 (xW_at (by decide) xC12) rfl ?_
  refine g_istore_n dX2_fits_4 rfl (Nat.le_of_ble_eq_true rfl) rfl ?_
  rw [hd]
  exact CX2_fits_loop hg hg8 8 dg (Nat.le_refl _) (fun k h1 h2 => absurd h1 (by omega)) (by omega)
set_option maxRecDepth 100000 in
set_option maxHeartbeats 4000000 in
theorem CX2_one_loop {g n0 : Nat} (hg : σ 4 1 = nI g) (hg8 : g ≤ 8) : ∀ (d j : Nat) (x : Int32), j + d = 19 → Go l mX2_isFoundByOne n0 (fun r w' => ∃ x, w' = xW (ex3 σ 1 x 0) ∧ r = some (.int (bI (fs (exP1 (σ 5) g) d j < 19))) ∧ (fs (exP1 (σ 5) g) d j < 19 → x = nI (fs (exP1 (σ 5) g) d j) - 9)) (0, 0) 8 [some (.ref 12), some (.ref 4), some (.int (nI j - 9))] [] (xW (ex3 σ 1 x 0)) := by
  intro d
  induction d with
  | zero =>
    intro j x hj
    have e : j = 19 := by omega
    subst e
    refine g_iload_n dX2_isFoundByOne_8 rfl rfl ?_
    refine g_bipush (v := 9) dX2_isFoundByOne_9 (by decide) ?_
    refine g_icmp_gt (tgt := 35) dX2_isFoundByOne_11 rfl (fun c_11 => ?_) (fun c_11 => by exfalso; revert c_11; decide)
    refine g_iconst (v := 0) dX2_isFoundByOne_35 (by decide) ?_
    exact g_zret dX2_isFoundByOne_36 rfl rfl (by first | decide | exact bI_and) ⟨x, rfl, rfl, fun q => absurd (show (19 : Nat) < 19 from q) (by decide)⟩
  | succ d ih =>
    intro j x hj
    have h0 : 0 ≤ nI j := nI_pos' (by omega)
    have h19 : nI j < 19 := nI_lt (b := 19) (by omega) (by decide)
    refine g_iload_n dX2_isFoundByOne_8 rfl rfl ?_
    refine g_bipush (v := 9) dX2_isFoundByOne_9 (by decide) ?_
    refine g_icmp_gt (tgt := 35) dX2_isFoundByOne_11 rfl (fun c_11 => by exfalso; grind) (fun c_11 => ?_)
    refine g_aload_n dX2_isFoundByOne_14 rfl rfl ?_
    refine g_iload_n dX2_isFoundByOne_15 rfl rfl ?_
    refine g_putf dX2_isFoundByOne_16 pX2_13 (xW_at (by decide) xC12) (Nat.le_of_ble_eq_true rfl) (fun _ => rfl) (fun _ => rfl) (xS12 rfl ex3_u) ?_
    refine g_aload_n dX2_isFoundByOne_19 rfl rfl ?_
    refine g_aload_n dX2_isFoundByOne_20 rfl rfl ?_
    refine g_V1r (CX2_fits (g := g) (dg := 1) hg hg8 rfl (by decide)) kX2_isFoundByOne_19 dX2_isFoundByOne_21 (xW_at (by decide) xC12) rfl ⟨rfl, rfl⟩ (Nat.le_of_ble_eq_true rfl) ⟨(Nat.le_of_ble_eq_true rfl), (Nat.le_of_ble_eq_true rfl)⟩ ?_
    refine g_if_eq (tgt := 29) dX2_isFoundByOne_24 rfl (fun c_24 => ?_) (fun c_24 => ?_)
    · refine g_iinc (v := 1) dX2_isFoundByOne_29 (by decide) rfl (Nat.le_of_ble_eq_true rfl) rfl ?_
      refine g_goto (tgt := 8) dX2_isFoundByOne_32 rfl ?_
      have e : fs (exP1 (σ 5) g) (d + 1) j = fs (exP1 (σ 5) g) d (j + 1) := by
        rw [fs, if_neg]
        unfold exP1; rw [decide_eq_true_eq]; exact bI_0.mp c_24
      rw [e]
      exact Go.eq rfl (show _ = _ by rw [← nI_1 j, show nI j + 1 - 9 = nI j - 9 + 1 by grind]; rfl) rfl rfl (ih (j + 1) (nI j - 9) (by omega))
    · refine g_iconst (v := 1) dX2_isFoundByOne_27 (by decide) ?_
      exact g_zret dX2_isFoundByOne_28 rfl rfl (by first | decide | exact bI_and) (by
        have e : fs (exP1 (σ 5) g) (d + 1) j = j := by
          rw [fs, if_pos]
          unfold exP1; rw [decide_eq_true_eq]; exact Classical.byContradiction (fun q => c_24 (bI_f q))
        exact ⟨_, rfl, by rw [e, bI_t (by omega)], fun _ => by rw [e]⟩)
set_option maxRecDepth 100000 in
set_option maxHeartbeats 4000000 in
theorem CX2_one {g : Nat} (hg : σ 4 1 = nI g) (hg8 : g ≤ 8) {dg u : Int32} : Ct l mX2_isFoundByOne [.ref 12, .ref 4] (xW (ex3 σ dg u 0)) (fun r w' => ∃ x, w' = xW (ex3 σ 1 x 0) ∧ r = some (.int (bI (fs (exP1 (σ 5) g) 19 0 < 19))) ∧ (fs (exP1 (σ 5) g) 19 0 < 19 → x = nI (fs (exP1 (σ 5) g) 19 0) - 9)) := by
  refine Ct.of rfl (Nat.le_of_ble_eq_true rfl) ?_
  refine g_aload_n dX2_isFoundByOne_0 rfl rfl ?_
  refine g_iconst (v := 1) dX2_isFoundByOne_1 (by decide) ?_
  refine g_putf dX2_isFoundByOne_2 pX2_7 (xW_at (by decide) xC12) (Nat.le_of_ble_eq_true rfl) (fun _ => rfl) (fun _ => rfl) (xS12 rfl ex3_d) ?_
  refine g_bipush (v := -9) dX2_isFoundByOne_5 (by decide) ?_
  refine g_istore_n dX2_isFoundByOne_7 rfl (Nat.le_of_ble_eq_true rfl) rfl ?_
  exact CX2_one_loop hg hg8 19 0 u rfl
set_option maxRecDepth 100000 in
set_option maxHeartbeats 4000000 in
theorem CX2_two_loop {g n0 : Nat} (hg : σ 4 1 = nI g) (hg8 : g ≤ 8) : ∀ (d a b : Nat) (x y : Int32), a < 19 → b ≤ 19 → 20 * a + b + d = 380 → Go l mX2_isFoundByTwo n0 (fun r w' => ∃ x y, w' = xW (ex3 σ 2 x y) ∧ r = some (.int (bI (fs (exP2 (σ 5) g) (361 - (19 * a + b)) (19 * a + b) < 361))) ∧ (fs (exP2 (σ 5) g) (361 - (19 * a + b)) (19 * a + b) < 361 → x = nI (fs (exP2 (σ 5) g) (361 - (19 * a + b)) (19 * a + b) / 19) - 9 ∧ y = nI (fs (exP2 (σ 5) g) (361 - (19 * a + b)) (19 * a + b) % 19) - 9)) (0, 0) 17 [some (.ref 12), some (.ref 4), some (.int (nI a - 9)), some (.int (nI b - 9))] [] (xW (ex3 σ 2 x y)) := by
  intro d
  induction d with
  | zero =>
    intro a b x y ha hb hm
    exact absurd hm (by omega)
  | succ d ih =>
    intro a b x y ha hb hm
    have ha0 : 0 ≤ nI a := nI_pos' (by omega)
    have ha19 : nI a < 19 := nI_lt (b := 19) (by omega) (by decide)
    have hb0 : 0 ≤ nI b := nI_pos' (by omega)
    have hb20 : nI b < 20 := nI_lt (b := 20) (by omega) (by decide)
    rcases Nat.lt_or_ge b 19 with hb2 | hb2
    · have hb19 : nI b < 19 := nI_lt (b := 19) hb2 (by decide)
      refine g_iload_n dX2_isFoundByTwo_17 rfl rfl ?_
      refine g_bipush (v := 9) dX2_isFoundByTwo_18 (by decide) ?_
      refine g_icmp_gt (tgt := 49) dX2_isFoundByTwo_20 rfl (fun c_20 => by exfalso; grind) (fun c_20 => ?_)
      refine g_aload_n dX2_isFoundByTwo_23 rfl rfl ?_
      refine g_iload_n dX2_isFoundByTwo_24 rfl rfl ?_
      refine g_putf dX2_isFoundByTwo_25 pX2_13 (xW_at (by decide) xC12) (Nat.le_of_ble_eq_true rfl) (fun _ => rfl) (fun _ => rfl) (xS12 rfl ex3_u) ?_
      refine g_aload_n dX2_isFoundByTwo_28 rfl rfl ?_
      refine g_iload_n dX2_isFoundByTwo_29 rfl rfl ?_
      refine g_putf dX2_isFoundByTwo_30 pX2_16 (xW_at (by decide) xC12) (Nat.le_of_ble_eq_true rfl) (fun _ => rfl) (fun _ => rfl) (xS12 rfl ex3_v) ?_
      refine g_aload_n dX2_isFoundByTwo_33 rfl rfl ?_
      refine g_aload_n dX2_isFoundByTwo_34 rfl rfl ?_
      refine g_V1r (CX2_fits (g := g) (dg := 2) hg hg8 rfl (by decide)) kX2_isFoundByTwo_19 dX2_isFoundByTwo_35 (xW_at (by decide) xC12) rfl ⟨rfl, rfl⟩ (Nat.le_of_ble_eq_true rfl) ⟨(Nat.le_of_ble_eq_true rfl), (Nat.le_of_ble_eq_true rfl)⟩ ?_
      refine g_if_eq (tgt := 43) dX2_isFoundByTwo_38 rfl (fun c_38 => ?_) (fun c_38 => ?_)
      · refine g_iinc (v := 1) dX2_isFoundByTwo_43 (by decide) rfl (Nat.le_of_ble_eq_true rfl) rfl ?_
        refine g_goto (tgt := 17) dX2_isFoundByTwo_46 rfl ?_
        have e : fs (exP2 (σ 5) g) (361 - (19 * a + b)) (19 * a + b) = fs (exP2 (σ 5) g) (361 - (19 * a + (b + 1))) (19 * a + (b + 1)) := by
          rw [show 361 - (19 * a + b) = 361 - (19 * a + (b + 1)) + 1 by omega, fs, if_neg, show 19 * a + b + 1 = 19 * a + (b + 1) by omega]
          unfold exP2; rw [decide_eq_true_eq, show (19 * a + b) / 19 = a by omega, show (19 * a + b) % 19 = b by omega]; exact bI_0.mp c_38
        rw [e]
        exact Go.eq rfl (show _ = _ by rw [← nI_1 b, show nI b + 1 - 9 = nI b - 9 + 1 by grind]; rfl) rfl rfl (ih a (b + 1) _ _ (by omega) (by omega) (by omega))
      · refine g_iconst (v := 1) dX2_isFoundByTwo_41 (by decide) ?_
        exact g_zret dX2_isFoundByTwo_42 rfl rfl (by first | decide | exact bI_and) (by
        have e : fs (exP2 (σ 5) g) (361 - (19 * a + b)) (19 * a + b) = 19 * a + b := by
          rw [show 361 - (19 * a + b) = 361 - (19 * a + (b + 1)) + 1 by omega, fs, if_pos]
          unfold exP2; rw [decide_eq_true_eq, show (19 * a + b) / 19 = a by omega, show (19 * a + b) % 19 = b by omega]; exact Classical.byContradiction (fun q => c_38 (bI_f q))
        exact ⟨_, _, rfl, by rw [e, bI_t (by omega)], fun _ => by rw [e, show (19 * a + b) / 19 = a by omega, show (19 * a + b) % 19 = b by omega]; exact ⟨rfl, rfl⟩⟩)
    · have e : b = 19 := by omega
      subst e
      rcases Nat.lt_or_ge (a + 1) 19 with ha2 | ha2
      · have ha18 : nI a < 18 := nI_lt (b := 18) (by omega) (by decide)
        refine g_iload_n dX2_isFoundByTwo_17 rfl rfl ?_
        refine g_bipush (v := 9) dX2_isFoundByTwo_18 (by decide) ?_
        refine g_icmp_gt (tgt := 49) dX2_isFoundByTwo_20 rfl (fun c_20 => ?_) (fun c_20 => by exfalso; revert c_20; decide)
        refine g_iinc (v := 1) dX2_isFoundByTwo_49 (by decide) rfl (Nat.le_of_ble_eq_true rfl) rfl ?_
        refine g_goto (tgt := 8) dX2_isFoundByTwo_52 rfl ?_
        refine g_iload_n dX2_isFoundByTwo_8 rfl rfl ?_
        refine g_bipush (v := 9) dX2_isFoundByTwo_9 (by decide) ?_
        refine g_icmp_gt (tgt := 55) dX2_isFoundByTwo_11 rfl (fun c_11 => by exfalso; grind) (fun c_11 => ?_)
        refine g_bipush (v := -9) dX2_isFoundByTwo_14 (by decide) ?_
        refine g_istore_n dX2_isFoundByTwo_16 rfl (Nat.le_of_ble_eq_true rfl) rfl ?_
        rw [show 19 * a + 19 = 19 * (a + 1) + 0 by omega]
        exact Go.eq rfl (show _ = _ by rw [← nI_1 a, show nI a + 1 - 9 = nI a - 9 + 1 by grind]; rfl) rfl rfl (ih (a + 1) 0 _ _ (by omega) (by omega) (by omega))
      · have e : a = 18 := by omega
        subst e
        refine g_iload_n dX2_isFoundByTwo_17 rfl rfl ?_
        refine g_bipush (v := 9) dX2_isFoundByTwo_18 (by decide) ?_
        refine g_icmp_gt (tgt := 49) dX2_isFoundByTwo_20 rfl (fun c_20 => ?_) (fun c_20 => by exfalso; revert c_20; decide)
        refine g_iinc (v := 1) dX2_isFoundByTwo_49 (by decide) rfl (Nat.le_of_ble_eq_true rfl) rfl ?_
        refine g_goto (tgt := 8) dX2_isFoundByTwo_52 rfl ?_
        refine g_iload_n dX2_isFoundByTwo_8 rfl rfl ?_
        refine g_bipush (v := 9) dX2_isFoundByTwo_9 (by decide) ?_
        refine g_icmp_gt (tgt := 55) dX2_isFoundByTwo_11 rfl (fun c_11 => ?_) (fun c_11 => by exfalso; revert c_11; decide)
        refine g_iconst (v := 0) dX2_isFoundByTwo_55 (by decide) ?_
        exact g_zret dX2_isFoundByTwo_56 rfl rfl (by first | decide | exact bI_and) ⟨x, y, rfl, rfl, fun q => absurd (show (361 : Nat) < 361 from q) (by decide)⟩
set_option maxRecDepth 100000 in
set_option maxHeartbeats 4000000 in
theorem CX2_two {g : Nat} (hg : σ 4 1 = nI g) (hg8 : g ≤ 8) {dg u v : Int32} : Ct l mX2_isFoundByTwo [.ref 12, .ref 4] (xW (ex3 σ dg u v)) (fun r w' => ∃ x y, w' = xW (ex3 σ 2 x y) ∧ r = some (.int (bI (fs (exP2 (σ 5) g) 361 0 < 361))) ∧ (fs (exP2 (σ 5) g) 361 0 < 361 → x = nI (fs (exP2 (σ 5) g) 361 0 / 19) - 9 ∧ y = nI (fs (exP2 (σ 5) g) 361 0 % 19) - 9)) := by
  refine Ct.of rfl (Nat.le_of_ble_eq_true rfl) ?_
  refine g_aload_n dX2_isFoundByTwo_0 rfl rfl ?_
  refine g_iconst (v := 2) dX2_isFoundByTwo_1 (by decide) ?_
  refine g_putf dX2_isFoundByTwo_2 pX2_7 (xW_at (by decide) xC12) (Nat.le_of_ble_eq_true rfl) (fun _ => rfl) (fun _ => rfl) (xS12 rfl ex3_d) ?_
  refine g_bipush (v := -9) dX2_isFoundByTwo_5 (by decide) ?_
  refine g_istore_n dX2_isFoundByTwo_7 rfl (Nat.le_of_ble_eq_true rfl) rfl ?_
  refine g_iload_n dX2_isFoundByTwo_8 rfl rfl ?_
  refine g_bipush (v := 9) dX2_isFoundByTwo_9 (by decide) ?_
  refine g_icmp_gt (tgt := 55) dX2_isFoundByTwo_11 rfl (fun c_11 => by exfalso; revert c_11; decide) (fun c_11 => ?_)
  refine g_bipush (v := -9) dX2_isFoundByTwo_14 (by decide) ?_
  refine g_istore_n dX2_isFoundByTwo_16 rfl (Nat.le_of_ble_eq_true rfl) rfl ?_
  exact CX2_two_loop hg hg8 380 0 0 u v (by decide) (by decide) rfl
/-- the guess: its number among all that are tried; 381: there is none -/
def gsK (G : Nat → Int32) (g : Nat) : Nat := if exOk G g 0 0 0 then 0 else if fs (exP1 G g) 19 0 < 19 then 1 + fs (exP1 G g) 19 0 else 20 + fs (exP2 G g) 361 0
def gsD (q : Nat) : Int32 := if q = 0 then 0 else if q < 20 then 1 else 2
def gsU (q : Nat) : Int32 := if q = 0 then 0 else if q < 20 then nI (q - 1) - 9 else nI ((q - 20) / 19) - 9
def gsV (q : Nat) : Int32 := if q < 20 then 0 else nI ((q - 20) % 19) - 9
set_option maxRecDepth 100000 in
set_option maxHeartbeats 4000000 in
theorem CX2_isFoundFor {g : Nat} (hg : σ 4 1 = nI g) (hg8 : g ≤ 8) : Ct l mX2_isFoundFor [.ref 12, .ref 4] (xW σ) (fun r w' => ∃ x y z, w' = xW (ex3 σ x y z) ∧ r = some (.int (bI (gsK (σ 5) g < 381))) ∧ (gsK (σ 5) g < 381 → x = gsD (gsK (σ 5) g) ∧ y = gsU (gsK (σ 5) g) ∧ z = gsV (gsK (σ 5) g))) := by
  refine Ct.of rfl (Nat.le_of_ble_eq_true rfl) ?_
  refine Go.eq rfl rfl rfl (show xW σ = xW (ex3 σ (σ 12 0) (σ 12 1) (σ 12 2)) by rw [ex3_id]) ?_
  refine g_aload_n dX2_isFoundFor_0 rfl rfl ?_
  refine g_iconst (v := 0) dX2_isFoundFor_1 (by decide) ?_
  refine g_putf dX2_isFoundFor_2 pX2_7 (xW_at (by decide) xC12) (Nat.le_of_ble_eq_true rfl) (fun _ => rfl) (fun _ => rfl) (xS12 rfl ex3_d) ?_
  refine g_aload_n dX2_isFoundFor_5 rfl rfl ?_
  refine g_iconst (v := 0) dX2_isFoundFor_6 (by decide) ?_
  refine g_putf dX2_isFoundFor_7 pX2_13 (xW_at (by decide) xC12) (Nat.le_of_ble_eq_true rfl) (fun _ => rfl) (fun _ => rfl) (xS12 rfl ex3_u) ?_
  refine g_aload_n dX2_isFoundFor_10 rfl rfl ?_
  refine g_iconst (v := 0) dX2_isFoundFor_11 (by decide) ?_
  refine g_putf dX2_isFoundFor_12 pX2_16 (xW_at (by decide) xC12) (Nat.le_of_ble_eq_true rfl) (fun _ => rfl) (fun _ => rfl) (xS12 rfl ex3_v) ?_
  refine g_aload_n dX2_isFoundFor_15 rfl rfl ?_
  refine g_aload_n dX2_isFoundFor_16 rfl rfl ?_
  refine g_V1r (CX2_fits (g := g) (dg := 0) hg hg8 rfl (by decide)) kX2_isFoundFor_19 dX2_isFoundFor_17 (xW_at (by decide) xC12) rfl ⟨rfl, rfl⟩ (Nat.le_of_ble_eq_true rfl) ⟨(Nat.le_of_ble_eq_true rfl), (Nat.le_of_ble_eq_true rfl)⟩ ?_
  refine g_if_ne (tgt := 39) dX2_isFoundFor_20 rfl (fun c_20 => ?_) (fun c_20 => ?_)
  · refine g_iconst (v := 1) dX2_isFoundFor_39 (by decide) ?_
    refine g_goto (tgt := 44) dX2_isFoundFor_40 rfl ?_
    exact g_zret dX2_isFoundFor_44 rfl rfl (by first | decide | exact bI_and) (by
    have e : gsK (σ 5) g = 0 := by
      rw [gsK, if_pos (show exOk (σ 5) g 0 0 0 from Classical.byContradiction (fun q => c_20 (bI_f q)))]
    exact ⟨_, _, _, rfl, by rw [e, bI_t (by decide)], fun _ => by rw [e]; exact ⟨rfl, rfl, rfl⟩⟩)
  · refine g_aload_n dX2_isFoundFor_23 rfl rfl ?_
    refine g_aload_n dX2_isFoundFor_24 rfl rfl ?_
    refine g_V1p (CX2_one hg hg8) kX2_isFoundFor_23 dX2_isFoundFor_25 (xW_at (by decide) xC12) rfl ⟨rfl, rfl⟩ (Nat.le_of_ble_eq_true rfl) ⟨(Nat.le_of_ble_eq_true rfl), (Nat.le_of_ble_eq_true rfl)⟩ ?_
    rintro r w1 ⟨x, rfl, rfl, hx⟩
    refine g_if_ne (tgt := 39) dX2_isFoundFor_28 rfl (fun c_28 => ?_) (fun c_28 => ?_)
    · refine g_iconst (v := 1) dX2_isFoundFor_39 (by decide) ?_
      refine g_goto (tgt := 44) dX2_isFoundFor_40 rfl ?_
      exact g_zret dX2_isFoundFor_44 rfl rfl (by first | decide | exact bI_and) (by
    have hk : fs (exP1 (σ 5) g) 19 0 < 19 := Classical.byContradiction (fun q => c_28 (bI_f q))
    have e : gsK (σ 5) g = 1 + fs (exP1 (σ 5) g) 19 0 := by
      rw [gsK, if_neg (bI_0.mp (show bI (exOk (σ 5) g 0 0 0) = 0 from c_20)), if_pos hk]
    exact ⟨_, _, _, rfl, by rw [e, bI_t (by omega)], fun _ => by rw [e, hx hk, gsD, gsU, gsV, if_neg (by omega), if_pos (by omega), if_neg (by omega), if_pos (by omega), if_pos (by omega), Nat.add_sub_cancel_left]; exact ⟨rfl, rfl, rfl⟩⟩)
    · refine g_aload_n dX2_isFoundFor_31 rfl rfl ?_
      refine g_aload_n dX2_isFoundFor_32 rfl rfl ?_
      refine g_V1p (CX2_two hg hg8) kX2_isFoundFor_26 dX2_isFoundFor_33 (xW_at (by decide) xC12) rfl ⟨rfl, rfl⟩ (Nat.le_of_ble_eq_true rfl) ⟨(Nat.le_of_ble_eq_true rfl), (Nat.le_of_ble_eq_true rfl)⟩ ?_
      rintro r w1 ⟨x2, y2, rfl, rfl, hx2⟩
      refine g_if_eq (tgt := 43) dX2_isFoundFor_36 rfl (fun c_36 => ?_) (fun c_36 => ?_)
      · refine g_iconst (v := 0) dX2_isFoundFor_43 (by decide) ?_
        exact g_zret dX2_isFoundFor_44 rfl rfl (by first | decide | exact bI_and) (by
    have hk := bI_0.mp c_28
    have e : gsK (σ 5) g = 20 + fs (exP2 (σ 5) g) 361 0 := by
      rw [gsK, if_neg (bI_0.mp (show bI (exOk (σ 5) g 0 0 0) = 0 from c_20)), if_neg hk]
    exact ⟨_, _, _, rfl, by rw [e, bI_f (by have := bI_0.mp c_36; omega)], fun q => absurd q (by rw [e]; have := bI_0.mp c_36; omega)⟩)
      · refine g_iconst (v := 1) dX2_isFoundFor_39 (by decide) ?_
        refine g_goto (tgt := 44) dX2_isFoundFor_40 rfl ?_
        exact g_zret dX2_isFoundFor_44 rfl rfl (by first | decide | exact bI_and) (by
    have hk := bI_0.mp c_28
    have hk2 : fs (exP2 (σ 5) g) 361 0 < 361 := Classical.byContradiction (fun q => c_36 (bI_f q))
    have e : gsK (σ 5) g = 20 + fs (exP2 (σ 5) g) 361 0 := by
      rw [gsK, if_neg (bI_0.mp (show bI (exOk (σ 5) g 0 0 0) = 0 from c_20)), if_neg hk]
    exact ⟨_, _, _, rfl, by rw [e, bI_t (by omega)], fun _ => by rw [e, (hx2 hk2).1, (hx2 hk2).2, gsD, gsU, gsV, if_neg (by omega), if_neg (by omega), if_neg (by omega), if_neg (by omega), if_neg (by omega), Nat.add_sub_cancel_left]; exact ⟨rfl, rfl, rfl⟩⟩)
set_option maxRecDepth 100000 in
set_option maxHeartbeats 4000000 in
theorem CX2_degree : Ct l mX2_degree [.ref 12] (xW σ) (q_eq (some (.int (σ 12 0))) (xW σ)) := by
  refine Ct.of rfl (Nat.le_of_ble_eq_true rfl) ?_
  refine g_aload_n dX2_degree_0 rfl rfl ?_
  refine g_getf dX2_degree_1 fX2_7 (xW_at (by decide) xC12) rfl ?_
  exact g_iret dX2_degree_4 rfl rfl ⟨rfl, rfl⟩
set_option maxRecDepth 100000 in
set_option maxHeartbeats 4000000 in
theorem CX2_u : Ct l mX2_u [.ref 12] (xW σ) (q_eq (some (.int (σ 12 1))) (xW σ)) := by
  refine Ct.of rfl (Nat.le_of_ble_eq_true rfl) ?_
  refine g_aload_n dX2_u_0 rfl rfl ?_
  refine g_getf dX2_u_1 fX2_13 (xW_at (by decide) xC12) rfl ?_
  exact g_iret dX2_u_4 rfl rfl ⟨rfl, rfl⟩
set_option maxRecDepth 100000 in
set_option maxHeartbeats 4000000 in
theorem CX2_v : Ct l mX2_v [.ref 12] (xW σ) (q_eq (some (.int (σ 12 2))) (xW σ)) := by
  refine Ct.of rfl (Nat.le_of_ble_eq_true rfl) ?_
  refine g_aload_n dX2_v_0 rfl rfl ?_
  refine g_getf dX2_v_1 fX2_16 (xW_at (by decide) xC12) rfl ?_
  exact g_iret dX2_v_4 rfl rfl ⟨rfl, rfl⟩
end
