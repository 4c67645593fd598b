def mT (σ : Nat → Nat → Int32) (c : Int32) : Bool × (Nat → Nat → Int32) := mTk σ c (σ 0 8).toNatClampNeg (σ 0 9).toNatClampNeg
def mOk (σ : Nat → Nat → Int32) : Prop := ∃ n s, mrOk σ n s
def rdM (G : Nat → Int32) : Nat → Nat → (Nat → Nat → Int32) → Nat × (Nat → Nat → Int32)
  | 0, k, σ => (k, σ)
  | d + 1, k, σ => if (mT σ (G k)).1 then rdM G d (k + 1) (mT σ (G k)).2 else (k, (mT σ (G k)).2)
def mrSm (σ σ' : Nat → Nat → Int32) : Prop := (∀ c, c ≠ 0 → c ≠ 5 → c ≠ 6 → σ' c = σ c) ∧ ∀ k, k ≠ 8 → k ≠ 9 → k ≠ 12 → σ' 0 k = σ 0 k
section
variable {σ : Nat → Nat → Int32} {n s : Nat} {c : Int32}
theorem mT_eq (H : mrOk σ n s) : mT σ c = mTk σ c n s := by
  obtain ⟨h8, h9, hn, hs, -⟩ := H
  rw [mT, h8, h9, nI_clamp (by omega), nI_clamp (by omega)]
theorem mTk_sm : mrSm σ (mTk σ c n s).2 := by
  refine ⟨fun c h0 h5 h6 => ?_, fun k h8 h9 h12 => ?_⟩
  · unfold mTk
    repeat' split
    all_goals simp [put, putC, mTK, h0, h5, h6]
  · unfold mTk
    repeat' split
    all_goals simp [put, putC, upd, mTK, h8, h9, h12]
theorem nums_ge (k : Int32) : 1 ≤ nums k ∧ nums k ≤ 4 := by unfold nums; grind
theorem mTk_ok (H : mrOk σ n s) : mOk (mTk σ c n s).2 := by
  have H0 := H
  obtain ⟨h8, h9, hn, hs, hh⟩ := H
  unfold mTk
  rcases hh with ⟨hb, hlt⟩ | ⟨hb, h1, hs0⟩
  · rw [if_neg (by rw [hb]; decide)]
    by_cases h : mkd c = 2000000001 ∨ (mkd c ≠ 0 ∧ n = 0)
    · rw [if_pos h]; exact ⟨n, s, H0⟩
    · rw [if_neg h]
      refine ⟨n + 1, 0, rfl, rfl, by omega, by omega, Or.inr ⟨rfl, by omega, ?_⟩⟩
      have := (nums_ge (mTK σ n (mkd c) 5 (n + 1 - 1))).1
      exact Int32.le_trans (show nI 0 ≤ 1 by decide) this
  · rw [if_pos hb]
    by_cases h : 0 < n ∧ nI s = nums (σ 5 (n - 1))
    · rw [if_pos h]
      by_cases h2 : c = 59 ∧ n < 8
      · rw [if_pos h2]; exact ⟨n, s, h8, h9, hn, hs, Or.inl ⟨rfl, h2.2⟩⟩
      · rw [if_neg h2]; exact ⟨n, s, h8, h9, hn, hs, Or.inr ⟨rfl, h1, hs0⟩⟩
    · rw [if_neg h]
      by_cases h2 : mFit (σ 5 (n - 1)) (nI s) n c
      · rw [if_pos h2]
        have h3 : nI s ≠ nums (σ 5 (n - 1)) := fun z => h ⟨h1, z⟩
        have h4 := nums_ge (σ 5 (n - 1))
        have h5 : nI (s + 1) = nI s + 1 := (nI_1 s).symm
        have hs1 : s + 1 ≤ 4 := by
          rcases Nat.lt_or_ge s 4 with y | y
          · exact y
          · exfalso
            have e : s = 4 := by omega
            subst e
            have e4 : nI 4 = 4 := rfl
            grind
        refine ⟨n, s + 1, h8, rfl, hn, hs1, Or.inr ⟨hb, h1, ?_⟩⟩
        show nI (s + 1) ≤ nums (σ 5 (n - 1))
        have e0 := nI_pos' (n := s) (by omega)
        rw [h5]
        grind
      · rw [if_neg h2]; exact ⟨n, s, H0⟩
theorem mrSm.tr {σ σ1 σ2 : Nat → Nat → Int32} (h : mrSm σ σ1) (h2 : mrSm σ1 σ2) : mrSm σ σ2 := ⟨fun c a b d => (h2.1 c a b d).trans (h.1 c a b d), fun k a b d => (h2.2 k a b d).trans (h.2 k a b d)⟩
theorem rdM_ok {G : Nat → Int32} : ∀ (d k : Nat) (σ : Nat → Nat → Int32), mOk σ → mOk (rdM G d k σ).2 ∧ mrSm σ (rdM G d k σ).2 ∧ (rdM G d k σ).1 ≤ k + d
  | 0, k, σ, h => ⟨h, ⟨fun _ _ _ _ => rfl, fun _ _ _ _ => rfl⟩, Nat.le_refl _⟩
  | d + 1, k, σ, h => by
    obtain ⟨n, s, H⟩ := id h
    have e := mT_eq (c := G k) H
    have h1 := mTk_ok (c := G k) H
    have h2 := mTk_sm (σ := σ) (n := n) (s := s) (c := G k)
    rw [← e] at h1 h2
    rw [rdM]
    split
    · have ih := rdM_ok (G := G) d (k + 1) _ h1
      exact ⟨ih.1, h2.tr ih.2.1, by omega⟩
    · exact ⟨h1, h2, Nat.le_add_right _ _⟩
def mR0 (σ : Nat → Nat → Int32) : Nat → Nat → Int32 := put (put (put σ 0 8 0) 0 9 0) 0 12 1
theorem mR0_ok : mOk (mR0 σ) := ⟨0, 0, rfl, rfl, by omega, by omega, Or.inl ⟨rfl, by omega⟩⟩
theorem mR0_sm : mrSm σ (mR0 σ) := by
  refine ⟨fun c h0 h5 h6 => ?_, fun k h8 h9 h12 => ?_⟩
  · simp [mR0, put, h0]
  · simp [mR0, put, upd, h8, h9, h12]
def mRd (σ : Nat → Nat → Int32) (p : Nat) : Nat × (Nat → Nat → Int32) := rdM (σ 4) p 0 (mR0 σ)
def mRows (σ : Nat → Nat → Int32) (n : Nat) : Nat → Nat → Int32 := mChg (put (put (putC (putC (put σ 0 0 (nI n)) 1 (ru (σ 1) 0 n (σ 5))) 2 (ru (σ 2) 0 (4 * n) (σ 6))) 0 3 (σ 0 3 + 1)) 0 6 0)
end
section
variable {l : Launch} {σ : Nat → Nat → Int32} {t : Nat → Int64} {n s : Nat}
set_option maxRecDepth 100000 in
set_option maxHeartbeats 4000000 in
theorem CX11_rdL {G : Nat → Int32} {p n0 : Nat} (hp : p ≤ 47) : ∀ (d k : Nat) (σ : Nat → Nat → Int32), mOk σ → σ 0 6 = nI p → σ 4 = G → k + d = p → Go l mX11_read n0 (q_eq (some (.int (nI (rdM G d k σ).1))) (mW (rdM G d k σ).2 t)) (0, 0) 17 [some (.ref 0), some (.int (nI k))] [] (mW σ t) := by
  intro d
  induction d with
  | zero =>
    intro k σ hO hp0 hG hk
    have e1 : p = k := by omega
    subst e1
    refine g_iload_n dX11_read_17 rfl rfl ?_
    refine g_aload_n dX11_read_18 rfl rfl ?_
    refine g_getf dX11_read_19 fX11_73 mW_0 rfl ?_
    rw [hp0]
    refine g_icmp_ge (tgt := 44) dX11_read_22 rfl (fun c_22 => ?_) (fun c_22 => by exact absurd (nI_le (by omega) (by omega)) c_22)
    refine g_iload_n dX11_read_44 rfl rfl ?_
    exact g_iret dX11_read_45 rfl rfl ⟨rfl, rfl⟩
  | succ d ih =>
    intro k σ hO hp0 hG hk
    obtain ⟨n, s, H⟩ := id hO
    have eT := mT_eq (c := G k) H
    refine g_iload_n dX11_read_17 rfl rfl ?_
    refine g_aload_n dX11_read_18 rfl rfl ?_
    refine g_getf dX11_read_19 fX11_73 mW_0 rfl ?_
    rw [hp0]
    refine g_icmp_ge (tgt := 44) dX11_read_22 rfl (fun c_22 => by exact absurd c_22 (nI_ge (by omega) (by omega))) (fun c_22 => ?_)
    refine g_aload_n dX11_read_25 rfl rfl ?_
    refine g_aload_n dX11_read_26 rfl rfl ?_
    refine g_getf dX11_read_27 fX11_19 mW_0 rfl ?_
    refine g_iload_n dX11_read_30 rfl rfl ?_
    refine g_bald dX11_read_31 mA4 (vin_n (by omega) (by decide)) ?_
    rw [nI_clamp (by omega), hG]
    refine g_V1r (CX11_takes H) kX11_read_108 dX11_read_32 mW_0 rfl ⟨rfl, rfl⟩ (Nat.le_of_ble_eq_true rfl) ⟨(Nat.le_of_ble_eq_true rfl), (Nat.le_of_ble_eq_true rfl)⟩ ?_
    rw [← eT]
    refine g_if_eq (tgt := 44) dX11_read_35 rfl (fun c_35 => ?_) (fun c_35 => ?_)
    · refine g_iload_n dX11_read_44 rfl rfl ?_
      exact g_iret dX11_read_45 rfl rfl (by rw [rdM, if_neg (bB_f c_35)]; exact ⟨rfl, rfl⟩)
    · refine g_iinc (v := 1) dX11_read_38 (by decide) rfl (Nat.le_of_ble_eq_true rfl) rfl ?_
      refine g_goto (tgt := 17) dX11_read_41 rfl ?_
      have h1 : mOk (mT σ (G k)).2 := (by have h1 := mTk_ok (c := G k) H; rw [← eT] at h1; exact h1)
      have h2 : mrSm σ (mT σ (G k)).2 := (by have h2 := mTk_sm (σ := σ) (n := n) (s := s) (c := G k); rw [← eT] at h2; exact h2)
      refine Go.mono (Q' := (q_eq (some (.int (nI (rdM G d (k + 1) (mT σ (G k)).2).1))) (mW (rdM G d (k + 1) (mT σ (G k)).2).2 t))) (fun r w2 h => by rw [rdM, if_pos (bB_t c_35)]; exact h) ?_
      exact Go.eq rfl (show _ = _ by rw [← nI_1 k]; rfl) rfl rfl (ih (k + 1) _ h1 ((h2.2 6 (by decide) (by decide) (by decide)).trans hp0) ((h2.1 4 (by decide) (by decide) (by decide)).trans hG) (by omega))
set_option maxRecDepth 100000 in
set_option maxHeartbeats 4000000 in
theorem CX11_read {p : Nat} (hp : p ≤ 47) (hp0 : σ 0 6 = nI p) : Ct l mX11_read [.ref 0] (mW σ t) (q_eq (some (.int (nI (mRd σ p).1))) (mW (mRd σ p).2 t)) := by
  refine Ct.of rfl (Nat.le_of_ble_eq_true rfl) ?_
  refine g_aload_n dX11_read_0 rfl rfl ?_
  refine g_iconst (v := 0) dX11_read_1 (by decide) ?_
  refine g_putf dX11_read_2 pX11_77 mW_0 (Nat.le_of_ble_eq_true rfl) (fun _ => rfl) (fun _ => rfl) (mW_obj rfl) ?_
  refine g_aload_n dX11_read_5 rfl rfl ?_
  refine g_iconst (v := 0) dX11_read_6 (by decide) ?_
  refine g_putf dX11_read_7 pX11_84 mW_0 (Nat.le_of_ble_eq_true rfl) (fun _ => rfl) (fun _ => rfl) (mW_obj rfl) ?_
  refine g_aload_n dX11_read_10 rfl rfl ?_
  refine g_iconst (v := 1) dX11_read_11 (by decide) ?_
  refine g_putf dX11_read_12 pX11_90 mW_0 (Nat.le_of_ble_eq_true rfl) (fun _ => rfl) (fun _ => rfl) (mW_obj rfl) ?_
  refine g_iconst (v := 0) dX11_read_15 (by decide) ?_
  refine g_istore_n dX11_read_16 rfl (Nat.le_of_ble_eq_true rfl) rfl ?_
  exact Go.eq rfl rfl rfl rfl (CX11_rdL (G := σ 4) hp p 0 (mR0 σ) mR0_ok hp0 rfl (by omega))
set_option maxRecDepth 100000 in
set_option maxHeartbeats 4000000 in
theorem CX11_fault {p : Nat} (hp : p ≤ 47) (hp0 : σ 0 6 = nI p) : Ct l mX11_fault [.ref 0] (mW σ t) (q_eq (some (.int (nI (mRd σ p).1))) (mW (mRd σ p).2 t)) := by
  refine Ct.of rfl (Nat.le_of_ble_eq_true rfl) ?_
  refine g_aload_n dX11_fault_0 rfl rfl ?_
  refine g_V0r (CX11_read hp hp0) kX11_fault_111 dX11_fault_1 mW_0 rfl ⟨rfl, rfl⟩ (Nat.le_of_ble_eq_true rfl) ⟨(Nat.le_of_ble_eq_true rfl), (Nat.le_of_ble_eq_true rfl)⟩ ?_
  exact g_iret dX11_fault_4 rfl rfl ⟨rfl, rfl⟩
set_option maxRecDepth 100000 in
set_option maxHeartbeats 4000000 in
theorem CX11_rwB {n0 : Nat} (hn : n ≤ 8) (h8 : σ 0 8 = nI n) : ∀ (d j : Nat), j + d = 4 * n → Go l mX11_rows n0 (q_eq (some (.int (nI n))) (mW (mRows σ n) t)) (0, 0) 66 [some (.ref 0), some (.int (nI j))] [] (mW (putC (putC (put σ 0 0 (nI n)) 1 (ru (σ 1) 0 n (σ 5))) 2 (ru (σ 2) 0 j (σ 6))) t) := by
  intro d
  induction d with
  | zero =>
    intro j hj
    have e1 : j = 4 * n := by omega
    subst e1
    refine g_iload_n dX11_rows_66 rfl rfl ?_
    refine g_iconst (v := 4) dX11_rows_67 (by decide) ?_
    refine g_aload_n dX11_rows_68 rfl rfl ?_
    refine g_getf dX11_rows_69 fX11_77 mW_0 rfl ?_
    refine Go.eq rfl rfl (congrArg (fun z => [Value.int z, Value.int 4, Value.int (nI (4 * n))]) (show _ = nI n from h8)) rfl ?_
    refine g_imul dX11_rows_72 ?_
    rw [jx4]
    refine g_icmp_ge (tgt := 94) dX11_rows_73 rfl (fun c_73 => ?_) (fun c_73 => by exact absurd (nI_le (by omega) (by omega)) c_73)
    refine g_aload_n dX11_rows_94 rfl rfl ?_
    refine g_dup dX11_rows_95 rfl ?_
    refine g_getf dX11_rows_96 fX11_119 mW_0 rfl ?_
    refine g_iconst (v := 1) dX11_rows_99 (by decide) ?_
    refine g_iadd dX11_rows_100 ?_
    refine g_putf dX11_rows_101 pX11_119 mW_0 (Nat.le_of_ble_eq_true rfl) (fun _ => rfl) (fun _ => rfl) (mW_obj rfl) ?_
    refine g_aload_n dX11_rows_104 rfl rfl ?_
    refine g_iconst (v := 0) dX11_rows_105 (by decide) ?_
    refine g_putf dX11_rows_106 pX11_73 mW_0 (Nat.le_of_ble_eq_true rfl) (fun _ => rfl) (fun _ => rfl) (mW_obj rfl) ?_
    refine g_aload_n dX11_rows_109 rfl rfl ?_
    refine g_V0v CX11_changes kX11_rows_122 dX11_rows_110 mW_0 rfl ⟨rfl, rfl⟩ (Nat.le_of_ble_eq_true rfl) ⟨(Nat.le_of_ble_eq_true rfl), (Nat.le_of_ble_eq_true rfl)⟩ ?_
    refine g_aload_n dX11_rows_113 rfl rfl ?_
    refine g_getf dX11_rows_114 fX11_116 mW_0 rfl ?_
    exact g_iret dX11_rows_117 rfl rfl ⟨rfl, rfl⟩
  | succ d ih =>
    intro j hj
    refine g_iload_n dX11_rows_66 rfl rfl ?_
    refine g_iconst (v := 4) dX11_rows_67 (by decide) ?_
    refine g_aload_n dX11_rows_68 rfl rfl ?_
    refine g_getf dX11_rows_69 fX11_77 mW_0 rfl ?_
    refine Go.eq rfl rfl (congrArg (fun z => [Value.int z, Value.int 4, Value.int (nI j)]) (show _ = nI n from h8)) rfl ?_
    refine g_imul dX11_rows_72 ?_
    rw [jx4]
    refine g_icmp_ge (tgt := 94) dX11_rows_73 rfl (fun c_73 => by exact absurd c_73 (nI_ge (by omega) (by omega))) (fun c_73 => ?_)
    refine g_aload_n dX11_rows_76 rfl rfl ?_
    refine g_getf dX11_rows_77 fX11_13 mW_0 rfl ?_
    refine g_iload_n dX11_rows_80 rfl rfl ?_
    refine g_aload_n dX11_rows_81 rfl rfl ?_
    refine g_getf dX11_rows_82 fX11_26 mW_0 rfl ?_
    refine g_iload_n dX11_rows_85 rfl rfl ?_
    refine g_iald dX11_rows_86 mA6 (vin_n (by omega) (by decide)) ?_
    rw [nI_clamp (by omega)]
    refine g_iast dX11_rows_87 mA2 (vin_n (by omega) (by decide)) (mW_arrN (k' := j) (fun _ => rfl) (nI_clamp (by omega))) ?_
    refine g_iinc (v := 1) dX11_rows_88 (by decide) rfl (Nat.le_of_ble_eq_true rfl) rfl ?_
    refine g_goto (tgt := 66) dX11_rows_91 rfl ?_
    exact Go.eq rfl (show _ = _ by rw [← nI_1 j]; rfl) rfl (show mW (put (putC (putC (put σ 0 0 (nI n)) 1 (ru (σ 1) 0 n (σ 5))) 2 (ru (σ 2) 0 j (σ 6))) 2 j (σ 6 j)) t = _ by rw [put_putC]; have e := ru_1 (V := σ 2) (F := σ 6) (s := 0) (j := j) rfl; rw [Nat.zero_add] at e; rw [e]) (ih (j + 1) (by omega))
set_option maxRecDepth 100000 in
set_option maxHeartbeats 4000000 in
theorem CX11_rwA {n0 : Nat} (hn : n ≤ 8) (h8 : σ 0 8 = nI n) : ∀ (d j : Nat), j + d = n → Go l mX11_rows n0 (q_eq (some (.int (nI n))) (mW (mRows σ n) t)) (0, 0) 38 [some (.ref 0), some (.int (nI j))] [] (mW (putC (put σ 0 0 (nI n)) 1 (ru (σ 1) 0 j (σ 5))) t) := by
  intro d
  induction d with
  | zero =>
    intro j hj
    have e1 : n = j := by omega
    subst e1
    refine g_iload_n dX11_rows_38 rfl rfl ?_
    refine g_aload_n dX11_rows_39 rfl rfl ?_
    refine g_getf dX11_rows_40 fX11_77 mW_0 rfl ?_
    refine Go.eq rfl rfl (congrArg (fun z => [Value.int z, Value.int (nI n)]) (show _ = nI n from h8)) rfl ?_
    refine g_icmp_ge (tgt := 64) dX11_rows_43 rfl (fun c_43 => ?_) (fun c_43 => by exact absurd (nI_le (by omega) (by omega)) c_43)
    refine g_iconst (v := 0) dX11_rows_64 (by decide) ?_
    refine g_istore_n dX11_rows_65 rfl (Nat.le_of_ble_eq_true rfl) rfl ?_
    exact Go.eq rfl rfl rfl (by rw [ru_0]; exact congrArg (fun z => mW z t) (putC_id (σ := putC (put σ 0 0 (nI n)) 1 (ru (σ 1) 0 n (σ 5))) (c := 2)).symm) (CX11_rwB hn h8 (4 * n) 0 (by omega))
  | succ d ih =>
    intro j hj
    refine g_iload_n dX11_rows_38 rfl rfl ?_
    refine g_aload_n dX11_rows_39 rfl rfl ?_
    refine g_getf dX11_rows_40 fX11_77 mW_0 rfl ?_
    refine Go.eq rfl rfl (congrArg (fun z => [Value.int z, Value.int (nI j)]) (show _ = nI n from h8)) rfl ?_
    refine g_icmp_ge (tgt := 64) dX11_rows_43 rfl (fun c_43 => by exact absurd c_43 (nI_ge (by omega) (by omega))) (fun c_43 => ?_)
    refine g_aload_n dX11_rows_46 rfl rfl ?_
    refine g_getf dX11_rows_47 fX11_7 mW_0 rfl ?_
    refine g_iload_n dX11_rows_50 rfl rfl ?_
    refine g_aload_n dX11_rows_51 rfl rfl ?_
    refine g_getf dX11_rows_52 fX11_23 mW_0 rfl ?_
    refine g_iload_n dX11_rows_55 rfl rfl ?_
    refine g_iald dX11_rows_56 mA5 (vin_n (by omega) (by decide)) ?_
    rw [nI_clamp (by omega)]
    refine g_iast dX11_rows_57 mA1 (vin_n (by omega) (by decide)) (mW_arrN (k' := j) (fun _ => rfl) (nI_clamp (by omega))) ?_
    refine g_iinc (v := 1) dX11_rows_58 (by decide) rfl (Nat.le_of_ble_eq_true rfl) rfl ?_
    refine g_goto (tgt := 38) dX11_rows_61 rfl ?_
    exact Go.eq rfl (show _ = _ by rw [← nI_1 j]; rfl) rfl (show mW (put (putC (put σ 0 0 (nI n)) 1 (ru (σ 1) 0 j (σ 5))) 1 j (σ 5 j)) t = _ by rw [put_putC]; have e := ru_1 (V := σ 1) (F := σ 5) (s := 0) (j := j) rfl; rw [Nat.zero_add] at e; rw [e]) (ih (j + 1) (by omega))
abbrev mWh (σ : Nat → Nat → Int32) (p : Nat) : Prop := (mRd σ p).1 = p ∧ (mRd σ p).2 0 12 = 0 ∧ (0 < ((mRd σ p).2 0 8).toNatClampNeg ∧ (mRd σ p).2 0 9 = nums ((mRd σ p).2 5 (((mRd σ p).2 0 8).toNatClampNeg - 1)))
set_option maxRecDepth 100000 in
set_option maxHeartbeats 4000000 in
theorem CX11_rows {p : Nat} (hp : p ≤ 47) (hp0 : σ 0 6 = nI p) : Ct l mX11_rows [.ref 0] (mW σ t) (q_eq (some (.int (if mWh σ p then (mRd σ p).2 0 8 else 2000000103))) (mW (if mWh σ p then mRows (mRd σ p).2 ((mRd σ p).2 0 8).toNatClampNeg else (mRd σ p).2) t)) := by
  refine Ct.of rfl (Nat.le_of_ble_eq_true rfl) ?_
  obtain ⟨n, s, H⟩ := (rdM_ok (G := σ 4) p 0 (mR0 σ) mR0_ok).1
  have hS := (mR0_sm (σ := σ)).tr (rdM_ok (G := σ 4) p 0 (mR0 σ) mR0_ok).2.1
  have hL := (rdM_ok (G := σ 4) p 0 (mR0 σ) mR0_ok).2.2
  change mrOk (mRd σ p).2 n s at H
  change mrSm σ (mRd σ p).2 at hS
  change (mRd σ p).1 ≤ 0 + p at hL
  have h8 := H.1
  have hn := H.2.2.1
  have hcl : ((mRd σ p).2 0 8).toNatClampNeg = n := by rw [h8]; exact nI_clamp (by omega)
  have hp6 : (mRd σ p).2 0 6 = nI p := (hS.2 6 (by decide) (by decide) (by decide)).trans hp0
  refine g_aload_n dX11_rows_0 rfl rfl ?_
  refine g_V0r (CX11_read hp hp0) kX11_rows_111 dX11_rows_1 mW_0 rfl ⟨rfl, rfl⟩ (Nat.le_of_ble_eq_true rfl) ⟨(Nat.le_of_ble_eq_true rfl), (Nat.le_of_ble_eq_true rfl)⟩ ?_
  refine g_aload_n dX11_rows_4 rfl rfl ?_
  refine g_getf dX11_rows_5 fX11_73 mW_0 rfl ?_
  rw [hp6]
  refine g_icmp_lt (tgt := 25) dX11_rows_8 rfl (fun c_8 => ?_) (fun c_8 => ?_)
  · refine g_ldc dX11_rows_25 tb_1007 ?_
    exact g_iret dX11_rows_27 rfl rfl (by have hw : ¬ mWh σ p := fun z => (by first | exact absurd c_8 (by rw [z.1]; exact nI_nlt (Nat.le_refl _) (by omega)) | exact c_15 z.2.1 | exact absurd z.2.2 (by rw [hcl]; exact bI_0.mp c_22)); rw [if_neg hw, if_neg hw]; exact ⟨rfl, rfl⟩)
  · refine g_aload_n dX11_rows_11 rfl rfl ?_
    refine g_getf dX11_rows_12 fX11_90 mW_0 rfl ?_
    refine g_if_ne (tgt := 25) dX11_rows_15 rfl (fun c_15 => ?_) (fun c_15 => ?_)
    · refine g_ldc dX11_rows_25 tb_1007 ?_
      exact g_iret dX11_rows_27 rfl rfl (by have hw : ¬ mWh σ p := fun z => (by first | exact absurd c_8 (by rw [z.1]; exact nI_nlt (Nat.le_refl _) (by omega)) | exact c_15 z.2.1 | exact absurd z.2.2 (by rw [hcl]; exact bI_0.mp c_22)); rw [if_neg hw, if_neg hw]; exact ⟨rfl, rfl⟩)
    · refine g_aload_n dX11_rows_18 rfl rfl ?_
      refine g_V0r (CX11_isDone hn h8) kX11_rows_98 dX11_rows_19 mW_0 rfl ⟨rfl, rfl⟩ (Nat.le_of_ble_eq_true rfl) ⟨(Nat.le_of_ble_eq_true rfl), (Nat.le_of_ble_eq_true rfl)⟩ ?_
      refine g_if_ne (tgt := 28) dX11_rows_22 rfl (fun c_22 => ?_) (fun c_22 => ?_)
      · refine g_aload_n dX11_rows_28 rfl rfl ?_
        refine g_aload_n dX11_rows_29 rfl rfl ?_
        refine g_getf dX11_rows_30 fX11_77 mW_0 rfl ?_
        refine g_putf dX11_rows_33 pX11_116 mW_0 (Nat.le_of_ble_eq_true rfl) (fun _ => rfl) (fun _ => rfl) (mW_obj rfl) ?_
        refine g_iconst (v := 0) dX11_rows_36 (by decide) ?_
        refine g_istore_n dX11_rows_37 rfl (Nat.le_of_ble_eq_true rfl) rfl ?_
        have hw : mWh σ p := ⟨by rcases Nat.lt_or_ge (mRd σ p).1 p with y | y; exact absurd (nI_lt y (by omega)) c_8; omega, c_15, by rw [hcl]; exact Classical.byContradiction (fun z => c_22 (bI_f z))⟩
        refine Go.mono (Q' := (q_eq (some (.int (nI n))) (mW (mRows (mRd σ p).2 n) t))) (fun r w2 h => by rw [if_pos hw, if_pos hw, hcl, h8]; exact h) ?_
        exact Go.eq rfl rfl rfl (by rw [ru_0]; exact congrArg (fun z => mW z t) ((congrArg (fun z => put (mRd σ p).2 0 0 z) h8).trans (putC_id (σ := put (mRd σ p).2 0 0 (nI n)) (c := 1)).symm)) (CX11_rwA hn h8 n 0 (by omega))
      · refine g_ldc dX11_rows_25 tb_1007 ?_
        exact g_iret dX11_rows_27 rfl rfl (by have hw : ¬ mWh σ p := fun z => (by first | exact absurd c_8 (by rw [z.1]; exact nI_nlt (Nat.le_refl _) (by omega)) | exact c_15 z.2.1 | exact absurd z.2.2 (by rw [hcl]; exact bI_0.mp c_22)); rw [if_neg hw, if_neg hw]; exact ⟨rfl, rfl⟩)
end
