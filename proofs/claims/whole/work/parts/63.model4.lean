/-- what a row of the reference refers to: its first part or itself, its other part, its step of numbers -/
def mRw (σ : Nat → Nat → Int32) (q o b m : Nat) : Prop := q ≤ 8 ∧ o ≤ 8 ∧ m ≤ 5 ∧ (σ 1 q = 0 → o = q) ∧ (σ 1 q ≠ 0 → σ 2 (4 * q) = nI o) ∧ (σ 1 q = 1 ∨ σ 1 q = 2 → σ 2 (4 * q + 1) = nI b ∧ b ≤ 8) ∧ (σ 1 q = 3 → σ 2 (4 * q + 1) = nI m) ∧ (σ 1 q ≠ 3 → m = 1)
def rl2M (c d : Int32) (m : Nat) (k : Int32) : Int32 := if 2 < k then 0 else if k = 1 then (pwM c d m).1 else -(pw1 (-d) m)
def rlM (σ : Nat → Nat → Int32) (q o b m : Nat) (k : Int32) : Int32 :=
  if k = 0 then (if σ 1 q = 1 ∨ σ 1 q = 2 then 4 else 2)
  else if σ 1 q = 1 then pickS k (σ 2 (4 * o)) (σ 2 (4 * o + 1)) (σ 2 (4 * b)) (σ 2 (4 * b + 1))
  else if σ 1 q = 2 then pickM k (σ 2 (4 * o)) (σ 2 (4 * o + 1)) (σ 2 (4 * b)) (σ 2 (4 * b + 1))
  else rl2M (σ 2 (4 * o)) (σ 2 (4 * o + 1)) m k
theorem piN {σ : Nat → Nat → Int32} {a b : Nat} (ha : a ≤ 8) (hb : b ≤ 8) : (if mIP σ a then nI a else if mIP σ b then nI b else (2000000001 : Int32)) = 2000000001 ↔ ¬ mIP σ a ∧ ¬ mIP σ b := by
  have e : ∀ x, x ≤ 8 → nI x ≠ 2000000001 := fun x hx z => by
    have h : nI x ≤ 8 := nI_le (b := 8) hx (by decide)
    rw [z] at h
    revert h; decide
  have ea := e a ha
  have eb := e b hb
  by_cases h1 : mIP σ a
  · rw [if_pos h1]; exact ⟨fun z => absurd z ea, fun z => absurd h1 z.1⟩
  · rw [if_neg h1]
    by_cases h2 : mIP σ b
    · rw [if_pos h2]; exact ⟨fun z => absurd z eb, fun z => absurd h2 z.2⟩
    · rw [if_neg h2]; exact ⟨fun _ => ⟨h1, h2⟩, fun _ => rfl⟩
abbrev mCB (σ : Nat → Nat → Int32) (q o b : Nat) : Prop := mPT σ q o b ∧ (if σ 1 q = 1 then σ 2 (4 * o) = σ 2 (4 * b) ∧ σ 2 (4 * o + 1) = σ 2 (4 * b + 1) else if σ 1 q = 2 then mIP σ o ∨ mIP σ b else True)
def mTM (σ : Nat → Nat → Int32) (wt : Int32) : Nat → Int32
  | 0 => 0
  | j + 1 => mTM σ wt j + (if σ 1 j = 0 ∧ (wt = 0 ∨ 0 < dgM (σ 2 (4 * j)) (σ 2 (4 * j + 1))) then 1 else 0)
theorem mTM_t {σ : Nat → Nat → Int32} {wt : Int32} {j : Nat} (h : σ 1 j = 0 ∧ (wt = 0 ∨ 0 < dgM (σ 2 (4 * j)) (σ 2 (4 * j + 1)))) : mTM σ wt (j + 1) = mTM σ wt j + 1 := by rw [mTM, if_pos h]
theorem mTM_f {σ : Nat → Nat → Int32} {wt : Int32} {j : Nat} (h : ¬ (σ 1 j = 0 ∧ (wt = 0 ∨ 0 < dgM (σ 2 (4 * j)) (σ 2 (4 * j + 1))))) : mTM σ wt (j + 1) = mTM σ wt j + 0 := by rw [mTM, if_neg h]
def byv (G : Nat → Int32) (dg : Nat) (u v : Int32) (k : Nat) : Int32 := if nI dg = 0 then 0 else if nI dg = 1 then u * G (k - 1) else u * G (k - 1) + v * G (k - 2)
def igB (G : Nat → Int32) (dg : Nat) (u v : Int32) : Nat → Bool
  | 0 => true
  | i + 1 => igB G dg u v i && decide (G (dg + i) = byv G dg u v (dg + i))
theorem igB_t {G : Nat → Int32} {dg i : Nat} {u v x : Int32} (h1 : ¬ bB (igB G dg u v i) = 0) (hx : byv G dg u v (dg + i) = x) (h2 : G (dg + i) = x) : bB (igB G dg u v (i + 1)) = 1 := by
  have : igB G dg u v i = true := by
    cases h : igB G dg u v i with
    | true => rfl
    | false => rw [h] at h1; exact absurd rfl h1
  rw [igB, this, hx, decide_eq_true h2]; rfl
theorem igB_f {G : Nat → Int32} {dg i : Nat} {u v : Int32} (h1 : bB (igB G dg u v i) = 0) : bB (igB G dg u v (i + 1)) = 0 := by
  have : igB G dg u v i = false := by
    cases h : igB G dg u v i with
    | false => rfl
    | true => rw [h] at h1; exact absurd h1 (by decide)
  rw [igB, this]; rfl
theorem igB_g {G : Nat → Int32} {dg i : Nat} {u v x : Int32} (hx : byv G dg u v (dg + i) = x) (h2 : ¬ G (dg + i) = x) : bB (igB G dg u v (i + 1)) = 0 := by
  rw [igB, hx, decide_eq_false h2, Bool.and_false]; rfl
section
variable {l : Launch} {σ : Nat → Nat → Int32} {t : Nat → Int64} {n : Nat}
set_option maxRecDepth 100000 in
set_option maxHeartbeats 4000000 in
theorem CX11_twoRule {q o b m : Nat} {k : Int32} (H : mRw σ q o b m) : Ct l mX11_twoRule [.ref 0, .int (nI q), .int k] (mW σ t) (q_eq (some (.int (rl2M (σ 2 (4 * o)) (σ 2 (4 * o + 1)) m k))) (mW σ t)) := by
  refine Ct.of rfl (Nat.le_of_ble_eq_true rfl) ?_
  obtain ⟨hq, ho8, hm8, ho1, ho2, hb, hm1, hm2⟩ := H
  refine g_iload_n dX11_twoRule_0 rfl rfl ?_
  refine g_iconst (v := 2) dX11_twoRule_1 (by decide) ?_
  refine g_icmp_le (tgt := 7) dX11_twoRule_2 rfl (fun c_2 => ?_) (fun c_2 => ?_)
  · refine g_aload_n dX11_twoRule_7 rfl rfl ?_
    refine g_getf dX11_twoRule_8 fX11_7 mW_0 rfl ?_
    refine g_iload_n dX11_twoRule_11 rfl rfl ?_
    refine g_iald dX11_twoRule_12 mA1 (vin_n (by omega) (by decide)) ?_
    rw [nI_clamp (by omega)]
    refine g_if_ne (tgt := 20) dX11_twoRule_13 rfl (fun c_13 => ?_) (fun c_13 => ?_)
    · refine g_aload_n dX11_twoRule_20 rfl rfl ?_
      refine g_getf dX11_twoRule_21 fX11_13 mW_0 rfl ?_
      refine g_iconst (v := 4) dX11_twoRule_24 (by decide) ?_
      refine g_iload_n dX11_twoRule_25 rfl rfl ?_
      refine g_imul dX11_twoRule_26 ?_
      rw [jx4]
      refine g_iald dX11_twoRule_27 mA2 (vin_n (by omega) (by decide)) ?_
      rw [nI_clamp (by omega), ho2 c_13]
      refine g_istore_n dX11_twoRule_28 rfl (Nat.le_of_ble_eq_true rfl) rfl ?_
      refine g_aload_n dX11_twoRule_29 rfl rfl ?_
      refine g_getf dX11_twoRule_30 fX11_13 mW_0 rfl ?_
      refine g_iconst (v := 4) dX11_twoRule_33 (by decide) ?_
      refine g_iload_n dX11_twoRule_34 rfl rfl ?_
      refine g_imul dX11_twoRule_35 ?_
      rw [jx4]
      refine g_iald dX11_twoRule_36 mA2 (vin_n (by omega) (by decide)) ?_
      rw [nI_clamp (by omega)]
      refine g_istore dX11_twoRule_37 (Nat.le_of_ble_eq_true rfl) rfl ?_
      refine g_aload_n dX11_twoRule_39 rfl rfl ?_
      refine g_getf dX11_twoRule_40 fX11_13 mW_0 rfl ?_
      refine g_iconst (v := 4) dX11_twoRule_43 (by decide) ?_
      refine g_iload_n dX11_twoRule_44 rfl rfl ?_
      refine g_imul dX11_twoRule_45 ?_
      refine g_iconst (v := 1) dX11_twoRule_46 (by decide) ?_
      refine g_iadd dX11_twoRule_47 ?_
      rw [jx41]
      refine g_iald dX11_twoRule_48 mA2 (vin_n (by omega) (by decide)) ?_
      rw [nI_clamp (by omega)]
      refine g_istore dX11_twoRule_49 (Nat.le_of_ble_eq_true rfl) rfl ?_
      refine g_aload_n dX11_twoRule_51 rfl rfl ?_
      refine g_getf dX11_twoRule_52 fX11_7 mW_0 rfl ?_
      refine g_iload_n dX11_twoRule_55 rfl rfl ?_
      refine g_iald dX11_twoRule_56 mA1 (vin_n (by omega) (by decide)) ?_
      rw [nI_clamp (by omega)]
      refine g_iconst (v := 3) dX11_twoRule_57 (by decide) ?_
      refine g_icmp_ne (tgt := 74) dX11_twoRule_58 rfl (fun c_58 => ?_) (fun c_58 => ?_)
      · refine g_iconst (v := 1) dX11_twoRule_74 (by decide) ?_
        refine g_topi (fun y hy => ?_)
        obtain rfl : y = nI m := by rw [hy, hm2 c_58]; rfl
        refine g_istore dX11_twoRule_75 (Nat.le_of_ble_eq_true rfl) rfl ?_
        refine g_iload_n dX11_twoRule_77 rfl rfl ?_
        refine g_iconst (v := 1) dX11_twoRule_78 (by decide) ?_
        refine g_icmp_ne (tgt := 94) dX11_twoRule_79 rfl (fun c_79 => ?_) (fun c_79 => ?_)
        · refine g_iload dX11_twoRule_94 rfl ?_
          refine g_ineg dX11_twoRule_96 ?_
          refine g_iload dX11_twoRule_97 rfl ?_
          refine g_S2r (CX11_power (by omega)) kX11_twoRule_251 dX11_twoRule_99 ⟨rfl, rfl⟩ (Nat.le_of_ble_eq_true rfl) ⟨(Nat.le_of_ble_eq_true rfl), (Nat.le_of_ble_eq_true rfl)⟩ ?_
          refine g_ineg dX11_twoRule_102 ?_
          exact g_iret dX11_twoRule_103 rfl rfl ⟨by clear ho1 ho2 hb hm1 hm2; unfold rl2M; grind, rfl⟩
        · refine g_iload dX11_twoRule_82 rfl ?_
          refine g_iload dX11_twoRule_84 rfl ?_
          refine g_iload dX11_twoRule_86 rfl ?_
          refine g_S3r (CX11_powers (by omega)) kX11_twoRule_248 dX11_twoRule_88 ⟨rfl, rfl⟩ (Nat.le_of_ble_eq_true rfl) ⟨(Nat.le_of_ble_eq_true rfl), (Nat.le_of_ble_eq_true rfl)⟩ ?_
          refine g_goto (tgt := 103) dX11_twoRule_91 rfl ?_
          exact g_iret dX11_twoRule_103 rfl rfl ⟨by clear ho1 ho2 hb hm1 hm2; unfold rl2M; grind, rfl⟩
      · refine g_aload_n dX11_twoRule_61 rfl rfl ?_
        refine g_getf dX11_twoRule_62 fX11_13 mW_0 rfl ?_
        refine g_iconst (v := 4) dX11_twoRule_65 (by decide) ?_
        refine g_iload_n dX11_twoRule_66 rfl rfl ?_
        refine g_imul dX11_twoRule_67 ?_
        refine g_iconst (v := 1) dX11_twoRule_68 (by decide) ?_
        refine g_iadd dX11_twoRule_69 ?_
        rw [jx41]
        refine g_iald dX11_twoRule_70 mA2 (vin_n (by omega) (by decide)) ?_
        rw [nI_clamp (by omega), hm1 c_58]
        refine g_goto (tgt := 75) dX11_twoRule_71 rfl ?_
        refine g_istore dX11_twoRule_75 (Nat.le_of_ble_eq_true rfl) rfl ?_
        refine g_iload_n dX11_twoRule_77 rfl rfl ?_
        refine g_iconst (v := 1) dX11_twoRule_78 (by decide) ?_
        refine g_icmp_ne (tgt := 94) dX11_twoRule_79 rfl (fun c_79 => ?_) (fun c_79 => ?_)
        · refine g_iload dX11_twoRule_94 rfl ?_
          refine g_ineg dX11_twoRule_96 ?_
          refine g_iload dX11_twoRule_97 rfl ?_
          refine g_S2r (CX11_power (by omega)) kX11_twoRule_251 dX11_twoRule_99 ⟨rfl, rfl⟩ (Nat.le_of_ble_eq_true rfl) ⟨(Nat.le_of_ble_eq_true rfl), (Nat.le_of_ble_eq_true rfl)⟩ ?_
          refine g_ineg dX11_twoRule_102 ?_
          exact g_iret dX11_twoRule_103 rfl rfl ⟨by clear ho1 ho2 hb hm1 hm2; unfold rl2M; grind, rfl⟩
        · refine g_iload dX11_twoRule_82 rfl ?_
          refine g_iload dX11_twoRule_84 rfl ?_
          refine g_iload dX11_twoRule_86 rfl ?_
          refine g_S3r (CX11_powers (by omega)) kX11_twoRule_248 dX11_twoRule_88 ⟨rfl, rfl⟩ (Nat.le_of_ble_eq_true rfl) ⟨(Nat.le_of_ble_eq_true rfl), (Nat.le_of_ble_eq_true rfl)⟩ ?_
          refine g_goto (tgt := 103) dX11_twoRule_91 rfl ?_
          exact g_iret dX11_twoRule_103 rfl rfl ⟨by clear ho1 ho2 hb hm1 hm2; unfold rl2M; grind, rfl⟩
    · refine g_iload_n dX11_twoRule_16 rfl rfl ?_
      refine g_topi (fun y hy => ?_)
      obtain rfl : y = nI o := by rw [hy, ho1 c_13]
      refine g_goto (tgt := 28) dX11_twoRule_17 rfl ?_
      refine g_istore_n dX11_twoRule_28 rfl (Nat.le_of_ble_eq_true rfl) rfl ?_
      refine g_aload_n dX11_twoRule_29 rfl rfl ?_
      refine g_getf dX11_twoRule_30 fX11_13 mW_0 rfl ?_
      refine g_iconst (v := 4) dX11_twoRule_33 (by decide) ?_
      refine g_iload_n dX11_twoRule_34 rfl rfl ?_
      refine g_imul dX11_twoRule_35 ?_
      rw [jx4]
      refine g_iald dX11_twoRule_36 mA2 (vin_n (by omega) (by decide)) ?_
      rw [nI_clamp (by omega)]
      refine g_istore dX11_twoRule_37 (Nat.le_of_ble_eq_true rfl) rfl ?_
      refine g_aload_n dX11_twoRule_39 rfl rfl ?_
      refine g_getf dX11_twoRule_40 fX11_13 mW_0 rfl ?_
      refine g_iconst (v := 4) dX11_twoRule_43 (by decide) ?_
      refine g_iload_n dX11_twoRule_44 rfl rfl ?_
      refine g_imul dX11_twoRule_45 ?_
      refine g_iconst (v := 1) dX11_twoRule_46 (by decide) ?_
      refine g_iadd dX11_twoRule_47 ?_
      rw [jx41]
      refine g_iald dX11_twoRule_48 mA2 (vin_n (by omega) (by decide)) ?_
      rw [nI_clamp (by omega)]
      refine g_istore dX11_twoRule_49 (Nat.le_of_ble_eq_true rfl) rfl ?_
      refine g_aload_n dX11_twoRule_51 rfl rfl ?_
      refine g_getf dX11_twoRule_52 fX11_7 mW_0 rfl ?_
      refine g_iload_n dX11_twoRule_55 rfl rfl ?_
      refine g_iald dX11_twoRule_56 mA1 (vin_n (by omega) (by decide)) ?_
      rw [nI_clamp (by omega)]
      refine g_iconst (v := 3) dX11_twoRule_57 (by decide) ?_
      refine g_icmp_ne (tgt := 74) dX11_twoRule_58 rfl (fun c_58 => ?_) (fun c_58 => ?_)
      · refine g_iconst (v := 1) dX11_twoRule_74 (by decide) ?_
        refine g_topi (fun y hy => ?_)
        obtain rfl : y = nI m := by rw [hy, hm2 c_58]; rfl
        refine g_istore dX11_twoRule_75 (Nat.le_of_ble_eq_true rfl) rfl ?_
        refine g_iload_n dX11_twoRule_77 rfl rfl ?_
        refine g_iconst (v := 1) dX11_twoRule_78 (by decide) ?_
        refine g_icmp_ne (tgt := 94) dX11_twoRule_79 rfl (fun c_79 => ?_) (fun c_79 => ?_)
        · refine g_iload dX11_twoRule_94 rfl ?_
          refine g_ineg dX11_twoRule_96 ?_
          refine g_iload dX11_twoRule_97 rfl ?_
          refine g_S2r (CX11_power (by omega)) kX11_twoRule_251 dX11_twoRule_99 ⟨rfl, rfl⟩ (Nat.le_of_ble_eq_true rfl) ⟨(Nat.le_of_ble_eq_true rfl), (Nat.le_of_ble_eq_true rfl)⟩ ?_
          refine g_ineg dX11_twoRule_102 ?_
          exact g_iret dX11_twoRule_103 rfl rfl ⟨by clear ho1 ho2 hb hm1 hm2; unfold rl2M; grind, rfl⟩
        · refine g_iload dX11_twoRule_82 rfl ?_
          refine g_iload dX11_twoRule_84 rfl ?_
          refine g_iload dX11_twoRule_86 rfl ?_
          refine g_S3r (CX11_powers (by omega)) kX11_twoRule_248 dX11_twoRule_88 ⟨rfl, rfl⟩ (Nat.le_of_ble_eq_true rfl) ⟨(Nat.le_of_ble_eq_true rfl), (Nat.le_of_ble_eq_true rfl)⟩ ?_
          refine g_goto (tgt := 103) dX11_twoRule_91 rfl ?_
          exact g_iret dX11_twoRule_103 rfl rfl ⟨by clear ho1 ho2 hb hm1 hm2; unfold rl2M; grind, rfl⟩
      · refine g_aload_n dX11_twoRule_61 rfl rfl ?_
        refine g_getf dX11_twoRule_62 fX11_13 mW_0 rfl ?_
        refine g_iconst (v := 4) dX11_twoRule_65 (by decide) ?_
        refine g_iload_n dX11_twoRule_66 rfl rfl ?_
        refine g_imul dX11_twoRule_67 ?_
        refine g_iconst (v := 1) dX11_twoRule_68 (by decide) ?_
        refine g_iadd dX11_twoRule_69 ?_
        rw [jx41]
        refine g_iald dX11_twoRule_70 mA2 (vin_n (by omega) (by decide)) ?_
        rw [nI_clamp (by omega), hm1 c_58]
        refine g_goto (tgt := 75) dX11_twoRule_71 rfl ?_
        refine g_istore dX11_twoRule_75 (Nat.le_of_ble_eq_true rfl) rfl ?_
        refine g_iload_n dX11_twoRule_77 rfl rfl ?_
        refine g_iconst (v := 1) dX11_twoRule_78 (by decide) ?_
        refine g_icmp_ne (tgt := 94) dX11_twoRule_79 rfl (fun c_79 => ?_) (fun c_79 => ?_)
        · refine g_iload dX11_twoRule_94 rfl ?_
          refine g_ineg dX11_twoRule_96 ?_
          refine g_iload dX11_twoRule_97 rfl ?_
          refine g_S2r (CX11_power (by omega)) kX11_twoRule_251 dX11_twoRule_99 ⟨rfl, rfl⟩ (Nat.le_of_ble_eq_true rfl) ⟨(Nat.le_of_ble_eq_true rfl), (Nat.le_of_ble_eq_true rfl)⟩ ?_
          refine g_ineg dX11_twoRule_102 ?_
          exact g_iret dX11_twoRule_103 rfl rfl ⟨by clear ho1 ho2 hb hm1 hm2; unfold rl2M; grind, rfl⟩
        · refine g_iload dX11_twoRule_82 rfl ?_
          refine g_iload dX11_twoRule_84 rfl ?_
          refine g_iload dX11_twoRule_86 rfl ?_
          refine g_S3r (CX11_powers (by omega)) kX11_twoRule_248 dX11_twoRule_88 ⟨rfl, rfl⟩ (Nat.le_of_ble_eq_true rfl) ⟨(Nat.le_of_ble_eq_true rfl), (Nat.le_of_ble_eq_true rfl)⟩ ?_
          refine g_goto (tgt := 103) dX11_twoRule_91 rfl ?_
          exact g_iret dX11_twoRule_103 rfl rfl ⟨by clear ho1 ho2 hb hm1 hm2; unfold rl2M; grind, rfl⟩
  · refine g_iconst (v := 0) dX11_twoRule_5 (by decide) ?_
    exact g_iret dX11_twoRule_6 rfl rfl ⟨by clear ho1 ho2 hb hm1 hm2; unfold rl2M; grind, rfl⟩
set_option maxRecDepth 100000 in
set_option maxHeartbeats 4000000 in
theorem CX11_ruleNow {q o b m : Nat} {k : Int32} (H : mRw σ q o b m) (hk : 0 ≤ k ∧ k ≤ 4) : Ct l mX11_ruleNow [.ref 0, .int (nI q), .int k] (mW σ t) (q_eq (some (.int (rlM σ q o b m k))) (mW σ t)) := by
  refine Ct.of rfl (Nat.le_of_ble_eq_true rfl) ?_
  have H0 := H
  obtain ⟨hq, ho8, hm8, ho1, ho2, hb, hm1, hm2⟩ := H
  refine g_aload_n dX11_ruleNow_0 rfl rfl ?_
  refine g_getf dX11_ruleNow_1 fX11_7 mW_0 rfl ?_
  refine g_iload_n dX11_ruleNow_4 rfl rfl ?_
  refine g_iald dX11_ruleNow_5 mA1 (vin_n (by omega) (by decide)) ?_
  rw [nI_clamp (by omega)]
  refine g_iconst (v := 1) dX11_ruleNow_6 (by decide) ?_
  refine g_icmp_eq (tgt := 20) dX11_ruleNow_7 rfl (fun c_7 => ?_) (fun c_7 => ?_)
  · refine g_iconst (v := 1) dX11_ruleNow_20 (by decide) ?_
    refine g_goto (tgt := 25) dX11_ruleNow_21 rfl ?_
    refine g_istore_n dX11_ruleNow_25 rfl (Nat.le_of_ble_eq_true rfl) rfl ?_
    refine g_iload_n dX11_ruleNow_26 rfl rfl ?_
    refine g_if_ne (tgt := 40) dX11_ruleNow_27 rfl (fun c_27 => ?_) (fun c_27 => ?_)
    · refine g_iload_n dX11_ruleNow_40 rfl rfl ?_
      refine g_if_eq (tgt := 53) dX11_ruleNow_41 rfl (fun c_41 => ?_) (fun c_41 => ?_)
      · refine g_aload_n dX11_ruleNow_53 rfl rfl ?_
        refine g_iload_n dX11_ruleNow_54 rfl rfl ?_
        refine g_iload_n dX11_ruleNow_55 rfl rfl ?_
        refine g_V2r (CX11_twoRule H0) kX11_ruleNow_257 dX11_ruleNow_56 mW_0 rfl ⟨rfl, rfl⟩ (Nat.le_of_ble_eq_true rfl) ⟨(Nat.le_of_ble_eq_true rfl), (Nat.le_of_ble_eq_true rfl)⟩ ?_
        exact g_iret dX11_ruleNow_59 rfl rfl ⟨by clear ho1 ho2 hb hm1 hm2 H0; unfold rlM; grind, rfl⟩
      · refine g_aload_n dX11_ruleNow_44 rfl rfl ?_
        refine g_iload_n dX11_ruleNow_45 rfl rfl ?_
        refine g_iload_n dX11_ruleNow_46 rfl rfl ?_
        refine g_V2r (CX11_bothRule hq (ho2 (by grind)) ho8 (hb (by grind)).1 (hb (by grind)).2 (by grind)) kX11_ruleNow_254 dX11_ruleNow_47 mW_0 rfl ⟨rfl, rfl⟩ (Nat.le_of_ble_eq_true rfl) ⟨(Nat.le_of_ble_eq_true rfl), (Nat.le_of_ble_eq_true rfl)⟩ ?_
        refine g_goto (tgt := 59) dX11_ruleNow_50 rfl ?_
        exact g_iret dX11_ruleNow_59 rfl rfl ⟨by clear ho1 ho2 hb hm1 hm2 H0; unfold rlM; grind, rfl⟩
    · refine g_iload_n dX11_ruleNow_30 rfl rfl ?_
      refine g_if_eq (tgt := 38) dX11_ruleNow_31 rfl (fun c_31 => ?_) (fun c_31 => ?_)
      · refine g_iconst (v := 2) dX11_ruleNow_38 (by decide) ?_
        exact g_iret dX11_ruleNow_39 rfl rfl ⟨by clear ho1 ho2 hb hm1 hm2 H0; unfold rlM; grind, rfl⟩
      · refine g_iconst (v := 4) dX11_ruleNow_34 (by decide) ?_
        refine g_goto (tgt := 39) dX11_ruleNow_35 rfl ?_
        exact g_iret dX11_ruleNow_39 rfl rfl ⟨by clear ho1 ho2 hb hm1 hm2 H0; unfold rlM; grind, rfl⟩
  · refine g_aload_n dX11_ruleNow_10 rfl rfl ?_
    refine g_getf dX11_ruleNow_11 fX11_7 mW_0 rfl ?_
    refine g_iload_n dX11_ruleNow_14 rfl rfl ?_
    refine g_iald dX11_ruleNow_15 mA1 (vin_n (by omega) (by decide)) ?_
    rw [nI_clamp (by omega)]
    refine g_iconst (v := 2) dX11_ruleNow_16 (by decide) ?_
    refine g_icmp_ne (tgt := 24) dX11_ruleNow_17 rfl (fun c_17 => ?_) (fun c_17 => ?_)
    · refine g_iconst (v := 0) dX11_ruleNow_24 (by decide) ?_
      refine g_istore_n dX11_ruleNow_25 rfl (Nat.le_of_ble_eq_true rfl) rfl ?_
      refine g_iload_n dX11_ruleNow_26 rfl rfl ?_
      refine g_if_ne (tgt := 40) dX11_ruleNow_27 rfl (fun c_27 => ?_) (fun c_27 => ?_)
      · refine g_iload_n dX11_ruleNow_40 rfl rfl ?_
        refine g_if_eq (tgt := 53) dX11_ruleNow_41 rfl (fun c_41 => ?_) (fun c_41 => ?_)
        · refine g_aload_n dX11_ruleNow_53 rfl rfl ?_
          refine g_iload_n dX11_ruleNow_54 rfl rfl ?_
          refine g_iload_n dX11_ruleNow_55 rfl rfl ?_
          refine g_V2r (CX11_twoRule H0) kX11_ruleNow_257 dX11_ruleNow_56 mW_0 rfl ⟨rfl, rfl⟩ (Nat.le_of_ble_eq_true rfl) ⟨(Nat.le_of_ble_eq_true rfl), (Nat.le_of_ble_eq_true rfl)⟩ ?_
          exact g_iret dX11_ruleNow_59 rfl rfl ⟨by clear ho1 ho2 hb hm1 hm2 H0; unfold rlM; grind, rfl⟩
        · refine g_aload_n dX11_ruleNow_44 rfl rfl ?_
          refine g_iload_n dX11_ruleNow_45 rfl rfl ?_
          refine g_iload_n dX11_ruleNow_46 rfl rfl ?_
          refine g_V2r (CX11_bothRule hq (ho2 (by grind)) ho8 (hb (by grind)).1 (hb (by grind)).2 (by grind)) kX11_ruleNow_254 dX11_ruleNow_47 mW_0 rfl ⟨rfl, rfl⟩ (Nat.le_of_ble_eq_true rfl) ⟨(Nat.le_of_ble_eq_true rfl), (Nat.le_of_ble_eq_true rfl)⟩ ?_
          refine g_goto (tgt := 59) dX11_ruleNow_50 rfl ?_
          exact g_iret dX11_ruleNow_59 rfl rfl ⟨by clear ho1 ho2 hb hm1 hm2 H0; unfold rlM; grind, rfl⟩
      · refine g_iload_n dX11_ruleNow_30 rfl rfl ?_
        refine g_if_eq (tgt := 38) dX11_ruleNow_31 rfl (fun c_31 => ?_) (fun c_31 => ?_)
        · refine g_iconst (v := 2) dX11_ruleNow_38 (by decide) ?_
          exact g_iret dX11_ruleNow_39 rfl rfl ⟨by clear ho1 ho2 hb hm1 hm2 H0; unfold rlM; grind, rfl⟩
        · refine g_iconst (v := 4) dX11_ruleNow_34 (by decide) ?_
          refine g_goto (tgt := 39) dX11_ruleNow_35 rfl ?_
          exact g_iret dX11_ruleNow_39 rfl rfl ⟨by clear ho1 ho2 hb hm1 hm2 H0; unfold rlM; grind, rfl⟩
    · refine g_iconst (v := 1) dX11_ruleNow_20 (by decide) ?_
      refine g_goto (tgt := 25) dX11_ruleNow_21 rfl ?_
      refine g_istore_n dX11_ruleNow_25 rfl (Nat.le_of_ble_eq_true rfl) rfl ?_
      refine g_iload_n dX11_ruleNow_26 rfl rfl ?_
      refine g_if_ne (tgt := 40) dX11_ruleNow_27 rfl (fun c_27 => ?_) (fun c_27 => ?_)
      · refine g_iload_n dX11_ruleNow_40 rfl rfl ?_
        refine g_if_eq (tgt := 53) dX11_ruleNow_41 rfl (fun c_41 => ?_) (fun c_41 => ?_)
        · refine g_aload_n dX11_ruleNow_53 rfl rfl ?_
          refine g_iload_n dX11_ruleNow_54 rfl rfl ?_
          refine g_iload_n dX11_ruleNow_55 rfl rfl ?_
          refine g_V2r (CX11_twoRule H0) kX11_ruleNow_257 dX11_ruleNow_56 mW_0 rfl ⟨rfl, rfl⟩ (Nat.le_of_ble_eq_true rfl) ⟨(Nat.le_of_ble_eq_true rfl), (Nat.le_of_ble_eq_true rfl)⟩ ?_
          exact g_iret dX11_ruleNow_59 rfl rfl ⟨by clear ho1 ho2 hb hm1 hm2 H0; unfold rlM; grind, rfl⟩
        · refine g_aload_n dX11_ruleNow_44 rfl rfl ?_
          refine g_iload_n dX11_ruleNow_45 rfl rfl ?_
          refine g_iload_n dX11_ruleNow_46 rfl rfl ?_
          refine g_V2r (CX11_bothRule hq (ho2 (by grind)) ho8 (hb (by grind)).1 (hb (by grind)).2 (by grind)) kX11_ruleNow_254 dX11_ruleNow_47 mW_0 rfl ⟨rfl, rfl⟩ (Nat.le_of_ble_eq_true rfl) ⟨(Nat.le_of_ble_eq_true rfl), (Nat.le_of_ble_eq_true rfl)⟩ ?_
          refine g_goto (tgt := 59) dX11_ruleNow_50 rfl ?_
          exact g_iret dX11_ruleNow_59 rfl rfl ⟨by clear ho1 ho2 hb hm1 hm2 H0; unfold rlM; grind, rfl⟩
      · refine g_iload_n dX11_ruleNow_30 rfl rfl ?_
        refine g_if_eq (tgt := 38) dX11_ruleNow_31 rfl (fun c_31 => ?_) (fun c_31 => ?_)
        · refine g_iconst (v := 2) dX11_ruleNow_38 (by decide) ?_
          exact g_iret dX11_ruleNow_39 rfl rfl ⟨by clear ho1 ho2 hb hm1 hm2 H0; unfold rlM; grind, rfl⟩
        · refine g_iconst (v := 4) dX11_ruleNow_34 (by decide) ?_
          refine g_goto (tgt := 39) dX11_ruleNow_35 rfl ?_
          exact g_iret dX11_ruleNow_39 rfl rfl ⟨by clear ho1 ho2 hb hm1 hm2 H0; unfold rlM; grind, rfl⟩
set_option maxRecDepth 100000 in
set_option maxHeartbeats 4000000 in
theorem CX11_rule_no {r : Int32} {k : Int32} (hn : n ≤ 8) (h0 : σ 0 0 = nI n) (hr : ¬ ldH (nI n) r) : Ct l mX11_rule [.ref 0, .int r, .int k] (mW σ t) (q_eq (some (.int 2000000101)) (mW σ t)) := by
  refine Ct.of rfl (Nat.le_of_ble_eq_true rfl) ?_
  refine g_aload_n dX11_rule_0 rfl rfl ?_
  refine g_iload_n dX11_rule_1 rfl rfl ?_
  refine g_V1r (CX11_isRow h0) kX11_rule_193 dX11_rule_2 mW_0 rfl ⟨rfl, rfl⟩ (Nat.le_of_ble_eq_true rfl) ⟨(Nat.le_of_ble_eq_true rfl), (Nat.le_of_ble_eq_true rfl)⟩ ?_
  rw [mIsF hn hr]
  refine g_if_ne (tgt := 11) dX11_rule_5 rfl (fun c_5 => by exfalso; revert c_5; decide) (fun c_5 => ?_)
  refine g_ldc dX11_rule_8 tb_1020 ?_
  exact g_iret dX11_rule_10 rfl rfl ⟨rfl, rfl⟩
set_option maxRecDepth 100000 in
set_option maxHeartbeats 4000000 in
theorem CX11_rule {q o b m : Nat} (hq : q < n) {k : Int32} (hn : n ≤ 8) (h0 : σ 0 0 = nI n) (H : mRw σ q o b m) : Ct l mX11_rule [.ref 0, .int (nI q), .int k] (mW σ t) (q_eq (some (.int (if 0 ≤ k ∧ k ≤ 4 then (if σ 1 q = 0 ∨ mPT σ q o b then rlM σ q o b m k else 2000000103) else 2000000102))) (mW σ t)) := by
  refine Ct.of rfl (Nat.le_of_ble_eq_true rfl) ?_
  refine g_aload_n dX11_rule_0 rfl rfl ?_
  refine g_iload_n dX11_rule_1 rfl rfl ?_
  refine g_V1r (CX11_isRow h0) kX11_rule_193 dX11_rule_2 mW_0 rfl ⟨rfl, rfl⟩ (Nat.le_of_ble_eq_true rfl) ⟨(Nat.le_of_ble_eq_true rfl), (Nat.le_of_ble_eq_true rfl)⟩ ?_
  rw [mIsT hn hq]
  refine g_if_ne (tgt := 11) dX11_rule_5 rfl (fun c_5 => ?_) (fun c_5 => by exfalso; revert c_5; decide)
  refine g_iload_n dX11_rule_11 rfl rfl ?_
  refine g_iconst (v := 0) dX11_rule_12 (by decide) ?_
  refine g_iconst (v := 4) dX11_rule_13 (by decide) ?_
  refine g_S3r CX11_within kX11_rule_68 dX11_rule_14 ⟨rfl, rfl⟩ (Nat.le_of_ble_eq_true rfl) ⟨(Nat.le_of_ble_eq_true rfl), (Nat.le_of_ble_eq_true rfl)⟩ ?_
  refine g_if_ne (tgt := 23) dX11_rule_17 rfl (fun c_17 => ?_) (fun c_17 => ?_)
  · refine g_aload_n dX11_rule_23 rfl rfl ?_
    refine g_iload_n dX11_rule_24 rfl rfl ?_
    refine g_V1r (CX11_isTold (q := q) (by omega)) kX11_rule_245 dX11_rule_25 mW_0 rfl ⟨rfl, rfl⟩ (Nat.le_of_ble_eq_true rfl) ⟨(Nat.le_of_ble_eq_true rfl), (Nat.le_of_ble_eq_true rfl)⟩ ?_
    refine g_if_ne (tgt := 39) dX11_rule_28 rfl (fun c_28 => ?_) (fun c_28 => ?_)
    · refine g_aload_n dX11_rule_39 rfl rfl ?_
      refine g_iload_n dX11_rule_40 rfl rfl ?_
      refine g_iload_n dX11_rule_41 rfl rfl ?_
      refine g_V2r (CX11_ruleNow H (Classical.byContradiction (fun z => c_17 (bI_f z)))) kX11_rule_263 dX11_rule_42 mW_0 rfl ⟨rfl, rfl⟩ (Nat.le_of_ble_eq_true rfl) ⟨(Nat.le_of_ble_eq_true rfl), (Nat.le_of_ble_eq_true rfl)⟩ ?_
      refine g_goto (tgt := 50) dX11_rule_45 rfl ?_
      exact g_iret dX11_rule_50 rfl rfl ⟨by grind [bI], rfl⟩
    · refine g_aload_n dX11_rule_31 rfl rfl ?_
      refine g_iload_n dX11_rule_32 rfl rfl ?_
      refine g_V1r (CX11_arePartsTold (q := q) (a := o) (b := b) (by omega) (fun z => ⟨H.2.2.2.2.1 z, H.2.1⟩) H.2.2.2.2.2.1) kX11_rule_260 dX11_rule_33 mW_0 rfl ⟨rfl, rfl⟩ (Nat.le_of_ble_eq_true rfl) ⟨(Nat.le_of_ble_eq_true rfl), (Nat.le_of_ble_eq_true rfl)⟩ ?_
      refine g_if_eq (tgt := 48) dX11_rule_36 rfl (fun c_36 => ?_) (fun c_36 => ?_)
      · refine g_ldc dX11_rule_48 tb_1007 ?_
        exact g_iret dX11_rule_50 rfl rfl ⟨by grind [bI], rfl⟩
      · refine g_aload_n dX11_rule_39 rfl rfl ?_
        refine g_iload_n dX11_rule_40 rfl rfl ?_
        refine g_iload_n dX11_rule_41 rfl rfl ?_
        refine g_V2r (CX11_ruleNow H (Classical.byContradiction (fun z => c_17 (bI_f z)))) kX11_rule_263 dX11_rule_42 mW_0 rfl ⟨rfl, rfl⟩ (Nat.le_of_ble_eq_true rfl) ⟨(Nat.le_of_ble_eq_true rfl), (Nat.le_of_ble_eq_true rfl)⟩ ?_
        refine g_goto (tgt := 50) dX11_rule_45 rfl ?_
        exact g_iret dX11_rule_50 rfl rfl ⟨by grind [bI], rfl⟩
  · refine g_ldc dX11_rule_20 tb_964 ?_
    exact g_iret dX11_rule_22 rfl rfl ⟨by grind [bI], rfl⟩
set_option maxRecDepth 100000 in
set_option maxHeartbeats 4000000 in
theorem CX11_canBe {q o b m : Nat} (H : mRw σ q o b m) : Ct l mX11_canBe [.ref 0, .int (nI q)] (mW σ t) (q_eq (some (.int (bI (mCB σ q o b)))) (mW σ t)) := by
  refine Ct.of rfl (Nat.le_of_ble_eq_true rfl) ?_
  obtain ⟨hq, ho8, hm8, ho1, ho2, hb, hm1, hm2⟩ := H
  refine g_aload_n dX11_canBe_0 rfl rfl ?_
  refine g_iload_n dX11_canBe_1 rfl rfl ?_
  refine g_V1r (CX11_arePartsTold (q := q) (a := o) (b := b) hq (fun z => ⟨ho2 z, ho8⟩) hb) kX11_canBe_260 dX11_canBe_2 mW_0 rfl ⟨rfl, rfl⟩ (Nat.le_of_ble_eq_true rfl) ⟨(Nat.le_of_ble_eq_true rfl), (Nat.le_of_ble_eq_true rfl)⟩ ?_
  refine g_if_ne (tgt := 10) dX11_canBe_5 rfl (fun c_5 => ?_) (fun c_5 => ?_)
  · refine g_aload_n dX11_canBe_10 rfl rfl ?_
    refine g_getf dX11_canBe_11 fX11_13 mW_0 rfl ?_
    refine g_iconst (v := 4) dX11_canBe_14 (by decide) ?_
    refine g_iload_n dX11_canBe_15 rfl rfl ?_
    refine g_imul dX11_canBe_16 ?_
    rw [jx4]
    refine g_iald dX11_canBe_17 mA2 (vin_n (by omega) (by decide)) ?_
    rw [nI_clamp (by omega), ho2 (Classical.byContradiction (fun z => c_5 (bI_f z))).1]
    refine g_istore_n dX11_canBe_18 rfl (Nat.le_of_ble_eq_true rfl) rfl ?_
    refine g_aload_n dX11_canBe_19 rfl rfl ?_
    refine g_getf dX11_canBe_20 fX11_13 mW_0 rfl ?_
    refine g_iconst (v := 4) dX11_canBe_23 (by decide) ?_
    refine g_iload_n dX11_canBe_24 rfl rfl ?_
    refine g_imul dX11_canBe_25 ?_
    refine g_iconst (v := 1) dX11_canBe_26 (by decide) ?_
    refine g_iadd dX11_canBe_27 ?_
    rw [jx41]
    refine g_iald dX11_canBe_28 mA2 (vin_n (by omega) (by decide)) ?_
    rw [nI_clamp (by omega)]
    refine g_istore_n dX11_canBe_29 rfl (Nat.le_of_ble_eq_true rfl) rfl ?_
    refine g_aload_n dX11_canBe_30 rfl rfl ?_
    refine g_getf dX11_canBe_31 fX11_7 mW_0 rfl ?_
    refine g_iload_n dX11_canBe_34 rfl rfl ?_
    refine g_iald dX11_canBe_35 mA1 (vin_n (by omega) (by decide)) ?_
    rw [nI_clamp (by omega)]
    refine g_case (1) (fun s_36_0 => ?_) (fun s_36_0 => ?_)
    · refine g_lkEq (off := 28) (tgt := 64) dX11_canBe_36 s_36_0 rfl rfl rfl ?_
      have hb8 := (hb (Or.inl s_36_0)).2
      refine g_aload_n dX11_canBe_64 rfl rfl ?_
      refine g_getf dX11_canBe_65 fX11_13 mW_0 rfl ?_
      refine g_iconst (v := 4) dX11_canBe_68 (by decide) ?_
      refine g_iload_n dX11_canBe_69 rfl rfl ?_
      refine g_imul dX11_canBe_70 ?_
      rw [jx4]
      refine g_iald dX11_canBe_71 mA2 (vin_n (by omega) (by decide)) ?_
      rw [nI_clamp (by omega)]
      refine g_aload_n dX11_canBe_72 rfl rfl ?_
      refine g_getf dX11_canBe_73 fX11_13 mW_0 rfl ?_
      refine g_iconst (v := 4) dX11_canBe_76 (by decide) ?_
      refine g_iload_n dX11_canBe_77 rfl rfl ?_
      refine g_imul dX11_canBe_78 ?_
      rw [(hb (Or.inl s_36_0)).1, jx4]
      refine g_iald dX11_canBe_79 mA2 (vin_n (by omega) (by decide)) ?_
      rw [nI_clamp (by have := (hb (Or.inl s_36_0)).2; omega)]
      refine g_icmp_ne (tgt := 110) dX11_canBe_80 rfl (fun c_80 => ?_) (fun c_80 => ?_)
      · refine g_iconst (v := 0) dX11_canBe_110 (by decide) ?_
        exact g_zret dX11_canBe_111 rfl rfl (by first | decide | exact bI_and) ⟨by clear ho1 ho2 hb hm1 hm2; grind [bI], rfl⟩
      · refine g_aload_n dX11_canBe_83 rfl rfl ?_
        refine g_getf dX11_canBe_84 fX11_13 mW_0 rfl ?_
        refine g_iconst (v := 4) dX11_canBe_87 (by decide) ?_
        refine g_iload_n dX11_canBe_88 rfl rfl ?_
        refine g_imul dX11_canBe_89 ?_
        refine g_iconst (v := 1) dX11_canBe_90 (by decide) ?_
        refine g_iadd dX11_canBe_91 ?_
        rw [jx41]
        refine g_iald dX11_canBe_92 mA2 (vin_n (by omega) (by decide)) ?_
        rw [nI_clamp (by omega)]
        refine g_aload_n dX11_canBe_93 rfl rfl ?_
        refine g_getf dX11_canBe_94 fX11_13 mW_0 rfl ?_
        refine g_iconst (v := 4) dX11_canBe_97 (by decide) ?_
        refine g_iload_n dX11_canBe_98 rfl rfl ?_
        refine g_imul dX11_canBe_99 ?_
        refine g_iconst (v := 1) dX11_canBe_100 (by decide) ?_
        refine g_iadd dX11_canBe_101 ?_
        rw [jx41]
        refine g_iald dX11_canBe_102 mA2 (vin_n (by omega) (by decide)) ?_
        rw [nI_clamp (by omega)]
        refine g_icmp_ne (tgt := 110) dX11_canBe_103 rfl (fun c_103 => ?_) (fun c_103 => ?_)
        · refine g_iconst (v := 0) dX11_canBe_110 (by decide) ?_
          exact g_zret dX11_canBe_111 rfl rfl (by first | decide | exact bI_and) ⟨by clear ho1 ho2 hb hm1 hm2; grind [bI], rfl⟩
        · refine g_iconst (v := 1) dX11_canBe_106 (by decide) ?_
          refine g_goto (tgt := 111) dX11_canBe_107 rfl ?_
          exact g_zret dX11_canBe_111 rfl rfl (by first | decide | exact bI_and) ⟨by clear ho1 ho2 hb hm1 hm2; grind [bI], rfl⟩
    · refine g_case (2) (fun s_36_1 => ?_) (fun s_36_1 => ?_)
      · refine g_lkEq (off := 76) (tgt := 112) dX11_canBe_36 s_36_1 rfl rfl rfl ?_
        refine g_aload_n dX11_canBe_112 rfl rfl ?_
        refine g_iload_n dX11_canBe_113 rfl rfl ?_
        refine g_V1r (CX11_powersIn hq (ho2 (by grind)) ho8 (hb (by grind)).1 (hb (by grind)).2) kX11_canBe_307 dX11_canBe_114 mW_0 rfl ⟨rfl, rfl⟩ (Nat.le_of_ble_eq_true rfl) ⟨(Nat.le_of_ble_eq_true rfl), (Nat.le_of_ble_eq_true rfl)⟩ ?_
        refine g_ldc dX11_canBe_117 tb_854 ?_
        refine g_icmp_eq (tgt := 126) dX11_canBe_119 rfl (fun c_119 => ?_) (fun c_119 => ?_)
        · rw [piN ho8 (hb (Or.inr s_36_1)).2] at c_119
          refine g_iconst (v := 0) dX11_canBe_126 (by decide) ?_
          exact g_zret dX11_canBe_127 rfl rfl (by first | decide | exact bI_and) ⟨by clear ho1 ho2 hb hm1 hm2; grind [bI], rfl⟩
        · rw [piN ho8 (hb (Or.inr s_36_1)).2] at c_119
          refine g_iconst (v := 1) dX11_canBe_122 (by decide) ?_
          refine g_goto (tgt := 127) dX11_canBe_123 rfl ?_
          exact g_zret dX11_canBe_127 rfl rfl (by first | decide | exact bI_and) ⟨by clear ho1 ho2 hb hm1 hm2; grind [bI], rfl⟩
      · refine g_lookup (off := 92) (tgt := 128) dX11_canBe_36 rfl (lk_out _ _ _ (by have a0 := ne_toInt (z := 1) rfl s_36_0; have a1 := ne_toInt (z := 2) rfl s_36_1; intro q hq; replace hq : q ∈ ([(1, 28), (2, 76)] : List (Int × Int)) := hq; simp only [List.mem_cons, List.not_mem_nil, or_false] at hq; rcases hq with rfl | rfl <;> (intro e; simp only at e; omega))) rfl ?_
        refine g_iconst (v := 1) dX11_canBe_128 (by decide) ?_
        exact g_zret dX11_canBe_129 rfl rfl (by first | decide | exact bI_and) ⟨by clear ho1 ho2 hb hm1 hm2; grind [bI], rfl⟩
  · refine g_iconst (v := 0) dX11_canBe_8 (by decide) ?_
    exact g_zret dX11_canBe_9 rfl rfl (by first | decide | exact bI_and) ⟨by clear ho1 ho2 hb hm1 hm2; grind [bI], rfl⟩
set_option maxRecDepth 100000 in
set_option maxHeartbeats 4000000 in
theorem CX11_tmL {wt : Int32} {n0 : Nat} (hn : n ≤ 8) (h0 : σ 0 0 = nI n) : ∀ (d j : Nat), j + d = n → Go l mX11_toldMany n0 (q_eq (some (.int (mTM σ wt n))) (mW σ t)) (0, 0) 4 [some (.ref 0), some (.int wt), some (.int (mTM σ wt j)), some (.int (nI j))] [] (mW σ t) := by
  intro d
  induction d with
  | zero =>
    intro j hj
    have e1 : n = j := by omega
    subst e1
    refine g_iload_n dX11_toldMany_4 rfl rfl ?_
    refine g_aload_n dX11_toldMany_5 rfl rfl ?_
    refine g_getf dX11_toldMany_6 fX11_116 mW_0 rfl ?_
    rw [h0]
    refine g_icmp_ge (tgt := 62) dX11_toldMany_9 rfl (fun c_9 => ?_) (fun c_9 => by exact absurd (nI_le (by omega) (by omega)) c_9)
    refine g_iload_n dX11_toldMany_62 rfl rfl ?_
    exact g_iret dX11_toldMany_63 rfl rfl ⟨rfl, rfl⟩
  | succ d ih =>
    intro j hj
    refine g_iload_n dX11_toldMany_4 rfl rfl ?_
    refine g_aload_n dX11_toldMany_5 rfl rfl ?_
    refine g_getf dX11_toldMany_6 fX11_116 mW_0 rfl ?_
    rw [h0]
    refine g_icmp_ge (tgt := 62) dX11_toldMany_9 rfl (fun c_9 => by exact absurd c_9 (nI_ge (by omega) (by omega))) (fun c_9 => ?_)
    refine g_iload_n dX11_toldMany_12 rfl rfl ?_
    refine g_aload_n dX11_toldMany_13 rfl rfl ?_
    refine g_iload_n dX11_toldMany_14 rfl rfl ?_
    refine g_V1r (CX11_isTold (q := j) (by omega)) kX11_toldMany_245 dX11_toldMany_15 mW_0 rfl ⟨rfl, rfl⟩ (Nat.le_of_ble_eq_true rfl) ⟨(Nat.le_of_ble_eq_true rfl), (Nat.le_of_ble_eq_true rfl)⟩ ?_
    refine g_if_eq (tgt := 53) dX11_toldMany_18 rfl (fun c_18 => ?_) (fun c_18 => ?_)
    · refine g_iconst (v := 0) dX11_toldMany_53 (by decide) ?_
      refine g_iadd dX11_toldMany_54 ?_
      refine g_istore_n dX11_toldMany_55 rfl (Nat.le_of_ble_eq_true rfl) rfl ?_
      refine g_iinc (v := 1) dX11_toldMany_56 (by decide) rfl (Nat.le_of_ble_eq_true rfl) rfl ?_
      refine g_goto (tgt := 4) dX11_toldMany_59 rfl ?_
      exact Go.eq rfl (show _ = _ by first | (rw [← nI_1 j, mTM_t (by grind [bI])]; rfl) | (rw [← nI_1 j, mTM_f (by grind [bI])]; rfl)) rfl rfl (ih (j + 1) (by omega))
    · refine g_iload_n dX11_toldMany_21 rfl rfl ?_
      refine g_if_eq (tgt := 49) dX11_toldMany_22 rfl (fun c_22 => ?_) (fun c_22 => ?_)
      · refine g_iconst (v := 1) dX11_toldMany_49 (by decide) ?_
        refine g_goto (tgt := 54) dX11_toldMany_50 rfl ?_
        refine g_iadd dX11_toldMany_54 ?_
        refine g_istore_n dX11_toldMany_55 rfl (Nat.le_of_ble_eq_true rfl) rfl ?_
        refine g_iinc (v := 1) dX11_toldMany_56 (by decide) rfl (Nat.le_of_ble_eq_true rfl) rfl ?_
        refine g_goto (tgt := 4) dX11_toldMany_59 rfl ?_
        exact Go.eq rfl (show _ = _ by first | (rw [← nI_1 j, mTM_t (by grind [bI])]; rfl) | (rw [← nI_1 j, mTM_f (by grind [bI])]; rfl)) rfl rfl (ih (j + 1) (by omega))
      · refine g_aload_n dX11_toldMany_25 rfl rfl ?_
        refine g_getf dX11_toldMany_26 fX11_13 mW_0 rfl ?_
        refine g_iconst (v := 4) dX11_toldMany_29 (by decide) ?_
        refine g_iload_n dX11_toldMany_30 rfl rfl ?_
        refine g_imul dX11_toldMany_31 ?_
        rw [jx4]
        refine g_iald dX11_toldMany_32 mA2 (vin_n (by omega) (by decide)) ?_
        rw [nI_clamp (by omega)]
        refine g_aload_n dX11_toldMany_33 rfl rfl ?_
        refine g_getf dX11_toldMany_34 fX11_13 mW_0 rfl ?_
        refine g_iconst (v := 4) dX11_toldMany_37 (by decide) ?_
        refine g_iload_n dX11_toldMany_38 rfl rfl ?_
        refine g_imul dX11_toldMany_39 ?_
        refine g_iconst (v := 1) dX11_toldMany_40 (by decide) ?_
        refine g_iadd dX11_toldMany_41 ?_
        rw [jx41]
        refine g_iald dX11_toldMany_42 mA2 (vin_n (by omega) (by decide)) ?_
        rw [nI_clamp (by omega)]
        refine g_S2r CX11_degenerate kX11_toldMany_272 dX11_toldMany_43 ⟨rfl, rfl⟩ (Nat.le_of_ble_eq_true rfl) ⟨(Nat.le_of_ble_eq_true rfl), (Nat.le_of_ble_eq_true rfl)⟩ ?_
        refine g_if_le (tgt := 53) dX11_toldMany_46 rfl (fun c_46 => ?_) (fun c_46 => ?_)
        · refine g_iconst (v := 0) dX11_toldMany_53 (by decide) ?_
          refine g_iadd dX11_toldMany_54 ?_
          refine g_istore_n dX11_toldMany_55 rfl (Nat.le_of_ble_eq_true rfl) rfl ?_
          refine g_iinc (v := 1) dX11_toldMany_56 (by decide) rfl (Nat.le_of_ble_eq_true rfl) rfl ?_
          refine g_goto (tgt := 4) dX11_toldMany_59 rfl ?_
          exact Go.eq rfl (show _ = _ by first | (rw [← nI_1 j, mTM_t (by grind [bI])]; rfl) | (rw [← nI_1 j, mTM_f (by grind [bI])]; rfl)) rfl rfl (ih (j + 1) (by omega))
        · refine g_iconst (v := 1) dX11_toldMany_49 (by decide) ?_
          refine g_goto (tgt := 54) dX11_toldMany_50 rfl ?_
          refine g_iadd dX11_toldMany_54 ?_
          refine g_istore_n dX11_toldMany_55 rfl (Nat.le_of_ble_eq_true rfl) rfl ?_
          refine g_iinc (v := 1) dX11_toldMany_56 (by decide) rfl (Nat.le_of_ble_eq_true rfl) rfl ?_
          refine g_goto (tgt := 4) dX11_toldMany_59 rfl ?_
          exact Go.eq rfl (show _ = _ by first | (rw [← nI_1 j, mTM_t (by grind [bI])]; rfl) | (rw [← nI_1 j, mTM_f (by grind [bI])]; rfl)) rfl rfl (ih (j + 1) (by omega))
set_option maxRecDepth 100000 in
set_option maxHeartbeats 4000000 in
theorem CX11_toldMany {wt : Int32} (hn : n ≤ 8) (h0 : σ 0 0 = nI n) : Ct l mX11_toldMany [.ref 0, .int wt] (mW σ t) (q_eq (some (.int (mTM σ wt n))) (mW σ t)) := by
  refine Ct.of rfl (Nat.le_of_ble_eq_true rfl) ?_
  refine g_iconst (v := 0) dX11_toldMany_0 (by decide) ?_
  refine g_istore_n dX11_toldMany_1 rfl (Nat.le_of_ble_eq_true rfl) rfl ?_
  refine g_iconst (v := 0) dX11_toldMany_2 (by decide) ?_
  refine g_istore_n dX11_toldMany_3 rfl (Nat.le_of_ble_eq_true rfl) rfl ?_
  exact Go.eq rfl rfl rfl rfl (CX11_tmL hn h0 n 0 (by omega))
set_option maxRecDepth 100000 in
set_option maxHeartbeats 4000000 in
theorem CX11_howMany {k : Int32} (hn : n ≤ 8) (h0 : σ 0 0 = nI n) : Ct l mX11_howMany [.ref 0, .int k] (mW σ t) (q_eq (some (.int (if k = 0 then σ 0 0 else if k = 1 then mTM σ 0 n else if k = 2 then mTM σ 1 n else if k = 3 then σ 0 4 else if k = 4 then σ 0 6 else if k = 5 then σ 0 3 else 2000000102))) (mW σ t)) := by
  refine Ct.of rfl (Nat.le_of_ble_eq_true rfl) ?_
  refine g_iload_n dX11_howMany_0 rfl rfl ?_
  refine g_case (0) (fun s_1_0 => ?_) (fun s_1_0 => ?_)
  · refine g_tblEq (off := 39) (tgt := 40) dX11_howMany_1 s_1_0 (by decide) (by decide) rfl rfl ?_
    refine g_aload_n dX11_howMany_40 rfl rfl ?_
    refine g_getf dX11_howMany_41 fX11_116 mW_0 rfl ?_
    exact g_iret dX11_howMany_44 rfl rfl ⟨by clear h0; grind, rfl⟩
  · refine g_case (1) (fun s_1_1 => ?_) (fun s_1_1 => ?_)
    · refine g_tblEq (off := 44) (tgt := 45) dX11_howMany_1 s_1_1 (by decide) (by decide) rfl rfl ?_
      refine g_aload_n dX11_howMany_45 rfl rfl ?_
      refine g_iconst (v := 0) dX11_howMany_46 (by decide) ?_
      refine g_V1r (CX11_toldMany hn h0) kX11_howMany_365 dX11_howMany_47 mW_0 rfl ⟨rfl, rfl⟩ (Nat.le_of_ble_eq_true rfl) ⟨(Nat.le_of_ble_eq_true rfl), (Nat.le_of_ble_eq_true rfl)⟩ ?_
      exact g_iret dX11_howMany_50 rfl rfl ⟨by clear h0; grind, rfl⟩
    · refine g_case (2) (fun s_1_2 => ?_) (fun s_1_2 => ?_)
      · refine g_tblEq (off := 50) (tgt := 51) dX11_howMany_1 s_1_2 (by decide) (by decide) rfl rfl ?_
        refine g_aload_n dX11_howMany_51 rfl rfl ?_
        refine g_iconst (v := 1) dX11_howMany_52 (by decide) ?_
        refine g_V1r (CX11_toldMany hn h0) kX11_howMany_365 dX11_howMany_53 mW_0 rfl ⟨rfl, rfl⟩ (Nat.le_of_ble_eq_true rfl) ⟨(Nat.le_of_ble_eq_true rfl), (Nat.le_of_ble_eq_true rfl)⟩ ?_
        exact g_iret dX11_howMany_56 rfl rfl ⟨by clear h0; grind, rfl⟩
      · refine g_case (3) (fun s_1_3 => ?_) (fun s_1_3 => ?_)
        · refine g_tblEq (off := 56) (tgt := 57) dX11_howMany_1 s_1_3 (by decide) (by decide) rfl rfl ?_
          refine g_aload_n dX11_howMany_57 rfl rfl ?_
          refine g_getf dX11_howMany_58 fX11_319 mW_0 rfl ?_
          exact g_iret dX11_howMany_61 rfl rfl ⟨by clear h0; grind, rfl⟩
        · refine g_case (4) (fun s_1_4 => ?_) (fun s_1_4 => ?_)
          · refine g_tblEq (off := 61) (tgt := 62) dX11_howMany_1 s_1_4 (by decide) (by decide) rfl rfl ?_
            refine g_aload_n dX11_howMany_62 rfl rfl ?_
            refine g_getf dX11_howMany_63 fX11_73 mW_0 rfl ?_
            exact g_iret dX11_howMany_66 rfl rfl ⟨by clear h0; grind, rfl⟩
          · refine g_case (5) (fun s_1_5 => ?_) (fun s_1_5 => ?_)
            · refine g_tblEq (off := 66) (tgt := 67) dX11_howMany_1 s_1_5 (by decide) (by decide) rfl rfl ?_
              refine g_aload_n dX11_howMany_67 rfl rfl ?_
              refine g_getf dX11_howMany_68 fX11_119 mW_0 rfl ?_
              exact g_iret dX11_howMany_71 rfl rfl ⟨by clear h0; grind, rfl⟩
            · refine g_tableOut (tgt := 72) dX11_howMany_1 (by have a0 := ne_toInt (z := 0) rfl s_1_0; have a1 := ne_toInt (z := 1) rfl s_1_1; have a2 := ne_toInt (z := 2) rfl s_1_2; have a3 := ne_toInt (z := 3) rfl s_1_3; have a4 := ne_toInt (z := 4) rfl s_1_4; have a5 := ne_toInt (z := 5) rfl s_1_5; omega) rfl ?_
              refine g_ldc dX11_howMany_72 tb_964 ?_
              exact g_iret dX11_howMany_74 rfl rfl ⟨by clear h0; grind, rfl⟩
set_option maxRecDepth 100000 in
set_option maxHeartbeats 4000000 in
theorem CX11_count {k : Int32} (hn : n ≤ 8) (h0 : σ 0 0 = nI n) : Ct l mX11_count [.ref 0, .int k] (mW σ t) (q_eq (some (.int (if k = 0 then σ 0 0 else if k = 1 then mTM σ 0 n else if k = 2 then mTM σ 1 n else if k = 3 then σ 0 4 else if k = 4 then σ 0 6 else if k = 5 then σ 0 3 else 2000000102))) (mW σ t)) := by
  refine Ct.of rfl (Nat.le_of_ble_eq_true rfl) ?_
  refine g_aload_n dX11_count_0 rfl rfl ?_
  refine g_iload_n dX11_count_1 rfl rfl ?_
  refine g_V1r (CX11_howMany hn h0) kX11_count_369 dX11_count_2 mW_0 rfl ⟨rfl, rfl⟩ (Nat.le_of_ble_eq_true rfl) ⟨(Nat.le_of_ble_eq_true rfl), (Nat.le_of_ble_eq_true rfl)⟩ ?_
  exact g_iret dX11_count_5 rfl rfl ⟨rfl, rfl⟩
set_option maxRecDepth 100000 in
set_option maxHeartbeats 4000000 in
theorem CX11_mix {x : Int64} : Ct l mX11_mix [.ref 0, .long x] (mW σ t) (q_eq none (mW σ (vp_updL t 32 (31 * t 32 + x)))) := by
  refine Ct.of rfl (Nat.le_of_ble_eq_true rfl) ?_
  refine g_aload_n dX11_mix_0 rfl rfl ?_
  refine g_ldc2 dX11_mix_1 tb_1391 ?_
  refine g_aload_n dX11_mix_4 rfl rfl ?_
  refine g_getf dX11_mix_5 fX11_374 mW_0 rfl ?_
  refine g_lmul dX11_mix_8 ?_
  refine g_lload_n dX11_mix_9 rfl rfl ?_
  refine g_ladd dX11_mix_10 ?_
  refine g_putf dX11_mix_11 pX11_374 mW_0 (Nat.le_of_ble_eq_true rfl) (fun _ => rfl) (fun _ => rfl) (mW_lng rfl) ?_
  exact g_vret dX11_mix_14 rfl rfl ⟨rfl, rfl⟩
set_option maxRecDepth 100000 in
set_option maxHeartbeats 4000000 in
theorem CX11_igL {dg g : Nat} {u v : Int32} {n0 : Nat} (hg : g ≤ 8) (hg0 : σ 0 4 = nI g) (hdg : dg ≤ 2) : ∀ (d i : Nat) (x6 : Option Value), i + d = g - dg → Go l mX11_isGuess n0 (q_eq (some (.int (bB (igB (σ 3) dg u v (g - dg))))) (mW σ t)) (0, 0) 6 [some (.ref 0), some (.int (nI dg)), some (.int u), some (.int v), some (.int (bB (igB (σ 3) dg u v i))), some (.int (nI (dg + i))), x6] [] (mW σ t) := by
  intro d
  induction d with
  | zero =>
    intro i x6 hi
    have e1 : i = g - dg := by omega
    have e2 : g ≤ dg + i := by omega
    refine g_iload dX11_isGuess_6 rfl ?_
    refine g_aload_n dX11_isGuess_8 rfl rfl ?_
    refine g_getf dX11_isGuess_9 fX11_319 mW_0 rfl ?_
    rw [hg0]
    refine g_icmp_ge (tgt := 97) dX11_isGuess_12 rfl (fun c_12 => ?_) (fun c_12 => by exact absurd (nI_le (by omega) (by omega)) c_12)
    refine g_iload dX11_isGuess_97 rfl ?_
    exact g_zret dX11_isGuess_99 rfl rfl (by cases igB (σ 3) dg u v i <;> decide) ⟨by rw [e1], rfl⟩
  | succ d ih =>
    intro i x6 hi
    refine g_iload dX11_isGuess_6 rfl ?_
    refine g_aload_n dX11_isGuess_8 rfl rfl ?_
    refine g_getf dX11_isGuess_9 fX11_319 mW_0 rfl ?_
    rw [hg0]
    refine g_icmp_ge (tgt := 97) dX11_isGuess_12 rfl (fun c_12 => by exact absurd c_12 (nI_ge (by omega) (by omega))) (fun c_12 => ?_)
    refine g_iload_n dX11_isGuess_15 rfl rfl ?_
    refine g_if_ne (tgt := 23) dX11_isGuess_16 rfl (fun c_16 => ?_) (fun c_16 => ?_)
    · refine g_iload_n dX11_isGuess_23 rfl rfl ?_
      refine g_iconst (v := 1) dX11_isGuess_24 (by decide) ?_
      refine g_icmp_ne (tgt := 42) dX11_isGuess_25 rfl (fun c_25 => ?_) (fun c_25 => ?_)
      · refine g_iload_n dX11_isGuess_42 rfl rfl ?_
        refine g_aload_n dX11_isGuess_43 rfl rfl ?_
        refine g_getf dX11_isGuess_44 fX11_16 mW_0 rfl ?_
        refine g_iload dX11_isGuess_47 rfl ?_
        refine g_iconst (v := 1) dX11_isGuess_49 (by decide) ?_
        refine g_isub dX11_isGuess_50 ?_
        have hd : dg ≠ 0 := fun z => c_16 (by rw [z]; rfl)
        have hd2 : dg ≠ 1 := fun z => c_25 (by rw [z]; rfl)
        rw [show nI (dg + i) - 1 = nI (dg + i - 1) from nI_sub (b := 1) (by omega)]
        refine g_iald dX11_isGuess_51 mA3 (vin_n (by omega) (by decide)) ?_
        rw [nI_clamp (by omega)]
        refine g_imul dX11_isGuess_52 ?_
        refine g_iload_n dX11_isGuess_53 rfl rfl ?_
        refine g_aload_n dX11_isGuess_54 rfl rfl ?_
        refine g_getf dX11_isGuess_55 fX11_16 mW_0 rfl ?_
        refine g_iload dX11_isGuess_58 rfl ?_
        refine g_iconst (v := 2) dX11_isGuess_60 (by decide) ?_
        refine g_isub dX11_isGuess_61 ?_
        rw [show nI (dg + i) - 2 = nI (dg + i - 2) from nI_sub (b := 2) (by omega)]
        refine g_iald dX11_isGuess_62 mA3 (vin_n (by omega) (by decide)) ?_
        rw [nI_clamp (by omega)]
        refine g_imul dX11_isGuess_63 ?_
        refine g_iadd dX11_isGuess_64 ?_
        refine g_istore dX11_isGuess_65 (Nat.le_of_ble_eq_true rfl) rfl ?_
        refine g_iload dX11_isGuess_67 rfl ?_
        refine g_if_eq (tgt := 88) dX11_isGuess_69 rfl (fun c_69 => ?_) (fun c_69 => ?_)
        · refine g_iconst (v := 0) dX11_isGuess_88 (by decide) ?_
          refine g_istore dX11_isGuess_89 (Nat.le_of_ble_eq_true rfl) rfl ?_
          refine g_iinc (v := 1) dX11_isGuess_91 (by decide) rfl (Nat.le_of_ble_eq_true rfl) rfl ?_
          refine g_goto (tgt := 6) dX11_isGuess_94 rfl ?_
          exact Go.eq rfl (show _ = _ by first | (rw [igB_t (i := i) c_69 (by first | exact if_pos c_16 | exact (if_neg c_16).trans (if_pos c_25) | exact (if_neg c_16).trans (if_neg c_25)) c_81, show nI (dg + (i + 1)) = nI (dg + i) + 1 from (nI_1 (dg + i)).symm]; rfl) | (rw [igB_g (i := i) (by first | exact if_pos c_16 | exact (if_neg c_16).trans (if_pos c_25) | exact (if_neg c_16).trans (if_neg c_25)) c_81, show nI (dg + (i + 1)) = nI (dg + i) + 1 from (nI_1 (dg + i)).symm]; rfl) | (rw [igB_f (i := i) c_69, show nI (dg + (i + 1)) = nI (dg + i) + 1 from (nI_1 (dg + i)).symm]; rfl)) rfl rfl (ih (i + 1) _ (by omega))
        · refine g_aload_n dX11_isGuess_72 rfl rfl ?_
          refine g_getf dX11_isGuess_73 fX11_16 mW_0 rfl ?_
          refine g_iload dX11_isGuess_76 rfl ?_
          refine g_iald dX11_isGuess_78 mA3 (vin_n (by omega) (by decide)) ?_
          rw [nI_clamp (by omega)]
          refine g_iload dX11_isGuess_79 rfl ?_
          refine g_icmp_ne (tgt := 88) dX11_isGuess_81 rfl (fun c_81 => ?_) (fun c_81 => ?_)
          · refine g_iconst (v := 0) dX11_isGuess_88 (by decide) ?_
            refine g_istore dX11_isGuess_89 (Nat.le_of_ble_eq_true rfl) rfl ?_
            refine g_iinc (v := 1) dX11_isGuess_91 (by decide) rfl (Nat.le_of_ble_eq_true rfl) rfl ?_
            refine g_goto (tgt := 6) dX11_isGuess_94 rfl ?_
            exact Go.eq rfl (show _ = _ by first | (rw [igB_t (i := i) c_69 (by first | exact if_pos c_16 | exact (if_neg c_16).trans (if_pos c_25) | exact (if_neg c_16).trans (if_neg c_25)) c_81, show nI (dg + (i + 1)) = nI (dg + i) + 1 from (nI_1 (dg + i)).symm]; rfl) | (rw [igB_g (i := i) (by first | exact if_pos c_16 | exact (if_neg c_16).trans (if_pos c_25) | exact (if_neg c_16).trans (if_neg c_25)) c_81, show nI (dg + (i + 1)) = nI (dg + i) + 1 from (nI_1 (dg + i)).symm]; rfl) | (rw [igB_f (i := i) c_69, show nI (dg + (i + 1)) = nI (dg + i) + 1 from (nI_1 (dg + i)).symm]; rfl)) rfl rfl (ih (i + 1) _ (by omega))
          · refine g_iconst (v := 1) dX11_isGuess_84 (by decide) ?_
            refine g_goto (tgt := 89) dX11_isGuess_85 rfl ?_
            refine g_istore dX11_isGuess_89 (Nat.le_of_ble_eq_true rfl) rfl ?_
            refine g_iinc (v := 1) dX11_isGuess_91 (by decide) rfl (Nat.le_of_ble_eq_true rfl) rfl ?_
            refine g_goto (tgt := 6) dX11_isGuess_94 rfl ?_
            exact Go.eq rfl (show _ = _ by first | (rw [igB_t (i := i) c_69 (by first | exact if_pos c_16 | exact (if_neg c_16).trans (if_pos c_25) | exact (if_neg c_16).trans (if_neg c_25)) c_81, show nI (dg + (i + 1)) = nI (dg + i) + 1 from (nI_1 (dg + i)).symm]; rfl) | (rw [igB_g (i := i) (by first | exact if_pos c_16 | exact (if_neg c_16).trans (if_pos c_25) | exact (if_neg c_16).trans (if_neg c_25)) c_81, show nI (dg + (i + 1)) = nI (dg + i) + 1 from (nI_1 (dg + i)).symm]; rfl) | (rw [igB_f (i := i) c_69, show nI (dg + (i + 1)) = nI (dg + i) + 1 from (nI_1 (dg + i)).symm]; rfl)) rfl rfl (ih (i + 1) _ (by omega))
      · refine g_iload_n dX11_isGuess_28 rfl rfl ?_
        refine g_aload_n dX11_isGuess_29 rfl rfl ?_
        refine g_getf dX11_isGuess_30 fX11_16 mW_0 rfl ?_
        refine g_iload dX11_isGuess_33 rfl ?_
        refine g_iconst (v := 1) dX11_isGuess_35 (by decide) ?_
        refine g_isub dX11_isGuess_36 ?_
        have hd : dg ≠ 0 := fun z => c_16 (by rw [z]; rfl)
        rw [show nI (dg + i) - 1 = nI (dg + i - 1) from nI_sub (b := 1) (by omega)]
        refine g_iald dX11_isGuess_37 mA3 (vin_n (by omega) (by decide)) ?_
        rw [nI_clamp (by omega)]
        refine g_imul dX11_isGuess_38 ?_
        refine g_goto (tgt := 65) dX11_isGuess_39 rfl ?_
        refine g_istore dX11_isGuess_65 (Nat.le_of_ble_eq_true rfl) rfl ?_
        refine g_iload dX11_isGuess_67 rfl ?_
        refine g_if_eq (tgt := 88) dX11_isGuess_69 rfl (fun c_69 => ?_) (fun c_69 => ?_)
        · refine g_iconst (v := 0) dX11_isGuess_88 (by decide) ?_
          refine g_istore dX11_isGuess_89 (Nat.le_of_ble_eq_true rfl) rfl ?_
          refine g_iinc (v := 1) dX11_isGuess_91 (by decide) rfl (Nat.le_of_ble_eq_true rfl) rfl ?_
          refine g_goto (tgt := 6) dX11_isGuess_94 rfl ?_
          exact Go.eq rfl (show _ = _ by first | (rw [igB_t (i := i) c_69 (by first | exact if_pos c_16 | exact (if_neg c_16).trans (if_pos c_25) | exact (if_neg c_16).trans (if_neg c_25)) c_81, show nI (dg + (i + 1)) = nI (dg + i) + 1 from (nI_1 (dg + i)).symm]; rfl) | (rw [igB_g (i := i) (by first | exact if_pos c_16 | exact (if_neg c_16).trans (if_pos c_25) | exact (if_neg c_16).trans (if_neg c_25)) c_81, show nI (dg + (i + 1)) = nI (dg + i) + 1 from (nI_1 (dg + i)).symm]; rfl) | (rw [igB_f (i := i) c_69, show nI (dg + (i + 1)) = nI (dg + i) + 1 from (nI_1 (dg + i)).symm]; rfl)) rfl rfl (ih (i + 1) _ (by omega))
        · refine g_aload_n dX11_isGuess_72 rfl rfl ?_
          refine g_getf dX11_isGuess_73 fX11_16 mW_0 rfl ?_
          refine g_iload dX11_isGuess_76 rfl ?_
          refine g_iald dX11_isGuess_78 mA3 (vin_n (by omega) (by decide)) ?_
          rw [nI_clamp (by omega)]
          refine g_iload dX11_isGuess_79 rfl ?_
          refine g_icmp_ne (tgt := 88) dX11_isGuess_81 rfl (fun c_81 => ?_) (fun c_81 => ?_)
          · refine g_iconst (v := 0) dX11_isGuess_88 (by decide) ?_
            refine g_istore dX11_isGuess_89 (Nat.le_of_ble_eq_true rfl) rfl ?_
            refine g_iinc (v := 1) dX11_isGuess_91 (by decide) rfl (Nat.le_of_ble_eq_true rfl) rfl ?_
            refine g_goto (tgt := 6) dX11_isGuess_94 rfl ?_
            exact Go.eq rfl (show _ = _ by first | (rw [igB_t (i := i) c_69 (by first | exact if_pos c_16 | exact (if_neg c_16).trans (if_pos c_25) | exact (if_neg c_16).trans (if_neg c_25)) c_81, show nI (dg + (i + 1)) = nI (dg + i) + 1 from (nI_1 (dg + i)).symm]; rfl) | (rw [igB_g (i := i) (by first | exact if_pos c_16 | exact (if_neg c_16).trans (if_pos c_25) | exact (if_neg c_16).trans (if_neg c_25)) c_81, show nI (dg + (i + 1)) = nI (dg + i) + 1 from (nI_1 (dg + i)).symm]; rfl) | (rw [igB_f (i := i) c_69, show nI (dg + (i + 1)) = nI (dg + i) + 1 from (nI_1 (dg + i)).symm]; rfl)) rfl rfl (ih (i + 1) _ (by omega))
          · refine g_iconst (v := 1) dX11_isGuess_84 (by decide) ?_
            refine g_goto (tgt := 89) dX11_isGuess_85 rfl ?_
            refine g_istore dX11_isGuess_89 (Nat.le_of_ble_eq_true rfl) rfl ?_
            refine g_iinc (v := 1) dX11_isGuess_91 (by decide) rfl (Nat.le_of_ble_eq_true rfl) rfl ?_
            refine g_goto (tgt := 6) dX11_isGuess_94 rfl ?_
            exact Go.eq rfl (show _ = _ by first | (rw [igB_t (i := i) c_69 (by first | exact if_pos c_16 | exact (if_neg c_16).trans (if_pos c_25) | exact (if_neg c_16).trans (if_neg c_25)) c_81, show nI (dg + (i + 1)) = nI (dg + i) + 1 from (nI_1 (dg + i)).symm]; rfl) | (rw [igB_g (i := i) (by first | exact if_pos c_16 | exact (if_neg c_16).trans (if_pos c_25) | exact (if_neg c_16).trans (if_neg c_25)) c_81, show nI (dg + (i + 1)) = nI (dg + i) + 1 from (nI_1 (dg + i)).symm]; rfl) | (rw [igB_f (i := i) c_69, show nI (dg + (i + 1)) = nI (dg + i) + 1 from (nI_1 (dg + i)).symm]; rfl)) rfl rfl (ih (i + 1) _ (by omega))
    · refine g_iconst (v := 0) dX11_isGuess_19 (by decide) ?_
      refine g_goto (tgt := 65) dX11_isGuess_20 rfl ?_
      refine g_istore dX11_isGuess_65 (Nat.le_of_ble_eq_true rfl) rfl ?_
      refine g_iload dX11_isGuess_67 rfl ?_
      refine g_if_eq (tgt := 88) dX11_isGuess_69 rfl (fun c_69 => ?_) (fun c_69 => ?_)
      · refine g_iconst (v := 0) dX11_isGuess_88 (by decide) ?_
        refine g_istore dX11_isGuess_89 (Nat.le_of_ble_eq_true rfl) rfl ?_
        refine g_iinc (v := 1) dX11_isGuess_91 (by decide) rfl (Nat.le_of_ble_eq_true rfl) rfl ?_
        refine g_goto (tgt := 6) dX11_isGuess_94 rfl ?_
        exact Go.eq rfl (show _ = _ by first | (rw [igB_t (i := i) c_69 (by first | exact if_pos c_16 | exact (if_neg c_16).trans (if_pos c_25) | exact (if_neg c_16).trans (if_neg c_25)) c_81, show nI (dg + (i + 1)) = nI (dg + i) + 1 from (nI_1 (dg + i)).symm]; rfl) | (rw [igB_g (i := i) (by first | exact if_pos c_16 | exact (if_neg c_16).trans (if_pos c_25) | exact (if_neg c_16).trans (if_neg c_25)) c_81, show nI (dg + (i + 1)) = nI (dg + i) + 1 from (nI_1 (dg + i)).symm]; rfl) | (rw [igB_f (i := i) c_69, show nI (dg + (i + 1)) = nI (dg + i) + 1 from (nI_1 (dg + i)).symm]; rfl)) rfl rfl (ih (i + 1) _ (by omega))
      · refine g_aload_n dX11_isGuess_72 rfl rfl ?_
        refine g_getf dX11_isGuess_73 fX11_16 mW_0 rfl ?_
        refine g_iload dX11_isGuess_76 rfl ?_
        refine g_iald dX11_isGuess_78 mA3 (vin_n (by omega) (by decide)) ?_
        rw [nI_clamp (by omega)]
        refine g_iload dX11_isGuess_79 rfl ?_
        refine g_icmp_ne (tgt := 88) dX11_isGuess_81 rfl (fun c_81 => ?_) (fun c_81 => ?_)
        · refine g_iconst (v := 0) dX11_isGuess_88 (by decide) ?_
          refine g_istore dX11_isGuess_89 (Nat.le_of_ble_eq_true rfl) rfl ?_
          refine g_iinc (v := 1) dX11_isGuess_91 (by decide) rfl (Nat.le_of_ble_eq_true rfl) rfl ?_
          refine g_goto (tgt := 6) dX11_isGuess_94 rfl ?_
          exact Go.eq rfl (show _ = _ by first | (rw [igB_t (i := i) c_69 (by first | exact if_pos c_16 | exact (if_neg c_16).trans (if_pos c_25) | exact (if_neg c_16).trans (if_neg c_25)) c_81, show nI (dg + (i + 1)) = nI (dg + i) + 1 from (nI_1 (dg + i)).symm]; rfl) | (rw [igB_g (i := i) (by first | exact if_pos c_16 | exact (if_neg c_16).trans (if_pos c_25) | exact (if_neg c_16).trans (if_neg c_25)) c_81, show nI (dg + (i + 1)) = nI (dg + i) + 1 from (nI_1 (dg + i)).symm]; rfl) | (rw [igB_f (i := i) c_69, show nI (dg + (i + 1)) = nI (dg + i) + 1 from (nI_1 (dg + i)).symm]; rfl)) rfl rfl (ih (i + 1) _ (by omega))
        · refine g_iconst (v := 1) dX11_isGuess_84 (by decide) ?_
          refine g_goto (tgt := 89) dX11_isGuess_85 rfl ?_
          refine g_istore dX11_isGuess_89 (Nat.le_of_ble_eq_true rfl) rfl ?_
          refine g_iinc (v := 1) dX11_isGuess_91 (by decide) rfl (Nat.le_of_ble_eq_true rfl) rfl ?_
          refine g_goto (tgt := 6) dX11_isGuess_94 rfl ?_
          exact Go.eq rfl (show _ = _ by first | (rw [igB_t (i := i) c_69 (by first | exact if_pos c_16 | exact (if_neg c_16).trans (if_pos c_25) | exact (if_neg c_16).trans (if_neg c_25)) c_81, show nI (dg + (i + 1)) = nI (dg + i) + 1 from (nI_1 (dg + i)).symm]; rfl) | (rw [igB_g (i := i) (by first | exact if_pos c_16 | exact (if_neg c_16).trans (if_pos c_25) | exact (if_neg c_16).trans (if_neg c_25)) c_81, show nI (dg + (i + 1)) = nI (dg + i) + 1 from (nI_1 (dg + i)).symm]; rfl) | (rw [igB_f (i := i) c_69, show nI (dg + (i + 1)) = nI (dg + i) + 1 from (nI_1 (dg + i)).symm]; rfl)) rfl rfl (ih (i + 1) _ (by omega))
set_option maxRecDepth 100000 in
set_option maxHeartbeats 4000000 in
theorem CX11_isGuess {dg g : Nat} {u v : Int32} (hg : g ≤ 8) (hg0 : σ 0 4 = nI g) (hdg : dg ≤ 2) : Ct l mX11_isGuess [.ref 0, .int (nI dg), .int u, .int v] (mW σ t) (q_eq (some (.int (bB (igB (σ 3) dg u v (g - dg))))) (mW σ t)) := by
  refine Ct.of rfl (Nat.le_of_ble_eq_true rfl) ?_
  refine g_iconst (v := 1) dX11_isGuess_0 (by decide) ?_
  refine g_istore dX11_isGuess_1 (Nat.le_of_ble_eq_true rfl) rfl ?_
  refine g_iload_n dX11_isGuess_3 rfl rfl ?_
  refine g_istore dX11_isGuess_4 (Nat.le_of_ble_eq_true rfl) rfl ?_
  exact Go.eq rfl rfl rfl rfl (CX11_igL hg hg0 hdg (g - dg) 0 none (by omega))
end
