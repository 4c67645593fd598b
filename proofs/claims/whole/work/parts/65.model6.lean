def mkd (c : Int32) : Int32 := if c = 116 then 0 else if c = 43 then 1 else if c = 42 then 2 else if c = 101 then 3 else if c = 100 then 4 else 2000000001
abbrev mFit (k sg : Int32) (n : Nat) (c : Int32) : Prop := if k = 0 then rvl c ≠ 2000000001 else if k = 3 ∧ sg = 1 then 49 ≤ c ∧ c ≤ 53 else if k = 3 ∧ sg = 2 then 48 ≤ c ∧ c ≤ 57 else 48 ≤ c ∧ c ≤ 48 + nI n - 2
def mTK (σ : Nat → Nat → Int32) (n : Nat) (kd : Int32) : Nat → Nat → Int32 := put (put (put (putC (put σ 5 n kd) 6 (ru (σ 6) (4 * n) 4 (fun _ => 2000000001))) 0 8 (nI (n + 1))) 0 9 0) 0 12 0
def mTk (σ : Nat → Nat → Int32) (c : Int32) (n s : Nat) : Bool × (Nat → Nat → Int32) :=
  if σ 0 12 = 0 then
    (if 0 < n ∧ nI s = nums (σ 5 (n - 1)) then (if c = 59 ∧ n < 8 then (true, put σ 0 12 1) else (false, put σ 0 12 0))
     else if mFit (σ 5 (n - 1)) (nI s) n c then (true, put (put σ 6 (4 * n - 4 + s) (rvl c)) 0 9 (nI (s + 1))) else (false, σ))
  else (if mkd c = 2000000001 ∨ (mkd c ≠ 0 ∧ n = 0) then (false, σ) else (true, mTK σ n (mkd c)))
def mrOk (σ : Nat → Nat → Int32) (n s : Nat) : Prop := σ 0 8 = nI n ∧ σ 0 9 = nI s ∧ n ≤ 8 ∧ s ≤ 4 ∧ ((σ 0 12 = 1 ∧ n < 8) ∨ (σ 0 12 = 0 ∧ 1 ≤ n ∧ nI s ≤ nums (σ 5 (n - 1))))
theorem nI0 {n : Nat} (hn : n < 2 ^ 31) : nI n = 0 ↔ n = 0 := by
  constructor
  · intro h
    have := nI_clamp hn
    rw [h] at this
    exact this.symm
  · rintro rfl; rfl
section
variable {l : Launch} {σ : Nat → Nat → Int32} {t : Nat → Int64} {n s : Nat}
set_option maxRecDepth 100000 in
set_option maxHeartbeats 4000000 in
theorem CX11_isDone (hn : n ≤ 8) (h8 : σ 0 8 = nI n) : Ct l mX11_isDone [.ref 0] (mW σ t) (q_eq (some (.int (bI (0 < n ∧ σ 0 9 = nums (σ 5 (n - 1)))))) (mW σ t)) := by
  refine Ct.of rfl (Nat.le_of_ble_eq_true rfl) ?_
  rcases (show 0 < n ∨ n = 0 by omega) with q | q
  · refine g_aload_n dX11_isDone_0 rfl rfl ?_
    refine g_getf dX11_isDone_1 fX11_77 mW_0 rfl ?_
    rw [h8]
    refine g_if_le (tgt := 32) dX11_isDone_4 rfl (fun c_4 => by exact absurd c_4 (nI_ge (a := 0) (by omega) (by omega))) (fun c_4 => ?_)
    refine g_aload_n dX11_isDone_7 rfl rfl ?_
    refine g_getf dX11_isDone_8 fX11_84 mW_0 rfl ?_
    refine g_aload_n dX11_isDone_11 rfl rfl ?_
    refine g_getf dX11_isDone_12 fX11_23 mW_0 rfl ?_
    refine g_aload_n dX11_isDone_15 rfl rfl ?_
    refine g_getf dX11_isDone_16 fX11_77 mW_0 rfl ?_
    rw [h8]
    refine g_iconst (v := 1) dX11_isDone_19 (by decide) ?_
    refine g_isub dX11_isDone_20 ?_
    rw [show nI n - 1 = nI (n - 1) from nI_sub (b := 1) (by omega)]
    refine g_iald dX11_isDone_21 mA5 (vin_n (by omega) (by decide)) ?_
    rw [nI_clamp (by omega)]
    refine g_S1r CX11_signsOf kX11_isDone_87 dX11_isDone_22 ⟨rfl, rfl⟩ (Nat.le_of_ble_eq_true rfl) ⟨(Nat.le_of_ble_eq_true rfl), (Nat.le_of_ble_eq_true rfl)⟩ ?_
    refine g_icmp_ne (tgt := 32) dX11_isDone_25 rfl (fun c_25 => ?_) (fun c_25 => ?_)
    · refine g_iconst (v := 0) dX11_isDone_32 (by decide) ?_
      exact g_zret dX11_isDone_33 rfl rfl (by first | decide | exact bI_and) ⟨by grind [bI], rfl⟩
    · refine g_iconst (v := 1) dX11_isDone_28 (by decide) ?_
      refine g_goto (tgt := 33) dX11_isDone_29 rfl ?_
      exact g_zret dX11_isDone_33 rfl rfl (by first | decide | exact bI_and) ⟨by grind [bI], rfl⟩
  · refine g_aload_n dX11_isDone_0 rfl rfl ?_
    refine g_getf dX11_isDone_1 fX11_77 mW_0 rfl ?_
    rw [h8]
    refine g_if_le (tgt := 32) dX11_isDone_4 rfl (fun c_4 => ?_) (fun c_4 => by exact absurd (by rw [q]; decide) c_4)
    refine g_iconst (v := 0) dX11_isDone_32 (by decide) ?_
    exact g_zret dX11_isDone_33 rfl rfl (by first | decide | exact bI_and) ⟨by rw [bI, if_neg (by omega)], rfl⟩
set_option maxRecDepth 100000 in
set_option maxHeartbeats 4000000 in
theorem CX11_fitsSign {c : Int32} (hn : n ≤ 8) (hn1 : 1 ≤ n) (h8 : σ 0 8 = nI n) : Ct l mX11_fitsSign [.ref 0, .int c] (mW σ t) (q_eq (some (.int (bI (mFit (σ 5 (n - 1)) (σ 0 9) n c)))) (mW σ t)) := by
  refine Ct.of rfl (Nat.le_of_ble_eq_true rfl) ?_
  refine g_aload_n dX11_fitsSign_0 rfl rfl ?_
  refine g_getf dX11_fitsSign_1 fX11_23 mW_0 rfl ?_
  refine g_aload_n dX11_fitsSign_4 rfl rfl ?_
  refine g_getf dX11_fitsSign_5 fX11_77 mW_0 rfl ?_
  rw [h8]
  refine g_iconst (v := 1) dX11_fitsSign_8 (by decide) ?_
  refine g_isub dX11_fitsSign_9 ?_
  rw [show nI n - 1 = nI (n - 1) from nI_sub (b := 1) (by omega)]
  refine g_iald dX11_fitsSign_10 mA5 (vin_n (by omega) (by decide)) ?_
  rw [nI_clamp (by omega)]
  refine g_istore_n dX11_fitsSign_11 rfl (Nat.le_of_ble_eq_true rfl) rfl ?_
  refine g_iload_n dX11_fitsSign_12 rfl rfl ?_
  refine g_if_ne (tgt := 31) dX11_fitsSign_13 rfl (fun c_13 => ?_) (fun c_13 => ?_)
  · refine g_iload_n dX11_fitsSign_31 rfl rfl ?_
    refine g_iconst (v := 3) dX11_fitsSign_32 (by decide) ?_
    refine g_icmp_ne (tgt := 53) dX11_fitsSign_33 rfl (fun c_33 => ?_) (fun c_33 => ?_)
    · refine g_iload_n dX11_fitsSign_53 rfl rfl ?_
      refine g_iconst (v := 3) dX11_fitsSign_54 (by decide) ?_
      refine g_icmp_ne (tgt := 75) dX11_fitsSign_55 rfl (fun c_55 => ?_) (fun c_55 => ?_)
      · refine g_iload_n dX11_fitsSign_75 rfl rfl ?_
        refine g_bipush (v := 48) dX11_fitsSign_76 (by decide) ?_
        refine g_bipush (v := 48) dX11_fitsSign_78 (by decide) ?_
        refine g_aload_n dX11_fitsSign_80 rfl rfl ?_
        refine g_getf dX11_fitsSign_81 fX11_77 mW_0 rfl ?_
        rw [h8]
        refine g_iadd dX11_fitsSign_84 ?_
        refine g_iconst (v := 2) dX11_fitsSign_85 (by decide) ?_
        refine g_isub dX11_fitsSign_86 ?_
        refine g_S3r CX11_within kX11_fitsSign_68 dX11_fitsSign_87 ⟨rfl, rfl⟩ (Nat.le_of_ble_eq_true rfl) ⟨(Nat.le_of_ble_eq_true rfl), (Nat.le_of_ble_eq_true rfl)⟩ ?_
        exact g_zret dX11_fitsSign_90 rfl rfl (by first | decide | exact bI_and) ⟨by clear h8; grind [bI], rfl⟩
      · refine g_aload_n dX11_fitsSign_58 rfl rfl ?_
        refine g_getf dX11_fitsSign_59 fX11_84 mW_0 rfl ?_
        refine g_iconst (v := 2) dX11_fitsSign_62 (by decide) ?_
        refine g_icmp_ne (tgt := 75) dX11_fitsSign_63 rfl (fun c_63 => ?_) (fun c_63 => ?_)
        · refine g_iload_n dX11_fitsSign_75 rfl rfl ?_
          refine g_bipush (v := 48) dX11_fitsSign_76 (by decide) ?_
          refine g_bipush (v := 48) dX11_fitsSign_78 (by decide) ?_
          refine g_aload_n dX11_fitsSign_80 rfl rfl ?_
          refine g_getf dX11_fitsSign_81 fX11_77 mW_0 rfl ?_
          rw [h8]
          refine g_iadd dX11_fitsSign_84 ?_
          refine g_iconst (v := 2) dX11_fitsSign_85 (by decide) ?_
          refine g_isub dX11_fitsSign_86 ?_
          refine g_S3r CX11_within kX11_fitsSign_68 dX11_fitsSign_87 ⟨rfl, rfl⟩ (Nat.le_of_ble_eq_true rfl) ⟨(Nat.le_of_ble_eq_true rfl), (Nat.le_of_ble_eq_true rfl)⟩ ?_
          exact g_zret dX11_fitsSign_90 rfl rfl (by first | decide | exact bI_and) ⟨by clear h8; grind [bI], rfl⟩
        · refine g_iload_n dX11_fitsSign_66 rfl rfl ?_
          refine g_bipush (v := 48) dX11_fitsSign_67 (by decide) ?_
          refine g_bipush (v := 57) dX11_fitsSign_69 (by decide) ?_
          refine g_S3r CX11_within kX11_fitsSign_68 dX11_fitsSign_71 ⟨rfl, rfl⟩ (Nat.le_of_ble_eq_true rfl) ⟨(Nat.le_of_ble_eq_true rfl), (Nat.le_of_ble_eq_true rfl)⟩ ?_
          exact g_zret dX11_fitsSign_74 rfl rfl (by first | decide | exact bI_and) ⟨by clear h8; grind [bI], rfl⟩
    · refine g_aload_n dX11_fitsSign_36 rfl rfl ?_
      refine g_getf dX11_fitsSign_37 fX11_84 mW_0 rfl ?_
      refine g_iconst (v := 1) dX11_fitsSign_40 (by decide) ?_
      refine g_icmp_ne (tgt := 53) dX11_fitsSign_41 rfl (fun c_41 => ?_) (fun c_41 => ?_)
      · refine g_iload_n dX11_fitsSign_53 rfl rfl ?_
        refine g_iconst (v := 3) dX11_fitsSign_54 (by decide) ?_
        refine g_icmp_ne (tgt := 75) dX11_fitsSign_55 rfl (fun c_55 => ?_) (fun c_55 => ?_)
        · refine g_iload_n dX11_fitsSign_75 rfl rfl ?_
          refine g_bipush (v := 48) dX11_fitsSign_76 (by decide) ?_
          refine g_bipush (v := 48) dX11_fitsSign_78 (by decide) ?_
          refine g_aload_n dX11_fitsSign_80 rfl rfl ?_
          refine g_getf dX11_fitsSign_81 fX11_77 mW_0 rfl ?_
          rw [h8]
          refine g_iadd dX11_fitsSign_84 ?_
          refine g_iconst (v := 2) dX11_fitsSign_85 (by decide) ?_
          refine g_isub dX11_fitsSign_86 ?_
          refine g_S3r CX11_within kX11_fitsSign_68 dX11_fitsSign_87 ⟨rfl, rfl⟩ (Nat.le_of_ble_eq_true rfl) ⟨(Nat.le_of_ble_eq_true rfl), (Nat.le_of_ble_eq_true rfl)⟩ ?_
          exact g_zret dX11_fitsSign_90 rfl rfl (by first | decide | exact bI_and) ⟨by clear h8; grind [bI], rfl⟩
        · refine g_aload_n dX11_fitsSign_58 rfl rfl ?_
          refine g_getf dX11_fitsSign_59 fX11_84 mW_0 rfl ?_
          refine g_iconst (v := 2) dX11_fitsSign_62 (by decide) ?_
          refine g_icmp_ne (tgt := 75) dX11_fitsSign_63 rfl (fun c_63 => ?_) (fun c_63 => ?_)
          · refine g_iload_n dX11_fitsSign_75 rfl rfl ?_
            refine g_bipush (v := 48) dX11_fitsSign_76 (by decide) ?_
            refine g_bipush (v := 48) dX11_fitsSign_78 (by decide) ?_
            refine g_aload_n dX11_fitsSign_80 rfl rfl ?_
            refine g_getf dX11_fitsSign_81 fX11_77 mW_0 rfl ?_
            rw [h8]
            refine g_iadd dX11_fitsSign_84 ?_
            refine g_iconst (v := 2) dX11_fitsSign_85 (by decide) ?_
            refine g_isub dX11_fitsSign_86 ?_
            refine g_S3r CX11_within kX11_fitsSign_68 dX11_fitsSign_87 ⟨rfl, rfl⟩ (Nat.le_of_ble_eq_true rfl) ⟨(Nat.le_of_ble_eq_true rfl), (Nat.le_of_ble_eq_true rfl)⟩ ?_
            exact g_zret dX11_fitsSign_90 rfl rfl (by first | decide | exact bI_and) ⟨by clear h8; grind [bI], rfl⟩
          · refine g_iload_n dX11_fitsSign_66 rfl rfl ?_
            refine g_bipush (v := 48) dX11_fitsSign_67 (by decide) ?_
            refine g_bipush (v := 57) dX11_fitsSign_69 (by decide) ?_
            refine g_S3r CX11_within kX11_fitsSign_68 dX11_fitsSign_71 ⟨rfl, rfl⟩ (Nat.le_of_ble_eq_true rfl) ⟨(Nat.le_of_ble_eq_true rfl), (Nat.le_of_ble_eq_true rfl)⟩ ?_
            exact g_zret dX11_fitsSign_74 rfl rfl (by first | decide | exact bI_and) ⟨by clear h8; grind [bI], rfl⟩
      · refine g_iload_n dX11_fitsSign_44 rfl rfl ?_
        refine g_bipush (v := 49) dX11_fitsSign_45 (by decide) ?_
        refine g_bipush (v := 53) dX11_fitsSign_47 (by decide) ?_
        refine g_S3r CX11_within kX11_fitsSign_68 dX11_fitsSign_49 ⟨rfl, rfl⟩ (Nat.le_of_ble_eq_true rfl) ⟨(Nat.le_of_ble_eq_true rfl), (Nat.le_of_ble_eq_true rfl)⟩ ?_
        exact g_zret dX11_fitsSign_52 rfl rfl (by first | decide | exact bI_and) ⟨by clear h8; grind [bI], rfl⟩
  · refine g_iload_n dX11_fitsSign_16 rfl rfl ?_
    refine g_S1r CX11_valueOf kX11_fitsSign_80 dX11_fitsSign_17 ⟨rfl, rfl⟩ (Nat.le_of_ble_eq_true rfl) ⟨(Nat.le_of_ble_eq_true rfl), (Nat.le_of_ble_eq_true rfl)⟩ ?_
    refine g_ldc dX11_fitsSign_20 tb_854 ?_
    refine g_icmp_eq (tgt := 29) dX11_fitsSign_22 rfl (fun c_22 => ?_) (fun c_22 => ?_)
    · refine g_iconst (v := 0) dX11_fitsSign_29 (by decide) ?_
      exact g_zret dX11_fitsSign_30 rfl rfl (by first | decide | exact bI_and) ⟨by clear h8; grind [bI], rfl⟩
    · refine g_iconst (v := 1) dX11_fitsSign_25 (by decide) ?_
      refine g_goto (tgt := 30) dX11_fitsSign_26 rfl ?_
      exact g_zret dX11_fitsSign_30 rfl rfl (by first | decide | exact bI_and) ⟨by clear h8; grind [bI], rfl⟩
set_option maxRecDepth 100000 in
set_option maxHeartbeats 4000000 in
theorem CX11_tkL {c kd : Int32} {n0 : Nat} (hn : n < 8) (h8 : σ 0 8 = nI n) : ∀ (d j : Nat), j + d = 4 → Go l mX11_takesKind n0 (q_eq (some (.int 1)) (mW (mTK σ n kd) t)) (0, 0) 36 [some (.ref 0), some (.int c), some (.int kd), some (.int (nI j))] [] (mW (putC (put σ 5 n kd) 6 (ru (σ 6) (4 * n) j (fun _ => 2000000001))) t) := by
  intro d
  induction d with
  | zero =>
    intro j hj
    have e1 : 4 = j := by omega
    subst e1
    refine g_iload_n dX11_takesKind_36 rfl rfl ?_
    refine g_iconst (v := 4) dX11_takesKind_37 (by decide) ?_
    refine g_icmp_ge (tgt := 62) dX11_takesKind_38 rfl (fun c_38 => ?_) (fun c_38 => by exfalso; revert c_38; decide)
    refine g_aload_n dX11_takesKind_62 rfl rfl ?_
    refine g_dup dX11_takesKind_63 rfl ?_
    refine g_getf dX11_takesKind_64 fX11_77 mW_0 rfl ?_
    rw [show putC (put σ 5 n kd) 6 (ru (σ 6) (4 * n) 4 (fun _ => 2000000001)) 0 8 = nI n from h8]
    refine g_iconst (v := 1) dX11_takesKind_67 (by decide) ?_
    refine g_iadd dX11_takesKind_68 ?_
    rw [nI_1 n]
    refine g_putf dX11_takesKind_69 pX11_77 mW_0 (Nat.le_of_ble_eq_true rfl) (fun _ => rfl) (fun _ => rfl) (mW_obj rfl) ?_
    refine g_aload_n dX11_takesKind_72 rfl rfl ?_
    refine g_iconst (v := 0) dX11_takesKind_73 (by decide) ?_
    refine g_putf dX11_takesKind_74 pX11_84 mW_0 (Nat.le_of_ble_eq_true rfl) (fun _ => rfl) (fun _ => rfl) (mW_obj rfl) ?_
    refine g_aload_n dX11_takesKind_77 rfl rfl ?_
    refine g_iconst (v := 0) dX11_takesKind_78 (by decide) ?_
    refine g_putf dX11_takesKind_79 pX11_90 mW_0 (Nat.le_of_ble_eq_true rfl) (fun _ => rfl) (fun _ => rfl) (mW_obj rfl) ?_
    refine g_iconst (v := 1) dX11_takesKind_82 (by decide) ?_
    exact g_zret dX11_takesKind_83 rfl rfl (by first | decide | exact bI_and) ⟨rfl, rfl⟩
  | succ d ih =>
    intro j hj
    refine g_iload_n dX11_takesKind_36 rfl rfl ?_
    refine g_iconst (v := 4) dX11_takesKind_37 (by decide) ?_
    refine g_icmp_ge (tgt := 62) dX11_takesKind_38 rfl (fun c_38 => by exact absurd c_38 (nI_ge (b := 4) (by omega) (by decide))) (fun c_38 => ?_)
    refine g_aload_n dX11_takesKind_41 rfl rfl ?_
    refine g_getf dX11_takesKind_42 fX11_26 mW_0 rfl ?_
    refine g_iconst (v := 4) dX11_takesKind_45 (by decide) ?_
    refine g_aload_n dX11_takesKind_46 rfl rfl ?_
    refine g_getf dX11_takesKind_47 fX11_77 mW_0 rfl ?_
    rw [show putC (put σ 5 n kd) 6 (ru (σ 6) (4 * n) j (fun _ => 2000000001)) 0 8 = nI n from h8]
    refine g_imul dX11_takesKind_50 ?_
    refine g_iload_n dX11_takesKind_51 rfl rfl ?_
    refine g_iadd dX11_takesKind_52 ?_
    rw [ixE]
    refine g_ldc dX11_takesKind_53 tb_854 ?_
    refine g_iast dX11_takesKind_55 mA6 (vin_n (by omega) (by decide)) (mW_arrN (k' := 4 * n + j) (fun _ => rfl) (nI_clamp (by omega))) ?_
    refine g_iinc (v := 1) dX11_takesKind_56 (by decide) rfl (Nat.le_of_ble_eq_true rfl) rfl ?_
    refine g_goto (tgt := 36) dX11_takesKind_59 rfl ?_
    exact Go.eq rfl (show _ = _ by rw [← nI_1 j]; rfl) rfl (show mW (put (putC (put σ 5 n kd) 6 (ru (σ 6) (4 * n) j (fun _ => 2000000001))) 6 (4 * n + j) 2000000001) t = _ by rw [put_putC, ru_1 rfl]) (ih (j + 1) (by omega))
set_option maxRecDepth 100000 in
set_option maxHeartbeats 4000000 in
theorem CX11_takesKind {c : Int32} (hn : n < 8) (h8 : σ 0 8 = nI n) : Ct l mX11_takesKind [.ref 0, .int c] (mW σ t) (q_eq (some (.int (if (mkd c = 2000000001 ∨ (mkd c ≠ 0 ∧ n = 0)) then 0 else 1))) (mW (if (mkd c = 2000000001 ∨ (mkd c ≠ 0 ∧ n = 0)) then σ else mTK σ n (mkd c)) t)) := by
  refine Ct.of rfl (Nat.le_of_ble_eq_true rfl) ?_
  refine g_iload_n dX11_takesKind_0 rfl rfl ?_
  refine g_S1r CX11_kindBy kX11_takesKind_105 dX11_takesKind_1 ⟨rfl, rfl⟩ (Nat.le_of_ble_eq_true rfl) ⟨(Nat.le_of_ble_eq_true rfl), (Nat.le_of_ble_eq_true rfl)⟩ ?_
  refine Go.eq rfl rfl (show _ = [Value.int (mkd c)] from rfl) rfl ?_
  refine g_istore_n dX11_takesKind_4 rfl (Nat.le_of_ble_eq_true rfl) rfl ?_
  refine g_iload_n dX11_takesKind_5 rfl rfl ?_
  refine g_ldc dX11_takesKind_6 tb_854 ?_
  refine g_icmp_eq (tgt := 22) dX11_takesKind_8 rfl (fun c_8 => ?_) (fun c_8 => ?_)
  · refine g_iconst (v := 0) dX11_takesKind_22 (by decide) ?_
    exact g_zret dX11_takesKind_23 rfl rfl (by first | decide | exact bI_and) (by first | (rw [if_pos (Or.inl c_8), if_pos (Or.inl c_8)]; exact ⟨rfl, rfl⟩) | (rw [if_pos (Or.inr ⟨c_12, (nI0 (by omega)).mp c_19⟩), if_pos (Or.inr ⟨c_12, (nI0 (by omega)).mp c_19⟩)]; exact ⟨rfl, rfl⟩))
  · refine g_iload_n dX11_takesKind_11 rfl rfl ?_
    refine g_if_eq (tgt := 24) dX11_takesKind_12 rfl (fun c_12 => ?_) (fun c_12 => ?_)
    · refine g_aload_n dX11_takesKind_24 rfl rfl ?_
      refine g_getf dX11_takesKind_25 fX11_23 mW_0 rfl ?_
      refine g_aload_n dX11_takesKind_28 rfl rfl ?_
      refine g_getf dX11_takesKind_29 fX11_77 mW_0 rfl ?_
      rw [h8]
      refine g_iload_n dX11_takesKind_32 rfl rfl ?_
      refine g_iast dX11_takesKind_33 mA5 (vin_n (by omega) (by decide)) (mW_arrN (k' := n) (fun _ => rfl) (nI_clamp (by omega))) ?_
      refine g_iconst (v := 0) dX11_takesKind_34 (by decide) ?_
      refine g_istore_n dX11_takesKind_35 rfl (Nat.le_of_ble_eq_true rfl) rfl ?_
      have hN := nI0 (n := n) (by omega)
      have hz : ¬ (mkd c = 2000000001 ∨ (mkd c ≠ 0 ∧ n = 0)) := by clear h8; grind
      refine Go.mono (Q' := (q_eq (some (.int 1)) (mW (mTK σ n (mkd c)) t))) (fun r w2 h => by rw [if_neg hz, if_neg hz]; exact h) ?_
      exact Go.eq rfl rfl rfl (by rw [ru_0]; first | rfl | exact congrArg (fun z => mW z t) (putC_id (σ := put σ 5 n (mkd c)) (c := 6)).symm) (CX11_tkL hn h8 4 0 rfl)
    · refine g_aload_n dX11_takesKind_15 rfl rfl ?_
      refine g_getf dX11_takesKind_16 fX11_77 mW_0 rfl ?_
      rw [h8]
      refine g_if_ne (tgt := 24) dX11_takesKind_19 rfl (fun c_19 => ?_) (fun c_19 => ?_)
      · refine g_aload_n dX11_takesKind_24 rfl rfl ?_
        refine g_getf dX11_takesKind_25 fX11_23 mW_0 rfl ?_
        refine g_aload_n dX11_takesKind_28 rfl rfl ?_
        refine g_getf dX11_takesKind_29 fX11_77 mW_0 rfl ?_
        rw [h8]
        refine g_iload_n dX11_takesKind_32 rfl rfl ?_
        refine g_iast dX11_takesKind_33 mA5 (vin_n (by omega) (by decide)) (mW_arrN (k' := n) (fun _ => rfl) (nI_clamp (by omega))) ?_
        refine g_iconst (v := 0) dX11_takesKind_34 (by decide) ?_
        refine g_istore_n dX11_takesKind_35 rfl (Nat.le_of_ble_eq_true rfl) rfl ?_
        have hN := nI0 (n := n) (by omega)
        have hz : ¬ (mkd c = 2000000001 ∨ (mkd c ≠ 0 ∧ n = 0)) := by clear h8; grind
        refine Go.mono (Q' := (q_eq (some (.int 1)) (mW (mTK σ n (mkd c)) t))) (fun r w2 h => by rw [if_neg hz, if_neg hz]; exact h) ?_
        exact Go.eq rfl rfl rfl (by rw [ru_0]; first | rfl | exact congrArg (fun z => mW z t) (putC_id (σ := put σ 5 n (mkd c)) (c := 6)).symm) (CX11_tkL hn h8 4 0 rfl)
      · refine g_iconst (v := 0) dX11_takesKind_22 (by decide) ?_
        exact g_zret dX11_takesKind_23 rfl rfl (by first | decide | exact bI_and) (by first | (rw [if_pos (Or.inl c_8), if_pos (Or.inl c_8)]; exact ⟨rfl, rfl⟩) | (rw [if_pos (Or.inr ⟨c_12, (nI0 (by omega)).mp c_19⟩), if_pos (Or.inr ⟨c_12, (nI0 (by omega)).mp c_19⟩)]; exact ⟨rfl, rfl⟩))
set_option maxRecDepth 100000 in
set_option maxHeartbeats 4000000 in
theorem CX11_takes {c : Int32} (H : mrOk σ n s) : Ct l mX11_takes [.ref 0, .int c] (mW σ t) (q_eq (some (.int (bB (mTk σ c n s).1))) (mW (mTk σ c n s).2 t)) := by
  obtain ⟨h8, h9, hn, hs4, hh⟩ := H
  refine Ct.of rfl (Nat.le_of_ble_eq_true rfl) ?_
  rcases hh with ⟨hb1, hlt⟩ | ⟨hb1, h1, hs0⟩
  · replace hb1 : ¬ σ 0 12 = 0 := by rw [hb1]; decide
    refine g_aload_n dX11_takes_0 rfl rfl ?_
    refine g_getf dX11_takes_1 fX11_90 mW_0 rfl ?_
    refine g_if_eq (tgt := 13) dX11_takes_4 rfl (fun c_4 => by exact absurd c_4 hb1) (fun c_4 => ?_)
    refine g_aload_n dX11_takes_7 rfl rfl ?_
    refine g_iload_n dX11_takes_8 rfl rfl ?_
    refine g_V1r (CX11_takesKind hlt h8) kX11_takes_94 dX11_takes_9 mW_0 rfl ⟨rfl, rfl⟩ (Nat.le_of_ble_eq_true rfl) ⟨(Nat.le_of_ble_eq_true rfl), (Nat.le_of_ble_eq_true rfl)⟩ ?_
    exact g_zret dX11_takes_12 rfl rfl (by split <;> decide) (by rw [mTk, if_neg hb1]; by_cases h : (mkd c = 2000000001 ∨ (mkd c ≠ 0 ∧ n = 0)) <;> simp only [h, if_true, if_false] <;> exact ⟨rfl, rfl⟩)
  · have hs : ¬ (0 < n ∧ nI s = nums (σ 5 (n - 1))) → s < 4 := fun z => by
      rcases Nat.lt_or_ge s 4 with y | y
      · exact y
      · exfalso
        have e : s = 4 := by omega
        subst e
        apply z
        refine ⟨h1, ?_⟩
        have h4 : nI 4 = 4 := rfl
        rw [h4] at hs0 ⊢
        unfold nums at hs0 ⊢
        grind
    refine g_aload_n dX11_takes_0 rfl rfl ?_
    refine g_getf dX11_takes_1 fX11_90 mW_0 rfl ?_
    refine g_if_eq (tgt := 13) dX11_takes_4 rfl (fun c_4 => ?_) (fun c_4 => by exact absurd hb1 c_4)
    refine g_aload_n dX11_takes_13 rfl rfl ?_
    refine g_V0r (CX11_isDone hn h8) kX11_takes_98 dX11_takes_14 mW_0 rfl ⟨rfl, rfl⟩ (Nat.le_of_ble_eq_true rfl) ⟨(Nat.le_of_ble_eq_true rfl), (Nat.le_of_ble_eq_true rfl)⟩ ?_
    refine g_if_eq (tgt := 49) dX11_takes_17 rfl (fun c_17 => ?_) (fun c_17 => ?_)
    · refine g_aload_n dX11_takes_49 rfl rfl ?_
      refine g_iload_n dX11_takes_50 rfl rfl ?_
      refine g_V1r (CX11_fitsSign hn h1 h8) kX11_takes_102 dX11_takes_51 mW_0 rfl ⟨rfl, rfl⟩ (Nat.le_of_ble_eq_true rfl) ⟨(Nat.le_of_ble_eq_true rfl), (Nat.le_of_ble_eq_true rfl)⟩ ?_
      refine g_if_ne (tgt := 59) dX11_takes_54 rfl (fun c_54 => ?_) (fun c_54 => ?_)
      · have hs4 : s < 4 := hs (by rw [← h9]; exact bI_0.mp c_17)
        refine g_aload_n dX11_takes_59 rfl rfl ?_
        refine g_getf dX11_takes_60 fX11_26 mW_0 rfl ?_
        refine g_iconst (v := 4) dX11_takes_63 (by decide) ?_
        refine g_aload_n dX11_takes_64 rfl rfl ?_
        refine g_getf dX11_takes_65 fX11_77 mW_0 rfl ?_
        rw [h8]
        refine g_imul dX11_takes_68 ?_
        refine g_iconst (v := 4) dX11_takes_69 (by decide) ?_
        refine g_isub dX11_takes_70 ?_
        refine g_aload_n dX11_takes_71 rfl rfl ?_
        refine g_getf dX11_takes_72 fX11_84 mW_0 rfl ?_
        rw [h9]
        refine g_iadd dX11_takes_75 ?_
        rw [show 4 * nI n - 4 + nI s = nI (4 * n - 4 + s) by rw [jx4, show nI (4 * n) - 4 = nI (4 * n - 4) from nI_sub (b := 4) (by omega), nI_add]]
        refine g_iload_n dX11_takes_76 rfl rfl ?_
        refine g_S1r CX11_valueOf kX11_takes_80 dX11_takes_77 ⟨rfl, rfl⟩ (Nat.le_of_ble_eq_true rfl) ⟨(Nat.le_of_ble_eq_true rfl), (Nat.le_of_ble_eq_true rfl)⟩ ?_
        refine g_iast dX11_takes_80 mA6 (vin_n (by omega) (by decide)) (mW_arrN (k' := 4 * n - 4 + s) (fun _ => rfl) (nI_clamp (by omega))) ?_
        refine g_aload_n dX11_takes_81 rfl rfl ?_
        refine g_dup dX11_takes_82 rfl ?_
        refine g_getf dX11_takes_83 fX11_84 mW_0 rfl ?_
        refine g_iconst (v := 1) dX11_takes_86 (by decide) ?_
        refine g_iadd dX11_takes_87 ?_
        rw [show put σ 6 (4 * n - 4 + s) (rvl c) 0 9 + 1 = nI (s + 1) by rw [← nI_1 s, ← h9]; rfl]
        refine g_putf dX11_takes_88 pX11_84 mW_0 (Nat.le_of_ble_eq_true rfl) (fun _ => rfl) (fun _ => rfl) (mW_obj rfl) ?_
        refine g_iconst (v := 1) dX11_takes_91 (by decide) ?_
        exact g_zret dX11_takes_92 rfl rfl (by first | decide | exact bI_and) (by rw [mTk, if_pos hb1, if_neg (by rw [← h9]; exact bI_0.mp c_17), if_pos (by rw [← h9]; exact Classical.byContradiction (fun z => c_54 (bI_f z)))]; exact ⟨rfl, rfl⟩)
      · refine g_iconst (v := 0) dX11_takes_57 (by decide) ?_
        exact g_zret dX11_takes_58 rfl rfl (by first | decide | exact bI_and) (by rw [mTk, if_pos hb1, if_neg (by rw [← h9]; exact bI_0.mp c_17), if_neg (by rw [← h9]; exact bI_0.mp c_54)]; exact ⟨rfl, rfl⟩)
    · refine g_aload_n dX11_takes_20 rfl rfl ?_
      refine g_iload_n dX11_takes_21 rfl rfl ?_
      refine g_bipush (v := 59) dX11_takes_22 (by decide) ?_
      refine g_icmp_ne (tgt := 40) dX11_takes_24 rfl (fun c_24 => ?_) (fun c_24 => ?_)
      · refine g_iconst (v := 0) dX11_takes_40 (by decide) ?_
        refine g_putf dX11_takes_41 pX11_90 mW_0 (Nat.le_of_ble_eq_true rfl) (fun _ => rfl) (fun _ => rfl) (mW_obj rfl) ?_
        refine g_aload_n dX11_takes_44 rfl rfl ?_
        refine g_getf dX11_takes_45 fX11_90 mW_0 rfl ?_
        exact g_zret dX11_takes_48 rfl rfl (by first | exact (show (0 : Int32) &&& 1 = 0 by decide) | exact (show (1 : Int32) &&& 1 = 1 by decide)) (by rw [mTk, if_pos hb1, if_pos (by rw [← h9]; exact Classical.byContradiction (fun z => c_17 (bI_f z)))]; first | (rw [if_pos ⟨c_24, Nat.lt_of_not_le (fun z => c_33 (by rw [show n = 8 by omega]; decide))⟩]; exact ⟨rfl, rfl⟩) | (rw [if_neg (fun z => c_24 z.1)]; exact ⟨rfl, rfl⟩) | (rw [if_neg (fun z => absurd c_33 (nI_ge (b := 8) z.2 (by decide)))]; exact ⟨rfl, rfl⟩))
      · refine g_aload_n dX11_takes_27 rfl rfl ?_
        refine g_getf dX11_takes_28 fX11_77 mW_0 rfl ?_
        rw [h8]
        refine g_bipush (v := 8) dX11_takes_31 (by decide) ?_
        refine g_icmp_ge (tgt := 40) dX11_takes_33 rfl (fun c_33 => ?_) (fun c_33 => ?_)
        · refine g_iconst (v := 0) dX11_takes_40 (by decide) ?_
          refine g_putf dX11_takes_41 pX11_90 mW_0 (Nat.le_of_ble_eq_true rfl) (fun _ => rfl) (fun _ => rfl) (mW_obj rfl) ?_
          refine g_aload_n dX11_takes_44 rfl rfl ?_
          refine g_getf dX11_takes_45 fX11_90 mW_0 rfl ?_
          exact g_zret dX11_takes_48 rfl rfl (by first | exact (show (0 : Int32) &&& 1 = 0 by decide) | exact (show (1 : Int32) &&& 1 = 1 by decide)) (by rw [mTk, if_pos hb1, if_pos (by rw [← h9]; exact Classical.byContradiction (fun z => c_17 (bI_f z)))]; first | (rw [if_pos ⟨c_24, Nat.lt_of_not_le (fun z => c_33 (by rw [show n = 8 by omega]; decide))⟩]; exact ⟨rfl, rfl⟩) | (rw [if_neg (fun z => c_24 z.1)]; exact ⟨rfl, rfl⟩) | (rw [if_neg (fun z => absurd c_33 (nI_ge (b := 8) z.2 (by decide)))]; exact ⟨rfl, rfl⟩))
        · refine g_iconst (v := 1) dX11_takes_36 (by decide) ?_
          refine g_goto (tgt := 41) dX11_takes_37 rfl ?_
          refine g_putf dX11_takes_41 pX11_90 mW_0 (Nat.le_of_ble_eq_true rfl) (fun _ => rfl) (fun _ => rfl) (mW_obj rfl) ?_
          refine g_aload_n dX11_takes_44 rfl rfl ?_
          refine g_getf dX11_takes_45 fX11_90 mW_0 rfl ?_
          exact g_zret dX11_takes_48 rfl rfl (by first | exact (show (0 : Int32) &&& 1 = 0 by decide) | exact (show (1 : Int32) &&& 1 = 1 by decide)) (by rw [mTk, if_pos hb1, if_pos (by rw [← h9]; exact Classical.byContradiction (fun z => c_17 (bI_f z)))]; first | (rw [if_pos ⟨c_24, Nat.lt_of_not_le (fun z => c_33 (by rw [show n = 8 by omega]; decide))⟩]; exact ⟨rfl, rfl⟩) | (rw [if_neg (fun z => c_24 z.1)]; exact ⟨rfl, rfl⟩) | (rw [if_neg (fun z => absurd c_33 (nI_ge (b := 8) z.2 (by decide)))]; exact ⟨rfl, rfl⟩))
end
