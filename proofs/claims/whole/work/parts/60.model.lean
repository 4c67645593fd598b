section
variable {σ : Nat → Nat → Int32} {t : Nat → Int64}
theorem mA1 : (mW σ t)[1]? = some (.inl (0, 9, .inl (σ 1))) := mW_at (F := fun f => .inl (0, 9, .inl f)) (by decide) (fun _ => rfl)
theorem mA2 : (mW σ t)[2]? = some (.inl (0, 36, .inl (σ 2))) := mW_at (F := fun f => .inl (0, 36, .inl f)) (by decide) (fun _ => rfl)
theorem mA3 : (mW σ t)[3]? = some (.inl (0, 8, .inl (σ 3))) := mW_at (F := fun f => .inl (0, 8, .inl f)) (by decide) (fun _ => rfl)
theorem mA4 : (mW σ t)[4]? = some (.inl (1, 47, .inl (σ 4))) := mW_at (F := fun f => .inl (1, 47, .inl f)) (by decide) (fun _ => rfl)
theorem mA5 : (mW σ t)[5]? = some (.inl (0, 8, .inl (σ 5))) := mW_at (F := fun f => .inl (0, 8, .inl f)) (by decide) (fun _ => rfl)
theorem mA6 : (mW σ t)[6]? = some (.inl (0, 32, .inl (σ 6))) := mW_at (F := fun f => .inl (0, 32, .inl f)) (by decide) (fun _ => rfl)
theorem mA7 : (mW σ t)[7]? = some (.inl (0, 1608, .inl (σ 7))) := mW_at (F := fun f => .inl (0, 1608, .inl f)) (by decide) (fun _ => rfl)
theorem mA8 : (mW σ t)[8]? = some (.inl (0, 9, .inl (σ 8))) := mW_at (F := fun f => .inl (0, 9, .inl f)) (by decide) (fun _ => rfl)
theorem mA9 : (mW σ t)[9]? = some (.inl (0, 9, .inl (σ 9))) := mW_at (F := fun f => .inl (0, 9, .inl f)) (by decide) (fun _ => rfl)
theorem mA10 : (mW σ t)[10]? = some (.inl (1, 4608, .inl (σ 10))) := mW_at (F := fun f => .inl (1, 4608, .inl f)) (by decide) (fun _ => rfl)
theorem mA11 : (mW σ t)[11]? = some (.inl (0, 100, .inl (σ 11))) := mW_at (F := fun f => .inl (0, 100, .inl f)) (by decide) (fun _ => rfl)
theorem mA12 : (mW σ t)[12]? = some (.inl (0, 272, .inl (σ 12))) := mW_at (F := fun f => .inl (0, 272, .inl f)) (by decide) (fun _ => rfl)
theorem mA13 : (mW σ t)[13]? = some (.inl (0, 17, .inl (σ 13))) := mW_at (F := fun f => .inl (0, 17, .inl f)) (by decide) (fun _ => rfl)
theorem mA14 : (mW σ t)[14]? = some (.inl (2, 1000, .inl (σ 14))) := mW_at (F := fun f => .inl (2, 1000, .inl f)) (by decide) (fun _ => rfl)
theorem mA15 : (mW σ t)[15]? = some (.inl (0, 9, .inl (σ 15))) := mW_at (F := fun f => .inl (0, 9, .inl f)) (by decide) (fun _ => rfl)
theorem mA16 : (mW σ t)[16]? = some (.inl (0, 36, .inl (σ 16))) := mW_at (F := fun f => .inl (0, 36, .inl f)) (by decide) (fun _ => rfl)
theorem mA17 : (mW σ t)[17]? = some (.inl (0, 8, .inl (σ 17))) := mW_at (F := fun f => .inl (0, 8, .inl f)) (by decide) (fun _ => rfl)
theorem mW_arrN {c tg n k k' : Nat} {v : Int32} (hT : ∀ f, mcell t c f = .inl (tg, n, .inl f)) (hk : k = k') : (mW σ t).set c (.inl (tg, n, .inl (upd (σ c) k v))) = mW (put σ c k' v) t := by
  subst hk; exact mW_arr hT
theorem mW_arrB {c tg n k k' : Nat} {v v' : Int32} (hT : ∀ f, mcell t c f = .inl (tg, n, .inl f)) (hk : k = k') (hv : v = v') : (mW σ t).set c (.inl (tg, n, .inl (upd (σ c) k v))) = mW (put σ c k' v') t := by
  subst hk hv; exact mW_arr hT
theorem mIsT {n q : Nat} (hn : n ≤ 8) (hq : q < n) : bI (0 ≤ nI q ∧ nI q ≤ nI n - 1) = 1 := by
  rw [bI, if_pos]
  refine ⟨nI_pos' (by omega), ?_⟩
  rw [show nI n - 1 = nI (n - 1) from nI_sub (b := 1) (by omega)]
  exact nI_le (by omega) (by omega)
theorem mIsF {n : Nat} {r : Int32} (hn : n ≤ 8) (h : ¬ ldH (nI n) r) : bI (0 ≤ r ∧ r ≤ nI n - 1) = 0 := by
  rw [bI, if_neg]
  rintro ⟨h1, h2⟩
  apply h
  have h3 : r < nI n := by
    have : nI n = nI n - 1 + 1 := by grind
    have h8 : nI n ≤ 8 := nI_le (b := 8) hn (by decide)
    have h0 := nI_pos' (n := n) (by omega)
    grind
  have h8 : nI n ≤ 8 := nI_le (b := 8) hn (by decide)
  exact ⟨h1, h3, by grind⟩
theorem ix0 {q : Nat} (hq : q ≤ 8) : vp_in (nI q) 9 ∧ (nI q).toNatClampNeg = q := by
  refine ⟨?_, nI_clamp (by omega)⟩
  rw [vp_in, nI_clamp (by omega)]
  exact fun h => h.elim (nI_pos (by omega)) (fun h => by omega)
theorem vin_n {i n : Nat} (h : i < n) (hn : n < 2 ^ 31) : vp_in (nI i) n := by
  rw [vp_in, nI_clamp (by omega)]
  exact fun h => h.elim (nI_pos (by omega)) (fun h => by omega)
theorem ixE (q k : Nat) : 4 * nI q + nI k = nI (4 * q + k) := by
  rw [show (4 : Int32) = nI 4 from rfl, nI_mul, nI_add]
theorem jx4 (q : Nat) : 4 * nI q = nI (4 * q) := by
  rw [show (4 : Int32) = nI 4 from rfl, nI_mul]
theorem jx41 (q : Nat) : 4 * nI q + 1 = nI (4 * q + 1) := ixE q 1
theorem jx42 (q : Nat) : 4 * nI q + 2 = nI (4 * q + 2) := ixE q 2
theorem jx43 (q : Nat) : 4 * nI q + 3 = nI (4 * q + 3) := ixE q 3
theorem ldHn {n q : Nat} (hn : n ≤ 8) (hq : q < n) : ldH (nI n) (nI q) := ⟨nI_pos' (by omega), nI_lt hq (by omega), nI_lt (b := 8) (by omega) (by decide)⟩
/-- the changes of the reference's state -/
def mChg (σ : Nat → Nat → Int32) : Nat → Nat → Int32 := put (put σ 0 13 0) 0 14 0
def mLay (σ : Nat → Nat → Int32) (q : Nat) (k A B C D : Int32) : Nat → Nat → Int32 := mChg (put (put (put (put (put σ 1 q k) 2 (4 * q) A) 2 (4 * q + 1) B) 2 (4 * q + 2) C) 2 (4 * q + 3) D)
def mAd (σ : Nat → Nat → Int32) (n : Nat) (k A B C D : Int32) : Nat → Nat → Int32 := if n < 8 then put (mLay σ n k A B C D) 0 0 (nI (n + 1)) else σ
end
section
variable {l : Launch} {w : q_Wd}
set_option maxRecDepth 100000 in
set_option maxHeartbeats 4000000 in
theorem CX11_within {v a b : Int32} : Ct l mX11_within [.int v, .int a, .int b] w (q_eq (some (.int (bI (a ≤ v ∧ v ≤ b)))) w) := by
  refine Ct.of rfl (Nat.le_of_ble_eq_true rfl) ?_
  refine g_iload_n dX11_within_0 rfl rfl ?_
  refine g_iload_n dX11_within_1 rfl rfl ?_
  refine g_icmp_lt (tgt := 14) dX11_within_2 rfl (fun c_2 => ?_) (fun c_2 => ?_)
  · refine g_iconst (v := 0) dX11_within_14 (by decide) ?_
    exact g_zret dX11_within_15 rfl rfl (by first | decide | exact bI_and) ⟨by grind [bI], rfl⟩
  · refine g_iload_n dX11_within_5 rfl rfl ?_
    refine g_iload_n dX11_within_6 rfl rfl ?_
    refine g_icmp_gt (tgt := 14) dX11_within_7 rfl (fun c_7 => ?_) (fun c_7 => ?_)
    · refine g_iconst (v := 0) dX11_within_14 (by decide) ?_
      exact g_zret dX11_within_15 rfl rfl (by first | decide | exact bI_and) ⟨by grind [bI], rfl⟩
    · refine g_iconst (v := 1) dX11_within_10 (by decide) ?_
      refine g_goto (tgt := 15) dX11_within_11 rfl ?_
      exact g_zret dX11_within_15 rfl rfl (by first | decide | exact bI_and) ⟨by grind [bI], rfl⟩
set_option maxRecDepth 100000 in
set_option maxHeartbeats 4000000 in
theorem CX11_kindBy {c : Int32} : Ct l mX11_kindBy [.int c] w (q_eq (some (.int (if c = 116 then 0 else if c = 43 then 1 else if c = 42 then 2 else if c = 101 then 3 else if c = 100 then 4 else 2000000001))) w) := by
  refine Ct.of rfl (Nat.le_of_ble_eq_true rfl) ?_
  refine g_iload_n dX11_kindBy_0 rfl rfl ?_
  refine g_case (42) (fun s_1_0 => ?_) (fun s_1_0 => ?_)
  · refine g_lkEq (off := 55) (tgt := 56) dX11_kindBy_1 s_1_0 rfl rfl rfl ?_
    refine g_iconst (v := 2) dX11_kindBy_56 (by decide) ?_
    exact g_iret dX11_kindBy_57 rfl rfl ⟨by grind [bI], rfl⟩
  · refine g_case (43) (fun s_1_1 => ?_) (fun s_1_1 => ?_)
    · refine g_lkEq (off := 53) (tgt := 54) dX11_kindBy_1 s_1_1 rfl rfl rfl ?_
      refine g_iconst (v := 1) dX11_kindBy_54 (by decide) ?_
      exact g_iret dX11_kindBy_55 rfl rfl ⟨by grind [bI], rfl⟩
    · refine g_case (100) (fun s_1_2 => ?_) (fun s_1_2 => ?_)
      · refine g_lkEq (off := 59) (tgt := 60) dX11_kindBy_1 s_1_2 rfl rfl rfl ?_
        refine g_iconst (v := 4) dX11_kindBy_60 (by decide) ?_
        exact g_iret dX11_kindBy_61 rfl rfl ⟨by grind [bI], rfl⟩
      · refine g_case (101) (fun s_1_3 => ?_) (fun s_1_3 => ?_)
        · refine g_lkEq (off := 57) (tgt := 58) dX11_kindBy_1 s_1_3 rfl rfl rfl ?_
          refine g_iconst (v := 3) dX11_kindBy_58 (by decide) ?_
          exact g_iret dX11_kindBy_59 rfl rfl ⟨by grind [bI], rfl⟩
        · refine g_case (116) (fun s_1_4 => ?_) (fun s_1_4 => ?_)
          · refine g_lkEq (off := 51) (tgt := 52) dX11_kindBy_1 s_1_4 rfl rfl rfl ?_
            refine g_iconst (v := 0) dX11_kindBy_52 (by decide) ?_
            exact g_iret dX11_kindBy_53 rfl rfl ⟨by grind [bI], rfl⟩
          · refine g_lookup (off := 61) (tgt := 62) dX11_kindBy_1 rfl (lk_out _ _ _ (by have a0 := ne_toInt (z := 42) rfl s_1_0; have a1 := ne_toInt (z := 43) rfl s_1_1; have a2 := ne_toInt (z := 100) rfl s_1_2; have a3 := ne_toInt (z := 101) rfl s_1_3; have a4 := ne_toInt (z := 116) rfl s_1_4; intro q hq; replace hq : q ∈ ([(42, 55), (43, 53), (100, 59), (101, 57), (116, 51)] : List (Int × Int)) := hq; simp only [List.mem_cons, List.not_mem_nil, or_false] at hq; rcases hq with rfl | rfl | rfl | rfl | rfl <;> (intro e; simp only at e; omega))) rfl ?_
            refine g_ldc dX11_kindBy_62 tb_854 ?_
            exact g_iret dX11_kindBy_64 rfl rfl ⟨by grind [bI], rfl⟩
set_option maxRecDepth 100000 in
set_option maxHeartbeats 4000000 in
theorem CX11_signsOf {k : Int32} : Ct l mX11_signsOf [.int k] w (q_eq (some (.int (nums k))) w) := by
  refine Ct.of rfl (Nat.le_of_ble_eq_true rfl) ?_
  refine g_iload_n dX11_signsOf_0 rfl rfl ?_
  refine g_case (0) (fun s_1_0 => ?_) (fun s_1_0 => ?_)
  · refine g_tblEq (off := 35) (tgt := 36) dX11_signsOf_1 s_1_0 (by decide) (by decide) rfl rfl ?_
    refine g_iconst (v := 4) dX11_signsOf_36 (by decide) ?_
    exact g_iret dX11_signsOf_37 rfl rfl ⟨by grind [nums], rfl⟩
  · refine g_case (1) (fun s_1_1 => ?_) (fun s_1_1 => ?_)
    · refine g_tblEq (off := 41) (tgt := 42) dX11_signsOf_1 s_1_1 (by decide) (by decide) rfl rfl ?_
      refine g_iconst (v := 2) dX11_signsOf_42 (by decide) ?_
      exact g_iret dX11_signsOf_43 rfl rfl ⟨by grind [nums], rfl⟩
    · refine g_case (2) (fun s_1_2 => ?_) (fun s_1_2 => ?_)
      · refine g_tblEq (off := 41) (tgt := 42) dX11_signsOf_1 s_1_2 (by decide) (by decide) rfl rfl ?_
        refine g_iconst (v := 2) dX11_signsOf_42 (by decide) ?_
        exact g_iret dX11_signsOf_43 rfl rfl ⟨by grind [nums], rfl⟩
      · refine g_case (3) (fun s_1_3 => ?_) (fun s_1_3 => ?_)
        · refine g_tblEq (off := 37) (tgt := 38) dX11_signsOf_1 s_1_3 (by decide) (by decide) rfl rfl ?_
          refine g_iconst (v := 3) dX11_signsOf_38 (by decide) ?_
          exact g_iret dX11_signsOf_39 rfl rfl ⟨by grind [nums], rfl⟩
        · refine g_case (4) (fun s_1_4 => ?_) (fun s_1_4 => ?_)
          · refine g_tblEq (off := 39) (tgt := 40) dX11_signsOf_1 s_1_4 (by decide) (by decide) rfl rfl ?_
            refine g_iconst (v := 1) dX11_signsOf_40 (by decide) ?_
            exact g_iret dX11_signsOf_41 rfl rfl ⟨by grind [nums], rfl⟩
          · refine g_tableOut (tgt := 42) dX11_signsOf_1 (by have a0 := ne_toInt (z := 0) rfl s_1_0; have a1 := ne_toInt (z := 1) rfl s_1_1; have a2 := ne_toInt (z := 2) rfl s_1_2; have a3 := ne_toInt (z := 3) rfl s_1_3; have a4 := ne_toInt (z := 4) rfl s_1_4; omega) rfl ?_
            refine g_iconst (v := 2) dX11_signsOf_42 (by decide) ?_
            exact g_iret dX11_signsOf_43 rfl rfl ⟨by grind [nums], rfl⟩
set_option maxRecDepth 100000 in
set_option maxHeartbeats 4000000 in
theorem CX11_valueOf {c : Int32} : Ct l mX11_valueOf [.int c] w (q_eq (some (.int (rvl c))) w) := by
  refine Ct.of rfl (Nat.le_of_ble_eq_true rfl) ?_
  refine g_iload_n dX11_valueOf_0 rfl rfl ?_
  refine g_bipush (v := 48) dX11_valueOf_1 (by decide) ?_
  refine g_bipush (v := 57) dX11_valueOf_3 (by decide) ?_
  refine g_S3r CX11_within kX11_valueOf_68 dX11_valueOf_5 ⟨rfl, rfl⟩ (Nat.le_of_ble_eq_true rfl) ⟨(Nat.le_of_ble_eq_true rfl), (Nat.le_of_ble_eq_true rfl)⟩ ?_
  refine g_if_eq (tgt := 18) dX11_valueOf_8 rfl (fun c_8 => ?_) (fun c_8 => ?_)
  · refine g_iload_n dX11_valueOf_18 rfl rfl ?_
    refine g_bipush (v := 97) dX11_valueOf_19 (by decide) ?_
    refine g_bipush (v := 105) dX11_valueOf_21 (by decide) ?_
    refine g_S3r CX11_within kX11_valueOf_68 dX11_valueOf_23 ⟨rfl, rfl⟩ (Nat.le_of_ble_eq_true rfl) ⟨(Nat.le_of_ble_eq_true rfl), (Nat.le_of_ble_eq_true rfl)⟩ ?_
    refine g_if_eq (tgt := 36) dX11_valueOf_26 rfl (fun c_26 => ?_) (fun c_26 => ?_)
    · refine g_ldc dX11_valueOf_36 tb_854 ?_
      exact g_iret dX11_valueOf_38 rfl rfl ⟨by grind [bI, rvl], rfl⟩
    · refine g_bipush (v := 96) dX11_valueOf_29 (by decide) ?_
      refine g_iload_n dX11_valueOf_31 rfl rfl ?_
      refine g_isub dX11_valueOf_32 ?_
      refine g_goto (tgt := 38) dX11_valueOf_33 rfl ?_
      exact g_iret dX11_valueOf_38 rfl rfl ⟨by grind [bI, rvl], rfl⟩
  · refine g_iload_n dX11_valueOf_11 rfl rfl ?_
    refine g_bipush (v := 48) dX11_valueOf_12 (by decide) ?_
    refine g_isub dX11_valueOf_14 ?_
    refine g_goto (tgt := 38) dX11_valueOf_15 rfl ?_
    exact g_iret dX11_valueOf_38 rfl rfl ⟨by grind [bI, rvl], rfl⟩
set_option maxRecDepth 100000 in
set_option maxHeartbeats 4000000 in
theorem CX11_isSuch {k a : Int32} : Ct l mX11_isSuch [.int k, .int a] w (q_eq (some (.int (bI (if a = 5 then k = 1 ∨ k = 2 else if a = 6 then k = 3 ∨ k = 4 else k = a)))) w) := by
  refine Ct.of rfl (Nat.le_of_ble_eq_true rfl) ?_
  refine g_iload_n dX11_isSuch_0 rfl rfl ?_
  refine g_iconst (v := 5) dX11_isSuch_1 (by decide) ?_
  refine g_icmp_ne (tgt := 23) dX11_isSuch_2 rfl (fun c_2 => ?_) (fun c_2 => ?_)
  · refine g_iload_n dX11_isSuch_23 rfl rfl ?_
    refine g_bipush (v := 6) dX11_isSuch_24 (by decide) ?_
    refine g_icmp_ne (tgt := 47) dX11_isSuch_26 rfl (fun c_26 => ?_) (fun c_26 => ?_)
    · refine g_iload_n dX11_isSuch_47 rfl rfl ?_
      refine g_iload_n dX11_isSuch_48 rfl rfl ?_
      refine g_icmp_ne (tgt := 56) dX11_isSuch_49 rfl (fun c_49 => ?_) (fun c_49 => ?_)
      · refine g_iconst (v := 0) dX11_isSuch_56 (by decide) ?_
        exact g_zret dX11_isSuch_57 rfl rfl (by first | decide | exact bI_and) ⟨by grind [bI], rfl⟩
      · refine g_iconst (v := 1) dX11_isSuch_52 (by decide) ?_
        refine g_goto (tgt := 57) dX11_isSuch_53 rfl ?_
        exact g_zret dX11_isSuch_57 rfl rfl (by first | decide | exact bI_and) ⟨by grind [bI], rfl⟩
    · refine g_iload_n dX11_isSuch_29 rfl rfl ?_
      refine g_iconst (v := 3) dX11_isSuch_30 (by decide) ?_
      refine g_icmp_eq (tgt := 39) dX11_isSuch_31 rfl (fun c_31 => ?_) (fun c_31 => ?_)
      · refine g_iconst (v := 1) dX11_isSuch_39 (by decide) ?_
        refine g_goto (tgt := 57) dX11_isSuch_40 rfl ?_
        exact g_zret dX11_isSuch_57 rfl rfl (by first | decide | exact bI_and) ⟨by grind [bI], rfl⟩
      · refine g_iload_n dX11_isSuch_34 rfl rfl ?_
        refine g_iconst (v := 4) dX11_isSuch_35 (by decide) ?_
        refine g_icmp_ne (tgt := 43) dX11_isSuch_36 rfl (fun c_36 => ?_) (fun c_36 => ?_)
        · refine g_iconst (v := 0) dX11_isSuch_43 (by decide) ?_
          refine g_goto (tgt := 57) dX11_isSuch_44 rfl ?_
          exact g_zret dX11_isSuch_57 rfl rfl (by first | decide | exact bI_and) ⟨by grind [bI], rfl⟩
        · refine g_iconst (v := 1) dX11_isSuch_39 (by decide) ?_
          refine g_goto (tgt := 57) dX11_isSuch_40 rfl ?_
          exact g_zret dX11_isSuch_57 rfl rfl (by first | decide | exact bI_and) ⟨by grind [bI], rfl⟩
  · refine g_iload_n dX11_isSuch_5 rfl rfl ?_
    refine g_iconst (v := 1) dX11_isSuch_6 (by decide) ?_
    refine g_icmp_eq (tgt := 15) dX11_isSuch_7 rfl (fun c_7 => ?_) (fun c_7 => ?_)
    · refine g_iconst (v := 1) dX11_isSuch_15 (by decide) ?_
      refine g_goto (tgt := 57) dX11_isSuch_16 rfl ?_
      exact g_zret dX11_isSuch_57 rfl rfl (by first | decide | exact bI_and) ⟨by grind [bI], rfl⟩
    · refine g_iload_n dX11_isSuch_10 rfl rfl ?_
      refine g_iconst (v := 2) dX11_isSuch_11 (by decide) ?_
      refine g_icmp_ne (tgt := 19) dX11_isSuch_12 rfl (fun c_12 => ?_) (fun c_12 => ?_)
      · refine g_iconst (v := 0) dX11_isSuch_19 (by decide) ?_
        refine g_goto (tgt := 57) dX11_isSuch_20 rfl ?_
        exact g_zret dX11_isSuch_57 rfl rfl (by first | decide | exact bI_and) ⟨by grind [bI], rfl⟩
      · refine g_iconst (v := 1) dX11_isSuch_15 (by decide) ?_
        refine g_goto (tgt := 57) dX11_isSuch_16 rfl ?_
        exact g_zret dX11_isSuch_57 rfl rfl (by first | decide | exact bI_and) ⟨by grind [bI], rfl⟩
set_option maxRecDepth 100000 in
set_option maxHeartbeats 4000000 in
theorem CX11_isPrime {p : Int32} : Ct l mX11_isPrime [.int p] w (q_eq (some (.int (bI (p = 2 ∨ p = 3 ∨ p = 5 ∨ p = 7)))) w) := by
  refine Ct.of rfl (Nat.le_of_ble_eq_true rfl) ?_
  refine g_iload_n dX11_isPrime_0 rfl rfl ?_
  refine g_iconst (v := 2) dX11_isPrime_1 (by decide) ?_
  refine g_icmp_eq (tgt := 21) dX11_isPrime_2 rfl (fun c_2 => ?_) (fun c_2 => ?_)
  · refine g_iconst (v := 1) dX11_isPrime_21 (by decide) ?_
    refine g_goto (tgt := 26) dX11_isPrime_22 rfl ?_
    exact g_zret dX11_isPrime_26 rfl rfl (by first | decide | exact bI_and) ⟨by grind [bI], rfl⟩
  · refine g_iload_n dX11_isPrime_5 rfl rfl ?_
    refine g_iconst (v := 3) dX11_isPrime_6 (by decide) ?_
    refine g_icmp_eq (tgt := 21) dX11_isPrime_7 rfl (fun c_7 => ?_) (fun c_7 => ?_)
    · refine g_iconst (v := 1) dX11_isPrime_21 (by decide) ?_
      refine g_goto (tgt := 26) dX11_isPrime_22 rfl ?_
      exact g_zret dX11_isPrime_26 rfl rfl (by first | decide | exact bI_and) ⟨by grind [bI], rfl⟩
    · refine g_iload_n dX11_isPrime_10 rfl rfl ?_
      refine g_iconst (v := 5) dX11_isPrime_11 (by decide) ?_
      refine g_icmp_eq (tgt := 21) dX11_isPrime_12 rfl (fun c_12 => ?_) (fun c_12 => ?_)
      · refine g_iconst (v := 1) dX11_isPrime_21 (by decide) ?_
        refine g_goto (tgt := 26) dX11_isPrime_22 rfl ?_
        exact g_zret dX11_isPrime_26 rfl rfl (by first | decide | exact bI_and) ⟨by grind [bI], rfl⟩
      · refine g_iload_n dX11_isPrime_15 rfl rfl ?_
        refine g_bipush (v := 7) dX11_isPrime_16 (by decide) ?_
        refine g_icmp_ne (tgt := 25) dX11_isPrime_18 rfl (fun c_18 => ?_) (fun c_18 => ?_)
        · refine g_iconst (v := 0) dX11_isPrime_25 (by decide) ?_
          exact g_zret dX11_isPrime_26 rfl rfl (by first | decide | exact bI_and) ⟨by grind [bI], rfl⟩
        · refine g_iconst (v := 1) dX11_isPrime_21 (by decide) ?_
          refine g_goto (tgt := 26) dX11_isPrime_22 rfl ?_
          exact g_zret dX11_isPrime_26 rfl rfl (by first | decide | exact bI_and) ⟨by grind [bI], rfl⟩
set_option maxRecDepth 100000 in
set_option maxHeartbeats 4000000 in
theorem CX11_spread {c d : Int32} : Ct l mX11_spread [.int c, .int d] w (q_eq (some (.int (c * c + 4 * d))) w) := by
  refine Ct.of rfl (Nat.le_of_ble_eq_true rfl) ?_
  refine g_iload_n dX11_spread_0 rfl rfl ?_
  refine g_iload_n dX11_spread_1 rfl rfl ?_
  refine g_imul dX11_spread_2 ?_
  refine g_iconst (v := 4) dX11_spread_3 (by decide) ?_
  refine g_iload_n dX11_spread_4 rfl rfl ?_
  refine g_imul dX11_spread_5 ?_
  refine g_iadd dX11_spread_6 ?_
  exact g_iret dX11_spread_7 rfl rfl ⟨rfl, rfl⟩
set_option maxRecDepth 100000 in
set_option maxHeartbeats 4000000 in
theorem CX11_isFew {v : Int32} : Ct l mX11_isFew [.int v] w (q_eq (some (.int (bI (-9 ≤ v ∧ v ≤ 9)))) w) := by
  refine Ct.of rfl (Nat.le_of_ble_eq_true rfl) ?_
  refine g_iload_n dX11_isFew_0 rfl rfl ?_
  refine g_bipush (v := -9) dX11_isFew_1 (by decide) ?_
  refine g_bipush (v := 9) dX11_isFew_3 (by decide) ?_
  refine g_S3r CX11_within kX11_isFew_68 dX11_isFew_5 ⟨rfl, rfl⟩ (Nat.le_of_ble_eq_true rfl) ⟨(Nat.le_of_ble_eq_true rfl), (Nat.le_of_ble_eq_true rfl)⟩ ?_
  exact g_zret dX11_isFew_8 rfl rfl (by first | decide | exact bI_and) ⟨rfl, rfl⟩
set_option maxRecDepth 100000 in
set_option maxHeartbeats 4000000 in
theorem CX11_isMany {v : Int32} : Ct l mX11_isMany [.int v] w (q_eq (some (.int (bI (-999 ≤ v ∧ v ≤ 999)))) w) := by
  refine Ct.of rfl (Nat.le_of_ble_eq_true rfl) ?_
  refine g_iload_n dX11_isMany_0 rfl rfl ?_
  refine g_sipush (v := -999) dX11_isMany_1 (by decide) ?_
  refine g_sipush (v := 999) dX11_isMany_4 (by decide) ?_
  refine g_S3r CX11_within kX11_isMany_68 dX11_isMany_7 ⟨rfl, rfl⟩ (Nat.le_of_ble_eq_true rfl) ⟨(Nat.le_of_ble_eq_true rfl), (Nat.le_of_ble_eq_true rfl)⟩ ?_
  exact g_zret dX11_isMany_10 rfl rfl (by first | decide | exact bI_and) ⟨rfl, rfl⟩
set_option maxRecDepth 100000 in
set_option maxHeartbeats 4000000 in
theorem CX11_mod {v m : Int32} (hm : ¬ m = 0) : Ct l mX11_mod [.int v, .int m] w (q_eq (some (.int (jrem (jrem v m + m) m))) w) := by
  refine Ct.of rfl (Nat.le_of_ble_eq_true rfl) ?_
  refine g_iload_n dX11_mod_0 rfl rfl ?_
  refine g_iload_n dX11_mod_1 rfl rfl ?_
  refine g_irem dX11_mod_2 hm ?_
  refine g_iload_n dX11_mod_3 rfl rfl ?_
  refine g_iadd dX11_mod_4 ?_
  refine g_iload_n dX11_mod_5 rfl rfl ?_
  refine g_irem dX11_mod_6 hm ?_
  exact g_iret dX11_mod_7 rfl rfl ⟨rfl, rfl⟩
end
section
variable {l : Launch} {σ : Nat → Nat → Int32} {t : Nat → Int64} {n : Nat}
set_option maxRecDepth 100000 in
set_option maxHeartbeats 4000000 in
theorem CX11_isRow {r : Int32} (h0 : σ 0 0 = nI n) : Ct l mX11_isRow [.ref 0, .int r] (mW σ t) (q_eq (some (.int (bI (0 ≤ r ∧ r ≤ nI n - 1)))) (mW σ t)) := by
  refine Ct.of rfl (Nat.le_of_ble_eq_true rfl) ?_
  refine g_iload_n dX11_isRow_0 rfl rfl ?_
  refine g_iconst (v := 0) dX11_isRow_1 (by decide) ?_
  refine g_aload_n dX11_isRow_2 rfl rfl ?_
  refine g_getf dX11_isRow_3 fX11_116 mW_0 rfl ?_
  refine g_iconst (v := 1) dX11_isRow_6 (by decide) ?_
  refine g_isub dX11_isRow_7 ?_
  refine g_S3r CX11_within kX11_isRow_68 dX11_isRow_8 ⟨rfl, rfl⟩ (Nat.le_of_ble_eq_true rfl) ⟨(Nat.le_of_ble_eq_true rfl), (Nat.le_of_ble_eq_true rfl)⟩ ?_
  exact g_zret dX11_isRow_11 rfl rfl (by first | decide | exact bI_and) ⟨by rw [h0], rfl⟩
set_option maxRecDepth 100000 in
set_option maxHeartbeats 4000000 in
theorem CX11_isTold {q : Nat} (hq : q ≤ 8) : Ct l mX11_isTold [.ref 0, .int (nI q)] (mW σ t) (q_eq (some (.int (bI (σ 1 q = 0)))) (mW σ t)) := by
  refine Ct.of rfl (Nat.le_of_ble_eq_true rfl) ?_
  refine g_aload_n dX11_isTold_0 rfl rfl ?_
  refine g_getf dX11_isTold_1 fX11_7 mW_0 rfl ?_
  refine g_iload_n dX11_isTold_4 rfl rfl ?_
  refine g_iald dX11_isTold_5 mA1 (ix0 hq).1 ?_
  rw [(ix0 hq).2]
  refine g_if_ne (tgt := 13) dX11_isTold_6 rfl (fun c_6 => ?_) (fun c_6 => ?_)
  · refine g_iconst (v := 0) dX11_isTold_13 (by decide) ?_
    exact g_zret dX11_isTold_14 rfl rfl (by first | decide | exact bI_and) ⟨by grind [bI], rfl⟩
  · refine g_iconst (v := 1) dX11_isTold_9 (by decide) ?_
    refine g_goto (tgt := 14) dX11_isTold_10 rfl ?_
    exact g_zret dX11_isTold_14 rfl rfl (by first | decide | exact bI_and) ⟨by grind [bI], rfl⟩
set_option maxRecDepth 100000 in
set_option maxHeartbeats 4000000 in
theorem CX11_changes : Ct l mX11_changes [.ref 0] (mW σ t) (q_eq none (mW (mChg σ) t)) := by
  refine Ct.of rfl (Nat.le_of_ble_eq_true rfl) ?_
  refine g_aload_n dX11_changes_0 rfl rfl ?_
  refine g_iconst (v := 0) dX11_changes_1 (by decide) ?_
  refine g_putf dX11_changes_2 pX11_125 mW_0 (Nat.le_of_ble_eq_true rfl) (fun _ => rfl) (fun _ => rfl) (mW_obj rfl) ?_
  refine g_aload_n dX11_changes_5 rfl rfl ?_
  refine g_iconst (v := 0) dX11_changes_6 (by decide) ?_
  refine g_putf dX11_changes_7 pX11_128 mW_0 (Nat.le_of_ble_eq_true rfl) (fun _ => rfl) (fun _ => rfl) (mW_obj rfl) ?_
  exact g_vret dX11_changes_10 rfl rfl ⟨rfl, rfl⟩
set_option maxRecDepth 100000 in
set_option maxHeartbeats 4000000 in
theorem CX11_lay {q : Nat} {k A B C D : Int32} (hq : q ≤ 8) : Ct l mX11_lay [.ref 0, .int (nI q), .int k, .int A, .int B, .int C, .int D] (mW σ t) (q_eq none (mW (mLay σ q k A B C D) t)) := by
  refine Ct.of rfl (Nat.le_of_ble_eq_true rfl) ?_
  refine g_aload_n dX11_lay_0 rfl rfl ?_
  refine g_getf dX11_lay_1 fX11_7 mW_0 rfl ?_
  refine g_iload_n dX11_lay_4 rfl rfl ?_
  refine g_iload_n dX11_lay_5 rfl rfl ?_
  refine g_iast dX11_lay_6 mA1 (vin_n (by omega) (by decide)) (mW_arrN (k' := q) (fun _ => rfl) (nI_clamp (by omega))) ?_
  refine g_aload_n dX11_lay_7 rfl rfl ?_
  refine g_getf dX11_lay_8 fX11_13 mW_0 rfl ?_
  refine g_iconst (v := 4) dX11_lay_11 (by decide) ?_
  refine g_iload_n dX11_lay_12 rfl rfl ?_
  refine g_imul dX11_lay_13 ?_
  rw [jx4]
  refine g_iload_n dX11_lay_14 rfl rfl ?_
  refine g_iast dX11_lay_15 mA2 (vin_n (by omega) (by decide)) (mW_arrN (k' := 4 * q) (fun _ => rfl) (nI_clamp (by omega))) ?_
  refine g_aload_n dX11_lay_16 rfl rfl ?_
  refine g_getf dX11_lay_17 fX11_13 mW_0 rfl ?_
  refine g_iconst (v := 4) dX11_lay_20 (by decide) ?_
  refine g_iload_n dX11_lay_21 rfl rfl ?_
  refine g_imul dX11_lay_22 ?_
  refine g_iconst (v := 1) dX11_lay_23 (by decide) ?_
  refine g_iadd dX11_lay_24 ?_
  rw [jx41]
  refine g_iload dX11_lay_25 rfl ?_
  refine g_iast dX11_lay_27 mA2 (vin_n (by omega) (by decide)) (mW_arrN (k' := 4 * q + 1) (fun _ => rfl) (nI_clamp (by omega))) ?_
  refine g_aload_n dX11_lay_28 rfl rfl ?_
  refine g_getf dX11_lay_29 fX11_13 mW_0 rfl ?_
  refine g_iconst (v := 4) dX11_lay_32 (by decide) ?_
  refine g_iload_n dX11_lay_33 rfl rfl ?_
  refine g_imul dX11_lay_34 ?_
  refine g_iconst (v := 2) dX11_lay_35 (by decide) ?_
  refine g_iadd dX11_lay_36 ?_
  rw [jx42]
  refine g_iload dX11_lay_37 rfl ?_
  refine g_iast dX11_lay_39 mA2 (vin_n (by omega) (by decide)) (mW_arrN (k' := 4 * q + 2) (fun _ => rfl) (nI_clamp (by omega))) ?_
  refine g_aload_n dX11_lay_40 rfl rfl ?_
  refine g_getf dX11_lay_41 fX11_13 mW_0 rfl ?_
  refine g_iconst (v := 4) dX11_lay_44 (by decide) ?_
  refine g_iload_n dX11_lay_45 rfl rfl ?_
  refine g_imul dX11_lay_46 ?_
  refine g_iconst (v := 3) dX11_lay_47 (by decide) ?_
  refine g_iadd dX11_lay_48 ?_
  rw [jx43]
  refine g_iload dX11_lay_49 rfl ?_
  refine g_iast dX11_lay_51 mA2 (vin_n (by omega) (by decide)) (mW_arrN (k' := 4 * q + 3) (fun _ => rfl) (nI_clamp (by omega))) ?_
  refine g_aload_n dX11_lay_52 rfl rfl ?_
  refine g_V0v CX11_changes kX11_lay_122 dX11_lay_53 mW_0 rfl ⟨rfl, rfl⟩ (Nat.le_of_ble_eq_true rfl) ⟨(Nat.le_of_ble_eq_true rfl), (Nat.le_of_ble_eq_true rfl)⟩ ?_
  exact g_vret dX11_lay_56 rfl rfl ⟨rfl, rfl⟩
set_option maxRecDepth 100000 in
set_option maxHeartbeats 4000000 in
theorem CX11_comes {k A B C D : Int32} (hn : n ≤ 8) (h0 : σ 0 0 = nI n) : Ct l mX11_comes [.ref 0, .int k, .int A, .int B, .int C, .int D] (mW σ t) (q_eq (some (.int (adR n))) (mW (mAd σ n k A B C D) t)) := by
  refine Ct.of rfl (Nat.le_of_ble_eq_true rfl) ?_
  rcases Nat.lt_or_ge n 8 with q | q
  · refine g_aload_n dX11_comes_0 rfl rfl ?_
    refine g_getf dX11_comes_1 fX11_116 mW_0 rfl ?_
    refine g_bipush (v := 8) dX11_comes_4 (by decide) ?_
    refine g_icmp_ne (tgt := 12) dX11_comes_6 rfl (fun c_6 => ?_) (fun c_6 => by exact absurd (nI_lt (b := 8) q (by decide)) (by rw [← h0, c_6]; decide))
    refine g_aload_n dX11_comes_12 rfl rfl ?_
    refine g_aload_n dX11_comes_13 rfl rfl ?_
    refine g_getf dX11_comes_14 fX11_116 mW_0 rfl ?_
    rw [h0]
    refine g_iload_n dX11_comes_17 rfl rfl ?_
    refine g_iload_n dX11_comes_18 rfl rfl ?_
    refine g_iload_n dX11_comes_19 rfl rfl ?_
    refine g_iload dX11_comes_20 rfl ?_
    refine g_iload dX11_comes_22 rfl ?_
    refine g_V6v (CX11_lay (q := n) hn) kX11_comes_290 dX11_comes_24 mW_0 rfl ⟨rfl, rfl⟩ (Nat.le_of_ble_eq_true rfl) ⟨(Nat.le_of_ble_eq_true rfl), (Nat.le_of_ble_eq_true rfl)⟩ ?_
    refine g_aload_n dX11_comes_27 rfl rfl ?_
    refine g_dup dX11_comes_28 rfl ?_
    refine g_getf dX11_comes_29 fX11_116 mW_0 rfl ?_
    refine g_iconst (v := 1) dX11_comes_32 (by decide) ?_
    refine g_iadd dX11_comes_33 ?_
    refine g_putf dX11_comes_34 pX11_116 mW_0 (Nat.le_of_ble_eq_true rfl) (fun _ => rfl) (fun _ => rfl) (mW_obj rfl) ?_
    refine g_aload_n dX11_comes_37 rfl rfl ?_
    refine g_getf dX11_comes_38 fX11_116 mW_0 rfl ?_
    refine g_iconst (v := 1) dX11_comes_41 (by decide) ?_
    refine g_isub dX11_comes_42 ?_
    exact g_iret dX11_comes_43 rfl rfl ⟨by rw [adR, if_pos q]; show some (Value.int (σ 0 0 + 1 - 1)) = _; rw [h0, show nI n + 1 - 1 = nI n by grind], by rw [mAd, if_pos q, ← nI_1 n, ← h0]; rfl⟩
  · refine g_aload_n dX11_comes_0 rfl rfl ?_
    refine g_getf dX11_comes_1 fX11_116 mW_0 rfl ?_
    refine g_bipush (v := 8) dX11_comes_4 (by decide) ?_
    refine g_icmp_ne (tgt := 12) dX11_comes_6 rfl (fun c_6 => by exact absurd (by rw [h0, show n = 8 by omega]; rfl) c_6) (fun c_6 => ?_)
    refine g_ldc dX11_comes_9 tb_965 ?_
    exact g_iret dX11_comes_11 rfl rfl ⟨by rw [adR, if_neg (by omega)], by rw [mAd, if_neg (by omega)]⟩
set_option maxRecDepth 100000 in
set_option maxHeartbeats 4000000 in
theorem CX11_told {c d e f : Int32} (hn : n ≤ 8) (h0 : σ 0 0 = nI n) : Ct l mX11_told [.ref 0, .int c, .int d, .int e, .int f] (mW σ t) (q_eq (some (.int (if tellP c d e f then adR n else 2000000102))) (mW (if tellP c d e f then mAd σ n 0 c d e f else σ) t)) := by
  refine Ct.of rfl (Nat.le_of_ble_eq_true rfl) ?_
  refine g_iload_n dX11_told_0 rfl rfl ?_
  refine g_S1r CX11_isFew kX11_told_294 dX11_told_1 ⟨rfl, rfl⟩ (Nat.le_of_ble_eq_true rfl) ⟨(Nat.le_of_ble_eq_true rfl), (Nat.le_of_ble_eq_true rfl)⟩ ?_
  refine g_if_eq (tgt := 42) dX11_told_4 rfl (fun c_4 => ?_) (fun c_4 => ?_)
  · refine g_ldc dX11_told_42 tb_964 ?_
    exact g_iret dX11_told_44 rfl rfl ⟨by grind [bI], by grind [bI]⟩
  · refine g_iload_n dX11_told_7 rfl rfl ?_
    refine g_S1r CX11_isFew kX11_told_294 dX11_told_8 ⟨rfl, rfl⟩ (Nat.le_of_ble_eq_true rfl) ⟨(Nat.le_of_ble_eq_true rfl), (Nat.le_of_ble_eq_true rfl)⟩ ?_
    refine g_if_eq (tgt := 42) dX11_told_11 rfl (fun c_11 => ?_) (fun c_11 => ?_)
    · refine g_ldc dX11_told_42 tb_964 ?_
      exact g_iret dX11_told_44 rfl rfl ⟨by grind [bI], by grind [bI]⟩
    · refine g_iload_n dX11_told_14 rfl rfl ?_
      refine g_S1r CX11_isMany kX11_told_297 dX11_told_15 ⟨rfl, rfl⟩ (Nat.le_of_ble_eq_true rfl) ⟨(Nat.le_of_ble_eq_true rfl), (Nat.le_of_ble_eq_true rfl)⟩ ?_
      refine g_if_eq (tgt := 42) dX11_told_18 rfl (fun c_18 => ?_) (fun c_18 => ?_)
      · refine g_ldc dX11_told_42 tb_964 ?_
        exact g_iret dX11_told_44 rfl rfl ⟨by grind [bI], by grind [bI]⟩
      · refine g_iload dX11_told_21 rfl ?_
        refine g_S1r CX11_isMany kX11_told_297 dX11_told_23 ⟨rfl, rfl⟩ (Nat.le_of_ble_eq_true rfl) ⟨(Nat.le_of_ble_eq_true rfl), (Nat.le_of_ble_eq_true rfl)⟩ ?_
        refine g_if_eq (tgt := 42) dX11_told_26 rfl (fun c_26 => ?_) (fun c_26 => ?_)
        · refine g_ldc dX11_told_42 tb_964 ?_
          exact g_iret dX11_told_44 rfl rfl ⟨by grind [bI], by grind [bI]⟩
        · refine g_aload_n dX11_told_29 rfl rfl ?_
          refine g_iconst (v := 0) dX11_told_30 (by decide) ?_
          refine g_iload_n dX11_told_31 rfl rfl ?_
          refine g_iload_n dX11_told_32 rfl rfl ?_
          refine g_iload_n dX11_told_33 rfl rfl ?_
          refine g_iload dX11_told_34 rfl ?_
          refine g_V5r (CX11_comes hn h0) kX11_told_300 dX11_told_36 mW_0 rfl ⟨rfl, rfl⟩ (Nat.le_of_ble_eq_true rfl) ⟨(Nat.le_of_ble_eq_true rfl), (Nat.le_of_ble_eq_true rfl)⟩ ?_
          refine g_goto (tgt := 44) dX11_told_39 rfl ?_
          exact g_iret dX11_told_44 rfl rfl ⟨by grind [bI], by grind [bI]⟩
theorem rowIx {q : Nat} {k : Int32} (hq : q ≤ 8) (hk : 0 ≤ k ∧ k ≤ 4) (h : ¬ k = 0) : vp_in (4 * nI q + k - 1) 36 ∧ (4 * nI q + k - 1).toNatClampNeg = 4 * q + k.toNatClampNeg - 1 := by
  have e : k = 1 ∨ k = 2 ∨ k = 3 ∨ k = 4 := by grind
  rcases e with e | e | e | e <;> subst e
  · rw [show 4 * nI q + 1 - 1 = nI (4 * q) by rw [← jx4]; grind, nI_clamp (by omega)]; exact ⟨vin_n (by omega) (by decide), rfl⟩
  · rw [show 4 * nI q + 2 - 1 = nI (4 * q + 1) by rw [← jx41]; grind, nI_clamp (by omega)]; exact ⟨vin_n (by omega) (by decide), rfl⟩
  · rw [show 4 * nI q + 3 - 1 = nI (4 * q + 2) by rw [← jx42]; grind, nI_clamp (by omega)]; exact ⟨vin_n (by omega) (by decide), rfl⟩
  · rw [show 4 * nI q + 4 - 1 = nI (4 * q + 3) by rw [← jx43]; grind, nI_clamp (by omega)]; exact ⟨vin_n (by omega) (by decide), rfl⟩
set_option maxRecDepth 100000 in
set_option maxHeartbeats 4000000 in
theorem CX11_row_no {r : Int32} {k : Int32} (hn : n ≤ 8) (h0 : σ 0 0 = nI n) (hr : ¬ ldH (nI n) r) : Ct l mX11_row [.ref 0, .int r, .int k] (mW σ t) (q_eq (some (.int 2000000101)) (mW σ t)) := by
  refine Ct.of rfl (Nat.le_of_ble_eq_true rfl) ?_
  refine g_aload_n dX11_row_0 rfl rfl ?_
  refine g_iload_n dX11_row_1 rfl rfl ?_
  refine g_V1r (CX11_isRow h0) kX11_row_193 dX11_row_2 mW_0 rfl ⟨rfl, rfl⟩ (Nat.le_of_ble_eq_true rfl) ⟨(Nat.le_of_ble_eq_true rfl), (Nat.le_of_ble_eq_true rfl)⟩ ?_
  rw [mIsF hn hr]
  refine g_if_ne (tgt := 11) dX11_row_5 rfl (fun c_5 => by exfalso; revert c_5; decide) (fun c_5 => ?_)
  refine g_ldc dX11_row_8 tb_1020 ?_
  exact g_iret dX11_row_10 rfl rfl ⟨rfl, rfl⟩
set_option maxRecDepth 100000 in
set_option maxHeartbeats 4000000 in
theorem CX11_row {q : Nat} (hq : q < n) {k : Int32} (hn : n ≤ 8) (h0 : σ 0 0 = nI n) : Ct l mX11_row [.ref 0, .int (nI q), .int k] (mW σ t) (q_eq (some (.int (if 0 ≤ k ∧ k ≤ 4 then (if k = 0 then σ 1 q else σ 2 (4 * q + k.toNatClampNeg - 1)) else 2000000102))) (mW σ t)) := by
  refine Ct.of rfl (Nat.le_of_ble_eq_true rfl) ?_
  refine g_aload_n dX11_row_0 rfl rfl ?_
  refine g_iload_n dX11_row_1 rfl rfl ?_
  refine g_V1r (CX11_isRow h0) kX11_row_193 dX11_row_2 mW_0 rfl ⟨rfl, rfl⟩ (Nat.le_of_ble_eq_true rfl) ⟨(Nat.le_of_ble_eq_true rfl), (Nat.le_of_ble_eq_true rfl)⟩ ?_
  rw [mIsT hn hq]
  refine g_if_ne (tgt := 11) dX11_row_5 rfl (fun c_5 => ?_) (fun c_5 => by exfalso; revert c_5; decide)
  refine g_iload_n dX11_row_11 rfl rfl ?_
  refine g_iconst (v := 0) dX11_row_12 (by decide) ?_
  refine g_iconst (v := 4) dX11_row_13 (by decide) ?_
  refine g_S3r CX11_within kX11_row_68 dX11_row_14 ⟨rfl, rfl⟩ (Nat.le_of_ble_eq_true rfl) ⟨(Nat.le_of_ble_eq_true rfl), (Nat.le_of_ble_eq_true rfl)⟩ ?_
  refine g_if_ne (tgt := 23) dX11_row_17 rfl (fun c_17 => ?_) (fun c_17 => ?_)
  · refine g_iload_n dX11_row_23 rfl rfl ?_
    refine g_if_ne (tgt := 36) dX11_row_24 rfl (fun c_24 => ?_) (fun c_24 => ?_)
    · refine g_aload_n dX11_row_36 rfl rfl ?_
      refine g_getf dX11_row_37 fX11_13 mW_0 rfl ?_
      refine g_iconst (v := 4) dX11_row_40 (by decide) ?_
      refine g_iload_n dX11_row_41 rfl rfl ?_
      refine g_imul dX11_row_42 ?_
      refine g_iload_n dX11_row_43 rfl rfl ?_
      refine g_iadd dX11_row_44 ?_
      refine g_iconst (v := 1) dX11_row_45 (by decide) ?_
      refine g_isub dX11_row_46 ?_
      refine g_iald dX11_row_47 mA2 (rowIx (by omega) (Classical.byContradiction (fun z => c_17 (bI_f z))) c_24).1 ?_
      rw [(rowIx (q := q) (by omega) (Classical.byContradiction (fun z => c_17 (bI_f z))) c_24).2]
      exact g_iret dX11_row_48 rfl rfl ⟨by grind [bI], rfl⟩
    · refine g_aload_n dX11_row_27 rfl rfl ?_
      refine g_getf dX11_row_28 fX11_7 mW_0 rfl ?_
      refine g_iload_n dX11_row_31 rfl rfl ?_
      refine g_iald dX11_row_32 mA1 (vin_n (by omega) (by decide)) ?_
      rw [nI_clamp (by omega)]
      refine g_goto (tgt := 48) dX11_row_33 rfl ?_
      exact g_iret dX11_row_48 rfl rfl ⟨by grind [bI], rfl⟩
  · refine g_ldc dX11_row_20 tb_964 ?_
    exact g_iret dX11_row_22 rfl rfl ⟨by grind [bI], rfl⟩
set_option maxRecDepth 100000 in
set_option maxHeartbeats 4000000 in
theorem CX11_as_no {r : Int32} {a : Int32} (hn : n ≤ 8) (h0 : σ 0 0 = nI n) (hr : ¬ ldH (nI n) r) : Ct l mX11_as [.ref 0, .int r, .int a] (mW σ t) (q_eq (some (.int 2000000101)) (mW σ t)) := by
  refine Ct.of rfl (Nat.le_of_ble_eq_true rfl) ?_
  refine g_aload_n dX11_as_0 rfl rfl ?_
  refine g_iload_n dX11_as_1 rfl rfl ?_
  refine g_V1r (CX11_isRow h0) kX11_as_193 dX11_as_2 mW_0 rfl ⟨rfl, rfl⟩ (Nat.le_of_ble_eq_true rfl) ⟨(Nat.le_of_ble_eq_true rfl), (Nat.le_of_ble_eq_true rfl)⟩ ?_
  rw [mIsF hn hr]
  refine g_if_ne (tgt := 11) dX11_as_5 rfl (fun c_5 => by exfalso; revert c_5; decide) (fun c_5 => ?_)
  refine g_ldc dX11_as_8 tb_1020 ?_
  exact g_iret dX11_as_10 rfl rfl ⟨rfl, rfl⟩
set_option maxRecDepth 100000 in
set_option maxHeartbeats 4000000 in
theorem CX11_as {q : Nat} (hq : q < n) {a : Int32} (hn : n ≤ 8) (h0 : σ 0 0 = nI n) : Ct l mX11_as [.ref 0, .int (nI q), .int a] (mW σ t) (q_eq (some (.int (if 0 ≤ a ∧ a ≤ 6 then (if (if a = 5 then σ 1 q = 1 ∨ σ 1 q = 2 else if a = 6 then σ 1 q = 3 ∨ σ 1 q = 4 else σ 1 q = a) then σ 1 q else 2000000001) else 2000000102))) (mW σ t)) := by
  refine Ct.of rfl (Nat.le_of_ble_eq_true rfl) ?_
  refine g_aload_n dX11_as_0 rfl rfl ?_
  refine g_iload_n dX11_as_1 rfl rfl ?_
  refine g_V1r (CX11_isRow h0) kX11_as_193 dX11_as_2 mW_0 rfl ⟨rfl, rfl⟩ (Nat.le_of_ble_eq_true rfl) ⟨(Nat.le_of_ble_eq_true rfl), (Nat.le_of_ble_eq_true rfl)⟩ ?_
  rw [mIsT hn hq]
  refine g_if_ne (tgt := 11) dX11_as_5 rfl (fun c_5 => ?_) (fun c_5 => by exfalso; revert c_5; decide)
  refine g_iload_n dX11_as_11 rfl rfl ?_
  refine g_iconst (v := 0) dX11_as_12 (by decide) ?_
  refine g_bipush (v := 6) dX11_as_13 (by decide) ?_
  refine g_S3r CX11_within kX11_as_68 dX11_as_15 ⟨rfl, rfl⟩ (Nat.le_of_ble_eq_true rfl) ⟨(Nat.le_of_ble_eq_true rfl), (Nat.le_of_ble_eq_true rfl)⟩ ?_
  refine g_if_ne (tgt := 26) dX11_as_18 rfl (fun c_18 => ?_) (fun c_18 => ?_)
  · refine g_aload_n dX11_as_26 rfl rfl ?_
    refine g_getf dX11_as_27 fX11_7 mW_0 rfl ?_
    refine g_iload_n dX11_as_30 rfl rfl ?_
    refine g_iald dX11_as_31 mA1 (vin_n (by omega) (by decide)) ?_
    rw [nI_clamp (by omega)]
    refine g_iload_n dX11_as_32 rfl rfl ?_
    refine g_S2r CX11_isSuch kX11_as_197 dX11_as_33 ⟨rfl, rfl⟩ (Nat.le_of_ble_eq_true rfl) ⟨(Nat.le_of_ble_eq_true rfl), (Nat.le_of_ble_eq_true rfl)⟩ ?_
    refine g_if_eq (tgt := 48) dX11_as_36 rfl (fun c_36 => ?_) (fun c_36 => ?_)
    · refine g_ldc dX11_as_48 tb_854 ?_
      exact g_iret dX11_as_50 rfl rfl ⟨by grind [bI], rfl⟩
    · refine g_aload_n dX11_as_39 rfl rfl ?_
      refine g_getf dX11_as_40 fX11_7 mW_0 rfl ?_
      refine g_iload_n dX11_as_43 rfl rfl ?_
      refine g_iald dX11_as_44 mA1 (vin_n (by omega) (by decide)) ?_
      rw [nI_clamp (by omega)]
      refine g_goto (tgt := 50) dX11_as_45 rfl ?_
      exact g_iret dX11_as_50 rfl rfl ⟨by grind [bI], rfl⟩
  · refine g_ldc dX11_as_21 tb_964 ?_
    refine g_goto (tgt := 50) dX11_as_23 rfl ?_
    exact g_iret dX11_as_50 rfl rfl ⟨by grind [bI], rfl⟩
set_option maxRecDepth 100000 in
set_option maxHeartbeats 4000000 in
theorem CX11_each_no {r : Int32} {a b : Int32} (hn : n ≤ 8) (h0 : σ 0 0 = nI n) (hr : ¬ ldH (nI n) r) : Ct l mX11_each [.ref 0, .int r, .int a, .int b] (mW σ t) (q_eq (some (.int 2000000101)) (mW σ t)) := by
  refine Ct.of rfl (Nat.le_of_ble_eq_true rfl) ?_
  refine g_aload_n dX11_each_0 rfl rfl ?_
  refine g_iload_n dX11_each_1 rfl rfl ?_
  refine g_V1r (CX11_isRow h0) kX11_each_193 dX11_each_2 mW_0 rfl ⟨rfl, rfl⟩ (Nat.le_of_ble_eq_true rfl) ⟨(Nat.le_of_ble_eq_true rfl), (Nat.le_of_ble_eq_true rfl)⟩ ?_
  rw [mIsF hn hr]
  refine g_if_ne (tgt := 11) dX11_each_5 rfl (fun c_5 => by exfalso; revert c_5; decide) (fun c_5 => ?_)
  refine g_ldc dX11_each_8 tb_1020 ?_
  exact g_iret dX11_each_10 rfl rfl ⟨rfl, rfl⟩
set_option maxRecDepth 100000 in
set_option maxHeartbeats 4000000 in
theorem CX11_each {q : Nat} (hq : q < n) {a b : Int32} (hn : n ≤ 8) (h0 : σ 0 0 = nI n) : Ct l mX11_each [.ref 0, .int (nI q), .int a, .int b] (mW σ t) (q_eq (some (.int (if (1 ≤ a ∧ a ≤ 5) ∧ (0 ≤ b ∧ b ≤ 9) then adR n else 2000000102))) (mW (if (1 ≤ a ∧ a ≤ 5) ∧ (0 ≤ b ∧ b ≤ 9) then mAd σ n 3 (nI q) a b 2000000001 else σ) t)) := by
  refine Ct.of rfl (Nat.le_of_ble_eq_true rfl) ?_
  refine g_aload_n dX11_each_0 rfl rfl ?_
  refine g_iload_n dX11_each_1 rfl rfl ?_
  refine g_V1r (CX11_isRow h0) kX11_each_193 dX11_each_2 mW_0 rfl ⟨rfl, rfl⟩ (Nat.le_of_ble_eq_true rfl) ⟨(Nat.le_of_ble_eq_true rfl), (Nat.le_of_ble_eq_true rfl)⟩ ?_
  rw [mIsT hn hq]
  refine g_if_ne (tgt := 11) dX11_each_5 rfl (fun c_5 => ?_) (fun c_5 => by exfalso; revert c_5; decide)
  refine g_iload_n dX11_each_11 rfl rfl ?_
  refine g_iconst (v := 1) dX11_each_12 (by decide) ?_
  refine g_iconst (v := 5) dX11_each_13 (by decide) ?_
  refine g_S3r CX11_within kX11_each_68 dX11_each_14 ⟨rfl, rfl⟩ (Nat.le_of_ble_eq_true rfl) ⟨(Nat.le_of_ble_eq_true rfl), (Nat.le_of_ble_eq_true rfl)⟩ ?_
  refine g_if_eq (tgt := 43) dX11_each_17 rfl (fun c_17 => ?_) (fun c_17 => ?_)
  · refine g_ldc dX11_each_43 tb_964 ?_
    exact g_iret dX11_each_45 rfl rfl ⟨by grind [bI], by grind [bI]⟩
  · refine g_iload_n dX11_each_20 rfl rfl ?_
    refine g_iconst (v := 0) dX11_each_21 (by decide) ?_
    refine g_bipush (v := 9) dX11_each_22 (by decide) ?_
    refine g_S3r CX11_within kX11_each_68 dX11_each_24 ⟨rfl, rfl⟩ (Nat.le_of_ble_eq_true rfl) ⟨(Nat.le_of_ble_eq_true rfl), (Nat.le_of_ble_eq_true rfl)⟩ ?_
    refine g_if_eq (tgt := 43) dX11_each_27 rfl (fun c_27 => ?_) (fun c_27 => ?_)
    · refine g_ldc dX11_each_43 tb_964 ?_
      exact g_iret dX11_each_45 rfl rfl ⟨by grind [bI], by grind [bI]⟩
    · refine g_aload_n dX11_each_30 rfl rfl ?_
      refine g_iconst (v := 3) dX11_each_31 (by decide) ?_
      refine g_iload_n dX11_each_32 rfl rfl ?_
      refine g_iload_n dX11_each_33 rfl rfl ?_
      refine g_iload_n dX11_each_34 rfl rfl ?_
      refine g_ldc dX11_each_35 tb_854 ?_
      refine g_V5r (CX11_comes hn h0) kX11_each_300 dX11_each_37 mW_0 rfl ⟨rfl, rfl⟩ (Nat.le_of_ble_eq_true rfl) ⟨(Nat.le_of_ble_eq_true rfl), (Nat.le_of_ble_eq_true rfl)⟩ ?_
      refine g_goto (tgt := 45) dX11_each_40 rfl ?_
      exact g_iret dX11_each_45 rfl rfl ⟨by grind [bI], by grind [bI]⟩
set_option maxRecDepth 100000 in
set_option maxHeartbeats 4000000 in
theorem CX11_step_no {r : Int32} (hn : n ≤ 8) (h0 : σ 0 0 = nI n) (hr : ¬ ldH (nI n) r) : Ct l mX11_step [.ref 0, .int r] (mW σ t) (q_eq (some (.int 2000000101)) (mW σ t)) := by
  refine Ct.of rfl (Nat.le_of_ble_eq_true rfl) ?_
  refine g_aload_n dX11_step_0 rfl rfl ?_
  refine g_iload_n dX11_step_1 rfl rfl ?_
  refine g_V1r (CX11_isRow h0) kX11_step_193 dX11_step_2 mW_0 rfl ⟨rfl, rfl⟩ (Nat.le_of_ble_eq_true rfl) ⟨(Nat.le_of_ble_eq_true rfl), (Nat.le_of_ble_eq_true rfl)⟩ ?_
  rw [mIsF hn hr]
  refine g_if_eq (tgt := 23) dX11_step_5 rfl (fun c_5 => ?_) (fun c_5 => by exfalso; revert c_5; decide)
  refine g_ldc dX11_step_23 tb_1020 ?_
  exact g_iret dX11_step_25 rfl rfl ⟨rfl, rfl⟩
set_option maxRecDepth 100000 in
set_option maxHeartbeats 4000000 in
theorem CX11_step {q : Nat} (hq : q < n) (hn : n ≤ 8) (h0 : σ 0 0 = nI n) : Ct l mX11_step [.ref 0, .int (nI q)] (mW σ t) (q_eq (some (.int (adR n))) (mW (mAd σ n 4 (nI q) 2000000001 2000000001 2000000001) t)) := by
  refine Ct.of rfl (Nat.le_of_ble_eq_true rfl) ?_
  refine g_aload_n dX11_step_0 rfl rfl ?_
  refine g_iload_n dX11_step_1 rfl rfl ?_
  refine g_V1r (CX11_isRow h0) kX11_step_193 dX11_step_2 mW_0 rfl ⟨rfl, rfl⟩ (Nat.le_of_ble_eq_true rfl) ⟨(Nat.le_of_ble_eq_true rfl), (Nat.le_of_ble_eq_true rfl)⟩ ?_
  rw [mIsT hn hq]
  refine g_if_eq (tgt := 23) dX11_step_5 rfl (fun c_5 => by exfalso; revert c_5; decide) (fun c_5 => ?_)
  refine g_aload_n dX11_step_8 rfl rfl ?_
  refine g_iconst (v := 4) dX11_step_9 (by decide) ?_
  refine g_iload_n dX11_step_10 rfl rfl ?_
  refine g_ldc dX11_step_11 tb_854 ?_
  refine g_ldc dX11_step_13 tb_854 ?_
  refine g_ldc dX11_step_15 tb_854 ?_
  refine g_V5r (CX11_comes hn h0) kX11_step_300 dX11_step_17 mW_0 rfl ⟨rfl, rfl⟩ (Nat.le_of_ble_eq_true rfl) ⟨(Nat.le_of_ble_eq_true rfl), (Nat.le_of_ble_eq_true rfl)⟩ ?_
  refine g_goto (tgt := 25) dX11_step_20 rfl ?_
  exact g_iret dX11_step_25 rfl rfl ⟨rfl, rfl⟩
set_option maxRecDepth 100000 in
set_option maxHeartbeats 4000000 in
theorem CX11_sum_no {r r2 : Int32} (hn : n ≤ 8) (h0 : σ 0 0 = nI n) (hr : ¬ ldH (nI n) r) : Ct l mX11_sum [.ref 0, .int r, .int r2] (mW σ t) (q_eq (some (.int 2000000101)) (mW σ t)) := by
  refine Ct.of rfl (Nat.le_of_ble_eq_true rfl) ?_
  refine g_aload_n dX11_sum_0 rfl rfl ?_
  refine g_iload_n dX11_sum_1 rfl rfl ?_
  refine g_V1r (CX11_isRow h0) kX11_sum_193 dX11_sum_2 mW_0 rfl ⟨rfl, rfl⟩ (Nat.le_of_ble_eq_true rfl) ⟨(Nat.le_of_ble_eq_true rfl), (Nat.le_of_ble_eq_true rfl)⟩ ?_
  rw [mIsF hn hr]
  refine g_if_eq (tgt := 30) dX11_sum_5 rfl (fun c_5 => ?_) (fun c_5 => by exfalso; revert c_5; decide)
  refine g_ldc dX11_sum_30 tb_1020 ?_
  exact g_iret dX11_sum_32 rfl rfl ⟨rfl, rfl⟩
set_option maxRecDepth 100000 in
set_option maxHeartbeats 4000000 in
theorem CX11_sum_no2 {q : Nat} {r : Int32} (hn : n ≤ 8) (h0 : σ 0 0 = nI n) (hq : q < n) (hr : ¬ ldH (nI n) r) : Ct l mX11_sum [.ref 0, .int (nI q), .int r] (mW σ t) (q_eq (some (.int 2000000101)) (mW σ t)) := by
  refine Ct.of rfl (Nat.le_of_ble_eq_true rfl) ?_
  refine g_aload_n dX11_sum_0 rfl rfl ?_
  refine g_iload_n dX11_sum_1 rfl rfl ?_
  refine g_V1r (CX11_isRow h0) kX11_sum_193 dX11_sum_2 mW_0 rfl ⟨rfl, rfl⟩ (Nat.le_of_ble_eq_true rfl) ⟨(Nat.le_of_ble_eq_true rfl), (Nat.le_of_ble_eq_true rfl)⟩ ?_
  rw [mIsT hn hq]
  refine g_if_eq (tgt := 30) dX11_sum_5 rfl (fun c_5 => by exfalso; revert c_5; decide) (fun c_5 => ?_)
  refine g_aload_n dX11_sum_8 rfl rfl ?_
  refine g_iload_n dX11_sum_9 rfl rfl ?_
  refine g_V1r (CX11_isRow h0) kX11_sum_193 dX11_sum_10 mW_0 rfl ⟨rfl, rfl⟩ (Nat.le_of_ble_eq_true rfl) ⟨(Nat.le_of_ble_eq_true rfl), (Nat.le_of_ble_eq_true rfl)⟩ ?_
  rw [mIsF hn hr]
  refine g_if_eq (tgt := 30) dX11_sum_13 rfl (fun c_13 => ?_) (fun c_13 => by exfalso; revert c_13; decide)
  refine g_ldc dX11_sum_30 tb_1020 ?_
  exact g_iret dX11_sum_32 rfl rfl ⟨rfl, rfl⟩
set_option maxRecDepth 100000 in
set_option maxHeartbeats 4000000 in
theorem CX11_sum {q q2 : Nat} (hn : n ≤ 8) (h0 : σ 0 0 = nI n) (hq : q < n) (hq2 : q2 < n) : Ct l mX11_sum [.ref 0, .int (nI q), .int (nI q2)] (mW σ t) (q_eq (some (.int (adR n))) (mW (mAd σ n 1 (nI q) (nI q2) 2000000001 2000000001) t)) := by
  refine Ct.of rfl (Nat.le_of_ble_eq_true rfl) ?_
  refine g_aload_n dX11_sum_0 rfl rfl ?_
  refine g_iload_n dX11_sum_1 rfl rfl ?_
  refine g_V1r (CX11_isRow h0) kX11_sum_193 dX11_sum_2 mW_0 rfl ⟨rfl, rfl⟩ (Nat.le_of_ble_eq_true rfl) ⟨(Nat.le_of_ble_eq_true rfl), (Nat.le_of_ble_eq_true rfl)⟩ ?_
  rw [mIsT hn hq]
  refine g_if_eq (tgt := 30) dX11_sum_5 rfl (fun c_5 => by exfalso; revert c_5; decide) (fun c_5 => ?_)
  refine g_aload_n dX11_sum_8 rfl rfl ?_
  refine g_iload_n dX11_sum_9 rfl rfl ?_
  refine g_V1r (CX11_isRow h0) kX11_sum_193 dX11_sum_10 mW_0 rfl ⟨rfl, rfl⟩ (Nat.le_of_ble_eq_true rfl) ⟨(Nat.le_of_ble_eq_true rfl), (Nat.le_of_ble_eq_true rfl)⟩ ?_
  rw [mIsT hn hq2]
  refine g_if_eq (tgt := 30) dX11_sum_13 rfl (fun c_13 => by exfalso; revert c_13; decide) (fun c_13 => ?_)
  refine g_aload_n dX11_sum_16 rfl rfl ?_
  refine g_iconst (v := 1) dX11_sum_17 (by decide) ?_
  refine g_iload_n dX11_sum_18 rfl rfl ?_
  refine g_iload_n dX11_sum_19 rfl rfl ?_
  refine g_ldc dX11_sum_20 tb_854 ?_
  refine g_ldc dX11_sum_22 tb_854 ?_
  refine g_V5r (CX11_comes hn h0) kX11_sum_300 dX11_sum_24 mW_0 rfl ⟨rfl, rfl⟩ (Nat.le_of_ble_eq_true rfl) ⟨(Nat.le_of_ble_eq_true rfl), (Nat.le_of_ble_eq_true rfl)⟩ ?_
  refine g_goto (tgt := 32) dX11_sum_27 rfl ?_
  exact g_iret dX11_sum_32 rfl rfl ⟨rfl, rfl⟩
set_option maxRecDepth 100000 in
set_option maxHeartbeats 4000000 in
theorem CX11_product_no {r r2 : Int32} (hn : n ≤ 8) (h0 : σ 0 0 = nI n) (hr : ¬ ldH (nI n) r) : Ct l mX11_product [.ref 0, .int r, .int r2] (mW σ t) (q_eq (some (.int 2000000101)) (mW σ t)) := by
  refine Ct.of rfl (Nat.le_of_ble_eq_true rfl) ?_
  refine g_aload_n dX11_product_0 rfl rfl ?_
  refine g_iload_n dX11_product_1 rfl rfl ?_
  refine g_V1r (CX11_isRow h0) kX11_product_193 dX11_product_2 mW_0 rfl ⟨rfl, rfl⟩ (Nat.le_of_ble_eq_true rfl) ⟨(Nat.le_of_ble_eq_true rfl), (Nat.le_of_ble_eq_true rfl)⟩ ?_
  rw [mIsF hn hr]
  refine g_if_eq (tgt := 30) dX11_product_5 rfl (fun c_5 => ?_) (fun c_5 => by exfalso; revert c_5; decide)
  refine g_ldc dX11_product_30 tb_1020 ?_
  exact g_iret dX11_product_32 rfl rfl ⟨rfl, rfl⟩
set_option maxRecDepth 100000 in
set_option maxHeartbeats 4000000 in
theorem CX11_product_no2 {q : Nat} {r : Int32} (hn : n ≤ 8) (h0 : σ 0 0 = nI n) (hq : q < n) (hr : ¬ ldH (nI n) r) : Ct l mX11_product [.ref 0, .int (nI q), .int r] (mW σ t) (q_eq (some (.int 2000000101)) (mW σ t)) := by
  refine Ct.of rfl (Nat.le_of_ble_eq_true rfl) ?_
  refine g_aload_n dX11_product_0 rfl rfl ?_
  refine g_iload_n dX11_product_1 rfl rfl ?_
  refine g_V1r (CX11_isRow h0) kX11_product_193 dX11_product_2 mW_0 rfl ⟨rfl, rfl⟩ (Nat.le_of_ble_eq_true rfl) ⟨(Nat.le_of_ble_eq_true rfl), (Nat.le_of_ble_eq_true rfl)⟩ ?_
  rw [mIsT hn hq]
  refine g_if_eq (tgt := 30) dX11_product_5 rfl (fun c_5 => by exfalso; revert c_5; decide) (fun c_5 => ?_)
  refine g_aload_n dX11_product_8 rfl rfl ?_
  refine g_iload_n dX11_product_9 rfl rfl ?_
  refine g_V1r (CX11_isRow h0) kX11_product_193 dX11_product_10 mW_0 rfl ⟨rfl, rfl⟩ (Nat.le_of_ble_eq_true rfl) ⟨(Nat.le_of_ble_eq_true rfl), (Nat.le_of_ble_eq_true rfl)⟩ ?_
  rw [mIsF hn hr]
  refine g_if_eq (tgt := 30) dX11_product_13 rfl (fun c_13 => ?_) (fun c_13 => by exfalso; revert c_13; decide)
  refine g_ldc dX11_product_30 tb_1020 ?_
  exact g_iret dX11_product_32 rfl rfl ⟨rfl, rfl⟩
set_option maxRecDepth 100000 in
set_option maxHeartbeats 4000000 in
theorem CX11_product {q q2 : Nat} (hn : n ≤ 8) (h0 : σ 0 0 = nI n) (hq : q < n) (hq2 : q2 < n) : Ct l mX11_product [.ref 0, .int (nI q), .int (nI q2)] (mW σ t) (q_eq (some (.int (adR n))) (mW (mAd σ n 2 (nI q) (nI q2) 2000000001 2000000001) t)) := by
  refine Ct.of rfl (Nat.le_of_ble_eq_true rfl) ?_
  refine g_aload_n dX11_product_0 rfl rfl ?_
  refine g_iload_n dX11_product_1 rfl rfl ?_
  refine g_V1r (CX11_isRow h0) kX11_product_193 dX11_product_2 mW_0 rfl ⟨rfl, rfl⟩ (Nat.le_of_ble_eq_true rfl) ⟨(Nat.le_of_ble_eq_true rfl), (Nat.le_of_ble_eq_true rfl)⟩ ?_
  rw [mIsT hn hq]
  refine g_if_eq (tgt := 30) dX11_product_5 rfl (fun c_5 => by exfalso; revert c_5; decide) (fun c_5 => ?_)
  refine g_aload_n dX11_product_8 rfl rfl ?_
  refine g_iload_n dX11_product_9 rfl rfl ?_
  refine g_V1r (CX11_isRow h0) kX11_product_193 dX11_product_10 mW_0 rfl ⟨rfl, rfl⟩ (Nat.le_of_ble_eq_true rfl) ⟨(Nat.le_of_ble_eq_true rfl), (Nat.le_of_ble_eq_true rfl)⟩ ?_
  rw [mIsT hn hq2]
  refine g_if_eq (tgt := 30) dX11_product_13 rfl (fun c_13 => by exfalso; revert c_13; decide) (fun c_13 => ?_)
  refine g_aload_n dX11_product_16 rfl rfl ?_
  refine g_iconst (v := 2) dX11_product_17 (by decide) ?_
  refine g_iload_n dX11_product_18 rfl rfl ?_
  refine g_iload_n dX11_product_19 rfl rfl ?_
  refine g_ldc dX11_product_20 tb_854 ?_
  refine g_ldc dX11_product_22 tb_854 ?_
  refine g_V5r (CX11_comes hn h0) kX11_product_300 dX11_product_24 mW_0 rfl ⟨rfl, rfl⟩ (Nat.le_of_ble_eq_true rfl) ⟨(Nat.le_of_ble_eq_true rfl), (Nat.le_of_ble_eq_true rfl)⟩ ?_
  refine g_goto (tgt := 32) dX11_product_27 rfl ?_
  exact g_iret dX11_product_32 rfl rfl ⟨rfl, rfl⟩
end
