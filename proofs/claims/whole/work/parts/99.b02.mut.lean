/-! the calls that change something -/
theorem INVc {σ τ σ' τ' : Nat → Nat → Int32} {n g p r : Nat} (hL : LDG σ τ n) (hG : GV σ τ g) (hP : PG σ τ p) (hR : RDS σ τ r) (hK : KP σ τ r) (xs : xSame σ σ') (xk : xK σ' n) (ms : mSw τ τ') (mk : mKK τ' n) : LDG σ' τ' n ∧ GV σ' τ' g ∧ PG σ' τ' p ∧ RDS σ' τ' r ∧ KP σ' τ' r := by
  obtain ⟨l1, l2, l3, l4⟩ := hL
  refine ⟨⟨xk, mk, ?_, ?_⟩, hG.same (xs.1 4 (by decide)) (xs.1 5 (by decide)) (ms.2.2 4 (by decide)) (ms.1 3 (by decide)), hP.same (xs.1 6 (by decide)) (xs.1 7 (by decide)) (ms.2.2 6 (by decide)) (ms.1 4 (by decide)), ⟨?_, ?_⟩, hK.same ?_ (fun c hc => xs.2 c (by omega)) (fun k hk => ms.2.2 k (by omega)) (fun c hc => ms.1 c (by omega))⟩
  · rw [xs.1 2 (by decide), xs.1 3 (by decide)]; exact l3
  · rw [xs.1 2 (by decide), xs.1 3 (by decide), ms.1 1 (by decide)]
    exact LR_32 l1.1 l4 ms.2.1
  · rw [xs.1 0 (by decide)]; exact hR.1
  · rw [ms.2.2 3 (by decide)]; exact hR.2
  · rw [xs.1 0 (by decide)]
theorem INVs {σ τ : Nat → Nat → Int32} {N n g p r : Nat} (hL : LDG σ τ n) (hG : GV σ τ g) (hP : PG σ τ p) (hr : r ≤ N) (hR : RDS σ τ r) (hK : KP σ τ r) : INV σ τ (N + 1) := ⟨n, g, p, r, hL, hG, hP, by omega, hR, hK⟩
theorem LDG.keep {σ τ σ' τ' : Nat → Nat → Int32} {n : Nat} (hL : LDG σ τ n) (hx : ∀ c, c = 1 ∨ c = 2 ∨ c = 3 ∨ (13 ≤ c ∧ c < 162) → σ' c = σ c) (hm : ∀ c, c = 1 ∨ c = 2 ∨ c = 7 ∨ c = 8 ∨ c = 9 ∨ c = 10 → τ' c = τ c) (h0 : ∀ k, k = 0 ∨ k = 13 ∨ k = 14 → τ' 0 k = τ 0 k) : LDG σ' τ' n := by
  obtain ⟨l1, l2, l3, l4⟩ := hL
  refine ⟨xK_k2 hx l1, mKK_keep hm h0 l2, ?_, ?_⟩
  · rw [hx 2 (by decide), hx 3 (by decide)]; exact l3
  · rw [hx 2 (by decide), hx 3 (by decide), hm 1 (by decide), hm 2 (by decide)]; exact l4
theorem vAll_cg {K N K' N' : Nat → Int32} {n : Nat} (e : ∀ q, q < n → K' q = K q ∧ ∀ j, j < 4 → N' (4 * q + j) = N (4 * q + j)) (h : vAll K N n) : vAll K' N' n := fun q hq => by
  rw [(e q hq).1]
  exact ⟨(h q hq).1, fun j hj z => by rw [(e q hq).2 j hj]; exact (h q hq).2 j hj z⟩
theorem LR_cg {K N K' N' K2 N2 K2' N2' : Nat → Int32} {n : Nat} (e : ∀ q, q < n → K2 q = K q ∧ ∀ j, j < 4 → N2 (4 * q + j) = N (4 * q + j)) (e' : ∀ q, q < n → K2' q = K' q ∧ ∀ j, j < 4 → N2' (4 * q + j) = N' (4 * q + j)) (h : LR K N K' N' n) : LR K2 N2 K2' N2' n := fun q hq => by
  rw [(e q hq).1, (e' q hq).1]
  exact ⟨(h q hq).1, (h q hq).2.1, fun j hj => by rw [(e q hq).2 j hj, (e' q hq).2 j hj]; exact (h q hq).2.2 j hj⟩
def v4 (a b c d : Int32) (j : Nat) : Int32 := if j = 3 then d else if j = 2 then c else if j = 1 then b else a
theorem ldWr_v {σ : Nat → Nat → Int32} {a b r q j : Nat} {k A B C D : Int32} (h : a ≠ b) (hj : j < 4) : ldWr σ a b r k A B C D b (4 * q + j) = if q = r then v4 A B C D j else σ b (4 * q + j) := by
  rw [ldWr_b h]
  unfold v4
  by_cases e : q = r
  · subst e
    rw [if_pos rfl]
    rcases (show j = 0 ∨ j = 1 ∨ j = 2 ∨ j = 3 by omega) with rfl | rfl | rfl | rfl
    · rw [if_neg (by omega), if_neg (by omega), if_neg (by omega), if_pos (by omega)]; rfl
    · rw [if_neg (by omega), if_neg (by omega), if_pos (by omega)]; rfl
    · rw [if_neg (by omega), if_pos (by omega)]; rfl
    · rw [if_pos (by omega)]; rfl
  · rw [if_neg e, if_neg (by omega), if_neg (by omega), if_neg (by omega), if_neg (by omega)]
theorem mLay_w {τ : Nat → Nat → Int32} {q : Nat} {k A B C D : Int32} : mLay τ q k A B C D = mChg (ldWr τ 1 2 q k A B C D) := rfl
theorem mChg_ne {τ : Nat → Nat → Int32} {c : Nat} (h : c ≠ 0) : mChg τ c = τ c := by
  unfold mChg
  rw [put_ne h, put_ne h]
theorem mChg_0 {τ : Nat → Nat → Int32} {k : Nat} (h1 : k ≠ 13) (h2 : k ≠ 14) : mChg τ 0 k = τ 0 k := by
  unfold mChg
  rw [put_ix, if_neg h2, put_ix, if_neg h1]
theorem mChg_z {τ : Nat → Nat → Int32} : mChg τ 0 13 = 0 ∧ mChg τ 0 14 = 0 := by
  unfold mChg
  refine ⟨?_, ?_⟩
  · rw [put_ix, if_neg (by decide), put_ix, if_pos rfl]
  · rw [put_ix, if_pos rfl]
/-- a row is written on both sides: at its place, or behind all -/
theorem wr_LR {σ τ : Nat → Nat → Int32} {n n' q : Nat} {k A B C D A' B' C' D' : Int32} (hq : q < n') (hn : ∀ x, x < n' → x = q ∨ x < n) (hL : LR (σ 2) (σ 3) (τ 1) (τ 2) n) (hv : vAll (σ 2) (σ 3) n) (hk : kOk k) (h1 : ∀ j, j < 4 → nI j < nums k → vOk k q j (v4 A B C D j) ∧ v4 A' B' C' D' j = v4 A B C D j) (h2 : ∀ j, j < 4 → ¬ nI j < nums k → v4 A' B' C' D' j = 2000000001) : LR (ldWr σ 2 3 q k A B C D 2) (ldWr σ 2 3 q k A B C D 3) (ldWr τ 1 2 q k A' B' C' D' 1) (ldWr τ 1 2 q k A' B' C' D' 2) n' ∧ vAll (ldWr σ 2 3 q k A B C D 2) (ldWr σ 2 3 q k A B C D 3) n' := by
  constructor
  · intro x hx
    rw [ldWr_a (by decide), ldWr_a (by decide)]
    by_cases e : x = q
    · rw [if_pos e, if_pos e]
      refine ⟨rfl, hk, fun j hj => ?_⟩
      rw [ldWr_v (by decide) hj, ldWr_v (by decide) hj, if_pos e, if_pos e]
      by_cases z : nI j < nums k
      · rw [if_pos z]; exact (h1 j hj z).2
      · rw [if_neg z]; exact h2 j hj z
    · have hx2 : x < n := (hn x hx).elim (fun w => absurd w e) id
      obtain ⟨a1, a2, a3⟩ := hL x hx2
      rw [if_neg e, if_neg e]
      refine ⟨a1, a2, fun j hj => ?_⟩
      rw [ldWr_v (by decide) hj, ldWr_v (by decide) hj, if_neg e, if_neg e]
      exact a3 j hj
  · intro x hx
    rw [ldWr_a (by decide)]
    by_cases e : x = q
    · rw [if_pos e]
      refine ⟨hk, fun j hj z => ?_⟩
      rw [ldWr_v (by decide) hj, if_pos e, e]
      exact (h1 j hj z).1
    · have hx2 : x < n := (hn x hx).elim (fun w => absurd w e) id
      obtain ⟨a1, a2⟩ := hv x hx2
      rw [if_neg e]
      refine ⟨a1, fun j hj z => ?_⟩
      rw [ldWr_v (by decide) hj, if_neg e]
      exact a2 j hj z
theorem INV_add {σ τ : Nat → Nat → Int32} {N n g p r : Nat} {k A B C D A' B' C' D' : Int32} (hL : LDG σ τ n) (hG : GV σ τ g) (hP : PG σ τ p) (hr : r ≤ N) (hR : RDS σ τ r) (hK : KP σ τ r) (hk : kOk k) (h1 : ∀ j, j < 4 → nI j < nums k → vOk k n j (v4 A B C D j) ∧ v4 A' B' C' D' j = v4 A B C D j) (h2 : ∀ j, j < 4 → ¬ nI j < nums k → v4 A' B' C' D' j = 2000000001) : INV (adS σ n k A B C D) (mAd τ n k A' B' C' D') (N + 1) := by
  unfold adS mAd
  by_cases z : n < 8
  · rw [if_pos z, if_pos z]
    obtain ⟨xk, mk, hv, hlr⟩ := hL
    have e2 : put σ 1 2 (nI (n + 1)) 2 = σ 2 := put_ne (by decide)
    have e3 : put σ 1 2 (nI (n + 1)) 3 = σ 3 := put_ne (by decide)
    have W := wr_LR (σ := put σ 1 2 (nI (n + 1))) (τ := τ) (n := n) (n' := n + 1) (q := n) (k := k) (A := A) (B := B) (C := C) (D := D) (A' := A') (B' := B') (C' := C') (D' := D') (by omega) (fun x hx => by omega) (by rw [e2, e3]; exact hlr) (by rw [e2, e3]; exact hv) hk h1 h2
    have x1 : ∀ c, c ≠ 1 → c ≠ 2 → c ≠ 3 → ldWr (put σ 1 2 (nI (n + 1))) 2 3 n k A B C D c = σ c := fun c a b d => by rw [ldWr_ne b d, put_ne a]
    have t1 : ∀ c, c ≠ 0 → put (mLay τ n k A' B' C' D') 0 0 (nI (n + 1)) c = ldWr τ 1 2 n k A' B' C' D' c := fun c a => by rw [put_ne a, mLay_w, mChg_ne a]
    have t2 : ∀ c, c ≠ 0 → c ≠ 1 → c ≠ 2 → put (mLay τ n k A' B' C' D') 0 0 (nI (n + 1)) c = τ c := fun c a b d => by rw [t1 c a, ldWr_ne b d]
    have t0 : ∀ x, x ≠ 0 → x ≠ 13 → x ≠ 14 → put (mLay τ n k A' B' C' D') 0 0 (nI (n + 1)) 0 x = τ 0 x := fun x a b d => by rw [put_ix, if_neg a, mLay_w, mChg_0 b d, ldWr_ne (by decide) (by decide)]
    have s1 : ldWr (put σ 1 2 (nI (n + 1))) 2 3 n k A B C D 1 2 = nI (n + 1) := by rw [ldWr_ne (by decide) (by decide), put_ix, if_pos rfl]
    refine ⟨n + 1, g, p, r, ⟨?_, ?_, W.2, ?_⟩, hG.same (x1 4 (by decide) (by decide) (by decide)) (x1 5 (by decide) (by decide) (by decide)) (t0 4 (by decide) (by decide) (by decide)) (t2 3 (by decide) (by decide) (by decide)), hP.same (x1 6 (by decide) (by decide) (by decide)) (x1 7 (by decide) (by decide) (by decide)) (t0 6 (by decide) (by decide) (by decide)) (t2 4 (by decide) (by decide) (by decide)), by omega, ⟨?_, ?_⟩, hK.same ?_ (fun c hc => x1 c (by omega) (by omega) (by omega)) (fun x hx => t0 x (by omega) (by omega) (by omega)) (fun c hc => t2 c (by omega) (by omega) (by omega))⟩
    · refine xK_new (r := n) xk (by omega) s1 W.2 (Nat.le_refl n) (by omega) (fun q hq => ?_) (x1 14 (by decide) (by decide) (by decide)) (fun c a b => x1 c (by omega) (by omega) (by omega)) (fun m hm em => ⟨m, Nat.le_refl m, hm, by rw [x1 13 (by decide) (by decide) (by decide)]; exact em⟩) (fun t ht m hm em => ⟨m, Nat.le_refl m, hm, by rw [x1 17 (by decide) (by decide) (by decide)]; exact em⟩)
      rw [ldWr_a (by decide), if_neg (by omega), e2]
      exact ⟨rfl, fun j hj => by rw [ldWr_v (by decide) hj, if_neg (by omega), e3]⟩
    · refine mKK_new (K := ldWr (put σ 1 2 (nI (n + 1))) 2 3 n k A B C D 2) (N := ldWr (put σ 1 2 (nI (n + 1))) 2 3 n k A B C D 3) (by omega) (by rw [put_ix, if_pos rfl]) (by rw [put_ix, if_neg (by decide), mLay_w]; exact mChg_z.1) (by rw [put_ix, if_neg (by decide), mLay_w]; exact mChg_z.2) ?_ W.2
      rw [t1 1 (by decide), t1 2 (by decide)]
      exact W.1
    · rw [t1 1 (by decide), t1 2 (by decide)]
      exact W.1
    · rw [x1 0 (by decide) (by decide) (by decide)]; exact hR.1
    · rw [t0 3 (by decide) (by decide) (by decide)]; exact hR.2
    · rw [x1 0 (by decide) (by decide) (by decide)]
  · rw [if_neg z, if_neg z]
    exact INVs hL hG hP hr hR hK
theorem v4c {k A B C D A' B' C' D' : Int32} {q : Nat} (h0 : 0 < nums k → vOk k q 0 A ∧ A' = A) (h1 : 1 < nums k → vOk k q 1 B ∧ B' = B) (h2 : 2 < nums k → vOk k q 2 C ∧ C' = C) (h3 : 3 < nums k → vOk k q 3 D ∧ D' = D) : ∀ j, j < 4 → nI j < nums k → vOk k q j (v4 A B C D j) ∧ v4 A' B' C' D' j = v4 A B C D j := by
  intro j hj
  rcases (show j = 0 ∨ j = 1 ∨ j = 2 ∨ j = 3 by omega) with rfl | rfl | rfl | rfl
  · exact h0
  · exact h1
  · exact h2
  · exact h3
theorem v4n {k A' B' C' D' : Int32} (h1 : ¬ 1 < nums k → B' = 2000000001) (h2 : ¬ 2 < nums k → C' = 2000000001) (h3 : ¬ 3 < nums k → D' = 2000000001) : ∀ j, j < 4 → ¬ nI j < nums k → v4 A' B' C' D' j = 2000000001 := by
  intro j hj
  rcases (show j = 0 ∨ j = 1 ∨ j = 2 ∨ j = 3 by omega) with rfl | rfl | rfl | rfl
  · exact fun z => absurd (nums_0 k) z
  · exact h1
  · exact h2
  · exact h3
theorem vOk0 {q j : Nat} {v : Int32} (h : j < 2 → -9 ≤ v ∧ v ≤ 9) : vOk 0 q j v := by unfold vOk; rw [if_pos rfl]; exact h
theorem vOkp {k : Int32} {q j a : Nat} (h0 : ¬ k = 0) (h3 : k = 3 → j = 0) (ha : a < q) : vOk k q j (nI a) := by
  unfold vOk
  rw [if_neg h0, if_neg (fun z => by have := h3 z.1; omega), if_neg (fun z => by have := h3 z.1; omega)]
  exact ⟨a, ha, rfl⟩
section
variable {l : Launch} {σ τ : Nat → Nat → Int32} {t : Nat → Int64} {N : Nat}
set_option maxHeartbeats 4000000 in
theorem AG_told (H : INV σ τ N) (c d e f : Int32) : AG l σ τ t N mX10_told mX11_told [.int c, .int d, .int e, .int f] := by
  obtain ⟨n, g, p, rr, hL, hG, hP, hr, hR, hKp⟩ := H
  obtain ⟨xk, mk, hv, hlr⟩ := id hL
  have hn := xk.1
  have h12 := xk.2.1
  have h0 := mk.1.2.1
  refine AG.ee (CX10_told hn h12) (CX11_told hn h0) rfl ?_
  by_cases z : tellP c d e f
  · rw [if_pos z, if_pos z]
    exact INV_add hL hG hP hr hR hKp (Or.inl rfl) (v4c (fun _ => ⟨vOk0 (fun _ => z.1), rfl⟩) (fun _ => ⟨vOk0 (fun _ => z.2.1), rfl⟩) (fun _ => ⟨vOk0 (fun w => absurd w (by decide)), rfl⟩) (fun _ => ⟨vOk0 (fun w => absurd w (by decide)), rfl⟩)) (v4n (fun w => absurd (by decide) w) (fun w => absurd (by decide) w) (fun w => absurd (by decide) w))
  · rw [if_neg z, if_neg z]
    exact INVs hL hG hP hr hR hKp
set_option maxHeartbeats 4000000 in
theorem AG_sum (H : INV σ τ N) (r s : Int32) : AG l σ τ t N mX10_sum mX11_sum [.int r, .int s] := by
  obtain ⟨n, g, p, rr, hL, hG, hP, hr, hR, hKp⟩ := H
  obtain ⟨xk, mk, hv, hlr⟩ := id hL
  have hn := xk.1
  have h12 := xk.2.1
  have h0 := mk.1.2.1
  by_cases hH : ldH (nI n) r
  · obtain ⟨q, hq, rfl⟩ := (ldH_iff hn).mp hH
    by_cases hH2 : ldH (nI n) s
    · obtain ⟨q2, hq2, rfl⟩ := (ldH_iff hn).mp hH2
      refine AG.ee (CX10_sum hn h12) (CX11_sum hn h0 hq hq2) (by rw [h12, if_pos ⟨hH, hH2⟩]) ?_
      rw [h12, if_pos ⟨hH, hH2⟩]
      exact INV_add hL hG hP hr hR hKp (by unfold kOk; decide) (v4c (fun _ => ⟨vOkp (by decide) (fun w => absurd w (by decide)) hq, rfl⟩) (fun _ => ⟨vOkp (by decide) (fun w => absurd w (by decide)) hq2, rfl⟩) (fun w => absurd w (by decide)) (fun w => absurd w (by decide))) (v4n (fun w => absurd (by decide) w) (fun _ => rfl) (fun _ => rfl))
    · refine AG.ee (CX10_sum hn h12) (CX11_sum_no2 hn h0 hq hH2) (by rw [h12, if_neg (fun z => hH2 z.2)]) ?_
      rw [h12, if_neg (fun z => hH2 z.2)]
      exact INVs hL hG hP hr hR hKp
  · refine AG.ee (CX10_sum hn h12) (CX11_sum_no hn h0 hH) (by rw [h12, if_neg (fun z => hH z.1)]) ?_
    rw [h12, if_neg (fun z => hH z.1)]
    exact INVs hL hG hP hr hR hKp
set_option maxHeartbeats 4000000 in
theorem AG_product (H : INV σ τ N) (r s : Int32) : AG l σ τ t N mX10_product mX11_product [.int r, .int s] := by
  obtain ⟨n, g, p, rr, hL, hG, hP, hr, hR, hKp⟩ := H
  obtain ⟨xk, mk, hv, hlr⟩ := id hL
  have hn := xk.1
  have h12 := xk.2.1
  have h0 := mk.1.2.1
  by_cases hH : ldH (nI n) r
  · obtain ⟨q, hq, rfl⟩ := (ldH_iff hn).mp hH
    by_cases hH2 : ldH (nI n) s
    · obtain ⟨q2, hq2, rfl⟩ := (ldH_iff hn).mp hH2
      refine AG.ee (CX10_product hn h12) (CX11_product hn h0 hq hq2) (by rw [h12, if_pos ⟨hH, hH2⟩]) ?_
      rw [h12, if_pos ⟨hH, hH2⟩]
      exact INV_add hL hG hP hr hR hKp (by unfold kOk; decide) (v4c (fun _ => ⟨vOkp (by decide) (fun w => absurd w (by decide)) hq, rfl⟩) (fun _ => ⟨vOkp (by decide) (fun w => absurd w (by decide)) hq2, rfl⟩) (fun w => absurd w (by decide)) (fun w => absurd w (by decide))) (v4n (fun w => absurd (by decide) w) (fun _ => rfl) (fun _ => rfl))
    · refine AG.ee (CX10_product hn h12) (CX11_product_no2 hn h0 hq hH2) (by rw [h12, if_neg (fun z => hH2 z.2)]) ?_
      rw [h12, if_neg (fun z => hH2 z.2)]
      exact INVs hL hG hP hr hR hKp
  · refine AG.ee (CX10_product hn h12) (CX11_product_no hn h0 hH) (by rw [h12, if_neg (fun z => hH z.1)]) ?_
    rw [h12, if_neg (fun z => hH z.1)]
    exact INVs hL hG hP hr hR hKp
set_option maxHeartbeats 4000000 in
theorem AG_each (H : INV σ τ N) (r a s : Int32) : AG l σ τ t N mX10_each mX11_each [.int r, .int a, .int s] := by
  obtain ⟨n, g, p, rr, hL, hG, hP, hr, hR, hKp⟩ := H
  obtain ⟨xk, mk, hv, hlr⟩ := id hL
  have hn := xk.1
  have h12 := xk.2.1
  have h0 := mk.1.2.1
  by_cases hH : ldH (nI n) r
  · obtain ⟨q, hq, rfl⟩ := (ldH_iff hn).mp hH
    by_cases z : (1 ≤ a ∧ a ≤ 5) ∧ 0 ≤ s ∧ s ≤ 9
    · refine AG.ee (CX10_each hn h12) (CX11_each hq hn h0) (by rw [h12, if_pos hH]) ?_
      rw [h12, if_pos ⟨hH, z⟩, if_pos z]
      obtain ⟨x, hx, ex⟩ := tnc_ex (v := a) (m := 5) (Int32.le_trans (by decide) z.1.1) z.1.2 (by decide)
      obtain ⟨y, hy, ey⟩ := tnc_ex (v := s) (m := 9) z.2.1 z.2.2 (by decide)
      have hx1 : 1 ≤ x := by
        rcases Nat.eq_zero_or_pos x with w | w
        · rw [ex, w] at z; exact absurd z.1.1 (by decide)
        · exact w
      refine INV_add hL hG hP hr hR hKp (by unfold kOk; decide) (v4c (fun _ => ⟨vOkp (by decide) (fun _ => rfl) hq, rfl⟩) (fun _ => ⟨?_, rfl⟩) (fun _ => ⟨?_, rfl⟩) (fun w => absurd w (by decide))) (v4n (fun w => absurd (by decide) w) (fun w => absurd (by decide) w) (fun _ => rfl))
      · unfold vOk
        rw [if_neg (by decide), if_pos ⟨rfl, rfl⟩]
        exact ⟨x, hx1, hx, ex⟩
      · unfold vOk
        rw [if_neg (by decide), if_neg (fun w => absurd w.2 (by decide)), if_pos ⟨rfl, rfl⟩]
        exact ⟨y, hy, ey⟩
    · refine AG.ee (CX10_each hn h12) (CX11_each hq hn h0) (by rw [h12, if_pos hH]) ?_
      rw [h12, if_neg (fun w => z w.2), if_neg z]
      exact INVs hL hG hP hr hR hKp
  · refine AG.ee (CX10_each hn h12) (CX11_each_no hn h0 hH) (by rw [h12, if_neg hH]) ?_
    rw [h12, if_neg (fun w => hH w.1)]
    exact INVs hL hG hP hr hR hKp
set_option maxHeartbeats 4000000 in
theorem AG_step (H : INV σ τ N) (r : Int32) : AG l σ τ t N mX10_step mX11_step [.int r] := by
  obtain ⟨n, g, p, rr, hL, hG, hP, hr, hR, hKp⟩ := H
  obtain ⟨xk, mk, hv, hlr⟩ := id hL
  have hn := xk.1
  have h12 := xk.2.1
  have h0 := mk.1.2.1
  by_cases hH : ldH (nI n) r
  · obtain ⟨q, hq, rfl⟩ := (ldH_iff hn).mp hH
    refine AG.ee (CX10_step hn h12) (CX11_step hq hn h0) (by rw [h12, if_pos hH]) ?_
    rw [h12, if_pos hH]
    exact INV_add hL hG hP hr hR hKp (by unfold kOk; decide) (v4c (fun _ => ⟨vOkp (by decide) (fun w => absurd w (by decide)) hq, rfl⟩) (fun w => absurd w (by decide)) (fun w => absurd w (by decide)) (fun w => absurd w (by decide))) (v4n (fun _ => rfl) (fun _ => rfl) (fun _ => rfl))
  · refine AG.ee (CX10_step hn h12) (CX11_step_no hn h0 hH) (by rw [h12, if_neg hH]) ?_
    rw [h12, if_neg hH]
    exact INVs hL hG hP hr hR hKp
set_option maxHeartbeats 4000000 in
theorem AG_letter (H : INV σ τ N) (c : Int32) : AG l σ τ t N mX10_letter mX11_letter [.int c] := by
  obtain ⟨n, g, p, rr, hL, hG, hP, hr, hR, hKp⟩ := H
  obtain ⟨xk, mk, hv, hlr⟩ := id hL
  have hn := xk.1
  have h12 := xk.2.1
  have h0 := mk.1.2.1
  refine AG.ee (CX10_letter hP.1 hP.2.1) (CX11_letter hP.1 hP.2.2.1) rfl ?_
  by_cases z : 32 ≤ c ∧ c ≤ 126
  · rw [if_pos z, if_pos z]
    unfold pgS
    by_cases w : p < 47
    · rw [if_pos w, if_pos w]
      refine ⟨n, g, p + 1, rr, hL.keep (fun c hc => by rw [put_ne (by omega), put_ne (by omega)]) (fun c hc => by rw [put_ne (by omega), put_ne (by omega)]) (fun k hk => by rw [put_ix, if_neg (by omega), put_ne (by decide)]), hG.same (by rw [put_ne (by decide), put_ne (by decide)]) (by rw [put_ne (by decide), put_ne (by decide)]) (by rw [put_ix, if_neg (by decide), put_ne (by decide)]) (by rw [put_ne (by decide), put_ne (by decide)]), ⟨by omega, by rw [put_ix, if_pos rfl], by rw [put_ix, if_pos rfl], fun i hi => ?_⟩, by omega, ⟨by rw [put_ne (by decide), put_ne (by decide)]; exact hR.1, by rw [put_ix, if_neg (by decide), put_ne (by decide)]; exact hR.2⟩, hKp.same (by rw [put_ne (by decide), put_ne (by decide)]) (fun c hc => by rw [put_ne (by omega), put_ne (by omega)]) (fun k hk => by rw [put_ix, if_neg (by omega), put_ne (by decide)]) (fun c hc => by rw [put_ne (by omega), put_ne (by omega)])⟩
      have e7 : put (put σ 7 p c) 6 1 (nI (p + 1)) 7 i = if i = p then c else σ 7 i := by rw [put_ne (by decide), put_ix]
      have e4 : put (put τ 4 p c) 0 6 (nI (p + 1)) 4 i = if i = p then c else τ 4 i := by rw [put_ne (by decide), put_ix]
      rw [e7, e4]
      by_cases e : i = p
      · rw [if_pos e, if_pos e]; exact ⟨rfl, z⟩
      · rw [if_neg e, if_neg e]; exact hP.2.2.2 i (by omega)
    · rw [if_neg w, if_neg w]
      exact INVs hL hG hP hr hR hKp
  · rw [if_neg z, if_neg z]
    exact INVs hL hG hP hr hR hKp
set_option maxHeartbeats 4000000 in
theorem AG_give (H : INV σ τ N) (c : Int32) : AG l σ τ t N mX10_give mX11_give [.int c] := by
  obtain ⟨n, g, p, rr, hL, hG, hP, hr, hR, hKp⟩ := H
  obtain ⟨xk, mk, hv, hlr⟩ := id hL
  have hn := xk.1
  have h12 := xk.2.1
  have h0 := mk.1.2.1
  refine AG.ee (CX10_give hG.1 hG.2.1) (CX11_give hG.1 hG.2.2.1) rfl ?_
  by_cases z : -99 ≤ c ∧ c ≤ 99
  · rw [if_pos z, if_pos z]
    unfold pgS
    by_cases w : g < 8
    · rw [if_pos w, if_pos w]
      refine ⟨n, g + 1, p, rr, hL.keep (fun c hc => by rw [put_ne (by omega), put_ne (by omega)]) (fun c hc => by rw [put_ne (by omega), put_ne (by omega)]) (fun k hk => by rw [put_ix, if_neg (by omega), put_ne (by decide)]), ⟨by omega, by rw [put_ix, if_pos rfl], by rw [put_ix, if_pos rfl], fun i hi => ?_⟩, hP.same (by rw [put_ne (by decide), put_ne (by decide)]) (by rw [put_ne (by decide), put_ne (by decide)]) (by rw [put_ix, if_neg (by decide), put_ne (by decide)]) (by rw [put_ne (by decide), put_ne (by decide)]), by omega, ⟨by rw [put_ne (by decide), put_ne (by decide)]; exact hR.1, by rw [put_ix, if_neg (by decide), put_ne (by decide)]; exact hR.2⟩, hKp.same (by rw [put_ne (by decide), put_ne (by decide)]) (fun c hc => by rw [put_ne (by omega), put_ne (by omega)]) (fun k hk => by rw [put_ix, if_neg (by omega), put_ne (by decide)]) (fun c hc => by rw [put_ne (by omega), put_ne (by omega)])⟩
      have e7 : put (put σ 5 g c) 4 1 (nI (g + 1)) 5 i = if i = g then c else σ 5 i := by rw [put_ne (by decide), put_ix]
      have e4 : put (put τ 3 g c) 0 4 (nI (g + 1)) 3 i = if i = g then c else τ 3 i := by rw [put_ne (by decide), put_ix]
      rw [e7, e4]
      by_cases e : i = g
      · rw [if_pos e, if_pos e]
      · rw [if_neg e, if_neg e]; exact hG.2.2.2 i (by omega)
    · rw [if_neg w, if_neg w]
      exact INVs hL hG hP hr hR hKp
  · rw [if_neg z, if_neg z]
    exact INVs hL hG hP hr hR hKp
set_option maxHeartbeats 4000000 in
theorem AG_blank (H : INV σ τ N) : AG l σ τ t N mX10_blank mX11_blank [] := by
  obtain ⟨n, g, p, rr, hL, hG, hP, hr, hR, hKp⟩ := H
  obtain ⟨xk, mk, hv, hlr⟩ := id hL
  have hn := xk.1
  have h12 := xk.2.1
  have h0 := mk.1.2.1
  refine AG.ee CX10_blank CX11_blank (by rw [hP.2.1, hP.2.2.1]) ?_
  exact ⟨n, g, 0, rr, hL.keep (fun c hc => put_ne (by omega)) (fun c hc => put_ne (by omega)) (fun k hk => by rw [put_ix, if_neg (by omega)]), hG.same (put_ne (by decide)) (put_ne (by decide)) (by rw [put_ix, if_neg (by decide)]) (put_ne (by decide)), ⟨by omega, by rw [put_ix, if_pos rfl]; rfl, by rw [put_ix, if_pos rfl]; rfl, fun i hi => absurd hi (by omega)⟩, by omega, ⟨by rw [put_ne (by decide)]; exact hR.1, by rw [put_ix, if_neg (by decide)]; exact hR.2⟩, hKp.same (by rw [put_ne (by decide)]) (fun c hc => put_ne (by omega)) (fun k hk => by rw [put_ix, if_neg (by omega)]) (fun c hc => put_ne (by omega))⟩
set_option maxHeartbeats 4000000 in
theorem AG_forget (H : INV σ τ N) : AG l σ τ t N mX10_forget mX11_forget [] := by
  obtain ⟨n, g, p, rr, hL, hG, hP, hr, hR, hKp⟩ := H
  obtain ⟨xk, mk, hv, hlr⟩ := id hL
  have hn := xk.1
  have h12 := xk.2.1
  have h0 := mk.1.2.1
  refine AG.ee CX10_forget CX11_forget (by rw [hG.2.1, hG.2.2.1]) ?_
  exact ⟨n, 0, p, rr, hL.keep (fun c hc => put_ne (by omega)) (fun c hc => put_ne (by omega)) (fun k hk => by rw [put_ix, if_neg (by omega)]), ⟨by omega, by rw [put_ix, if_pos rfl]; rfl, by rw [put_ix, if_pos rfl]; rfl, fun i hi => absurd hi (by omega)⟩, hP.same (put_ne (by decide)) (put_ne (by decide)) (by rw [put_ix, if_neg (by decide)]) (put_ne (by decide)), by omega, ⟨by rw [put_ne (by decide)]; exact hR.1, by rw [put_ix, if_neg (by decide)]; exact hR.2⟩, hKp.same (by rw [put_ne (by decide)]) (fun c hc => put_ne (by omega)) (fun k hk => by rw [put_ix, if_neg (by omega)]) (fun c hc => put_ne (by omega))⟩
end
