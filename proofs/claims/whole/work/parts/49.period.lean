/-! the remainders' rounds: modulo 2 to 10 every told row comes again after the round, from the sixth term on -/
theorem neg32 (x : Int32) : x < 0 ↔ x.toBitVec.msb = true := by
  rw [Int32.lt_iff_toInt_lt, BitVec.msb_eq_toInt]; simp only [decide_eq_true_eq]; rfl
theorem xor_neg (x m : Int32) (hm : 0 ≤ m) : x ^^^ m < 0 ↔ x < 0 := by
  rw [neg32, neg32, Int32.toBitVec_xor, BitVec.msb_xor]
  have : m.toBitVec.msb = false := by
    cases h : m.toBitVec.msb with
    | false => rfl
    | true => have := (neg32 m).mpr h; exfalso; grind
  rw [this]; simp
theorem jrem_toInt {x : Int32} {M : Nat} (h2 : M < 2 ^ 31) : (jrem x (nI M)).toInt = x.toInt.tmod M := by
  rw [jrem, rem_toInt, nI_toInt h2]
theorem tmod_emod {x M : Int} (hM : 0 < M) : x % M = if x.tmod M < 0 then x.tmod M + M else x.tmod M := by
  have hb := tmod_bounds (a := x) hM
  have e : x = x.tmod M + M * x.tdiv M := by
    have := Int.tmod_add_mul_tdiv x M; omega
  have e2 : x % M = x.tmod M % M := by
    have h := congrArg (fun z => z % M) e
    rw [Int.add_mul_emod_self_left] at h
    exact h
  rw [e2]
  split
  · have e3 : x.tmod M % M = (x.tmod M + M) % M := by rw [Int.add_emod_right]
    rw [e3, Int.emod_eq_of_lt (by omega) (by omega)]
  · exact Int.emod_eq_of_lt (by omega) (by omega)
theorem tmod_sign {x M : Int} (h : x.tmod M < 0) : x < 0 := by
  rcases Int.lt_or_le x 0 with q | q
  · exact q
  · have := Int.tmod_nonneg M q; omega
theorem tmod_sign2 {x M : Int} (hM : 0 < M) (h : x < 0) : x.tmod M ≤ 0 := by
  have e : x.tmod M = -((-x).tmod M) := by rw [Int.neg_tmod, Int.neg_neg]
  have := Int.tmod_nonneg M (show 0 ≤ -x by omega)
  omega
theorem jfm_toInt {x : Int32} {M : Nat} (h1 : 0 < M) (h2 : M < 2 ^ 30) : (jfm x (nI M)).toInt = x.toInt % (M : Int) := by
  have hb := tmod_bounds (a := x.toInt) (M := (M : Int)) (by omega)
  have er := jrem_toInt (x := x) (M := M) (by omega)
  have z : (0 : Int32).toInt = 0 := rfl
  have hx0 : x < 0 ↔ x.toInt < 0 := by rw [Int32.lt_iff_toInt_lt, z]
  rw [tmod_emod (by omega)]
  unfold jfm
  by_cases hc : x ^^^ nI M < 0 ∧ ¬ jrem x (nI M) = 0
  · rw [if_pos hc]
    have hx := hx0.mp ((xor_neg x (nI M) (nI_pos' (by omega))).mp hc.1)
    have hr : (jrem x (nI M)).toInt ≠ 0 := fun q => hc.2 (Int32.toInt_inj.mp q)
    rw [er] at hr
    have := tmod_sign2 (x := x.toInt) (M := (M : Int)) (by omega) hx
    rw [if_pos (by omega), Int32.toInt_add, er, nI_toInt (by omega)]
    exact Int.bmod_eq_of_le (by omega) (by omega)
  · rw [if_neg hc, er, if_neg]
    intro q
    have hx := hx0.mpr (tmod_sign q)
    refine hc ⟨(xor_neg x (nI M) (nI_pos' (by omega))).mpr hx, fun e => ?_⟩
    rw [e] at er
    rw [z] at er
    omega
/-! the row over the integers -/
def itI (c d : Int) (x y : Int) : Nat → Int × Int
  | 0 => (x, y)
  | k + 1 => ((itI c d x y k).2, c * (itI c d x y k).2 + d * (itI c d x y k).1)
theorem it_lin (c d x y : Int) : ∀ k, (itI c d x y k).1 = x * (itI c d 1 0 k).1 + y * (itI c d 0 1 k).1 ∧ (itI c d x y k).2 = x * (itI c d 1 0 k).2 + y * (itI c d 0 1 k).2
  | 0 => by simp [itI]
  | k + 1 => by
    obtain ⟨h1, h2⟩ := it_lin c d x y k
    refine ⟨h2, ?_⟩
    show c * (itI c d x y k).2 + d * (itI c d x y k).1 = x * (c * (itI c d 1 0 k).2 + d * (itI c d 1 0 k).1) + y * (c * (itI c d 0 1 k).2 + d * (itI c d 0 1 k).1)
    rw [h1, h2]; grind
def itN (m c d : Nat) (x y : Nat) : Nat → Nat × Nat
  | 0 => (x, y)
  | k + 1 => itN m c d y ((c * y + d * x) % m) k
/-- the round's test, on small numbers -/
def rdT (t : Nat) : Bool := (List.range (2 + t)).all (fun c => (List.range (2 + t)).all (fun d => decide (itN (2 + t) c d 1 0 (6 + rnd t) = itN (2 + t) c d 1 0 6) && decide (itN (2 + t) c d 0 1 (6 + rnd t) = itN (2 + t) c d 0 1 6)))
theorem rdT_all : ∀ t, t < 9 → rdT t = true := by decide +kernel
/-- what is alike modulo m stays so -/
theorem it_cong {m c d c' d' : Int} (hc : c % m = c' % m) (hd : d % m = d' % m) {x y x' y' : Int} (hx : x % m = x' % m) (hy : y % m = y' % m) : ∀ k, (itI c d x y k).1 % m = (itI c' d' x' y' k).1 % m ∧ (itI c d x y k).2 % m = (itI c' d' x' y' k).2 % m
  | 0 => ⟨hx, hy⟩
  | k + 1 => by
    obtain ⟨h1, h2⟩ := it_cong hc hd hx hy k
    refine ⟨h2, ?_⟩
    show (c * (itI c d x y k).2 + d * (itI c d x y k).1) % m = (c' * (itI c' d' x' y' k).2 + d' * (itI c' d' x' y' k).1) % m
    rw [Int.add_emod, Int.mul_emod, hc, h2, ← Int.mul_emod, Int.mul_emod d, hd, h1, ← Int.mul_emod, ← Int.add_emod]
theorem it_front (c d x y : Int) : ∀ k, itI c d x y (k + 1) = itI c d y (c * y + d * x) k
  | 0 => rfl
  | k + 1 => by
    show ((itI c d x y (k + 1)).2, c * (itI c d x y (k + 1)).2 + d * (itI c d x y (k + 1)).1) = ((itI c d y (c * y + d * x) k).2, c * (itI c d y (c * y + d * x) k).2 + d * (itI c d y (c * y + d * x) k).1)
    rw [it_front c d x y k]
theorem itN_it (m c d : Nat) : ∀ (k x y : Nat), ((itN m c d x y k).1 : Int) % m = (itI c d x y k).1 % m ∧ ((itN m c d x y k).2 : Int) % m = (itI c d x y k).2 % m
  | 0, x, y => ⟨rfl, rfl⟩
  | k + 1, x, y => by
    obtain ⟨h1, h2⟩ := itN_it m c d k y ((c * y + d * x) % m)
    rw [it_front]
    have h := it_cong (m := (m : Int)) (c := c) (d := d) (c' := c) (d' := d) rfl rfl (x := (y : Int)) (x' := (y : Int)) rfl (y := (((c * y + d * x) % m : Nat) : Int)) (y' := (c : Int) * y + d * x) (by
      rw [Int.natCast_emod, Int.natCast_add, Int.natCast_mul, Int.natCast_mul, Int.emod_emod]) k
    exact ⟨h1.trans h.1, h2.trans h.2⟩
theorem it_round {t : Nat} (ht : t < 9) (c d x y : Int) : (itI c d x y (6 + rnd t)).1 % ((2 + t : Nat) : Int) = (itI c d x y 6).1 % ((2 + t : Nat) : Int) ∧ (itI c d x y (6 + rnd t)).2 % ((2 + t : Nat) : Int) = (itI c d x y 6).2 % ((2 + t : Nat) : Int) := by
  have hm : (0 : Int) < ((2 + t : Nat) : Int) := by omega
  have hT := rdT_all t ht
  generalize hM : ((2 + t : Nat) : Int) = M at hm ⊢
  obtain ⟨c', hc1, hc2⟩ : ∃ c' : Nat, c' < 2 + t ∧ (c' : Int) = c % M := ⟨(c % M).toNat, by have := Int.emod_lt_of_pos c hm; have := Int.emod_nonneg c (show M ≠ 0 by omega); omega, by have := Int.emod_nonneg c (show M ≠ 0 by omega); omega⟩
  obtain ⟨d', hd1, hd2⟩ : ∃ d' : Nat, d' < 2 + t ∧ (d' : Int) = d % M := ⟨(d % M).toNat, by have := Int.emod_lt_of_pos d hm; have := Int.emod_nonneg d (show M ≠ 0 by omega); omega, by have := Int.emod_nonneg d (show M ≠ 0 by omega); omega⟩
  have hc3 : c % M = (c' : Int) % M := by rw [hc2, Int.emod_emod]
  have hd3 : d % M = (d' : Int) % M := by rw [hd2, Int.emod_emod]
  unfold rdT at hT
  have h1 := List.all_eq_true.mp (List.all_eq_true.mp hT c' (List.mem_range.mpr hc1)) d' (List.mem_range.mpr hd1)
  simp only [Bool.and_eq_true, decide_eq_true_eq] at h1
  obtain ⟨ha, hb⟩ := h1
  have key : ∀ (u v : Nat), itN (2 + t) c' d' u v (6 + rnd t) = itN (2 + t) c' d' u v 6 → (itI c d u v (6 + rnd t)).1 % M = (itI c d u v 6).1 % M ∧ (itI c d u v (6 + rnd t)).2 % M = (itI c d u v 6).2 % M := by
    intro u v huv
    have p1 := itN_it (2 + t) c' d' (6 + rnd t) u v
    have p2 := itN_it (2 + t) c' d' 6 u v
    rw [hM] at p1 p2
    have q1 := it_cong (m := M) hc3 hd3 (x := (u : Int)) (x' := u) rfl (y := (v : Int)) (y' := v) rfl (6 + rnd t)
    have q2 := it_cong (m := M) hc3 hd3 (x := (u : Int)) (x' := u) rfl (y := (v : Int)) (y' := v) rfl 6
    rw [huv] at p1
    exact ⟨q1.1.trans (p1.1.symm.trans (p2.1.trans q2.1.symm)), q1.2.trans (p1.2.symm.trans (p2.2.trans q2.2.symm))⟩
  have k1 := key 1 0 ha
  have k2 := key 0 1 hb
  have l1 := it_lin c d x y (6 + rnd t)
  have l2 := it_lin c d x y 6
  constructor
  · rw [l1.1, l2.1, Int.add_emod, Int.mul_emod x, Int.mul_emod y]
    rw [show (itI c d 1 0 (6 + rnd t)).1 % M = (itI c d 1 0 6).1 % M from k1.1, show (itI c d 0 1 (6 + rnd t)).1 % M = (itI c d 0 1 6).1 % M from k2.1, ← Int.mul_emod, ← Int.mul_emod, ← Int.add_emod]
  · rw [l1.2, l2.2, Int.add_emod, Int.mul_emod x, Int.mul_emod y]
    rw [show (itI c d 1 0 (6 + rnd t)).2 % M = (itI c d 1 0 6).2 % M from k1.2, show (itI c d 0 1 (6 + rnd t)).2 % M = (itI c d 0 1 6).2 % M from k2.2, ← Int.mul_emod, ← Int.mul_emod, ← Int.add_emod]
theorem it_per {t : Nat} (ht : t < 9) (c d x y : Int) : ∀ j, (itI c d x y (6 + j + rnd t)).1 % ((2 + t : Nat) : Int) = (itI c d x y (6 + j)).1 % ((2 + t : Nat) : Int) ∧ (itI c d x y (6 + j + rnd t)).2 % ((2 + t : Nat) : Int) = (itI c d x y (6 + j)).2 % ((2 + t : Nat) : Int)
  | 0 => it_round ht c d x y
  | j + 1 => by
    obtain ⟨h1, h2⟩ := it_per ht c d x y j
    rw [show 6 + (j + 1) + rnd t = (6 + j + rnd t) + 1 by omega, show 6 + (j + 1) = (6 + j) + 1 by omega]
    refine ⟨h2, ?_⟩
    show (c * (itI c d x y (6 + j + rnd t)).2 + d * (itI c d x y (6 + j + rnd t)).1) % _ = (c * (itI c d x y (6 + j)).2 + d * (itI c d x y (6 + j)).1) % _
    rw [Int.add_emod, Int.mul_emod, h2, ← Int.mul_emod, Int.mul_emod d, h1, ← Int.mul_emod, ← Int.add_emod]
theorem sm32 {x : Int32} {a b : Int} (h : a ≤ x.toInt ∧ x.toInt ≤ b) : a ≤ x.toInt ∧ x.toInt ≤ b := h
theorem lin32 {c d x y : Int32} (hc : -9 ≤ c ∧ c ≤ 9) (hd : -9 ≤ d ∧ d ≤ 9) (hx : 0 ≤ x.toInt ∧ x.toInt < 10) (hy : 0 ≤ y.toInt ∧ y.toInt < 10) : (c * y + d * x).toInt = c.toInt * y.toInt + d.toInt * x.toInt := by
  have c1 : -9 ≤ c.toInt := by have := hc.1; rw [Int32.le_iff_toInt_le] at this; exact this
  have c2 : c.toInt ≤ 9 := by have := hc.2; rw [Int32.le_iff_toInt_le] at this; exact this
  have d1 : -9 ≤ d.toInt := by have := hd.1; rw [Int32.le_iff_toInt_le] at this; exact this
  have d2 : d.toInt ≤ 9 := by have := hd.2; rw [Int32.le_iff_toInt_le] at this; exact this
  have b1 : ∀ u v : Int, -9 ≤ u → u ≤ 9 → 0 ≤ v → v < 10 → -90 ≤ u * v ∧ u * v ≤ 90 := by
    intro u v h1 h2 h3 h4
    constructor
    · have : -9 * v ≤ u * v := Int.mul_le_mul_of_nonneg_right h1 h3
      omega
    · have : u * v ≤ 9 * v := Int.mul_le_mul_of_nonneg_right h2 h3
      omega
  have e1 := b1 c.toInt y.toInt c1 c2 hy.1 hy.2
  have e2 := b1 d.toInt x.toInt d1 d2 hx.1 hx.2
  rw [Int32.toInt_add, Int32.toInt_mul, Int32.toInt_mul, Int.bmod_eq_of_le (n := c.toInt * y.toInt) (by omega) (by omega), Int.bmod_eq_of_le (n := d.toInt * x.toInt) (by omega) (by omega)]
  exact Int.bmod_eq_of_le (by omega) (by omega)
theorem ct_it {M : Nat} (h1 : 2 ≤ M) (h2 : M ≤ 10) {c d e f : Int32} (hc : -9 ≤ c ∧ c ≤ 9) (hd : -9 ≤ d ∧ d ≤ 9) : ∀ k, ((ctP (nI M) c d e f k).1).toInt = (itI c.toInt d.toInt e.toInt f.toInt k).1 % (M : Int) ∧ ((ctP (nI M) c d e f k).2).toInt = (itI c.toInt d.toInt e.toInt f.toInt k).2 % (M : Int)
  | 0 => ⟨jfm_toInt (by omega) (by omega), jfm_toInt (by omega) (by omega)⟩
  | k + 1 => by
    obtain ⟨a1, a2⟩ := ct_it h1 h2 (e := e) (f := f) hc hd k
    refine ⟨a2, ?_⟩
    have hM : (0 : Int) < M := by omega
    have b1 : 0 ≤ ((ctP (nI M) c d e f k).1).toInt ∧ ((ctP (nI M) c d e f k).1).toInt < 10 := by
      rw [a1]; have := Int.emod_nonneg (itI c.toInt d.toInt e.toInt f.toInt k).1 (show (M : Int) ≠ 0 by omega); have := Int.emod_lt_of_pos (itI c.toInt d.toInt e.toInt f.toInt k).1 hM; omega
    have b2 : 0 ≤ ((ctP (nI M) c d e f k).2).toInt ∧ ((ctP (nI M) c d e f k).2).toInt < 10 := by
      rw [a2]; have := Int.emod_nonneg (itI c.toInt d.toInt e.toInt f.toInt k).2 (show (M : Int) ≠ 0 by omega); have := Int.emod_lt_of_pos (itI c.toInt d.toInt e.toInt f.toInt k).2 hM; omega
    show (jfm (c * (ctP (nI M) c d e f k).2 + d * (ctP (nI M) c d e f k).1) (nI M)).toInt = (c.toInt * (itI c.toInt d.toInt e.toInt f.toInt k).2 + d.toInt * (itI c.toInt d.toInt e.toInt f.toInt k).1) % (M : Int)
    rw [jfm_toInt (by omega) (by omega), lin32 hc hd b1 b2, a1, a2, Int.add_emod, Int.mul_emod, Int.emod_emod, ← Int.mul_emod, Int.mul_emod d.toInt, Int.emod_emod, ← Int.mul_emod, ← Int.add_emod]
theorem ct_per {t : Nat} (ht : t < 9) {c d e f : Int32} (hc : -9 ≤ c ∧ c ≤ 9) (hd : -9 ≤ d ∧ d ≤ 9) {k : Nat} (hk : 6 ≤ k) : ct (nI (2 + t)) c d e f (k + rnd t) = ct (nI (2 + t)) c d e f k := by
  obtain ⟨j, rfl⟩ : ∃ j, k = 6 + j := ⟨k - 6, by omega⟩
  rw [← Int32.toInt_inj]
  show ((ctP (nI (2 + t)) c d e f (6 + j + rnd t)).1).toInt = ((ctP (nI (2 + t)) c d e f (6 + j)).1).toInt
  rw [(ct_it (M := 2 + t) (by omega) (by omega) hc hd _).1, (ct_it (M := 2 + t) (by omega) (by omega) hc hd _).1]
  exact (it_per ht _ _ _ _ j).1
