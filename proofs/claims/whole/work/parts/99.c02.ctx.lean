theorem nw_115 : Cond.methodLinkNest RX10 9 yX3_init RX10 ∈ lw_tbl := List.mem_of_getElem? (i := 115) (by decide +kernel)
theorem nw_148 : Cond.methodLinkNest RX10 30 yX5_init RX10 ∈ lw_tbl := List.mem_of_getElem? (i := 148) (by decide +kernel)
theorem nw_153 : Cond.methodLinkNest RX5 11 yX3_init RX10 ∈ lw_tbl := List.mem_of_getElem? (i := 153) (by decide +kernel)
theorem nw_166 : Cond.methodLinkNest RX10 37 yX2_init RX10 ∈ lw_tbl := List.mem_of_getElem? (i := 166) (by decide +kernel)
theorem nw_182 : Cond.methodLinkNest RX10 44 yX9_init RX10 ∈ lw_tbl := List.mem_of_getElem? (i := 182) (by decide +kernel)
theorem nw_206 : Cond.methodLinkNest RX1 9 yX10_isModulus RX10 ∈ lw_tbl := List.mem_of_getElem? (i := 206) (by decide +kernel)
theorem nw_233 : Cond.methodLinkNest RX10 58 yX0_init RX10 ∈ lw_tbl := List.mem_of_getElem? (i := 233) (by decide +kernel)
theorem nw_361 : Cond.methodLinkNest RX5 59 yX10_numbersOf RX10 ∈ lw_tbl := List.mem_of_getElem? (i := 361) (by decide +kernel)
theorem nw_384 : Cond.methodLinkNest RX5 79 yX10_isWithin RX10 ∈ lw_tbl := List.mem_of_getElem? (i := 384) (by decide +kernel)
theorem nw_571 : Cond.methodLinkNest RX0 54 yX10_isPrime RX10 ∈ lw_tbl := List.mem_of_getElem? (i := 571) (by decide +kernel)
theorem nw_ao : Cond.arrayOver (.object "AheadRows$Cycle") ∈ lw_tbl := List.mem_of_getElem? (i := 200) (by decide +kernel)
theorem nw_ls : Cond.laysStatic "AheadRows$Cycle" "ROUNDS" "[I" ∈ lw_tbl := List.mem_of_getElem? (i := 213) (by decide +kernel)
theorem nw_in : Cond.initialized "AheadRows$Cycle" ∈ lw_tbl := List.mem_of_getElem? (i := 99) (by decide +kernel)
theorem nw_int : Cond.arrayClass .int ∈ lw_tbl := List.mem_of_getElem? (i := 129) (by decide +kernel)
theorem nw_byte : Cond.arrayClass .byte ∈ lw_tbl := List.mem_of_getElem? (i := 955) (by decide +kernel)
theorem nw_boolean : Cond.arrayClass .boolean ∈ lw_tbl := List.mem_of_getElem? (i := 956) (by decide +kernel)
theorem nw_iX0 : Cond.instantiable RX0 5 ∈ lw_tbl := List.mem_of_getElem? (i := 232) (by decide +kernel)
theorem nw_iX1 : Cond.instantiable RX1 3 ∈ lw_tbl := List.mem_of_getElem? (i := 201) (by decide +kernel)
theorem nw_iX2 : Cond.instantiable RX2 3 ∈ lw_tbl := List.mem_of_getElem? (i := 165) (by decide +kernel)
theorem nw_iX3 : Cond.instantiable RX3 3 ∈ lw_tbl := List.mem_of_getElem? (i := 114) (by decide +kernel)
theorem nw_iX4 : Cond.instantiable RX4 2 ∈ lw_tbl := List.mem_of_getElem? (i := 131) (by decide +kernel)
theorem nw_iX5 : Cond.instantiable RX5 3 ∈ lw_tbl := List.mem_of_getElem? (i := 147) (by decide +kernel)
theorem nw_iX6 : Cond.instantiable RX6 2 ∈ lw_tbl := List.mem_of_getElem? (i := 194) (by decide +kernel)
theorem nw_iX9 : Cond.instantiable RX9 2 ∈ lw_tbl := List.mem_of_getElem? (i := 181) (by decide +kernel)
theorem nw_iX10 : Cond.instantiable RX10 13 ∈ lw_tbl := List.mem_of_getElem? (i := 106) (by decide +kernel)
theorem nw_iX11 : Cond.instantiable RX11 33 ∈ lw_tbl := List.mem_of_getElem? (i := 849) (by decide +kernel)
theorem q_tb_in {w : Cond} (h : w ∈ q_tb) : w ∈ lw_tbl := (List.mem_filter.mp h).1
abbrev lwA (s : State) : Nat → Prop := fun q => s.heap.size ≤ q
theorem lw_N {s : State} {a : Array Value} (hts : ∀ w ∈ lw_tbl, w.before a s = true) : q_N s := by
  refine ⟨fun w hw => ?_, va_AO.of (hts _ nw_ao)⟩
  simp only [q_nst, List.mem_cons, List.not_mem_nil, or_false] at hw
  rcases hw with rfl | rfl | rfl | rfl | rfl | rfl | rfl | rfl | rfl | rfl
  · exact va_Nw.of rfl (hts _ nw_115)
  · exact va_Nw.of rfl (hts _ nw_148)
  · exact va_Nw.of rfl (hts _ nw_153)
  · exact va_Nw.of rfl (hts _ nw_166)
  · exact va_Nw.of rfl (hts _ nw_182)
  · exact va_Nw.of rfl (hts _ nw_206)
  · exact va_Nw.of rfl (hts _ nw_233)
  · exact va_Nw.of rfl (hts _ nw_361)
  · exact va_Nw.of rfl (hts _ nw_384)
  · exact va_Nw.of rfl (hts _ nw_571)
theorem lw_S {s : State} {b : Nat} (hts : ∀ w ∈ lw_tbl, w.before #[Value.ref b] s = true) (hgv : (Jvm.Cond.and given_1 narrow_1).before #[Value.ref b] s = true) : q_S (lwA s) s := by
  have hs := flat_of_before _ hgv
  have hA : ∀ a : Nat, a < s.heap.size → ¬ lwA s a := fun a h z => absurd (show s.heap.size ≤ a from z) (by omega)
  have harr : (Cond.arrayOf (.static "AheadRows$Cycle" "ROUNDS" "[I") .int).before #[Value.ref b] s = true := hs _ (by decide +kernel)
  have hlen : (Cond.eq (.length (.static "AheadRows$Cycle" "ROUNDS" "[I")) (.int 9)).before #[Value.ref b] s = true := hs _ (by decide +kernel)
  have h0 : (Cond.eq (.elem (.static "AheadRows$Cycle" "ROUNDS" "[I") (.int 0)) (.int 6)).before #[Value.ref b] s = true := hs _ (by decide +kernel)
  have h1 : (Cond.eq (.elem (.static "AheadRows$Cycle" "ROUNDS" "[I") (.int 1)) (.int 24)).before #[Value.ref b] s = true := hs _ (by decide +kernel)
  have h2 : (Cond.eq (.elem (.static "AheadRows$Cycle" "ROUNDS" "[I") (.int 2)) (.int 12)).before #[Value.ref b] s = true := hs _ (by decide +kernel)
  have h3 : (Cond.eq (.elem (.static "AheadRows$Cycle" "ROUNDS" "[I") (.int 3)) (.int 120)).before #[Value.ref b] s = true := hs _ (by decide +kernel)
  have h4 : (Cond.eq (.elem (.static "AheadRows$Cycle" "ROUNDS" "[I") (.int 4)) (.int 24)).before #[Value.ref b] s = true := hs _ (by decide +kernel)
  have h5 : (Cond.eq (.elem (.static "AheadRows$Cycle" "ROUNDS" "[I") (.int 5)) (.int 336)).before #[Value.ref b] s = true := hs _ (by decide +kernel)
  have h6 : (Cond.eq (.elem (.static "AheadRows$Cycle" "ROUNDS" "[I") (.int 6)) (.int 24)).before #[Value.ref b] s = true := hs _ (by decide +kernel)
  have h7 : (Cond.eq (.elem (.static "AheadRows$Cycle" "ROUNDS" "[I") (.int 7)) (.int 72)).before #[Value.ref b] s = true := hs _ (by decide +kernel)
  have h8 : (Cond.eq (.elem (.static "AheadRows$Cycle" "ROUNDS" "[I") (.int 8)) (.int 120)).before #[Value.ref b] s = true := hs _ (by decide +kernel)
  obtain ⟨t, e1, e2⟩ := va_Tof (A := lwA s) (N := 9) (f := fun j => .int (q_rounds j)) (by decide) harr (va_eqt hlen) (fun j hj => by
    match j, hj with
    | 0, _ => exact va_eqt h0
    | 1, _ => exact va_eqt h1
    | 2, _ => exact va_eqt h2
    | 3, _ => exact va_eqt h3
    | 4, _ => exact va_eqt h4
    | 5, _ => exact va_eqt h5
    | 6, _ => exact va_eqt h6
    | 7, _ => exact va_eqt h7
    | 8, _ => exact va_eqt h8
    ) hA
  exact ⟨t, va_Zof (hts _ nw_ls) (hts _ nw_in) e1 hA, e2⟩
theorem lw_Ar {s : State} {a : Array Value} {ty : FieldType} (h : (Cond.arrayClass ty).before a s = true) : ∃ cA, ArrOfT s cA ty ∧ s.vm.findClass ("[" ++ ty.toString) = some cA := by
  obtain ⟨cA, kA, comp, h1, h2, h3⟩ := Cond.arrayClass_spec h
  exact ⟨cA, fun n z => ⟨fun k h => (by cases h), kA, h2, comp, h3⟩, h1⟩
theorem lw_K {s : State} {b : Nat} (hts : ∀ w ∈ lw_tbl, w.before #[Value.ref b] s = true) : ∃ D tc, q_K D tc s := by
  obtain ⟨c0, i0, K0⟩ := u_known (C := RX0) (T := TX0) (N := 5) (n := 5) hts (fun w h => q_tb_in (uw_X0 w h)) (hts _ nw_iX0)
  obtain ⟨c1, i1, K1⟩ := u_known (C := RX1) (T := TX1) (N := 3) (n := 3) hts (fun w h => q_tb_in (uw_X1 w h)) (hts _ nw_iX1)
  obtain ⟨c2, i2, K2⟩ := u_known (C := RX2) (T := TX2) (N := 3) (n := 3) hts (fun w h => q_tb_in (uw_X2 w h)) (hts _ nw_iX2)
  obtain ⟨c3, i3, K3⟩ := u_known (C := RX3) (T := TX3) (N := 3) (n := 3) hts (fun w h => q_tb_in (uw_X3 w h)) (hts _ nw_iX3)
  obtain ⟨c4, i4, K4⟩ := u_known (C := RX4) (T := TX4) (N := 2) (n := 2) hts (fun w h => q_tb_in (uw_X4 w h)) (hts _ nw_iX4)
  obtain ⟨c5, i5, K5⟩ := u_known (C := RX5) (T := TX5) (N := 3) (n := 3) hts (fun w h => q_tb_in (uw_X5 w h)) (hts _ nw_iX5)
  obtain ⟨c6, i6, K6⟩ := u_known (C := RX6) (T := TX6) (N := 2) (n := 2) hts (fun w h => q_tb_in (uw_X6 w h)) (hts _ nw_iX6)
  obtain ⟨c7, i7, K7⟩ := u_known (C := RX9) (T := TX9) (N := 2) (n := 2) hts (fun w h => q_tb_in (uw_X9 w h)) (hts _ nw_iX9)
  obtain ⟨c8, i8, K8⟩ := u_known (C := RX10) (T := TX10) (N := 13) (n := 13) hts (fun w h => q_tb_in (uw_X10 w h)) (hts _ nw_iX10)
  obtain ⟨c9, i9, K9⟩ := u_known (C := RX11) (T := TX11) (N := 33) (n := 33) hts (fun w h => q_tb_in (uw_X11 w h)) (hts _ nw_iX11)
  obtain ⟨a0, A0, B0⟩ := lw_Ar (hts _ nw_int)
  obtain ⟨a1, A1, B1⟩ := lw_Ar (hts _ nw_byte)
  obtain ⟨a2, A2, B2⟩ := lw_Ar (hts _ nw_boolean)
  obtain ⟨comp, a3, k3, d1, d2, d3, d4, d5⟩ := Cond.arrayOver_spec (hts _ nw_ao)
  refine ⟨(fun k => if k = 0 then c0 else if k = 1 then c1 else if k = 2 then c2 else if k = 3 then c3 else if k = 4 then c4 else if k = 5 then c5 else if k = 6 then c6 else if k = 7 then c7 else if k = 8 then c8 else c9, fun k => if k = 0 then i0 else if k = 1 then i1 else if k = 2 then i2 else if k = 3 then i3 else if k = 4 then i4 else if k = 5 then i5 else if k = 6 then i6 else if k = 7 then i7 else if k = 8 then i8 else i9), fun k => if k = 0 then a0 else if k = 1 then a1 else if k = 2 then a2 else a3, ?_, ?_⟩
  · intro k q hq
    match k, hq with
    | 0, hq => cases hq; exact K0
    | 1, hq => cases hq; exact K1
    | 2, hq => cases hq; exact K2
    | 3, hq => cases hq; exact K3
    | 4, hq => cases hq; exact K4
    | 5, hq => cases hq; exact K5
    | 6, hq => cases hq; exact K6
    | 7, hq => cases hq; exact K7
    | 8, hq => cases hq; exact K8
    | 9, hq => cases hq; exact K9
    | k + 10, hq => simp [vwCl] at hq
  · intro k q hq
    match k, hq with
    | 0, hq => cases hq; exact ⟨A0, B0⟩
    | 1, hq => cases hq; exact ⟨A1, B1⟩
    | 2, hq => cases hq; exact ⟨A2, B2⟩
    | 3, hq => cases hq; exact ⟨fun n z => ⟨fun k h => (by cases h), k3, d3, comp, d4⟩, k3, comp, d3, d4, d1, d5⟩
    | k + 4, hq => simp [q_tys] at hq
/-! two worlds in one heap -/
def W2 (D : va_G) (A : Nat → Prop) (H : Heap) (u v : va_W) : Prop := va_P D vwCl u H ∧ va_P D vwCl v H ∧ va_D A u ∧ va_D A v ∧ ∀ (i j : Nat) (x y : Nat × va_E), u[i]? = some x → v[j]? = some y → x.1 ≠ y.1
theorem W2.sw {D : va_G} {A : Nat → Prop} {H : Heap} {u v : va_W} (h : W2 D A H u v) : W2 D A H v u := ⟨h.2.1, h.1, h.2.2.2.1, h.2.2.1, fun i j x y a b e => h.2.2.2.2 j i y x b a e.symm⟩
theorem W2.join {D : va_G} {A : Nat → Prop} {H H1 : Heap} {u v u1 : va_W} (h : W2 D A H u v) (hk : ∀ q : Nat, q < H.size → ¬ va_A u H.size q → H1[q]? = H[q]?) (hF : ∀ q, va_A u H.size q → A q) (hP1 : va_P D vwCl u1 H1) (hD1 : va_D (va_A u H.size) u1) : W2 D A H1 u1 v := by
  obtain ⟨a1, a2, a3, a4, a5⟩ := h
  have ap : ∀ (j : Nat) (y : Nat × va_E), v[j]? = some y → y.1 < H.size ∧ ¬ va_A u H.size y.1 := fun j y hy => by
    have hl := (a2 j y hy).lt
    refine ⟨hl, fun z => ?_⟩
    rcases z with ⟨k, e, z⟩ | z
    · exact a5 k j (y.1, e) y z hy rfl
    · omega
  refine ⟨hP1, fun j y hy => (a2 j y hy).kept (hk y.1 (ap j y hy).1 (ap j y hy).2), hD1.weaken (fun k q _ z => hF q.1 z), a4, fun i j x y hx hy e => ?_⟩
  exact (ap j y hy).2 (by rw [← e]; exact hD1.2 i x hx)
/-- the law's own standing facts -/
def LC (p : Program) (s : State) (m : MethodId) (meth : Method) (c : Code) (b L : Nat) (xs : Nat → Int32) (D : va_G) (tc : Nat → ClassId) : Prop := lw_At p s m meth c b L xs ∧ q_K D tc s ∧ q_S (lwA s) s ∧ q_N s
section LWC
variable {p : Program} {l : Launch} {e : Env} {s : State} {m : MethodId} {below : List Frame} {meth : Method} {c : Code} {b L : Nat} {xs : Nat → Int32} {D : va_G} {tc : Nat → ClassId} {H : Heap} {locs : List Loc} {kc ks : Nat} {Z : State → Prop} {ls : Array Slot} {ad : Nat → Nat} {w : q_Wd} {v : va_W} {M' : q_M} {cp n pc : Nat} {as rest : List Value} {Q' : q_P}
theorem lw_fr (hW : W2 D (lwA s) H (q_w tc ad w) v) (hS : va_S (lwA s) s.heap H locs) : ∀ q, va_A (q_w tc ad w) H.size q → lwA s q := by
  intro q hq
  rcases hq with ⟨i, e, hi⟩ | hq
  · exact hW.2.2.1.2 i _ hi
  · exact Nat.le_trans hS.1 hq
theorem lw_pre (C0 : LC p s m meth c b L xs D tc) (hW : W2 D (lwA s) H (q_w tc ad w) v) (hS : va_S (lwA s) s.heap H locs) (av : List Value) : FrameBlind (va_Pc av (q_Pre D tc ad H.size w)) ∧ ∀ U : State, U.heap = H → s.WarmedH U.vm → q_Pre D tc ad H.size w U := by
  obtain ⟨hAt, hK, hSt, hN⟩ := C0
  constructor
  · intro a U g mk q
    obtain ⟨q0, q1, q2, q3, q4, q5, q6⟩ := q
    exact ⟨q0, q1, q2, va_K.moved (u := U) (U := U.calling g mk a) (Vm.Alike.refl U.vm) q3, q4, q_S.moved (u := U) (U := U.calling g mk a) (Vm.Alike.refl U.vm) rfl q5, q_N.same (u := U) (U := U.calling g mk a) rfl q6⟩
  · intro U hU hWm
    refine ⟨by rw [hU], by rw [hU]; exact hW.1, va_K.moved hWm.alike hK, hW.2.2.1.weaken (fun _ _ _ _ => trivial), ?_, q_N.warm hWm hN⟩
    obtain ⟨t, h1, h2⟩ := hSt
    exact ⟨t, by rw [hU]; exact ((h1.kept hS.2.1).narrow (lw_fr hW hS)).moved hWm.alike, by rw [hU]; exact ((h2.kept hS.2.1).narrow (lw_fr hW hS)).moved hWm.alike⟩
/-- behind a call of the law -/
theorem lw_back (hW : W2 D (lwA s) H (q_w tc ad w) v) (hS : va_S (lwA s) s.heap H locs) {st0 : List Value} {a : Array Value} (hr : va_Run p l e room_1 s m #[Value.ref b] below meth c H locs kc ks M'.1.cells M'.1.slots (F0 m pc ls st0) rest (q_Q D tc ad w.length (va_A (q_w tc ad w) H.size) Q' a) (va_A (q_w tc ad w) H.size))
    (kk : ∀ r w1 ad1 H1 locs1, Q' r w1 → (∀ i, i < w.length → ad1 i = ad i) → q_okw w1 → W2 D (lwA s) H1 (q_w tc ad1 w1) v → va_S (lwA s) s.heap H1 locs1 → W p l e room_1 s m #[Value.ref b] below meth c H1 locs1 (kc + M'.1.cells) (ks + M'.1.slots) Z (F0 m (pc + 3) ls ((r.map (q_v ad1)).toList ++ rest))) :
    W p l e room_1 s m #[Value.ref b] below meth c H locs kc ks Z (F0 m pc ls st0) := by
  intro T hT X
  obtain ⟨rv, st₀, t, T', Lc, h0, X', hL, e1, e2, ⟨⟨ad1, r, w1, hQ, hv, h1, h2, h3, h4, hP1, hK1, hD1⟩, hz, hk⟩, stp⟩ := hr T hT X
  cases hv
  rw [h0] at hz hk
  have hAB := lw_fr hW hS
  have hS1 : va_S (lwA s) s.heap T'.heap (locs ++ Lc) := by
    refine ⟨Nat.le_trans hS.1 (by rw [e1]; exact hz), fun q q1 q2 => ?_, fun q hq => ?_⟩
    · rw [e1, hk q (Nat.lt_of_lt_of_le q1 hS.1) (fun z => q2 (hAB q z))]
      exact hS.2.1 q q1 q2
    · rcases List.mem_append.mp hq with hq | hq
      · exact hS.2.2 q hq
      · exact hAB _ (hL q hq)
  obtain ⟨t2, a1, b1⟩ := kk r w1 ad1 T'.heap (locs ++ Lc) hQ h1 h3 (hW.join (fun q a b => by rw [e1]; exact hk q a b) hAB (by rw [e1]; exact hP1) hD1) hS1 T' rfl X'
  exact ⟨t2, stp t2 a1, b1⟩
theorem lw_mapi (has : ∀ x ∈ as, ∃ y, x = Value.int y) : as.map (q_v ad) = as := by
  rw [List.map_congr_left (g := id) (fun x hx => ?_), List.map_id]
  obtain ⟨y, rfl⟩ := has x hx
  rfl
theorem lw_hb (C0 : LC p s m meth c b L xs D tc) : ∀ x ∈ q_tb, x.before #[Value.ref b] s = true := fun x hx => C0.1.2.2.2.2.2.1 x (q_tb_in hx)
theorem lw_callV {ci : Nat} {fs : List Value} (C0 : LC p s m meth c b L xs D tc) (hW : W2 D (lwA s) H (q_w tc ad w) v) (hS : va_S (lwA s) s.heap H locs) (how : q_okw w) (hC : Ct l M' (.ref 0 :: as) w Q') (hl : q_LV mL M' cp n) (has : ∀ x ∈ as, ∃ y, x = Value.int y) (hn : as.length = n) (hw : w[0]? = some (.inr (ci, fs))) (hc : (vwCl[ci]?).map (fun q => q.1) = some M'.2.1.cls) (hd : decode code pc = .ok (.invokevirtual cp, 3)) (hsz : ls.size = 4) (hst : (rest.map fun v => v.category).sum ≤ 8) (hk : kc + M'.1.cells ≤ 600000 ∧ ks + M'.1.slots ≤ 7302250)
    (kk : ∀ r w1 ad1 H1 locs1, Q' r w1 → (∀ i, i < w.length → ad1 i = ad i) → q_okw w1 → W2 D (lwA s) H1 (q_w tc ad1 w1) v → va_S (lwA s) s.heap H1 locs1 → W p l e room_1 s m #[Value.ref b] below meth c H1 locs1 (kc + M'.1.cells) (ks + M'.1.slots) Z (F0 m (pc + 3) ls ((r.map (q_v ad1)).toList ++ rest))) :
    W p l e room_1 s m #[Value.ref b] below meth c H locs kc ks Z (F0 m pc ls (as.reverse ++ .ref (ad 0) :: rest)) := by
  obtain ⟨hx, hb, hr, hml, hown, hts0, hX, hbl, hlocks, hgv⟩ := C0.1
  have hts := lw_hb C0
  obtain ⟨⟨l1, l2, l3, l4, l5⟩, l6, l7, l8⟩ := hl
  have hlen : 0 < w.length := (List.getElem?_eq_some_iff.mp hw).1
  have hM := hC D tc ad H.size how (fun x hx => by
    rcases List.mem_cons.mp hx with rfl | hx
    · exact q_ok_ref hlen
    · obtain ⟨y, rfl⟩ := has x hx
      exact q_ok_int)
  rw [show (Value.ref 0 :: as).map (q_v ad) = Value.ref (ad 0) :: as by rw [List.map_cons, lw_mapi has]; rfl] at hM
  obtain ⟨hbl2, hU⟩ := lw_pre C0 hW hS (Value.ref (ad 0) :: as)
  refine lw_back (M' := M') (Q' := Q') (a := (Value.ref (ad 0) :: as).toArray) hW hS (va_runV (C := M'.2.1.cls) (b := ad 0) (As := as) (Ts := q_tb) (own := RL) (nL := 4) ⟨hx, hb, hml, hown, hts⟩ hM ⟨callB_of n hts (q_good l1) rfl rfl rfl (hts _ l2) (hts _ l6) l3 ⟨l4, l5⟩, hts _ l7, hts _ l8⟩ ⟨hbl2, ?_, fun U h1 h2 => ⟨rfl, hU U h1 h2⟩⟩ rfl hn hsz rfl (lv_room hst) hd hk) kk
  obtain ⟨q, hq1, hq2⟩ := Option.map_eq_some_iff.mp hc
  obtain ⟨cell, c1, c2, c3⟩ := va_recv C0.2.1 hW.1 hq1 (q_w_at hw)
  exact ⟨cell, c1, c2, by rw [← hq2]; exact c3⟩
theorem lw_callI (C0 : LC p s m meth c b L xs D tc) (hW : W2 D (lwA s) H (q_w tc ad w) v) (hS : va_S (lwA s) s.heap H locs) (how : q_okw w) (hC : Ct l M' [.ref 0] w Q') (hl : q_LI mL M' cp 0) (hlen : 0 < w.length) (hd : decode code pc = .ok (.invokespecial cp, 3)) (hsz : ls.size = 4) (hst : (rest.map fun v => v.category).sum ≤ 8) (hk : kc + M'.1.cells ≤ 600000 ∧ ks + M'.1.slots ≤ 7302250)
    (kk : ∀ r w1 ad1 H1 locs1, Q' r w1 → (∀ i, i < w.length → ad1 i = ad i) → q_okw w1 → W2 D (lwA s) H1 (q_w tc ad1 w1) v → va_S (lwA s) s.heap H1 locs1 → W p l e room_1 s m #[Value.ref b] below meth c H1 locs1 (kc + M'.1.cells) (ks + M'.1.slots) Z (F0 m (pc + 3) ls ((r.map (q_v ad1)).toList ++ rest))) :
    W p l e room_1 s m #[Value.ref b] below meth c H locs kc ks Z (F0 m pc ls (.ref (ad 0) :: rest)) := by
  obtain ⟨hx, hb, hr, hml, hown, hts0, hX, hbl, hlocks, hgv⟩ := C0.1
  have hts := lw_hb C0
  obtain ⟨⟨l1, l2, l3, l4, l5⟩, l6, l7, l8, l9⟩ := hl
  have hM := hC D tc ad H.size how (fun x hx => by
    rcases List.mem_cons.mp hx with rfl | hx
    · exact q_ok_ref hlen
    · cases hx)
  rw [show [Value.ref 0].map (q_v ad) = [Value.ref (ad 0)] from rfl] at hM
  obtain ⟨hbl2, hU⟩ := lw_pre C0 hW hS [Value.ref (ad 0)]
  exact lw_back (M' := M') (Q' := Q') (a := [Value.ref (ad 0)].toArray) hW hS (va_runI (b := ad 0) (As := []) (Ts := q_tb) (own := RL) (nL := 4) ⟨hx, hb, hml, hown, hts⟩ hM ⟨callB_of (ws' := q_tb) 0 hts (q_good l1) (by rw [q_ws, l9]) rfl rfl (hts _ l2) (hts _ l6) l3 ⟨l4, l5⟩, l7, hts _ l8⟩ ⟨hbl2, fun U h1 h2 => ⟨rfl, hU U h1 h2⟩⟩ rfl rfl hsz rfl (lv_room hst) hd hk) kk
end LWC
