def q_ws (M : q_M) : List Cond := .code M.2.1 M.2.2.1 M.2.2.2.1 M.2.2.2.2 :: q_tb
def q_Pre (D : va_G) (tc : Nat → ClassId) (ad : Nat → Nat) (sz : Nat) (w : q_Wd) (U : State) : Prop := U.heap.size = sz ∧ va_P D vwCl (q_w tc ad w) U.heap ∧ q_K D tc U ∧ va_D (fun _ => True) (q_w tc ad w) ∧ q_S (va_A (q_w tc ad w) sz) U ∧ q_N U
/-- a method's contract -/
def Ct (l : Launch) (M : q_M) (as : List Value) (w : q_Wd) (Q : q_P) : Prop :=
  ∀ (D : va_G) (tc : Nat → ClassId) (ad : Nat → Nat) (sz : Nat), q_okw w → (∀ v ∈ as, q_ok w.length v) → Met l M.2.1 (q_ws M) M.1 (va_Pc (as.map (q_v ad)) (q_Pre D tc ad sz w)) (q_Q D tc ad w.length (va_A (q_w tc ad w) sz) Q) M.1.cells M.1.slots (va_A (q_w tc ad w) sz)
def q_ent : List Value → Nat → q_Ls
  | [], n => List.replicate n none
  | v :: t, n => if v.category = 2 then some v :: none :: q_ent t (n - 2) else some v :: q_ent t (n - 1)
theorem q_ent_in : ∀ (as : List Value) (n b i : Nat) (v : Value) (ad : Nat → Nat), (q_ent as n)[i]? = some (some v) → (b + i, q_v ad v) ∈ lv_args b (as.map (q_v ad)) ∧ v ∈ as
  | [], n, b, i, v, ad, h => by
    simp only [q_ent, List.getElem?_replicate] at h
    split at h <;> simp at h
  | a :: t, n, b, i, v, ad, h => by
    simp only [q_ent] at h
    simp only [List.map_cons, lv_args, q_cat]
    by_cases hc : a.category = 2
    · rw [if_pos hc] at h ⊢
      match i, h with
      | 0, h =>
        simp at h
        subst h
        exact ⟨List.mem_cons_self, List.mem_cons_self⟩
      | 1, h => simp at h
      | i + 2, h =>
        simp only [List.getElem?_cons_succ] at h
        obtain ⟨h1, h2⟩ := q_ent_in t _ (b + 2) i v ad h
        exact ⟨List.mem_cons_of_mem _ (by rw [show b + (i + 2) = b + 2 + i by omega]; exact h1), List.mem_cons_of_mem _ h2⟩
    · rw [if_neg hc] at h ⊢
      match i, h with
      | 0, h =>
        simp at h
        subst h
        exact ⟨List.mem_cons_self, List.mem_cons_self⟩
      | i + 1, h =>
        simp only [List.getElem?_cons_succ] at h
        obtain ⟨h1, h2⟩ := q_ent_in t _ (b + 1) i v ad h
        exact ⟨List.mem_cons_of_mem _ (by rw [show b + (i + 1) = b + 1 + i by omega]; exact h1), List.mem_cons_of_mem _ h2⟩
theorem q_sl_len (ad : Nat → Nat) : ∀ as : List Value, (lg_sl (as.map (q_v ad))).length = (as.map fun v => v.category).sum
  | [] => rfl
  | v :: t => by
    have ih := q_sl_len ad t
    simp only [lg_sl, List.map_cons, List.flatMap_cons, List.length_append, List.sum_cons, q_cat] at ih ⊢
    rw [ih]
    rcases lv_cat v with h | h <;> simp [h]
theorem Ct.of {l : Launch} {M : q_M} {as : List Value} {w : q_Wd} {Q : q_P} (hpl : plainName M.2.1.cls = true) (hlen : (as.map fun v => v.category).sum ≤ M.2.2.2.1) (h : Go l M w.length Q (0, 0) 0 (q_ent as M.2.2.2.1) [] w) : Ct l M as w Q := by
  intro D tc ad sz how hoa
  refine Met.ofW (cc := M.2.2.1) (maxL := M.2.2.2.1) (ret := M.2.2.2.2) hpl rfl ?_
  intro p e s m args below meth c s₁ B hml hv
  obtain ⟨rfl, hsz, hP, hK, hD0, hSt, hN⟩ := hv
  have hts0 := atoms_spec (ws := q_ws M) B.pre
  have hts : ∀ w ∈ q_tb, w.before (as.map (q_v ad)).toArray s = true := fun w h => hts0 w (List.mem_cons_of_mem _ h)
  have hown : s.vm.findClass M.2.1.cls = some m.cls := findClass_of_methodNamed B.named
  subst hsz
  have hD := hD0.self (sz := s.heap.size)
  have hl := lv_entry (as.map (q_v ad)) (n := M.2.2.2.1) (by rw [q_sl_len]; exact hlen)
  rw [lg_entry_eq]
  refine h p e s m _ below meth c D tc ad ad _ s.heap [] _ ⟨⟨B.exec, B.bytes, hml, hown, hts, B.returns, B.notSynchronized, (name_of_methodNamed B.named B.method).1, fun q h => Or.inr h, hSt, hN⟩, hK, fun _ _ => rfl, Nat.le_refl _, how, ?_, (fun v hv => by cases hv), hP, hD, va_S.rf, hl.1, hl.2.1, ?_⟩
  · exact fun i v hi => hoa v (q_ent_in as _ 0 i v ad hi).2
  · intro i v hi
    have h1 := (q_ent_in as _ 0 i v ad hi).1
    rw [Nat.zero_add] at h1
    exact hl.2.2 _ h1
theorem Ct.mono {l : Launch} {M : q_M} {as : List Value} {w : q_Wd} {Q Q' : q_P} (h : Ct l M as w Q) (hq : ∀ r w', Q r w' → Q' r w') : Ct l M as w Q' := by
  intro D tc ad sz how hoa p e ha hc hk s m args below hf happ hP hT
  obtain ⟨k, o, h1, h2, h3, ⟨⟨⟨ad1, r, w1, hQ, hr⟩, hF⟩, hL⟩⟩ := h D tc ad sz how hoa p e ha hc hk s m args below hf happ hP hT
  exact ⟨k, o, h1, h2, h3, ⟨⟨ad1, r, w1, hq r w1 hQ, hr⟩, hF⟩, hL⟩
section G4
variable {l : Launch} {M : q_M} {n0 : Nat} {Q : q_P} {k : Nat × Nat} {pc : Nat} {L : q_Ls} {st : List Value} {w : q_Wd}
theorem q_ret {p : Program} {s : State} {m : MethodId} {args : Array Value} {meth : Method} {c : Code} {D : va_G} {tc : Nat → ClassId} {ad0 ad : Nat → Nat} {A : Nat → Prop} {H : Heap} {locs : List Loc} {ls : Array Slot} {r : Option Value}
    (hI : q_I M n0 L r.toList w p s m args meth c D tc ad0 ad A H locs ls) (hq : Q r w) (t : State) (ht : t.heap = H) (hW : s.WarmedH t.vm) : q_Q D tc ad0 n0 A Q args s (.returned (r.map (q_v ad))) t := by
  obtain ⟨hX, hK, had, hn0, how, hoL, hos, hP, hD, hS, hls⟩ := hI
  exact ⟨⟨ad, r, w, hq, rfl, had, hn0, how, fun v hv => hos v (by rw [hv]; exact List.mem_cons_self), by rw [ht]; exact hP, va_K.moved hW.alike hK, hD⟩, hS.F ht⟩
theorem g_iret {v : Int32} (hd : decode M.2.2.1 pc = .ok (.ireturn, 1)) (hr : M.2.2.2.2 = some .int) (hk : k = (M.1.cells, M.1.slots)) (hq : Q (some (.int v)) w) : Go l M n0 Q k pc L [.int v] w := by
  intro p e s m args below meth c D tc ad0 ad A H locs ls hI
  subst hk
  exact W.iret (v := v) hI.1.1 hI.1.2.1 (hI.1.2.2.2.2.2.1.trans hr) (fun t ht hW => q_ret (r := some (.int v)) hI hq t ht hW) hI.2.2.2.2.2.2.2.2.2.1.2.2 hd hI.1.2.2.2.2.2.2.1
theorem g_zret {v : Int32} (hd : decode M.2.2.1 pc = .ok (.ireturn, 1)) (hr : M.2.2.2.2 = some .boolean) (hk : k = (M.1.cells, M.1.slots)) (hv : v &&& 1 = v) (hq : Q (some (.int v)) w) : Go l M n0 Q k pc L [.int v] w := by
  intro p e s m args below meth c D tc ad0 ad A H locs ls hI
  subst hk
  exact W.zret (v := v) hI.1.1 hI.1.2.1 (hI.1.2.2.2.2.2.1.trans hr) (show Value.int (v &&& 1) = .int v by rw [hv]) (fun t ht hW => q_ret (r := some (.int v)) hI hq t ht hW) hI.2.2.2.2.2.2.2.2.2.1.2.2 hd hI.1.2.2.2.2.2.2.1
theorem g_lret {v : Int64} (hd : decode M.2.2.1 pc = .ok (.lreturn, 1)) (hr : M.2.2.2.2 = some .long) (hk : k = (M.1.cells, M.1.slots)) (hq : Q (some (.long v)) w) : Go l M n0 Q k pc L [.long v] w := by
  intro p e s m args below meth c D tc ad0 ad A H locs ls hI
  subst hk
  exact W.lret (v := v) hI.1.1 hI.1.2.1 (hI.1.2.2.2.2.2.1.trans hr) (fun t ht hW => q_ret (r := some (.long v)) hI hq t ht hW) hI.2.2.2.2.2.2.2.2.2.1.2.2 hd hI.1.2.2.2.2.2.2.1
theorem g_aret {v : Nat} {C : String} (hd : decode M.2.2.1 pc = .ok (.areturn, 1)) (hr : M.2.2.2.2 = some (.object C)) (hk : k = (M.1.cells, M.1.slots)) (hq : Q (some (.ref v)) w) : Go l M n0 Q k pc L [.ref v] w := by
  intro p e s m args below meth c D tc ad0 ad A H locs ls hI
  subst hk
  exact W.aret (v := .ref (ad v)) hI.1.1 hI.1.2.1 (hI.1.2.2.2.2.2.1.trans hr) (Or.inl ⟨C, rfl⟩) (Or.inr ⟨_, rfl⟩) (fun t ht hW => q_ret (r := some (.ref v)) hI hq t ht hW) hI.2.2.2.2.2.2.2.2.2.1.2.2 hd hI.1.2.2.2.2.2.2.1
theorem g_vret (hd : decode M.2.2.1 pc = .ok (.return_, 1)) (hr : M.2.2.2.2 = none) (hk : k = (M.1.cells, M.1.slots)) (hq : Q none w) : Go l M n0 Q k pc L [] w := by
  intro p e s m args below meth c D tc ad0 ad A H locs ls hI
  subst hk
  exact W.vret hI.1.1 hI.1.2.1 (hI.1.2.2.2.2.2.1.trans hr) (fun t ht hW => q_ret (r := none) hI hq t ht hW) hI.2.2.2.2.2.2.2.2.2.1.2.2 hd hI.1.2.2.2.2.2.2.1
theorem g_ldc {cp : Nat} {v : Int32} (hd : decode M.2.2.1 pc = .ok (.ldc cp, 2)) (hc : Cond.constant M.2.1.cls cp v ∈ q_tb) (kk : Go l M n0 Q k (pc + 2) L (.int v :: st) w) : Go l M n0 Q k pc L st w := by
  intro p e s m args below meth c D tc ad0 ad A H locs ls hI
  obtain ⟨hX, hK, had, hn0, how, hoL, hos, hP, hD, hS, hls⟩ := hI
  exact lv_ldc hX.1 hX.2.1 hX.2.2.2.1 (hX.2.2.2.2.1 _ hc) hd (kk p e s m args below meth c D tc ad0 ad A H locs ls ⟨hX, hK, had, hn0, how, hoL, q_okp q_ok_int (fun _ z => z) hos, hP, hD, hS, hls⟩)
theorem g_ldcw {cp : Nat} {v : Int32} (hd : decode M.2.2.1 pc = .ok (.ldc_w cp, 3)) (hc : Cond.constant M.2.1.cls cp v ∈ q_tb) (kk : Go l M n0 Q k (pc + 3) L (.int v :: st) w) : Go l M n0 Q k pc L st w := by
  intro p e s m args below meth c D tc ad0 ad A H locs ls hI
  obtain ⟨hX, hK, had, hn0, how, hoL, hos, hP, hD, hS, hls⟩ := hI
  exact lv_ldcw hX.1 hX.2.1 hX.2.2.2.1 (hX.2.2.2.2.1 _ hc) hd (kk p e s m args below meth c D tc ad0 ad A H locs ls ⟨hX, hK, had, hn0, how, hoL, q_okp q_ok_int (fun _ z => z) hos, hP, hD, hS, hls⟩)
theorem g_ldc2 {cp : Nat} {v : Int64} (hd : decode M.2.2.1 pc = .ok (.ldc2_w cp, 3)) (hc : Cond.constantLong M.2.1.cls cp v ∈ q_tb) (kk : Go l M n0 Q k (pc + 3) L (.long v :: st) w) : Go l M n0 Q k pc L st w := by
  intro p e s m args below meth c D tc ad0 ad A H locs ls hI
  obtain ⟨hX, hK, had, hn0, how, hoL, hos, hP, hD, hS, hls⟩ := hI
  exact lv_ldc2 hX.1 hX.2.1 hX.2.2.2.1 (hX.2.2.2.2.1 _ hc) hd (kk p e s m args below meth c D tc ad0 ad A H locs ls ⟨hX, hK, had, hn0, how, hoL, q_okp q_ok_long (fun _ z => z) hos, hP, hD, hS, hls⟩)
/-! calls -/
def q_LB (M M' : q_M) (n : Nat) : Prop := Cond.code M'.2.1 M'.2.2.1 M'.2.2.2.1 M'.2.2.2.2 ∈ q_tb ∧ Cond.initialized M'.2.1.cls ∈ q_tb ∧ (M'.2.1.cls ≠ "java/lang/invoke/MethodHandle" ∧ M'.2.1.cls ≠ "java/lang/invoke/VarHandle" ∧ (parseMethodDescriptor M'.2.1.desc).map (fun d => d.parameters.length) = some n) ∧ M'.1.frames + 1 ≤ M.1.frames ∧ 8 + (M'.2.2.2.1 + 11) + M'.1.locals ≤ M.1.locals
def q_LV (M M' : q_M) (cp n : Nat) : Prop := q_LB M M' n ∧ Cond.methodLink M.2.1.cls cp M'.2.1 ∈ q_tb ∧ Cond.instanceMethod M'.2.1 ∈ q_tb ∧ Cond.selects M'.2.1.cls M'.2.1 M'.2.1 ∈ q_tb
def q_LS (M M' : q_M) (cp n : Nat) : Prop := q_LB M M' n ∧ Cond.methodLink M.2.1.cls cp M'.2.1 ∈ q_tb ∧ Cond.static M'.2.1 ∈ q_tb
def q_LI (M M' : q_M) (cp n : Nat) : Prop := q_LB M M' n ∧ Cond.methodLink M.2.1.cls cp M'.2.1 ∈ q_tb ∧ M'.2.1.name = "<init>" ∧ Cond.instanceMethod M'.2.1 ∈ q_tb ∧ M'.2.2.2.2 = none
def q_LSN (M M' : q_M) (cp n : Nat) : Prop := q_LB M M' n ∧ Cond.methodLinkNest M.2.1.cls cp M'.2.1 RX10 ∈ q_nst ∧ Cond.static M'.2.1 ∈ q_tb
def q_LIN (M M' : q_M) (cp n : Nat) : Prop := q_LB M M' n ∧ Cond.methodLinkNest M.2.1.cls cp M'.2.1 RX10 ∈ q_nst ∧ M'.2.1.name = "<init>" ∧ Cond.instanceMethod M'.2.1 ∈ q_tb ∧ M'.2.2.2.2 = none
theorem q_good {M' : q_M} (h : Cond.code M'.2.1 M'.2.2.1 M'.2.2.2.1 M'.2.2.2.2 ∈ q_tb) : GoodIn q_tb (q_ws M') := by
  intro w hw
  rcases List.mem_cons.mp hw with rfl | hw
  · exact ⟨h, good_of_word (List.mem_filter.mp h).2⟩
  · exact ⟨hw, good_of_word (List.mem_filter.mp hw).2⟩
theorem q_S.moved {A : Nat → Prop} {u U : State} (hvm : u.vm.Alike U.vm) (hh : U.heap = u.heap) (h : q_S A u) : q_S A U := by
  obtain ⟨t, h1, h2⟩ := h
  exact ⟨t, by rw [hh]; exact h1.moved hvm, by rw [hh]; exact h2.moved hvm⟩
theorem q_N.warm {s U : State} (hW : s.WarmedH U.vm) (h : q_N s) : q_N U := by
  refine ⟨fun w hw => ?_, h.2.moved hW.alike⟩
  have h1 := h.1 w hw
  simp only [q_nst, List.mem_cons, List.not_mem_nil, or_false] at hw
  rcases hw with rfl | rfl | rfl | rfl | rfl | rfl | rfl | rfl | rfl | rfl <;> exact h1.warmM hW
theorem q_N.same {u U : State} (hv : u.vm = U.vm) (h : q_N u) : q_N U := by
  refine ⟨fun w hw => ?_, ?_⟩
  · have h1 := h.1 w hw
    simp only [q_nst, List.mem_cons, List.not_mem_nil, or_false] at hw
    rcases hw with rfl | rfl | rfl | rfl | rfl | rfl | rfl | rfl | rfl | rfl <;> exact h1.same rfl hv
  · exact h.2.moved (by rw [hv]; exact Vm.Alike.refl _)
/-- the callee's start, at a call -/
theorem q_start {as : List Value} {p : Program} {s : State} {m : MethodId} {args : Array Value} {meth : Method} {c : Code} {D : va_G} {tc : Nat → ClassId} {ad0 ad : Nat → Nat} {A : Nat → Prop} {H : Heap} {locs : List Loc} {ls : Array Slot} {S : List Value}
    (hI : q_I M n0 L S w p s m args meth c D tc ad0 ad A H locs ls) : FrameBlind (va_Pc as (q_Pre D tc ad H.size w)) ∧ ∀ U : State, U.heap = H → s.WarmedH U.vm → q_Pre D tc ad H.size w U := by
  obtain ⟨hX, hK, had, hn0, how, hoL, hos, hP, hD, hS, hls⟩ := hI
  constructor
  · intro a U g mk q
    obtain ⟨q0, q1, q2, q3, q4, q5, q6⟩ := q
    exact ⟨q0, q1, q2, va_K.moved (u := U) (U := U.calling g mk a) (Vm.Alike.refl U.vm) q3, q4, q_S.moved (u := U) (U := U.calling g mk a) (Vm.Alike.refl U.vm) rfl q5, q_N.same (u := U) (U := U.calling g mk a) rfl q6⟩
  · intro U hU hW
    refine ⟨by rw [hU], by rw [hU]; exact hP, va_K.moved hW.alike hK, hD.weaken (fun _ _ _ _ => trivial), ?_, q_N.warm hW hX.2.2.2.2.2.2.2.2.2.2⟩
    obtain ⟨t, h1, h2⟩ := hX.2.2.2.2.2.2.2.2.2.1
    have hAB : ∀ q, va_A (q_w tc ad w) H.size q → A q := by
      intro q hq
      rcases hq with ⟨i, e, hi⟩ | hq
      · exact hD.2 i _ hi
      · exact hX.2.2.2.2.2.2.2.2.1 q (Nat.le_trans hS.1 hq)
    exact ⟨t, by rw [hU]; exact ((h1.kept hS.2.1).narrow hAB).moved hW.alike, by rw [hU]; exact ((h2.kept hS.2.1).narrow hAB).moved hW.alike⟩
/-- behind a call -/
theorem q_back {M' : q_M} {st : List Value} {Q' : q_P} {p : Program} {e : Env} {s : State} {m : MethodId} {args : Array Value} {below : List Frame} {meth : Method} {c : Code} {D : va_G} {tc : Nat → ClassId} {ad0 ad : Nat → Nat} {A : Nat → Prop} {H : Heap} {locs : List Loc} {ls : Array Slot} {S : List Value} {st0 : List Value} {a : Array Value}
    (hI : q_I M n0 L S w p s m args meth c D tc ad0 ad A H locs ls) (hst : ∀ v ∈ st, v ∈ S)
    (hr : va_Run p l e M.1 s m args below meth c H locs k.1 k.2 M'.1.cells M'.1.slots (F0 m pc ls st0) (st.map (q_v ad)) (q_Q D tc ad w.length (va_A (q_w tc ad w) H.size) Q' a) (va_A (q_w tc ad w) H.size))
    (kk : ∀ r w1, Q' r w1 → Go l M n0 Q (k.1 + M'.1.cells, k.2 + M'.1.slots) (pc + 3) L (r.toList ++ st) w1) :
    W p l e M.1 s m args below meth c H locs k.1 k.2 (MQ below (q_Q D tc ad0 n0 A Q) args s M.1.cells M.1.slots A) (F0 m pc ls st0) := by
  obtain ⟨hX, hK, had, hn0, how, hoL, hos, hP, hD, hS, hls⟩ := hI
  intro T hT X
  obtain ⟨v, st₀, t, T', Lc, h0, X', hL, e1, e2, ⟨⟨ad1, r, w1, hQ, hv, h1, h2, h3, h4, hP1, hK1, hD1⟩, hz, hk⟩, stp⟩ := hr T hT X
  cases hv
  rw [h0] at hz hk
  have hAB : ∀ q, va_A (q_w tc ad w) H.size q → A q := by
    intro q hq
    rcases hq with ⟨i, e, hi⟩ | hq
    · exact hD.2 i _ hi
    · exact hX.2.2.2.2.2.2.2.2.1 q (Nat.le_trans hS.1 hq)
  have hS1 : va_S A s.heap T'.heap (locs ++ Lc) := by
    refine ⟨Nat.le_trans hS.1 (by rw [e1]; exact hz), fun q q1 q2 => ?_, fun q hq => ?_⟩
    · rw [e1, hk q (Nat.lt_of_lt_of_le q1 hS.1) (fun z => q2 (hAB q z))]
      exact hS.2.1 q q1 q2
    · rcases List.mem_append.mp hq with hq | hq
      · exact hS.2.2 q hq
      · exact hAB _ (hL q hq)
  have hmap : (r.map (q_v ad1)).toList ++ st.map (q_v ad) = (r.toList ++ st).map (q_v ad1) := by
    rw [List.map_append, List.map_congr_left (fun v hv => q_v_same h1 (hos v (hst v hv)))]
    cases r <;> rfl
  obtain ⟨t2, a1, b1⟩ := kk r w1 hQ p e s m args below meth c D tc ad0 ad1 A T'.heap (locs ++ Lc) ls ⟨hX, hK, fun i hi => (h1 i (Nat.lt_of_lt_of_le hi hn0)).trans (had i hi), Nat.le_trans hn0 h2, h3, hoL.mono h2, fun v hv => by
      rcases List.mem_append.mp hv with hv | hv
      · exact h4 v (Option.mem_toList.mp hv)
      · exact (hos v (hst v hv)).mono h2, by rw [e1]; exact hP1, hD1.weaken (fun _ _ _ z => hAB _ z), hS1, ⟨hls.1, hls.2.1, fun i v hi => by rw [q_v_same h1 (hoL i v hi)]; exact hls.2.2 i v hi⟩⟩ T' rfl X'
  refine ⟨t2, stp t2 ?_, b1⟩
  rw [← hmap] at a1
  exact a1
theorem q_map_rev {ad : Nat → Nat} {as st : List Value} : (as.reverse ++ st).map (q_v ad) = (as.map (q_v ad)).reverse ++ st.map (q_v ad) := by
  rw [List.map_append, List.map_reverse]
theorem g_callV {M' : q_M} {cp ci i n : Nat} {as : List Value} {fs : List Value} {Q' : q_P} {S : List Value} (hC : Ct l M' (.ref i :: as) w Q') (hl : q_LV M M' cp n) (hs : as.reverse ++ .ref i :: st = S) (hn : as.length = n) (hd : decode M.2.2.1 pc = .ok (.invokevirtual cp, 3)) (hw : w[i]? = some (.inr (ci, fs))) (hc : (vwCl[ci]?).map (fun q => q.1) = some M'.2.1.cls) (hst : (st.map fun v => v.category).sum ≤ 8) (hk : k.1 + M'.1.cells ≤ M.1.cells ∧ k.2 + M'.1.slots ≤ M.1.slots)
    (kk : ∀ r w1, Q' r w1 → Go l M n0 Q (k.1 + M'.1.cells, k.2 + M'.1.slots) (pc + 3) L (r.toList ++ st) w1) : Go l M n0 Q k pc L S w := by
  subst hs
  intro p e s m args below meth c D tc ad0 ad A H locs ls hI
  obtain ⟨hX, hK, had, hn0, how, hoL, hos, hP, hD, hS, hls⟩ := id hI
  obtain ⟨⟨l1, l2, l3, l4, l5⟩, l6, l7, l8⟩ := hl
  have hts := hX.2.2.2.2.1
  obtain ⟨hbl, hU⟩ := q_start (as := (.ref i :: as).map (q_v ad)) hI
  refine q_back (M' := M') (Q' := Q') (a := (Value.ref (ad i) :: as.map (q_v ad)).toArray) hI (fun v hv => List.mem_append_right _ (List.mem_cons_of_mem _ hv)) (va_runV (C := M'.2.1.cls) (b := ad i) (As := as.map (q_v ad)) (Ts := q_tb) (own := M.2.1.cls) ⟨hX.1, hX.2.1, hX.2.2.1, hX.2.2.2.1, hts⟩ (hC D tc ad H.size how (fun v hv => ?_)) ⟨callB_of n hts (q_good l1) rfl rfl rfl (hts _ l2) (hts _ l6) l3 ⟨l4, l5⟩, hts _ l7, hts _ l8⟩ ⟨hbl, ?_, fun U h1 h2 => ⟨rfl, hU U h1 h2⟩⟩ rfl (by rw [List.length_map]; exact hn) hls.1 ?_ (lv_room (by rw [q_cats]; exact hst)) hd hk) kk
  · rcases List.mem_cons.mp hv with rfl | hv
    · exact hos _ (List.mem_append_right _ List.mem_cons_self)
    · exact hos v (List.mem_append_left _ (List.mem_reverse.mpr hv))
  · obtain ⟨q, hq1, hq2⟩ := Option.map_eq_some_iff.mp hc
    obtain ⟨cell, c1, c2, c3⟩ := va_recv hK hP hq1 (q_w_at hw)
    exact ⟨cell, c1, c2, by rw [← hq2]; exact c3⟩
  · show (as.reverse ++ .ref i :: st).map (q_v ad) = _
    rw [q_map_rev]; rfl
theorem g_callS {M' : q_M} {cp n : Nat} {as : List Value} {Q' : q_P} {S : List Value} (hC : Ct l M' as w Q') (hl : q_LS M M' cp n) (hs : as.reverse ++ st = S) (hn : as.length = n) (hd : decode M.2.2.1 pc = .ok (.invokestatic cp, 3)) (hst : (st.map fun v => v.category).sum ≤ 8) (hk : k.1 + M'.1.cells ≤ M.1.cells ∧ k.2 + M'.1.slots ≤ M.1.slots)
    (kk : ∀ r w1, Q' r w1 → Go l M n0 Q (k.1 + M'.1.cells, k.2 + M'.1.slots) (pc + 3) L (r.toList ++ st) w1) : Go l M n0 Q k pc L S w := by
  subst hs
  intro p e s m args below meth c D tc ad0 ad A H locs ls hI
  obtain ⟨hX, hK, had, hn0, how, hoL, hos, hP, hD, hS, hls⟩ := id hI
  obtain ⟨⟨l1, l2, l3, l4, l5⟩, l6, l7⟩ := hl
  have hts := hX.2.2.2.2.1
  obtain ⟨hbl, hU⟩ := q_start (as := as.map (q_v ad)) hI
  refine q_back (M' := M') (Q' := Q') (a := (as.map (q_v ad)).toArray) hI (fun v hv => List.mem_append_right _ hv) (va_runS (As := as.map (q_v ad)) (Ts := q_tb) (own := M.2.1.cls) ⟨hX.1, hX.2.1, hX.2.2.1, hX.2.2.2.1, hts⟩ (hC D tc ad H.size how (fun v hv => hos v (List.mem_append_left _ (List.mem_reverse.mpr hv)))) ⟨callB_of n hts (q_good l1) rfl rfl rfl (hts _ l2) (hts _ l6) l3 ⟨l4, l5⟩, hts _ l7⟩ ⟨hbl, fun U h1 h2 => ⟨rfl, hU U h1 h2⟩⟩ rfl (by rw [List.length_map]; exact hn) hls.1 ?_ (lv_room (by rw [q_cats]; exact hst)) hd hk) kk
  show (as.reverse ++ st).map (q_v ad) = _
  rw [q_map_rev]
theorem g_callI {M' : q_M} {cp i n : Nat} {as : List Value} {Q' : q_P} {S : List Value} (hC : Ct l M' (.ref i :: as) w Q') (hl : q_LI M M' cp n) (hs : as.reverse ++ .ref i :: st = S) (hn : as.length = n) (hd : decode M.2.2.1 pc = .ok (.invokespecial cp, 3)) (hst : (st.map fun v => v.category).sum ≤ 8) (hk : k.1 + M'.1.cells ≤ M.1.cells ∧ k.2 + M'.1.slots ≤ M.1.slots)
    (kk : ∀ r w1, Q' r w1 → Go l M n0 Q (k.1 + M'.1.cells, k.2 + M'.1.slots) (pc + 3) L (r.toList ++ st) w1) : Go l M n0 Q k pc L S w := by
  subst hs
  intro p e s m args below meth c D tc ad0 ad A H locs ls hI
  obtain ⟨hX, hK, had, hn0, how, hoL, hos, hP, hD, hS, hls⟩ := id hI
  obtain ⟨⟨l1, l2, l3, l4, l5⟩, l6, l7, l8, l9⟩ := hl
  have hts := hX.2.2.2.2.1
  obtain ⟨hbl, hU⟩ := q_start (as := (.ref i :: as).map (q_v ad)) hI
  have hM := hC D tc ad H.size how (fun v hv => by
    rcases List.mem_cons.mp hv with rfl | hv
    · exact hos _ (List.mem_append_right _ List.mem_cons_self)
    · exact hos v (List.mem_append_left _ (List.mem_reverse.mpr hv)))
  refine q_back (M' := M') (Q' := Q') (a := (Value.ref (ad i) :: as.map (q_v ad)).toArray) hI (fun v hv => List.mem_append_right _ (List.mem_cons_of_mem _ hv)) (va_runI (b := ad i) (As := as.map (q_v ad)) (Ts := q_tb) (own := M.2.1.cls) ⟨hX.1, hX.2.1, hX.2.2.1, hX.2.2.2.1, hts⟩ hM ⟨callB_of (ws' := q_tb) n hts (q_good l1) (by rw [q_ws, l9]) rfl rfl (hts _ l2) (hts _ l6) l3 ⟨l4, l5⟩, l7, hts _ l8⟩ ⟨hbl, fun U h1 h2 => ⟨rfl, hU U h1 h2⟩⟩ rfl (by rw [List.length_map]; exact hn) hls.1 ?_ (lv_room (by rw [q_cats]; exact hst)) hd hk) kk
  show (as.reverse ++ .ref i :: st).map (q_v ad) = _
  rw [q_map_rev]; rfl
theorem g_callSN {M' : q_M} {cp n : Nat} {as : List Value} {Q' : q_P} {S : List Value} (hC : Ct l M' as w Q') (hl : q_LSN M M' cp n) (hs : as.reverse ++ st = S) (hn : as.length = n) (hd : decode M.2.2.1 pc = .ok (.invokestatic cp, 3)) (hst : (st.map fun v => v.category).sum ≤ 8) (hk : k.1 + M'.1.cells ≤ M.1.cells ∧ k.2 + M'.1.slots ≤ M.1.slots)
    (kk : ∀ r w1, Q' r w1 → Go l M n0 Q (k.1 + M'.1.cells, k.2 + M'.1.slots) (pc + 3) L (r.toList ++ st) w1) : Go l M n0 Q k pc L S w := by
  subst hs
  intro p e s m args below meth c D tc ad0 ad A H locs ls hI
  obtain ⟨hX, hK, had, hn0, how, hoL, hos, hP, hD, hS, hls⟩ := id hI
  obtain ⟨⟨l1, l2, l3, l4, l5⟩, l6, l7⟩ := hl
  have hts := hX.2.2.2.2.1
  obtain ⟨hbl, hU⟩ := q_start (as := as.map (q_v ad)) hI
  refine q_back (M' := M') (Q' := Q') (a := (as.map (q_v ad)).toArray) hI (fun v hv => List.mem_append_right _ hv) (va_runSN (host := RX10) (As := as.map (q_v ad)) (Ts := q_tb) (own := M.2.1.cls) ⟨hX.1, hX.2.1, hX.2.2.1, hX.2.2.2.1, hts⟩ (hC D tc ad H.size how (fun v hv => hos v (List.mem_append_left _ (List.mem_reverse.mpr hv)))) ⟨va_cnB n hts (q_good l1) rfl rfl rfl (hX.2.2.2.2.2.2.2.2.2.2.1 _ l6) (hts _ l2) l3 ⟨l4, l5⟩, hts _ l7, trivial⟩ ⟨hbl, fun U h1 h2 => ⟨rfl, hU U h1 h2⟩⟩ rfl (by rw [List.length_map]; exact hn) hls.1 ?_ (lv_room (by rw [q_cats]; exact hst)) hd hk) kk
  show (as.reverse ++ st).map (q_v ad) = _
  rw [q_map_rev]
theorem g_callIN {M' : q_M} {cp i n : Nat} {as : List Value} {Q' : q_P} {S : List Value} (hC : Ct l M' (.ref i :: as) w Q') (hl : q_LIN M M' cp n) (hs : as.reverse ++ .ref i :: st = S) (hn : as.length = n) (hd : decode M.2.2.1 pc = .ok (.invokespecial cp, 3)) (hst : (st.map fun v => v.category).sum ≤ 8) (hk : k.1 + M'.1.cells ≤ M.1.cells ∧ k.2 + M'.1.slots ≤ M.1.slots)
    (kk : ∀ r w1, Q' r w1 → Go l M n0 Q (k.1 + M'.1.cells, k.2 + M'.1.slots) (pc + 3) L (r.toList ++ st) w1) : Go l M n0 Q k pc L S w := by
  subst hs
  intro p e s m args below meth c D tc ad0 ad A H locs ls hI
  obtain ⟨hX, hK, had, hn0, how, hoL, hos, hP, hD, hS, hls⟩ := id hI
  obtain ⟨⟨l1, l2, l3, l4, l5⟩, l6, l7, l8, l9⟩ := hl
  have hts := hX.2.2.2.2.1
  obtain ⟨hbl, hU⟩ := q_start (as := (.ref i :: as).map (q_v ad)) hI
  have hM := hC D tc ad H.size how (fun v hv => by
    rcases List.mem_cons.mp hv with rfl | hv
    · exact hos _ (List.mem_append_right _ List.mem_cons_self)
    · exact hos v (List.mem_append_left _ (List.mem_reverse.mpr hv)))
  refine q_back (M' := M') (Q' := Q') (a := (Value.ref (ad i) :: as.map (q_v ad)).toArray) hI (fun v hv => List.mem_append_right _ (List.mem_cons_of_mem _ hv)) (va_runIN (host := RX10) (b := ad i) (As := as.map (q_v ad)) (Ts := q_tb) (own := M.2.1.cls) ⟨hX.1, hX.2.1, hX.2.2.1, hX.2.2.2.1, hts⟩ hM ⟨va_cnB (ws' := q_tb) n hts (q_good l1) (by rw [q_ws, l9]) rfl rfl (hX.2.2.2.2.2.2.2.2.2.2.1 _ l6) (hts _ l2) l3 ⟨l4, l5⟩, l7, hts _ l8⟩ ⟨hbl, fun U h1 h2 => ⟨rfl, hU U h1 h2⟩⟩ rfl (by rw [List.length_map]; exact hn) hls.1 ?_ (lv_room (by rw [q_cats]; exact hst)) hd hk) kk
  show (as.reverse ++ .ref i :: st).map (q_v ad) = _
  rw [q_map_rev]; rfl
end G4
