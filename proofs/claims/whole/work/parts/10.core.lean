/-! A small logic over the kit's W: worlds are lists of cells whose references are places in the list ('ids'); Go: from a program counter, locals, stack and world the method comes to its end with Q; Ct: a method's contract. -/
abbrev q_Cel : Type := (Nat × vp_A) ⊕ (Nat × List Value)
abbrev q_Wd : Type := List q_Cel
abbrev q_Ls : Type := List (Option Value)
abbrev q_M : Type := Room × MethodName × ByteArray × Nat × Option FieldType
abbrev q_P : Type := Option Value → q_Wd → Prop
def q_v (ad : Nat → Nat) (v : Value) : Value := match v with
  | .ref i => .ref (ad i)
  | x => x
def q_A (ad : Nat → Nat) (a : vp_A) : vp_A := match a with
  | (n, .inr (.inr (.inr (.inr f)))) => (n, .inr (.inr (.inr (.inr (fun j => (f j).map ad)))))
  | x => x
def q_c (tc : Nat → ClassId) (ad : Nat → Nat) (c : q_Cel) : va_E := match c with
  | .inl a => .inl (tc a.1, q_A ad a.2)
  | .inr o => .inr (o.1, o.2.map (q_v ad))
def q_w (tc : Nat → ClassId) (ad : Nat → Nat) (w : q_Wd) : va_W := w.mapIdx (fun i c => (ad i, q_c tc ad c))
theorem q_w_get {tc : Nat → ClassId} {ad : Nat → Nat} {w : q_Wd} (k : Nat) : (q_w tc ad w)[k]? = (w[k]?).map (fun c => (ad k, q_c tc ad c)) := by
  simp [q_w, List.getElem?_mapIdx]
theorem q_w_at {tc : Nat → ClassId} {ad : Nat → Nat} {w : q_Wd} {k : Nat} {c : q_Cel} (h : w[k]? = some c) : (q_w tc ad w)[k]? = some (ad k, q_c tc ad c) := by
  rw [q_w_get, h]; rfl
theorem q_w_len {tc : Nat → ClassId} {ad : Nat → Nat} {w : q_Wd} : (q_w tc ad w).length = w.length := by simp [q_w]
theorem q_w_set {tc : Nat → ClassId} {ad : Nat → Nat} {w : q_Wd} {k : Nat} {c : q_Cel} : (q_w tc ad w).set k (ad k, q_c tc ad c) = q_w tc ad (w.set k c) := by
  apply List.ext_getElem?
  intro i
  rw [q_w_get, List.getElem?_set, List.getElem?_set, q_w_len]
  by_cases h : k = i
  · subst h
    by_cases h2 : k < w.length <;> simp [h2]
  · simp [h, q_w_get]
def q_ok (n : Nat) (v : Value) : Prop := ∀ i, v = .ref i → i < n
def q_okc (n : Nat) (c : q_Cel) : Prop := match c with
  | .inl a => ∀ f, a.2.2 = .inr (.inr (.inr (.inr f))) → ∀ j i, f j = some i → i < n
  | .inr o => ∀ v ∈ o.2, q_ok n v
def q_okw (w : q_Wd) : Prop := ∀ (k : Nat) (c : q_Cel), w[k]? = some c → q_okc w.length c
def q_okL (n : Nat) (L : q_Ls) : Prop := ∀ (i : Nat) (v : Value), L[i]? = some (some v) → q_ok n v
theorem q_ok_int {n : Nat} {x : Int32} : q_ok n (.int x) := fun i h => by cases h
theorem q_ok_long {n : Nat} {x : Int64} : q_ok n (.long x) := fun i h => by cases h
theorem q_ok_null {n : Nat} : q_ok n .null := fun i h => by cases h
theorem q_ok_ref {n i : Nat} (h : i < n) : q_ok n (.ref i) := fun j e => by cases e; exact h
theorem q_ok.mono {n k : Nat} {v : Value} (h : q_ok n v) (hk : n ≤ k) : q_ok k v := fun i e => Nat.lt_of_lt_of_le (h i e) hk
theorem q_okc.mono {n k : Nat} {c : q_Cel} (h : q_okc n c) (hk : n ≤ k) : q_okc k c := by
  cases c with
  | inl a => exact fun f e j i hf => Nat.lt_of_lt_of_le (h f e j i hf) hk
  | inr o => exact fun v hv => (h v hv).mono hk
theorem q_okL.mono {n k : Nat} {L : q_Ls} (h : q_okL n L) (hk : n ≤ k) : q_okL k L := fun i v e => (h i v e).mono hk
theorem q_v_same {ad ad' : Nat → Nat} {n : Nat} {v : Value} (h : ∀ i, i < n → ad' i = ad i) (hv : q_ok n v) : q_v ad' v = q_v ad v := by
  cases v with
  | ref i => exact congrArg Value.ref (h i (hv i rfl))
  | _ => rfl
theorem q_A_same {ad ad' : Nat → Nat} {n : Nat} {a : vp_A} (h : ∀ i, i < n → ad' i = ad i) (ha : ∀ f, a.2 = .inr (.inr (.inr (.inr f))) → ∀ j i, f j = some i → i < n) : q_A ad' a = q_A ad a := by
  obtain ⟨k, f | f | f | f | f⟩ := a
  · rfl
  · rfl
  · rfl
  · rfl
  · have e : (fun j => (f j).map ad') = fun j => (f j).map ad := by
      funext j
      cases hj : f j with
      | none => rfl
      | some i => exact congrArg some (h i (ha f rfl j i hj))
    show (k, Sum.inr (Sum.inr (Sum.inr (Sum.inr (fun j => (f j).map ad'))))) = (k, Sum.inr (Sum.inr (Sum.inr (Sum.inr (fun j => (f j).map ad)))))
    rw [e]
theorem q_c_same {tc : Nat → ClassId} {ad ad' : Nat → Nat} {n : Nat} {c : q_Cel} (h : ∀ i, i < n → ad' i = ad i) (hc : q_okc n c) : q_c tc ad' c = q_c tc ad c := by
  cases c with
  | inl a =>
    show Sum.inl (tc a.1, q_A ad' a.2) = Sum.inl (tc a.1, q_A ad a.2)
    rw [q_A_same h hc]
  | inr o =>
    show Sum.inr (o.1, o.2.map (q_v ad')) = Sum.inr (o.1, o.2.map (q_v ad))
    rw [List.map_congr_left (fun v hv => q_v_same h (hc v hv))]
theorem q_w_same {tc : Nat → ClassId} {ad ad' : Nat → Nat} {w : q_Wd} (h : ∀ i, i < w.length → ad' i = ad i) (hw : q_okw w) : q_w tc ad' w = q_w tc ad w := by
  apply List.ext_getElem?
  intro i
  rw [q_w_get, q_w_get]
  cases hi : w[i]? with
  | none => rfl
  | some c =>
    have hlt : i < w.length := (List.getElem?_eq_some_iff.mp hi).1
    show some (ad' i, q_c tc ad' c) = some (ad i, q_c tc ad c)
    rw [h i hlt, q_c_same h (hw i c hi)]
theorem q_w_push {tc : Nat → ClassId} {ad : Nat → Nat} {w : q_Wd} {c : q_Cel} : q_w tc ad (w ++ [c]) = q_w tc ad w ++ [(ad w.length, q_c tc ad c)] := by
  simp [q_w, List.mapIdx_append]
theorem q_okw_set {w : q_Wd} {k : Nat} {c : q_Cel} (h : q_okw w) (hc : q_okc w.length c) : q_okw (w.set k c) := by
  intro i d hd
  rw [List.length_set]
  rw [List.getElem?_set] at hd
  by_cases e : k = i
  · subst e
    by_cases h2 : k < w.length
    · simp [h2] at hd
      exact hd ▸ hc
    · simp [h2] at hd
  · simp [e] at hd
    exact h i d hd
theorem q_okw_push {w : q_Wd} {c : q_Cel} (h : q_okw w) (hc : q_okc (w.length + 1) c) : q_okw (w ++ [c]) := by
  intro i d hd
  rw [List.length_append, List.length_singleton]
  by_cases hl : i < w.length
  · rw [List.getElem?_append_left hl] at hd
    exact (h i d hd).mono (by omega)
  · rw [List.getElem?_append_right (by omega)] at hd
    have hz : i - w.length < 1 := (List.getElem?_eq_some_iff.mp hd).1
    rw [show i - w.length = 0 by omega] at hd
    cases hd
    exact hc
/-! locals -/
def q_L (ad : Nat → Nat) (ls : Array Slot) (nL : Nat) (L : q_Ls) : Prop := ls.size = nL ∧ lv_wf ls ∧ ∀ (i : Nat) (v : Value), L[i]? = some (some v) → ls[i]? = some (.val (q_v ad v))
def q_clr : q_Ls → q_Ls
  | [] => []
  | _ :: t => none :: t
def q_cut (o : Option Value) : Option Value := match o with
  | none => none
  | some v => if v.category = 2 then none else some v
def q_sto : q_Ls → Nat → Value → q_Ls
  | [], _, _ => []
  | _ :: t, 0, v => some v :: (if v.category = 2 then q_clr t else t)
  | o :: t, i + 1, v => (if i = 0 then q_cut o else o) :: q_sto t i v
theorem q_sto_spec : ∀ (L : q_Ls) (i : Nat) (v : Value) (j : Nat) (u : Value), (q_sto L i v)[j]? = some (some u) → (j = i ∧ u = v) ∨ (j ≠ i ∧ L[j]? = some (some u) ∧ ¬ (j + 1 = i ∧ u.category = 2) ∧ ¬ (j = i + 1 ∧ v.category = 2))
  | [], i, v, j, u, h => by simp [q_sto] at h
  | o :: t, 0, v, 0, u, h => by
    simp [q_sto] at h
    exact Or.inl ⟨rfl, h.symm⟩
  | o :: t, 0, v, j + 1, u, h => by
    simp only [q_sto, List.getElem?_cons_succ] at h
    refine Or.inr ⟨by omega, ?_, by omega, ?_⟩
    · by_cases hc : v.category = 2
      · rw [if_pos hc] at h
        cases t with
        | nil => simp [q_clr] at h
        | cons a t =>
          cases j with
          | zero => simp [q_clr] at h
          | succ j => simpa [q_clr] using h
      · rw [if_neg hc] at h
        simpa using h
    · rintro ⟨hj, hc⟩
      rw [if_pos hc] at h
      have : j = 0 := by omega
      subst this
      cases t with
      | nil => simp [q_clr] at h
      | cons a t => simp [q_clr] at h
  | o :: t, i + 1, v, 0, u, h => by
    simp only [q_sto, List.getElem?_cons_zero, Option.some.injEq] at h
    by_cases hi : i = 0
    · rw [if_pos hi] at h
      cases o with
      | none => simp [q_cut] at h
      | some z =>
        by_cases hz : z.category = 2
        · simp [q_cut, hz] at h
        · simp [q_cut, hz] at h
          subst h
          exact Or.inr ⟨by omega, rfl, fun q => hz q.2, by omega⟩
    · rw [if_neg hi] at h
      exact Or.inr ⟨by omega, by rw [h]; rfl, by omega, by omega⟩
  | o :: t, i + 1, v, j + 1, u, h => by
    simp only [q_sto, List.getElem?_cons_succ] at h
    rcases q_sto_spec t i v j u h with ⟨h1, h2⟩ | ⟨h1, h2, h3, h4⟩
    · exact Or.inl ⟨by omega, h2⟩
    · exact Or.inr ⟨by omega, by simpa using h2, fun q => h3 ⟨by omega, q.2⟩, fun q => h4 ⟨by omega, q.2⟩⟩
def q_al (ad : Nat → Nat) (L : q_Ls) : List (Nat × Value) := (List.range L.length).filterMap (fun i => match L[i]? with
  | some (some v) => some (i, q_v ad v)
  | _ => none)
theorem q_al_mem {ad : Nat → Nat} {L : q_Ls} {i : Nat} {v : Value} (h : L[i]? = some (some v)) : (i, q_v ad v) ∈ q_al ad L :=
  List.mem_filterMap.mpr ⟨i, List.mem_range.mpr (List.getElem?_eq_some_iff.mp h).1, by rw [h]⟩
theorem q_al_of {ad : Nat → Nat} {L : q_Ls} {q : Nat × Value} (h : q ∈ q_al ad L) : ∃ v, L[q.1]? = some (some v) ∧ q.2 = q_v ad v := by
  obtain ⟨i, -, hi⟩ := List.mem_filterMap.mp h
  split at hi
  · rename_i v hv
    cases hi
    exact ⟨v, hv, rfl⟩
  · cases hi
theorem q_L.has {ad : Nat → Nat} {ls : Array Slot} {nL : Nat} {L : q_Ls} (h : q_L ad ls nL L) : lv_has ls nL (q_al ad L) :=
  ⟨h.1, h.2.1, fun q hq => by
    obtain ⟨v, h1, h2⟩ := q_al_of hq
    rw [h2]
    exact h.2.2 q.1 v h1⟩
theorem q_cat {ad : Nat → Nat} {v : Value} : (q_v ad v).category = v.category := by cases v <;> rfl
theorem q_cats {ad : Nat → Nat} {st : List Value} : ((st.map (q_v ad)).map fun v => v.category).sum = (st.map fun v => v.category).sum := by
  rw [List.map_map]
  congr 1
  exact List.map_congr_left (fun v _ => q_cat)
theorem q_L.sto1 {ad : Nat → Nat} {ls' : Array Slot} {nL i : Nat} {L : q_Ls} {v : Value} (h : lv_has ls' nL ((i, q_v ad v) :: (q_al ad L).filter (fun q => !(q.1 == i) && !(q.1 + 1 == i && q.2.category == 2)))) : q_L ad ls' nL (q_sto L i v) := by
  refine ⟨h.1, h.2.1, fun j u hj => ?_⟩
  rcases q_sto_spec L i v j u hj with ⟨rfl, rfl⟩ | ⟨h1, h2, h3, -⟩
  · exact h.2.2 _ List.mem_cons_self
  · refine h.2.2 (j, q_v ad u) (List.mem_cons_of_mem _ (List.mem_filter.mpr ⟨q_al_mem h2, ?_⟩))
    simp only [q_cat]
    simp [h1]
    exact Classical.not_and_iff_not_or_not.mp h3
theorem q_L.sto2 {ad : Nat → Nat} {ls' : Array Slot} {nL i : Nat} {L : q_Ls} {v : Value} (hv : v.category = 2) (h : lv_has ls' nL ((i, q_v ad v) :: (q_al ad L).filter (fun q => !(q.1 == i) && (!(q.1 == i + 1) && !(q.1 + 1 == i && q.2.category == 2))))) : q_L ad ls' nL (q_sto L i v) := by
  refine ⟨h.1, h.2.1, fun j u hj => ?_⟩
  rcases q_sto_spec L i v j u hj with ⟨rfl, rfl⟩ | ⟨h1, h2, h3, h4⟩
  · exact h.2.2 _ List.mem_cons_self
  · refine h.2.2 (j, q_v ad u) (List.mem_cons_of_mem _ (List.mem_filter.mpr ⟨q_al_mem h2, ?_⟩))
    simp only [q_cat]
    simp [h1]
    exact ⟨fun q => h4 ⟨q, hv⟩, Classical.not_and_iff_not_or_not.mp h3⟩
theorem q_okL_sto {n i : Nat} {L : q_Ls} {v : Value} (h : q_okL n L) (hv : q_ok n v) : q_okL n (q_sto L i v) := by
  intro j u hj
  rcases q_sto_spec L i v j u hj with ⟨-, rfl⟩ | ⟨-, h2, -, -⟩
  · exact hv
  · exact h j u h2
/-- fewer locals -/
def q_less : q_Ls → q_Ls → Bool
  | _, [] => true
  | [], none :: t => q_less [] t
  | [], some _ :: _ => false
  | _ :: t, none :: u => q_less t u
  | a :: t, some v :: u => (match a with | some x => decide (x = v) | none => false) && q_less t u
/-! the world's own facts -/
def q_tys (tc : Nat → ClassId) : List (ClassId × FieldType) := [(tc 0, .int), (tc 1, .byte), (tc 2, .boolean), (tc 3, .object "AheadRows$Cycle")]
def q_K (D : va_G) (tc : Nat → ClassId) (U : State) : Prop := va_K D vwCl (q_tys tc) U
def q_rounds (j : Nat) : Int32 := ([6, 24, 12, 120, 24, 336, 24, 72, 120] : List Int32).getD j 0
def q_S (A : Nat → Prop) (U : State) : Prop := ∃ t : Nat, va_Z "AheadRows$Cycle" "ROUNDS" "[I" (.ref t) A U U.heap ∧ va_T .int t 9 (fun j => .int (q_rounds j)) A U U.heap
def q_tb : List Cond := lw_tbl.filter goodWord
theorem q_in {w : Cond} (k : Nat) (h : lw_tbl[k]? = some w) (hg : goodWord w = true) : w ∈ q_tb := List.mem_filter.mpr ⟨List.mem_of_getElem? h, hg⟩
def q_nst : List Cond := [.methodLinkNest RX10 9 yX3_init RX10, .methodLinkNest RX10 30 yX5_init RX10, .methodLinkNest RX5 11 yX3_init RX10, .methodLinkNest RX10 37 yX2_init RX10, .methodLinkNest RX10 44 yX9_init RX10, .methodLinkNest RX1 9 yX10_isModulus RX10, .methodLinkNest RX10 58 yX0_init RX10, .methodLinkNest RX5 59 yX10_numbersOf RX10, .methodLinkNest RX5 79 yX10_isWithin RX10, .methodLinkNest RX0 54 yX10_isPrime RX10]
def q_N (U : State) : Prop := (∀ w ∈ q_nst, va_Nw w U) ∧ va_AO "AheadRows$Cycle" U
def q_X (M : q_M) (p : Program) (s : State) (m : MethodId) (args : Array Value) (meth : Method) (c : Code) (A : Nat → Prop) : Prop :=
  p.tables.exec = Jvm.exec ∧ c.code = M.2.2.1 ∧ c.maxLocals = M.2.2.2.1 ∧ s.vm.findClass M.2.1.cls = some m.cls ∧ (∀ w ∈ q_tb, w.before args s = true) ∧ meth.sig.returnType = M.2.2.2.2 ∧ meth.locks = false ∧ meth.name = M.2.1.name ∧ (∀ q, s.heap.size ≤ q → A q) ∧ q_S A s ∧ q_N s
def q_I (M : q_M) (n0 : Nat) (L : q_Ls) (st : List Value) (w : q_Wd) (p : Program) (s : State) (m : MethodId) (args : Array Value) (meth : Method) (c : Code) (D : va_G) (tc : Nat → ClassId) (ad0 ad : Nat → Nat) (A : Nat → Prop) (H : Heap) (locs : List Loc) (ls : Array Slot) : Prop :=
  q_X M p s m args meth c A ∧ q_K D tc s ∧ (∀ i, i < n0 → ad i = ad0 i) ∧ n0 ≤ w.length ∧ q_okw w ∧ q_okL w.length L ∧ (∀ v ∈ st, q_ok w.length v) ∧ va_P D vwCl (q_w tc ad w) H ∧ va_D A (q_w tc ad w) ∧ va_S A s.heap H locs ∧ q_L ad ls M.2.2.2.1 L
def q_Q (D : va_G) (tc : Nat → ClassId) (ad0 : Nat → Nat) (n0 : Nat) (A : Nat → Prop) (Q : q_P) : Array Value → State → Outcome → State → Prop := fun _ st oc t =>
  (∃ (ad : Nat → Nat) (r : Option Value) (w : q_Wd), Q r w ∧ oc = .returned (r.map (q_v ad)) ∧ (∀ i, i < n0 → ad i = ad0 i) ∧ n0 ≤ w.length ∧ q_okw w ∧ (∀ v, r = some v → q_ok w.length v) ∧ va_P D vwCl (q_w tc ad w) t.heap ∧ q_K D tc t ∧ va_D A (q_w tc ad w)) ∧ va_F A st t
def Go (l : Launch) (M : q_M) (n0 : Nat) (Q : q_P) (k : Nat × Nat) (pc : Nat) (L : q_Ls) (st : List Value) (w : q_Wd) : Prop :=
  ∀ (p : Program) (e : Env) (s : State) (m : MethodId) (args : Array Value) (below : List Frame) (meth : Method) (c : Code) (D : va_G) (tc : Nat → ClassId) (ad0 ad : Nat → Nat) (A : Nat → Prop) (H : Heap) (locs : List Loc) (ls : Array Slot),
    q_I M n0 L st w p s m args meth c D tc ad0 ad A H locs ls → W p l e M.1 s m args below meth c H locs k.1 k.2 (MQ below (q_Q D tc ad0 n0 A Q) args s M.1.cells M.1.slots A) (F0 m pc ls (st.map (q_v ad)))
section G1
variable {l : Launch} {M : q_M} {n0 : Nat} {Q : q_P} {k : Nat × Nat} {pc : Nat} {L : q_Ls} {st : List Value} {w : q_Wd}
/-- an instruction that moves the stack alone -/
theorem Go.go1 {pc' : Nat} {st st' : List Value} (hok : ∀ n, (∀ v ∈ st, q_ok n v) → ∀ v ∈ st', q_ok n v)
    (hr : ∀ {p : Program} {e : Env} {s : State} {m : MethodId} {args : Array Value} {below : List Frame} {meth : Method} {c : Code} {H : Heap} {locs : List Loc} {cells slots : Nat} {Q : State → Prop} {ls : Array Slot} (ad : Nat → Nat), p.tables.exec = Jvm.exec → c.code = M.2.2.1 → W p l e M.1 s m args below meth c H locs cells slots Q (F0 m pc' ls (st'.map (q_v ad))) → W p l e M.1 s m args below meth c H locs cells slots Q (F0 m pc ls (st.map (q_v ad))))
    (kk : Go l M n0 Q k pc' L st' w) : Go l M n0 Q k pc L st w := by
  intro p e s m args below meth c D tc ad0 ad A H locs ls hI
  obtain ⟨hX, hK, had, hn0, how, hoL, hos, hP, hD, hS, hl⟩ := hI
  exact hr ad hX.1 hX.2.1 (kk p e s m args below meth c D tc ad0 ad A H locs ls ⟨hX, hK, had, hn0, how, hoL, hok _ hos, hP, hD, hS, hl⟩)
theorem q_okp {n : Nat} {v : Value} {st st' : List Value} (hv : q_ok n v) (h : ∀ u ∈ st', u ∈ st) (hs : ∀ u ∈ st, q_ok n u) : ∀ u ∈ v :: st', q_ok n u := by
  intro u hu
  rcases List.mem_cons.mp hu with rfl | hu
  · exact hv
  · exact hs u (h u hu)
theorem q_ok1 {a : Value} : ∀ u ∈ st, u ∈ a :: st := fun _ h => List.mem_cons_of_mem _ h
theorem q_ok2 {a b : Value} : ∀ u ∈ st, u ∈ a :: b :: st := fun _ h => List.mem_cons_of_mem _ (List.mem_cons_of_mem _ h)
theorem g_iconst {n : Int} {v : Int32} (hd : decode M.2.2.1 pc = .ok (.iconst n, 1)) (hv : Int32.ofInt n = v) (kk : Go l M n0 Q k (pc + 1) L (.int v :: st) w) : Go l M n0 Q k pc L st w :=
  Go.go1 (fun _ h => q_okp q_ok_int (fun _ h => h) h) (fun _ hx hb z => lv_iconst hx hb hd hv z) kk
theorem g_bipush {n : Int} {v : Int32} (hd : decode M.2.2.1 pc = .ok (.bipush n, 2)) (hv : (Int8.ofInt n).toInt32 = v) (kk : Go l M n0 Q k (pc + 2) L (.int v :: st) w) : Go l M n0 Q k pc L st w :=
  Go.go1 (fun _ h => q_okp q_ok_int (fun _ h => h) h) (fun _ hx hb z => lv_bipush hx hb hd hv z) kk
theorem g_sipush {n : Int} {v : Int32} (hd : decode M.2.2.1 pc = .ok (.sipush n, 3)) (hv : (Int16.ofInt n).toInt32 = v) (kk : Go l M n0 Q k (pc + 3) L (.int v :: st) w) : Go l M n0 Q k pc L st w :=
  Go.go1 (fun _ h => q_okp q_ok_int (fun _ h => h) h) (fun _ hx hb z => lv_sipush hx hb hd hv z) kk
theorem g_lconst {n : Fin 2} {v : Int64} (hd : decode M.2.2.1 pc = .ok (.lconst n, 1)) (hv : Int64.ofNat (n : Nat) = v) (kk : Go l M n0 Q k (pc + 1) L (.long v :: st) w) : Go l M n0 Q k pc L st w :=
  Go.go1 (fun _ h => q_okp q_ok_long (fun _ h => h) h) (fun _ hx hb z => lv_lconst hx hb hd hv z) kk
theorem g_iadd {x y : Int32} (hd : decode M.2.2.1 pc = .ok (.iadd, 1)) (kk : Go l M n0 Q k (pc + 1) L (.int (x + y) :: st) w) : Go l M n0 Q k pc L (.int y :: .int x :: st) w :=
  Go.go1 (fun _ h => q_okp q_ok_int q_ok2 h) (fun _ hx hb z => lv_iadd hx hb hd z) kk
theorem g_isub {x y : Int32} (hd : decode M.2.2.1 pc = .ok (.isub, 1)) (kk : Go l M n0 Q k (pc + 1) L (.int (x - y) :: st) w) : Go l M n0 Q k pc L (.int y :: .int x :: st) w :=
  Go.go1 (fun _ h => q_okp q_ok_int q_ok2 h) (fun _ hx hb z => lv_isub hx hb hd z) kk
theorem g_imul {x y : Int32} (hd : decode M.2.2.1 pc = .ok (.imul, 1)) (kk : Go l M n0 Q k (pc + 1) L (.int (x * y) :: st) w) : Go l M n0 Q k pc L (.int y :: .int x :: st) w :=
  Go.go1 (fun _ h => q_okp q_ok_int q_ok2 h) (fun _ hx hb z => lv_imul hx hb hd z) kk
theorem g_iand {x y : Int32} (hd : decode M.2.2.1 pc = .ok (.iand, 1)) (kk : Go l M n0 Q k (pc + 1) L (.int (x &&& y) :: st) w) : Go l M n0 Q k pc L (.int y :: .int x :: st) w :=
  Go.go1 (fun _ h => q_okp q_ok_int q_ok2 h) (fun _ hx hb z => lv_iand hx hb hd z) kk
theorem g_ior {x y : Int32} (hd : decode M.2.2.1 pc = .ok (.ior, 1)) (kk : Go l M n0 Q k (pc + 1) L (.int (x ||| y) :: st) w) : Go l M n0 Q k pc L (.int y :: .int x :: st) w :=
  Go.go1 (fun _ h => q_okp q_ok_int q_ok2 h) (fun _ hx hb z => lv_ior hx hb hd z) kk
theorem g_ixor {x y : Int32} (hd : decode M.2.2.1 pc = .ok (.ixor, 1)) (kk : Go l M n0 Q k (pc + 1) L (.int (x ^^^ y) :: st) w) : Go l M n0 Q k pc L (.int y :: .int x :: st) w :=
  Go.go1 (fun _ h => q_okp q_ok_int q_ok2 h) (fun _ hx hb z => lv_ixor hx hb hd z) kk
theorem g_ishl {x y : Int32} (hd : decode M.2.2.1 pc = .ok (.ishl, 1)) (kk : Go l M n0 Q k (pc + 1) L (.int (x <<< (y &&& 31)) :: st) w) : Go l M n0 Q k pc L (.int y :: .int x :: st) w :=
  Go.go1 (fun _ h => q_okp q_ok_int q_ok2 h) (fun _ hx hb z => lv_ishl hx hb hd z) kk
theorem g_idiv {x y : Int32} (hd : decode M.2.2.1 pc = .ok (.idiv, 1)) (hy : ¬ y = 0) (kk : Go l M n0 Q k (pc + 1) L (.int (x / y) :: st) w) : Go l M n0 Q k pc L (.int y :: .int x :: st) w :=
  Go.go1 (fun _ h => q_okp q_ok_int q_ok2 h) (fun _ hx hb z => lv_idiv hx hb hd hy z) kk
theorem g_irem {x y : Int32} (hd : decode M.2.2.1 pc = .ok (.irem, 1)) (hy : ¬ y = 0) (kk : Go l M n0 Q k (pc + 1) L (.int (x - x / y * y) :: st) w) : Go l M n0 Q k pc L (.int y :: .int x :: st) w :=
  Go.go1 (fun _ h => q_okp q_ok_int q_ok2 h) (fun _ hx hb z => lv_irem hx hb hd hy z) kk
theorem g_ineg {x : Int32} (hd : decode M.2.2.1 pc = .ok (.ineg, 1)) (kk : Go l M n0 Q k (pc + 1) L (.int (-x) :: st) w) : Go l M n0 Q k pc L (.int x :: st) w :=
  Go.go1 (fun _ h => q_okp q_ok_int q_ok1 h) (fun _ hx hb z => lv_ineg hx hb hd z) kk
theorem g_ladd {x y : Int64} (hd : decode M.2.2.1 pc = .ok (.ladd, 1)) (kk : Go l M n0 Q k (pc + 1) L (.long (x + y) :: st) w) : Go l M n0 Q k pc L (.long y :: .long x :: st) w :=
  Go.go1 (fun _ h => q_okp q_ok_long q_ok2 h) (fun _ hx hb z => lv_ladd hx hb hd z) kk
theorem g_lsub {x y : Int64} (hd : decode M.2.2.1 pc = .ok (.lsub, 1)) (kk : Go l M n0 Q k (pc + 1) L (.long (x - y) :: st) w) : Go l M n0 Q k pc L (.long y :: .long x :: st) w :=
  Go.go1 (fun _ h => q_okp q_ok_long q_ok2 h) (fun _ hx hb z => lv_lsub hx hb hd z) kk
theorem g_lmul {x y : Int64} (hd : decode M.2.2.1 pc = .ok (.lmul, 1)) (kk : Go l M n0 Q k (pc + 1) L (.long (x * y) :: st) w) : Go l M n0 Q k pc L (.long y :: .long x :: st) w :=
  Go.go1 (fun _ h => q_okp q_ok_long q_ok2 h) (fun _ hx hb z => lv_lmul hx hb hd z) kk
theorem g_land {x y : Int64} (hd : decode M.2.2.1 pc = .ok (.land, 1)) (kk : Go l M n0 Q k (pc + 1) L (.long (x &&& y) :: st) w) : Go l M n0 Q k pc L (.long y :: .long x :: st) w :=
  Go.go1 (fun _ h => q_okp q_ok_long q_ok2 h) (fun _ hx hb z => lv_land hx hb hd z) kk
theorem g_ldiv {x y : Int64} (hd : decode M.2.2.1 pc = .ok (.ldiv, 1)) (hy : ¬ y = 0) (kk : Go l M n0 Q k (pc + 1) L (.long (x / y) :: st) w) : Go l M n0 Q k pc L (.long y :: .long x :: st) w :=
  Go.go1 (fun _ h => q_okp q_ok_long q_ok2 h) (fun _ hx hb z => lv_ldiv hx hb hd hy z) kk
theorem g_lrem {x y : Int64} (hd : decode M.2.2.1 pc = .ok (.lrem, 1)) (hy : ¬ y = 0) (kk : Go l M n0 Q k (pc + 1) L (.long (x - x / y * y) :: st) w) : Go l M n0 Q k pc L (.long y :: .long x :: st) w :=
  Go.go1 (fun _ h => q_okp q_ok_long q_ok2 h) (fun _ hx hb z => lv_lrem hx hb hd hy z) kk
theorem g_lcmp {x y : Int64} (hd : decode M.2.2.1 pc = .ok (.lcmp, 1)) (kk : Go l M n0 Q k (pc + 1) L (.int (lg_cmp x y) :: st) w) : Go l M n0 Q k pc L (.long y :: .long x :: st) w :=
  Go.go1 (fun _ h => q_okp q_ok_int q_ok2 h) (fun _ hx hb z => W.lcmp hx hb hd z) kk
theorem g_i2l {x : Int32} (hd : decode M.2.2.1 pc = .ok (.i2l, 1)) (kk : Go l M n0 Q k (pc + 1) L (.long x.toInt64 :: st) w) : Go l M n0 Q k pc L (.int x :: st) w :=
  Go.go1 (fun _ h => q_okp q_ok_long q_ok1 h) (fun _ hx hb z => lv_i2l hx hb hd rfl z) kk
theorem g_l2i {x : Int64} (hd : decode M.2.2.1 pc = .ok (.l2i, 1)) (kk : Go l M n0 Q k (pc + 1) L (.int x.toInt32 :: st) w) : Go l M n0 Q k pc L (.long x :: st) w :=
  Go.go1 (fun _ h => q_okp q_ok_int q_ok1 h) (fun _ hx hb z => lv_l2i hx hb hd rfl z) kk
theorem g_i2b {x : Int32} (hd : decode M.2.2.1 pc = .ok (.i2b, 1)) (kk : Go l M n0 Q k (pc + 1) L (.int x.toInt8.toInt32 :: st) w) : Go l M n0 Q k pc L (.int x :: st) w :=
  Go.go1 (fun _ h => q_okp q_ok_int q_ok1 h) (fun _ hx hb z => lv_i2b hx hb hd rfl z) kk
theorem g_dup {v : Value} (hd : decode M.2.2.1 pc = .ok (.dup, 1)) (hv : v.category = 1) (kk : Go l M n0 Q k (pc + 1) L (v :: v :: st) w) : Go l M n0 Q k pc L (v :: st) w :=
  Go.go1 (fun _ h => q_okp (h _ List.mem_cons_self) (fun _ z => z) h) (fun _ hx hb z => lv_dup hx hb hd (q_cat.trans hv) z) kk
theorem g_dup2 {v u : Value} (hd : decode M.2.2.1 pc = .ok (.dup2, 1)) (hv : v.category = 1) (hu : u.category = 1) (kk : Go l M n0 Q k (pc + 1) L (v :: u :: v :: u :: st) w) : Go l M n0 Q k pc L (v :: u :: st) w :=
  Go.go1 (fun _ h => by
    intro z hz
    rcases List.mem_cons.mp hz with rfl | hz
    · exact h _ List.mem_cons_self
    rcases List.mem_cons.mp hz with rfl | hz
    · exact h _ (List.mem_cons_of_mem _ List.mem_cons_self)
    exact h z hz) (fun _ hx hb z => lv_dup2_11 hx hb hd (q_cat.trans hv) (q_cat.trans hu) z) kk
theorem g_pop {v : Value} (hd : decode M.2.2.1 pc = .ok (.pop, 1)) (hv : v.category = 1) (kk : Go l M n0 Q k (pc + 1) L st w) : Go l M n0 Q k pc L (v :: st) w :=
  Go.go1 (fun _ h u hu => h u (List.mem_cons_of_mem _ hu)) (fun _ hx hb z => lv_pop hx hb hd (q_cat.trans hv) z) kk
theorem g_goto {off : Int} {tgt : Nat} (hd : decode M.2.2.1 pc = .ok (.goto off, 3)) (ht : (pc : Int) + off = (tgt : Int)) (kk : Go l M n0 Q k tgt L st w) : Go l M n0 Q k pc L st w :=
  Go.go1 (fun _ h => h) (fun _ hx hb z => lv_goto hx hb hd ht z) kk
end G1
