section G5
variable {l : Launch} {M : q_M} {n0 : Nat} {Q : q_P} {k : Nat × Nat} {pc : Nat} {L : q_Ls} {st : List Value} {w : q_Wd}
theorem g_objInit {cp i : Nat} (hd : decode M.2.2.1 pc = .ok (.invokespecial cp, 3)) (hl : Cond.methodLink M.2.1.cls cp objectInit ∈ q_tb) (hf : 1 ≤ M.1.frames) (hlo : (st.map fun v => v.category).sum + 12 ≤ M.1.locals) (kk : Go l M n0 Q k (pc + 3) L st w) : Go l M n0 Q k pc L (.ref i :: st) w := by
  intro p e s m args below meth c D tc ad0 ad A H locs ls hI
  obtain ⟨hX, hK, had, hn0, how, hoL, hos, hP, hD, hS, hls⟩ := hI
  have hts := hX.2.2.2.2.1
  refine W.objInit (a := ad i) (rest := st.map (q_v ad)) hX.1 hX.2.1 hX.2.2.2.1 (hts _ hl) (hts (.instanceMethod objectInit) (q_in 111 (by decide +kernel) rfl)) (hts (.code objectInit ⟨#[0xb1]⟩ 1 none) (q_in 112 (by decide +kernel) rfl)) rfl (hls.1.trans hX.2.2.1.symm) rfl hd hf (by show 2 * 0 + _ + 12 ≤ _; rw [q_cats]; omega) ?_
  exact W.eq (g2 := F0 m (pc + 3) ls (st.map (q_v ad))) rfl (kk p e s m args below meth c D tc ad0 ad A H locs ls ⟨hX, hK, had, hn0, how, hoL, fun v hv => hos v (List.mem_cons_of_mem _ hv), hP, hD, hS, hls⟩)
theorem g_copyi {cp i0 i1 n1 n2 : Nat} {f g : Nat → Int32} {sp dp n : Int32} {w' : q_Wd} (hd : decode M.2.2.1 pc = .ok (.invokestatic cp, 3)) (hl : Cond.methodLink M.2.1.cls cp arraycopyName ∈ q_tb) (hf : 1 ≤ M.1.frames) (hlo : (st.map fun v => v.category).sum + (nativeFrameWords "java/lang/System" "arraycopy" 5 + 11) ≤ M.1.locals) (h0 : w[i0]? = some (.inl (0, n1, .inl f))) (h1 : w[i1]? = some (.inl (0, n2, .inl g)))
    (hsp : ¬ sp < 0) (hdp : ¬ dp < 0) (hn : ¬ n < 0) (h4 : sp.toNatClampNeg + n.toNatClampNeg ≤ n1) (h5 : dp.toNatClampNeg + n.toNatClampNeg ≤ n2) (hw' : w.set i1 (.inl (0, n2, .inl (va_cpy f g sp.toNatClampNeg dp.toNatClampNeg n.toNatClampNeg))) = w') (kk : Go l M n0 Q k (pc + 3) L st w') : Go l M n0 Q k pc L (.int n :: .int dp :: .ref i1 :: .int sp :: .ref i0 :: st) w := by
  subst hw'
  intro p e s m args below meth c D tc ad0 ad A H locs ls hI
  obtain ⟨hX, hK, had, hn0, how, hoL, hos, hP, hD, hS, hls⟩ := hI
  have hts := hX.2.2.2.2.1
  refine va_copyi (ty := .int) hX.1 hX.2.1 (hX.2.2.1.trans hls.1.symm) hX.2.2.2.1 (hts _ hl) (hts (.native arraycopyName) (q_in 416 (by decide +kernel) rfl)) (hts (.static arraycopyName) (q_in 415 (by decide +kernel) rfl)) (hts (.initialized "java/lang/System") (q_in 102 (by decide +kernel) rfl)) hK hP hD hS i0 i1 0 0 (q_w_at h0) (q_w_at h1) rfl rfl rfl hsp hdp hn h4 h5 (fun _ _ => rfl) hf (by rw [q_cats]; exact hlo) hd (fun H1 locs1 hP1 hD1 hS1 => ?_)
  have he : (q_w tc ad w).set i1 (ad i1, .inl (tc 0, n2, .inl (va_cpy f g sp.toNatClampNeg dp.toNatClampNeg n.toNatClampNeg))) = q_w tc ad (w.set i1 (.inl (0, n2, .inl (va_cpy f g sp.toNatClampNeg dp.toNatClampNeg n.toNatClampNeg)))) := q_w_set (c := .inl (0, n2, .inl (va_cpy f g sp.toNatClampNeg dp.toNatClampNeg n.toNatClampNeg)))
  rw [he] at hP1 hD1
  refine kk p e s m args below meth c D tc ad0 ad A H1 locs1 ls ⟨hX, hK, had, by rw [List.length_set]; exact hn0, q_okw_set how q_okc_i, by rw [List.length_set]; exact hoL, ?_, hP1, hD1, hS1, hls⟩
  rw [List.length_set]
  exact fun u hu => hos u (List.mem_cons_of_mem _ (List.mem_cons_of_mem _ (List.mem_cons_of_mem _ (List.mem_cons_of_mem _ (List.mem_cons_of_mem _ hu)))))
theorem g_rounds {i : Nat} {x : Int32} {fs : List Value} (d1 : decode M.2.2.1 pc = .ok (.getstatic 19, 3)) (d2 : decode M.2.2.1 (pc + 3) = .ok (.aload_n 0, 1)) (d3 : decode M.2.2.1 (pc + 4) = .ok (.getfield 13, 3)) (d4 : decode M.2.2.1 (pc + 7) = .ok (.iconst 2, 1)) (d5 : decode M.2.2.1 (pc + 8) = .ok (.isub, 1)) (d6 : decode M.2.2.1 (pc + 9) = .ok (.iaload, 1))
    (hlk : Cond.fieldLink M.2.1.cls 19 "AheadRows$Cycle" "ROUNDS" "[I" ∈ q_tb) (hf : q_FL M.2.1.cls 13 1 0) (hl : L[0]? = some (some (.ref i))) (hw : w[i]? = some (.inr (1, fs))) (hv : fs[0]? = some (.int x)) (hin : vp_in (x - 2) 9) (kk : Go l M n0 Q k (pc + 10) L (.int (q_rounds (x - 2).toNatClampNeg) :: st) w) : Go l M n0 Q k pc L st w := by
  intro p e s m args below meth c D tc ad0 ad A H locs ls hI
  obtain ⟨hX, hK, had, hn0, how, hoL, hos, hP, hD, hS, hls⟩ := hI
  have hts := hX.2.2.2.2.1
  obtain ⟨t, hZ, hT⟩ := hX.2.2.2.2.2.2.2.2.2.1
  obtain ⟨C, T, N, h1, h2, h3, h4⟩ := hf
  have hv2 : (fs.map (q_v ad))[0]? = some (.int x) := by rw [List.getElem?_map, hv]; rfl
  refine va_gets hX.1 hX.2.1 hZ hS hX.2.2.2.1 (hts _ hlk) (fun _ z => z) d1 ?_
  refine lv_aload_n hX.1 hX.2.1 d2 rfl (hls.2.2 0 _ hl) ?_
  refine va_get (Ts := q_tb) hX.1 hX.2.1 hts h4 hX.2.2.2.1 hK hP i (q_w_at hw) h1 0 h2 (hts _ h3) (fun _ z => z) hv2 d3 ?_
  refine lv_iconst (v := 2) hX.1 hX.2.1 d4 (by decide) ?_
  refine lv_isub hX.1 hX.2.1 d5 ?_
  refine va_ti hX.1 hX.2.1 hT hS hin rfl d6 ?_
  exact kk p e s m args below meth c D tc ad0 ad A H locs ls ⟨hX, hK, had, hn0, how, hoL, q_okp q_ok_int (fun _ z => z) hos, hP, hD, hS, hls⟩
/-- fewer locals are asked -/
theorem Go.locs {L' : q_Ls} (h : ∀ (i : Nat) (v : Value), L'[i]? = some (some v) → L[i]? = some (some v)) (kk : Go l M n0 Q k pc L' st w) : Go l M n0 Q k pc L st w := by
  intro p e s m args below meth c D tc ad0 ad A H locs ls hI
  obtain ⟨hX, hK, had, hn0, how, hoL, hos, hP, hD, hS, hls⟩ := hI
  exact kk p e s m args below meth c D tc ad0 ad A H locs ls ⟨hX, hK, had, hn0, how, fun i v hi => hoL i v (h i v hi), hos, hP, hD, hS, hls.1, hls.2.1, fun i v hi => hls.2.2 i v (h i v hi)⟩
/-- forgets the locals from a place on, or one -/
def q_cutL : q_Ls → List Nat → q_Ls := fun L ns => L.mapIdx (fun i o => if i ∈ ns then none else o)
theorem Go.cut (ns : List Nat) {L' : q_Ls} (hL : q_cutL L ns = L') (kk : Go l M n0 Q k pc L' st w) : Go l M n0 Q k pc L st w := by
  subst hL
  refine Go.locs (fun i v hi => ?_) kk
  unfold q_cutL at hi
  rw [List.getElem?_mapIdx] at hi
  cases hL : L[i]? with
  | none => rw [hL] at hi; cases hi
  | some o =>
    rw [hL] at hi
    simp only [Option.map_some, Option.some.injEq] at hi
    split at hi
    · cases hi
    · rw [hi]
theorem Go.mono {Q' : q_P} (h : ∀ r w', Q' r w' → Q r w') (kk : Go l M n0 Q' k pc L st w) : Go l M n0 Q k pc L st w := by
  intro p e s m args below meth c D tc ad0 ad A H locs ls hI T hT X
  obtain ⟨t, a, o, b1, b2, ⟨⟨ad1, r, w1, hQ, hr⟩, hF⟩, hL⟩ := kk p e s m args below meth c D tc ad0 ad A H locs ls hI T hT X
  exact ⟨t, a, o, b1, b2, ⟨⟨ad1, r, w1, h r w1 hQ, hr⟩, hF⟩, hL⟩
theorem Go.eq {pc' : Nat} {L' : q_Ls} {st' : List Value} {w' : q_Wd} (h1 : pc = pc') (h2 : L = L') (h3 : st = st') (h4 : w = w') (kk : Go l M n0 Q k pc' L' st' w') : Go l M n0 Q k pc L st w := by
  subst h1 h2 h3 h4; exact kk
/-- the answer and the world behind a call, as they are -/
def q_eq (r : Option Value) (w : q_Wd) : q_P := fun r' w' => r' = r ∧ w' = w
theorem g_topi {x : Int32} (kk : ∀ y : Int32, y = x → Go l M n0 Q k pc L (.int y :: st) w) : Go l M n0 Q k pc L (.int x :: st) w := kk x rfl
end G5
