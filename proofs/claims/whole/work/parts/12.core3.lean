def q_FL (own : String) (cp ci kf : Nat) : Prop := ∃ (C : String) (T : u_T) (N : Nat), vwCl[ci]? = some (C, T, N) ∧ kf < N ∧ Cond.fieldLink own cp (T kf).1 (T kf).2.1 (T kf).2.2.1 ∈ q_tb ∧ ∀ w ∈ u_ws C T N, w ∈ q_tb
def q_FP (own : String) (cp ci kf : Nat) (ty : FieldType) (fin : Bool) : Prop := ∃ (C : String) (T : u_T) (N : Nat) (ty0 : Nat → FieldType), vwCl[ci]? = some (C, T, N) ∧ kf < N ∧ Cond.fieldLink own cp (T kf).1 (T kf).2.1 (T kf).2.2.1 ∈ q_tb ∧ (∀ w ∈ u_ws C T N, w ∈ q_tb) ∧ (∀ k, k < N → parseFieldDescriptor (T k).2.2.1 = some (ty0 k)) ∧ (∀ a, a < N → ∀ b, b < N → a ≠ b → (T a).2.1 ≠ (T b).2.1) ∧ (T kf).2.2.2 = fin ∧ parseFieldDescriptor (T kf).2.2.1 = some ty ∧ (T kf).1 = own
def q_NW (own : String) (cp ci N : Nat) (fs : List Value) : Prop := ∃ (C : String) (T : u_T) (ty : Nat → FieldType), vwCl[ci]? = some (C, T, N) ∧ (∀ w ∈ u_ws C T N, w ∈ q_tb) ∧ (∀ k, k < N → parseFieldDescriptor (T k).2.2.1 = some (ty k)) ∧ Cond.classLink own cp C ∈ q_tb ∧ Cond.instantiable C N ∈ q_tb ∧ Cond.initialized C ∈ q_tb ∧ (∀ j, j < N → defaultValue (ty j) = vp_V fs j) ∧ ∀ v ∈ fs, v = .null ∨ (∃ x, v = .int x) ∨ ∃ x, v = .long x
section G3
variable {l : Launch} {M : q_M} {n0 : Nat} {Q : q_P} {k : Nat × Nat} {pc : Nat} {L : q_Ls} {st : List Value} {w : q_Wd}
theorem g_getf {cp ci kf i : Nat} {fs : List Value} {v : Value} (hd : decode M.2.2.1 pc = .ok (.getfield cp, 3)) (hf : q_FL M.2.1.cls cp ci kf) (hw : w[i]? = some (.inr (ci, fs))) (hv : fs[kf]? = some v) (kk : Go l M n0 Q k (pc + 3) L (v :: st) w) : Go l M n0 Q k pc L (.ref i :: st) w := by
  intro p e s m args below meth c D tc ad0 ad A H locs ls hI
  obtain ⟨hX, hK, had, hn0, how, hoL, hos, hP, hD, hS, hls⟩ := hI
  obtain ⟨C, T, N, h1, h2, h3, h4⟩ := hf
  have hv2 : (fs.map (q_v ad))[kf]? = some (q_v ad v) := by rw [List.getElem?_map, hv]; rfl
  exact va_get (Ts := q_tb) hX.1 hX.2.1 hX.2.2.2.2.1 h4 hX.2.2.2.1 hK hP i (q_w_at hw) h1 kf h2 (hX.2.2.2.2.1 _ h3) (fun _ z => z) hv2 hd (kk p e s m args below meth c D tc ad0 ad A H locs ls ⟨hX, hK, had, hn0, how, hoL, q_okp (how i _ hw v (List.mem_of_getElem? hv)) (fun _ z => List.mem_cons_of_mem _ z) hos, hP, hD, hS, hls⟩)
theorem q_set_ok {n kf : Nat} {fs : List Value} {v : Value} (h : ∀ u ∈ fs, q_ok n u) (hv : q_ok n v) : ∀ u ∈ fs.set kf v, q_ok n u := by
  intro u hu
  rcases List.mem_or_eq_of_mem_set hu with h1 | h1
  · exact h u h1
  · exact h1 ▸ hv
theorem g_putf {cp ci kf i : Nat} {fs : List Value} {v : Value} {ty : FieldType} {w' : q_Wd} (hd : decode M.2.2.1 pc = .ok (.putfield cp, 3)) (hf : q_FP M.2.1.cls cp ci kf ty false) (hw : w[i]? = some (.inr (ci, fs))) (hl : kf < fs.length) (hn : ∀ ad, narrow ty (q_v ad v) = q_v ad v) (hfit : ∀ ad, fits ty (q_v ad v) = true) (hw' : w.set i (.inr (ci, fs.set kf v)) = w') (kk : Go l M n0 Q k (pc + 3) L st w') : Go l M n0 Q k pc L (v :: .ref i :: st) w := by
  subst hw'
  intro p e s m args below meth c D tc ad0 ad A H locs ls hI
  obtain ⟨hX, hK, had, hn0, how, hoL, hos, hP, hD, hS, hls⟩ := hI
  obtain ⟨C, T, N, ty0, h1, h2, h3, h4, h5, h6, h7, h8, -⟩ := hf
  refine va_put (Ts := q_tb) hX.1 hX.2.1 hX.2.2.2.2.1 h4 ty0 h5 h6 hX.2.2.2.1 hK hP hD hS i (q_w_at hw) h1 kf h2 (hX.2.2.2.2.1 _ h3) (fun _ z => z) h7 h8 (hn ad) (hfit ad) (by rw [List.length_map]; exact hl) hd (fun H1 locs1 hP1 hD1 hS1 => ?_)
  have he : (q_w tc ad w).set i (ad i, .inr (ci, (fs.map (q_v ad)).set kf (q_v ad v))) = q_w tc ad (w.set i (.inr (ci, fs.set kf v))) := by
    rw [← q_w_set]
    show _ = (q_w tc ad w).set i (ad i, .inr (ci, (fs.set kf v).map (q_v ad)))
    rw [List.map_set]
  rw [he] at hP1 hD1
  refine kk p e s m args below meth c D tc ad0 ad A H1 locs1 ls ⟨hX, hK, had, by rw [List.length_set]; exact hn0, q_okw_set how ?_, by rw [List.length_set]; exact hoL, ?_, hP1, hD1, hS1, hls⟩
  · exact q_set_ok (how i _ hw) (hos _ List.mem_cons_self)
  · rw [List.length_set]
    exact fun u hu => hos u (List.mem_cons_of_mem _ (List.mem_cons_of_mem _ hu))
theorem g_putF {cp ci kf i : Nat} {fs : List Value} {v : Value} {ty : FieldType} {w' : q_Wd} (hd : decode M.2.2.1 pc = .ok (.putfield cp, 3)) (hf : q_FP M.2.1.cls cp ci kf ty true) (hin : M.2.1.name = "<init>") (hw : w[i]? = some (.inr (ci, fs))) (hl : kf < fs.length) (hn : ∀ ad, narrow ty (q_v ad v) = q_v ad v) (hfit : ∀ ad, fits ty (q_v ad v) = true) (hw' : w.set i (.inr (ci, fs.set kf v)) = w') (kk : Go l M n0 Q k (pc + 3) L st w') : Go l M n0 Q k pc L (v :: .ref i :: st) w := by
  subst hw'
  intro p e s m args below meth c D tc ad0 ad A H locs ls hI
  obtain ⟨hX, hK, had, hn0, how, hoL, hos, hP, hD, hS, hls⟩ := hI
  obtain ⟨C, T, N, ty0, h1, h2, h3, h4, h5, h6, h7, h8, h9⟩ := hf
  refine va_putF (Ts := q_tb) hX.1 hX.2.1 hX.2.2.2.2.1 h4 ty0 h5 h6 hX.2.2.2.1 hK hP hD hS i (q_w_at hw) h1 kf h2 (hX.2.2.2.2.1 _ h3) (fun _ z => z) h7 (hX.2.2.2.2.2.2.2.1.trans hin) h9 h8 (hn ad) (hfit ad) (by rw [List.length_map]; exact hl) hd (fun H1 locs1 hP1 hD1 hS1 => ?_)
  have he : (q_w tc ad w).set i (ad i, .inr (ci, (fs.map (q_v ad)).set kf (q_v ad v))) = q_w tc ad (w.set i (.inr (ci, fs.set kf v))) := by
    rw [← q_w_set]
    show _ = (q_w tc ad w).set i (ad i, .inr (ci, (fs.set kf v).map (q_v ad)))
    rw [List.map_set]
  rw [he] at hP1 hD1
  refine kk p e s m args below meth c D tc ad0 ad A H1 locs1 ls ⟨hX, hK, had, by rw [List.length_set]; exact hn0, q_okw_set how ?_, by rw [List.length_set]; exact hoL, ?_, hP1, hD1, hS1, hls⟩
  · exact q_set_ok (how i _ hw) (hos _ List.mem_cons_self)
  · rw [List.length_set]
    exact fun u hu => hos u (List.mem_cons_of_mem _ (List.mem_cons_of_mem _ hu))
theorem g_iald {i n : Nat} {f : Nat → Int32} {x : Int32} (hd : decode M.2.2.1 pc = .ok (.iaload, 1)) (hw : w[i]? = some (.inl (0, n, .inl f))) (hin : vp_in x n) (kk : Go l M n0 Q k (pc + 1) L (.int (f x.toNatClampNeg) :: st) w) : Go l M n0 Q k pc L (.int x :: .ref i :: st) w := by
  intro p e s m args below meth c D tc ad0 ad A H locs ls hI
  obtain ⟨hX, hK, had, hn0, how, hoL, hos, hP, hD, hS, hls⟩ := hI
  exact va_iald hX.1 hX.2.1 hK hP i 0 (q_w_at hw) rfl hin hd (kk p e s m args below meth c D tc ad0 ad A H locs ls ⟨hX, hK, had, hn0, how, hoL, q_okp q_ok_int q_ok2 hos, hP, hD, hS, hls⟩)
theorem g_bald {i n : Nat} {f : Nat → Int32} {x : Int32} (hd : decode M.2.2.1 pc = .ok (.baload, 1)) (hw : w[i]? = some (.inl (1, n, .inl f))) (hin : vp_in x n) (kk : Go l M n0 Q k (pc + 1) L (.int (f x.toNatClampNeg) :: st) w) : Go l M n0 Q k pc L (.int x :: .ref i :: st) w := by
  intro p e s m args below meth c D tc ad0 ad A H locs ls hI
  obtain ⟨hX, hK, had, hn0, how, hoL, hos, hP, hD, hS, hls⟩ := hI
  exact va_bald hX.1 hX.2.1 hK hP i 1 (q_w_at hw) rfl hin hd (kk p e s m args below meth c D tc ad0 ad A H locs ls ⟨hX, hK, had, hn0, how, hoL, q_okp q_ok_int q_ok2 hos, hP, hD, hS, hls⟩)
theorem g_zald {i n : Nat} {f : Nat → Int32} {x : Int32} (hd : decode M.2.2.1 pc = .ok (.baload, 1)) (hw : w[i]? = some (.inl (2, n, .inl f))) (hin : vp_in x n) (kk : Go l M n0 Q k (pc + 1) L (.int (f x.toNatClampNeg) :: st) w) : Go l M n0 Q k pc L (.int x :: .ref i :: st) w := by
  intro p e s m args below meth c D tc ad0 ad A H locs ls hI
  obtain ⟨hX, hK, had, hn0, how, hoL, hos, hP, hD, hS, hls⟩ := hI
  exact va_zald hX.1 hX.2.1 hK hP i 2 (q_w_at hw) rfl hin hd (kk p e s m args below meth c D tc ad0 ad A H locs ls ⟨hX, hK, had, hn0, how, hoL, q_okp q_ok_int q_ok2 hos, hP, hD, hS, hls⟩)
theorem q_okc_i {t n j : Nat} {f : Nat → Int32} : q_okc j (.inl (t, n, .inl f)) := fun g e => by cases e
theorem g_iast {i n : Nat} {f : Nat → Int32} {x v : Int32} {w' : q_Wd} (hd : decode M.2.2.1 pc = .ok (.iastore, 1)) (hw : w[i]? = some (.inl (0, n, .inl f))) (hin : vp_in x n) (hw' : w.set i (.inl (0, n, .inl (upd f x.toNatClampNeg v))) = w') (kk : Go l M n0 Q k (pc + 1) L st w') : Go l M n0 Q k pc L (.int v :: .int x :: .ref i :: st) w := by
  subst hw'
  intro p e s m args below meth c D tc ad0 ad A H locs ls hI
  obtain ⟨hX, hK, had, hn0, how, hoL, hos, hP, hD, hS, hls⟩ := hI
  refine va_iast hX.1 hX.2.1 hK hP hD hS i 0 (q_w_at hw) rfl hin hd (fun H1 locs1 hP1 hD1 hS1 => ?_)
  have he : (q_w tc ad w).set i (ad i, .inl (tc 0, n, .inl (upd f x.toNatClampNeg v))) = q_w tc ad (w.set i (.inl (0, n, .inl (upd f x.toNatClampNeg v)))) := q_w_set (c := (.inl (0, n, .inl (upd f x.toNatClampNeg v))))
  rw [he] at hP1 hD1
  refine kk p e s m args below meth c D tc ad0 ad A H1 locs1 ls ⟨hX, hK, had, by rw [List.length_set]; exact hn0, q_okw_set how q_okc_i, by rw [List.length_set]; exact hoL, ?_, hP1, hD1, hS1, hls⟩
  rw [List.length_set]
  exact fun u hu => hos u (List.mem_cons_of_mem _ (List.mem_cons_of_mem _ (List.mem_cons_of_mem _ hu)))
theorem g_bast {i n : Nat} {f : Nat → Int32} {x v : Int32} {w' : q_Wd} (hd : decode M.2.2.1 pc = .ok (.bastore, 1)) (hw : w[i]? = some (.inl (1, n, .inl f))) (hin : vp_in x n) (hw' : w.set i (.inl (1, n, .inl (upd f x.toNatClampNeg (vp_nar .byte v)))) = w') (kk : Go l M n0 Q k (pc + 1) L st w') : Go l M n0 Q k pc L (.int v :: .int x :: .ref i :: st) w := by
  subst hw'
  intro p e s m args below meth c D tc ad0 ad A H locs ls hI
  obtain ⟨hX, hK, had, hn0, how, hoL, hos, hP, hD, hS, hls⟩ := hI
  refine va_bast hX.1 hX.2.1 hK hP hD hS i 1 (q_w_at hw) rfl hin hd (fun H1 locs1 hP1 hD1 hS1 => ?_)
  have he : (q_w tc ad w).set i (ad i, .inl (tc 1, n, .inl (upd f x.toNatClampNeg (vp_nar .byte v)))) = q_w tc ad (w.set i (.inl (1, n, .inl (upd f x.toNatClampNeg (vp_nar .byte v))))) := q_w_set (c := (.inl (1, n, .inl (upd f x.toNatClampNeg (vp_nar .byte v)))))
  rw [he] at hP1 hD1
  refine kk p e s m args below meth c D tc ad0 ad A H1 locs1 ls ⟨hX, hK, had, by rw [List.length_set]; exact hn0, q_okw_set how q_okc_i, by rw [List.length_set]; exact hoL, ?_, hP1, hD1, hS1, hls⟩
  rw [List.length_set]
  exact fun u hu => hos u (List.mem_cons_of_mem _ (List.mem_cons_of_mem _ (List.mem_cons_of_mem _ hu)))
theorem g_zast {i n : Nat} {f : Nat → Int32} {x v : Int32} {w' : q_Wd} (hd : decode M.2.2.1 pc = .ok (.bastore, 1)) (hw : w[i]? = some (.inl (2, n, .inl f))) (hin : vp_in x n) (hw' : w.set i (.inl (2, n, .inl (upd f x.toNatClampNeg (vp_nar .boolean v)))) = w') (kk : Go l M n0 Q k (pc + 1) L st w') : Go l M n0 Q k pc L (.int v :: .int x :: .ref i :: st) w := by
  subst hw'
  intro p e s m args below meth c D tc ad0 ad A H locs ls hI
  obtain ⟨hX, hK, had, hn0, how, hoL, hos, hP, hD, hS, hls⟩ := hI
  refine va_zast hX.1 hX.2.1 hK hP hD hS i 2 (q_w_at hw) rfl hin hd (fun H1 locs1 hP1 hD1 hS1 => ?_)
  have he : (q_w tc ad w).set i (ad i, .inl (tc 2, n, .inl (upd f x.toNatClampNeg (vp_nar .boolean v)))) = q_w tc ad (w.set i (.inl (2, n, .inl (upd f x.toNatClampNeg (vp_nar .boolean v))))) := q_w_set (c := (.inl (2, n, .inl (upd f x.toNatClampNeg (vp_nar .boolean v)))))
  rw [he] at hP1 hD1
  refine kk p e s m args below meth c D tc ad0 ad A H1 locs1 ls ⟨hX, hK, had, by rw [List.length_set]; exact hn0, q_okw_set how q_okc_i, by rw [List.length_set]; exact hoL, ?_, hP1, hD1, hS1, hls⟩
  rw [List.length_set]
  exact fun u hu => hos u (List.mem_cons_of_mem _ (List.mem_cons_of_mem _ (List.mem_cons_of_mem _ hu)))
theorem g_alen {i n : Nat} {f : Nat → Int32} (hd : decode M.2.2.1 pc = .ok (.arraylength, 1)) (hw : w[i]? = some (.inl (0, n, .inl f))) (kk : Go l M n0 Q k (pc + 1) L (.int (Int32.ofNat n) :: st) w) : Go l M n0 Q k pc L (.ref i :: st) w := by
  intro p e s m args below meth c D tc ad0 ad A H locs ls hI
  obtain ⟨hX, hK, had, hn0, how, hoL, hos, hP, hD, hS, hls⟩ := hI
  exact va_alen (x := (n, .inl f)) hX.1 hX.2.1 hK hP i 0 (q_w_at hw) rfl rfl hd (kk p e s m args below meth c D tc ad0 ad A H locs ls ⟨hX, hK, had, hn0, how, hoL, q_okp q_ok_int q_ok1 hos, hP, hD, hS, hls⟩)
theorem g_aald {i n j : Nat} {f : Nat → Option Nat} {x : Int32} (hd : decode M.2.2.1 pc = .ok (.aaload, 1)) (hw : w[i]? = some (.inl (3, n, .inr (.inr (.inr (.inr f)))))) (hin : vp_in x n) (hj : f x.toNatClampNeg = some j) (kk : Go l M n0 Q k (pc + 1) L (.ref j :: st) w) : Go l M n0 Q k pc L (.int x :: .ref i :: st) w := by
  intro p e s m args below meth c D tc ad0 ad A H locs ls hI
  obtain ⟨hX, hK, had, hn0, how, hoL, hos, hP, hD, hS, hls⟩ := hI
  refine va_aldq (C := "AheadRows$Cycle") (f := fun j => (f j).map ad) hX.1 hX.2.1 hK hP i 3 (q_w_at hw) rfl hin hd ?_
  simp only [hj, Option.map_some]
  exact kk p e s m args below meth c D tc ad0 ad A H locs ls ⟨hX, hK, had, hn0, how, hoL, q_okp (q_ok_ref (how i _ hw f rfl _ _ hj)) q_ok2 hos, hP, hD, hS, hls⟩
theorem g_aast {i n j : Nat} {vs : List Value} {f : Nat → Option Nat} {x : Int32} {w' : q_Wd} (hd : decode M.2.2.1 pc = .ok (.aastore, 1)) (hw : w[i]? = some (.inl (3, n, .inr (.inr (.inr (.inr f)))))) (hin : vp_in x n) (hj : w[j]? = some (.inr (1, vs))) (hw' : w.set i (.inl (3, n, .inr (.inr (.inr (.inr (va_up f x.toNatClampNeg (some j))))))) = w') (kk : Go l M n0 Q k (pc + 1) L st w') : Go l M n0 Q k pc L (.ref j :: .int x :: .ref i :: st) w := by
  subst hw'
  intro p e s m args below meth c D tc ad0 ad A H locs ls hI
  obtain ⟨hX, hK, had, hn0, how, hoL, hos, hP, hD, hS, hls⟩ := hI
  refine va_astq (f := fun j => (f j).map ad) (r := (RX1, TX1, 3)) hX.1 hX.2.1 hK hP hD hS i 3 j 1 (q_w_at hw) rfl (q_w_at hj) rfl hin hd (fun H1 locs1 hP1 hD1 hS1 => ?_)
  have he : (q_w tc ad w).set i (ad i, .inl (tc 3, n, .inr (.inr (.inr (.inr (va_up (fun j => (f j).map ad) x.toNatClampNeg (some (ad j)))))))) = q_w tc ad (w.set i (.inl (3, n, .inr (.inr (.inr (.inr (va_up f x.toNatClampNeg (some j)))))))) := by
    rw [← q_w_set]
    congr 1
    show (ad i, (Sum.inl (tc 3, n, .inr (.inr (.inr (.inr _)))) : va_E)) = (ad i, Sum.inl (tc 3, n, .inr (.inr (.inr (.inr (fun q => (va_up f x.toNatClampNeg (some j) q).map ad))))))
    congr 8
    funext q
    unfold va_up
    by_cases hq : q = x.toNatClampNeg <;> simp [hq]
  rw [he] at hP1 hD1
  have hjl : j < w.length := (List.getElem?_eq_some_iff.mp hj).1
  refine kk p e s m args below meth c D tc ad0 ad A H1 locs1 ls ⟨hX, hK, had, by rw [List.length_set]; exact hn0, q_okw_set how ?_, by rw [List.length_set]; exact hoL, ?_, hP1, hD1, hS1, hls⟩
  · intro g eg q z hq
    cases eg
    unfold va_up at hq
    by_cases h : q = x.toNatClampNeg
    · simp [h] at hq
      exact hq ▸ hjl
    · simp [h] at hq
      exact how i _ hw f rfl q z hq
  · rw [List.length_set]
    exact fun u hu => hos u (List.mem_cons_of_mem _ (List.mem_cons_of_mem _ (List.mem_cons_of_mem _ hu)))
/-! new cells -/
def q_ext (ad : Nat → Nat) (n q : Nat) : Nat → Nat := fun i => if i = n then q else ad i
theorem q_ext_lt {ad : Nat → Nat} {n q i : Nat} (h : i < n) : q_ext ad n q i = ad i := if_neg (by omega)
theorem q_ext_eq {ad : Nat → Nat} {n q : Nat} : q_ext ad n q n = q := if_pos rfl
theorem q_map_ext {ad : Nat → Nat} {n q : Nat} {st : List Value} (h : ∀ v ∈ st, q_ok n v) : st.map (q_v (q_ext ad n q)) = st.map (q_v ad) :=
  List.map_congr_left (fun v hv => q_v_same (fun i hi => q_ext_lt hi) (h v hv))
theorem q_L_ext {ad : Nat → Nat} {n q nL : Nat} {ls : Array Slot} {L : q_Ls} (h : q_L ad ls nL L) (ho : q_okL n L) : q_L (q_ext ad n q) ls nL L :=
  ⟨h.1, h.2.1, fun i v hv => by rw [q_v_same (fun i hi => q_ext_lt hi) (ho i v hv)]; exact h.2.2 i v hv⟩
/-- a cell is pushed: the state behind it -/
theorem q_pushI {p : Program} {s : State} {m : MethodId} {args : Array Value} {meth : Method} {c : Code} {D : va_G} {tc : Nat → ClassId} {ad0 ad : Nat → Nat} {A : Nat → Prop} {H H1 : Heap} {locs : List Loc} {ls : Array Slot} {q : Nat} {cel : q_Cel} {st0 st1 : List Value}
    (hI : q_I M n0 L st0 w p s m args meth c D tc ad0 ad A H locs ls) (hst : ∀ v ∈ st1, v ∈ st0) (hc : q_okc w.length cel) (hP : va_P D vwCl (q_w tc ad w ++ [(q, q_c tc ad cel)]) H1) (hD : va_D A (q_w tc ad w ++ [(q, q_c tc ad cel)])) (hS : va_S A s.heap H1 locs) :
    q_I M n0 L (.ref w.length :: st1) (w ++ [cel]) p s m args meth c D tc ad0 (q_ext ad w.length q) A H1 locs ls ∧ (.ref q :: st1.map (q_v ad) : List Value) = (.ref w.length :: st1 : List Value).map (q_v (q_ext ad w.length q)) := by
  obtain ⟨hX, hK, had, hn0, how, hoL, hos, -, -, -, hls⟩ := hI
  have e1 : q_w tc (q_ext ad w.length q) (w ++ [cel]) = q_w tc ad w ++ [(q, q_c tc ad cel)] := by
    rw [q_w_push, q_ext_eq, q_w_same (ad := ad) (fun i hi => q_ext_lt hi) how, q_c_same (fun i hi => q_ext_lt hi) hc]
  have hl : (w ++ [cel]).length = w.length + 1 := by simp
  refine ⟨⟨hX, hK, fun i hi => (q_ext_lt (by omega)).trans (had i hi), by rw [hl]; omega, q_okw_push how (hc.mono (by omega)), by rw [hl]; exact hoL.mono (by omega), ?_, by rw [e1]; exact hP, by rw [e1]; exact hD, hS, q_L_ext hls hoL⟩, ?_⟩
  · rw [hl]
    intro v hv
    rcases List.mem_cons.mp hv with rfl | hv
    · exact q_ok_ref (by omega)
    · exact (hos v (hst v hv)).mono (by omega)
  · show _ = q_v (q_ext ad w.length q) (.ref w.length) :: st1.map (q_v (q_ext ad w.length q))
    rw [q_map_ext (fun v hv => hos v (hst v hv))]
    show _ = Value.ref (q_ext ad w.length q w.length) :: _
    rw [q_ext_eq]
theorem g_new {cp ci N : Nat} {fs : List Value} (hd : decode M.2.2.1 pc = .ok (.new cp, 3)) (hn : q_NW M.2.1.cls cp ci N fs) (hc : k.1 + 1 ≤ M.1.cells) (hs : k.2 + N ≤ M.1.slots) (kk : Go l M n0 Q (k.1 + 1, k.2 + N) (pc + 3) L (.ref w.length :: st) (w ++ [.inr (ci, fs)])) : Go l M n0 Q k pc L st w := by
  intro p e s m args below meth c D tc ad0 ad A H locs ls hI
  obtain ⟨hX, hK, had, hn0, how, hoL, hos, hP, hD, hS, hls⟩ := id hI
  obtain ⟨C, T, ty, h1, h2, h3, h4, h5, h6, h7, h8⟩ := hn
  have hfs : fs.map (q_v ad) = fs := by
    rw [List.map_congr_left (g := id) (fun v hv => ?_), List.map_id]
    rcases h8 v hv with rfl | ⟨x, rfl⟩ | ⟨x, rfl⟩ <;> rfl
  refine va_new (Ts := q_tb) hX.1 hX.2.1 hX.2.2.2.2.1 h2 ty h3 hX.2.2.2.1 (hX.2.2.2.2.1 _ h4) (hX.2.2.2.2.1 _ h5) (hX.2.2.2.2.1 _ h6) hK hP hD hS hX.2.2.2.2.2.2.2.2.1 h1 h7 hc hs hd (fun q H1 hP1 hD1 hS1 => ?_)
  have hcel : q_c tc ad (.inr (ci, fs)) = .inr (ci, fs) := by
    show Sum.inr (ci, fs.map (q_v ad)) = _
    rw [hfs]
  obtain ⟨hI2, he⟩ := q_pushI (st1 := st) (cel := .inr (ci, fs)) (q := q) (H1 := H1) hI (fun _ z => z) (fun v hv => by rcases h8 v hv with rfl | ⟨x, rfl⟩ | ⟨x, rfl⟩ <;> exact fun i e => by cases e) (by rw [hcel]; exact hP1) (by rw [hcel]; exact hD1) hS1
  rw [he]
  exact kk p e s m args below meth c D tc ad0 _ A H1 locs ls hI2
theorem q_RA {D : va_G} {tc : Nat → ClassId} {s : State} {t : Nat} {ty : FieldType} {cA : ClassId} (hK : q_K D tc s) (ht : (q_tys tc)[t]? = some (tc t, ty)) (h : va_K D vwCl (q_tys tc ++ [(cA, ty)]) s) : cA = tc t := by
  have h1 := (h.2 4 (cA, ty) rfl).2
  have h2 := (hK.2 t _ ht).2
  cases ty with
  | object C =>
    obtain ⟨-, -, -, -, -, e1⟩ := h1
    obtain ⟨-, -, -, -, -, e2⟩ := h2
    exact Option.some.inj (e1.symm.trans e2)
  | _ => exact Option.some.inj (h1.symm.trans h2)
theorem g_newi {n : Int32} {N : Nat} (hd : decode M.2.2.1 pc = .ok (.newarray .int, 2)) (hn : ¬ n < 0) (hN : n.toNatClampNeg = N) (hb : N * 4 ≤ 536870912) (hc : k.1 + 1 ≤ M.1.cells) (hs : k.2 + N ≤ M.1.slots) (kk : Go l M n0 Q (k.1 + 1, k.2 + N) (pc + 2) L (.ref w.length :: st) (w ++ [.inl (0, N, .inl (fun _ => 0))])) : Go l M n0 Q k pc L (.int n :: st) w := by
  intro p e s m args below meth c D tc ad0 ad A H locs ls hI
  obtain ⟨hX, hK, had, hn0, how, hoL, hos, hP, hD, hS, hls⟩ := id hI
  refine va_newa (atype := .int) (ty := .int) (a0 := (N, .inl (fun _ => 0))) hX.1 hX.2.1 (hX.2.2.2.2.1 (.arrayClass .int) (q_in 129 (by decide +kernel) rfl)) rfl hK hP hD hS hX.2.2.2.2.2.2.2.2.1 (fun cA => rfl) hn hN hb hc hs hd (fun q cA H1 hK1 hP1 hD1 hS1 => ?_)
  have hcA : cA = tc 0 := q_RA (t := 0) hK rfl hK1
  subst hcA
  obtain ⟨hI2, he⟩ := q_pushI (st1 := st) (cel := .inl (0, N, .inl (fun _ => 0))) (q := q) (H1 := H1) hI (fun _ z => List.mem_cons_of_mem _ z) q_okc_i hP1 hD1 hS1
  show W p l e M.1 s m args below meth c H1 locs (k.1 + 1) (k.2 + N) _ (F0 m (pc + 2) ls (.ref q :: st.map (q_v ad)))
  rw [he]
  exact kk p e s m args below meth c D tc ad0 _ A H1 locs ls hI2
theorem g_newb {n : Int32} {N : Nat} (hd : decode M.2.2.1 pc = .ok (.newarray .byte, 2)) (hn : ¬ n < 0) (hN : n.toNatClampNeg = N) (hb : N * 1 ≤ 536870912) (hc : k.1 + 1 ≤ M.1.cells) (hs : k.2 + N ≤ M.1.slots) (kk : Go l M n0 Q (k.1 + 1, k.2 + N) (pc + 2) L (.ref w.length :: st) (w ++ [.inl (1, N, .inl (fun _ => 0))])) : Go l M n0 Q k pc L (.int n :: st) w := by
  intro p e s m args below meth c D tc ad0 ad A H locs ls hI
  obtain ⟨hX, hK, had, hn0, how, hoL, hos, hP, hD, hS, hls⟩ := id hI
  refine va_newa (atype := .byte) (ty := .byte) (a0 := (N, .inl (fun _ => 0))) hX.1 hX.2.1 (hX.2.2.2.2.1 (.arrayClass .byte) (q_in 955 (by decide +kernel) rfl)) rfl hK hP hD hS hX.2.2.2.2.2.2.2.2.1 (fun cA => rfl) hn hN hb hc hs hd (fun q cA H1 hK1 hP1 hD1 hS1 => ?_)
  have hcA : cA = tc 1 := q_RA (t := 1) hK rfl hK1
  subst hcA
  obtain ⟨hI2, he⟩ := q_pushI (st1 := st) (cel := .inl (1, N, .inl (fun _ => 0))) (q := q) (H1 := H1) hI (fun _ z => List.mem_cons_of_mem _ z) q_okc_i hP1 hD1 hS1
  show W p l e M.1 s m args below meth c H1 locs (k.1 + 1) (k.2 + N) _ (F0 m (pc + 2) ls (.ref q :: st.map (q_v ad)))
  rw [he]
  exact kk p e s m args below meth c D tc ad0 _ A H1 locs ls hI2
theorem g_newz {n : Int32} {N : Nat} (hd : decode M.2.2.1 pc = .ok (.newarray .boolean, 2)) (hn : ¬ n < 0) (hN : n.toNatClampNeg = N) (hb : N * 1 ≤ 536870912) (hc : k.1 + 1 ≤ M.1.cells) (hs : k.2 + N ≤ M.1.slots) (kk : Go l M n0 Q (k.1 + 1, k.2 + N) (pc + 2) L (.ref w.length :: st) (w ++ [.inl (2, N, .inl (fun _ => 0))])) : Go l M n0 Q k pc L (.int n :: st) w := by
  intro p e s m args below meth c D tc ad0 ad A H locs ls hI
  obtain ⟨hX, hK, had, hn0, how, hoL, hos, hP, hD, hS, hls⟩ := id hI
  refine va_newa (atype := .boolean) (ty := .boolean) (a0 := (N, .inl (fun _ => 0))) hX.1 hX.2.1 (hX.2.2.2.2.1 (.arrayClass .boolean) (q_in 956 (by decide +kernel) rfl)) rfl hK hP hD hS hX.2.2.2.2.2.2.2.2.1 (fun cA => rfl) hn hN hb hc hs hd (fun q cA H1 hK1 hP1 hD1 hS1 => ?_)
  have hcA : cA = tc 2 := q_RA (t := 2) hK rfl hK1
  subst hcA
  obtain ⟨hI2, he⟩ := q_pushI (st1 := st) (cel := .inl (2, N, .inl (fun _ => 0))) (q := q) (H1 := H1) hI (fun _ z => List.mem_cons_of_mem _ z) q_okc_i hP1 hD1 hS1
  show W p l e M.1 s m args below meth c H1 locs (k.1 + 1) (k.2 + N) _ (F0 m (pc + 2) ls (.ref q :: st.map (q_v ad)))
  rw [he]
  exact kk p e s m args below meth c D tc ad0 _ A H1 locs ls hI2
theorem g_newq {cp : Nat} {n : Int32} {N : Nat} (hd : decode M.2.2.1 pc = .ok (.anewarray cp, 3)) (hl : Cond.classLink M.2.1.cls cp "AheadRows$Cycle" ∈ q_tb) (hn : ¬ n < 0) (hN : n.toNatClampNeg = N) (hb : N * 4 ≤ 536870912) (hc : k.1 + 1 ≤ M.1.cells) (hs : k.2 + N ≤ M.1.slots) (kk : Go l M n0 Q (k.1 + 1, k.2 + N) (pc + 3) L (.ref w.length :: st) (w ++ [.inl (3, N, .inr (.inr (.inr (.inr (fun _ => none)))))])) : Go l M n0 Q k pc L (.int n :: st) w := by
  intro p e s m args below meth c D tc ad0 ad A H locs ls hI
  obtain ⟨hX, hK, had, hn0, how, hoL, hos, hP, hD, hS, hls⟩ := id hI
  refine va_newq (C := "AheadRows$Cycle") hX.1 hX.2.1 hX.2.2.2.1 (hX.2.2.2.2.1 _ hl) hX.2.2.2.2.2.2.2.2.2.2.2 hK hP hD hS hX.2.2.2.2.2.2.2.2.1 hn hN hb hc hs hd (fun q cA H1 hK1 hP1 hD1 hS1 => ?_)
  have hcA : cA = tc 3 := q_RA (t := 3) hK rfl hK1
  subst hcA
  obtain ⟨hI2, he⟩ := q_pushI (st1 := st) (cel := .inl (3, N, .inr (.inr (.inr (.inr (fun _ => none)))))) (q := q) (H1 := H1) hI (fun _ z => List.mem_cons_of_mem _ z) (fun g eg j i hg => by cases eg; cases hg) hP1 hD1 hS1
  show W p l e M.1 s m args below meth c H1 locs (k.1 + 1) (k.2 + N) _ (F0 m (pc + 3) ls (.ref q :: st.map (q_v ad)))
  rw [he]
  exact kk p e s m args below meth c D tc ad0 _ A H1 locs ls hI2
end G3
