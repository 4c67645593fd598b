theorem Met.ofWF {l : Launch} {y : MethodName} {ws ws' : List Cond} {rm : Room} {Pc : Array Value → State → Prop} {Qc : Array Value → State → Outcome → State → Prop} {mc ms : Nat} {free : Addr → Prop} {cc : ByteArray} {maxL : Nat} {ret : Option FieldType}
    (hy : plainFor y = true) (hw : ws = Cond.code y cc maxL ret :: ws')
    (body : ∀ p e s m args below meth c s₁, BodyLoose p l y (headSpec ws rm) cc maxL ret e s m args below meth c s₁ → c.maxLocals = maxL → Pc args s →
      W p l e (headSpec ws rm).room s m args below meth c s.heap [] 0 0 (MQ below Qc args s mc ms free) (entryFrame m args maxL)) : Met l y ws rm Pc Qc mc ms free := by
  refine MetFree.of_bodySF (code := cc) (maxLocals := maxL) (ret := ret) hy ?_ ?_
  · intro args s m h hn
    obtain ⟨meth, c, h1, h2, h3, h4, h5, h6, -, -⟩ := Cond.code_spec hn (atoms_spec (ws := ws) h _ (by rw [hw]; exact List.mem_cons_self))
    exact ⟨meth, c, h1, h2, h3, h4, h5, h6⟩
  · intro p e s m args below meth c s₁ B hml hP _
    have hh0 : s₁.heap = s.heap := by rw [B.state]; rfl
    obtain ⟨t, a1, o, b1, b2, b3⟩ := body p e s m args below meth c s₁ B hml hP s₁ hh0 (Stand.of_body B)
    exact ⟨t, o, a1, b1, b2, ⟨b3.1, b3.2⟩⟩
theorem Ct.ofF {l : Launch} {M : q_M} {as : List Value} {w : q_Wd} {Q : q_P} (hpl : plainFor M.2.1 = true) (hlen : (as.map fun v => v.category).sum ≤ M.2.2.2.1) (h : Go l M w.length Q (0, 0) 0 (q_ent as M.2.2.2.1) [] w) : Ct l M as w Q := by
  intro D tc ad sz how hoa
  refine Met.ofWF (cc := M.2.2.1) (maxL := M.2.2.2.1) (ret := M.2.2.2.2) hpl rfl ?_
  intro p e s m args below meth c s₁ B hml hv
  obtain ⟨rfl, hsz, hP, hK, hD0, hSt, hN⟩ := hv
  have hts0 := atoms_spec (ws := q_ws M) B.pre
  have hts : ∀ w ∈ q_tb, w.before (as.map (q_v ad)).toArray s = true := fun w h => hts0 w (List.mem_cons_of_mem _ h)
  have hown : s.vm.findClass M.2.1.cls = some m.cls := findClass_of_methodNamed B.named
  subst hsz
  have hD := hD0.self (sz := s.heap.size)
  have hl := lv_entry (as.map (q_v ad)) (n := M.2.2.2.1) (by rw [q_sl_len]; exact hlen)
  rw [lg_entry_eq]
  refine h p e s m _ below meth c D tc ad ad _ s.heap [] _ ⟨⟨B.exec, B.bytes, hml, hown, hts, B.returns, B.notSynchronized, (name_of_methodNamed B.named B.method).1, fun q h => Or.inr h, hSt, hN⟩, hK, fun _ _ => rfl, Nat.le_refl _, how, ?_, (fun v hv => by cases hv), hP, hD, va_S.rf, hl.1, hl.2.1, ?_⟩
  · exact fun i v hi => hoa v (q_ent_in as _ 0 i v ad hi).2
  · intro i v hi
    have h1 := (q_ent_in as _ 0 i v ad hi).1
    rw [Nat.zero_add] at h1
    exact hl.2.2 _ h1
