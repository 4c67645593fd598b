section G2
variable {l : Launch} {M : q_M} {n0 : Nat} {Q : q_P} {k : Nat × Nat} {pc : Nat} {L : q_Ls} {st : List Value} {w : q_Wd}
theorem g_if_eq {x : Int32} {off : Int} {tgt : Nat} (hd : decode M.2.2.1 pc = .ok (.ifCond .eq off, 3)) (ht : (pc : Int) + off = (tgt : Int)) (kt : x = 0 → Go l M n0 Q k tgt L st w) (kf : ¬ (x = 0) → Go l M n0 Q k (pc + 3) L st w) : Go l M n0 Q k pc L (.int x :: st) w := by
  intro p e s m args below meth c D tc ad0 ad A H locs ls hI
  obtain ⟨hX, hK, had, hn0, how, hoL, hos, hP, hD, hS, hl⟩ := hI
  exact lv_if_eq hX.1 hX.2.1 hd ht (fun z => kt z p e s m args below meth c D tc ad0 ad A H locs ls ⟨hX, hK, had, hn0, how, hoL, fun v hv => hos v (List.mem_cons_of_mem _ hv), hP, hD, hS, hl⟩) (fun z => kf z p e s m args below meth c D tc ad0 ad A H locs ls ⟨hX, hK, had, hn0, how, hoL, fun v hv => hos v (List.mem_cons_of_mem _ hv), hP, hD, hS, hl⟩)
theorem g_icmp_eq {x y : Int32} {off : Int} {tgt : Nat} (hd : decode M.2.2.1 pc = .ok (.if_icmp .eq off, 3)) (ht : (pc : Int) + off = (tgt : Int)) (kt : x = y → Go l M n0 Q k tgt L st w) (kf : ¬ (x = y) → Go l M n0 Q k (pc + 3) L st w) : Go l M n0 Q k pc L (.int y :: .int x :: st) w := by
  intro p e s m args below meth c D tc ad0 ad A H locs ls hI
  obtain ⟨hX, hK, had, hn0, how, hoL, hos, hP, hD, hS, hl⟩ := hI
  exact lv_icmp_eq hX.1 hX.2.1 hd ht (fun z => kt z p e s m args below meth c D tc ad0 ad A H locs ls ⟨hX, hK, had, hn0, how, hoL, fun v hv => hos v (List.mem_cons_of_mem _ (List.mem_cons_of_mem _ hv)), hP, hD, hS, hl⟩) (fun z => kf z p e s m args below meth c D tc ad0 ad A H locs ls ⟨hX, hK, had, hn0, how, hoL, fun v hv => hos v (List.mem_cons_of_mem _ (List.mem_cons_of_mem _ hv)), hP, hD, hS, hl⟩)
theorem g_if_ne {x : Int32} {off : Int} {tgt : Nat} (hd : decode M.2.2.1 pc = .ok (.ifCond .ne off, 3)) (ht : (pc : Int) + off = (tgt : Int)) (kt : ¬ x = 0 → Go l M n0 Q k tgt L st w) (kf : x = 0 → Go l M n0 Q k (pc + 3) L st w) : Go l M n0 Q k pc L (.int x :: st) w := by
  intro p e s m args below meth c D tc ad0 ad A H locs ls hI
  obtain ⟨hX, hK, had, hn0, how, hoL, hos, hP, hD, hS, hl⟩ := hI
  exact lv_if_ne hX.1 hX.2.1 hd ht (fun z => kt z p e s m args below meth c D tc ad0 ad A H locs ls ⟨hX, hK, had, hn0, how, hoL, fun v hv => hos v (List.mem_cons_of_mem _ hv), hP, hD, hS, hl⟩) (fun z => kf z p e s m args below meth c D tc ad0 ad A H locs ls ⟨hX, hK, had, hn0, how, hoL, fun v hv => hos v (List.mem_cons_of_mem _ hv), hP, hD, hS, hl⟩)
theorem g_icmp_ne {x y : Int32} {off : Int} {tgt : Nat} (hd : decode M.2.2.1 pc = .ok (.if_icmp .ne off, 3)) (ht : (pc : Int) + off = (tgt : Int)) (kt : ¬ x = y → Go l M n0 Q k tgt L st w) (kf : x = y → Go l M n0 Q k (pc + 3) L st w) : Go l M n0 Q k pc L (.int y :: .int x :: st) w := by
  intro p e s m args below meth c D tc ad0 ad A H locs ls hI
  obtain ⟨hX, hK, had, hn0, how, hoL, hos, hP, hD, hS, hl⟩ := hI
  exact lv_icmp_ne hX.1 hX.2.1 hd ht (fun z => kt z p e s m args below meth c D tc ad0 ad A H locs ls ⟨hX, hK, had, hn0, how, hoL, fun v hv => hos v (List.mem_cons_of_mem _ (List.mem_cons_of_mem _ hv)), hP, hD, hS, hl⟩) (fun z => kf z p e s m args below meth c D tc ad0 ad A H locs ls ⟨hX, hK, had, hn0, how, hoL, fun v hv => hos v (List.mem_cons_of_mem _ (List.mem_cons_of_mem _ hv)), hP, hD, hS, hl⟩)
theorem g_if_lt {x : Int32} {off : Int} {tgt : Nat} (hd : decode M.2.2.1 pc = .ok (.ifCond .lt off, 3)) (ht : (pc : Int) + off = (tgt : Int)) (kt : x < 0 → Go l M n0 Q k tgt L st w) (kf : ¬ (x < 0) → Go l M n0 Q k (pc + 3) L st w) : Go l M n0 Q k pc L (.int x :: st) w := by
  intro p e s m args below meth c D tc ad0 ad A H locs ls hI
  obtain ⟨hX, hK, had, hn0, how, hoL, hos, hP, hD, hS, hl⟩ := hI
  exact lv_if_lt hX.1 hX.2.1 hd ht (fun z => kt z p e s m args below meth c D tc ad0 ad A H locs ls ⟨hX, hK, had, hn0, how, hoL, fun v hv => hos v (List.mem_cons_of_mem _ hv), hP, hD, hS, hl⟩) (fun z => kf z p e s m args below meth c D tc ad0 ad A H locs ls ⟨hX, hK, had, hn0, how, hoL, fun v hv => hos v (List.mem_cons_of_mem _ hv), hP, hD, hS, hl⟩)
theorem g_icmp_lt {x y : Int32} {off : Int} {tgt : Nat} (hd : decode M.2.2.1 pc = .ok (.if_icmp .lt off, 3)) (ht : (pc : Int) + off = (tgt : Int)) (kt : x < y → Go l M n0 Q k tgt L st w) (kf : ¬ (x < y) → Go l M n0 Q k (pc + 3) L st w) : Go l M n0 Q k pc L (.int y :: .int x :: st) w := by
  intro p e s m args below meth c D tc ad0 ad A H locs ls hI
  obtain ⟨hX, hK, had, hn0, how, hoL, hos, hP, hD, hS, hl⟩ := hI
  exact lv_icmp_lt hX.1 hX.2.1 hd ht (fun z => kt z p e s m args below meth c D tc ad0 ad A H locs ls ⟨hX, hK, had, hn0, how, hoL, fun v hv => hos v (List.mem_cons_of_mem _ (List.mem_cons_of_mem _ hv)), hP, hD, hS, hl⟩) (fun z => kf z p e s m args below meth c D tc ad0 ad A H locs ls ⟨hX, hK, had, hn0, how, hoL, fun v hv => hos v (List.mem_cons_of_mem _ (List.mem_cons_of_mem _ hv)), hP, hD, hS, hl⟩)
theorem g_if_ge {x : Int32} {off : Int} {tgt : Nat} (hd : decode M.2.2.1 pc = .ok (.ifCond .ge off, 3)) (ht : (pc : Int) + off = (tgt : Int)) (kt : 0 ≤ x → Go l M n0 Q k tgt L st w) (kf : ¬ (0 ≤ x) → Go l M n0 Q k (pc + 3) L st w) : Go l M n0 Q k pc L (.int x :: st) w := by
  intro p e s m args below meth c D tc ad0 ad A H locs ls hI
  obtain ⟨hX, hK, had, hn0, how, hoL, hos, hP, hD, hS, hl⟩ := hI
  exact lv_if_ge hX.1 hX.2.1 hd ht (fun z => kt z p e s m args below meth c D tc ad0 ad A H locs ls ⟨hX, hK, had, hn0, how, hoL, fun v hv => hos v (List.mem_cons_of_mem _ hv), hP, hD, hS, hl⟩) (fun z => kf z p e s m args below meth c D tc ad0 ad A H locs ls ⟨hX, hK, had, hn0, how, hoL, fun v hv => hos v (List.mem_cons_of_mem _ hv), hP, hD, hS, hl⟩)
theorem g_icmp_ge {x y : Int32} {off : Int} {tgt : Nat} (hd : decode M.2.2.1 pc = .ok (.if_icmp .ge off, 3)) (ht : (pc : Int) + off = (tgt : Int)) (kt : y ≤ x → Go l M n0 Q k tgt L st w) (kf : ¬ (y ≤ x) → Go l M n0 Q k (pc + 3) L st w) : Go l M n0 Q k pc L (.int y :: .int x :: st) w := by
  intro p e s m args below meth c D tc ad0 ad A H locs ls hI
  obtain ⟨hX, hK, had, hn0, how, hoL, hos, hP, hD, hS, hl⟩ := hI
  exact lv_icmp_ge hX.1 hX.2.1 hd ht (fun z => kt z p e s m args below meth c D tc ad0 ad A H locs ls ⟨hX, hK, had, hn0, how, hoL, fun v hv => hos v (List.mem_cons_of_mem _ (List.mem_cons_of_mem _ hv)), hP, hD, hS, hl⟩) (fun z => kf z p e s m args below meth c D tc ad0 ad A H locs ls ⟨hX, hK, had, hn0, how, hoL, fun v hv => hos v (List.mem_cons_of_mem _ (List.mem_cons_of_mem _ hv)), hP, hD, hS, hl⟩)
theorem g_if_gt {x : Int32} {off : Int} {tgt : Nat} (hd : decode M.2.2.1 pc = .ok (.ifCond .gt off, 3)) (ht : (pc : Int) + off = (tgt : Int)) (kt : 0 < x → Go l M n0 Q k tgt L st w) (kf : ¬ (0 < x) → Go l M n0 Q k (pc + 3) L st w) : Go l M n0 Q k pc L (.int x :: st) w := by
  intro p e s m args below meth c D tc ad0 ad A H locs ls hI
  obtain ⟨hX, hK, had, hn0, how, hoL, hos, hP, hD, hS, hl⟩ := hI
  exact lv_if_gt hX.1 hX.2.1 hd ht (fun z => kt z p e s m args below meth c D tc ad0 ad A H locs ls ⟨hX, hK, had, hn0, how, hoL, fun v hv => hos v (List.mem_cons_of_mem _ hv), hP, hD, hS, hl⟩) (fun z => kf z p e s m args below meth c D tc ad0 ad A H locs ls ⟨hX, hK, had, hn0, how, hoL, fun v hv => hos v (List.mem_cons_of_mem _ hv), hP, hD, hS, hl⟩)
theorem g_icmp_gt {x y : Int32} {off : Int} {tgt : Nat} (hd : decode M.2.2.1 pc = .ok (.if_icmp .gt off, 3)) (ht : (pc : Int) + off = (tgt : Int)) (kt : y < x → Go l M n0 Q k tgt L st w) (kf : ¬ (y < x) → Go l M n0 Q k (pc + 3) L st w) : Go l M n0 Q k pc L (.int y :: .int x :: st) w := by
  intro p e s m args below meth c D tc ad0 ad A H locs ls hI
  obtain ⟨hX, hK, had, hn0, how, hoL, hos, hP, hD, hS, hl⟩ := hI
  exact lv_icmp_gt hX.1 hX.2.1 hd ht (fun z => kt z p e s m args below meth c D tc ad0 ad A H locs ls ⟨hX, hK, had, hn0, how, hoL, fun v hv => hos v (List.mem_cons_of_mem _ (List.mem_cons_of_mem _ hv)), hP, hD, hS, hl⟩) (fun z => kf z p e s m args below meth c D tc ad0 ad A H locs ls ⟨hX, hK, had, hn0, how, hoL, fun v hv => hos v (List.mem_cons_of_mem _ (List.mem_cons_of_mem _ hv)), hP, hD, hS, hl⟩)
theorem g_if_le {x : Int32} {off : Int} {tgt : Nat} (hd : decode M.2.2.1 pc = .ok (.ifCond .le off, 3)) (ht : (pc : Int) + off = (tgt : Int)) (kt : x ≤ 0 → Go l M n0 Q k tgt L st w) (kf : ¬ (x ≤ 0) → Go l M n0 Q k (pc + 3) L st w) : Go l M n0 Q k pc L (.int x :: st) w := by
  intro p e s m args below meth c D tc ad0 ad A H locs ls hI
  obtain ⟨hX, hK, had, hn0, how, hoL, hos, hP, hD, hS, hl⟩ := hI
  exact lv_if_le hX.1 hX.2.1 hd ht (fun z => kt z p e s m args below meth c D tc ad0 ad A H locs ls ⟨hX, hK, had, hn0, how, hoL, fun v hv => hos v (List.mem_cons_of_mem _ hv), hP, hD, hS, hl⟩) (fun z => kf z p e s m args below meth c D tc ad0 ad A H locs ls ⟨hX, hK, had, hn0, how, hoL, fun v hv => hos v (List.mem_cons_of_mem _ hv), hP, hD, hS, hl⟩)
theorem g_icmp_le {x y : Int32} {off : Int} {tgt : Nat} (hd : decode M.2.2.1 pc = .ok (.if_icmp .le off, 3)) (ht : (pc : Int) + off = (tgt : Int)) (kt : x ≤ y → Go l M n0 Q k tgt L st w) (kf : ¬ (x ≤ y) → Go l M n0 Q k (pc + 3) L st w) : Go l M n0 Q k pc L (.int y :: .int x :: st) w := by
  intro p e s m args below meth c D tc ad0 ad A H locs ls hI
  obtain ⟨hX, hK, had, hn0, how, hoL, hos, hP, hD, hS, hl⟩ := hI
  exact lv_icmp_le hX.1 hX.2.1 hd ht (fun z => kt z p e s m args below meth c D tc ad0 ad A H locs ls ⟨hX, hK, had, hn0, how, hoL, fun v hv => hos v (List.mem_cons_of_mem _ (List.mem_cons_of_mem _ hv)), hP, hD, hS, hl⟩) (fun z => kf z p e s m args below meth c D tc ad0 ad A H locs ls ⟨hX, hK, had, hn0, how, hoL, fun v hv => hos v (List.mem_cons_of_mem _ (List.mem_cons_of_mem _ hv)), hP, hD, hS, hl⟩)
theorem g_lookup {dflt : Int} {ps : Array (Int × Int)} {len : Nat} {x : Int32} {off : Int} {tgt : Nat} (hd : decode M.2.2.1 pc = .ok (.lookupswitch dflt ps, len)) (hp : (ps.toList.zip (ps.toList.drop 1)).all (fun (a, next) => a.1 < next.1) = true) (ho : Op.lookupswitch.offset ps.toList dflt x.toInt = off) (ht : (pc : Int) + off = (tgt : Int)) (kk : Go l M n0 Q k tgt L st w) : Go l M n0 Q k pc L (.int x :: st) w :=
  Go.go1 (fun _ h u hu => h u (List.mem_cons_of_mem _ hu)) (fun _ hx hb z => lv_lookup hx hb hd hp ho ht z) kk
theorem g_tableIn {dflt lo hi : Int} {offs : Array Int} {len : Nat} {x : Int32} {off : Int} {tgt : Nat} (hd : decode M.2.2.1 pc = .ok (.tableswitch dflt lo hi offs, len)) (h1 : ¬ x.toInt < lo) (h2 : ¬ hi < x.toInt) (ho : offs[(x.toInt - lo).toNat]? = some off) (ht : (pc : Int) + off = (tgt : Int)) (kk : Go l M n0 Q k tgt L st w) : Go l M n0 Q k pc L (.int x :: st) w :=
  Go.go1 (fun _ h u hu => h u (List.mem_cons_of_mem _ hu)) (fun _ hx hb z => lv_tableIn hx hb hd h1 h2 ho ht z) kk
theorem g_tableOut {dflt lo hi : Int} {offs : Array Int} {len : Nat} {x : Int32} {tgt : Nat} (hd : decode M.2.2.1 pc = .ok (.tableswitch dflt lo hi offs, len)) (h : x.toInt < lo ∨ hi < x.toInt) (ht : (pc : Int) + dflt = (tgt : Int)) (kk : Go l M n0 Q k tgt L st w) : Go l M n0 Q k pc L (.int x :: st) w :=
  Go.go1 (fun _ h u hu => h u (List.mem_cons_of_mem _ hu)) (fun _ hx hb z => lv_tableOut hx hb hd h ht z) kk
theorem g_iload_n {j : Fin 4} {i : Nat} {x : Int32} (hd : decode M.2.2.1 pc = .ok (.iload_n j, 1)) (hi : (j : Nat) = i) (hl : L[i]? = some (some (.int x))) (kk : Go l M n0 Q k (pc + 1) L (.int x :: st) w) : Go l M n0 Q k pc L st w := by
  intro p e s m args below meth c D tc ad0 ad A H locs ls hI
  obtain ⟨hX, hK, had, hn0, how, hoL, hos, hP, hD, hS, hls⟩ := hI
  exact lv_iload_n hX.1 hX.2.1 hd hi (hls.2.2 _ _ hl) (kk p e s m args below meth c D tc ad0 ad A H locs ls ⟨hX, hK, had, hn0, how, hoL, q_okp q_ok_int (fun _ z => z) hos, hP, hD, hS, hls⟩)
theorem g_iload {i : Nat} {x : Int32} (hd : decode M.2.2.1 pc = .ok (.iload i, 2)) (hl : L[i]? = some (some (.int x))) (kk : Go l M n0 Q k (pc + 2) L (.int x :: st) w) : Go l M n0 Q k pc L st w := by
  intro p e s m args below meth c D tc ad0 ad A H locs ls hI
  obtain ⟨hX, hK, had, hn0, how, hoL, hos, hP, hD, hS, hls⟩ := hI
  exact lv_iload hX.1 hX.2.1 hd (hls.2.2 _ _ hl) (kk p e s m args below meth c D tc ad0 ad A H locs ls ⟨hX, hK, had, hn0, how, hoL, q_okp q_ok_int (fun _ z => z) hos, hP, hD, hS, hls⟩)
theorem g_lload_n {j : Fin 4} {i : Nat} {x : Int64} (hd : decode M.2.2.1 pc = .ok (.lload_n j, 1)) (hi : (j : Nat) = i) (hl : L[i]? = some (some (.long x))) (kk : Go l M n0 Q k (pc + 1) L (.long x :: st) w) : Go l M n0 Q k pc L st w := by
  intro p e s m args below meth c D tc ad0 ad A H locs ls hI
  obtain ⟨hX, hK, had, hn0, how, hoL, hos, hP, hD, hS, hls⟩ := hI
  exact lv_lload_n hX.1 hX.2.1 hd hi (hls.2.2 _ _ hl) (kk p e s m args below meth c D tc ad0 ad A H locs ls ⟨hX, hK, had, hn0, how, hoL, q_okp q_ok_long (fun _ z => z) hos, hP, hD, hS, hls⟩)
theorem g_lload {i : Nat} {x : Int64} (hd : decode M.2.2.1 pc = .ok (.lload i, 2)) (hl : L[i]? = some (some (.long x))) (kk : Go l M n0 Q k (pc + 2) L (.long x :: st) w) : Go l M n0 Q k pc L st w := by
  intro p e s m args below meth c D tc ad0 ad A H locs ls hI
  obtain ⟨hX, hK, had, hn0, how, hoL, hos, hP, hD, hS, hls⟩ := hI
  exact lv_lload hX.1 hX.2.1 hd (hls.2.2 _ _ hl) (kk p e s m args below meth c D tc ad0 ad A H locs ls ⟨hX, hK, had, hn0, how, hoL, q_okp q_ok_long (fun _ z => z) hos, hP, hD, hS, hls⟩)
theorem g_aload_n {j : Fin 4} {i : Nat} {x : Nat} (hd : decode M.2.2.1 pc = .ok (.aload_n j, 1)) (hi : (j : Nat) = i) (hl : L[i]? = some (some (.ref x))) (kk : Go l M n0 Q k (pc + 1) L (.ref x :: st) w) : Go l M n0 Q k pc L st w := by
  intro p e s m args below meth c D tc ad0 ad A H locs ls hI
  obtain ⟨hX, hK, had, hn0, how, hoL, hos, hP, hD, hS, hls⟩ := hI
  exact lv_aload_n hX.1 hX.2.1 hd hi (hls.2.2 _ _ hl) (kk p e s m args below meth c D tc ad0 ad A H locs ls ⟨hX, hK, had, hn0, how, hoL, q_okp (hoL _ _ hl) (fun _ z => z) hos, hP, hD, hS, hls⟩)
theorem g_aload {i : Nat} {x : Nat} (hd : decode M.2.2.1 pc = .ok (.aload i, 2)) (hl : L[i]? = some (some (.ref x))) (kk : Go l M n0 Q k (pc + 2) L (.ref x :: st) w) : Go l M n0 Q k pc L st w := by
  intro p e s m args below meth c D tc ad0 ad A H locs ls hI
  obtain ⟨hX, hK, had, hn0, how, hoL, hos, hP, hD, hS, hls⟩ := hI
  exact lv_aload hX.1 hX.2.1 hd (hls.2.2 _ _ hl) (kk p e s m args below meth c D tc ad0 ad A H locs ls ⟨hX, hK, had, hn0, how, hoL, q_okp (hoL _ _ hl) (fun _ z => z) hos, hP, hD, hS, hls⟩)
theorem g_istore_n {j : Fin 4} {i : Nat} {x : Int32} {L' : q_Ls} (hd : decode M.2.2.1 pc = .ok (.istore_n j, 1)) (hi : (j : Nat) = i) (hn : i < M.2.2.2.1) (hL : q_sto L i (.int x) = L') (kk : Go l M n0 Q k (pc + 1) L' st w) : Go l M n0 Q k pc L (.int x :: st) w := by
  subst hL
  intro p e s m args below meth c D tc ad0 ad A H locs ls hI
  obtain ⟨hX, hK, had, hn0, how, hoL, hos, hP, hD, hS, hls⟩ := hI
  exact lv_istore_n hX.1 hX.2.1 hd hi hls.has hn rfl (fun ls' hl' => kk p e s m args below meth c D tc ad0 ad A H locs ls' ⟨hX, hK, had, hn0, how, q_okL_sto hoL (hos _ List.mem_cons_self), fun v hv => hos v (List.mem_cons_of_mem _ hv), hP, hD, hS, q_L.sto1 (v := .int x) hl'⟩)
theorem g_istore {i : Nat} {x : Int32} {L' : q_Ls} (hd : decode M.2.2.1 pc = .ok (.istore i, 2)) (hn : i < M.2.2.2.1) (hL : q_sto L i (.int x) = L') (kk : Go l M n0 Q k (pc + 2) L' st w) : Go l M n0 Q k pc L (.int x :: st) w := by
  subst hL
  intro p e s m args below meth c D tc ad0 ad A H locs ls hI
  obtain ⟨hX, hK, had, hn0, how, hoL, hos, hP, hD, hS, hls⟩ := hI
  exact lv_istore hX.1 hX.2.1 hd hls.has hn rfl (fun ls' hl' => kk p e s m args below meth c D tc ad0 ad A H locs ls' ⟨hX, hK, had, hn0, how, q_okL_sto hoL (hos _ List.mem_cons_self), fun v hv => hos v (List.mem_cons_of_mem _ hv), hP, hD, hS, q_L.sto1 (v := .int x) hl'⟩)
theorem g_lstore_n {j : Fin 4} {i : Nat} {x : Int64} {L' : q_Ls} (hd : decode M.2.2.1 pc = .ok (.lstore_n j, 1)) (hi : (j : Nat) = i) (hn : i + 1 < M.2.2.2.1) (hL : q_sto L i (.long x) = L') (kk : Go l M n0 Q k (pc + 1) L' st w) : Go l M n0 Q k pc L (.long x :: st) w := by
  subst hL
  intro p e s m args below meth c D tc ad0 ad A H locs ls hI
  obtain ⟨hX, hK, had, hn0, how, hoL, hos, hP, hD, hS, hls⟩ := hI
  exact lv_lstore_n hX.1 hX.2.1 hd hi hls.has hn rfl (fun ls' hl' => kk p e s m args below meth c D tc ad0 ad A H locs ls' ⟨hX, hK, had, hn0, how, q_okL_sto hoL (hos _ List.mem_cons_self), fun v hv => hos v (List.mem_cons_of_mem _ hv), hP, hD, hS, q_L.sto2 rfl (v := .long x) hl'⟩)
theorem g_lstore {i : Nat} {x : Int64} {L' : q_Ls} (hd : decode M.2.2.1 pc = .ok (.lstore i, 2)) (hn : i + 1 < M.2.2.2.1) (hL : q_sto L i (.long x) = L') (kk : Go l M n0 Q k (pc + 2) L' st w) : Go l M n0 Q k pc L (.long x :: st) w := by
  subst hL
  intro p e s m args below meth c D tc ad0 ad A H locs ls hI
  obtain ⟨hX, hK, had, hn0, how, hoL, hos, hP, hD, hS, hls⟩ := hI
  exact lv_lstore hX.1 hX.2.1 hd hls.has hn rfl (fun ls' hl' => kk p e s m args below meth c D tc ad0 ad A H locs ls' ⟨hX, hK, had, hn0, how, q_okL_sto hoL (hos _ List.mem_cons_self), fun v hv => hos v (List.mem_cons_of_mem _ hv), hP, hD, hS, q_L.sto2 rfl (v := .long x) hl'⟩)
theorem g_astore_n {j : Fin 4} {i : Nat} {x : Nat} {L' : q_Ls} (hd : decode M.2.2.1 pc = .ok (.astore_n j, 1)) (hi : (j : Nat) = i) (hn : i < M.2.2.2.1) (hL : q_sto L i (.ref x) = L') (kk : Go l M n0 Q k (pc + 1) L' st w) : Go l M n0 Q k pc L (.ref x :: st) w := by
  subst hL
  intro p e s m args below meth c D tc ad0 ad A H locs ls hI
  obtain ⟨hX, hK, had, hn0, how, hoL, hos, hP, hD, hS, hls⟩ := hI
  exact lv_astore_n hX.1 hX.2.1 hd hi hls.has hn rfl (fun ls' hl' => kk p e s m args below meth c D tc ad0 ad A H locs ls' ⟨hX, hK, had, hn0, how, q_okL_sto hoL (hos _ List.mem_cons_self), fun v hv => hos v (List.mem_cons_of_mem _ hv), hP, hD, hS, q_L.sto1 (v := .ref x) hl'⟩)
theorem g_astore {i : Nat} {x : Nat} {L' : q_Ls} (hd : decode M.2.2.1 pc = .ok (.astore i, 2)) (hn : i < M.2.2.2.1) (hL : q_sto L i (.ref x) = L') (kk : Go l M n0 Q k (pc + 2) L' st w) : Go l M n0 Q k pc L (.ref x :: st) w := by
  subst hL
  intro p e s m args below meth c D tc ad0 ad A H locs ls hI
  obtain ⟨hX, hK, had, hn0, how, hoL, hos, hP, hD, hS, hls⟩ := hI
  exact lv_astore hX.1 hX.2.1 hd hls.has hn rfl (fun ls' hl' => kk p e s m args below meth c D tc ad0 ad A H locs ls' ⟨hX, hK, had, hn0, how, q_okL_sto hoL (hos _ List.mem_cons_self), fun v hv => hos v (List.mem_cons_of_mem _ hv), hP, hD, hS, q_L.sto1 (v := .ref x) hl'⟩)
theorem g_iinc {i : Nat} {n : Int} {x v : Int32} {L' : q_Ls} (hd : decode M.2.2.1 pc = .ok (.iinc i n, 3)) (hv : Int32.ofInt n = v) (hl : L[i]? = some (some (.int x))) (hn : i < M.2.2.2.1) (hL : q_sto L i (.int (x + v)) = L') (kk : Go l M n0 Q k (pc + 3) L' st w) : Go l M n0 Q k pc L st w := by
  subst hL hv
  intro p e s m args below meth c D tc ad0 ad A H locs ls hI
  obtain ⟨hX, hK, had, hn0, how, hoL, hos, hP, hD, hS, hls⟩ := hI
  obtain ⟨q, hq⟩ := List.getElem?_of_mem (q_al_mem (ad := ad) hl)
  exact lv_iinc hX.1 hX.2.1 hd hls.has hq rfl hn rfl (fun ls' hl' => kk p e s m args below meth c D tc ad0 ad A H locs ls' ⟨hX, hK, had, hn0, how, q_okL_sto hoL q_ok_int, hos, hP, hD, hS, q_L.sto1 (v := .int (x + Int32.ofInt n)) hl'⟩)
end G2
