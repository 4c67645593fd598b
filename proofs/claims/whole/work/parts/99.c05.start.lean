theorem W2.ofApp {D : va_G} {A : Nat → Prop} {H : Heap} {u v : va_W} (hP : va_P D vwCl (u ++ v) H) (hD : va_D A (u ++ v)) : W2 D A H u v := by
  have hl : ∀ (k : Nat) (x : Nat × va_E), u[k]? = some x → (u ++ v)[k]? = some x := fun k x h => by
    rw [List.getElem?_append_left (List.getElem?_eq_some_iff.mp h).1]; exact h
  have hr : ∀ (k : Nat) (x : Nat × va_E), v[k]? = some x → (u ++ v)[u.length + k]? = some x := fun k x h => by
    rw [List.getElem?_append_right (by omega), show u.length + k - u.length = k by omega]; exact h
  refine ⟨fun k x h => hP k x (hl k x h), fun k x h => hP _ x (hr k x h), ⟨fun i j x y a b e => hD.1 i j x y (hl i x a) (hl j y b) e, fun k x h => hD.2 k x (hl k x h)⟩, ⟨fun i j x y a b e => by have := hD.1 _ _ x y (hr i x a) (hr j y b) e; omega, fun k x h => hD.2 _ x (hr k x h)⟩, fun i j x y a b e => ?_⟩
  have h1 := hD.1 _ _ x y (hl i x a) (hr j y b) e
  have h2 := (List.getElem?_eq_some_iff.mp a).1
  omega
theorem okw1 {ci : Nat} {fs : List Value} (h : fs.all q_dv = true) : q_okw [.inr (ci, fs)] := by
  intro k cc hc
  match k, hc with
  | 0, hc =>
    cases hc
    intro v hv
    rcases q_dvs h v hv with rfl | ⟨x, rfl⟩ | ⟨x, rfl⟩
    · exact q_ok_null
    · exact q_ok_int
    · exact q_ok_long
  | k + 1, hc => cases hc
theorem q_w1 {tc : Nat → ClassId} {q ci : Nat} {fs : List Value} (h : fs.all q_dv = true) : q_w tc (fun _ => q) [.inr (ci, fs)] = [(q, .inr (ci, fs))] := by
  have hfs : fs.map (q_v (fun _ => q)) = fs := by
    rw [List.map_congr_left (g := id) (fun v hv => ?_), List.map_id]
    rcases q_dvs h v hv with rfl | ⟨x, rfl⟩ | ⟨x, rfl⟩ <;> rfl
  apply List.ext_getElem?
  intro i
  rw [q_w_get]
  cases i with
  | zero =>
    show some (q, Sum.inr (ci, fs.map (q_v (fun _ => q)))) = some (q, Sum.inr (ci, fs))
    rw [hfs]
  | succ i => rfl
set_option maxHeartbeats 4000000 in
set_option maxRecDepth 100000 in
/-- THE LAW, from its entry -/
theorem whole_start {p : Program} {e : Env} {s : State} {m : MethodId} {below : List Frame} {meth : Method} {c : Code} (l : Launch) (hflags : l.flags = flags0) {b L : Nat} {xs : Nat → Int32} (hL : L ≤ 2560) (C0 : lw_At p s m meth c b L xs) : W p l e room_1 s m #[Value.ref b] below meth c s.heap [] 0 0 (lw_Z below #[Value.ref b] s) (entryFrame m ([Value.ref b] : List Value).toArray 4) := by
  obtain ⟨hx, hb, hr, hml, hown, hts, hX, hbl, hlocks, hgv⟩ := id C0
  obtain ⟨D, tc, hK⟩ := lw_K hts
  have LC0 : LC p s m meth c b L xs D tc := ⟨C0, hK, lw_S hts hgv, lw_N hts⟩
  have htb := lw_hb LC0
  have hA : ∀ q : Nat, s.heap.size ≤ q → lwA s q := fun _ h => h
  have hS : va_S (lwA s) s.heap s.heap [] := va_S.rf
  have hP : va_P D vwCl [] s.heap := fun k q h => by simp at h
  have hD : va_D (lwA s) [] := ⟨fun i j p q h => by simp at h, fun k q h => by simp at h⟩
  have hl := lv_entry ([.ref b]) (n := 4) (Nat.le_of_ble_eq_true rfl)
  rw [lg_entry_eq]
  generalize (lg_sl ([.ref b]) ++ List.replicate (4 - (lg_sl ([.ref b])).length) Slot.unset).toArray = ls at hl ⊢
  have hl : lv_has ls 4 [(0, .ref b)] := hl
  obtain ⟨C1, T1, ty1, n1, n2, n3, n4, n5, n6, n7, n8⟩ := nL_7
  refine va_new (Ts := q_tb) (ci := 8) (fs := [.null, .null, .null, .null, .null, .null, .null, .null, .null, .null, .null, .int 0, .int 0]) hx hb htb n2 ty1 n3 hown (htb _ n4) (htb _ n5) (htb _ n6) hK hP hD hS hA n1 n7 (Nat.le_of_ble_eq_true rfl) (Nat.le_of_ble_eq_true rfl) dL_law_0 (fun q1 H1 hP1 hD1 hS1 => ?_)
  refine lv_dup hx hb dL_law_3 rfl ?_
  have W1 : W2 D (lwA s) H1 (q_w tc (fun _ => q1) [.inr (8, [.null, .null, .null, .null, .null, .null, .null, .null, .null, .null, .null, .int 0, .int 0])]) [] := by
    rw [q_w1 rfl]
    exact (W2.ofApp (u := []) hP1 hD1).sw
  refine lw_callI (M' := mX10_init) (ad := fun _ => q1) (w := [.inr (8, [.null, .null, .null, .null, .null, .null, .null, .null, .null, .null, .null, .int 0, .int 0])]) (v := []) (rest := [.ref q1]) LC0 W1 hS1 (okw1 rfl) CX10_init kL_9 (by decide) dL_law_4 hl.1 (Nat.le_of_ble_eq_true rfl) ⟨(Nat.le_of_ble_eq_true rfl), (Nat.le_of_ble_eq_true rfl)⟩ ?_
  rintro r w1 ad1 H2 locs2 ⟨rfl, rfl⟩ had1 ok1 hW1 hS2
  have e1 : ad1 0 = q1 := had1 0 (by decide)
  refine W.eq (g2 := F0 m 7 ls [.ref q1]) rfl ?_
  refine lv_astore_n (lv' := [(1, .ref q1), (0, .ref b)]) hx hb dL_law_7 rfl hl (by decide) rfl (fun ls hl => ?_)
  obtain ⟨C2, T2, ty2, m1, m2, m3, m4, m5, m6, m7, m8⟩ := nL_10
  refine va_new (Ts := q_tb) (ci := 9) (fs := [.int 0, .null, .null, .int 0, .int 0, .null, .int 0, .null, .int 0, .int 0, .null, .null, .int 0, .int 0, .int 0, .null, .null, .null, .null, .null, .null, .null, .null, .int 0, .int 0, .long 0, .int 0, .int 0, .int 0, .null, .null, .null, .long 0]) hx hb htb m2 ty2 m3 hown (htb _ m4) (htb _ m5) (htb _ m6) hK hW1.1 hW1.2.2.1 hS2 hA m1 m7 (Nat.le_of_ble_eq_true rfl) (Nat.le_of_ble_eq_true rfl) dL_law_8 (fun q2 H3 hP3 hD3 hS3 => ?_)
  refine lv_dup hx hb dL_law_11 rfl ?_
  have W3 : W2 D (lwA s) H3 (q_w tc (fun _ => q2) [.inr (9, [.int 0, .null, .null, .int 0, .int 0, .null, .int 0, .null, .int 0, .int 0, .null, .null, .int 0, .int 0, .int 0, .null, .null, .null, .null, .null, .null, .null, .null, .int 0, .int 0, .long 0, .int 0, .int 0, .int 0, .null, .null, .null, .long 0])]) (q_w tc ad1 (xW xS0)) := by
    rw [q_w1 rfl]
    exact (W2.ofApp hP3 hD3).sw
  refine lw_callI (M' := mX11_init) (ad := fun _ => q2) (w := [.inr (9, [.int 0, .null, .null, .int 0, .int 0, .null, .int 0, .null, .int 0, .int 0, .null, .null, .int 0, .int 0, .int 0, .null, .null, .null, .null, .null, .null, .null, .null, .int 0, .int 0, .long 0, .int 0, .int 0, .int 0, .null, .null, .null, .long 0])]) (v := q_w tc ad1 (xW xS0)) (rest := [.ref q2]) LC0 W3 hS3 (okw1 rfl) CX11_init kL_12 (by decide) dL_law_12 hl.1 (Nat.le_of_ble_eq_true rfl) ⟨(Nat.le_of_ble_eq_true rfl), (Nat.le_of_ble_eq_true rfl)⟩ ?_
  rintro r w2 ad2 H4 locs4 ⟨rfl, rfl⟩ had2 ok2 hW4 hS4
  have e2 : ad2 0 = q2 := had2 0 (by decide)
  refine W.eq (g2 := F0 m 15 ls [.ref q2]) rfl ?_
  refine lv_astore_n (lv' := [(2, .ref q2), (1, .ref q1), (0, .ref b)]) hx hb dL_law_15 rfl hl (by decide) rfl (fun ls hl => ?_)
  refine lv_iconst (v := 0) hx hb dL_law_16 (by decide) ?_
  refine lv_istore_n (lv' := [(3, .int 0), (2, .ref q2), (1, .ref q1), (0, .ref b)]) hx hb dL_law_17 rfl hl (by decide) rfl (fun ls hl => ?_)
  refine W.widen (k := 191) (n := 16496) (Nat.le_of_ble_eq_true rfl) (Nat.le_of_ble_eq_true rfl) ?_
  rw [← e1, ← e2] at hl
  exact law_loop (adx := ad1) (adm := ad2) hL LC0 (L + 1) 0 0 xS0 mS0 (fun _ => 0) H4 locs4 ls (by omega) (by omega) (by omega) INV_0 (lv_sub hl [3, 2, 1, 0] rfl) hW4.sw hS4 ok1 ok2
