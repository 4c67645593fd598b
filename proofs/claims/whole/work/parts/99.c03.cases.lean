section LWL
variable {p : Program} {l : Launch} {e : Env} {s : State} {m : MethodId} {below : List Frame} {meth : Method} {c : Code} {b L : Nat} {xs : Nat → Int32} {D : va_G} {tc : Nat → ClassId} {H : Heap} {locs : List Loc} {ls : Array Slot} {adx adm : Nat → Nat} {σ τ : Nat → Nat → Int32} {t : Nat → Int64} {N i : Nat}
theorem lw_ld {pc j : Nat} {z : Int} {st : List Value} {kc ks : Nat} {Z : State → Prop} (C0 : LC p s m meth c b L xs D tc) (hS : va_S (lwA s) s.heap H locs) (hl : lv_has ls 4 [(0, .ref b), (1, .ref (adx 0)), (2, .ref (adm 0)), (3, .int (nI i))]) (hi : i + 5 ≤ L) (hL : L ≤ 2560) (hj : j ≤ 4) (d0 : decode code pc = .ok (.aload_n 0, 1)) (d1 : decode code (pc + 1) = .ok (.iload_n 3, 1)) (d2 : decode code (pc + 2) = .ok (.iconst z, 1)) (hz : Int32.ofInt z = nI j) (d3 : decode code (pc + 3) = .ok (.iadd, 1)) (d4 : decode code (pc + 4) = .ok (.iaload, 1)) (kk : W p l e room_1 s m #[Value.ref b] below meth c H locs kc ks Z (F0 m (pc + 5) ls (.int (xs (i + j)) :: st))) : W p l e room_1 s m #[Value.ref b] below meth c H locs kc ks Z (F0 m pc ls st) := by
  obtain ⟨hx, hb, hr, hml, hown, hts, hX, hbl, hlocks, hgv⟩ := C0.1
  have hbA : ¬ lwA s b := Nat.not_le.mpr hbl
  refine lv_aload_n hx hb d0 rfl (lv_at hl 0 rfl) ?_
  refine lv_iload_n hx hb d1 rfl (lv_at hl 3 rfl) ?_
  refine lv_iconst (v := nI j) hx hb d2 hz ?_
  refine lv_iadd hx hb d3 ?_
  rw [nI_add]
  refine va_sld hx hb hX hbl hbA hS (vp_in_nI (by omega) (by omega)) d4 ?_
  rw [nI_clamp (by omega)]
  exact kk
theorem mW_len {σ : Nat → Nat → Int32} {t : Nat → Int64} : (mW σ t).length = 18 := by simp [mW]
set_option maxHeartbeats 4000000 in
set_option maxRecDepth 100000 in
theorem law_letter (C0 : LC p s m meth c b L xs D tc) (hl : lv_has ls 4 [(0, .ref b), (1, .ref (adx 0)), (2, .ref (adm 0)), (3, .int (nI i))]) (hi : i + 5 ≤ L) (hL : L ≤ 2560) (hN : N ≤ 10000) (HI : INV σ τ N) (hW : W2 D (lwA s) H (q_w tc adx (xW σ)) (q_w tc adm (mW τ t))) (hS : va_S (lwA s) s.heap H locs) (o1 : q_okw (xW σ)) (o2 : q_okw (mW τ t)) (hX : ∀ (σ' τ' : Nat → Nat → Int32) (t' : Nat → Int64) (H' : Heap) (locs' : List Loc), INV σ' τ' (N + 1) → W2 D (lwA s) H' (q_w tc adx (xW σ')) (q_w tc adm (mW τ' t')) → va_S (lwA s) s.heap H' locs' → q_okw (xW σ') → q_okw (mW τ' t') → W p l e room_1 s m #[Value.ref b] below meth c H' locs' 191 16496 (lw_Z below #[Value.ref b] s) (F0 m 1100 ls [])) : W p l e room_1 s m #[Value.ref b] below meth c H locs 191 16496 (lw_Z below #[Value.ref b] s) (F0 m 180 ls []) := by
  obtain ⟨P1, P2, c1, c2, c3⟩ := AG_letter (l := l) (t := t) HI (xs (i + 1))
  obtain ⟨hx, hb, hr, hml, hown, hts, hX0, hbl, hlocks, hgv⟩ := C0.1
  refine lv_aload_n hx hb dL_law_180 rfl (lv_at hl 1 rfl) ?_
  refine lw_ld (j := 1) C0 hS hl hi hL (by decide) dL_law_181 dL_law_182 dL_law_183 rfl dL_law_184 dL_law_185 ?_
  refine W.eq (g2 := F0 m 186 ls ([.int (xs (i + 1))].reverse ++ .ref (adx 0) :: [])) rfl ?_
  refine lw_callV (M' := mX10_letter) (as := [.int (xs (i + 1))]) (rest := []) C0 hW hS o1 c1 kL_13 (fun x hx => by simp only [List.mem_cons, List.not_mem_nil, or_false] at hx; rcases hx with rfl <;> exact ⟨_, rfl⟩) rfl (xW_at (by decide) xC0) rfl dL_law_186 hl.1 (by decide) ⟨Nat.le_of_ble_eq_true rfl, Nat.le_of_ble_eq_true rfl⟩ ?_
  rintro r w1 ad1 H1 locs1 ⟨v, σ', rfl, rfl, hP1⟩ had ok1 hW1 hS1
  rw [q_w_same (fun i hi => had i (by rw [xW_len] at hi ⊢; exact hi)) ok1] at hW1
  refine W.eq (g2 := F0 m 189 ls [.int v]) rfl ?_
  refine lv_aload_n hx hb dL_law_189 rfl (lv_at hl 2 rfl) ?_
  refine lw_ld (j := 1) C0 hS1 hl hi hL (by decide) dL_law_190 dL_law_191 dL_law_192 rfl dL_law_193 dL_law_194 ?_
  refine W.eq (g2 := F0 m 195 ls ([.int (xs (i + 1))].reverse ++ .ref (adm 0) :: [.int v])) rfl ?_
  refine lw_callV (M' := mX11_letter) (as := [.int (xs (i + 1))]) (rest := [.int v]) C0 hW1.sw hS1 o2 c2 kL_17 (fun x hx => by simp only [List.mem_cons, List.not_mem_nil, or_false] at hx; rcases hx with rfl <;> exact ⟨_, rfl⟩) rfl mW_0 rfl dL_law_195 hl.1 (Nat.le_of_ble_eq_true rfl) ⟨Nat.le_of_ble_eq_true rfl, Nat.le_of_ble_eq_true rfl⟩ ?_
  rintro r w2 ad2 H2 locs2 ⟨v2, τ', t', rfl, rfl, hP2⟩ had2 ok2 hW2 hS2
  rw [q_w_same (fun i hi => had2 i (by rw [mW_len] at hi ⊢; exact hi)) ok2] at hW2
  obtain ⟨ev, hI⟩ := c3 v σ' v2 τ' hP1 hP2
  refine W.eq (g2 := F0 m 198 ls [.int v2, .int v]) rfl ?_
  refine lv_icmp_eq (tgt := 1100) hx hb dL_law_198 rfl (fun cc => ?_) (fun cc => absurd ev cc)
  exact hX σ' τ' t' H2 locs2 hI hW2.sw hS2 ok1 ok2
set_option maxHeartbeats 4000000 in
set_option maxRecDepth 100000 in
theorem law_blank (C0 : LC p s m meth c b L xs D tc) (hl : lv_has ls 4 [(0, .ref b), (1, .ref (adx 0)), (2, .ref (adm 0)), (3, .int (nI i))]) (hi : i + 5 ≤ L) (hL : L ≤ 2560) (hN : N ≤ 10000) (HI : INV σ τ N) (hW : W2 D (lwA s) H (q_w tc adx (xW σ)) (q_w tc adm (mW τ t))) (hS : va_S (lwA s) s.heap H locs) (o1 : q_okw (xW σ)) (o2 : q_okw (mW τ t)) (hX : ∀ (σ' τ' : Nat → Nat → Int32) (t' : Nat → Int64) (H' : Heap) (locs' : List Loc), INV σ' τ' (N + 1) → W2 D (lwA s) H' (q_w tc adx (xW σ')) (q_w tc adm (mW τ' t')) → va_S (lwA s) s.heap H' locs' → q_okw (xW σ') → q_okw (mW τ' t') → W p l e room_1 s m #[Value.ref b] below meth c H' locs' 191 16496 (lw_Z below #[Value.ref b] s) (F0 m 1100 ls [])) : W p l e room_1 s m #[Value.ref b] below meth c H locs 191 16496 (lw_Z below #[Value.ref b] s) (F0 m 203 ls []) := by
  obtain ⟨P1, P2, c1, c2, c3⟩ := AG_blank (l := l) (t := t) HI 
  obtain ⟨hx, hb, hr, hml, hown, hts, hX0, hbl, hlocks, hgv⟩ := C0.1
  refine lv_aload_n hx hb dL_law_203 rfl (lv_at hl 1 rfl) ?_
  refine W.eq (g2 := F0 m 204 ls ([].reverse ++ .ref (adx 0) :: [])) rfl ?_
  refine lw_callV (M' := mX10_blank) (as := []) (rest := []) C0 hW hS o1 c1 kL_18 (fun x hx => by cases hx) rfl (xW_at (by decide) xC0) rfl dL_law_204 hl.1 (by decide) ⟨Nat.le_of_ble_eq_true rfl, Nat.le_of_ble_eq_true rfl⟩ ?_
  rintro r w1 ad1 H1 locs1 ⟨v, σ', rfl, rfl, hP1⟩ had ok1 hW1 hS1
  rw [q_w_same (fun i hi => had i (by rw [xW_len] at hi ⊢; exact hi)) ok1] at hW1
  refine W.eq (g2 := F0 m 207 ls [.int v]) rfl ?_
  refine lv_aload_n hx hb dL_law_207 rfl (lv_at hl 2 rfl) ?_
  refine W.eq (g2 := F0 m 208 ls ([].reverse ++ .ref (adm 0) :: [.int v])) rfl ?_
  refine lw_callV (M' := mX11_blank) (as := []) (rest := [.int v]) C0 hW1.sw hS1 o2 c2 kL_22 (fun x hx => by cases hx) rfl mW_0 rfl dL_law_208 hl.1 (Nat.le_of_ble_eq_true rfl) ⟨Nat.le_of_ble_eq_true rfl, Nat.le_of_ble_eq_true rfl⟩ ?_
  rintro r w2 ad2 H2 locs2 ⟨v2, τ', t', rfl, rfl, hP2⟩ had2 ok2 hW2 hS2
  rw [q_w_same (fun i hi => had2 i (by rw [mW_len] at hi ⊢; exact hi)) ok2] at hW2
  obtain ⟨ev, hI⟩ := c3 v σ' v2 τ' hP1 hP2
  refine W.eq (g2 := F0 m 211 ls [.int v2, .int v]) rfl ?_
  refine lv_icmp_eq (tgt := 1100) hx hb dL_law_211 rfl (fun cc => ?_) (fun cc => absurd ev cc)
  exact hX σ' τ' t' H2 locs2 hI hW2.sw hS2 ok1 ok2
set_option maxHeartbeats 4000000 in
set_option maxRecDepth 100000 in
theorem law_fault (C0 : LC p s m meth c b L xs D tc) (hl : lv_has ls 4 [(0, .ref b), (1, .ref (adx 0)), (2, .ref (adm 0)), (3, .int (nI i))]) (hi : i + 5 ≤ L) (hL : L ≤ 2560) (hN : N ≤ 10000) (HI : INV σ τ N) (hW : W2 D (lwA s) H (q_w tc adx (xW σ)) (q_w tc adm (mW τ t))) (hS : va_S (lwA s) s.heap H locs) (o1 : q_okw (xW σ)) (o2 : q_okw (mW τ t)) (hX : ∀ (σ' τ' : Nat → Nat → Int32) (t' : Nat → Int64) (H' : Heap) (locs' : List Loc), INV σ' τ' (N + 1) → W2 D (lwA s) H' (q_w tc adx (xW σ')) (q_w tc adm (mW τ' t')) → va_S (lwA s) s.heap H' locs' → q_okw (xW σ') → q_okw (mW τ' t') → W p l e room_1 s m #[Value.ref b] below meth c H' locs' 191 16496 (lw_Z below #[Value.ref b] s) (F0 m 1100 ls [])) : W p l e room_1 s m #[Value.ref b] below meth c H locs 191 16496 (lw_Z below #[Value.ref b] s) (F0 m 216 ls []) := by
  obtain ⟨P1, P2, c1, c2, c3⟩ := AG_fault (l := l) (t := t) HI 
  obtain ⟨hx, hb, hr, hml, hown, hts, hX0, hbl, hlocks, hgv⟩ := C0.1
  refine lv_aload_n hx hb dL_law_216 rfl (lv_at hl 1 rfl) ?_
  refine W.eq (g2 := F0 m 217 ls ([].reverse ++ .ref (adx 0) :: [])) rfl ?_
  refine lw_callV (M' := mX10_fault) (as := []) (rest := []) C0 hW hS o1 c1 kL_23 (fun x hx => by cases hx) rfl (xW_at (by decide) xC0) rfl dL_law_217 hl.1 (by decide) ⟨Nat.le_of_ble_eq_true rfl, Nat.le_of_ble_eq_true rfl⟩ ?_
  rintro r w1 ad1 H1 locs1 ⟨v, σ', rfl, rfl, hP1⟩ had ok1 hW1 hS1
  rw [q_w_same (fun i hi => had i (by rw [xW_len] at hi ⊢; exact hi)) ok1] at hW1
  refine W.eq (g2 := F0 m 220 ls [.int v]) rfl ?_
  refine lv_aload_n hx hb dL_law_220 rfl (lv_at hl 2 rfl) ?_
  refine W.eq (g2 := F0 m 221 ls ([].reverse ++ .ref (adm 0) :: [.int v])) rfl ?_
  refine lw_callV (M' := mX11_fault) (as := []) (rest := [.int v]) C0 hW1.sw hS1 o2 c2 kL_26 (fun x hx => by cases hx) rfl mW_0 rfl dL_law_221 hl.1 (Nat.le_of_ble_eq_true rfl) ⟨Nat.le_of_ble_eq_true rfl, Nat.le_of_ble_eq_true rfl⟩ ?_
  rintro r w2 ad2 H2 locs2 ⟨v2, τ', t', rfl, rfl, hP2⟩ had2 ok2 hW2 hS2
  rw [q_w_same (fun i hi => had2 i (by rw [mW_len] at hi ⊢; exact hi)) ok2] at hW2
  obtain ⟨ev, hI⟩ := c3 v σ' v2 τ' hP1 hP2
  refine W.eq (g2 := F0 m 224 ls [.int v2, .int v]) rfl ?_
  refine lv_icmp_eq (tgt := 1100) hx hb dL_law_224 rfl (fun cc => ?_) (fun cc => absurd ev cc)
  exact hX σ' τ' t' H2 locs2 hI hW2.sw hS2 ok1 ok2
set_option maxHeartbeats 4000000 in
set_option maxRecDepth 100000 in
theorem law_rows (C0 : LC p s m meth c b L xs D tc) (hl : lv_has ls 4 [(0, .ref b), (1, .ref (adx 0)), (2, .ref (adm 0)), (3, .int (nI i))]) (hi : i + 5 ≤ L) (hL : L ≤ 2560) (hN : N ≤ 10000) (HI : INV σ τ N) (hW : W2 D (lwA s) H (q_w tc adx (xW σ)) (q_w tc adm (mW τ t))) (hS : va_S (lwA s) s.heap H locs) (o1 : q_okw (xW σ)) (o2 : q_okw (mW τ t)) (hX : ∀ (σ' τ' : Nat → Nat → Int32) (t' : Nat → Int64) (H' : Heap) (locs' : List Loc), INV σ' τ' (N + 1) → W2 D (lwA s) H' (q_w tc adx (xW σ')) (q_w tc adm (mW τ' t')) → va_S (lwA s) s.heap H' locs' → q_okw (xW σ') → q_okw (mW τ' t') → W p l e room_1 s m #[Value.ref b] below meth c H' locs' 191 16496 (lw_Z below #[Value.ref b] s) (F0 m 1100 ls [])) : W p l e room_1 s m #[Value.ref b] below meth c H locs 191 16496 (lw_Z below #[Value.ref b] s) (F0 m 229 ls []) := by
  obtain ⟨P1, P2, c1, c2, c3⟩ := AG_rows (l := l) (t := t) HI 
  obtain ⟨hx, hb, hr, hml, hown, hts, hX0, hbl, hlocks, hgv⟩ := C0.1
  refine lv_aload_n hx hb dL_law_229 rfl (lv_at hl 1 rfl) ?_
  refine W.eq (g2 := F0 m 230 ls ([].reverse ++ .ref (adx 0) :: [])) rfl ?_
  refine lw_callV (M' := mX10_rows) (as := []) (rest := []) C0 hW hS o1 c1 kL_27 (fun x hx => by cases hx) rfl (xW_at (by decide) xC0) rfl dL_law_230 hl.1 (by decide) ⟨Nat.le_of_ble_eq_true rfl, Nat.le_of_ble_eq_true rfl⟩ ?_
  rintro r w1 ad1 H1 locs1 ⟨v, σ', rfl, rfl, hP1⟩ had ok1 hW1 hS1
  rw [q_w_same (fun i hi => had i (by rw [xW_len] at hi ⊢; exact hi)) ok1] at hW1
  refine W.eq (g2 := F0 m 233 ls [.int v]) rfl ?_
  refine lv_aload_n hx hb dL_law_233 rfl (lv_at hl 2 rfl) ?_
  refine W.eq (g2 := F0 m 234 ls ([].reverse ++ .ref (adm 0) :: [.int v])) rfl ?_
  refine lw_callV (M' := mX11_rows) (as := []) (rest := [.int v]) C0 hW1.sw hS1 o2 c2 kL_30 (fun x hx => by cases hx) rfl mW_0 rfl dL_law_234 hl.1 (Nat.le_of_ble_eq_true rfl) ⟨Nat.le_of_ble_eq_true rfl, Nat.le_of_ble_eq_true rfl⟩ ?_
  rintro r w2 ad2 H2 locs2 ⟨v2, τ', t', rfl, rfl, hP2⟩ had2 ok2 hW2 hS2
  rw [q_w_same (fun i hi => had2 i (by rw [mW_len] at hi ⊢; exact hi)) ok2] at hW2
  obtain ⟨ev, hI⟩ := c3 v σ' v2 τ' hP1 hP2
  refine W.eq (g2 := F0 m 237 ls [.int v2, .int v]) rfl ?_
  refine lv_icmp_eq (tgt := 1100) hx hb dL_law_237 rfl (fun cc => ?_) (fun cc => absurd ev cc)
  exact hX σ' τ' t' H2 locs2 hI hW2.sw hS2 ok1 ok2
set_option maxHeartbeats 4000000 in
set_option maxRecDepth 100000 in
theorem law_row (C0 : LC p s m meth c b L xs D tc) (hl : lv_has ls 4 [(0, .ref b), (1, .ref (adx 0)), (2, .ref (adm 0)), (3, .int (nI i))]) (hi : i + 5 ≤ L) (hL : L ≤ 2560) (hN : N ≤ 10000) (HI : INV σ τ N) (hW : W2 D (lwA s) H (q_w tc adx (xW σ)) (q_w tc adm (mW τ t))) (hS : va_S (lwA s) s.heap H locs) (o1 : q_okw (xW σ)) (o2 : q_okw (mW τ t)) (hX : ∀ (σ' τ' : Nat → Nat → Int32) (t' : Nat → Int64) (H' : Heap) (locs' : List Loc), INV σ' τ' (N + 1) → W2 D (lwA s) H' (q_w tc adx (xW σ')) (q_w tc adm (mW τ' t')) → va_S (lwA s) s.heap H' locs' → q_okw (xW σ') → q_okw (mW τ' t') → W p l e room_1 s m #[Value.ref b] below meth c H' locs' 191 16496 (lw_Z below #[Value.ref b] s) (F0 m 1100 ls [])) : W p l e room_1 s m #[Value.ref b] below meth c H locs 191 16496 (lw_Z below #[Value.ref b] s) (F0 m 242 ls []) := by
  obtain ⟨P1, P2, c1, c2, c3⟩ := AG_row (l := l) (t := t) HI (xs (i + 1)) (xs (i + 2))
  obtain ⟨hx, hb, hr, hml, hown, hts, hX0, hbl, hlocks, hgv⟩ := C0.1
  refine lv_aload_n hx hb dL_law_242 rfl (lv_at hl 1 rfl) ?_
  refine lw_ld (j := 1) C0 hS hl hi hL (by decide) dL_law_243 dL_law_244 dL_law_245 rfl dL_law_246 dL_law_247 ?_
  refine lw_ld (j := 2) C0 hS hl hi hL (by decide) dL_law_248 dL_law_249 dL_law_250 rfl dL_law_251 dL_law_252 ?_
  refine W.eq (g2 := F0 m 253 ls ([.int (xs (i + 1)), .int (xs (i + 2))].reverse ++ .ref (adx 0) :: [])) rfl ?_
  refine lw_callV (M' := mX10_row) (as := [.int (xs (i + 1)), .int (xs (i + 2))]) (rest := []) C0 hW hS o1 c1 kL_31 (fun x hx => by simp only [List.mem_cons, List.not_mem_nil, or_false] at hx; rcases hx with rfl | rfl <;> exact ⟨_, rfl⟩) rfl (xW_at (by decide) xC0) rfl dL_law_253 hl.1 (by decide) ⟨Nat.le_of_ble_eq_true rfl, Nat.le_of_ble_eq_true rfl⟩ ?_
  rintro r w1 ad1 H1 locs1 ⟨v, σ', rfl, rfl, hP1⟩ had ok1 hW1 hS1
  rw [q_w_same (fun i hi => had i (by rw [xW_len] at hi ⊢; exact hi)) ok1] at hW1
  refine W.eq (g2 := F0 m 256 ls [.int v]) rfl ?_
  refine lv_aload_n hx hb dL_law_256 rfl (lv_at hl 2 rfl) ?_
  refine lw_ld (j := 1) C0 hS1 hl hi hL (by decide) dL_law_257 dL_law_258 dL_law_259 rfl dL_law_260 dL_law_261 ?_
  refine lw_ld (j := 2) C0 hS1 hl hi hL (by decide) dL_law_262 dL_law_263 dL_law_264 rfl dL_law_265 dL_law_266 ?_
  refine W.eq (g2 := F0 m 267 ls ([.int (xs (i + 1)), .int (xs (i + 2))].reverse ++ .ref (adm 0) :: [.int v])) rfl ?_
  refine lw_callV (M' := mX11_row) (as := [.int (xs (i + 1)), .int (xs (i + 2))]) (rest := [.int v]) C0 hW1.sw hS1 o2 c2 kL_35 (fun x hx => by simp only [List.mem_cons, List.not_mem_nil, or_false] at hx; rcases hx with rfl | rfl <;> exact ⟨_, rfl⟩) rfl mW_0 rfl dL_law_267 hl.1 (Nat.le_of_ble_eq_true rfl) ⟨Nat.le_of_ble_eq_true rfl, Nat.le_of_ble_eq_true rfl⟩ ?_
  rintro r w2 ad2 H2 locs2 ⟨v2, τ', t', rfl, rfl, hP2⟩ had2 ok2 hW2 hS2
  rw [q_w_same (fun i hi => had2 i (by rw [mW_len] at hi ⊢; exact hi)) ok2] at hW2
  obtain ⟨ev, hI⟩ := c3 v σ' v2 τ' hP1 hP2
  refine W.eq (g2 := F0 m 270 ls [.int v2, .int v]) rfl ?_
  refine lv_icmp_eq (tgt := 1100) hx hb dL_law_270 rfl (fun cc => ?_) (fun cc => absurd ev cc)
  exact hX σ' τ' t' H2 locs2 hI hW2.sw hS2 ok1 ok2
set_option maxHeartbeats 4000000 in
set_option maxRecDepth 100000 in
theorem law_as (C0 : LC p s m meth c b L xs D tc) (hl : lv_has ls 4 [(0, .ref b), (1, .ref (adx 0)), (2, .ref (adm 0)), (3, .int (nI i))]) (hi : i + 5 ≤ L) (hL : L ≤ 2560) (hN : N ≤ 10000) (HI : INV σ τ N) (hW : W2 D (lwA s) H (q_w tc adx (xW σ)) (q_w tc adm (mW τ t))) (hS : va_S (lwA s) s.heap H locs) (o1 : q_okw (xW σ)) (o2 : q_okw (mW τ t)) (hX : ∀ (σ' τ' : Nat → Nat → Int32) (t' : Nat → Int64) (H' : Heap) (locs' : List Loc), INV σ' τ' (N + 1) → W2 D (lwA s) H' (q_w tc adx (xW σ')) (q_w tc adm (mW τ' t')) → va_S (lwA s) s.heap H' locs' → q_okw (xW σ') → q_okw (mW τ' t') → W p l e room_1 s m #[Value.ref b] below meth c H' locs' 191 16496 (lw_Z below #[Value.ref b] s) (F0 m 1100 ls [])) : W p l e room_1 s m #[Value.ref b] below meth c H locs 191 16496 (lw_Z below #[Value.ref b] s) (F0 m 275 ls []) := by
  obtain ⟨P1, P2, c1, c2, c3⟩ := AG_as (l := l) (t := t) HI (xs (i + 1)) (xs (i + 2))
  obtain ⟨hx, hb, hr, hml, hown, hts, hX0, hbl, hlocks, hgv⟩ := C0.1
  refine lv_aload_n hx hb dL_law_275 rfl (lv_at hl 1 rfl) ?_
  refine lw_ld (j := 1) C0 hS hl hi hL (by decide) dL_law_276 dL_law_277 dL_law_278 rfl dL_law_279 dL_law_280 ?_
  refine lw_ld (j := 2) C0 hS hl hi hL (by decide) dL_law_281 dL_law_282 dL_law_283 rfl dL_law_284 dL_law_285 ?_
  refine W.eq (g2 := F0 m 286 ls ([.int (xs (i + 1)), .int (xs (i + 2))].reverse ++ .ref (adx 0) :: [])) rfl ?_
  refine lw_callV (M' := mX10_as) (as := [.int (xs (i + 1)), .int (xs (i + 2))]) (rest := []) C0 hW hS o1 c1 kL_36 (fun x hx => by simp only [List.mem_cons, List.not_mem_nil, or_false] at hx; rcases hx with rfl | rfl <;> exact ⟨_, rfl⟩) rfl (xW_at (by decide) xC0) rfl dL_law_286 hl.1 (by decide) ⟨Nat.le_of_ble_eq_true rfl, Nat.le_of_ble_eq_true rfl⟩ ?_
  rintro r w1 ad1 H1 locs1 ⟨v, σ', rfl, rfl, hP1⟩ had ok1 hW1 hS1
  rw [q_w_same (fun i hi => had i (by rw [xW_len] at hi ⊢; exact hi)) ok1] at hW1
  refine W.eq (g2 := F0 m 289 ls [.int v]) rfl ?_
  refine lv_aload_n hx hb dL_law_289 rfl (lv_at hl 2 rfl) ?_
  refine lw_ld (j := 1) C0 hS1 hl hi hL (by decide) dL_law_290 dL_law_291 dL_law_292 rfl dL_law_293 dL_law_294 ?_
  refine lw_ld (j := 2) C0 hS1 hl hi hL (by decide) dL_law_295 dL_law_296 dL_law_297 rfl dL_law_298 dL_law_299 ?_
  refine W.eq (g2 := F0 m 300 ls ([.int (xs (i + 1)), .int (xs (i + 2))].reverse ++ .ref (adm 0) :: [.int v])) rfl ?_
  refine lw_callV (M' := mX11_as) (as := [.int (xs (i + 1)), .int (xs (i + 2))]) (rest := [.int v]) C0 hW1.sw hS1 o2 c2 kL_39 (fun x hx => by simp only [List.mem_cons, List.not_mem_nil, or_false] at hx; rcases hx with rfl | rfl <;> exact ⟨_, rfl⟩) rfl mW_0 rfl dL_law_300 hl.1 (Nat.le_of_ble_eq_true rfl) ⟨Nat.le_of_ble_eq_true rfl, Nat.le_of_ble_eq_true rfl⟩ ?_
  rintro r w2 ad2 H2 locs2 ⟨v2, τ', t', rfl, rfl, hP2⟩ had2 ok2 hW2 hS2
  rw [q_w_same (fun i hi => had2 i (by rw [mW_len] at hi ⊢; exact hi)) ok2] at hW2
  obtain ⟨ev, hI⟩ := c3 v σ' v2 τ' hP1 hP2
  refine W.eq (g2 := F0 m 303 ls [.int v2, .int v]) rfl ?_
  refine lv_icmp_eq (tgt := 1100) hx hb dL_law_303 rfl (fun cc => ?_) (fun cc => absurd ev cc)
  exact hX σ' τ' t' H2 locs2 hI hW2.sw hS2 ok1 ok2
set_option maxHeartbeats 4000000 in
set_option maxRecDepth 100000 in
theorem law_term (C0 : LC p s m meth c b L xs D tc) (hl : lv_has ls 4 [(0, .ref b), (1, .ref (adx 0)), (2, .ref (adm 0)), (3, .int (nI i))]) (hi : i + 5 ≤ L) (hL : L ≤ 2560) (hN : N ≤ 10000) (HI : INV σ τ N) (hW : W2 D (lwA s) H (q_w tc adx (xW σ)) (q_w tc adm (mW τ t))) (hS : va_S (lwA s) s.heap H locs) (o1 : q_okw (xW σ)) (o2 : q_okw (mW τ t)) (hX : ∀ (σ' τ' : Nat → Nat → Int32) (t' : Nat → Int64) (H' : Heap) (locs' : List Loc), INV σ' τ' (N + 1) → W2 D (lwA s) H' (q_w tc adx (xW σ')) (q_w tc adm (mW τ' t')) → va_S (lwA s) s.heap H' locs' → q_okw (xW σ') → q_okw (mW τ' t') → W p l e room_1 s m #[Value.ref b] below meth c H' locs' 191 16496 (lw_Z below #[Value.ref b] s) (F0 m 1100 ls [])) : W p l e room_1 s m #[Value.ref b] below meth c H locs 191 16496 (lw_Z below #[Value.ref b] s) (F0 m 308 ls []) := by
  obtain ⟨P1, P2, c1, c2, c3⟩ := AG_term (l := l) (t := t) HI (xs (i + 1)) (xs (i + 2))
  obtain ⟨hx, hb, hr, hml, hown, hts, hX0, hbl, hlocks, hgv⟩ := C0.1
  refine lv_aload_n hx hb dL_law_308 rfl (lv_at hl 1 rfl) ?_
  refine lw_ld (j := 1) C0 hS hl hi hL (by decide) dL_law_309 dL_law_310 dL_law_311 rfl dL_law_312 dL_law_313 ?_
  refine lw_ld (j := 2) C0 hS hl hi hL (by decide) dL_law_314 dL_law_315 dL_law_316 rfl dL_law_317 dL_law_318 ?_
  refine W.eq (g2 := F0 m 319 ls ([.int (xs (i + 1)), .int (xs (i + 2))].reverse ++ .ref (adx 0) :: [])) rfl ?_
  refine lw_callV (M' := mX10_term) (as := [.int (xs (i + 1)), .int (xs (i + 2))]) (rest := []) C0 hW hS o1 c1 kL_40 (fun x hx => by simp only [List.mem_cons, List.not_mem_nil, or_false] at hx; rcases hx with rfl | rfl <;> exact ⟨_, rfl⟩) rfl (xW_at (by decide) xC0) rfl dL_law_319 hl.1 (by decide) ⟨Nat.le_of_ble_eq_true rfl, Nat.le_of_ble_eq_true rfl⟩ ?_
  rintro r w1 ad1 H1 locs1 ⟨v, σ', rfl, rfl, hP1⟩ had ok1 hW1 hS1
  rw [q_w_same (fun i hi => had i (by rw [xW_len] at hi ⊢; exact hi)) ok1] at hW1
  refine W.eq (g2 := F0 m 322 ls [.int v]) rfl ?_
  refine lv_aload_n hx hb dL_law_322 rfl (lv_at hl 2 rfl) ?_
  refine lw_ld (j := 1) C0 hS1 hl hi hL (by decide) dL_law_323 dL_law_324 dL_law_325 rfl dL_law_326 dL_law_327 ?_
  refine lw_ld (j := 2) C0 hS1 hl hi hL (by decide) dL_law_328 dL_law_329 dL_law_330 rfl dL_law_331 dL_law_332 ?_
  refine W.eq (g2 := F0 m 333 ls ([.int (xs (i + 1)), .int (xs (i + 2))].reverse ++ .ref (adm 0) :: [.int v])) rfl ?_
  refine lw_callV (M' := mX11_term) (as := [.int (xs (i + 1)), .int (xs (i + 2))]) (rest := [.int v]) C0 hW1.sw hS1 o2 c2 kL_43 (fun x hx => by simp only [List.mem_cons, List.not_mem_nil, or_false] at hx; rcases hx with rfl | rfl <;> exact ⟨_, rfl⟩) rfl mW_0 rfl dL_law_333 hl.1 (Nat.le_of_ble_eq_true rfl) ⟨Nat.le_of_ble_eq_true rfl, Nat.le_of_ble_eq_true rfl⟩ ?_
  rintro r w2 ad2 H2 locs2 ⟨v2, τ', t', rfl, rfl, hP2⟩ had2 ok2 hW2 hS2
  rw [q_w_same (fun i hi => had2 i (by rw [mW_len] at hi ⊢; exact hi)) ok2] at hW2
  obtain ⟨ev, hI⟩ := c3 v σ' v2 τ' hP1 hP2
  refine W.eq (g2 := F0 m 336 ls [.int v2, .int v]) rfl ?_
  refine lv_icmp_eq (tgt := 1100) hx hb dL_law_336 rfl (fun cc => ?_) (fun cc => absurd ev cc)
  exact hX σ' τ' t' H2 locs2 hI hW2.sw hS2 ok1 ok2
set_option maxHeartbeats 4000000 in
set_option maxRecDepth 100000 in
theorem law_by (C0 : LC p s m meth c b L xs D tc) (hl : lv_has ls 4 [(0, .ref b), (1, .ref (adx 0)), (2, .ref (adm 0)), (3, .int (nI i))]) (hi : i + 5 ≤ L) (hL : L ≤ 2560) (hN : N ≤ 10000) (HI : INV σ τ N) (hW : W2 D (lwA s) H (q_w tc adx (xW σ)) (q_w tc adm (mW τ t))) (hS : va_S (lwA s) s.heap H locs) (o1 : q_okw (xW σ)) (o2 : q_okw (mW τ t)) (hX : ∀ (σ' τ' : Nat → Nat → Int32) (t' : Nat → Int64) (H' : Heap) (locs' : List Loc), INV σ' τ' (N + 1) → W2 D (lwA s) H' (q_w tc adx (xW σ')) (q_w tc adm (mW τ' t')) → va_S (lwA s) s.heap H' locs' → q_okw (xW σ') → q_okw (mW τ' t') → W p l e room_1 s m #[Value.ref b] below meth c H' locs' 191 16496 (lw_Z below #[Value.ref b] s) (F0 m 1100 ls [])) : W p l e room_1 s m #[Value.ref b] below meth c H locs 191 16496 (lw_Z below #[Value.ref b] s) (F0 m 341 ls []) := by
  obtain ⟨P1, P2, c1, c2, c3⟩ := AG_by (l := l) (t := t) HI (xs (i + 1)) (xs (i + 2)) (xs (i + 3))
  obtain ⟨hx, hb, hr, hml, hown, hts, hX0, hbl, hlocks, hgv⟩ := C0.1
  refine lv_aload_n hx hb dL_law_341 rfl (lv_at hl 1 rfl) ?_
  refine lw_ld (j := 1) C0 hS hl hi hL (by decide) dL_law_342 dL_law_343 dL_law_344 rfl dL_law_345 dL_law_346 ?_
  refine lw_ld (j := 2) C0 hS hl hi hL (by decide) dL_law_347 dL_law_348 dL_law_349 rfl dL_law_350 dL_law_351 ?_
  refine lw_ld (j := 3) C0 hS hl hi hL (by decide) dL_law_352 dL_law_353 dL_law_354 rfl dL_law_355 dL_law_356 ?_
  refine W.eq (g2 := F0 m 357 ls ([.int (xs (i + 1)), .int (xs (i + 2)), .int (xs (i + 3))].reverse ++ .ref (adx 0) :: [])) rfl ?_
  refine lw_callV (M' := mX10_by) (as := [.int (xs (i + 1)), .int (xs (i + 2)), .int (xs (i + 3))]) (rest := []) C0 hW hS o1 c1 kL_44 (fun x hx => by simp only [List.mem_cons, List.not_mem_nil, or_false] at hx; rcases hx with rfl | rfl | rfl <;> exact ⟨_, rfl⟩) rfl (xW_at (by decide) xC0) rfl dL_law_357 hl.1 (by decide) ⟨Nat.le_of_ble_eq_true rfl, Nat.le_of_ble_eq_true rfl⟩ ?_
  rintro r w1 ad1 H1 locs1 ⟨v, σ', rfl, rfl, hP1⟩ had ok1 hW1 hS1
  rw [q_w_same (fun i hi => had i (by rw [xW_len] at hi ⊢; exact hi)) ok1] at hW1
  refine W.eq (g2 := F0 m 360 ls [.int v]) rfl ?_
  refine lv_aload_n hx hb dL_law_360 rfl (lv_at hl 2 rfl) ?_
  refine lw_ld (j := 1) C0 hS1 hl hi hL (by decide) dL_law_361 dL_law_362 dL_law_363 rfl dL_law_364 dL_law_365 ?_
  refine lw_ld (j := 2) C0 hS1 hl hi hL (by decide) dL_law_366 dL_law_367 dL_law_368 rfl dL_law_369 dL_law_370 ?_
  refine lw_ld (j := 3) C0 hS1 hl hi hL (by decide) dL_law_371 dL_law_372 dL_law_373 rfl dL_law_374 dL_law_375 ?_
  refine W.eq (g2 := F0 m 376 ls ([.int (xs (i + 1)), .int (xs (i + 2)), .int (xs (i + 3))].reverse ++ .ref (adm 0) :: [.int v])) rfl ?_
  refine lw_callV (M' := mX11_by) (as := [.int (xs (i + 1)), .int (xs (i + 2)), .int (xs (i + 3))]) (rest := [.int v]) C0 hW1.sw hS1 o2 c2 kL_48 (fun x hx => by simp only [List.mem_cons, List.not_mem_nil, or_false] at hx; rcases hx with rfl | rfl | rfl <;> exact ⟨_, rfl⟩) rfl mW_0 rfl dL_law_376 hl.1 (Nat.le_of_ble_eq_true rfl) ⟨Nat.le_of_ble_eq_true rfl, Nat.le_of_ble_eq_true rfl⟩ ?_
  rintro r w2 ad2 H2 locs2 ⟨v2, τ', t', rfl, rfl, hP2⟩ had2 ok2 hW2 hS2
  rw [q_w_same (fun i hi => had2 i (by rw [mW_len] at hi ⊢; exact hi)) ok2] at hW2
  obtain ⟨ev, hI⟩ := c3 v σ' v2 τ' hP1 hP2
  refine W.eq (g2 := F0 m 379 ls [.int v2, .int v]) rfl ?_
  refine lv_icmp_eq (tgt := 1100) hx hb dL_law_379 rfl (fun cc => ?_) (fun cc => absurd ev cc)
  exact hX σ' τ' t' H2 locs2 hI hW2.sw hS2 ok1 ok2
set_option maxHeartbeats 4000000 in
set_option maxRecDepth 100000 in
theorem law_lap (C0 : LC p s m meth c b L xs D tc) (hl : lv_has ls 4 [(0, .ref b), (1, .ref (adx 0)), (2, .ref (adm 0)), (3, .int (nI i))]) (hi : i + 5 ≤ L) (hL : L ≤ 2560) (hN : N ≤ 10000) (HI : INV σ τ N) (hW : W2 D (lwA s) H (q_w tc adx (xW σ)) (q_w tc adm (mW τ t))) (hS : va_S (lwA s) s.heap H locs) (o1 : q_okw (xW σ)) (o2 : q_okw (mW τ t)) (hX : ∀ (σ' τ' : Nat → Nat → Int32) (t' : Nat → Int64) (H' : Heap) (locs' : List Loc), INV σ' τ' (N + 1) → W2 D (lwA s) H' (q_w tc adx (xW σ')) (q_w tc adm (mW τ' t')) → va_S (lwA s) s.heap H' locs' → q_okw (xW σ') → q_okw (mW τ' t') → W p l e room_1 s m #[Value.ref b] below meth c H' locs' 191 16496 (lw_Z below #[Value.ref b] s) (F0 m 1100 ls [])) : W p l e room_1 s m #[Value.ref b] below meth c H locs 191 16496 (lw_Z below #[Value.ref b] s) (F0 m 384 ls []) := by
  obtain ⟨P1, P2, c1, c2, c3⟩ := AG_lap (l := l) (t := t) HI (xs (i + 1)) (xs (i + 2)) (xs (i + 3))
  obtain ⟨hx, hb, hr, hml, hown, hts, hX0, hbl, hlocks, hgv⟩ := C0.1
  refine lv_aload_n hx hb dL_law_384 rfl (lv_at hl 1 rfl) ?_
  refine lw_ld (j := 1) C0 hS hl hi hL (by decide) dL_law_385 dL_law_386 dL_law_387 rfl dL_law_388 dL_law_389 ?_
  refine lw_ld (j := 2) C0 hS hl hi hL (by decide) dL_law_390 dL_law_391 dL_law_392 rfl dL_law_393 dL_law_394 ?_
  refine lw_ld (j := 3) C0 hS hl hi hL (by decide) dL_law_395 dL_law_396 dL_law_397 rfl dL_law_398 dL_law_399 ?_
  refine W.eq (g2 := F0 m 400 ls ([.int (xs (i + 1)), .int (xs (i + 2)), .int (xs (i + 3))].reverse ++ .ref (adx 0) :: [])) rfl ?_
  refine lw_callV (M' := mX10_lap) (as := [.int (xs (i + 1)), .int (xs (i + 2)), .int (xs (i + 3))]) (rest := []) C0 hW hS o1 c1 kL_49 (fun x hx => by simp only [List.mem_cons, List.not_mem_nil, or_false] at hx; rcases hx with rfl | rfl | rfl <;> exact ⟨_, rfl⟩) rfl (xW_at (by decide) xC0) rfl dL_law_400 hl.1 (by decide) ⟨Nat.le_of_ble_eq_true rfl, Nat.le_of_ble_eq_true rfl⟩ ?_
  rintro r w1 ad1 H1 locs1 ⟨v, σ', rfl, rfl, hP1⟩ had ok1 hW1 hS1
  rw [q_w_same (fun i hi => had i (by rw [xW_len] at hi ⊢; exact hi)) ok1] at hW1
  refine W.eq (g2 := F0 m 403 ls [.int v]) rfl ?_
  refine lv_aload_n hx hb dL_law_403 rfl (lv_at hl 2 rfl) ?_
  refine lw_ld (j := 1) C0 hS1 hl hi hL (by decide) dL_law_404 dL_law_405 dL_law_406 rfl dL_law_407 dL_law_408 ?_
  refine lw_ld (j := 2) C0 hS1 hl hi hL (by decide) dL_law_409 dL_law_410 dL_law_411 rfl dL_law_412 dL_law_413 ?_
  refine lw_ld (j := 3) C0 hS1 hl hi hL (by decide) dL_law_414 dL_law_415 dL_law_416 rfl dL_law_417 dL_law_418 ?_
  refine W.eq (g2 := F0 m 419 ls ([.int (xs (i + 1)), .int (xs (i + 2)), .int (xs (i + 3))].reverse ++ .ref (adm 0) :: [.int v])) rfl ?_
  refine lw_callV (M' := mX11_lap) (as := [.int (xs (i + 1)), .int (xs (i + 2)), .int (xs (i + 3))]) (rest := [.int v]) C0 hW1.sw hS1 o2 c2 kL_52 (fun x hx => by simp only [List.mem_cons, List.not_mem_nil, or_false] at hx; rcases hx with rfl | rfl | rfl <;> exact ⟨_, rfl⟩) rfl mW_0 rfl dL_law_419 hl.1 (Nat.le_of_ble_eq_true rfl) ⟨Nat.le_of_ble_eq_true rfl, Nat.le_of_ble_eq_true rfl⟩ ?_
  rintro r w2 ad2 H2 locs2 ⟨v2, τ', t', rfl, rfl, hP2⟩ had2 ok2 hW2 hS2
  rw [q_w_same (fun i hi => had2 i (by rw [mW_len] at hi ⊢; exact hi)) ok2] at hW2
  obtain ⟨ev, hI⟩ := c3 v σ' v2 τ' hP1 hP2
  refine W.eq (g2 := F0 m 422 ls [.int v2, .int v]) rfl ?_
  refine lv_icmp_eq (tgt := 1100) hx hb dL_law_422 rfl (fun cc => ?_) (fun cc => absurd ev cc)
  exact hX σ' τ' t' H2 locs2 hI hW2.sw hS2 ok1 ok2
set_option maxHeartbeats 4000000 in
set_option maxRecDepth 100000 in
theorem law_least (C0 : LC p s m meth c b L xs D tc) (hl : lv_has ls 4 [(0, .ref b), (1, .ref (adx 0)), (2, .ref (adm 0)), (3, .int (nI i))]) (hi : i + 5 ≤ L) (hL : L ≤ 2560) (hN : N ≤ 10000) (HI : INV σ τ N) (hW : W2 D (lwA s) H (q_w tc adx (xW σ)) (q_w tc adm (mW τ t))) (hS : va_S (lwA s) s.heap H locs) (o1 : q_okw (xW σ)) (o2 : q_okw (mW τ t)) (hX : ∀ (σ' τ' : Nat → Nat → Int32) (t' : Nat → Int64) (H' : Heap) (locs' : List Loc), INV σ' τ' (N + 1) → W2 D (lwA s) H' (q_w tc adx (xW σ')) (q_w tc adm (mW τ' t')) → va_S (lwA s) s.heap H' locs' → q_okw (xW σ') → q_okw (mW τ' t') → W p l e room_1 s m #[Value.ref b] below meth c H' locs' 191 16496 (lw_Z below #[Value.ref b] s) (F0 m 1100 ls [])) : W p l e room_1 s m #[Value.ref b] below meth c H locs 191 16496 (lw_Z below #[Value.ref b] s) (F0 m 427 ls []) := by
  obtain ⟨P1, P2, c1, c2, c3⟩ := AG_least (l := l) (t := t) HI (xs (i + 1)) (xs (i + 2)) (xs (i + 3))
  obtain ⟨hx, hb, hr, hml, hown, hts, hX0, hbl, hlocks, hgv⟩ := C0.1
  refine lv_aload_n hx hb dL_law_427 rfl (lv_at hl 1 rfl) ?_
  refine lw_ld (j := 1) C0 hS hl hi hL (by decide) dL_law_428 dL_law_429 dL_law_430 rfl dL_law_431 dL_law_432 ?_
  refine lw_ld (j := 2) C0 hS hl hi hL (by decide) dL_law_433 dL_law_434 dL_law_435 rfl dL_law_436 dL_law_437 ?_
  refine lw_ld (j := 3) C0 hS hl hi hL (by decide) dL_law_438 dL_law_439 dL_law_440 rfl dL_law_441 dL_law_442 ?_
  refine W.eq (g2 := F0 m 443 ls ([.int (xs (i + 1)), .int (xs (i + 2)), .int (xs (i + 3))].reverse ++ .ref (adx 0) :: [])) rfl ?_
  refine lw_callV (M' := mX10_least) (as := [.int (xs (i + 1)), .int (xs (i + 2)), .int (xs (i + 3))]) (rest := []) C0 hW hS o1 c1 kL_53 (fun x hx => by simp only [List.mem_cons, List.not_mem_nil, or_false] at hx; rcases hx with rfl | rfl | rfl <;> exact ⟨_, rfl⟩) rfl (xW_at (by decide) xC0) rfl dL_law_443 hl.1 (by decide) ⟨Nat.le_of_ble_eq_true rfl, Nat.le_of_ble_eq_true rfl⟩ ?_
  rintro r w1 ad1 H1 locs1 ⟨v, σ', rfl, rfl, hP1⟩ had ok1 hW1 hS1
  rw [q_w_same (fun i hi => had i (by rw [xW_len] at hi ⊢; exact hi)) ok1] at hW1
  refine W.eq (g2 := F0 m 446 ls [.int v]) rfl ?_
  refine lv_aload_n hx hb dL_law_446 rfl (lv_at hl 2 rfl) ?_
  refine lw_ld (j := 1) C0 hS1 hl hi hL (by decide) dL_law_447 dL_law_448 dL_law_449 rfl dL_law_450 dL_law_451 ?_
  refine lw_ld (j := 2) C0 hS1 hl hi hL (by decide) dL_law_452 dL_law_453 dL_law_454 rfl dL_law_455 dL_law_456 ?_
  refine lw_ld (j := 3) C0 hS1 hl hi hL (by decide) dL_law_457 dL_law_458 dL_law_459 rfl dL_law_460 dL_law_461 ?_
  refine W.eq (g2 := F0 m 462 ls ([.int (xs (i + 1)), .int (xs (i + 2)), .int (xs (i + 3))].reverse ++ .ref (adm 0) :: [.int v])) rfl ?_
  refine lw_callV (M' := mX11_least) (as := [.int (xs (i + 1)), .int (xs (i + 2)), .int (xs (i + 3))]) (rest := [.int v]) C0 hW1.sw hS1 o2 c2 kL_56 (fun x hx => by simp only [List.mem_cons, List.not_mem_nil, or_false] at hx; rcases hx with rfl | rfl | rfl <;> exact ⟨_, rfl⟩) rfl mW_0 rfl dL_law_462 hl.1 (Nat.le_of_ble_eq_true rfl) ⟨Nat.le_of_ble_eq_true rfl, Nat.le_of_ble_eq_true rfl⟩ ?_
  rintro r w2 ad2 H2 locs2 ⟨v2, τ', t', rfl, rfl, hP2⟩ had2 ok2 hW2 hS2
  rw [q_w_same (fun i hi => had2 i (by rw [mW_len] at hi ⊢; exact hi)) ok2] at hW2
  obtain ⟨ev, hI⟩ := c3 v σ' v2 τ' hP1 hP2
  refine W.eq (g2 := F0 m 465 ls [.int v2, .int v]) rfl ?_
  refine lv_icmp_eq (tgt := 1100) hx hb dL_law_465 rfl (fun cc => ?_) (fun cc => absurd ev cc)
  exact hX σ' τ' t' H2 locs2 hI hW2.sw hS2 ok1 ok2
set_option maxHeartbeats 4000000 in
set_option maxRecDepth 100000 in
theorem law_rule (C0 : LC p s m meth c b L xs D tc) (hl : lv_has ls 4 [(0, .ref b), (1, .ref (adx 0)), (2, .ref (adm 0)), (3, .int (nI i))]) (hi : i + 5 ≤ L) (hL : L ≤ 2560) (hN : N ≤ 10000) (HI : INV σ τ N) (hW : W2 D (lwA s) H (q_w tc adx (xW σ)) (q_w tc adm (mW τ t))) (hS : va_S (lwA s) s.heap H locs) (o1 : q_okw (xW σ)) (o2 : q_okw (mW τ t)) (hX : ∀ (σ' τ' : Nat → Nat → Int32) (t' : Nat → Int64) (H' : Heap) (locs' : List Loc), INV σ' τ' (N + 1) → W2 D (lwA s) H' (q_w tc adx (xW σ')) (q_w tc adm (mW τ' t')) → va_S (lwA s) s.heap H' locs' → q_okw (xW σ') → q_okw (mW τ' t') → W p l e room_1 s m #[Value.ref b] below meth c H' locs' 191 16496 (lw_Z below #[Value.ref b] s) (F0 m 1100 ls [])) : W p l e room_1 s m #[Value.ref b] below meth c H locs 191 16496 (lw_Z below #[Value.ref b] s) (F0 m 470 ls []) := by
  obtain ⟨P1, P2, c1, c2, c3⟩ := AG_rule (l := l) (t := t) HI (xs (i + 1)) (xs (i + 2))
  obtain ⟨hx, hb, hr, hml, hown, hts, hX0, hbl, hlocks, hgv⟩ := C0.1
  refine lv_aload_n hx hb dL_law_470 rfl (lv_at hl 1 rfl) ?_
  refine lw_ld (j := 1) C0 hS hl hi hL (by decide) dL_law_471 dL_law_472 dL_law_473 rfl dL_law_474 dL_law_475 ?_
  refine lw_ld (j := 2) C0 hS hl hi hL (by decide) dL_law_476 dL_law_477 dL_law_478 rfl dL_law_479 dL_law_480 ?_
  refine W.eq (g2 := F0 m 481 ls ([.int (xs (i + 1)), .int (xs (i + 2))].reverse ++ .ref (adx 0) :: [])) rfl ?_
  refine lw_callV (M' := mX10_rule) (as := [.int (xs (i + 1)), .int (xs (i + 2))]) (rest := []) C0 hW hS o1 c1 kL_57 (fun x hx => by simp only [List.mem_cons, List.not_mem_nil, or_false] at hx; rcases hx with rfl | rfl <;> exact ⟨_, rfl⟩) rfl (xW_at (by decide) xC0) rfl dL_law_481 hl.1 (by decide) ⟨Nat.le_of_ble_eq_true rfl, Nat.le_of_ble_eq_true rfl⟩ ?_
  rintro r w1 ad1 H1 locs1 ⟨v, σ', rfl, rfl, hP1⟩ had ok1 hW1 hS1
  rw [q_w_same (fun i hi => had i (by rw [xW_len] at hi ⊢; exact hi)) ok1] at hW1
  refine W.eq (g2 := F0 m 484 ls [.int v]) rfl ?_
  refine lv_aload_n hx hb dL_law_484 rfl (lv_at hl 2 rfl) ?_
  refine lw_ld (j := 1) C0 hS1 hl hi hL (by decide) dL_law_485 dL_law_486 dL_law_487 rfl dL_law_488 dL_law_489 ?_
  refine lw_ld (j := 2) C0 hS1 hl hi hL (by decide) dL_law_490 dL_law_491 dL_law_492 rfl dL_law_493 dL_law_494 ?_
  refine W.eq (g2 := F0 m 495 ls ([.int (xs (i + 1)), .int (xs (i + 2))].reverse ++ .ref (adm 0) :: [.int v])) rfl ?_
  refine lw_callV (M' := mX11_rule) (as := [.int (xs (i + 1)), .int (xs (i + 2))]) (rest := [.int v]) C0 hW1.sw hS1 o2 c2 kL_60 (fun x hx => by simp only [List.mem_cons, List.not_mem_nil, or_false] at hx; rcases hx with rfl | rfl <;> exact ⟨_, rfl⟩) rfl mW_0 rfl dL_law_495 hl.1 (Nat.le_of_ble_eq_true rfl) ⟨Nat.le_of_ble_eq_true rfl, Nat.le_of_ble_eq_true rfl⟩ ?_
  rintro r w2 ad2 H2 locs2 ⟨v2, τ', t', rfl, rfl, hP2⟩ had2 ok2 hW2 hS2
  rw [q_w_same (fun i hi => had2 i (by rw [mW_len] at hi ⊢; exact hi)) ok2] at hW2
  obtain ⟨ev, hI⟩ := c3 v σ' v2 τ' hP1 hP2
  refine W.eq (g2 := F0 m 498 ls [.int v2, .int v]) rfl ?_
  refine lv_icmp_eq (tgt := 1100) hx hb dL_law_498 rfl (fun cc => ?_) (fun cc => absurd ev cc)
  exact hX σ' τ' t' H2 locs2 hI hW2.sw hS2 ok1 ok2
set_option maxHeartbeats 4000000 in
set_option maxRecDepth 100000 in
theorem law_roots (C0 : LC p s m meth c b L xs D tc) (hl : lv_has ls 4 [(0, .ref b), (1, .ref (adx 0)), (2, .ref (adm 0)), (3, .int (nI i))]) (hi : i + 5 ≤ L) (hL : L ≤ 2560) (hN : N ≤ 10000) (HI : INV σ τ N) (hW : W2 D (lwA s) H (q_w tc adx (xW σ)) (q_w tc adm (mW τ t))) (hS : va_S (lwA s) s.heap H locs) (o1 : q_okw (xW σ)) (o2 : q_okw (mW τ t)) (hX : ∀ (σ' τ' : Nat → Nat → Int32) (t' : Nat → Int64) (H' : Heap) (locs' : List Loc), INV σ' τ' (N + 1) → W2 D (lwA s) H' (q_w tc adx (xW σ')) (q_w tc adm (mW τ' t')) → va_S (lwA s) s.heap H' locs' → q_okw (xW σ') → q_okw (mW τ' t') → W p l e room_1 s m #[Value.ref b] below meth c H' locs' 191 16496 (lw_Z below #[Value.ref b] s) (F0 m 1100 ls [])) : W p l e room_1 s m #[Value.ref b] below meth c H locs 191 16496 (lw_Z below #[Value.ref b] s) (F0 m 503 ls []) := by
  obtain ⟨P1, P2, c1, c2, c3⟩ := AG_roots (l := l) (t := t) HI (xs (i + 1)) (xs (i + 2))
  obtain ⟨hx, hb, hr, hml, hown, hts, hX0, hbl, hlocks, hgv⟩ := C0.1
  refine lv_aload_n hx hb dL_law_503 rfl (lv_at hl 1 rfl) ?_
  refine lw_ld (j := 1) C0 hS hl hi hL (by decide) dL_law_504 dL_law_505 dL_law_506 rfl dL_law_507 dL_law_508 ?_
  refine lw_ld (j := 2) C0 hS hl hi hL (by decide) dL_law_509 dL_law_510 dL_law_511 rfl dL_law_512 dL_law_513 ?_
  refine W.eq (g2 := F0 m 514 ls ([.int (xs (i + 1)), .int (xs (i + 2))].reverse ++ .ref (adx 0) :: [])) rfl ?_
  refine lw_callV (M' := mX10_roots) (as := [.int (xs (i + 1)), .int (xs (i + 2))]) (rest := []) C0 hW hS o1 c1 kL_61 (fun x hx => by simp only [List.mem_cons, List.not_mem_nil, or_false] at hx; rcases hx with rfl | rfl <;> exact ⟨_, rfl⟩) rfl (xW_at (by decide) xC0) rfl dL_law_514 hl.1 (by decide) ⟨Nat.le_of_ble_eq_true rfl, Nat.le_of_ble_eq_true rfl⟩ ?_
  rintro r w1 ad1 H1 locs1 ⟨v, σ', rfl, rfl, hP1⟩ had ok1 hW1 hS1
  rw [q_w_same (fun i hi => had i (by rw [xW_len] at hi ⊢; exact hi)) ok1] at hW1
  refine W.eq (g2 := F0 m 517 ls [.int v]) rfl ?_
  refine lv_aload_n hx hb dL_law_517 rfl (lv_at hl 2 rfl) ?_
  refine lw_ld (j := 1) C0 hS1 hl hi hL (by decide) dL_law_518 dL_law_519 dL_law_520 rfl dL_law_521 dL_law_522 ?_
  refine lw_ld (j := 2) C0 hS1 hl hi hL (by decide) dL_law_523 dL_law_524 dL_law_525 rfl dL_law_526 dL_law_527 ?_
  refine W.eq (g2 := F0 m 528 ls ([.int (xs (i + 1)), .int (xs (i + 2))].reverse ++ .ref (adm 0) :: [.int v])) rfl ?_
  refine lw_callV (M' := mX11_roots) (as := [.int (xs (i + 1)), .int (xs (i + 2))]) (rest := [.int v]) C0 hW1.sw hS1 o2 c2 kL_64 (fun x hx => by simp only [List.mem_cons, List.not_mem_nil, or_false] at hx; rcases hx with rfl | rfl <;> exact ⟨_, rfl⟩) rfl mW_0 rfl dL_law_528 hl.1 (Nat.le_of_ble_eq_true rfl) ⟨Nat.le_of_ble_eq_true rfl, Nat.le_of_ble_eq_true rfl⟩ ?_
  rintro r w2 ad2 H2 locs2 ⟨v2, τ', t', rfl, rfl, hP2⟩ had2 ok2 hW2 hS2
  rw [q_w_same (fun i hi => had2 i (by rw [mW_len] at hi ⊢; exact hi)) ok2] at hW2
  obtain ⟨ev, hI⟩ := c3 v σ' v2 τ' hP1 hP2
  refine W.eq (g2 := F0 m 531 ls [.int v2, .int v]) rfl ?_
  refine lv_icmp_eq (tgt := 1100) hx hb dL_law_531 rfl (fun cc => ?_) (fun cc => absurd ev cc)
  exact hX σ' τ' t' H2 locs2 hI hW2.sw hS2 ok1 ok2
set_option maxHeartbeats 4000000 in
set_option maxRecDepth 100000 in
theorem law_noughts (C0 : LC p s m meth c b L xs D tc) (hl : lv_has ls 4 [(0, .ref b), (1, .ref (adx 0)), (2, .ref (adm 0)), (3, .int (nI i))]) (hi : i + 5 ≤ L) (hL : L ≤ 2560) (hN : N ≤ 10000) (HI : INV σ τ N) (hW : W2 D (lwA s) H (q_w tc adx (xW σ)) (q_w tc adm (mW τ t))) (hS : va_S (lwA s) s.heap H locs) (o1 : q_okw (xW σ)) (o2 : q_okw (mW τ t)) (hX : ∀ (σ' τ' : Nat → Nat → Int32) (t' : Nat → Int64) (H' : Heap) (locs' : List Loc), INV σ' τ' (N + 1) → W2 D (lwA s) H' (q_w tc adx (xW σ')) (q_w tc adm (mW τ' t')) → va_S (lwA s) s.heap H' locs' → q_okw (xW σ') → q_okw (mW τ' t') → W p l e room_1 s m #[Value.ref b] below meth c H' locs' 191 16496 (lw_Z below #[Value.ref b] s) (F0 m 1100 ls [])) : W p l e room_1 s m #[Value.ref b] below meth c H locs 191 16496 (lw_Z below #[Value.ref b] s) (F0 m 536 ls []) := by
  obtain ⟨P1, P2, c1, c2, c3⟩ := AG_noughts (l := l) (t := t) HI (xs (i + 1))
  obtain ⟨hx, hb, hr, hml, hown, hts, hX0, hbl, hlocks, hgv⟩ := C0.1
  refine lv_aload_n hx hb dL_law_536 rfl (lv_at hl 1 rfl) ?_
  refine lw_ld (j := 1) C0 hS hl hi hL (by decide) dL_law_537 dL_law_538 dL_law_539 rfl dL_law_540 dL_law_541 ?_
  refine W.eq (g2 := F0 m 542 ls ([.int (xs (i + 1))].reverse ++ .ref (adx 0) :: [])) rfl ?_
  refine lw_callV (M' := mX10_noughts) (as := [.int (xs (i + 1))]) (rest := []) C0 hW hS o1 c1 kL_65 (fun x hx => by simp only [List.mem_cons, List.not_mem_nil, or_false] at hx; rcases hx with rfl <;> exact ⟨_, rfl⟩) rfl (xW_at (by decide) xC0) rfl dL_law_542 hl.1 (by decide) ⟨Nat.le_of_ble_eq_true rfl, Nat.le_of_ble_eq_true rfl⟩ ?_
  rintro r w1 ad1 H1 locs1 ⟨v, σ', rfl, rfl, hP1⟩ had ok1 hW1 hS1
  rw [q_w_same (fun i hi => had i (by rw [xW_len] at hi ⊢; exact hi)) ok1] at hW1
  refine W.eq (g2 := F0 m 545 ls [.int v]) rfl ?_
  refine lv_aload_n hx hb dL_law_545 rfl (lv_at hl 2 rfl) ?_
  refine lw_ld (j := 1) C0 hS1 hl hi hL (by decide) dL_law_546 dL_law_547 dL_law_548 rfl dL_law_549 dL_law_550 ?_
  refine W.eq (g2 := F0 m 551 ls ([.int (xs (i + 1))].reverse ++ .ref (adm 0) :: [.int v])) rfl ?_
  refine lw_callV (M' := mX11_noughts) (as := [.int (xs (i + 1))]) (rest := [.int v]) C0 hW1.sw hS1 o2 c2 kL_68 (fun x hx => by simp only [List.mem_cons, List.not_mem_nil, or_false] at hx; rcases hx with rfl <;> exact ⟨_, rfl⟩) rfl mW_0 rfl dL_law_551 hl.1 (Nat.le_of_ble_eq_true rfl) ⟨Nat.le_of_ble_eq_true rfl, Nat.le_of_ble_eq_true rfl⟩ ?_
  rintro r w2 ad2 H2 locs2 ⟨v2, τ', t', rfl, rfl, hP2⟩ had2 ok2 hW2 hS2
  rw [q_w_same (fun i hi => had2 i (by rw [mW_len] at hi ⊢; exact hi)) ok2] at hW2
  obtain ⟨ev, hI⟩ := c3 v σ' v2 τ' hP1 hP2
  refine W.eq (g2 := F0 m 554 ls [.int v2, .int v]) rfl ?_
  refine lv_icmp_eq (tgt := 1100) hx hb dL_law_554 rfl (fun cc => ?_) (fun cc => absurd ev cc)
  exact hX σ' τ' t' H2 locs2 hI hW2.sw hS2 ok1 ok2
set_option maxHeartbeats 4000000 in
set_option maxRecDepth 100000 in
theorem law_ends (C0 : LC p s m meth c b L xs D tc) (hl : lv_has ls 4 [(0, .ref b), (1, .ref (adx 0)), (2, .ref (adm 0)), (3, .int (nI i))]) (hi : i + 5 ≤ L) (hL : L ≤ 2560) (hN : N ≤ 10000) (HI : INV σ τ N) (hW : W2 D (lwA s) H (q_w tc adx (xW σ)) (q_w tc adm (mW τ t))) (hS : va_S (lwA s) s.heap H locs) (o1 : q_okw (xW σ)) (o2 : q_okw (mW τ t)) (hX : ∀ (σ' τ' : Nat → Nat → Int32) (t' : Nat → Int64) (H' : Heap) (locs' : List Loc), INV σ' τ' (N + 1) → W2 D (lwA s) H' (q_w tc adx (xW σ')) (q_w tc adm (mW τ' t')) → va_S (lwA s) s.heap H' locs' → q_okw (xW σ') → q_okw (mW τ' t') → W p l e room_1 s m #[Value.ref b] below meth c H' locs' 191 16496 (lw_Z below #[Value.ref b] s) (F0 m 1100 ls [])) : W p l e room_1 s m #[Value.ref b] below meth c H locs 191 16496 (lw_Z below #[Value.ref b] s) (F0 m 559 ls []) := by
  obtain ⟨P1, P2, c1, c2, c3⟩ := AG_ends (l := l) (t := t) HI (xs (i + 1))
  obtain ⟨hx, hb, hr, hml, hown, hts, hX0, hbl, hlocks, hgv⟩ := C0.1
  refine lv_aload_n hx hb dL_law_559 rfl (lv_at hl 1 rfl) ?_
  refine lw_ld (j := 1) C0 hS hl hi hL (by decide) dL_law_560 dL_law_561 dL_law_562 rfl dL_law_563 dL_law_564 ?_
  refine W.eq (g2 := F0 m 565 ls ([.int (xs (i + 1))].reverse ++ .ref (adx 0) :: [])) rfl ?_
  refine lw_callV (M' := mX10_ends) (as := [.int (xs (i + 1))]) (rest := []) C0 hW hS o1 c1 kL_69 (fun x hx => by simp only [List.mem_cons, List.not_mem_nil, or_false] at hx; rcases hx with rfl <;> exact ⟨_, rfl⟩) rfl (xW_at (by decide) xC0) rfl dL_law_565 hl.1 (by decide) ⟨Nat.le_of_ble_eq_true rfl, Nat.le_of_ble_eq_true rfl⟩ ?_
  rintro r w1 ad1 H1 locs1 ⟨v, σ', rfl, rfl, hP1⟩ had ok1 hW1 hS1
  rw [q_w_same (fun i hi => had i (by rw [xW_len] at hi ⊢; exact hi)) ok1] at hW1
  refine W.eq (g2 := F0 m 568 ls [.int v]) rfl ?_
  refine lv_aload_n hx hb dL_law_568 rfl (lv_at hl 2 rfl) ?_
  refine lw_ld (j := 1) C0 hS1 hl hi hL (by decide) dL_law_569 dL_law_570 dL_law_571 rfl dL_law_572 dL_law_573 ?_
  refine W.eq (g2 := F0 m 574 ls ([.int (xs (i + 1))].reverse ++ .ref (adm 0) :: [.int v])) rfl ?_
  refine lw_callV (M' := mX11_ends) (as := [.int (xs (i + 1))]) (rest := [.int v]) C0 hW1.sw hS1 o2 c2 kL_72 (fun x hx => by simp only [List.mem_cons, List.not_mem_nil, or_false] at hx; rcases hx with rfl <;> exact ⟨_, rfl⟩) rfl mW_0 rfl dL_law_574 hl.1 (Nat.le_of_ble_eq_true rfl) ⟨Nat.le_of_ble_eq_true rfl, Nat.le_of_ble_eq_true rfl⟩ ?_
  rintro r w2 ad2 H2 locs2 ⟨v2, τ', t', rfl, rfl, hP2⟩ had2 ok2 hW2 hS2
  rw [q_w_same (fun i hi => had2 i (by rw [mW_len] at hi ⊢; exact hi)) ok2] at hW2
  obtain ⟨ev, hI⟩ := c3 v σ' v2 τ' hP1 hP2
  refine W.eq (g2 := F0 m 577 ls [.int v2, .int v]) rfl ?_
  refine lv_icmp_eq (tgt := 1100) hx hb dL_law_577 rfl (fun cc => ?_) (fun cc => absurd ev cc)
  exact hX σ' τ' t' H2 locs2 hI hW2.sw hS2 ok1 ok2
set_option maxHeartbeats 4000000 in
set_option maxRecDepth 100000 in
theorem law_open (C0 : LC p s m meth c b L xs D tc) (hl : lv_has ls 4 [(0, .ref b), (1, .ref (adx 0)), (2, .ref (adm 0)), (3, .int (nI i))]) (hi : i + 5 ≤ L) (hL : L ≤ 2560) (hN : N ≤ 10000) (HI : INV σ τ N) (hW : W2 D (lwA s) H (q_w tc adx (xW σ)) (q_w tc adm (mW τ t))) (hS : va_S (lwA s) s.heap H locs) (o1 : q_okw (xW σ)) (o2 : q_okw (mW τ t)) (hX : ∀ (σ' τ' : Nat → Nat → Int32) (t' : Nat → Int64) (H' : Heap) (locs' : List Loc), INV σ' τ' (N + 1) → W2 D (lwA s) H' (q_w tc adx (xW σ')) (q_w tc adm (mW τ' t')) → va_S (lwA s) s.heap H' locs' → q_okw (xW σ') → q_okw (mW τ' t') → W p l e room_1 s m #[Value.ref b] below meth c H' locs' 191 16496 (lw_Z below #[Value.ref b] s) (F0 m 1100 ls [])) : W p l e room_1 s m #[Value.ref b] below meth c H locs 191 16496 (lw_Z below #[Value.ref b] s) (F0 m 582 ls []) := by
  obtain ⟨P1, P2, c1, c2, c3⟩ := AG_open (l := l) (t := t) HI (xs (i + 1)) (xs (i + 2))
  obtain ⟨hx, hb, hr, hml, hown, hts, hX0, hbl, hlocks, hgv⟩ := C0.1
  refine lv_aload_n hx hb dL_law_582 rfl (lv_at hl 1 rfl) ?_
  refine lw_ld (j := 1) C0 hS hl hi hL (by decide) dL_law_583 dL_law_584 dL_law_585 rfl dL_law_586 dL_law_587 ?_
  refine lw_ld (j := 2) C0 hS hl hi hL (by decide) dL_law_588 dL_law_589 dL_law_590 rfl dL_law_591 dL_law_592 ?_
  refine W.eq (g2 := F0 m 593 ls ([.int (xs (i + 1)), .int (xs (i + 2))].reverse ++ .ref (adx 0) :: [])) rfl ?_
  refine lw_callV (M' := mX10_open) (as := [.int (xs (i + 1)), .int (xs (i + 2))]) (rest := []) C0 hW hS o1 c1 kL_73 (fun x hx => by simp only [List.mem_cons, List.not_mem_nil, or_false] at hx; rcases hx with rfl | rfl <;> exact ⟨_, rfl⟩) rfl (xW_at (by decide) xC0) rfl dL_law_593 hl.1 (by decide) ⟨Nat.le_of_ble_eq_true rfl, Nat.le_of_ble_eq_true rfl⟩ ?_
  rintro r w1 ad1 H1 locs1 ⟨v, σ', rfl, rfl, hP1⟩ had ok1 hW1 hS1
  rw [q_w_same (fun i hi => had i (by rw [xW_len] at hi ⊢; exact hi)) ok1] at hW1
  refine W.eq (g2 := F0 m 596 ls [.int v]) rfl ?_
  refine lv_aload_n hx hb dL_law_596 rfl (lv_at hl 2 rfl) ?_
  refine lw_ld (j := 1) C0 hS1 hl hi hL (by decide) dL_law_597 dL_law_598 dL_law_599 rfl dL_law_600 dL_law_601 ?_
  refine lw_ld (j := 2) C0 hS1 hl hi hL (by decide) dL_law_602 dL_law_603 dL_law_604 rfl dL_law_605 dL_law_606 ?_
  refine W.eq (g2 := F0 m 607 ls ([.int (xs (i + 1)), .int (xs (i + 2))].reverse ++ .ref (adm 0) :: [.int v])) rfl ?_
  refine lw_callV (M' := mX11_open) (as := [.int (xs (i + 1)), .int (xs (i + 2))]) (rest := [.int v]) C0 hW1.sw hS1 o2 c2 kL_76 (fun x hx => by simp only [List.mem_cons, List.not_mem_nil, or_false] at hx; rcases hx with rfl | rfl <;> exact ⟨_, rfl⟩) rfl mW_0 rfl dL_law_607 hl.1 (Nat.le_of_ble_eq_true rfl) ⟨Nat.le_of_ble_eq_true rfl, Nat.le_of_ble_eq_true rfl⟩ ?_
  rintro r w2 ad2 H2 locs2 ⟨v2, τ', t', rfl, rfl, hP2⟩ had2 ok2 hW2 hS2
  rw [q_w_same (fun i hi => had2 i (by rw [mW_len] at hi ⊢; exact hi)) ok2] at hW2
  obtain ⟨ev, hI⟩ := c3 v σ' v2 τ' hP1 hP2
  refine W.eq (g2 := F0 m 610 ls [.int v2, .int v]) rfl ?_
  refine lv_icmp_eq (tgt := 1100) hx hb dL_law_610 rfl (fun cc => ?_) (fun cc => absurd ev cc)
  exact hX σ' τ' t' H2 locs2 hI hW2.sw hS2 ok1 ok2
set_option maxHeartbeats 4000000 in
set_option maxRecDepth 100000 in
theorem law_meets (C0 : LC p s m meth c b L xs D tc) (hl : lv_has ls 4 [(0, .ref b), (1, .ref (adx 0)), (2, .ref (adm 0)), (3, .int (nI i))]) (hi : i + 5 ≤ L) (hL : L ≤ 2560) (hN : N ≤ 10000) (HI : INV σ τ N) (hW : W2 D (lwA s) H (q_w tc adx (xW σ)) (q_w tc adm (mW τ t))) (hS : va_S (lwA s) s.heap H locs) (o1 : q_okw (xW σ)) (o2 : q_okw (mW τ t)) (hX : ∀ (σ' τ' : Nat → Nat → Int32) (t' : Nat → Int64) (H' : Heap) (locs' : List Loc), INV σ' τ' (N + 1) → W2 D (lwA s) H' (q_w tc adx (xW σ')) (q_w tc adm (mW τ' t')) → va_S (lwA s) s.heap H' locs' → q_okw (xW σ') → q_okw (mW τ' t') → W p l e room_1 s m #[Value.ref b] below meth c H' locs' 191 16496 (lw_Z below #[Value.ref b] s) (F0 m 1100 ls [])) : W p l e room_1 s m #[Value.ref b] below meth c H locs 191 16496 (lw_Z below #[Value.ref b] s) (F0 m 615 ls []) := by
  obtain ⟨P1, P2, c1, c2, c3⟩ := AG_meets (l := l) (t := t) HI (xs (i + 1)) (xs (i + 2)) (xs (i + 3))
  obtain ⟨hx, hb, hr, hml, hown, hts, hX0, hbl, hlocks, hgv⟩ := C0.1
  refine lv_aload_n hx hb dL_law_615 rfl (lv_at hl 1 rfl) ?_
  refine lw_ld (j := 1) C0 hS hl hi hL (by decide) dL_law_616 dL_law_617 dL_law_618 rfl dL_law_619 dL_law_620 ?_
  refine lw_ld (j := 2) C0 hS hl hi hL (by decide) dL_law_621 dL_law_622 dL_law_623 rfl dL_law_624 dL_law_625 ?_
  refine lw_ld (j := 3) C0 hS hl hi hL (by decide) dL_law_626 dL_law_627 dL_law_628 rfl dL_law_629 dL_law_630 ?_
  refine W.eq (g2 := F0 m 631 ls ([.int (xs (i + 1)), .int (xs (i + 2)), .int (xs (i + 3))].reverse ++ .ref (adx 0) :: [])) rfl ?_
  refine lw_callV (M' := mX10_meets) (as := [.int (xs (i + 1)), .int (xs (i + 2)), .int (xs (i + 3))]) (rest := []) C0 hW hS o1 c1 kL_77 (fun x hx => by simp only [List.mem_cons, List.not_mem_nil, or_false] at hx; rcases hx with rfl | rfl | rfl <;> exact ⟨_, rfl⟩) rfl (xW_at (by decide) xC0) rfl dL_law_631 hl.1 (by decide) ⟨Nat.le_of_ble_eq_true rfl, Nat.le_of_ble_eq_true rfl⟩ ?_
  rintro r w1 ad1 H1 locs1 ⟨v, σ', rfl, rfl, hP1⟩ had ok1 hW1 hS1
  rw [q_w_same (fun i hi => had i (by rw [xW_len] at hi ⊢; exact hi)) ok1] at hW1
  refine W.eq (g2 := F0 m 634 ls [.int v]) rfl ?_
  refine lv_aload_n hx hb dL_law_634 rfl (lv_at hl 2 rfl) ?_
  refine lw_ld (j := 1) C0 hS1 hl hi hL (by decide) dL_law_635 dL_law_636 dL_law_637 rfl dL_law_638 dL_law_639 ?_
  refine lw_ld (j := 2) C0 hS1 hl hi hL (by decide) dL_law_640 dL_law_641 dL_law_642 rfl dL_law_643 dL_law_644 ?_
  refine lw_ld (j := 3) C0 hS1 hl hi hL (by decide) dL_law_645 dL_law_646 dL_law_647 rfl dL_law_648 dL_law_649 ?_
  refine W.eq (g2 := F0 m 650 ls ([.int (xs (i + 1)), .int (xs (i + 2)), .int (xs (i + 3))].reverse ++ .ref (adm 0) :: [.int v])) rfl ?_
  refine lw_callV (M' := mX11_meets) (as := [.int (xs (i + 1)), .int (xs (i + 2)), .int (xs (i + 3))]) (rest := [.int v]) C0 hW1.sw hS1 o2 c2 kL_80 (fun x hx => by simp only [List.mem_cons, List.not_mem_nil, or_false] at hx; rcases hx with rfl | rfl | rfl <;> exact ⟨_, rfl⟩) rfl mW_0 rfl dL_law_650 hl.1 (Nat.le_of_ble_eq_true rfl) ⟨Nat.le_of_ble_eq_true rfl, Nat.le_of_ble_eq_true rfl⟩ ?_
  rintro r w2 ad2 H2 locs2 ⟨v2, τ', t', rfl, rfl, hP2⟩ had2 ok2 hW2 hS2
  rw [q_w_same (fun i hi => had2 i (by rw [mW_len] at hi ⊢; exact hi)) ok2] at hW2
  obtain ⟨ev, hI⟩ := c3 v σ' v2 τ' hP1 hP2
  refine W.eq (g2 := F0 m 653 ls [.int v2, .int v]) rfl ?_
  refine lv_icmp_eq (tgt := 1100) hx hb dL_law_653 rfl (fun cc => ?_) (fun cc => absurd ev cc)
  exact hX σ' τ' t' H2 locs2 hI hW2.sw hS2 ok1 ok2
set_option maxHeartbeats 4000000 in
set_option maxRecDepth 100000 in
theorem law_told (C0 : LC p s m meth c b L xs D tc) (hl : lv_has ls 4 [(0, .ref b), (1, .ref (adx 0)), (2, .ref (adm 0)), (3, .int (nI i))]) (hi : i + 5 ≤ L) (hL : L ≤ 2560) (hN : N ≤ 10000) (HI : INV σ τ N) (hW : W2 D (lwA s) H (q_w tc adx (xW σ)) (q_w tc adm (mW τ t))) (hS : va_S (lwA s) s.heap H locs) (o1 : q_okw (xW σ)) (o2 : q_okw (mW τ t)) (hX : ∀ (σ' τ' : Nat → Nat → Int32) (t' : Nat → Int64) (H' : Heap) (locs' : List Loc), INV σ' τ' (N + 1) → W2 D (lwA s) H' (q_w tc adx (xW σ')) (q_w tc adm (mW τ' t')) → va_S (lwA s) s.heap H' locs' → q_okw (xW σ') → q_okw (mW τ' t') → W p l e room_1 s m #[Value.ref b] below meth c H' locs' 191 16496 (lw_Z below #[Value.ref b] s) (F0 m 1100 ls [])) : W p l e room_1 s m #[Value.ref b] below meth c H locs 191 16496 (lw_Z below #[Value.ref b] s) (F0 m 658 ls []) := by
  obtain ⟨P1, P2, c1, c2, c3⟩ := AG_told (l := l) (t := t) HI (xs (i + 1)) (xs (i + 2)) (xs (i + 3)) (xs (i + 4))
  obtain ⟨hx, hb, hr, hml, hown, hts, hX0, hbl, hlocks, hgv⟩ := C0.1
  refine lv_aload_n hx hb dL_law_658 rfl (lv_at hl 1 rfl) ?_
  refine lw_ld (j := 1) C0 hS hl hi hL (by decide) dL_law_659 dL_law_660 dL_law_661 rfl dL_law_662 dL_law_663 ?_
  refine lw_ld (j := 2) C0 hS hl hi hL (by decide) dL_law_664 dL_law_665 dL_law_666 rfl dL_law_667 dL_law_668 ?_
  refine lw_ld (j := 3) C0 hS hl hi hL (by decide) dL_law_669 dL_law_670 dL_law_671 rfl dL_law_672 dL_law_673 ?_
  refine lw_ld (j := 4) C0 hS hl hi hL (by decide) dL_law_674 dL_law_675 dL_law_676 rfl dL_law_677 dL_law_678 ?_
  refine W.eq (g2 := F0 m 679 ls ([.int (xs (i + 1)), .int (xs (i + 2)), .int (xs (i + 3)), .int (xs (i + 4))].reverse ++ .ref (adx 0) :: [])) rfl ?_
  refine lw_callV (M' := mX10_told) (as := [.int (xs (i + 1)), .int (xs (i + 2)), .int (xs (i + 3)), .int (xs (i + 4))]) (rest := []) C0 hW hS o1 c1 kL_81 (fun x hx => by simp only [List.mem_cons, List.not_mem_nil, or_false] at hx; rcases hx with rfl | rfl | rfl | rfl <;> exact ⟨_, rfl⟩) rfl (xW_at (by decide) xC0) rfl dL_law_679 hl.1 (by decide) ⟨Nat.le_of_ble_eq_true rfl, Nat.le_of_ble_eq_true rfl⟩ ?_
  rintro r w1 ad1 H1 locs1 ⟨v, σ', rfl, rfl, hP1⟩ had ok1 hW1 hS1
  rw [q_w_same (fun i hi => had i (by rw [xW_len] at hi ⊢; exact hi)) ok1] at hW1
  refine W.eq (g2 := F0 m 682 ls [.int v]) rfl ?_
  refine lv_aload_n hx hb dL_law_682 rfl (lv_at hl 2 rfl) ?_
  refine lw_ld (j := 1) C0 hS1 hl hi hL (by decide) dL_law_683 dL_law_684 dL_law_685 rfl dL_law_686 dL_law_687 ?_
  refine lw_ld (j := 2) C0 hS1 hl hi hL (by decide) dL_law_688 dL_law_689 dL_law_690 rfl dL_law_691 dL_law_692 ?_
  refine lw_ld (j := 3) C0 hS1 hl hi hL (by decide) dL_law_693 dL_law_694 dL_law_695 rfl dL_law_696 dL_law_697 ?_
  refine lw_ld (j := 4) C0 hS1 hl hi hL (by decide) dL_law_698 dL_law_699 dL_law_700 rfl dL_law_701 dL_law_702 ?_
  refine W.eq (g2 := F0 m 703 ls ([.int (xs (i + 1)), .int (xs (i + 2)), .int (xs (i + 3)), .int (xs (i + 4))].reverse ++ .ref (adm 0) :: [.int v])) rfl ?_
  refine lw_callV (M' := mX11_told) (as := [.int (xs (i + 1)), .int (xs (i + 2)), .int (xs (i + 3)), .int (xs (i + 4))]) (rest := [.int v]) C0 hW1.sw hS1 o2 c2 kL_85 (fun x hx => by simp only [List.mem_cons, List.not_mem_nil, or_false] at hx; rcases hx with rfl | rfl | rfl | rfl <;> exact ⟨_, rfl⟩) rfl mW_0 rfl dL_law_703 hl.1 (Nat.le_of_ble_eq_true rfl) ⟨Nat.le_of_ble_eq_true rfl, Nat.le_of_ble_eq_true rfl⟩ ?_
  rintro r w2 ad2 H2 locs2 ⟨v2, τ', t', rfl, rfl, hP2⟩ had2 ok2 hW2 hS2
  rw [q_w_same (fun i hi => had2 i (by rw [mW_len] at hi ⊢; exact hi)) ok2] at hW2
  obtain ⟨ev, hI⟩ := c3 v σ' v2 τ' hP1 hP2
  refine W.eq (g2 := F0 m 706 ls [.int v2, .int v]) rfl ?_
  refine lv_icmp_eq (tgt := 1100) hx hb dL_law_706 rfl (fun cc => ?_) (fun cc => absurd ev cc)
  exact hX σ' τ' t' H2 locs2 hI hW2.sw hS2 ok1 ok2
set_option maxHeartbeats 4000000 in
set_option maxRecDepth 100000 in
theorem law_sum (C0 : LC p s m meth c b L xs D tc) (hl : lv_has ls 4 [(0, .ref b), (1, .ref (adx 0)), (2, .ref (adm 0)), (3, .int (nI i))]) (hi : i + 5 ≤ L) (hL : L ≤ 2560) (hN : N ≤ 10000) (HI : INV σ τ N) (hW : W2 D (lwA s) H (q_w tc adx (xW σ)) (q_w tc adm (mW τ t))) (hS : va_S (lwA s) s.heap H locs) (o1 : q_okw (xW σ)) (o2 : q_okw (mW τ t)) (hX : ∀ (σ' τ' : Nat → Nat → Int32) (t' : Nat → Int64) (H' : Heap) (locs' : List Loc), INV σ' τ' (N + 1) → W2 D (lwA s) H' (q_w tc adx (xW σ')) (q_w tc adm (mW τ' t')) → va_S (lwA s) s.heap H' locs' → q_okw (xW σ') → q_okw (mW τ' t') → W p l e room_1 s m #[Value.ref b] below meth c H' locs' 191 16496 (lw_Z below #[Value.ref b] s) (F0 m 1100 ls [])) : W p l e room_1 s m #[Value.ref b] below meth c H locs 191 16496 (lw_Z below #[Value.ref b] s) (F0 m 711 ls []) := by
  obtain ⟨P1, P2, c1, c2, c3⟩ := AG_sum (l := l) (t := t) HI (xs (i + 1)) (xs (i + 2))
  obtain ⟨hx, hb, hr, hml, hown, hts, hX0, hbl, hlocks, hgv⟩ := C0.1
  refine lv_aload_n hx hb dL_law_711 rfl (lv_at hl 1 rfl) ?_
  refine lw_ld (j := 1) C0 hS hl hi hL (by decide) dL_law_712 dL_law_713 dL_law_714 rfl dL_law_715 dL_law_716 ?_
  refine lw_ld (j := 2) C0 hS hl hi hL (by decide) dL_law_717 dL_law_718 dL_law_719 rfl dL_law_720 dL_law_721 ?_
  refine W.eq (g2 := F0 m 722 ls ([.int (xs (i + 1)), .int (xs (i + 2))].reverse ++ .ref (adx 0) :: [])) rfl ?_
  refine lw_callV (M' := mX10_sum) (as := [.int (xs (i + 1)), .int (xs (i + 2))]) (rest := []) C0 hW hS o1 c1 kL_86 (fun x hx => by simp only [List.mem_cons, List.not_mem_nil, or_false] at hx; rcases hx with rfl | rfl <;> exact ⟨_, rfl⟩) rfl (xW_at (by decide) xC0) rfl dL_law_722 hl.1 (by decide) ⟨Nat.le_of_ble_eq_true rfl, Nat.le_of_ble_eq_true rfl⟩ ?_
  rintro r w1 ad1 H1 locs1 ⟨v, σ', rfl, rfl, hP1⟩ had ok1 hW1 hS1
  rw [q_w_same (fun i hi => had i (by rw [xW_len] at hi ⊢; exact hi)) ok1] at hW1
  refine W.eq (g2 := F0 m 725 ls [.int v]) rfl ?_
  refine lv_aload_n hx hb dL_law_725 rfl (lv_at hl 2 rfl) ?_
  refine lw_ld (j := 1) C0 hS1 hl hi hL (by decide) dL_law_726 dL_law_727 dL_law_728 rfl dL_law_729 dL_law_730 ?_
  refine lw_ld (j := 2) C0 hS1 hl hi hL (by decide) dL_law_731 dL_law_732 dL_law_733 rfl dL_law_734 dL_law_735 ?_
  refine W.eq (g2 := F0 m 736 ls ([.int (xs (i + 1)), .int (xs (i + 2))].reverse ++ .ref (adm 0) :: [.int v])) rfl ?_
  refine lw_callV (M' := mX11_sum) (as := [.int (xs (i + 1)), .int (xs (i + 2))]) (rest := [.int v]) C0 hW1.sw hS1 o2 c2 kL_89 (fun x hx => by simp only [List.mem_cons, List.not_mem_nil, or_false] at hx; rcases hx with rfl | rfl <;> exact ⟨_, rfl⟩) rfl mW_0 rfl dL_law_736 hl.1 (Nat.le_of_ble_eq_true rfl) ⟨Nat.le_of_ble_eq_true rfl, Nat.le_of_ble_eq_true rfl⟩ ?_
  rintro r w2 ad2 H2 locs2 ⟨v2, τ', t', rfl, rfl, hP2⟩ had2 ok2 hW2 hS2
  rw [q_w_same (fun i hi => had2 i (by rw [mW_len] at hi ⊢; exact hi)) ok2] at hW2
  obtain ⟨ev, hI⟩ := c3 v σ' v2 τ' hP1 hP2
  refine W.eq (g2 := F0 m 739 ls [.int v2, .int v]) rfl ?_
  refine lv_icmp_eq (tgt := 1100) hx hb dL_law_739 rfl (fun cc => ?_) (fun cc => absurd ev cc)
  exact hX σ' τ' t' H2 locs2 hI hW2.sw hS2 ok1 ok2
set_option maxHeartbeats 4000000 in
set_option maxRecDepth 100000 in
theorem law_product (C0 : LC p s m meth c b L xs D tc) (hl : lv_has ls 4 [(0, .ref b), (1, .ref (adx 0)), (2, .ref (adm 0)), (3, .int (nI i))]) (hi : i + 5 ≤ L) (hL : L ≤ 2560) (hN : N ≤ 10000) (HI : INV σ τ N) (hW : W2 D (lwA s) H (q_w tc adx (xW σ)) (q_w tc adm (mW τ t))) (hS : va_S (lwA s) s.heap H locs) (o1 : q_okw (xW σ)) (o2 : q_okw (mW τ t)) (hX : ∀ (σ' τ' : Nat → Nat → Int32) (t' : Nat → Int64) (H' : Heap) (locs' : List Loc), INV σ' τ' (N + 1) → W2 D (lwA s) H' (q_w tc adx (xW σ')) (q_w tc adm (mW τ' t')) → va_S (lwA s) s.heap H' locs' → q_okw (xW σ') → q_okw (mW τ' t') → W p l e room_1 s m #[Value.ref b] below meth c H' locs' 191 16496 (lw_Z below #[Value.ref b] s) (F0 m 1100 ls [])) : W p l e room_1 s m #[Value.ref b] below meth c H locs 191 16496 (lw_Z below #[Value.ref b] s) (F0 m 744 ls []) := by
  obtain ⟨P1, P2, c1, c2, c3⟩ := AG_product (l := l) (t := t) HI (xs (i + 1)) (xs (i + 2))
  obtain ⟨hx, hb, hr, hml, hown, hts, hX0, hbl, hlocks, hgv⟩ := C0.1
  refine lv_aload_n hx hb dL_law_744 rfl (lv_at hl 1 rfl) ?_
  refine lw_ld (j := 1) C0 hS hl hi hL (by decide) dL_law_745 dL_law_746 dL_law_747 rfl dL_law_748 dL_law_749 ?_
  refine lw_ld (j := 2) C0 hS hl hi hL (by decide) dL_law_750 dL_law_751 dL_law_752 rfl dL_law_753 dL_law_754 ?_
  refine W.eq (g2 := F0 m 755 ls ([.int (xs (i + 1)), .int (xs (i + 2))].reverse ++ .ref (adx 0) :: [])) rfl ?_
  refine lw_callV (M' := mX10_product) (as := [.int (xs (i + 1)), .int (xs (i + 2))]) (rest := []) C0 hW hS o1 c1 kL_90 (fun x hx => by simp only [List.mem_cons, List.not_mem_nil, or_false] at hx; rcases hx with rfl | rfl <;> exact ⟨_, rfl⟩) rfl (xW_at (by decide) xC0) rfl dL_law_755 hl.1 (by decide) ⟨Nat.le_of_ble_eq_true rfl, Nat.le_of_ble_eq_true rfl⟩ ?_
  rintro r w1 ad1 H1 locs1 ⟨v, σ', rfl, rfl, hP1⟩ had ok1 hW1 hS1
  rw [q_w_same (fun i hi => had i (by rw [xW_len] at hi ⊢; exact hi)) ok1] at hW1
  refine W.eq (g2 := F0 m 758 ls [.int v]) rfl ?_
  refine lv_aload_n hx hb dL_law_758 rfl (lv_at hl 2 rfl) ?_
  refine lw_ld (j := 1) C0 hS1 hl hi hL (by decide) dL_law_759 dL_law_760 dL_law_761 rfl dL_law_762 dL_law_763 ?_
  refine lw_ld (j := 2) C0 hS1 hl hi hL (by decide) dL_law_764 dL_law_765 dL_law_766 rfl dL_law_767 dL_law_768 ?_
  refine W.eq (g2 := F0 m 769 ls ([.int (xs (i + 1)), .int (xs (i + 2))].reverse ++ .ref (adm 0) :: [.int v])) rfl ?_
  refine lw_callV (M' := mX11_product) (as := [.int (xs (i + 1)), .int (xs (i + 2))]) (rest := [.int v]) C0 hW1.sw hS1 o2 c2 kL_93 (fun x hx => by simp only [List.mem_cons, List.not_mem_nil, or_false] at hx; rcases hx with rfl | rfl <;> exact ⟨_, rfl⟩) rfl mW_0 rfl dL_law_769 hl.1 (Nat.le_of_ble_eq_true rfl) ⟨Nat.le_of_ble_eq_true rfl, Nat.le_of_ble_eq_true rfl⟩ ?_
  rintro r w2 ad2 H2 locs2 ⟨v2, τ', t', rfl, rfl, hP2⟩ had2 ok2 hW2 hS2
  rw [q_w_same (fun i hi => had2 i (by rw [mW_len] at hi ⊢; exact hi)) ok2] at hW2
  obtain ⟨ev, hI⟩ := c3 v σ' v2 τ' hP1 hP2
  refine W.eq (g2 := F0 m 772 ls [.int v2, .int v]) rfl ?_
  refine lv_icmp_eq (tgt := 1100) hx hb dL_law_772 rfl (fun cc => ?_) (fun cc => absurd ev cc)
  exact hX σ' τ' t' H2 locs2 hI hW2.sw hS2 ok1 ok2
set_option maxHeartbeats 4000000 in
set_option maxRecDepth 100000 in
theorem law_each (C0 : LC p s m meth c b L xs D tc) (hl : lv_has ls 4 [(0, .ref b), (1, .ref (adx 0)), (2, .ref (adm 0)), (3, .int (nI i))]) (hi : i + 5 ≤ L) (hL : L ≤ 2560) (hN : N ≤ 10000) (HI : INV σ τ N) (hW : W2 D (lwA s) H (q_w tc adx (xW σ)) (q_w tc adm (mW τ t))) (hS : va_S (lwA s) s.heap H locs) (o1 : q_okw (xW σ)) (o2 : q_okw (mW τ t)) (hX : ∀ (σ' τ' : Nat → Nat → Int32) (t' : Nat → Int64) (H' : Heap) (locs' : List Loc), INV σ' τ' (N + 1) → W2 D (lwA s) H' (q_w tc adx (xW σ')) (q_w tc adm (mW τ' t')) → va_S (lwA s) s.heap H' locs' → q_okw (xW σ') → q_okw (mW τ' t') → W p l e room_1 s m #[Value.ref b] below meth c H' locs' 191 16496 (lw_Z below #[Value.ref b] s) (F0 m 1100 ls [])) : W p l e room_1 s m #[Value.ref b] below meth c H locs 191 16496 (lw_Z below #[Value.ref b] s) (F0 m 777 ls []) := by
  obtain ⟨P1, P2, c1, c2, c3⟩ := AG_each (l := l) (t := t) HI (xs (i + 1)) (xs (i + 2)) (xs (i + 3))
  obtain ⟨hx, hb, hr, hml, hown, hts, hX0, hbl, hlocks, hgv⟩ := C0.1
  refine lv_aload_n hx hb dL_law_777 rfl (lv_at hl 1 rfl) ?_
  refine lw_ld (j := 1) C0 hS hl hi hL (by decide) dL_law_778 dL_law_779 dL_law_780 rfl dL_law_781 dL_law_782 ?_
  refine lw_ld (j := 2) C0 hS hl hi hL (by decide) dL_law_783 dL_law_784 dL_law_785 rfl dL_law_786 dL_law_787 ?_
  refine lw_ld (j := 3) C0 hS hl hi hL (by decide) dL_law_788 dL_law_789 dL_law_790 rfl dL_law_791 dL_law_792 ?_
  refine W.eq (g2 := F0 m 793 ls ([.int (xs (i + 1)), .int (xs (i + 2)), .int (xs (i + 3))].reverse ++ .ref (adx 0) :: [])) rfl ?_
  refine lw_callV (M' := mX10_each) (as := [.int (xs (i + 1)), .int (xs (i + 2)), .int (xs (i + 3))]) (rest := []) C0 hW hS o1 c1 kL_94 (fun x hx => by simp only [List.mem_cons, List.not_mem_nil, or_false] at hx; rcases hx with rfl | rfl | rfl <;> exact ⟨_, rfl⟩) rfl (xW_at (by decide) xC0) rfl dL_law_793 hl.1 (by decide) ⟨Nat.le_of_ble_eq_true rfl, Nat.le_of_ble_eq_true rfl⟩ ?_
  rintro r w1 ad1 H1 locs1 ⟨v, σ', rfl, rfl, hP1⟩ had ok1 hW1 hS1
  rw [q_w_same (fun i hi => had i (by rw [xW_len] at hi ⊢; exact hi)) ok1] at hW1
  refine W.eq (g2 := F0 m 796 ls [.int v]) rfl ?_
  refine lv_aload_n hx hb dL_law_796 rfl (lv_at hl 2 rfl) ?_
  refine lw_ld (j := 1) C0 hS1 hl hi hL (by decide) dL_law_797 dL_law_798 dL_law_799 rfl dL_law_800 dL_law_801 ?_
  refine lw_ld (j := 2) C0 hS1 hl hi hL (by decide) dL_law_802 dL_law_803 dL_law_804 rfl dL_law_805 dL_law_806 ?_
  refine lw_ld (j := 3) C0 hS1 hl hi hL (by decide) dL_law_807 dL_law_808 dL_law_809 rfl dL_law_810 dL_law_811 ?_
  refine W.eq (g2 := F0 m 812 ls ([.int (xs (i + 1)), .int (xs (i + 2)), .int (xs (i + 3))].reverse ++ .ref (adm 0) :: [.int v])) rfl ?_
  refine lw_callV (M' := mX11_each) (as := [.int (xs (i + 1)), .int (xs (i + 2)), .int (xs (i + 3))]) (rest := [.int v]) C0 hW1.sw hS1 o2 c2 kL_97 (fun x hx => by simp only [List.mem_cons, List.not_mem_nil, or_false] at hx; rcases hx with rfl | rfl | rfl <;> exact ⟨_, rfl⟩) rfl mW_0 rfl dL_law_812 hl.1 (Nat.le_of_ble_eq_true rfl) ⟨Nat.le_of_ble_eq_true rfl, Nat.le_of_ble_eq_true rfl⟩ ?_
  rintro r w2 ad2 H2 locs2 ⟨v2, τ', t', rfl, rfl, hP2⟩ had2 ok2 hW2 hS2
  rw [q_w_same (fun i hi => had2 i (by rw [mW_len] at hi ⊢; exact hi)) ok2] at hW2
  obtain ⟨ev, hI⟩ := c3 v σ' v2 τ' hP1 hP2
  refine W.eq (g2 := F0 m 815 ls [.int v2, .int v]) rfl ?_
  refine lv_icmp_eq (tgt := 1100) hx hb dL_law_815 rfl (fun cc => ?_) (fun cc => absurd ev cc)
  exact hX σ' τ' t' H2 locs2 hI hW2.sw hS2 ok1 ok2
set_option maxHeartbeats 4000000 in
set_option maxRecDepth 100000 in
theorem law_step (C0 : LC p s m meth c b L xs D tc) (hl : lv_has ls 4 [(0, .ref b), (1, .ref (adx 0)), (2, .ref (adm 0)), (3, .int (nI i))]) (hi : i + 5 ≤ L) (hL : L ≤ 2560) (hN : N ≤ 10000) (HI : INV σ τ N) (hW : W2 D (lwA s) H (q_w tc adx (xW σ)) (q_w tc adm (mW τ t))) (hS : va_S (lwA s) s.heap H locs) (o1 : q_okw (xW σ)) (o2 : q_okw (mW τ t)) (hX : ∀ (σ' τ' : Nat → Nat → Int32) (t' : Nat → Int64) (H' : Heap) (locs' : List Loc), INV σ' τ' (N + 1) → W2 D (lwA s) H' (q_w tc adx (xW σ')) (q_w tc adm (mW τ' t')) → va_S (lwA s) s.heap H' locs' → q_okw (xW σ') → q_okw (mW τ' t') → W p l e room_1 s m #[Value.ref b] below meth c H' locs' 191 16496 (lw_Z below #[Value.ref b] s) (F0 m 1100 ls [])) : W p l e room_1 s m #[Value.ref b] below meth c H locs 191 16496 (lw_Z below #[Value.ref b] s) (F0 m 820 ls []) := by
  obtain ⟨P1, P2, c1, c2, c3⟩ := AG_step (l := l) (t := t) HI (xs (i + 1))
  obtain ⟨hx, hb, hr, hml, hown, hts, hX0, hbl, hlocks, hgv⟩ := C0.1
  refine lv_aload_n hx hb dL_law_820 rfl (lv_at hl 1 rfl) ?_
  refine lw_ld (j := 1) C0 hS hl hi hL (by decide) dL_law_821 dL_law_822 dL_law_823 rfl dL_law_824 dL_law_825 ?_
  refine W.eq (g2 := F0 m 826 ls ([.int (xs (i + 1))].reverse ++ .ref (adx 0) :: [])) rfl ?_
  refine lw_callV (M' := mX10_step) (as := [.int (xs (i + 1))]) (rest := []) C0 hW hS o1 c1 kL_98 (fun x hx => by simp only [List.mem_cons, List.not_mem_nil, or_false] at hx; rcases hx with rfl <;> exact ⟨_, rfl⟩) rfl (xW_at (by decide) xC0) rfl dL_law_826 hl.1 (by decide) ⟨Nat.le_of_ble_eq_true rfl, Nat.le_of_ble_eq_true rfl⟩ ?_
  rintro r w1 ad1 H1 locs1 ⟨v, σ', rfl, rfl, hP1⟩ had ok1 hW1 hS1
  rw [q_w_same (fun i hi => had i (by rw [xW_len] at hi ⊢; exact hi)) ok1] at hW1
  refine W.eq (g2 := F0 m 829 ls [.int v]) rfl ?_
  refine lv_aload_n hx hb dL_law_829 rfl (lv_at hl 2 rfl) ?_
  refine lw_ld (j := 1) C0 hS1 hl hi hL (by decide) dL_law_830 dL_law_831 dL_law_832 rfl dL_law_833 dL_law_834 ?_
  refine W.eq (g2 := F0 m 835 ls ([.int (xs (i + 1))].reverse ++ .ref (adm 0) :: [.int v])) rfl ?_
  refine lw_callV (M' := mX11_step) (as := [.int (xs (i + 1))]) (rest := [.int v]) C0 hW1.sw hS1 o2 c2 kL_101 (fun x hx => by simp only [List.mem_cons, List.not_mem_nil, or_false] at hx; rcases hx with rfl <;> exact ⟨_, rfl⟩) rfl mW_0 rfl dL_law_835 hl.1 (Nat.le_of_ble_eq_true rfl) ⟨Nat.le_of_ble_eq_true rfl, Nat.le_of_ble_eq_true rfl⟩ ?_
  rintro r w2 ad2 H2 locs2 ⟨v2, τ', t', rfl, rfl, hP2⟩ had2 ok2 hW2 hS2
  rw [q_w_same (fun i hi => had2 i (by rw [mW_len] at hi ⊢; exact hi)) ok2] at hW2
  obtain ⟨ev, hI⟩ := c3 v σ' v2 τ' hP1 hP2
  refine W.eq (g2 := F0 m 838 ls [.int v2, .int v]) rfl ?_
  refine lv_icmp_eq (tgt := 1100) hx hb dL_law_838 rfl (fun cc => ?_) (fun cc => absurd ev cc)
  exact hX σ' τ' t' H2 locs2 hI hW2.sw hS2 ok1 ok2
set_option maxHeartbeats 4000000 in
set_option maxRecDepth 100000 in
theorem law_put (C0 : LC p s m meth c b L xs D tc) (hl : lv_has ls 4 [(0, .ref b), (1, .ref (adx 0)), (2, .ref (adm 0)), (3, .int (nI i))]) (hi : i + 5 ≤ L) (hL : L ≤ 2560) (hN : N ≤ 10000) (HI : INV σ τ N) (hW : W2 D (lwA s) H (q_w tc adx (xW σ)) (q_w tc adm (mW τ t))) (hS : va_S (lwA s) s.heap H locs) (o1 : q_okw (xW σ)) (o2 : q_okw (mW τ t)) (hX : ∀ (σ' τ' : Nat → Nat → Int32) (t' : Nat → Int64) (H' : Heap) (locs' : List Loc), INV σ' τ' (N + 1) → W2 D (lwA s) H' (q_w tc adx (xW σ')) (q_w tc adm (mW τ' t')) → va_S (lwA s) s.heap H' locs' → q_okw (xW σ') → q_okw (mW τ' t') → W p l e room_1 s m #[Value.ref b] below meth c H' locs' 191 16496 (lw_Z below #[Value.ref b] s) (F0 m 1100 ls [])) : W p l e room_1 s m #[Value.ref b] below meth c H locs 191 16496 (lw_Z below #[Value.ref b] s) (F0 m 843 ls []) := by
  obtain ⟨P1, P2, c1, c2, c3⟩ := AG_put (l := l) (t := t) HI (xs (i + 1)) (xs (i + 2)) (xs (i + 3))
  obtain ⟨hx, hb, hr, hml, hown, hts, hX0, hbl, hlocks, hgv⟩ := C0.1
  refine lv_aload_n hx hb dL_law_843 rfl (lv_at hl 1 rfl) ?_
  refine lw_ld (j := 1) C0 hS hl hi hL (by decide) dL_law_844 dL_law_845 dL_law_846 rfl dL_law_847 dL_law_848 ?_
  refine lw_ld (j := 2) C0 hS hl hi hL (by decide) dL_law_849 dL_law_850 dL_law_851 rfl dL_law_852 dL_law_853 ?_
  refine lw_ld (j := 3) C0 hS hl hi hL (by decide) dL_law_854 dL_law_855 dL_law_856 rfl dL_law_857 dL_law_858 ?_
  refine W.eq (g2 := F0 m 859 ls ([.int (xs (i + 1)), .int (xs (i + 2)), .int (xs (i + 3))].reverse ++ .ref (adx 0) :: [])) rfl ?_
  refine lw_callV (M' := mX10_put) (as := [.int (xs (i + 1)), .int (xs (i + 2)), .int (xs (i + 3))]) (rest := []) C0 hW hS o1 c1 kL_102 (fun x hx => by simp only [List.mem_cons, List.not_mem_nil, or_false] at hx; rcases hx with rfl | rfl | rfl <;> exact ⟨_, rfl⟩) rfl (xW_at (by decide) xC0) rfl dL_law_859 hl.1 (by decide) ⟨Nat.le_of_ble_eq_true rfl, Nat.le_of_ble_eq_true rfl⟩ ?_
  rintro r w1 ad1 H1 locs1 ⟨v, σ', rfl, rfl, hP1⟩ had ok1 hW1 hS1
  rw [q_w_same (fun i hi => had i (by rw [xW_len] at hi ⊢; exact hi)) ok1] at hW1
  refine W.eq (g2 := F0 m 862 ls [.int v]) rfl ?_
  refine lv_aload_n hx hb dL_law_862 rfl (lv_at hl 2 rfl) ?_
  refine lw_ld (j := 1) C0 hS1 hl hi hL (by decide) dL_law_863 dL_law_864 dL_law_865 rfl dL_law_866 dL_law_867 ?_
  refine lw_ld (j := 2) C0 hS1 hl hi hL (by decide) dL_law_868 dL_law_869 dL_law_870 rfl dL_law_871 dL_law_872 ?_
  refine lw_ld (j := 3) C0 hS1 hl hi hL (by decide) dL_law_873 dL_law_874 dL_law_875 rfl dL_law_876 dL_law_877 ?_
  refine W.eq (g2 := F0 m 878 ls ([.int (xs (i + 1)), .int (xs (i + 2)), .int (xs (i + 3))].reverse ++ .ref (adm 0) :: [.int v])) rfl ?_
  refine lw_callV (M' := mX11_put) (as := [.int (xs (i + 1)), .int (xs (i + 2)), .int (xs (i + 3))]) (rest := [.int v]) C0 hW1.sw hS1 o2 c2 kL_105 (fun x hx => by simp only [List.mem_cons, List.not_mem_nil, or_false] at hx; rcases hx with rfl | rfl | rfl <;> exact ⟨_, rfl⟩) rfl mW_0 rfl dL_law_878 hl.1 (Nat.le_of_ble_eq_true rfl) ⟨Nat.le_of_ble_eq_true rfl, Nat.le_of_ble_eq_true rfl⟩ ?_
  rintro r w2 ad2 H2 locs2 ⟨v2, τ', t', rfl, rfl, hP2⟩ had2 ok2 hW2 hS2
  rw [q_w_same (fun i hi => had2 i (by rw [mW_len] at hi ⊢; exact hi)) ok2] at hW2
  obtain ⟨ev, hI⟩ := c3 v σ' v2 τ' hP1 hP2
  refine W.eq (g2 := F0 m 881 ls [.int v2, .int v]) rfl ?_
  refine lv_icmp_eq (tgt := 1100) hx hb dL_law_881 rfl (fun cc => ?_) (fun cc => absurd ev cc)
  exact hX σ' τ' t' H2 locs2 hI hW2.sw hS2 ok1 ok2
set_option maxHeartbeats 4000000 in
set_option maxRecDepth 100000 in
theorem law_drop (C0 : LC p s m meth c b L xs D tc) (hl : lv_has ls 4 [(0, .ref b), (1, .ref (adx 0)), (2, .ref (adm 0)), (3, .int (nI i))]) (hi : i + 5 ≤ L) (hL : L ≤ 2560) (hN : N ≤ 10000) (HI : INV σ τ N) (hW : W2 D (lwA s) H (q_w tc adx (xW σ)) (q_w tc adm (mW τ t))) (hS : va_S (lwA s) s.heap H locs) (o1 : q_okw (xW σ)) (o2 : q_okw (mW τ t)) (hX : ∀ (σ' τ' : Nat → Nat → Int32) (t' : Nat → Int64) (H' : Heap) (locs' : List Loc), INV σ' τ' (N + 1) → W2 D (lwA s) H' (q_w tc adx (xW σ')) (q_w tc adm (mW τ' t')) → va_S (lwA s) s.heap H' locs' → q_okw (xW σ') → q_okw (mW τ' t') → W p l e room_1 s m #[Value.ref b] below meth c H' locs' 191 16496 (lw_Z below #[Value.ref b] s) (F0 m 1100 ls [])) : W p l e room_1 s m #[Value.ref b] below meth c H locs 191 16496 (lw_Z below #[Value.ref b] s) (F0 m 886 ls []) := by
  obtain ⟨P1, P2, c1, c2, c3⟩ := AG_drop (l := l) (t := t) HI 
  obtain ⟨hx, hb, hr, hml, hown, hts, hX0, hbl, hlocks, hgv⟩ := C0.1
  refine lv_aload_n hx hb dL_law_886 rfl (lv_at hl 1 rfl) ?_
  refine W.eq (g2 := F0 m 887 ls ([].reverse ++ .ref (adx 0) :: [])) rfl ?_
  refine lw_callV (M' := mX10_drop) (as := []) (rest := []) C0 hW hS o1 c1 kL_106 (fun x hx => by cases hx) rfl (xW_at (by decide) xC0) rfl dL_law_887 hl.1 (by decide) ⟨Nat.le_of_ble_eq_true rfl, Nat.le_of_ble_eq_true rfl⟩ ?_
  rintro r w1 ad1 H1 locs1 ⟨v, σ', rfl, rfl, hP1⟩ had ok1 hW1 hS1
  rw [q_w_same (fun i hi => had i (by rw [xW_len] at hi ⊢; exact hi)) ok1] at hW1
  refine W.eq (g2 := F0 m 890 ls [.int v]) rfl ?_
  refine lv_aload_n hx hb dL_law_890 rfl (lv_at hl 2 rfl) ?_
  refine W.eq (g2 := F0 m 891 ls ([].reverse ++ .ref (adm 0) :: [.int v])) rfl ?_
  refine lw_callV (M' := mX11_drop) (as := []) (rest := [.int v]) C0 hW1.sw hS1 o2 c2 kL_109 (fun x hx => by cases hx) rfl mW_0 rfl dL_law_891 hl.1 (Nat.le_of_ble_eq_true rfl) ⟨Nat.le_of_ble_eq_true rfl, Nat.le_of_ble_eq_true rfl⟩ ?_
  rintro r w2 ad2 H2 locs2 ⟨v2, τ', t', rfl, rfl, hP2⟩ had2 ok2 hW2 hS2
  rw [q_w_same (fun i hi => had2 i (by rw [mW_len] at hi ⊢; exact hi)) ok2] at hW2
  obtain ⟨ev, hI⟩ := c3 v σ' v2 τ' hP1 hP2
  refine W.eq (g2 := F0 m 894 ls [.int v2, .int v]) rfl ?_
  refine lv_icmp_eq (tgt := 1100) hx hb dL_law_894 rfl (fun cc => ?_) (fun cc => absurd ev cc)
  exact hX σ' τ' t' H2 locs2 hI hW2.sw hS2 ok1 ok2
set_option maxHeartbeats 4000000 in
set_option maxRecDepth 100000 in
theorem law_ease (C0 : LC p s m meth c b L xs D tc) (hl : lv_has ls 4 [(0, .ref b), (1, .ref (adx 0)), (2, .ref (adm 0)), (3, .int (nI i))]) (hi : i + 5 ≤ L) (hL : L ≤ 2560) (hN : N ≤ 10000) (HI : INV σ τ N) (hW : W2 D (lwA s) H (q_w tc adx (xW σ)) (q_w tc adm (mW τ t))) (hS : va_S (lwA s) s.heap H locs) (o1 : q_okw (xW σ)) (o2 : q_okw (mW τ t)) (hX : ∀ (σ' τ' : Nat → Nat → Int32) (t' : Nat → Int64) (H' : Heap) (locs' : List Loc), INV σ' τ' (N + 1) → W2 D (lwA s) H' (q_w tc adx (xW σ')) (q_w tc adm (mW τ' t')) → va_S (lwA s) s.heap H' locs' → q_okw (xW σ') → q_okw (mW τ' t') → W p l e room_1 s m #[Value.ref b] below meth c H' locs' 191 16496 (lw_Z below #[Value.ref b] s) (F0 m 1100 ls [])) : W p l e room_1 s m #[Value.ref b] below meth c H locs 191 16496 (lw_Z below #[Value.ref b] s) (F0 m 899 ls []) := by
  obtain ⟨P1, P2, c1, c2, c3⟩ := AG_ease (l := l) (t := t) HI (xs (i + 1))
  obtain ⟨hx, hb, hr, hml, hown, hts, hX0, hbl, hlocks, hgv⟩ := C0.1
  refine lv_aload_n hx hb dL_law_899 rfl (lv_at hl 1 rfl) ?_
  refine lw_ld (j := 1) C0 hS hl hi hL (by decide) dL_law_900 dL_law_901 dL_law_902 rfl dL_law_903 dL_law_904 ?_
  refine W.eq (g2 := F0 m 905 ls ([.int (xs (i + 1))].reverse ++ .ref (adx 0) :: [])) rfl ?_
  refine lw_callV (M' := mX10_ease) (as := [.int (xs (i + 1))]) (rest := []) C0 hW hS o1 c1 kL_110 (fun x hx => by simp only [List.mem_cons, List.not_mem_nil, or_false] at hx; rcases hx with rfl <;> exact ⟨_, rfl⟩) rfl (xW_at (by decide) xC0) rfl dL_law_905 hl.1 (by decide) ⟨Nat.le_of_ble_eq_true rfl, Nat.le_of_ble_eq_true rfl⟩ ?_
  rintro r w1 ad1 H1 locs1 ⟨v, σ', rfl, rfl, hP1⟩ had ok1 hW1 hS1
  rw [q_w_same (fun i hi => had i (by rw [xW_len] at hi ⊢; exact hi)) ok1] at hW1
  refine W.eq (g2 := F0 m 908 ls [.int v]) rfl ?_
  refine lv_aload_n hx hb dL_law_908 rfl (lv_at hl 2 rfl) ?_
  refine lw_ld (j := 1) C0 hS1 hl hi hL (by decide) dL_law_909 dL_law_910 dL_law_911 rfl dL_law_912 dL_law_913 ?_
  refine W.eq (g2 := F0 m 914 ls ([.int (xs (i + 1))].reverse ++ .ref (adm 0) :: [.int v])) rfl ?_
  refine lw_callV (M' := mX11_ease) (as := [.int (xs (i + 1))]) (rest := [.int v]) C0 hW1.sw hS1 o2 c2 kL_113 (fun x hx => by simp only [List.mem_cons, List.not_mem_nil, or_false] at hx; rcases hx with rfl <;> exact ⟨_, rfl⟩) rfl mW_0 rfl dL_law_914 hl.1 (Nat.le_of_ble_eq_true rfl) ⟨Nat.le_of_ble_eq_true rfl, Nat.le_of_ble_eq_true rfl⟩ ?_
  rintro r w2 ad2 H2 locs2 ⟨v2, τ', t', rfl, rfl, hP2⟩ had2 ok2 hW2 hS2
  rw [q_w_same (fun i hi => had2 i (by rw [mW_len] at hi ⊢; exact hi)) ok2] at hW2
  obtain ⟨ev, hI⟩ := c3 v σ' v2 τ' hP1 hP2
  refine W.eq (g2 := F0 m 917 ls [.int v2, .int v]) rfl ?_
  refine lv_icmp_eq (tgt := 1100) hx hb dL_law_917 rfl (fun cc => ?_) (fun cc => absurd ev cc)
  exact hX σ' τ' t' H2 locs2 hI hW2.sw hS2 ok1 ok2
set_option maxHeartbeats 4000000 in
set_option maxRecDepth 100000 in
theorem law_give (C0 : LC p s m meth c b L xs D tc) (hl : lv_has ls 4 [(0, .ref b), (1, .ref (adx 0)), (2, .ref (adm 0)), (3, .int (nI i))]) (hi : i + 5 ≤ L) (hL : L ≤ 2560) (hN : N ≤ 10000) (HI : INV σ τ N) (hW : W2 D (lwA s) H (q_w tc adx (xW σ)) (q_w tc adm (mW τ t))) (hS : va_S (lwA s) s.heap H locs) (o1 : q_okw (xW σ)) (o2 : q_okw (mW τ t)) (hX : ∀ (σ' τ' : Nat → Nat → Int32) (t' : Nat → Int64) (H' : Heap) (locs' : List Loc), INV σ' τ' (N + 1) → W2 D (lwA s) H' (q_w tc adx (xW σ')) (q_w tc adm (mW τ' t')) → va_S (lwA s) s.heap H' locs' → q_okw (xW σ') → q_okw (mW τ' t') → W p l e room_1 s m #[Value.ref b] below meth c H' locs' 191 16496 (lw_Z below #[Value.ref b] s) (F0 m 1100 ls [])) : W p l e room_1 s m #[Value.ref b] below meth c H locs 191 16496 (lw_Z below #[Value.ref b] s) (F0 m 922 ls []) := by
  obtain ⟨P1, P2, c1, c2, c3⟩ := AG_give (l := l) (t := t) HI (xs (i + 1))
  obtain ⟨hx, hb, hr, hml, hown, hts, hX0, hbl, hlocks, hgv⟩ := C0.1
  refine lv_aload_n hx hb dL_law_922 rfl (lv_at hl 1 rfl) ?_
  refine lw_ld (j := 1) C0 hS hl hi hL (by decide) dL_law_923 dL_law_924 dL_law_925 rfl dL_law_926 dL_law_927 ?_
  refine W.eq (g2 := F0 m 928 ls ([.int (xs (i + 1))].reverse ++ .ref (adx 0) :: [])) rfl ?_
  refine lw_callV (M' := mX10_give) (as := [.int (xs (i + 1))]) (rest := []) C0 hW hS o1 c1 kL_114 (fun x hx => by simp only [List.mem_cons, List.not_mem_nil, or_false] at hx; rcases hx with rfl <;> exact ⟨_, rfl⟩) rfl (xW_at (by decide) xC0) rfl dL_law_928 hl.1 (by decide) ⟨Nat.le_of_ble_eq_true rfl, Nat.le_of_ble_eq_true rfl⟩ ?_
  rintro r w1 ad1 H1 locs1 ⟨v, σ', rfl, rfl, hP1⟩ had ok1 hW1 hS1
  rw [q_w_same (fun i hi => had i (by rw [xW_len] at hi ⊢; exact hi)) ok1] at hW1
  refine W.eq (g2 := F0 m 931 ls [.int v]) rfl ?_
  refine lv_aload_n hx hb dL_law_931 rfl (lv_at hl 2 rfl) ?_
  refine lw_ld (j := 1) C0 hS1 hl hi hL (by decide) dL_law_932 dL_law_933 dL_law_934 rfl dL_law_935 dL_law_936 ?_
  refine W.eq (g2 := F0 m 937 ls ([.int (xs (i + 1))].reverse ++ .ref (adm 0) :: [.int v])) rfl ?_
  refine lw_callV (M' := mX11_give) (as := [.int (xs (i + 1))]) (rest := [.int v]) C0 hW1.sw hS1 o2 c2 kL_117 (fun x hx => by simp only [List.mem_cons, List.not_mem_nil, or_false] at hx; rcases hx with rfl <;> exact ⟨_, rfl⟩) rfl mW_0 rfl dL_law_937 hl.1 (Nat.le_of_ble_eq_true rfl) ⟨Nat.le_of_ble_eq_true rfl, Nat.le_of_ble_eq_true rfl⟩ ?_
  rintro r w2 ad2 H2 locs2 ⟨v2, τ', t', rfl, rfl, hP2⟩ had2 ok2 hW2 hS2
  rw [q_w_same (fun i hi => had2 i (by rw [mW_len] at hi ⊢; exact hi)) ok2] at hW2
  obtain ⟨ev, hI⟩ := c3 v σ' v2 τ' hP1 hP2
  refine W.eq (g2 := F0 m 940 ls [.int v2, .int v]) rfl ?_
  refine lv_icmp_eq (tgt := 1100) hx hb dL_law_940 rfl (fun cc => ?_) (fun cc => absurd ev cc)
  exact hX σ' τ' t' H2 locs2 hI hW2.sw hS2 ok1 ok2
set_option maxHeartbeats 4000000 in
set_option maxRecDepth 100000 in
theorem law_forget (C0 : LC p s m meth c b L xs D tc) (hl : lv_has ls 4 [(0, .ref b), (1, .ref (adx 0)), (2, .ref (adm 0)), (3, .int (nI i))]) (hi : i + 5 ≤ L) (hL : L ≤ 2560) (hN : N ≤ 10000) (HI : INV σ τ N) (hW : W2 D (lwA s) H (q_w tc adx (xW σ)) (q_w tc adm (mW τ t))) (hS : va_S (lwA s) s.heap H locs) (o1 : q_okw (xW σ)) (o2 : q_okw (mW τ t)) (hX : ∀ (σ' τ' : Nat → Nat → Int32) (t' : Nat → Int64) (H' : Heap) (locs' : List Loc), INV σ' τ' (N + 1) → W2 D (lwA s) H' (q_w tc adx (xW σ')) (q_w tc adm (mW τ' t')) → va_S (lwA s) s.heap H' locs' → q_okw (xW σ') → q_okw (mW τ' t') → W p l e room_1 s m #[Value.ref b] below meth c H' locs' 191 16496 (lw_Z below #[Value.ref b] s) (F0 m 1100 ls [])) : W p l e room_1 s m #[Value.ref b] below meth c H locs 191 16496 (lw_Z below #[Value.ref b] s) (F0 m 945 ls []) := by
  obtain ⟨P1, P2, c1, c2, c3⟩ := AG_forget (l := l) (t := t) HI 
  obtain ⟨hx, hb, hr, hml, hown, hts, hX0, hbl, hlocks, hgv⟩ := C0.1
  refine lv_aload_n hx hb dL_law_945 rfl (lv_at hl 1 rfl) ?_
  refine W.eq (g2 := F0 m 946 ls ([].reverse ++ .ref (adx 0) :: [])) rfl ?_
  refine lw_callV (M' := mX10_forget) (as := []) (rest := []) C0 hW hS o1 c1 kL_118 (fun x hx => by cases hx) rfl (xW_at (by decide) xC0) rfl dL_law_946 hl.1 (by decide) ⟨Nat.le_of_ble_eq_true rfl, Nat.le_of_ble_eq_true rfl⟩ ?_
  rintro r w1 ad1 H1 locs1 ⟨v, σ', rfl, rfl, hP1⟩ had ok1 hW1 hS1
  rw [q_w_same (fun i hi => had i (by rw [xW_len] at hi ⊢; exact hi)) ok1] at hW1
  refine W.eq (g2 := F0 m 949 ls [.int v]) rfl ?_
  refine lv_aload_n hx hb dL_law_949 rfl (lv_at hl 2 rfl) ?_
  refine W.eq (g2 := F0 m 950 ls ([].reverse ++ .ref (adm 0) :: [.int v])) rfl ?_
  refine lw_callV (M' := mX11_forget) (as := []) (rest := [.int v]) C0 hW1.sw hS1 o2 c2 kL_121 (fun x hx => by cases hx) rfl mW_0 rfl dL_law_950 hl.1 (Nat.le_of_ble_eq_true rfl) ⟨Nat.le_of_ble_eq_true rfl, Nat.le_of_ble_eq_true rfl⟩ ?_
  rintro r w2 ad2 H2 locs2 ⟨v2, τ', t', rfl, rfl, hP2⟩ had2 ok2 hW2 hS2
  rw [q_w_same (fun i hi => had2 i (by rw [mW_len] at hi ⊢; exact hi)) ok2] at hW2
  obtain ⟨ev, hI⟩ := c3 v σ' v2 τ' hP1 hP2
  refine W.eq (g2 := F0 m 953 ls [.int v2, .int v]) rfl ?_
  refine lv_icmp_eq (tgt := 1100) hx hb dL_law_953 rfl (fun cc => ?_) (fun cc => absurd ev cc)
  exact hX σ' τ' t' H2 locs2 hI hW2.sw hS2 ok1 ok2
set_option maxHeartbeats 4000000 in
set_option maxRecDepth 100000 in
theorem law_guess (C0 : LC p s m meth c b L xs D tc) (hl : lv_has ls 4 [(0, .ref b), (1, .ref (adx 0)), (2, .ref (adm 0)), (3, .int (nI i))]) (hi : i + 5 ≤ L) (hL : L ≤ 2560) (hN : N ≤ 10000) (HI : INV σ τ N) (hW : W2 D (lwA s) H (q_w tc adx (xW σ)) (q_w tc adm (mW τ t))) (hS : va_S (lwA s) s.heap H locs) (o1 : q_okw (xW σ)) (o2 : q_okw (mW τ t)) (hX : ∀ (σ' τ' : Nat → Nat → Int32) (t' : Nat → Int64) (H' : Heap) (locs' : List Loc), INV σ' τ' (N + 1) → W2 D (lwA s) H' (q_w tc adx (xW σ')) (q_w tc adm (mW τ' t')) → va_S (lwA s) s.heap H' locs' → q_okw (xW σ') → q_okw (mW τ' t') → W p l e room_1 s m #[Value.ref b] below meth c H' locs' 191 16496 (lw_Z below #[Value.ref b] s) (F0 m 1100 ls [])) : W p l e room_1 s m #[Value.ref b] below meth c H locs 191 16496 (lw_Z below #[Value.ref b] s) (F0 m 958 ls []) := by
  obtain ⟨P1, P2, c1, c2, c3⟩ := AG_guess (l := l) (t := t) HI (xs (i + 1))
  obtain ⟨hx, hb, hr, hml, hown, hts, hX0, hbl, hlocks, hgv⟩ := C0.1
  refine lv_aload_n hx hb dL_law_958 rfl (lv_at hl 1 rfl) ?_
  refine lw_ld (j := 1) C0 hS hl hi hL (by decide) dL_law_959 dL_law_960 dL_law_961 rfl dL_law_962 dL_law_963 ?_
  refine W.eq (g2 := F0 m 964 ls ([.int (xs (i + 1))].reverse ++ .ref (adx 0) :: [])) rfl ?_
  refine lw_callV (M' := mX10_guess) (as := [.int (xs (i + 1))]) (rest := []) C0 hW hS o1 c1 kL_122 (fun x hx => by simp only [List.mem_cons, List.not_mem_nil, or_false] at hx; rcases hx with rfl <;> exact ⟨_, rfl⟩) rfl (xW_at (by decide) xC0) rfl dL_law_964 hl.1 (by decide) ⟨Nat.le_of_ble_eq_true rfl, Nat.le_of_ble_eq_true rfl⟩ ?_
  rintro r w1 ad1 H1 locs1 ⟨v, σ', rfl, rfl, hP1⟩ had ok1 hW1 hS1
  rw [q_w_same (fun i hi => had i (by rw [xW_len] at hi ⊢; exact hi)) ok1] at hW1
  refine W.eq (g2 := F0 m 967 ls [.int v]) rfl ?_
  refine lv_aload_n hx hb dL_law_967 rfl (lv_at hl 2 rfl) ?_
  refine lw_ld (j := 1) C0 hS1 hl hi hL (by decide) dL_law_968 dL_law_969 dL_law_970 rfl dL_law_971 dL_law_972 ?_
  refine W.eq (g2 := F0 m 973 ls ([.int (xs (i + 1))].reverse ++ .ref (adm 0) :: [.int v])) rfl ?_
  refine lw_callV (M' := mX11_guess) (as := [.int (xs (i + 1))]) (rest := [.int v]) C0 hW1.sw hS1 o2 c2 kL_125 (fun x hx => by simp only [List.mem_cons, List.not_mem_nil, or_false] at hx; rcases hx with rfl <;> exact ⟨_, rfl⟩) rfl mW_0 rfl dL_law_973 hl.1 (Nat.le_of_ble_eq_true rfl) ⟨Nat.le_of_ble_eq_true rfl, Nat.le_of_ble_eq_true rfl⟩ ?_
  rintro r w2 ad2 H2 locs2 ⟨v2, τ', t', rfl, rfl, hP2⟩ had2 ok2 hW2 hS2
  rw [q_w_same (fun i hi => had2 i (by rw [mW_len] at hi ⊢; exact hi)) ok2] at hW2
  obtain ⟨ev, hI⟩ := c3 v σ' v2 τ' hP1 hP2
  refine W.eq (g2 := F0 m 976 ls [.int v2, .int v]) rfl ?_
  refine lv_icmp_eq (tgt := 1100) hx hb dL_law_976 rfl (fun cc => ?_) (fun cc => absurd ev cc)
  exact hX σ' τ' t' H2 locs2 hI hW2.sw hS2 ok1 ok2
set_option maxHeartbeats 4000000 in
set_option maxRecDepth 100000 in
theorem law_found (C0 : LC p s m meth c b L xs D tc) (hl : lv_has ls 4 [(0, .ref b), (1, .ref (adx 0)), (2, .ref (adm 0)), (3, .int (nI i))]) (hi : i + 5 ≤ L) (hL : L ≤ 2560) (hN : N ≤ 10000) (HI : INV σ τ N) (hW : W2 D (lwA s) H (q_w tc adx (xW σ)) (q_w tc adm (mW τ t))) (hS : va_S (lwA s) s.heap H locs) (o1 : q_okw (xW σ)) (o2 : q_okw (mW τ t)) (hX : ∀ (σ' τ' : Nat → Nat → Int32) (t' : Nat → Int64) (H' : Heap) (locs' : List Loc), INV σ' τ' (N + 1) → W2 D (lwA s) H' (q_w tc adx (xW σ')) (q_w tc adm (mW τ' t')) → va_S (lwA s) s.heap H' locs' → q_okw (xW σ') → q_okw (mW τ' t') → W p l e room_1 s m #[Value.ref b] below meth c H' locs' 191 16496 (lw_Z below #[Value.ref b] s) (F0 m 1100 ls [])) : W p l e room_1 s m #[Value.ref b] below meth c H locs 191 16496 (lw_Z below #[Value.ref b] s) (F0 m 981 ls []) := by
  obtain ⟨P1, P2, c1, c2, c3⟩ := AG_found (l := l) (t := t) HI 
  obtain ⟨hx, hb, hr, hml, hown, hts, hX0, hbl, hlocks, hgv⟩ := C0.1
  refine lv_aload_n hx hb dL_law_981 rfl (lv_at hl 1 rfl) ?_
  refine W.eq (g2 := F0 m 982 ls ([].reverse ++ .ref (adx 0) :: [])) rfl ?_
  refine lw_callV (M' := mX10_found) (as := []) (rest := []) C0 hW hS o1 c1 kL_126 (fun x hx => by cases hx) rfl (xW_at (by decide) xC0) rfl dL_law_982 hl.1 (by decide) ⟨Nat.le_of_ble_eq_true rfl, Nat.le_of_ble_eq_true rfl⟩ ?_
  rintro r w1 ad1 H1 locs1 ⟨v, σ', rfl, rfl, hP1⟩ had ok1 hW1 hS1
  rw [q_w_same (fun i hi => had i (by rw [xW_len] at hi ⊢; exact hi)) ok1] at hW1
  refine W.eq (g2 := F0 m 985 ls [.int v]) rfl ?_
  refine lv_aload_n hx hb dL_law_985 rfl (lv_at hl 2 rfl) ?_
  refine W.eq (g2 := F0 m 986 ls ([].reverse ++ .ref (adm 0) :: [.int v])) rfl ?_
  refine lw_callV (M' := mX11_found) (as := []) (rest := [.int v]) C0 hW1.sw hS1 o2 c2 kL_129 (fun x hx => by cases hx) rfl mW_0 rfl dL_law_986 hl.1 (Nat.le_of_ble_eq_true rfl) ⟨Nat.le_of_ble_eq_true rfl, Nat.le_of_ble_eq_true rfl⟩ ?_
  rintro r w2 ad2 H2 locs2 ⟨v2, τ', t', rfl, rfl, hP2⟩ had2 ok2 hW2 hS2
  rw [q_w_same (fun i hi => had2 i (by rw [mW_len] at hi ⊢; exact hi)) ok2] at hW2
  obtain ⟨ev, hI⟩ := c3 v σ' v2 τ' hP1 hP2
  refine W.eq (g2 := F0 m 989 ls [.int v2, .int v]) rfl ?_
  refine lv_icmp_eq (tgt := 1100) hx hb dL_law_989 rfl (fun cc => ?_) (fun cc => absurd ev cc)
  exact hX σ' τ' t' H2 locs2 hI hW2.sw hS2 ok1 ok2
set_option maxHeartbeats 4000000 in
set_option maxRecDepth 100000 in
theorem law_drawn (C0 : LC p s m meth c b L xs D tc) (hl : lv_has ls 4 [(0, .ref b), (1, .ref (adx 0)), (2, .ref (adm 0)), (3, .int (nI i))]) (hi : i + 5 ≤ L) (hL : L ≤ 2560) (hN : N ≤ 10000) (HI : INV σ τ N) (hW : W2 D (lwA s) H (q_w tc adx (xW σ)) (q_w tc adm (mW τ t))) (hS : va_S (lwA s) s.heap H locs) (o1 : q_okw (xW σ)) (o2 : q_okw (mW τ t)) (hX : ∀ (σ' τ' : Nat → Nat → Int32) (t' : Nat → Int64) (H' : Heap) (locs' : List Loc), INV σ' τ' (N + 1) → W2 D (lwA s) H' (q_w tc adx (xW σ')) (q_w tc adm (mW τ' t')) → va_S (lwA s) s.heap H' locs' → q_okw (xW σ') → q_okw (mW τ' t') → W p l e room_1 s m #[Value.ref b] below meth c H' locs' 191 16496 (lw_Z below #[Value.ref b] s) (F0 m 1100 ls [])) : W p l e room_1 s m #[Value.ref b] below meth c H locs 191 16496 (lw_Z below #[Value.ref b] s) (F0 m 994 ls []) := by
  obtain ⟨P1, P2, c1, c2, c3⟩ := AG_drawn (l := l) (t := t) HI (xs (i + 1)) (xs (i + 2)) (xs (i + 3))
  obtain ⟨hx, hb, hr, hml, hown, hts, hX0, hbl, hlocks, hgv⟩ := C0.1
  refine lv_aload_n hx hb dL_law_994 rfl (lv_at hl 1 rfl) ?_
  refine lw_ld (j := 1) C0 hS hl hi hL (by decide) dL_law_995 dL_law_996 dL_law_997 rfl dL_law_998 dL_law_999 ?_
  refine lw_ld (j := 2) C0 hS hl hi hL (by decide) dL_law_1000 dL_law_1001 dL_law_1002 rfl dL_law_1003 dL_law_1004 ?_
  refine lw_ld (j := 3) C0 hS hl hi hL (by decide) dL_law_1005 dL_law_1006 dL_law_1007 rfl dL_law_1008 dL_law_1009 ?_
  refine W.eq (g2 := F0 m 1010 ls ([.int (xs (i + 1)), .int (xs (i + 2)), .int (xs (i + 3))].reverse ++ .ref (adx 0) :: [])) rfl ?_
  refine lw_callV (M' := mX10_drawn) (as := [.int (xs (i + 1)), .int (xs (i + 2)), .int (xs (i + 3))]) (rest := []) C0 hW hS o1 c1 kL_130 (fun x hx => by simp only [List.mem_cons, List.not_mem_nil, or_false] at hx; rcases hx with rfl | rfl | rfl <;> exact ⟨_, rfl⟩) rfl (xW_at (by decide) xC0) rfl dL_law_1010 hl.1 (by decide) ⟨Nat.le_of_ble_eq_true rfl, Nat.le_of_ble_eq_true rfl⟩ ?_
  rintro r w1 ad1 H1 locs1 ⟨v, σ', rfl, rfl, hP1⟩ had ok1 hW1 hS1
  rw [q_w_same (fun i hi => had i (by rw [xW_len] at hi ⊢; exact hi)) ok1] at hW1
  refine W.eq (g2 := F0 m 1013 ls [.int v]) rfl ?_
  refine lv_aload_n hx hb dL_law_1013 rfl (lv_at hl 2 rfl) ?_
  refine lw_ld (j := 1) C0 hS1 hl hi hL (by decide) dL_law_1014 dL_law_1015 dL_law_1016 rfl dL_law_1017 dL_law_1018 ?_
  refine lw_ld (j := 2) C0 hS1 hl hi hL (by decide) dL_law_1019 dL_law_1020 dL_law_1021 rfl dL_law_1022 dL_law_1023 ?_
  refine lw_ld (j := 3) C0 hS1 hl hi hL (by decide) dL_law_1024 dL_law_1025 dL_law_1026 rfl dL_law_1027 dL_law_1028 ?_
  refine W.eq (g2 := F0 m 1029 ls ([.int (xs (i + 1)), .int (xs (i + 2)), .int (xs (i + 3))].reverse ++ .ref (adm 0) :: [.int v])) rfl ?_
  refine lw_callV (M' := mX11_drawn) (as := [.int (xs (i + 1)), .int (xs (i + 2)), .int (xs (i + 3))]) (rest := [.int v]) C0 hW1.sw hS1 o2 c2 kL_133 (fun x hx => by simp only [List.mem_cons, List.not_mem_nil, or_false] at hx; rcases hx with rfl | rfl | rfl <;> exact ⟨_, rfl⟩) rfl mW_0 rfl dL_law_1029 hl.1 (Nat.le_of_ble_eq_true rfl) ⟨Nat.le_of_ble_eq_true rfl, Nat.le_of_ble_eq_true rfl⟩ ?_
  rintro r w2 ad2 H2 locs2 ⟨v2, τ', t', rfl, rfl, hP2⟩ had2 ok2 hW2 hS2
  rw [q_w_same (fun i hi => had2 i (by rw [mW_len] at hi ⊢; exact hi)) ok2] at hW2
  obtain ⟨ev, hI⟩ := c3 v σ' v2 τ' hP1 hP2
  refine W.eq (g2 := F0 m 1032 ls [.int v2, .int v]) rfl ?_
  refine lv_icmp_eq (tgt := 1100) hx hb dL_law_1032 rfl (fun cc => ?_) (fun cc => absurd ev cc)
  exact hX σ' τ' t' H2 locs2 hI hW2.sw hS2 ok1 ok2
set_option maxHeartbeats 4000000 in
set_option maxRecDepth 100000 in
theorem law_image (C0 : LC p s m meth c b L xs D tc) (hl : lv_has ls 4 [(0, .ref b), (1, .ref (adx 0)), (2, .ref (adm 0)), (3, .int (nI i))]) (hi : i + 5 ≤ L) (hL : L ≤ 2560) (hN : N ≤ 10000) (HI : INV σ τ N) (hW : W2 D (lwA s) H (q_w tc adx (xW σ)) (q_w tc adm (mW τ t))) (hS : va_S (lwA s) s.heap H locs) (o1 : q_okw (xW σ)) (o2 : q_okw (mW τ t)) (hX : ∀ (σ' τ' : Nat → Nat → Int32) (t' : Nat → Int64) (H' : Heap) (locs' : List Loc), INV σ' τ' (N + 1) → W2 D (lwA s) H' (q_w tc adx (xW σ')) (q_w tc adm (mW τ' t')) → va_S (lwA s) s.heap H' locs' → q_okw (xW σ') → q_okw (mW τ' t') → W p l e room_1 s m #[Value.ref b] below meth c H' locs' 191 16496 (lw_Z below #[Value.ref b] s) (F0 m 1100 ls [])) : W p l e room_1 s m #[Value.ref b] below meth c H locs 191 16496 (lw_Z below #[Value.ref b] s) (F0 m 1037 ls []) := by
  obtain ⟨P1, P2, c1, c2, c3⟩ := AG_image (l := l) (t := t) HI 
  obtain ⟨hx, hb, hr, hml, hown, hts, hX0, hbl, hlocks, hgv⟩ := C0.1
  refine lv_aload_n hx hb dL_law_1037 rfl (lv_at hl 1 rfl) ?_
  refine W.eq (g2 := F0 m 1038 ls ([].reverse ++ .ref (adx 0) :: [])) rfl ?_
  refine lw_callV (M' := mX10_image) (as := []) (rest := []) C0 hW hS o1 c1 kL_134 (fun x hx => by cases hx) rfl (xW_at (by decide) xC0) rfl dL_law_1038 hl.1 (by decide) ⟨Nat.le_of_ble_eq_true rfl, Nat.le_of_ble_eq_true rfl⟩ ?_
  rintro r w1 ad1 H1 locs1 ⟨v, σ', rfl, rfl, hP1⟩ had ok1 hW1 hS1
  rw [q_w_same (fun i hi => had i (by rw [xW_len] at hi ⊢; exact hi)) ok1] at hW1
  refine W.eq (g2 := F0 m 1041 ls [.int v]) rfl ?_
  refine lv_aload_n hx hb dL_law_1041 rfl (lv_at hl 2 rfl) ?_
  refine W.eq (g2 := F0 m 1042 ls ([].reverse ++ .ref (adm 0) :: [.int v])) rfl ?_
  refine lw_callV (M' := mX11_image) (as := []) (rest := [.int v]) C0 hW1.sw hS1 o2 c2 kL_137 (fun x hx => by cases hx) rfl mW_0 rfl dL_law_1042 hl.1 (Nat.le_of_ble_eq_true rfl) ⟨Nat.le_of_ble_eq_true rfl, Nat.le_of_ble_eq_true rfl⟩ ?_
  rintro r w2 ad2 H2 locs2 ⟨v2, τ', t', rfl, rfl, hP2⟩ had2 ok2 hW2 hS2
  rw [q_w_same (fun i hi => had2 i (by rw [mW_len] at hi ⊢; exact hi)) ok2] at hW2
  obtain ⟨ev, hI⟩ := c3 v σ' v2 τ' hP1 hP2
  refine W.eq (g2 := F0 m 1045 ls [.int v2, .int v]) rfl ?_
  refine lv_icmp_eq (tgt := 1100) hx hb dL_law_1045 rfl (fun cc => ?_) (fun cc => absurd ev cc)
  exact hX σ' τ' t' H2 locs2 hI hW2.sw hS2 ok1 ok2
set_option maxHeartbeats 4000000 in
set_option maxRecDepth 100000 in
theorem law_restore (C0 : LC p s m meth c b L xs D tc) (hl : lv_has ls 4 [(0, .ref b), (1, .ref (adx 0)), (2, .ref (adm 0)), (3, .int (nI i))]) (hi : i + 5 ≤ L) (hL : L ≤ 2560) (hN : N ≤ 10000) (HI : INV σ τ N) (hW : W2 D (lwA s) H (q_w tc adx (xW σ)) (q_w tc adm (mW τ t))) (hS : va_S (lwA s) s.heap H locs) (o1 : q_okw (xW σ)) (o2 : q_okw (mW τ t)) (hX : ∀ (σ' τ' : Nat → Nat → Int32) (t' : Nat → Int64) (H' : Heap) (locs' : List Loc), INV σ' τ' (N + 1) → W2 D (lwA s) H' (q_w tc adx (xW σ')) (q_w tc adm (mW τ' t')) → va_S (lwA s) s.heap H' locs' → q_okw (xW σ') → q_okw (mW τ' t') → W p l e room_1 s m #[Value.ref b] below meth c H' locs' 191 16496 (lw_Z below #[Value.ref b] s) (F0 m 1100 ls [])) : W p l e room_1 s m #[Value.ref b] below meth c H locs 191 16496 (lw_Z below #[Value.ref b] s) (F0 m 1050 ls []) := by
  obtain ⟨P1, P2, c1, c2, c3⟩ := AG_restore (l := l) (t := t) HI hN 
  obtain ⟨hx, hb, hr, hml, hown, hts, hX0, hbl, hlocks, hgv⟩ := C0.1
  refine lv_aload_n hx hb dL_law_1050 rfl (lv_at hl 1 rfl) ?_
  refine W.eq (g2 := F0 m 1051 ls ([].reverse ++ .ref (adx 0) :: [])) rfl ?_
  refine lw_callV (M' := mX10_restore) (as := []) (rest := []) C0 hW hS o1 c1 kL_138 (fun x hx => by cases hx) rfl (xW_at (by decide) xC0) rfl dL_law_1051 hl.1 (by decide) ⟨Nat.le_of_ble_eq_true rfl, Nat.le_of_ble_eq_true rfl⟩ ?_
  rintro r w1 ad1 H1 locs1 ⟨v, σ', rfl, rfl, hP1⟩ had ok1 hW1 hS1
  rw [q_w_same (fun i hi => had i (by rw [xW_len] at hi ⊢; exact hi)) ok1] at hW1
  refine W.eq (g2 := F0 m 1054 ls [.int v]) rfl ?_
  refine lv_aload_n hx hb dL_law_1054 rfl (lv_at hl 2 rfl) ?_
  refine W.eq (g2 := F0 m 1055 ls ([].reverse ++ .ref (adm 0) :: [.int v])) rfl ?_
  refine lw_callV (M' := mX11_restore) (as := []) (rest := [.int v]) C0 hW1.sw hS1 o2 c2 kL_141 (fun x hx => by cases hx) rfl mW_0 rfl dL_law_1055 hl.1 (Nat.le_of_ble_eq_true rfl) ⟨Nat.le_of_ble_eq_true rfl, Nat.le_of_ble_eq_true rfl⟩ ?_
  rintro r w2 ad2 H2 locs2 ⟨v2, τ', t', rfl, rfl, hP2⟩ had2 ok2 hW2 hS2
  rw [q_w_same (fun i hi => had2 i (by rw [mW_len] at hi ⊢; exact hi)) ok2] at hW2
  obtain ⟨ev, hI⟩ := c3 v σ' v2 τ' hP1 hP2
  refine W.eq (g2 := F0 m 1058 ls [.int v2, .int v]) rfl ?_
  refine lv_icmp_eq (tgt := 1100) hx hb dL_law_1058 rfl (fun cc => ?_) (fun cc => absurd ev cc)
  exact hX σ' τ' t' H2 locs2 hI hW2.sw hS2 ok1 ok2
set_option maxHeartbeats 4000000 in
set_option maxRecDepth 100000 in
theorem law_count (C0 : LC p s m meth c b L xs D tc) (hl : lv_has ls 4 [(0, .ref b), (1, .ref (adx 0)), (2, .ref (adm 0)), (3, .int (nI i))]) (hi : i + 5 ≤ L) (hL : L ≤ 2560) (hN : N ≤ 10000) (HI : INV σ τ N) (hW : W2 D (lwA s) H (q_w tc adx (xW σ)) (q_w tc adm (mW τ t))) (hS : va_S (lwA s) s.heap H locs) (o1 : q_okw (xW σ)) (o2 : q_okw (mW τ t)) (hX : ∀ (σ' τ' : Nat → Nat → Int32) (t' : Nat → Int64) (H' : Heap) (locs' : List Loc), INV σ' τ' (N + 1) → W2 D (lwA s) H' (q_w tc adx (xW σ')) (q_w tc adm (mW τ' t')) → va_S (lwA s) s.heap H' locs' → q_okw (xW σ') → q_okw (mW τ' t') → W p l e room_1 s m #[Value.ref b] below meth c H' locs' 191 16496 (lw_Z below #[Value.ref b] s) (F0 m 1100 ls [])) : W p l e room_1 s m #[Value.ref b] below meth c H locs 191 16496 (lw_Z below #[Value.ref b] s) (F0 m 1063 ls []) := by
  obtain ⟨P1, P2, c1, c2, c3⟩ := AG_count (l := l) (t := t) HI (xs (i + 1))
  obtain ⟨hx, hb, hr, hml, hown, hts, hX0, hbl, hlocks, hgv⟩ := C0.1
  refine lv_aload_n hx hb dL_law_1063 rfl (lv_at hl 1 rfl) ?_
  refine lw_ld (j := 1) C0 hS hl hi hL (by decide) dL_law_1064 dL_law_1065 dL_law_1066 rfl dL_law_1067 dL_law_1068 ?_
  refine W.eq (g2 := F0 m 1069 ls ([.int (xs (i + 1))].reverse ++ .ref (adx 0) :: [])) rfl ?_
  refine lw_callV (M' := mX10_count) (as := [.int (xs (i + 1))]) (rest := []) C0 hW hS o1 c1 kL_142 (fun x hx => by simp only [List.mem_cons, List.not_mem_nil, or_false] at hx; rcases hx with rfl <;> exact ⟨_, rfl⟩) rfl (xW_at (by decide) xC0) rfl dL_law_1069 hl.1 (by decide) ⟨Nat.le_of_ble_eq_true rfl, Nat.le_of_ble_eq_true rfl⟩ ?_
  rintro r w1 ad1 H1 locs1 ⟨v, σ', rfl, rfl, hP1⟩ had ok1 hW1 hS1
  rw [q_w_same (fun i hi => had i (by rw [xW_len] at hi ⊢; exact hi)) ok1] at hW1
  refine W.eq (g2 := F0 m 1072 ls [.int v]) rfl ?_
  refine lv_aload_n hx hb dL_law_1072 rfl (lv_at hl 2 rfl) ?_
  refine lw_ld (j := 1) C0 hS1 hl hi hL (by decide) dL_law_1073 dL_law_1074 dL_law_1075 rfl dL_law_1076 dL_law_1077 ?_
  refine W.eq (g2 := F0 m 1078 ls ([.int (xs (i + 1))].reverse ++ .ref (adm 0) :: [.int v])) rfl ?_
  refine lw_callV (M' := mX11_count) (as := [.int (xs (i + 1))]) (rest := [.int v]) C0 hW1.sw hS1 o2 c2 kL_145 (fun x hx => by simp only [List.mem_cons, List.not_mem_nil, or_false] at hx; rcases hx with rfl <;> exact ⟨_, rfl⟩) rfl mW_0 rfl dL_law_1078 hl.1 (Nat.le_of_ble_eq_true rfl) ⟨Nat.le_of_ble_eq_true rfl, Nat.le_of_ble_eq_true rfl⟩ ?_
  rintro r w2 ad2 H2 locs2 ⟨v2, τ', t', rfl, rfl, hP2⟩ had2 ok2 hW2 hS2
  rw [q_w_same (fun i hi => had2 i (by rw [mW_len] at hi ⊢; exact hi)) ok2] at hW2
  obtain ⟨ev, hI⟩ := c3 v σ' v2 τ' hP1 hP2
  refine W.eq (g2 := F0 m 1081 ls [.int v2, .int v]) rfl ?_
  refine lv_icmp_eq (tgt := 1100) hx hb dL_law_1081 rfl (fun cc => ?_) (fun cc => absurd ev cc)
  exact hX σ' τ' t' H2 locs2 hI hW2.sw hS2 ok1 ok2
set_option maxHeartbeats 4000000 in
set_option maxRecDepth 100000 in
theorem law_digest (C0 : LC p s m meth c b L xs D tc) (hl : lv_has ls 4 [(0, .ref b), (1, .ref (adx 0)), (2, .ref (adm 0)), (3, .int (nI i))]) (hi : i + 5 ≤ L) (hL : L ≤ 2560) (hN : N ≤ 10000) (HI : INV σ τ N) (hW : W2 D (lwA s) H (q_w tc adx (xW σ)) (q_w tc adm (mW τ t))) (hS : va_S (lwA s) s.heap H locs) (o1 : q_okw (xW σ)) (o2 : q_okw (mW τ t)) (hX : ∀ (σ' τ' : Nat → Nat → Int32) (t' : Nat → Int64) (H' : Heap) (locs' : List Loc), INV σ' τ' (N + 1) → W2 D (lwA s) H' (q_w tc adx (xW σ')) (q_w tc adm (mW τ' t')) → va_S (lwA s) s.heap H' locs' → q_okw (xW σ') → q_okw (mW τ' t') → W p l e room_1 s m #[Value.ref b] below meth c H' locs' 191 16496 (lw_Z below #[Value.ref b] s) (F0 m 1100 ls [])) : W p l e room_1 s m #[Value.ref b] below meth c H locs 191 16496 (lw_Z below #[Value.ref b] s) (F0 m 1086 ls []) := by
  obtain ⟨v, P1, P2, c1, c2, c3⟩ := AG_digest (l := l) (t := t) HI
  obtain ⟨hx, hb, hr, hml, hown, hts, hX0, hbl, hlocks, hgv⟩ := C0.1
  refine lv_aload_n hx hb dL_law_1086 rfl (lv_at hl 1 rfl) ?_
  refine W.eq (g2 := F0 m 1087 ls ([].reverse ++ .ref (adx 0) :: [])) rfl ?_
  refine lw_callV (M' := mX10_digest) (as := []) (rest := []) C0 hW hS o1 c1 kL_146 (fun x hx => by cases hx) rfl (xW_at (by decide) xC0) rfl dL_law_1087 hl.1 (by decide) ⟨Nat.le_of_ble_eq_true rfl, Nat.le_of_ble_eq_true rfl⟩ ?_
  rintro r w1 ad1 H1 locs1 ⟨σ', rfl, rfl, hP1⟩ had ok1 hW1 hS1
  rw [q_w_same (fun i hi => had i (by rw [xW_len] at hi ⊢; exact hi)) ok1] at hW1
  refine W.eq (g2 := F0 m 1090 ls [.long v]) rfl ?_
  refine lv_aload_n hx hb dL_law_1090 rfl (lv_at hl 2 rfl) ?_
  refine W.eq (g2 := F0 m 1091 ls ([].reverse ++ .ref (adm 0) :: [.long v])) rfl ?_
  refine lw_callV (M' := mX11_digest) (as := []) (rest := [.long v]) C0 hW1.sw hS1 o2 c2 kL_150 (fun x hx => by cases hx) rfl mW_0 rfl dL_law_1091 hl.1 (Nat.le_of_ble_eq_true rfl) ⟨Nat.le_of_ble_eq_true rfl, Nat.le_of_ble_eq_true rfl⟩ ?_
  rintro r w2 ad2 H2 locs2 ⟨τ', t', rfl, rfl, hP2⟩ had2 ok2 hW2 hS2
  rw [q_w_same (fun i hi => had2 i (by rw [mW_len] at hi ⊢; exact hi)) ok2] at hW2
  refine W.eq (g2 := F0 m 1094 ls [.long v, .long v]) rfl ?_
  refine W.lcmp hx hb dL_law_1094 ?_
  refine lv_if_eq (tgt := 1100) hx hb dL_law_1095 rfl (fun cc => ?_) (fun cc => absurd (cmp_eq.mpr rfl) cc)
  exact hX σ' τ' t' H2 locs2 (c3 σ' τ' hP1 hP2) hW2.sw hS2 ok1 ok2
end LWL
