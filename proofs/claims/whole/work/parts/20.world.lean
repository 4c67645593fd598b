def put (σ : Nat → Nat → Int32) (c k : Nat) (v : Int32) : Nat → Nat → Int32 := fun j => if j = c then upd (σ c) k v else σ j
def putC (σ : Nat → Nat → Int32) (c : Nat) (f : Nat → Int32) : Nat → Nat → Int32 := fun j => if j = c then f else σ j
theorem put_eq {σ : Nat → Nat → Int32} {c k : Nat} {v : Int32} : put σ c k v c = upd (σ c) k v := if_pos rfl
theorem put_ne {σ : Nat → Nat → Int32} {c k j : Nat} {v : Int32} (h : j ≠ c) : put σ c k v j = σ j := if_neg h
theorem putC_eq {σ : Nat → Nat → Int32} {c : Nat} {f : Nat → Int32} : putC σ c f c = f := if_pos rfl
theorem putC_ne {σ : Nat → Nat → Int32} {c j : Nat} {f : Nat → Int32} (h : j ≠ c) : putC σ c f j = σ j := if_neg h
theorem putC_put {σ : Nat → Nat → Int32} {c k : Nat} {v : Int32} : putC σ c (upd (σ c) k v) = put σ c k v := rfl
/-- the length of a row's table for the modulus 2 + i -/
def rnd (i : Nat) : Nat := [6, 24, 12, 120, 24, 336, 24, 72, 120].getD i 0
def xcell (c : Nat) (f : Nat → Int32) : q_Cel := match c with
  | 0 => .inr (8, [.ref 1, .ref 4, .ref 6, .ref 8, .ref 12, .ref 13, .ref 15, .ref 162, .ref 166, .ref 168, .ref 171, .int (f 11), .int (f 12)])
  | 1 => .inr (3, [.ref 2, .ref 3, .int (f 2)])
  | 2 => .inl (0, 8, .inl f)
  | 3 => .inl (0, 32, .inl f)
  | 4 => .inr (4, [.ref 5, .int (f 1)])
  | 5 => .inl (0, 8, .inl f)
  | 6 => .inr (4, [.ref 7, .int (f 1)])
  | 7 => .inl (0, 47, .inl f)
  | 8 => .inr (5, [.ref 9, .int (f 1), .int (f 2)])
  | 9 => .inr (3, [.ref 10, .ref 11, .int (f 2)])
  | 10 => .inl (0, 8, .inl f)
  | 11 => .inl (0, 32, .inl f)
  | 12 => .inr (2, [.int (f 0), .int (f 1), .int (f 2)])
  | 13 => .inr (7, [.ref 14, .int (f 1)])
  | 14 => .inl (0, 1608, .inl f)
  | 15 => .inr (6, [.ref 16, .ref 17])
  | 16 => .inl (3, 72, .inr (.inr (.inr (.inr (fun j => if j < 72 then some (18 + 2 * j) else none)))))
  | 17 => .inl (0, 9, .inl f)
  | 162 => .inr (0, [.ref 163, .ref 164, .ref 165, .int (f 3), .int (f 4)])
  | 163 => .inl (0, 17, .inl f)
  | 164 => .inl (0, 17, .inl f)
  | 165 => .inl (0, 17, .inl f)
  | 166 => .inr (1, [.int 5, .int 120, .ref 167])
  | 167 => .inl (0, 126, .inl f)
  | 168 => .inr (3, [.ref 169, .ref 170, .int (f 2)])
  | 169 => .inl (0, 8, .inl f)
  | 170 => .inl (0, 32, .inl f)
  | 171 => .inr (4, [.ref 172, .int (f 1)])
  | 172 => .inl (0, 8, .inl f)
  | c => if c % 2 = 0 then .inr (1, [.int (nI (2 + (c - 18) / 16)), .int (nI (rnd ((c - 18) / 16))), .ref (c + 1)]) else .inl (0, 6 + rnd ((c - 18) / 16), .inl f)
def xW (σ : Nat → Nat → Int32) : q_Wd := (List.range 173).map (fun c => xcell c (σ c))
theorem xW_at {σ : Nat → Nat → Int32} {c : Nat} {F : (Nat → Int32) → q_Cel} (hc : c < 173) (hT : ∀ f, xcell c f = F f) : (xW σ)[c]? = some (F (σ c)) := by
  simp [xW, List.getElem?_range, hc, hT]
theorem xW_len {σ : Nat → Nat → Int32} : (xW σ).length = 173 := by simp [xW]
theorem xW_set {σ : Nat → Nat → Int32} {c : Nat} {f : Nat → Int32} : (xW σ).set c (xcell c f) = xW (putC σ c f) := by
  apply List.ext_getElem?
  intro i
  rw [List.getElem?_set]
  by_cases h : c = i
  · subst h
    by_cases h2 : c < 173 <;> simp [xW, List.getElem?_range, h2, putC]
  · by_cases h2 : i < 173 <;> simp [xW, List.getElem?_range, h2, putC, h, Ne.symm h]
theorem xW_arr {σ : Nat → Nat → Int32} {c t n k : Nat} {v : Int32} (hT : ∀ f, xcell c f = .inl (t, n, .inl f)) : (xW σ).set c (.inl (t, n, .inl (upd (σ c) k v))) = xW (put σ c k v) := by
  rw [← hT, xW_set]; rfl
theorem xW_arrC {σ : Nat → Nat → Int32} {c t n : Nat} {f : Nat → Int32} (hT : ∀ f, xcell c f = .inl (t, n, .inl f)) : (xW σ).set c (.inl (t, n, .inl f)) = xW (putC σ c f) := by
  rw [← hT, xW_set]
theorem xW_obj {σ : Nat → Nat → Int32} {c ci k : Nat} {v : Int32} {F : (Nat → Int32) → List Value} (hT : ∀ f, xcell c f = .inr (ci, F f)) (hF : F (upd (σ c) k v) = (F (σ c)).set k (.int v)) : (xW σ).set c (.inr (ci, (F (σ c)).set k (.int v))) = xW (put σ c k v) := by
  rw [← hF, ← hT, xW_set]; rfl
def mfs (f : Nat → Int32) (t : Nat → Int64) : List Value := [.int (f 0), .ref 1, .ref 2, .int (f 3), .int (f 4), .ref 3, .int (f 6), .ref 4, .int (f 8), .int (f 9), .ref 5, .ref 6, .int (f 12), .int (f 13), .int (f 14), .ref 7, .ref 8, .ref 9, .ref 10, .ref 11, .ref 12, .ref 13, .ref 14, .int (f 23), .int (f 24), .long (t 25), .int (f 26), .int (f 27), .int (f 28), .ref 15, .ref 16, .ref 17, .long (t 32)]
def mcell (t : Nat → Int64) (c : Nat) (f : Nat → Int32) : q_Cel := match c with
  | 0 => .inr (9, mfs f t)
  | 1 => .inl (0, 9, .inl f)
  | 2 => .inl (0, 36, .inl f)
  | 3 => .inl (0, 8, .inl f)
  | 4 => .inl (1, 47, .inl f)
  | 5 => .inl (0, 8, .inl f)
  | 6 => .inl (0, 32, .inl f)
  | 7 => .inl (0, 1608, .inl f)
  | 8 => .inl (0, 9, .inl f)
  | 9 => .inl (0, 9, .inl f)
  | 10 => .inl (1, 4608, .inl f)
  | 11 => .inl (0, 100, .inl f)
  | 12 => .inl (0, 272, .inl f)
  | 13 => .inl (0, 17, .inl f)
  | 14 => .inl (2, 1000, .inl f)
  | 15 => .inl (0, 9, .inl f)
  | 16 => .inl (0, 36, .inl f)
  | _ => .inl (0, 8, .inl f)
def mW (σ : Nat → Nat → Int32) (t : Nat → Int64) : q_Wd := (List.range 18).map (fun c => mcell t c (σ c))
theorem mW_at {σ : Nat → Nat → Int32} {t : Nat → Int64} {c : Nat} {F : (Nat → Int32) → q_Cel} (hc : c < 18) (hT : ∀ f, mcell t c f = F f) : (mW σ t)[c]? = some (F (σ c)) := by
  simp [mW, List.getElem?_range, hc, hT]
theorem mW_0 {σ : Nat → Nat → Int32} {t : Nat → Int64} : (mW σ t)[0]? = some (.inr (9, mfs (σ 0) t)) := mW_at (F := fun f => .inr (9, mfs f t)) (by decide) (fun _ => rfl)
theorem mW_set {σ : Nat → Nat → Int32} {t : Nat → Int64} {c : Nat} {f : Nat → Int32} : (mW σ t).set c (mcell t c f) = mW (putC σ c f) t := by
  apply List.ext_getElem?
  intro i
  rw [List.getElem?_set]
  by_cases h : c = i
  · subst h
    by_cases h2 : c < 18 <;> simp [mW, List.getElem?_range, h2, putC]
  · by_cases h2 : i < 18 <;> simp [mW, List.getElem?_range, h2, putC, h, Ne.symm h]
theorem mW_arr {σ : Nat → Nat → Int32} {t : Nat → Int64} {c tg n k : Nat} {v : Int32} (hT : ∀ f, mcell t c f = .inl (tg, n, .inl f)) : (mW σ t).set c (.inl (tg, n, .inl (upd (σ c) k v))) = mW (put σ c k v) t := by
  rw [← hT, mW_set]; rfl
theorem mW_obj {σ : Nat → Nat → Int32} {t : Nat → Int64} {k : Nat} {v : Int32} (hF : mfs (upd (σ 0) k v) t = (mfs (σ 0) t).set k (.int v)) : (mW σ t).set 0 (.inr (9, (mfs (σ 0) t).set k (.int v))) = mW (put σ 0 k v) t := by
  rw [← hF]
  exact mW_set (c := 0) (f := upd (σ 0) k v)
theorem mW_lng {σ : Nat → Nat → Int32} {t : Nat → Int64} {k : Nat} {v : Int64} (hF : mfs (σ 0) (vp_updL t k v) = (mfs (σ 0) t).set k (.long v)) : (mW σ t).set 0 (.inr (9, (mfs (σ 0) t).set k (.long v))) = mW σ (vp_updL t k v) := by
  apply List.ext_getElem?
  intro i
  rw [List.getElem?_set]
  by_cases h : 0 = i
  · subst h
    simp only [mW, List.getElem?_map, List.getElem?_range, List.length_map, List.length_range]
    simp [← hF]; rfl
  · rw [if_neg h]
    by_cases h2 : i < 18
    · simp only [mW, List.getElem?_map, List.getElem?_range h2, Option.map_some]
      congr 1
      match i, h with
      | 0, h => exact absurd rfl h
      | 1, _ => rfl
      | 2, _ => rfl
      | 3, _ => rfl
      | 4, _ => rfl
      | 5, _ => rfl
      | 6, _ => rfl
      | 7, _ => rfl
      | 8, _ => rfl
      | 9, _ => rfl
      | 10, _ => rfl
      | 11, _ => rfl
      | 12, _ => rfl
      | 13, _ => rfl
      | 14, _ => rfl
      | 15, _ => rfl
      | 16, _ => rfl
      | i + 17, _ => rfl
    · simp [mW, List.getElem?_range, h2]
