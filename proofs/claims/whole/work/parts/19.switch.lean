theorem ne_toInt {x v : Int32} {z : Int} (hz : v.toInt = z) (h : x ≠ v) : x.toInt ≠ z := fun e => h (Int32.toInt_inj.mp (e.trans hz.symm))
section G7
variable {l : Launch} {M : q_M} {n0 : Nat} {Q : q_P} {k : Nat × Nat} {pc : Nat} {L : q_Ls} {st : List Value} {w : q_Wd}
theorem g_case {x : Int32} (v : Int32) (k1 : x = v → Go l M n0 Q k pc L (.int x :: st) w) (k2 : x ≠ v → Go l M n0 Q k pc L (.int x :: st) w) : Go l M n0 Q k pc L (.int x :: st) w := by
  by_cases h : x = v
  · exact k1 h
  · exact k2 h
theorem g_tblEq {dflt lo hi : Int} {offs : Array Int} {len : Nat} {x v : Int32} {off : Int} {tgt : Nat} (hd : decode M.2.2.1 pc = .ok (.tableswitch dflt lo hi offs, len)) (hx : x = v) (h1 : ¬ v.toInt < lo) (h2 : ¬ hi < v.toInt) (ho : offs[(v.toInt - lo).toNat]? = some off) (ht : (pc : Int) + off = (tgt : Int)) (kk : Go l M n0 Q k tgt L st w) : Go l M n0 Q k pc L (.int x :: st) w := by
  subst hx
  exact g_tableIn hd h1 h2 ho ht kk
theorem g_lkEq {dflt : Int} {ps : Array (Int × Int)} {len : Nat} {x v : Int32} {off : Int} {tgt : Nat} (hd : decode M.2.2.1 pc = .ok (.lookupswitch dflt ps, len)) (hx : x = v) (hp : (ps.toList.zip (ps.toList.drop 1)).all (fun (a, next) => a.1 < next.1) = true) (ho : Op.lookupswitch.offset ps.toList dflt v.toInt = off) (ht : (pc : Int) + off = (tgt : Int)) (kk : Go l M n0 Q k tgt L st w) : Go l M n0 Q k pc L (.int x :: st) w := by
  subst hx
  exact g_lookup hd hp ho ht kk
theorem lk_out : ∀ (ps : List (Int × Int)) (d z : Int), (∀ q ∈ ps, q.1 ≠ z) → Op.lookupswitch.offset ps d z = d
  | [], _, _, _ => rfl
  | (a, o) :: t, d, z, h => by
    have h1 : a ≠ z := h (a, o) List.mem_cons_self
    have ih := lk_out t d z (fun q hq => h q (List.mem_cons_of_mem _ hq))
    simp only [Op.lookupswitch.offset]
    first
    | (split <;> first | exact ih | (simp_all; done) | rfl | (exfalso; simp_all; omega))
    | simp_all
end G7
