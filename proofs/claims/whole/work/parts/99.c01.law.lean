/-! THE CLAIM OUT OF ONE WALK OF THE LAW'S BODY. Your part is whole_start (and what it stands on); all else here is the same for every law, but numbers. -/
def R_law : String := "AheadRowsLaw"
def lw_P (b : Addr) (xs : List Int32) (args : Array Value) (s : State) : Prop := args = #[.ref b] ∧ s.IntsAt b xs ∧ xs.length ≤ 2560 ∧ (Jvm.Cond.and given_1 narrow_1).before args s = true
def lw_Q (_ : Array Value) (s : State) (o : Outcome) (t : State) : Prop := o = .returned (some (.int 1)) ∧ Framed s o t [] 600000 7302250
def lw_Z (below : List Frame) (a : Array Value) (s : State) : State → Prop := fun t => ∃ o, t.status = .running ∧ Ended t below o ∧ lw_Q a s o t
/-- the law's own end, with 1 on the stack, nothing written that was there before, its room as the claim has it -/
theorem lw_ret {p : Program} {l : Launch} {e : Env} {s : State} {m : MethodId} {below : List Frame} {meth : Method} {c : Code} {b : Nat} (hx : p.tables.exec = Jvm.exec) (hb : c.code = code) (hr : meth.sig.returnType = ret) (hlocks : meth.locks = false) {pc : Nat} {H : Heap} {ls : Array Slot} (hdg : decode code pc = .ok (.ireturn, 1)) : W p l e room_1 s m #[Value.ref b] below meth c H [] 600000 7302250 (lw_Z below #[Value.ref b] s) (F0 m pc ls [.int 1]) := by
  intro T hT X
  obtain ⟨fs, hret, hrun, hended, hW, hframe⟩ := X.leave (v := some (.int 1)) (hlocks := hlocks) (fun h => by rw [hr] at h; cases h)
  have hmeth' : T.vm.method? m = some meth := X.method'
  refine ⟨T.setFrames fs, ?_, .returned (some (.int 1)), hrun, hended, rfl, ⟨_, rfl⟩, hW, hframe⟩
  jvm_step X.here [X.here.top, hx, hb, hdg, hmeth', hr, ret, narrow_b1]
  (try refine ⟨rfl, ?_⟩); (try refine ⟨rfl, ?_⟩)
  first | (intro acts; rw [hret _ acts rfl rfl rfl]) | rw [hret _ _ rfl rfl rfl]
  exact Steps.refl _
/-- what holds at the law's entry: the machine, the code, the tables' words (any of lw_tbl by 'hts w (by decide +kernel)'), the script of L ints xs at the cell b, what the Statement gives of the start (any of its parts by flat_of_before) -/
def lw_At (p : Program) (s : State) (m : MethodId) (meth : Method) (c : Code) (b L : Nat) (xs : Nat → Int32) : Prop :=
  p.tables.exec = Jvm.exec ∧ c.code = code ∧ meth.sig.returnType = ret ∧ c.maxLocals = 4 ∧ s.vm.findClass R_law = some m.cls ∧ (∀ w ∈ lw_tbl, w.before #[Value.ref b] s = true) ∧ va_X b L xs s s.heap ∧ b < s.heap.size ∧ meth.locks = false ∧ (Jvm.Cond.and given_1 narrow_1).before #[Value.ref b] s = true
theorem tw_105 : Cond.classLink RL 7 RX10 ∈ q_tb := q_in 105 (by decide +kernel) rfl
theorem tw_106 : Cond.instantiable RX10 13 ∈ q_tb := q_in 106 (by decide +kernel) rfl
theorem tw_91 : Cond.initialized RX10 ∈ q_tb := q_in 91 (by decide +kernel) rfl
theorem tw_109 : Cond.code yX10_init cX10_init 1 (none) ∈ q_tb := q_in 109 (by decide +kernel) rfl
theorem tw_107 : Cond.methodLink RL 9 yX10_init ∈ q_tb := q_in 107 (by decide +kernel) rfl
theorem tw_108 : Cond.instanceMethod yX10_init ∈ q_tb := q_in 108 (by decide +kernel) rfl
theorem tw_848 : Cond.classLink RL 10 RX11 ∈ q_tb := q_in 848 (by decide +kernel) rfl
theorem tw_849 : Cond.instantiable RX11 33 ∈ q_tb := q_in 849 (by decide +kernel) rfl
theorem tw_101 : Cond.initialized RX11 ∈ q_tb := q_in 101 (by decide +kernel) rfl
theorem tw_852 : Cond.code yX11_init cX11_init 1 (none) ∈ q_tb := q_in 852 (by decide +kernel) rfl
theorem tw_850 : Cond.methodLink RL 12 yX11_init ∈ q_tb := q_in 850 (by decide +kernel) rfl
theorem tw_851 : Cond.instanceMethod yX11_init ∈ q_tb := q_in 851 (by decide +kernel) rfl
theorem tw_298 : Cond.code yX10_letter cX10_letter 2 (some .int) ∈ q_tb := q_in 298 (by decide +kernel) rfl
theorem tw_295 : Cond.methodLink RL 13 yX10_letter ∈ q_tb := q_in 295 (by decide +kernel) rfl
theorem tw_296 : Cond.instanceMethod yX10_letter ∈ q_tb := q_in 296 (by decide +kernel) rfl
theorem tw_297 : Cond.selects RX10 yX10_letter yX10_letter ∈ q_tb := q_in 297 (by decide +kernel) rfl
theorem tw_960 : Cond.code yX11_letter cX11_letter 2 (some .int) ∈ q_tb := q_in 960 (by decide +kernel) rfl
theorem tw_957 : Cond.methodLink RL 17 yX11_letter ∈ q_tb := q_in 957 (by decide +kernel) rfl
theorem tw_958 : Cond.instanceMethod yX11_letter ∈ q_tb := q_in 958 (by decide +kernel) rfl
theorem tw_959 : Cond.selects RX11 yX11_letter yX11_letter ∈ q_tb := q_in 959 (by decide +kernel) rfl
theorem tw_312 : Cond.code yX10_blank cX10_blank 2 (some .int) ∈ q_tb := q_in 312 (by decide +kernel) rfl
theorem tw_309 : Cond.methodLink RL 18 yX10_blank ∈ q_tb := q_in 309 (by decide +kernel) rfl
theorem tw_310 : Cond.instanceMethod yX10_blank ∈ q_tb := q_in 310 (by decide +kernel) rfl
theorem tw_311 : Cond.selects RX10 yX10_blank yX10_blank ∈ q_tb := q_in 311 (by decide +kernel) rfl
theorem tw_969 : Cond.code yX11_blank cX11_blank 2 (some .int) ∈ q_tb := q_in 969 (by decide +kernel) rfl
theorem tw_966 : Cond.methodLink RL 22 yX11_blank ∈ q_tb := q_in 966 (by decide +kernel) rfl
theorem tw_967 : Cond.instanceMethod yX11_blank ∈ q_tb := q_in 967 (by decide +kernel) rfl
theorem tw_968 : Cond.selects RX11 yX11_blank yX11_blank ∈ q_tb := q_in 968 (by decide +kernel) rfl
theorem tw_320 : Cond.code yX10_fault cX10_fault 1 (some .int) ∈ q_tb := q_in 320 (by decide +kernel) rfl
theorem tw_317 : Cond.methodLink RL 23 yX10_fault ∈ q_tb := q_in 317 (by decide +kernel) rfl
theorem tw_318 : Cond.instanceMethod yX10_fault ∈ q_tb := q_in 318 (by decide +kernel) rfl
theorem tw_319 : Cond.selects RX10 yX10_fault yX10_fault ∈ q_tb := q_in 319 (by decide +kernel) rfl
theorem tw_973 : Cond.code yX11_fault cX11_fault 1 (some .int) ∈ q_tb := q_in 973 (by decide +kernel) rfl
theorem tw_970 : Cond.methodLink RL 26 yX11_fault ∈ q_tb := q_in 970 (by decide +kernel) rfl
theorem tw_971 : Cond.instanceMethod yX11_fault ∈ q_tb := q_in 971 (by decide +kernel) rfl
theorem tw_972 : Cond.selects RX11 yX11_fault yX11_fault ∈ q_tb := q_in 972 (by decide +kernel) rfl
theorem tw_399 : Cond.code yX10_rows cX10_rows 1 (some .int) ∈ q_tb := q_in 399 (by decide +kernel) rfl
theorem tw_396 : Cond.methodLink RL 27 yX10_rows ∈ q_tb := q_in 396 (by decide +kernel) rfl
theorem tw_397 : Cond.instanceMethod yX10_rows ∈ q_tb := q_in 397 (by decide +kernel) rfl
theorem tw_398 : Cond.selects RX10 yX10_rows yX10_rows ∈ q_tb := q_in 398 (by decide +kernel) rfl
theorem tw_1006 : Cond.code yX11_rows cX11_rows 2 (some .int) ∈ q_tb := q_in 1006 (by decide +kernel) rfl
theorem tw_1003 : Cond.methodLink RL 30 yX11_rows ∈ q_tb := q_in 1003 (by decide +kernel) rfl
theorem tw_1004 : Cond.instanceMethod yX11_rows ∈ q_tb := q_in 1004 (by decide +kernel) rfl
theorem tw_1005 : Cond.selects RX11 yX11_rows yX11_rows ∈ q_tb := q_in 1005 (by decide +kernel) rfl
theorem tw_437 : Cond.code yX10_row cX10_row 4 (some .int) ∈ q_tb := q_in 437 (by decide +kernel) rfl
theorem tw_434 : Cond.methodLink RL 31 yX10_row ∈ q_tb := q_in 434 (by decide +kernel) rfl
theorem tw_435 : Cond.instanceMethod yX10_row ∈ q_tb := q_in 435 (by decide +kernel) rfl
theorem tw_436 : Cond.selects RX10 yX10_row yX10_row ∈ q_tb := q_in 436 (by decide +kernel) rfl
theorem tw_1015 : Cond.code yX11_row cX11_row 3 (some .int) ∈ q_tb := q_in 1015 (by decide +kernel) rfl
theorem tw_1012 : Cond.methodLink RL 35 yX11_row ∈ q_tb := q_in 1012 (by decide +kernel) rfl
theorem tw_1013 : Cond.instanceMethod yX11_row ∈ q_tb := q_in 1013 (by decide +kernel) rfl
theorem tw_1014 : Cond.selects RX11 yX11_row yX11_row ∈ q_tb := q_in 1014 (by decide +kernel) rfl
theorem tw_453 : Cond.code yX10_as cX10_as 4 (some .int) ∈ q_tb := q_in 453 (by decide +kernel) rfl
theorem tw_450 : Cond.methodLink RL 36 yX10_as ∈ q_tb := q_in 450 (by decide +kernel) rfl
theorem tw_451 : Cond.instanceMethod yX10_as ∈ q_tb := q_in 451 (by decide +kernel) rfl
theorem tw_452 : Cond.selects RX10 yX10_as yX10_as ∈ q_tb := q_in 452 (by decide +kernel) rfl
theorem tw_1024 : Cond.code yX11_as cX11_as 3 (some .int) ∈ q_tb := q_in 1024 (by decide +kernel) rfl
theorem tw_1021 : Cond.methodLink RL 39 yX11_as ∈ q_tb := q_in 1021 (by decide +kernel) rfl
theorem tw_1022 : Cond.instanceMethod yX11_as ∈ q_tb := q_in 1022 (by decide +kernel) rfl
theorem tw_1023 : Cond.selects RX11 yX11_as yX11_as ∈ q_tb := q_in 1023 (by decide +kernel) rfl
theorem tw_460 : Cond.code yX10_term cX10_term 3 (some .int) ∈ q_tb := q_in 460 (by decide +kernel) rfl
theorem tw_457 : Cond.methodLink RL 40 yX10_term ∈ q_tb := q_in 457 (by decide +kernel) rfl
theorem tw_458 : Cond.instanceMethod yX10_term ∈ q_tb := q_in 458 (by decide +kernel) rfl
theorem tw_459 : Cond.selects RX10 yX10_term yX10_term ∈ q_tb := q_in 459 (by decide +kernel) rfl
theorem tw_1031 : Cond.code yX11_term cX11_term 3 (some .int) ∈ q_tb := q_in 1031 (by decide +kernel) rfl
theorem tw_1028 : Cond.methodLink RL 43 yX11_term ∈ q_tb := q_in 1028 (by decide +kernel) rfl
theorem tw_1029 : Cond.instanceMethod yX11_term ∈ q_tb := q_in 1029 (by decide +kernel) rfl
theorem tw_1030 : Cond.selects RX11 yX11_term yX11_term ∈ q_tb := q_in 1030 (by decide +kernel) rfl
theorem tw_492 : Cond.code yX10_by cX10_by 4 (some .int) ∈ q_tb := q_in 492 (by decide +kernel) rfl
theorem tw_489 : Cond.methodLink RL 44 yX10_by ∈ q_tb := q_in 489 (by decide +kernel) rfl
theorem tw_490 : Cond.instanceMethod yX10_by ∈ q_tb := q_in 490 (by decide +kernel) rfl
theorem tw_491 : Cond.selects RX10 yX10_by yX10_by ∈ q_tb := q_in 491 (by decide +kernel) rfl
theorem tw_1069 : Cond.code yX11_by cX11_by 4 (some .int) ∈ q_tb := q_in 1069 (by decide +kernel) rfl
theorem tw_1066 : Cond.methodLink RL 48 yX11_by ∈ q_tb := q_in 1066 (by decide +kernel) rfl
theorem tw_1067 : Cond.instanceMethod yX11_by ∈ q_tb := q_in 1067 (by decide +kernel) rfl
theorem tw_1068 : Cond.selects RX11 yX11_by yX11_by ∈ q_tb := q_in 1068 (by decide +kernel) rfl
theorem tw_539 : Cond.code yX10_lap cX10_lap 7 (some .int) ∈ q_tb := q_in 539 (by decide +kernel) rfl
theorem tw_536 : Cond.methodLink RL 49 yX10_lap ∈ q_tb := q_in 536 (by decide +kernel) rfl
theorem tw_537 : Cond.instanceMethod yX10_lap ∈ q_tb := q_in 537 (by decide +kernel) rfl
theorem tw_538 : Cond.selects RX10 yX10_lap yX10_lap ∈ q_tb := q_in 538 (by decide +kernel) rfl
theorem tw_1107 : Cond.code yX11_lap cX11_lap 4 (some .int) ∈ q_tb := q_in 1107 (by decide +kernel) rfl
theorem tw_1104 : Cond.methodLink RL 52 yX11_lap ∈ q_tb := q_in 1104 (by decide +kernel) rfl
theorem tw_1105 : Cond.instanceMethod yX11_lap ∈ q_tb := q_in 1105 (by decide +kernel) rfl
theorem tw_1106 : Cond.selects RX11 yX11_lap yX11_lap ∈ q_tb := q_in 1106 (by decide +kernel) rfl
theorem tw_559 : Cond.code yX10_least cX10_least 4 (some .int) ∈ q_tb := q_in 559 (by decide +kernel) rfl
theorem tw_556 : Cond.methodLink RL 53 yX10_least ∈ q_tb := q_in 556 (by decide +kernel) rfl
theorem tw_557 : Cond.instanceMethod yX10_least ∈ q_tb := q_in 557 (by decide +kernel) rfl
theorem tw_558 : Cond.selects RX10 yX10_least yX10_least ∈ q_tb := q_in 558 (by decide +kernel) rfl
theorem tw_1131 : Cond.code yX11_least cX11_least 4 (some .int) ∈ q_tb := q_in 1131 (by decide +kernel) rfl
theorem tw_1128 : Cond.methodLink RL 56 yX11_least ∈ q_tb := q_in 1128 (by decide +kernel) rfl
theorem tw_1129 : Cond.instanceMethod yX11_least ∈ q_tb := q_in 1129 (by decide +kernel) rfl
theorem tw_1130 : Cond.selects RX11 yX11_least yX11_least ∈ q_tb := q_in 1130 (by decide +kernel) rfl
theorem tw_598 : Cond.code yX10_rule cX10_rule 4 (some .int) ∈ q_tb := q_in 598 (by decide +kernel) rfl
theorem tw_595 : Cond.methodLink RL 57 yX10_rule ∈ q_tb := q_in 595 (by decide +kernel) rfl
theorem tw_596 : Cond.instanceMethod yX10_rule ∈ q_tb := q_in 596 (by decide +kernel) rfl
theorem tw_597 : Cond.selects RX10 yX10_rule yX10_rule ∈ q_tb := q_in 597 (by decide +kernel) rfl
theorem tw_1170 : Cond.code yX11_rule cX11_rule 3 (some .int) ∈ q_tb := q_in 1170 (by decide +kernel) rfl
theorem tw_1167 : Cond.methodLink RL 60 yX11_rule ∈ q_tb := q_in 1167 (by decide +kernel) rfl
theorem tw_1168 : Cond.instanceMethod yX11_rule ∈ q_tb := q_in 1168 (by decide +kernel) rfl
theorem tw_1169 : Cond.selects RX11 yX11_rule yX11_rule ∈ q_tb := q_in 1169 (by decide +kernel) rfl
theorem tw_626 : Cond.code yX10_roots cX10_roots 5 (some .int) ∈ q_tb := q_in 626 (by decide +kernel) rfl
theorem tw_623 : Cond.methodLink RL 61 yX10_roots ∈ q_tb := q_in 623 (by decide +kernel) rfl
theorem tw_624 : Cond.instanceMethod yX10_roots ∈ q_tb := q_in 624 (by decide +kernel) rfl
theorem tw_625 : Cond.selects RX10 yX10_roots yX10_roots ∈ q_tb := q_in 625 (by decide +kernel) rfl
theorem tw_1200 : Cond.code yX11_roots cX11_roots 3 (some .int) ∈ q_tb := q_in 1200 (by decide +kernel) rfl
theorem tw_1197 : Cond.methodLink RL 64 yX11_roots ∈ q_tb := q_in 1197 (by decide +kernel) rfl
theorem tw_1198 : Cond.instanceMethod yX11_roots ∈ q_tb := q_in 1198 (by decide +kernel) rfl
theorem tw_1199 : Cond.selects RX11 yX11_roots yX11_roots ∈ q_tb := q_in 1199 (by decide +kernel) rfl
theorem tw_656 : Cond.code yX10_noughts cX10_noughts 4 (some .int) ∈ q_tb := q_in 656 (by decide +kernel) rfl
theorem tw_653 : Cond.methodLink RL 65 yX10_noughts ∈ q_tb := q_in 653 (by decide +kernel) rfl
theorem tw_654 : Cond.instanceMethod yX10_noughts ∈ q_tb := q_in 654 (by decide +kernel) rfl
theorem tw_655 : Cond.selects RX10 yX10_noughts yX10_noughts ∈ q_tb := q_in 655 (by decide +kernel) rfl
theorem tw_1216 : Cond.code yX11_noughts cX11_noughts 2 (some .int) ∈ q_tb := q_in 1216 (by decide +kernel) rfl
theorem tw_1213 : Cond.methodLink RL 68 yX11_noughts ∈ q_tb := q_in 1213 (by decide +kernel) rfl
theorem tw_1214 : Cond.instanceMethod yX11_noughts ∈ q_tb := q_in 1214 (by decide +kernel) rfl
theorem tw_1215 : Cond.selects RX11 yX11_noughts yX11_noughts ∈ q_tb := q_in 1215 (by decide +kernel) rfl
theorem tw_660 : Cond.code yX10_ends cX10_ends 3 (some .int) ∈ q_tb := q_in 660 (by decide +kernel) rfl
theorem tw_657 : Cond.methodLink RL 69 yX10_ends ∈ q_tb := q_in 657 (by decide +kernel) rfl
theorem tw_658 : Cond.instanceMethod yX10_ends ∈ q_tb := q_in 658 (by decide +kernel) rfl
theorem tw_659 : Cond.selects RX10 yX10_ends yX10_ends ∈ q_tb := q_in 659 (by decide +kernel) rfl
theorem tw_1224 : Cond.code yX11_ends cX11_ends 3 (some .int) ∈ q_tb := q_in 1224 (by decide +kernel) rfl
theorem tw_1221 : Cond.methodLink RL 72 yX11_ends ∈ q_tb := q_in 1221 (by decide +kernel) rfl
theorem tw_1222 : Cond.instanceMethod yX11_ends ∈ q_tb := q_in 1222 (by decide +kernel) rfl
theorem tw_1223 : Cond.selects RX11 yX11_ends yX11_ends ∈ q_tb := q_in 1223 (by decide +kernel) rfl
theorem tw_665 : Cond.code yX10_open cX10_open 6 (some .int) ∈ q_tb := q_in 665 (by decide +kernel) rfl
theorem tw_662 : Cond.methodLink RL 73 yX10_open ∈ q_tb := q_in 662 (by decide +kernel) rfl
theorem tw_663 : Cond.instanceMethod yX10_open ∈ q_tb := q_in 663 (by decide +kernel) rfl
theorem tw_664 : Cond.selects RX10 yX10_open yX10_open ∈ q_tb := q_in 664 (by decide +kernel) rfl
theorem tw_1228 : Cond.code yX11_open cX11_open 3 (some .int) ∈ q_tb := q_in 1228 (by decide +kernel) rfl
theorem tw_1225 : Cond.methodLink RL 76 yX11_open ∈ q_tb := q_in 1225 (by decide +kernel) rfl
theorem tw_1226 : Cond.instanceMethod yX11_open ∈ q_tb := q_in 1226 (by decide +kernel) rfl
theorem tw_1227 : Cond.selects RX11 yX11_open yX11_open ∈ q_tb := q_in 1227 (by decide +kernel) rfl
theorem tw_677 : Cond.code yX10_meets cX10_meets 4 (some .int) ∈ q_tb := q_in 677 (by decide +kernel) rfl
theorem tw_674 : Cond.methodLink RL 77 yX10_meets ∈ q_tb := q_in 674 (by decide +kernel) rfl
theorem tw_675 : Cond.instanceMethod yX10_meets ∈ q_tb := q_in 675 (by decide +kernel) rfl
theorem tw_676 : Cond.selects RX10 yX10_meets yX10_meets ∈ q_tb := q_in 676 (by decide +kernel) rfl
theorem tw_1240 : Cond.code yX11_meets cX11_meets 4 (some .int) ∈ q_tb := q_in 1240 (by decide +kernel) rfl
theorem tw_1237 : Cond.methodLink RL 80 yX11_meets ∈ q_tb := q_in 1237 (by decide +kernel) rfl
theorem tw_1238 : Cond.instanceMethod yX11_meets ∈ q_tb := q_in 1238 (by decide +kernel) rfl
theorem tw_1239 : Cond.selects RX11 yX11_meets yX11_meets ∈ q_tb := q_in 1239 (by decide +kernel) rfl
theorem tw_686 : Cond.code yX10_told cX10_told 5 (some .int) ∈ q_tb := q_in 686 (by decide +kernel) rfl
theorem tw_683 : Cond.methodLink RL 81 yX10_told ∈ q_tb := q_in 683 (by decide +kernel) rfl
theorem tw_684 : Cond.instanceMethod yX10_told ∈ q_tb := q_in 684 (by decide +kernel) rfl
theorem tw_685 : Cond.selects RX10 yX10_told yX10_told ∈ q_tb := q_in 685 (by decide +kernel) rfl
theorem tw_1248 : Cond.code yX11_told cX11_told 5 (some .int) ∈ q_tb := q_in 1248 (by decide +kernel) rfl
theorem tw_1245 : Cond.methodLink RL 85 yX11_told ∈ q_tb := q_in 1245 (by decide +kernel) rfl
theorem tw_1246 : Cond.instanceMethod yX11_told ∈ q_tb := q_in 1246 (by decide +kernel) rfl
theorem tw_1247 : Cond.selects RX11 yX11_told yX11_told ∈ q_tb := q_in 1247 (by decide +kernel) rfl
theorem tw_698 : Cond.code yX10_sum cX10_sum 3 (some .int) ∈ q_tb := q_in 698 (by decide +kernel) rfl
theorem tw_695 : Cond.methodLink RL 86 yX10_sum ∈ q_tb := q_in 695 (by decide +kernel) rfl
theorem tw_696 : Cond.instanceMethod yX10_sum ∈ q_tb := q_in 696 (by decide +kernel) rfl
theorem tw_697 : Cond.selects RX10 yX10_sum yX10_sum ∈ q_tb := q_in 697 (by decide +kernel) rfl
theorem tw_1266 : Cond.code yX11_sum cX11_sum 3 (some .int) ∈ q_tb := q_in 1266 (by decide +kernel) rfl
theorem tw_1263 : Cond.methodLink RL 89 yX11_sum ∈ q_tb := q_in 1263 (by decide +kernel) rfl
theorem tw_1264 : Cond.instanceMethod yX11_sum ∈ q_tb := q_in 1264 (by decide +kernel) rfl
theorem tw_1265 : Cond.selects RX11 yX11_sum yX11_sum ∈ q_tb := q_in 1265 (by decide +kernel) rfl
theorem tw_702 : Cond.code yX10_product cX10_product 3 (some .int) ∈ q_tb := q_in 702 (by decide +kernel) rfl
theorem tw_699 : Cond.methodLink RL 90 yX10_product ∈ q_tb := q_in 699 (by decide +kernel) rfl
theorem tw_700 : Cond.instanceMethod yX10_product ∈ q_tb := q_in 700 (by decide +kernel) rfl
theorem tw_701 : Cond.selects RX10 yX10_product yX10_product ∈ q_tb := q_in 701 (by decide +kernel) rfl
theorem tw_1270 : Cond.code yX11_product cX11_product 3 (some .int) ∈ q_tb := q_in 1270 (by decide +kernel) rfl
theorem tw_1267 : Cond.methodLink RL 93 yX11_product ∈ q_tb := q_in 1267 (by decide +kernel) rfl
theorem tw_1268 : Cond.instanceMethod yX11_product ∈ q_tb := q_in 1268 (by decide +kernel) rfl
theorem tw_1269 : Cond.selects RX11 yX11_product yX11_product ∈ q_tb := q_in 1269 (by decide +kernel) rfl
theorem tw_706 : Cond.code yX10_each cX10_each 4 (some .int) ∈ q_tb := q_in 706 (by decide +kernel) rfl
theorem tw_703 : Cond.methodLink RL 94 yX10_each ∈ q_tb := q_in 703 (by decide +kernel) rfl
theorem tw_704 : Cond.instanceMethod yX10_each ∈ q_tb := q_in 704 (by decide +kernel) rfl
theorem tw_705 : Cond.selects RX10 yX10_each yX10_each ∈ q_tb := q_in 705 (by decide +kernel) rfl
theorem tw_1274 : Cond.code yX11_each cX11_each 4 (some .int) ∈ q_tb := q_in 1274 (by decide +kernel) rfl
theorem tw_1271 : Cond.methodLink RL 97 yX11_each ∈ q_tb := q_in 1271 (by decide +kernel) rfl
theorem tw_1272 : Cond.instanceMethod yX11_each ∈ q_tb := q_in 1272 (by decide +kernel) rfl
theorem tw_1273 : Cond.selects RX11 yX11_each yX11_each ∈ q_tb := q_in 1273 (by decide +kernel) rfl
theorem tw_710 : Cond.code yX10_step cX10_step 2 (some .int) ∈ q_tb := q_in 710 (by decide +kernel) rfl
theorem tw_707 : Cond.methodLink RL 98 yX10_step ∈ q_tb := q_in 707 (by decide +kernel) rfl
theorem tw_708 : Cond.instanceMethod yX10_step ∈ q_tb := q_in 708 (by decide +kernel) rfl
theorem tw_709 : Cond.selects RX10 yX10_step yX10_step ∈ q_tb := q_in 709 (by decide +kernel) rfl
theorem tw_1278 : Cond.code yX11_step cX11_step 2 (some .int) ∈ q_tb := q_in 1278 (by decide +kernel) rfl
theorem tw_1275 : Cond.methodLink RL 101 yX11_step ∈ q_tb := q_in 1275 (by decide +kernel) rfl
theorem tw_1276 : Cond.instanceMethod yX11_step ∈ q_tb := q_in 1276 (by decide +kernel) rfl
theorem tw_1277 : Cond.selects RX11 yX11_step yX11_step ∈ q_tb := q_in 1277 (by decide +kernel) rfl
theorem tw_714 : Cond.code yX10_put cX10_put 6 (some .int) ∈ q_tb := q_in 714 (by decide +kernel) rfl
theorem tw_711 : Cond.methodLink RL 102 yX10_put ∈ q_tb := q_in 711 (by decide +kernel) rfl
theorem tw_712 : Cond.instanceMethod yX10_put ∈ q_tb := q_in 712 (by decide +kernel) rfl
theorem tw_713 : Cond.selects RX10 yX10_put yX10_put ∈ q_tb := q_in 713 (by decide +kernel) rfl
theorem tw_1282 : Cond.code yX11_put cX11_put 5 (some .int) ∈ q_tb := q_in 1282 (by decide +kernel) rfl
theorem tw_1279 : Cond.methodLink RL 105 yX11_put ∈ q_tb := q_in 1279 (by decide +kernel) rfl
theorem tw_1280 : Cond.instanceMethod yX11_put ∈ q_tb := q_in 1280 (by decide +kernel) rfl
theorem tw_1281 : Cond.selects RX11 yX11_put yX11_put ∈ q_tb := q_in 1281 (by decide +kernel) rfl
theorem tw_719 : Cond.code yX10_drop cX10_drop 1 (some .int) ∈ q_tb := q_in 719 (by decide +kernel) rfl
theorem tw_716 : Cond.methodLink RL 106 yX10_drop ∈ q_tb := q_in 716 (by decide +kernel) rfl
theorem tw_717 : Cond.instanceMethod yX10_drop ∈ q_tb := q_in 717 (by decide +kernel) rfl
theorem tw_718 : Cond.selects RX10 yX10_drop yX10_drop ∈ q_tb := q_in 718 (by decide +kernel) rfl
theorem tw_1286 : Cond.code yX11_drop cX11_drop 1 (some .int) ∈ q_tb := q_in 1286 (by decide +kernel) rfl
theorem tw_1283 : Cond.methodLink RL 109 yX11_drop ∈ q_tb := q_in 1283 (by decide +kernel) rfl
theorem tw_1284 : Cond.instanceMethod yX11_drop ∈ q_tb := q_in 1284 (by decide +kernel) rfl
theorem tw_1285 : Cond.selects RX11 yX11_drop yX11_drop ∈ q_tb := q_in 1285 (by decide +kernel) rfl
theorem tw_727 : Cond.code yX10_ease cX10_ease 7 (some .int) ∈ q_tb := q_in 727 (by decide +kernel) rfl
theorem tw_724 : Cond.methodLink RL 110 yX10_ease ∈ q_tb := q_in 724 (by decide +kernel) rfl
theorem tw_725 : Cond.instanceMethod yX10_ease ∈ q_tb := q_in 725 (by decide +kernel) rfl
theorem tw_726 : Cond.selects RX10 yX10_ease yX10_ease ∈ q_tb := q_in 726 (by decide +kernel) rfl
theorem tw_1290 : Cond.code yX11_ease cX11_ease 7 (some .int) ∈ q_tb := q_in 1290 (by decide +kernel) rfl
theorem tw_1287 : Cond.methodLink RL 113 yX11_ease ∈ q_tb := q_in 1287 (by decide +kernel) rfl
theorem tw_1288 : Cond.instanceMethod yX11_ease ∈ q_tb := q_in 1288 (by decide +kernel) rfl
theorem tw_1289 : Cond.selects RX11 yX11_ease yX11_ease ∈ q_tb := q_in 1289 (by decide +kernel) rfl
theorem tw_744 : Cond.code yX10_give cX10_give 2 (some .int) ∈ q_tb := q_in 744 (by decide +kernel) rfl
theorem tw_741 : Cond.methodLink RL 114 yX10_give ∈ q_tb := q_in 741 (by decide +kernel) rfl
theorem tw_742 : Cond.instanceMethod yX10_give ∈ q_tb := q_in 742 (by decide +kernel) rfl
theorem tw_743 : Cond.selects RX10 yX10_give yX10_give ∈ q_tb := q_in 743 (by decide +kernel) rfl
theorem tw_1314 : Cond.code yX11_give cX11_give 2 (some .int) ∈ q_tb := q_in 1314 (by decide +kernel) rfl
theorem tw_1311 : Cond.methodLink RL 117 yX11_give ∈ q_tb := q_in 1311 (by decide +kernel) rfl
theorem tw_1312 : Cond.instanceMethod yX11_give ∈ q_tb := q_in 1312 (by decide +kernel) rfl
theorem tw_1313 : Cond.selects RX11 yX11_give yX11_give ∈ q_tb := q_in 1313 (by decide +kernel) rfl
theorem tw_748 : Cond.code yX10_forget cX10_forget 2 (some .int) ∈ q_tb := q_in 748 (by decide +kernel) rfl
theorem tw_745 : Cond.methodLink RL 118 yX10_forget ∈ q_tb := q_in 745 (by decide +kernel) rfl
theorem tw_746 : Cond.instanceMethod yX10_forget ∈ q_tb := q_in 746 (by decide +kernel) rfl
theorem tw_747 : Cond.selects RX10 yX10_forget yX10_forget ∈ q_tb := q_in 747 (by decide +kernel) rfl
theorem tw_1318 : Cond.code yX11_forget cX11_forget 2 (some .int) ∈ q_tb := q_in 1318 (by decide +kernel) rfl
theorem tw_1315 : Cond.methodLink RL 121 yX11_forget ∈ q_tb := q_in 1315 (by decide +kernel) rfl
theorem tw_1316 : Cond.instanceMethod yX11_forget ∈ q_tb := q_in 1316 (by decide +kernel) rfl
theorem tw_1317 : Cond.selects RX11 yX11_forget yX11_forget ∈ q_tb := q_in 1317 (by decide +kernel) rfl
theorem tw_752 : Cond.code yX10_guess cX10_guess 2 (some .int) ∈ q_tb := q_in 752 (by decide +kernel) rfl
theorem tw_749 : Cond.methodLink RL 122 yX10_guess ∈ q_tb := q_in 749 (by decide +kernel) rfl
theorem tw_750 : Cond.instanceMethod yX10_guess ∈ q_tb := q_in 750 (by decide +kernel) rfl
theorem tw_751 : Cond.selects RX10 yX10_guess yX10_guess ∈ q_tb := q_in 751 (by decide +kernel) rfl
theorem tw_1322 : Cond.code yX11_guess cX11_guess 2 (some .int) ∈ q_tb := q_in 1322 (by decide +kernel) rfl
theorem tw_1319 : Cond.methodLink RL 125 yX11_guess ∈ q_tb := q_in 1319 (by decide +kernel) rfl
theorem tw_1320 : Cond.instanceMethod yX11_guess ∈ q_tb := q_in 1320 (by decide +kernel) rfl
theorem tw_1321 : Cond.selects RX11 yX11_guess yX11_guess ∈ q_tb := q_in 1321 (by decide +kernel) rfl
theorem tw_786 : Cond.code yX10_found cX10_found 1 (some .int) ∈ q_tb := q_in 786 (by decide +kernel) rfl
theorem tw_783 : Cond.methodLink RL 126 yX10_found ∈ q_tb := q_in 783 (by decide +kernel) rfl
theorem tw_784 : Cond.instanceMethod yX10_found ∈ q_tb := q_in 784 (by decide +kernel) rfl
theorem tw_785 : Cond.selects RX10 yX10_found yX10_found ∈ q_tb := q_in 785 (by decide +kernel) rfl
theorem tw_1338 : Cond.code yX11_found cX11_found 3 (some .int) ∈ q_tb := q_in 1338 (by decide +kernel) rfl
theorem tw_1335 : Cond.methodLink RL 129 yX11_found ∈ q_tb := q_in 1335 (by decide +kernel) rfl
theorem tw_1336 : Cond.instanceMethod yX11_found ∈ q_tb := q_in 1336 (by decide +kernel) rfl
theorem tw_1337 : Cond.selects RX11 yX11_found yX11_found ∈ q_tb := q_in 1337 (by decide +kernel) rfl
theorem tw_791 : Cond.code yX10_drawn cX10_drawn 13 (some .int) ∈ q_tb := q_in 791 (by decide +kernel) rfl
theorem tw_788 : Cond.methodLink RL 130 yX10_drawn ∈ q_tb := q_in 788 (by decide +kernel) rfl
theorem tw_789 : Cond.instanceMethod yX10_drawn ∈ q_tb := q_in 789 (by decide +kernel) rfl
theorem tw_790 : Cond.selects RX10 yX10_drawn yX10_drawn ∈ q_tb := q_in 790 (by decide +kernel) rfl
theorem tw_1342 : Cond.code yX11_drawn cX11_drawn 4 (some .int) ∈ q_tb := q_in 1342 (by decide +kernel) rfl
theorem tw_1339 : Cond.methodLink RL 133 yX11_drawn ∈ q_tb := q_in 1339 (by decide +kernel) rfl
theorem tw_1340 : Cond.instanceMethod yX11_drawn ∈ q_tb := q_in 1340 (by decide +kernel) rfl
theorem tw_1341 : Cond.selects RX11 yX11_drawn yX11_drawn ∈ q_tb := q_in 1341 (by decide +kernel) rfl
theorem tw_806 : Cond.code yX10_image cX10_image 1 (some .int) ∈ q_tb := q_in 806 (by decide +kernel) rfl
theorem tw_803 : Cond.methodLink RL 134 yX10_image ∈ q_tb := q_in 803 (by decide +kernel) rfl
theorem tw_804 : Cond.instanceMethod yX10_image ∈ q_tb := q_in 804 (by decide +kernel) rfl
theorem tw_805 : Cond.selects RX10 yX10_image yX10_image ∈ q_tb := q_in 805 (by decide +kernel) rfl
theorem tw_1358 : Cond.code yX11_image cX11_image 1 (some .int) ∈ q_tb := q_in 1358 (by decide +kernel) rfl
theorem tw_1355 : Cond.methodLink RL 137 yX11_image ∈ q_tb := q_in 1355 (by decide +kernel) rfl
theorem tw_1356 : Cond.instanceMethod yX11_image ∈ q_tb := q_in 1356 (by decide +kernel) rfl
theorem tw_1357 : Cond.selects RX11 yX11_image yX11_image ∈ q_tb := q_in 1357 (by decide +kernel) rfl
theorem tw_818 : Cond.code yX10_restore cX10_restore 1 (some .int) ∈ q_tb := q_in 818 (by decide +kernel) rfl
theorem tw_815 : Cond.methodLink RL 138 yX10_restore ∈ q_tb := q_in 815 (by decide +kernel) rfl
theorem tw_816 : Cond.instanceMethod yX10_restore ∈ q_tb := q_in 816 (by decide +kernel) rfl
theorem tw_817 : Cond.selects RX10 yX10_restore yX10_restore ∈ q_tb := q_in 817 (by decide +kernel) rfl
theorem tw_1365 : Cond.code yX11_restore cX11_restore 1 (some .int) ∈ q_tb := q_in 1365 (by decide +kernel) rfl
theorem tw_1362 : Cond.methodLink RL 141 yX11_restore ∈ q_tb := q_in 1362 (by decide +kernel) rfl
theorem tw_1363 : Cond.instanceMethod yX11_restore ∈ q_tb := q_in 1363 (by decide +kernel) rfl
theorem tw_1364 : Cond.selects RX11 yX11_restore yX11_restore ∈ q_tb := q_in 1364 (by decide +kernel) rfl
theorem tw_822 : Cond.code yX10_count cX10_count 2 (some .int) ∈ q_tb := q_in 822 (by decide +kernel) rfl
theorem tw_819 : Cond.methodLink RL 142 yX10_count ∈ q_tb := q_in 819 (by decide +kernel) rfl
theorem tw_820 : Cond.instanceMethod yX10_count ∈ q_tb := q_in 820 (by decide +kernel) rfl
theorem tw_821 : Cond.selects RX10 yX10_count yX10_count ∈ q_tb := q_in 821 (by decide +kernel) rfl
theorem tw_1369 : Cond.code yX11_count cX11_count 2 (some .int) ∈ q_tb := q_in 1369 (by decide +kernel) rfl
theorem tw_1366 : Cond.methodLink RL 145 yX11_count ∈ q_tb := q_in 1366 (by decide +kernel) rfl
theorem tw_1367 : Cond.instanceMethod yX11_count ∈ q_tb := q_in 1367 (by decide +kernel) rfl
theorem tw_1368 : Cond.selects RX11 yX11_count yX11_count ∈ q_tb := q_in 1368 (by decide +kernel) rfl
theorem tw_834 : Cond.code yX10_digest cX10_digest 4 (some .long) ∈ q_tb := q_in 834 (by decide +kernel) rfl
theorem tw_831 : Cond.methodLink RL 146 yX10_digest ∈ q_tb := q_in 831 (by decide +kernel) rfl
theorem tw_832 : Cond.instanceMethod yX10_digest ∈ q_tb := q_in 832 (by decide +kernel) rfl
theorem tw_833 : Cond.selects RX10 yX10_digest yX10_digest ∈ q_tb := q_in 833 (by decide +kernel) rfl
theorem tw_1381 : Cond.code yX11_digest cX11_digest 2 (some .long) ∈ q_tb := q_in 1381 (by decide +kernel) rfl
theorem tw_1378 : Cond.methodLink RL 150 yX11_digest ∈ q_tb := q_in 1378 (by decide +kernel) rfl
theorem tw_1379 : Cond.instanceMethod yX11_digest ∈ q_tb := q_in 1379 (by decide +kernel) rfl
theorem tw_1380 : Cond.selects RX11 yX11_digest yX11_digest ∈ q_tb := q_in 1380 (by decide +kernel) rfl
def mL : q_M := (room_1, yL_law, code, 4, ret)
theorem nL_7 : q_NW RL 7 8 13 [.null, .null, .null, .null, .null, .null, .null, .null, .null, .null, .null, .int 0, .int 0] := ⟨_, _, tyX10, rfl, uw_X10, tyX10_ok, tw_105, tw_106, tw_91, by decide +kernel, q_dvs rfl⟩
theorem kL_9 : q_LI mL mX10_init 9 0 := ⟨⟨tw_109, tw_91, ⟨show RX10 ≠ "java/lang/invoke/MethodHandle" by decide, show RX10 ≠ "java/lang/invoke/VarHandle" by decide, show (parseMethodDescriptor "()V").map (fun d => d.parameters.length) = some 0 by decide +kernel⟩, Nat.le_of_ble_eq_true rfl, Nat.le_of_ble_eq_true rfl⟩, tw_107, rfl, tw_108, rfl⟩
theorem nL_10 : q_NW RL 10 9 33 [.int 0, .null, .null, .int 0, .int 0, .null, .int 0, .null, .int 0, .int 0, .null, .null, .int 0, .int 0, .int 0, .null, .null, .null, .null, .null, .null, .null, .null, .int 0, .int 0, .long 0, .int 0, .int 0, .int 0, .null, .null, .null, .long 0] := ⟨_, _, tyX11, rfl, uw_X11, tyX11_ok, tw_848, tw_849, tw_101, by decide +kernel, q_dvs rfl⟩
theorem kL_12 : q_LI mL mX11_init 12 0 := ⟨⟨tw_852, tw_101, ⟨show RX11 ≠ "java/lang/invoke/MethodHandle" by decide, show RX11 ≠ "java/lang/invoke/VarHandle" by decide, show (parseMethodDescriptor "()V").map (fun d => d.parameters.length) = some 0 by decide +kernel⟩, Nat.le_of_ble_eq_true rfl, Nat.le_of_ble_eq_true rfl⟩, tw_850, rfl, tw_851, rfl⟩
theorem kL_13 : q_LV mL mX10_letter 13 1 := ⟨⟨tw_298, tw_91, ⟨show RX10 ≠ "java/lang/invoke/MethodHandle" by decide, show RX10 ≠ "java/lang/invoke/VarHandle" by decide, show (parseMethodDescriptor "(I)I").map (fun d => d.parameters.length) = some 1 by decide +kernel⟩, Nat.le_of_ble_eq_true rfl, Nat.le_of_ble_eq_true rfl⟩, tw_295, tw_296, tw_297⟩
theorem kL_17 : q_LV mL mX11_letter 17 1 := ⟨⟨tw_960, tw_101, ⟨show RX11 ≠ "java/lang/invoke/MethodHandle" by decide, show RX11 ≠ "java/lang/invoke/VarHandle" by decide, show (parseMethodDescriptor "(I)I").map (fun d => d.parameters.length) = some 1 by decide +kernel⟩, Nat.le_of_ble_eq_true rfl, Nat.le_of_ble_eq_true rfl⟩, tw_957, tw_958, tw_959⟩
theorem kL_18 : q_LV mL mX10_blank 18 0 := ⟨⟨tw_312, tw_91, ⟨show RX10 ≠ "java/lang/invoke/MethodHandle" by decide, show RX10 ≠ "java/lang/invoke/VarHandle" by decide, show (parseMethodDescriptor "()I").map (fun d => d.parameters.length) = some 0 by decide +kernel⟩, Nat.le_of_ble_eq_true rfl, Nat.le_of_ble_eq_true rfl⟩, tw_309, tw_310, tw_311⟩
theorem kL_22 : q_LV mL mX11_blank 22 0 := ⟨⟨tw_969, tw_101, ⟨show RX11 ≠ "java/lang/invoke/MethodHandle" by decide, show RX11 ≠ "java/lang/invoke/VarHandle" by decide, show (parseMethodDescriptor "()I").map (fun d => d.parameters.length) = some 0 by decide +kernel⟩, Nat.le_of_ble_eq_true rfl, Nat.le_of_ble_eq_true rfl⟩, tw_966, tw_967, tw_968⟩
theorem kL_23 : q_LV mL mX10_fault 23 0 := ⟨⟨tw_320, tw_91, ⟨show RX10 ≠ "java/lang/invoke/MethodHandle" by decide, show RX10 ≠ "java/lang/invoke/VarHandle" by decide, show (parseMethodDescriptor "()I").map (fun d => d.parameters.length) = some 0 by decide +kernel⟩, Nat.le_of_ble_eq_true rfl, Nat.le_of_ble_eq_true rfl⟩, tw_317, tw_318, tw_319⟩
theorem kL_26 : q_LV mL mX11_fault 26 0 := ⟨⟨tw_973, tw_101, ⟨show RX11 ≠ "java/lang/invoke/MethodHandle" by decide, show RX11 ≠ "java/lang/invoke/VarHandle" by decide, show (parseMethodDescriptor "()I").map (fun d => d.parameters.length) = some 0 by decide +kernel⟩, Nat.le_of_ble_eq_true rfl, Nat.le_of_ble_eq_true rfl⟩, tw_970, tw_971, tw_972⟩
theorem kL_27 : q_LV mL mX10_rows 27 0 := ⟨⟨tw_399, tw_91, ⟨show RX10 ≠ "java/lang/invoke/MethodHandle" by decide, show RX10 ≠ "java/lang/invoke/VarHandle" by decide, show (parseMethodDescriptor "()I").map (fun d => d.parameters.length) = some 0 by decide +kernel⟩, Nat.le_of_ble_eq_true rfl, Nat.le_of_ble_eq_true rfl⟩, tw_396, tw_397, tw_398⟩
theorem kL_30 : q_LV mL mX11_rows 30 0 := ⟨⟨tw_1006, tw_101, ⟨show RX11 ≠ "java/lang/invoke/MethodHandle" by decide, show RX11 ≠ "java/lang/invoke/VarHandle" by decide, show (parseMethodDescriptor "()I").map (fun d => d.parameters.length) = some 0 by decide +kernel⟩, Nat.le_of_ble_eq_true rfl, Nat.le_of_ble_eq_true rfl⟩, tw_1003, tw_1004, tw_1005⟩
theorem kL_31 : q_LV mL mX10_row 31 2 := ⟨⟨tw_437, tw_91, ⟨show RX10 ≠ "java/lang/invoke/MethodHandle" by decide, show RX10 ≠ "java/lang/invoke/VarHandle" by decide, show (parseMethodDescriptor "(II)I").map (fun d => d.parameters.length) = some 2 by decide +kernel⟩, Nat.le_of_ble_eq_true rfl, Nat.le_of_ble_eq_true rfl⟩, tw_434, tw_435, tw_436⟩
theorem kL_35 : q_LV mL mX11_row 35 2 := ⟨⟨tw_1015, tw_101, ⟨show RX11 ≠ "java/lang/invoke/MethodHandle" by decide, show RX11 ≠ "java/lang/invoke/VarHandle" by decide, show (parseMethodDescriptor "(II)I").map (fun d => d.parameters.length) = some 2 by decide +kernel⟩, Nat.le_of_ble_eq_true rfl, Nat.le_of_ble_eq_true rfl⟩, tw_1012, tw_1013, tw_1014⟩
theorem kL_36 : q_LV mL mX10_as 36 2 := ⟨⟨tw_453, tw_91, ⟨show RX10 ≠ "java/lang/invoke/MethodHandle" by decide, show RX10 ≠ "java/lang/invoke/VarHandle" by decide, show (parseMethodDescriptor "(II)I").map (fun d => d.parameters.length) = some 2 by decide +kernel⟩, Nat.le_of_ble_eq_true rfl, Nat.le_of_ble_eq_true rfl⟩, tw_450, tw_451, tw_452⟩
theorem kL_39 : q_LV mL mX11_as 39 2 := ⟨⟨tw_1024, tw_101, ⟨show RX11 ≠ "java/lang/invoke/MethodHandle" by decide, show RX11 ≠ "java/lang/invoke/VarHandle" by decide, show (parseMethodDescriptor "(II)I").map (fun d => d.parameters.length) = some 2 by decide +kernel⟩, Nat.le_of_ble_eq_true rfl, Nat.le_of_ble_eq_true rfl⟩, tw_1021, tw_1022, tw_1023⟩
theorem kL_40 : q_LV mL mX10_term 40 2 := ⟨⟨tw_460, tw_91, ⟨show RX10 ≠ "java/lang/invoke/MethodHandle" by decide, show RX10 ≠ "java/lang/invoke/VarHandle" by decide, show (parseMethodDescriptor "(II)I").map (fun d => d.parameters.length) = some 2 by decide +kernel⟩, Nat.le_of_ble_eq_true rfl, Nat.le_of_ble_eq_true rfl⟩, tw_457, tw_458, tw_459⟩
theorem kL_43 : q_LV mL mX11_term 43 2 := ⟨⟨tw_1031, tw_101, ⟨show RX11 ≠ "java/lang/invoke/MethodHandle" by decide, show RX11 ≠ "java/lang/invoke/VarHandle" by decide, show (parseMethodDescriptor "(II)I").map (fun d => d.parameters.length) = some 2 by decide +kernel⟩, Nat.le_of_ble_eq_true rfl, Nat.le_of_ble_eq_true rfl⟩, tw_1028, tw_1029, tw_1030⟩
theorem kL_44 : q_LV mL mX10_by 44 3 := ⟨⟨tw_492, tw_91, ⟨show RX10 ≠ "java/lang/invoke/MethodHandle" by decide, show RX10 ≠ "java/lang/invoke/VarHandle" by decide, show (parseMethodDescriptor "(III)I").map (fun d => d.parameters.length) = some 3 by decide +kernel⟩, Nat.le_of_ble_eq_true rfl, Nat.le_of_ble_eq_true rfl⟩, tw_489, tw_490, tw_491⟩
theorem kL_48 : q_LV mL mX11_by 48 3 := ⟨⟨tw_1069, tw_101, ⟨show RX11 ≠ "java/lang/invoke/MethodHandle" by decide, show RX11 ≠ "java/lang/invoke/VarHandle" by decide, show (parseMethodDescriptor "(III)I").map (fun d => d.parameters.length) = some 3 by decide +kernel⟩, Nat.le_of_ble_eq_true rfl, Nat.le_of_ble_eq_true rfl⟩, tw_1066, tw_1067, tw_1068⟩
theorem kL_49 : q_LV mL mX10_lap 49 3 := ⟨⟨tw_539, tw_91, ⟨show RX10 ≠ "java/lang/invoke/MethodHandle" by decide, show RX10 ≠ "java/lang/invoke/VarHandle" by decide, show (parseMethodDescriptor "(III)I").map (fun d => d.parameters.length) = some 3 by decide +kernel⟩, Nat.le_of_ble_eq_true rfl, Nat.le_of_ble_eq_true rfl⟩, tw_536, tw_537, tw_538⟩
theorem kL_52 : q_LV mL mX11_lap 52 3 := ⟨⟨tw_1107, tw_101, ⟨show RX11 ≠ "java/lang/invoke/MethodHandle" by decide, show RX11 ≠ "java/lang/invoke/VarHandle" by decide, show (parseMethodDescriptor "(III)I").map (fun d => d.parameters.length) = some 3 by decide +kernel⟩, Nat.le_of_ble_eq_true rfl, Nat.le_of_ble_eq_true rfl⟩, tw_1104, tw_1105, tw_1106⟩
theorem kL_53 : q_LV mL mX10_least 53 3 := ⟨⟨tw_559, tw_91, ⟨show RX10 ≠ "java/lang/invoke/MethodHandle" by decide, show RX10 ≠ "java/lang/invoke/VarHandle" by decide, show (parseMethodDescriptor "(III)I").map (fun d => d.parameters.length) = some 3 by decide +kernel⟩, Nat.le_of_ble_eq_true rfl, Nat.le_of_ble_eq_true rfl⟩, tw_556, tw_557, tw_558⟩
theorem kL_56 : q_LV mL mX11_least 56 3 := ⟨⟨tw_1131, tw_101, ⟨show RX11 ≠ "java/lang/invoke/MethodHandle" by decide, show RX11 ≠ "java/lang/invoke/VarHandle" by decide, show (parseMethodDescriptor "(III)I").map (fun d => d.parameters.length) = some 3 by decide +kernel⟩, Nat.le_of_ble_eq_true rfl, Nat.le_of_ble_eq_true rfl⟩, tw_1128, tw_1129, tw_1130⟩
theorem kL_57 : q_LV mL mX10_rule 57 2 := ⟨⟨tw_598, tw_91, ⟨show RX10 ≠ "java/lang/invoke/MethodHandle" by decide, show RX10 ≠ "java/lang/invoke/VarHandle" by decide, show (parseMethodDescriptor "(II)I").map (fun d => d.parameters.length) = some 2 by decide +kernel⟩, Nat.le_of_ble_eq_true rfl, Nat.le_of_ble_eq_true rfl⟩, tw_595, tw_596, tw_597⟩
theorem kL_60 : q_LV mL mX11_rule 60 2 := ⟨⟨tw_1170, tw_101, ⟨show RX11 ≠ "java/lang/invoke/MethodHandle" by decide, show RX11 ≠ "java/lang/invoke/VarHandle" by decide, show (parseMethodDescriptor "(II)I").map (fun d => d.parameters.length) = some 2 by decide +kernel⟩, Nat.le_of_ble_eq_true rfl, Nat.le_of_ble_eq_true rfl⟩, tw_1167, tw_1168, tw_1169⟩
theorem kL_61 : q_LV mL mX10_roots 61 2 := ⟨⟨tw_626, tw_91, ⟨show RX10 ≠ "java/lang/invoke/MethodHandle" by decide, show RX10 ≠ "java/lang/invoke/VarHandle" by decide, show (parseMethodDescriptor "(II)I").map (fun d => d.parameters.length) = some 2 by decide +kernel⟩, Nat.le_of_ble_eq_true rfl, Nat.le_of_ble_eq_true rfl⟩, tw_623, tw_624, tw_625⟩
theorem kL_64 : q_LV mL mX11_roots 64 2 := ⟨⟨tw_1200, tw_101, ⟨show RX11 ≠ "java/lang/invoke/MethodHandle" by decide, show RX11 ≠ "java/lang/invoke/VarHandle" by decide, show (parseMethodDescriptor "(II)I").map (fun d => d.parameters.length) = some 2 by decide +kernel⟩, Nat.le_of_ble_eq_true rfl, Nat.le_of_ble_eq_true rfl⟩, tw_1197, tw_1198, tw_1199⟩
theorem kL_65 : q_LV mL mX10_noughts 65 1 := ⟨⟨tw_656, tw_91, ⟨show RX10 ≠ "java/lang/invoke/MethodHandle" by decide, show RX10 ≠ "java/lang/invoke/VarHandle" by decide, show (parseMethodDescriptor "(I)I").map (fun d => d.parameters.length) = some 1 by decide +kernel⟩, Nat.le_of_ble_eq_true rfl, Nat.le_of_ble_eq_true rfl⟩, tw_653, tw_654, tw_655⟩
theorem kL_68 : q_LV mL mX11_noughts 68 1 := ⟨⟨tw_1216, tw_101, ⟨show RX11 ≠ "java/lang/invoke/MethodHandle" by decide, show RX11 ≠ "java/lang/invoke/VarHandle" by decide, show (parseMethodDescriptor "(I)I").map (fun d => d.parameters.length) = some 1 by decide +kernel⟩, Nat.le_of_ble_eq_true rfl, Nat.le_of_ble_eq_true rfl⟩, tw_1213, tw_1214, tw_1215⟩
theorem kL_69 : q_LV mL mX10_ends 69 1 := ⟨⟨tw_660, tw_91, ⟨show RX10 ≠ "java/lang/invoke/MethodHandle" by decide, show RX10 ≠ "java/lang/invoke/VarHandle" by decide, show (parseMethodDescriptor "(I)I").map (fun d => d.parameters.length) = some 1 by decide +kernel⟩, Nat.le_of_ble_eq_true rfl, Nat.le_of_ble_eq_true rfl⟩, tw_657, tw_658, tw_659⟩
theorem kL_72 : q_LV mL mX11_ends 72 1 := ⟨⟨tw_1224, tw_101, ⟨show RX11 ≠ "java/lang/invoke/MethodHandle" by decide, show RX11 ≠ "java/lang/invoke/VarHandle" by decide, show (parseMethodDescriptor "(I)I").map (fun d => d.parameters.length) = some 1 by decide +kernel⟩, Nat.le_of_ble_eq_true rfl, Nat.le_of_ble_eq_true rfl⟩, tw_1221, tw_1222, tw_1223⟩
theorem kL_73 : q_LV mL mX10_open 73 2 := ⟨⟨tw_665, tw_91, ⟨show RX10 ≠ "java/lang/invoke/MethodHandle" by decide, show RX10 ≠ "java/lang/invoke/VarHandle" by decide, show (parseMethodDescriptor "(II)I").map (fun d => d.parameters.length) = some 2 by decide +kernel⟩, Nat.le_of_ble_eq_true rfl, Nat.le_of_ble_eq_true rfl⟩, tw_662, tw_663, tw_664⟩
theorem kL_76 : q_LV mL mX11_open 76 2 := ⟨⟨tw_1228, tw_101, ⟨show RX11 ≠ "java/lang/invoke/MethodHandle" by decide, show RX11 ≠ "java/lang/invoke/VarHandle" by decide, show (parseMethodDescriptor "(II)I").map (fun d => d.parameters.length) = some 2 by decide +kernel⟩, Nat.le_of_ble_eq_true rfl, Nat.le_of_ble_eq_true rfl⟩, tw_1225, tw_1226, tw_1227⟩
theorem kL_77 : q_LV mL mX10_meets 77 3 := ⟨⟨tw_677, tw_91, ⟨show RX10 ≠ "java/lang/invoke/MethodHandle" by decide, show RX10 ≠ "java/lang/invoke/VarHandle" by decide, show (parseMethodDescriptor "(III)I").map (fun d => d.parameters.length) = some 3 by decide +kernel⟩, Nat.le_of_ble_eq_true rfl, Nat.le_of_ble_eq_true rfl⟩, tw_674, tw_675, tw_676⟩
theorem kL_80 : q_LV mL mX11_meets 80 3 := ⟨⟨tw_1240, tw_101, ⟨show RX11 ≠ "java/lang/invoke/MethodHandle" by decide, show RX11 ≠ "java/lang/invoke/VarHandle" by decide, show (parseMethodDescriptor "(III)I").map (fun d => d.parameters.length) = some 3 by decide +kernel⟩, Nat.le_of_ble_eq_true rfl, Nat.le_of_ble_eq_true rfl⟩, tw_1237, tw_1238, tw_1239⟩
theorem kL_81 : q_LV mL mX10_told 81 4 := ⟨⟨tw_686, tw_91, ⟨show RX10 ≠ "java/lang/invoke/MethodHandle" by decide, show RX10 ≠ "java/lang/invoke/VarHandle" by decide, show (parseMethodDescriptor "(IIII)I").map (fun d => d.parameters.length) = some 4 by decide +kernel⟩, Nat.le_of_ble_eq_true rfl, Nat.le_of_ble_eq_true rfl⟩, tw_683, tw_684, tw_685⟩
theorem kL_85 : q_LV mL mX11_told 85 4 := ⟨⟨tw_1248, tw_101, ⟨show RX11 ≠ "java/lang/invoke/MethodHandle" by decide, show RX11 ≠ "java/lang/invoke/VarHandle" by decide, show (parseMethodDescriptor "(IIII)I").map (fun d => d.parameters.length) = some 4 by decide +kernel⟩, Nat.le_of_ble_eq_true rfl, Nat.le_of_ble_eq_true rfl⟩, tw_1245, tw_1246, tw_1247⟩
theorem kL_86 : q_LV mL mX10_sum 86 2 := ⟨⟨tw_698, tw_91, ⟨show RX10 ≠ "java/lang/invoke/MethodHandle" by decide, show RX10 ≠ "java/lang/invoke/VarHandle" by decide, show (parseMethodDescriptor "(II)I").map (fun d => d.parameters.length) = some 2 by decide +kernel⟩, Nat.le_of_ble_eq_true rfl, Nat.le_of_ble_eq_true rfl⟩, tw_695, tw_696, tw_697⟩
theorem kL_89 : q_LV mL mX11_sum 89 2 := ⟨⟨tw_1266, tw_101, ⟨show RX11 ≠ "java/lang/invoke/MethodHandle" by decide, show RX11 ≠ "java/lang/invoke/VarHandle" by decide, show (parseMethodDescriptor "(II)I").map (fun d => d.parameters.length) = some 2 by decide +kernel⟩, Nat.le_of_ble_eq_true rfl, Nat.le_of_ble_eq_true rfl⟩, tw_1263, tw_1264, tw_1265⟩
theorem kL_90 : q_LV mL mX10_product 90 2 := ⟨⟨tw_702, tw_91, ⟨show RX10 ≠ "java/lang/invoke/MethodHandle" by decide, show RX10 ≠ "java/lang/invoke/VarHandle" by decide, show (parseMethodDescriptor "(II)I").map (fun d => d.parameters.length) = some 2 by decide +kernel⟩, Nat.le_of_ble_eq_true rfl, Nat.le_of_ble_eq_true rfl⟩, tw_699, tw_700, tw_701⟩
theorem kL_93 : q_LV mL mX11_product 93 2 := ⟨⟨tw_1270, tw_101, ⟨show RX11 ≠ "java/lang/invoke/MethodHandle" by decide, show RX11 ≠ "java/lang/invoke/VarHandle" by decide, show (parseMethodDescriptor "(II)I").map (fun d => d.parameters.length) = some 2 by decide +kernel⟩, Nat.le_of_ble_eq_true rfl, Nat.le_of_ble_eq_true rfl⟩, tw_1267, tw_1268, tw_1269⟩
theorem kL_94 : q_LV mL mX10_each 94 3 := ⟨⟨tw_706, tw_91, ⟨show RX10 ≠ "java/lang/invoke/MethodHandle" by decide, show RX10 ≠ "java/lang/invoke/VarHandle" by decide, show (parseMethodDescriptor "(III)I").map (fun d => d.parameters.length) = some 3 by decide +kernel⟩, Nat.le_of_ble_eq_true rfl, Nat.le_of_ble_eq_true rfl⟩, tw_703, tw_704, tw_705⟩
theorem kL_97 : q_LV mL mX11_each 97 3 := ⟨⟨tw_1274, tw_101, ⟨show RX11 ≠ "java/lang/invoke/MethodHandle" by decide, show RX11 ≠ "java/lang/invoke/VarHandle" by decide, show (parseMethodDescriptor "(III)I").map (fun d => d.parameters.length) = some 3 by decide +kernel⟩, Nat.le_of_ble_eq_true rfl, Nat.le_of_ble_eq_true rfl⟩, tw_1271, tw_1272, tw_1273⟩
theorem kL_98 : q_LV mL mX10_step 98 1 := ⟨⟨tw_710, tw_91, ⟨show RX10 ≠ "java/lang/invoke/MethodHandle" by decide, show RX10 ≠ "java/lang/invoke/VarHandle" by decide, show (parseMethodDescriptor "(I)I").map (fun d => d.parameters.length) = some 1 by decide +kernel⟩, Nat.le_of_ble_eq_true rfl, Nat.le_of_ble_eq_true rfl⟩, tw_707, tw_708, tw_709⟩
theorem kL_101 : q_LV mL mX11_step 101 1 := ⟨⟨tw_1278, tw_101, ⟨show RX11 ≠ "java/lang/invoke/MethodHandle" by decide, show RX11 ≠ "java/lang/invoke/VarHandle" by decide, show (parseMethodDescriptor "(I)I").map (fun d => d.parameters.length) = some 1 by decide +kernel⟩, Nat.le_of_ble_eq_true rfl, Nat.le_of_ble_eq_true rfl⟩, tw_1275, tw_1276, tw_1277⟩
theorem kL_102 : q_LV mL mX10_put 102 3 := ⟨⟨tw_714, tw_91, ⟨show RX10 ≠ "java/lang/invoke/MethodHandle" by decide, show RX10 ≠ "java/lang/invoke/VarHandle" by decide, show (parseMethodDescriptor "(III)I").map (fun d => d.parameters.length) = some 3 by decide +kernel⟩, Nat.le_of_ble_eq_true rfl, Nat.le_of_ble_eq_true rfl⟩, tw_711, tw_712, tw_713⟩
theorem kL_105 : q_LV mL mX11_put 105 3 := ⟨⟨tw_1282, tw_101, ⟨show RX11 ≠ "java/lang/invoke/MethodHandle" by decide, show RX11 ≠ "java/lang/invoke/VarHandle" by decide, show (parseMethodDescriptor "(III)I").map (fun d => d.parameters.length) = some 3 by decide +kernel⟩, Nat.le_of_ble_eq_true rfl, Nat.le_of_ble_eq_true rfl⟩, tw_1279, tw_1280, tw_1281⟩
theorem kL_106 : q_LV mL mX10_drop 106 0 := ⟨⟨tw_719, tw_91, ⟨show RX10 ≠ "java/lang/invoke/MethodHandle" by decide, show RX10 ≠ "java/lang/invoke/VarHandle" by decide, show (parseMethodDescriptor "()I").map (fun d => d.parameters.length) = some 0 by decide +kernel⟩, Nat.le_of_ble_eq_true rfl, Nat.le_of_ble_eq_true rfl⟩, tw_716, tw_717, tw_718⟩
theorem kL_109 : q_LV mL mX11_drop 109 0 := ⟨⟨tw_1286, tw_101, ⟨show RX11 ≠ "java/lang/invoke/MethodHandle" by decide, show RX11 ≠ "java/lang/invoke/VarHandle" by decide, show (parseMethodDescriptor "()I").map (fun d => d.parameters.length) = some 0 by decide +kernel⟩, Nat.le_of_ble_eq_true rfl, Nat.le_of_ble_eq_true rfl⟩, tw_1283, tw_1284, tw_1285⟩
theorem kL_110 : q_LV mL mX10_ease 110 1 := ⟨⟨tw_727, tw_91, ⟨show RX10 ≠ "java/lang/invoke/MethodHandle" by decide, show RX10 ≠ "java/lang/invoke/VarHandle" by decide, show (parseMethodDescriptor "(I)I").map (fun d => d.parameters.length) = some 1 by decide +kernel⟩, Nat.le_of_ble_eq_true rfl, Nat.le_of_ble_eq_true rfl⟩, tw_724, tw_725, tw_726⟩
theorem kL_113 : q_LV mL mX11_ease 113 1 := ⟨⟨tw_1290, tw_101, ⟨show RX11 ≠ "java/lang/invoke/MethodHandle" by decide, show RX11 ≠ "java/lang/invoke/VarHandle" by decide, show (parseMethodDescriptor "(I)I").map (fun d => d.parameters.length) = some 1 by decide +kernel⟩, Nat.le_of_ble_eq_true rfl, Nat.le_of_ble_eq_true rfl⟩, tw_1287, tw_1288, tw_1289⟩
theorem kL_114 : q_LV mL mX10_give 114 1 := ⟨⟨tw_744, tw_91, ⟨show RX10 ≠ "java/lang/invoke/MethodHandle" by decide, show RX10 ≠ "java/lang/invoke/VarHandle" by decide, show (parseMethodDescriptor "(I)I").map (fun d => d.parameters.length) = some 1 by decide +kernel⟩, Nat.le_of_ble_eq_true rfl, Nat.le_of_ble_eq_true rfl⟩, tw_741, tw_742, tw_743⟩
theorem kL_117 : q_LV mL mX11_give 117 1 := ⟨⟨tw_1314, tw_101, ⟨show RX11 ≠ "java/lang/invoke/MethodHandle" by decide, show RX11 ≠ "java/lang/invoke/VarHandle" by decide, show (parseMethodDescriptor "(I)I").map (fun d => d.parameters.length) = some 1 by decide +kernel⟩, Nat.le_of_ble_eq_true rfl, Nat.le_of_ble_eq_true rfl⟩, tw_1311, tw_1312, tw_1313⟩
theorem kL_118 : q_LV mL mX10_forget 118 0 := ⟨⟨tw_748, tw_91, ⟨show RX10 ≠ "java/lang/invoke/MethodHandle" by decide, show RX10 ≠ "java/lang/invoke/VarHandle" by decide, show (parseMethodDescriptor "()I").map (fun d => d.parameters.length) = some 0 by decide +kernel⟩, Nat.le_of_ble_eq_true rfl, Nat.le_of_ble_eq_true rfl⟩, tw_745, tw_746, tw_747⟩
theorem kL_121 : q_LV mL mX11_forget 121 0 := ⟨⟨tw_1318, tw_101, ⟨show RX11 ≠ "java/lang/invoke/MethodHandle" by decide, show RX11 ≠ "java/lang/invoke/VarHandle" by decide, show (parseMethodDescriptor "()I").map (fun d => d.parameters.length) = some 0 by decide +kernel⟩, Nat.le_of_ble_eq_true rfl, Nat.le_of_ble_eq_true rfl⟩, tw_1315, tw_1316, tw_1317⟩
theorem kL_122 : q_LV mL mX10_guess 122 1 := ⟨⟨tw_752, tw_91, ⟨show RX10 ≠ "java/lang/invoke/MethodHandle" by decide, show RX10 ≠ "java/lang/invoke/VarHandle" by decide, show (parseMethodDescriptor "(I)I").map (fun d => d.parameters.length) = some 1 by decide +kernel⟩, Nat.le_of_ble_eq_true rfl, Nat.le_of_ble_eq_true rfl⟩, tw_749, tw_750, tw_751⟩
theorem kL_125 : q_LV mL mX11_guess 125 1 := ⟨⟨tw_1322, tw_101, ⟨show RX11 ≠ "java/lang/invoke/MethodHandle" by decide, show RX11 ≠ "java/lang/invoke/VarHandle" by decide, show (parseMethodDescriptor "(I)I").map (fun d => d.parameters.length) = some 1 by decide +kernel⟩, Nat.le_of_ble_eq_true rfl, Nat.le_of_ble_eq_true rfl⟩, tw_1319, tw_1320, tw_1321⟩
theorem kL_126 : q_LV mL mX10_found 126 0 := ⟨⟨tw_786, tw_91, ⟨show RX10 ≠ "java/lang/invoke/MethodHandle" by decide, show RX10 ≠ "java/lang/invoke/VarHandle" by decide, show (parseMethodDescriptor "()I").map (fun d => d.parameters.length) = some 0 by decide +kernel⟩, Nat.le_of_ble_eq_true rfl, Nat.le_of_ble_eq_true rfl⟩, tw_783, tw_784, tw_785⟩
theorem kL_129 : q_LV mL mX11_found 129 0 := ⟨⟨tw_1338, tw_101, ⟨show RX11 ≠ "java/lang/invoke/MethodHandle" by decide, show RX11 ≠ "java/lang/invoke/VarHandle" by decide, show (parseMethodDescriptor "()I").map (fun d => d.parameters.length) = some 0 by decide +kernel⟩, Nat.le_of_ble_eq_true rfl, Nat.le_of_ble_eq_true rfl⟩, tw_1335, tw_1336, tw_1337⟩
theorem kL_130 : q_LV mL mX10_drawn 130 3 := ⟨⟨tw_791, tw_91, ⟨show RX10 ≠ "java/lang/invoke/MethodHandle" by decide, show RX10 ≠ "java/lang/invoke/VarHandle" by decide, show (parseMethodDescriptor "(III)I").map (fun d => d.parameters.length) = some 3 by decide +kernel⟩, Nat.le_of_ble_eq_true rfl, Nat.le_of_ble_eq_true rfl⟩, tw_788, tw_789, tw_790⟩
theorem kL_133 : q_LV mL mX11_drawn 133 3 := ⟨⟨tw_1342, tw_101, ⟨show RX11 ≠ "java/lang/invoke/MethodHandle" by decide, show RX11 ≠ "java/lang/invoke/VarHandle" by decide, show (parseMethodDescriptor "(III)I").map (fun d => d.parameters.length) = some 3 by decide +kernel⟩, Nat.le_of_ble_eq_true rfl, Nat.le_of_ble_eq_true rfl⟩, tw_1339, tw_1340, tw_1341⟩
theorem kL_134 : q_LV mL mX10_image 134 0 := ⟨⟨tw_806, tw_91, ⟨show RX10 ≠ "java/lang/invoke/MethodHandle" by decide, show RX10 ≠ "java/lang/invoke/VarHandle" by decide, show (parseMethodDescriptor "()I").map (fun d => d.parameters.length) = some 0 by decide +kernel⟩, Nat.le_of_ble_eq_true rfl, Nat.le_of_ble_eq_true rfl⟩, tw_803, tw_804, tw_805⟩
theorem kL_137 : q_LV mL mX11_image 137 0 := ⟨⟨tw_1358, tw_101, ⟨show RX11 ≠ "java/lang/invoke/MethodHandle" by decide, show RX11 ≠ "java/lang/invoke/VarHandle" by decide, show (parseMethodDescriptor "()I").map (fun d => d.parameters.length) = some 0 by decide +kernel⟩, Nat.le_of_ble_eq_true rfl, Nat.le_of_ble_eq_true rfl⟩, tw_1355, tw_1356, tw_1357⟩
theorem kL_138 : q_LV mL mX10_restore 138 0 := ⟨⟨tw_818, tw_91, ⟨show RX10 ≠ "java/lang/invoke/MethodHandle" by decide, show RX10 ≠ "java/lang/invoke/VarHandle" by decide, show (parseMethodDescriptor "()I").map (fun d => d.parameters.length) = some 0 by decide +kernel⟩, Nat.le_of_ble_eq_true rfl, Nat.le_of_ble_eq_true rfl⟩, tw_815, tw_816, tw_817⟩
theorem kL_141 : q_LV mL mX11_restore 141 0 := ⟨⟨tw_1365, tw_101, ⟨show RX11 ≠ "java/lang/invoke/MethodHandle" by decide, show RX11 ≠ "java/lang/invoke/VarHandle" by decide, show (parseMethodDescriptor "()I").map (fun d => d.parameters.length) = some 0 by decide +kernel⟩, Nat.le_of_ble_eq_true rfl, Nat.le_of_ble_eq_true rfl⟩, tw_1362, tw_1363, tw_1364⟩
theorem kL_142 : q_LV mL mX10_count 142 1 := ⟨⟨tw_822, tw_91, ⟨show RX10 ≠ "java/lang/invoke/MethodHandle" by decide, show RX10 ≠ "java/lang/invoke/VarHandle" by decide, show (parseMethodDescriptor "(I)I").map (fun d => d.parameters.length) = some 1 by decide +kernel⟩, Nat.le_of_ble_eq_true rfl, Nat.le_of_ble_eq_true rfl⟩, tw_819, tw_820, tw_821⟩
theorem kL_145 : q_LV mL mX11_count 145 1 := ⟨⟨tw_1369, tw_101, ⟨show RX11 ≠ "java/lang/invoke/MethodHandle" by decide, show RX11 ≠ "java/lang/invoke/VarHandle" by decide, show (parseMethodDescriptor "(I)I").map (fun d => d.parameters.length) = some 1 by decide +kernel⟩, Nat.le_of_ble_eq_true rfl, Nat.le_of_ble_eq_true rfl⟩, tw_1366, tw_1367, tw_1368⟩
theorem kL_146 : q_LV mL mX10_digest 146 0 := ⟨⟨tw_834, tw_91, ⟨show RX10 ≠ "java/lang/invoke/MethodHandle" by decide, show RX10 ≠ "java/lang/invoke/VarHandle" by decide, show (parseMethodDescriptor "()J").map (fun d => d.parameters.length) = some 0 by decide +kernel⟩, Nat.le_of_ble_eq_true rfl, Nat.le_of_ble_eq_true rfl⟩, tw_831, tw_832, tw_833⟩
theorem kL_150 : q_LV mL mX11_digest 150 0 := ⟨⟨tw_1381, tw_101, ⟨show RX11 ≠ "java/lang/invoke/MethodHandle" by decide, show RX11 ≠ "java/lang/invoke/VarHandle" by decide, show (parseMethodDescriptor "()J").map (fun d => d.parameters.length) = some 0 by decide +kernel⟩, Nat.le_of_ble_eq_true rfl, Nat.le_of_ble_eq_true rfl⟩, tw_1378, tw_1379, tw_1380⟩
