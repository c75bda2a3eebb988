def R_law : String := "FeedModulusLaw"
def lw_P (b : Addr) (xs : List Int32) (args : Array Value) (s : State) : Prop := args = #[.ref b] ∧ s.IntsAt b xs ∧ xs.length ≤ 2048 ∧ (Jvm.Cond.and given_1 narrow_1).before args s = true
def lw_Q (_ : Array Value) (s : State) (o : Outcome) (t : State) : Prop := o = .returned (some (.int 1)) ∧ Framed s o t [] 1087 9297
def lw_Z (below : List Frame) (a : Array Value) (s : State) : State → Prop := fun t => ∃ o, t.status = .running ∧ Ended t below o ∧ lw_Q a s o t
/-- the law's own end, with 1 on the stack, nothing written that was there before, its room as the claim has it -/
theorem lw_ret {p : Program} {l : Launch} {e : Env} {s : State} {m : MethodId} {below : List Frame} {meth : Method} {c : Code} {b : Nat} (hx : p.tables.exec = Jvm.exec) (hb : c.code = code) (hr : meth.sig.returnType = ret) (hlocks : meth.locks = false) {pc : Nat} {H : Heap} {ls : Array Slot} (hdg : decode code pc = .ok (.ireturn, 1)) : W p l e room_1 s m #[Value.ref b] below meth c H [] 1087 9297 (lw_Z below #[Value.ref b] s) (F0 m pc ls [.int 1]) := by
  intro T hT X
  obtain ⟨fs, hret, hrun, hended, hW, hframe⟩ := X.leave (v := some (.int 1)) (hlocks := hlocks) (fun h => by rw [hr] at h; cases h)
  have hmeth' : T.vm.method? m = some meth := X.method'
  refine ⟨T.setFrames fs, ?_, .returned (some (.int 1)), hrun, hended, rfl, ⟨_, rfl⟩, hW, hframe⟩
  jvm_step X.here [X.here.top, hx, hb, hdg, hmeth', hr, ret, narrow_b1]
  (try refine ⟨rfl, ?_⟩); (try refine ⟨rfl, ?_⟩)
  first | (intro acts; rw [hret _ acts rfl rfl rfl]) | rw [hret _ _ rfl rfl rfl]
  exact Steps.refl _
/-- what holds at the law's entry: the machine, the code, the tables' words (any of lw_tbl by 'hts w (by decide +kernel)'), the script of L ints xs at the cell b, what the Statement gives of the start (any of its parts by flat_of_before) -/
def lw_At (p : Program) (s : State) (m : MethodId) (meth : Method) (c : Code) (b L : Nat) (xs : Nat → Int32) : Prop :=
  p.tables.exec = Jvm.exec ∧ c.code = code ∧ meth.sig.returnType = ret ∧ c.maxLocals = 8 ∧ s.vm.findClass R_law = some m.cls ∧ (∀ w ∈ lw_tbl, w.before #[Value.ref b] s = true) ∧ va_X b L xs s s.heap ∧ b < s.heap.size ∧ meth.locks = false ∧ (Jvm.Cond.and given_1 narrow_1).before #[Value.ref b] s = true
theorem xs_of {own tx S : String} {k : Nat} {A : Array Value} {U : State} (h1 : (Cond.stringRef own k tx).before A U = true) (h2 : (Cond.exactly (.string own k) S).before A U = true) : ∃ sa : Nat, vk_R own k tx sa U := by
  obtain ⟨a, -, -, -, ha, -⟩ := Cond.exactly_spec h2
  exact ⟨a, vk_R.of h1 ha⟩
set_option maxRecDepth 100000 in
set_option maxHeartbeats 4000000 in
theorem xS_start {s : State} {b : Nat} (hts : ∀ w ∈ lw_tbl, w.before #[Value.ref b] s = true) (hgv : (Jvm.Cond.and given_1 narrow_1).before #[Value.ref b] s = true) : xS s.heap.size s := by
  have hs := flat_of_before _ hgv
  have hA : ∀ a : Nat, a < s.heap.size → ¬ gF s.heap.size a := fun a h q => absurd h (Nat.not_lt.mpr q)
  refine ⟨vx_Zqof (hts _ (List.mem_of_getElem? (i := 209) (by decide +kernel))) (hts _ (List.mem_of_getElem? (i := 33) (by decide +kernel))) (hs _ (by decide +kernel)) hA, vx_Zqof (hts _ (List.mem_of_getElem? (i := 211) (by decide +kernel))) (hts _ (List.mem_of_getElem? (i := 33) (by decide +kernel))) (hs _ (by decide +kernel)) hA, ?_, ?_, ?_⟩
  · intro q hq
    simp only [xStr, List.mem_cons, List.not_mem_nil, or_false] at hq
    rcases hq with rfl | rfl | rfl | rfl | rfl | rfl | rfl | rfl | rfl | rfl | rfl | rfl | rfl | rfl | rfl | rfl | rfl | rfl | rfl | rfl | rfl | rfl | rfl | rfl | rfl
    · exact xs_of (S := "java/lang/String") (hts _ (List.mem_of_getElem? (i := 224) (by decide +kernel))) (hs _ (by decide +kernel))
    · exact xs_of (S := "java/lang/String") (hts _ (List.mem_of_getElem? (i := 263) (by decide +kernel))) (hs _ (by decide +kernel))
    · exact xs_of (S := "java/lang/String") (hts _ (List.mem_of_getElem? (i := 322) (by decide +kernel))) (hs _ (by decide +kernel))
    · exact xs_of (S := "java/lang/String") (hts _ (List.mem_of_getElem? (i := 333) (by decide +kernel))) (hs _ (by decide +kernel))
    · exact xs_of (S := "java/lang/String") (hts _ (List.mem_of_getElem? (i := 334) (by decide +kernel))) (hs _ (by decide +kernel))
    · exact xs_of (S := "java/lang/String") (hts _ (List.mem_of_getElem? (i := 344) (by decide +kernel))) (hs _ (by decide +kernel))
    · exact xs_of (S := "java/lang/String") (hts _ (List.mem_of_getElem? (i := 362) (by decide +kernel))) (hs _ (by decide +kernel))
    · exact xs_of (S := "java/lang/String") (hts _ (List.mem_of_getElem? (i := 390) (by decide +kernel))) (hs _ (by decide +kernel))
    · exact xs_of (S := "java/lang/String") (hts _ (List.mem_of_getElem? (i := 395) (by decide +kernel))) (hs _ (by decide +kernel))
    · exact xs_of (S := "java/lang/String") (hts _ (List.mem_of_getElem? (i := 410) (by decide +kernel))) (hs _ (by decide +kernel))
    · exact xs_of (S := "java/lang/String") (hts _ (List.mem_of_getElem? (i := 442) (by decide +kernel))) (hs _ (by decide +kernel))
    · exact xs_of (S := "java/lang/String") (hts _ (List.mem_of_getElem? (i := 461) (by decide +kernel))) (hs _ (by decide +kernel))
    · exact xs_of (S := "java/lang/String") (hts _ (List.mem_of_getElem? (i := 477) (by decide +kernel))) (hs _ (by decide +kernel))
    · exact xs_of (S := "java/lang/String") (hts _ (List.mem_of_getElem? (i := 512) (by decide +kernel))) (hs _ (by decide +kernel))
    · exact xs_of (S := "java/lang/String") (hts _ (List.mem_of_getElem? (i := 516) (by decide +kernel))) (hs _ (by decide +kernel))
    · exact xs_of (S := "java/lang/String") (hts _ (List.mem_of_getElem? (i := 521) (by decide +kernel))) (hs _ (by decide +kernel))
    · exact xs_of (S := "java/lang/String") (hts _ (List.mem_of_getElem? (i := 526) (by decide +kernel))) (hs _ (by decide +kernel))
    · exact xs_of (S := "java/lang/String") (hts _ (List.mem_of_getElem? (i := 546) (by decide +kernel))) (hs _ (by decide +kernel))
    · exact xs_of (S := "java/lang/String") (hts _ (List.mem_of_getElem? (i := 562) (by decide +kernel))) (hs _ (by decide +kernel))
    · exact xs_of (S := "java/lang/String") (hts _ (List.mem_of_getElem? (i := 575) (by decide +kernel))) (hs _ (by decide +kernel))
    · exact xs_of (S := "java/lang/String") (hts _ (List.mem_of_getElem? (i := 586) (by decide +kernel))) (hs _ (by decide +kernel))
    · exact xs_of (S := "java/lang/String") (hts _ (List.mem_of_getElem? (i := 602) (by decide +kernel))) (hs _ (by decide +kernel))
    · exact xs_of (S := "java/lang/String") (hts _ (List.mem_of_getElem? (i := 607) (by decide +kernel))) (hs _ (by decide +kernel))
    · exact xs_of (S := "java/lang/String") (hts _ (List.mem_of_getElem? (i := 627) (by decide +kernel))) (hs _ (by decide +kernel))
    · exact xs_of (S := "java/lang/String") (hts _ (List.mem_of_getElem? (i := 628) (by decide +kernel))) (hs _ (by decide +kernel))
  · intro w hw
    simp only [xW, List.mem_cons, List.not_mem_nil, or_false] at hw
    rcases hw with rfl | rfl | rfl | rfl | rfl | rfl | rfl
    · exact va_Nw.of rfl (hts _ (List.mem_of_getElem? (i := 186) (by decide +kernel)))
    · exact va_Nw.of rfl (hts _ (List.mem_of_getElem? (i := 188) (by decide +kernel)))
    · exact va_Nw.of rfl (hts _ (List.mem_of_getElem? (i := 190) (by decide +kernel)))
    · exact va_Nw.of rfl (hts _ (List.mem_of_getElem? (i := 184) (by decide +kernel)))
    · exact va_Nw.of rfl (hts _ (List.mem_of_getElem? (i := 256) (by decide +kernel)))
    · exact va_Nw.of rfl (hts _ (List.mem_of_getElem? (i := 315) (by decide +kernel)))
    · exact va_Nw.of rfl (hts _ (List.mem_of_getElem? (i := 355) (by decide +kernel)))
  · intro q hq
    simp only [xNc, List.mem_cons, List.not_mem_nil, or_false] at hq
    rcases hq with rfl | rfl | rfl | rfl | rfl | rfl
    · exact va_Nc.of (hs _ (by decide +kernel))
    · exact va_Nc.of (hs _ (by decide +kernel))
    · exact va_Nc.of (hs _ (by decide +kernel))
    · exact va_Nc.of (hs _ (by decide +kernel))
    · exact va_Nc.of (hs _ (by decide +kernel))
    · exact va_Nc.of (hs _ (by decide +kernel))
