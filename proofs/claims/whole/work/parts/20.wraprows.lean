abbrev tbwH (y : MethodName) (b : ByteArray) (n : Nat) (r : Option FieldType) (hh : List (Nat × Nat × Nat × Nat)) : List Cond := Cond.codeWith y b n r hh :: TB
def calH (y : MethodName) (b : ByteArray) (maxL : Nat) (ret : Option FieldType) (hh : List (Nat × Nat × Nat × Nat)) (n : Nat) : Prop := Cond.codeWith y b maxL ret hh ∈ TB ∧ Cond.initialized y.cls ∈ TB ∧ Cond.static y ∈ TB ∧ y.cls ≠ "java/lang/invoke/MethodHandle" ∧ y.cls ≠ "java/lang/invoke/VarHandle" ∧ (parseMethodDescriptor y.desc).map (fun d => d.parameters.length) = some n
section HOF
variable {l : Launch} {D : va_G} {k : ClassId × ClassId × ClassId} {a : Nat → Nat} {B0 : Nat} {w : Nat → va_E}
theorem h_ofW {y : MethodName} {b : ByteArray} {nL : Nat} {ret : Option FieldType} {hh : List (Nat × Nat × Nat × Nat)} {rm : Room} {av : List Value} {Qc : Array Value → State → Outcome → State → Prop} {mc ms : Nat} {free : Addr → Prop} (hy : plainName y.cls = true) (hsl : Nat.ble (lg_sl av).length nL = true)
    (body : ∀ (p : Program) (e : Env) (s : State) (m : MethodId) (args : Array Value) (below : List Frame) (meth : Method) (c : Code) (Q : State → Prop), (∀ t, MQ below Qc args s mc ms free t → Q t) → p.tables.exec = Jvm.exec → c.code = b → meth.sig.returnType = ret → meth.locks = false → c.maxLocals = nL → s.vm.findClass y.cls = some m.cls → (∀ w ∈ TB, w.before args s = true) → B0 ≤ s.heap.size → gW D a w s.heap → va_K D vwCl (gT k) s → va_S (gF B0) s.heap s.heap [] → ∀ ls : Array Slot, lv_has ls nL (lv_args 0 av) →
      W p l e rm s m args below meth c s.heap [] 0 0 Q (F0 m 0 ls [])) : Met l y (tbwH y b nL ret hh) rm (gPc D k a B0 w av) Qc mc ms free := by
  refine va_MetW (cc := b) (maxL := nL) (ret := ret) (hh := hh) hy rfl ?_
  intro p e s m args below meth c s₁ B hml hv
  obtain ⟨rfl, h1, h2, h3⟩ := hv
  have hts := atoms_spec (ws := tbwH y b nL ret hh) B.pre
  have hl := lv_entry av (n := nL) (Nat.le_of_ble_eq_true hsl)
  rw [lg_entry_eq]
  exact body p e s m av.toArray below meth c _ (fun _ h => h) B.exec B.bytes B.returns B.notSynchronized hml (findClass_of_methodNamed B.named) (fun w hw => hts w (List.mem_cons_of_mem _ hw)) h1 h2 h3 va_S.rf _ hl
theorem y_ofW {y : MethodName} {b : ByteArray} {nL : Nat} {ret : Option FieldType} {hh : List (Nat × Nat × Nat × Nat)} {rm : Room} {av : List Value} {Qc : Array Value → State → Outcome → State → Prop} {mc ms : Nat} {free : Addr → Prop} (hy : plainName y.cls = true) (hsl : Nat.ble (lg_sl av).length nL = true)
    (body : ∀ (p : Program) (e : Env) (s : State) (m : MethodId) (args : Array Value) (below : List Frame) (meth : Method) (c : Code) (Q : State → Prop), (∀ t, MQ below Qc args s mc ms free t → Q t) → c.exceptionTable.toList = tableOf hh → p.tables.exec = Jvm.exec → c.code = b → meth.sig.returnType = ret → meth.locks = false → c.maxLocals = nL → s.vm.findClass y.cls = some m.cls → (∀ w ∈ TB, w.before args s = true) → B0 ≤ s.heap.size → gW D a w s.heap → va_K D vwCl (gT k) s → va_S (gF B0) s.heap s.heap [] → xS B0 s → ∀ ls : Array Slot, lv_has ls nL (lv_args 0 av) →
      W p l e rm s m args below meth c s.heap [] 0 0 Q (F0 m 0 ls [])) : Met l y (tbwH y b nL ret hh) rm (xPc D k a B0 w av) Qc mc ms free := by
  refine va_MetW (cc := b) (maxL := nL) (ret := ret) (hh := hh) hy rfl ?_
  intro p e s m args below meth c s₁ B hml hv
  obtain ⟨rfl, h1, h2, h3, h4⟩ := hv
  have hts := atoms_spec (ws := tbwH y b nL ret hh) B.pre
  have ht := vx_table (x := y) B (hts _ List.mem_cons_self)
  have hl := lv_entry av (n := nL) (Nat.le_of_ble_eq_true hsl)
  rw [lg_entry_eq]
  exact body p e s m av.toArray below meth c _ (fun _ h => h) ht B.exec B.bytes B.returns B.notSynchronized hml (findClass_of_methodNamed B.named) (fun w hw => hts w (List.mem_cons_of_mem _ hw)) h1 h2 h3 va_S.rf h4 _ hl
end HOF
section HROWS
variable {p : Program} {l : Launch} {e : Env} {R : Room} {s : State} {m : MethodId} {args : Array Value} {below : List Frame} {meth : Method} {c : Code} {H : Heap} {locs : List Loc} {cells slots : Nat} {Q : State → Prop}
variable {cc : ByteArray} {pc : Nat} {ls : Array Slot} {rest st As : List Value} {D : va_G} {k : ClassId × ClassId × ClassId} {a : Nat → Nat} {B0 : Nat} {w : Nat → va_E}
variable {y : MethodName} {b : ByteArray} {maxL nL n index : Nat} {ret : Option FieldType} {rm : Room} {own : String} {hh : List (Nat × Nat × Nat × Nat)}
theorem h_cw (ht : ∀ w ∈ TB, w.before args s = true) (hc : calH y b maxL ret hh n) (hl : Cond.methodLink own index y ∈ TB) (hR : rm.frames + 1 ≤ R.frames ∧ 8 + (maxL + 11) + rm.locals ≤ R.locals) : vx_CSW R s args own index y b maxL ret hh (tbwH y b maxL ret hh) rm rm.cells rm.slots n :=
  ⟨⟨rfl, rfl, hR.1, hR.2, pay_in ht (fun w hw => by
    have h1 : w ∈ TB := (List.mem_cons.mp hw).elim (fun e => e ▸ hc.1) id
    exact ⟨h1, tb_good h1⟩), List.mem_cons_self⟩, ht _ hc.1, ht _ hc.2.1, ⟨hc.2.2.2.1, hc.2.2.2.2.1⟩, fun sig h => by
    have h2 := hc.2.2.2.2.2
    rw [h] at h2
    exact (Option.some.inj h2).symm, ht _ hl, ht _ hc.2.2.1⟩
/-- a wrapper that meets no throw -/
theorem h_Si {post : Int32 → (Nat → va_E) → Prop} (hM : Met l y (tbwH y b maxL ret hh) rm (gPc D k a B0 w As) (va_Qi post (gB D k a) (gF B0)) rm.cells rm.slots (gF B0)) (hc : calH y b maxL ret hh n) (hl : Cond.methodLink own index y ∈ TB) (hx : p.tables.exec = Jvm.exec) (hb : c.code = cc) (hml : c.maxLocals = nL) (hown : s.vm.findClass own = some m.cls) (hts : ∀ w ∈ TB, w.before args s = true) (hB : B0 ≤ s.heap.size) (hG : gW D a w H) (hK : va_K D vwCl (gT k) s) (hS : va_S (gF B0) s.heap H locs)
    (hR : rm.frames + 1 ≤ R.frames ∧ 8 + (maxL + 11) + rm.locals ≤ R.locals) (hn : As.length = n) (hsz : ls.size = nL) (hst : st = As.reverse ++ rest) (hW : (rest.map fun v => v.category).sum ≤ 8) (hdg : decode cc pc = .ok (.invokestatic index, 3)) (hf : cells + rm.cells ≤ R.cells ∧ slots + rm.slots ≤ R.slots)
    (kk : ∀ (r : Int32) (w1 : Nat → va_E) (H1 : Heap) (locs1 : List Loc), post r w1 → gW D a w1 H1 → va_S (gF B0) s.heap H1 locs1 → W p l e R s m args below meth c H1 locs1 (cells + rm.cells) (slots + rm.slots) Q (F0 m (pc + 3) ls (.int r :: rest))) : W p l e R s m args below meth c H locs cells slots Q (F0 m pc ls st) := by
  subst hst
  refine va_calli (vx_runSW (As := As) (rest := rest) ⟨hx, hb, hml, hown, hts⟩ hM (h_cw hts hc hl hR) ⟨gPc_blind, fun U hU hW => ⟨rfl, by rw [hU]; exact Nat.le_trans hB hS.1, by rw [hU]; exact hG, va_K.moved hW.alike hK⟩⟩ rfl hn hsz rfl (lv_room hW) hdg hf) hS (fun q _ h => h) (fun q h => h) (fun r u t H1 locs1 ht hvm hp hB hz hk hS1 => kk r u H1 locs1 hp (by rw [← ht]; exact hB.1) hS1)
/-- a wrapper that catches -/
theorem y_Si {E : Int32} (hM : Met l y (tbwH y b maxL ret hh) rm (xPc D k a B0 w As) (va_Qi (roP E w) (gB D k a) (gF B0)) rm.cells rm.slots (gF B0)) (hc : calH y b maxL ret hh n) (hl : Cond.methodLink own index y ∈ TB) (hx : p.tables.exec = Jvm.exec) (hb : c.code = cc) (hml : c.maxLocals = nL) (hown : s.vm.findClass own = some m.cls) (hts : ∀ w ∈ TB, w.before args s = true) (hB : B0 ≤ s.heap.size) (hG : gW D a w H) (hK : va_K D vwCl (gT k) s) (hS : va_S (gF B0) s.heap H locs) (hXS : xS B0 s)
    (hR : rm.frames + 1 ≤ R.frames ∧ 8 + (maxL + 11) + rm.locals ≤ R.locals) (hn : As.length = n) (hsz : ls.size = nL) (hst : st = As.reverse ++ rest) (hW : (rest.map fun v => v.category).sum ≤ 8) (hdg : decode cc pc = .ok (.invokestatic index, 3)) (hf : cells + rm.cells ≤ R.cells ∧ slots + rm.slots ≤ R.slots)
    (kk : ∀ (H1 : Heap) (locs1 : List Loc), gW D a w H1 → va_S (gF B0) s.heap H1 locs1 → W p l e R s m args below meth c H1 locs1 (cells + rm.cells) (slots + rm.slots) Q (F0 m (pc + 3) ls (.int E :: rest))) : W p l e R s m args below meth c H locs cells slots Q (F0 m pc ls st) := by
  subst hst
  refine va_calli (vx_runSW (As := As) (rest := rest) ⟨hx, hb, hml, hown, hts⟩ hM (h_cw hts hc hl hR) ⟨xPc_blind, fun U hU hW => ⟨rfl, by rw [hU]; exact Nat.le_trans hB hS.1, by rw [hU]; exact hG, va_K.moved hW.alike hK, xS_to hXS hS hU hW⟩⟩ rfl hn hsz rfl (lv_room hW) hdg hf) hS (fun q _ h => h) (fun q h => h) (fun r u t H1 locs1 ht hvm hp hB hz hk hS1 => by
    obtain ⟨e1, e2⟩ := hp
    rw [e1]
    exact kk H1 locs1 (by rw [← ht, ← e2]; exact hB.1) hS1)
end HROWS
abbrev hh_box : List (Nat × Nat × Nat × Nat) := [(0, 12, 15, 13), (0, 12, 19, 15)]
theorem calL_box : calH yL_box cL_box 6 (some .int) hh_box 5 := ⟨tb_at 167 (by decide +kernel) (by decide +kernel), tb_at 26 (by decide +kernel) (by decide +kernel), tb_at 166 (by decide +kernel) (by decide +kernel), by decide +kernel, by decide +kernel, by decide +kernel⟩
theorem clL_13 : Cond.classLink RL 13 eISE ∈ TB := tb_at 168 (by decide +kernel) (by decide +kernel)
theorem clL_15 : Cond.classLink RL 15 eIAE ∈ TB := tb_at 169 (by decide +kernel) (by decide +kernel)
abbrev hh_cylinder : List (Nat × Nat × Nat × Nat) := [(0, 10, 13, 13), (0, 10, 17, 15)]
theorem calL_cylinder : calH yL_cylinder cL_cylinder 5 (some .int) hh_cylinder 4 := ⟨tb_at 288 (by decide +kernel) (by decide +kernel), tb_at 26 (by decide +kernel) (by decide +kernel), tb_at 287 (by decide +kernel) (by decide +kernel), by decide +kernel, by decide +kernel, by decide +kernel⟩
abbrev hh_face : List (Nat × Nat × Nat × Nat) := [(0, 7, 10, 25), (0, 7, 14, 15)]
theorem calL_face : calH yL_face cL_face 5 (some .int) hh_face 4 := ⟨tb_at 299 (by decide +kernel) (by decide +kernel), tb_at 26 (by decide +kernel) (by decide +kernel), tb_at 298 (by decide +kernel) (by decide +kernel), by decide +kernel, by decide +kernel, by decide +kernel⟩
theorem clL_25 : Cond.classLink RL 25 eIOB ∈ TB := tb_at 300 (by decide +kernel) (by decide +kernel)
abbrev hh_modulus : List (Nat × Nat × Nat × Nat) := [(0, 9, 12, 25), (0, 9, 16, 31)]
theorem calL_modulus : calH yL_modulus cL_modulus 5 (some .int) hh_modulus 4 := ⟨tb_at 338 (by decide +kernel) (by decide +kernel), tb_at 26 (by decide +kernel) (by decide +kernel), tb_at 337 (by decide +kernel) (by decide +kernel), by decide +kernel, by decide +kernel, by decide +kernel⟩
theorem clL_31 : Cond.classLink RL 31 eUOE ∈ TB := tb_at 339 (by decide +kernel) (by decide +kernel)
abbrev hh_join : List (Nat × Nat × Nat × Nat) := [(0, 7, 10, 25), (0, 7, 14, 13)]
theorem calL_join : calH yL_join cL_join 5 (some .int) hh_join 4 := ⟨tb_at 385 (by decide +kernel) (by decide +kernel), tb_at 26 (by decide +kernel) (by decide +kernel), tb_at 384 (by decide +kernel) (by decide +kernel), by decide +kernel, by decide +kernel, by decide +kernel⟩
abbrev hh_order : List (Nat × Nat × Nat × Nat) := [(0, 9, 12, 25)]
theorem calL_order : calH yL_order cL_order 4 (some .int) hh_order 3 := ⟨tb_at 402 (by decide +kernel) (by decide +kernel), tb_at 26 (by decide +kernel) (by decide +kernel), tb_at 401 (by decide +kernel) (by decide +kernel), by decide +kernel, by decide +kernel, by decide +kernel⟩
abbrev hh_riserRow : List (Nat × Nat × Nat × Nat) := [(0, 10, 13, 13), (0, 10, 17, 15)]
theorem calL_riserRow : calH yL_riserRow cL_riserRow 5 (some .int) hh_riserRow 4 := ⟨tb_at 433 (by decide +kernel) (by decide +kernel), tb_at 26 (by decide +kernel) (by decide +kernel), tb_at 432 (by decide +kernel) (by decide +kernel), by decide +kernel, by decide +kernel, by decide +kernel⟩
abbrev hh_riser : List (Nat × Nat × Nat × Nat) := [(0, 9, 12, 25), (0, 9, 15, 31)]
theorem calL_riser : calH yL_riser cL_riser 4 (some .int) hh_riser 3 := ⟨tb_at 450 (by decide +kernel) (by decide +kernel), tb_at 26 (by decide +kernel) (by decide +kernel), tb_at 449 (by decide +kernel) (by decide +kernel), by decide +kernel, by decide +kernel, by decide +kernel⟩
abbrev hh_cutOff : List (Nat × Nat × Nat × Nat) := [(0, 5, 8, 25), (0, 5, 11, 13)]
theorem calL_cutOff : calH yL_cutOff cL_cutOff 3 (some .int) hh_cutOff 2 := ⟨tb_at 468 (by decide +kernel) (by decide +kernel), tb_at 26 (by decide +kernel) (by decide +kernel), tb_at 467 (by decide +kernel) (by decide +kernel), by decide +kernel, by decide +kernel, by decide +kernel⟩
abbrev hh_feeder : List (Nat × Nat × Nat × Nat) := [(0, 9, 12, 25)]
theorem calL_feeder : calH yL_feeder cL_feeder 4 (some .int) hh_feeder 3 := ⟨tb_at 480 (by decide +kernel) (by decide +kernel), tb_at 26 (by decide +kernel) (by decide +kernel), tb_at 479 (by decide +kernel) (by decide +kernel), by decide +kernel, by decide +kernel, by decide +kernel⟩
abbrev hh_unfed : List (Nat × Nat × Nat × Nat) := [(0, 9, 12, 25)]
theorem calL_unfed : calH yL_unfed cL_unfed 4 (some .int) hh_unfed 3 := ⟨tb_at 496 (by decide +kernel) (by decide +kernel), tb_at 26 (by decide +kernel) (by decide +kernel), tb_at 495 (by decide +kernel) (by decide +kernel), by decide +kernel, by decide +kernel, by decide +kernel⟩
abbrev hh_flowRow : List (Nat × Nat × Nat × Nat) := [(0, 10, 13, 13), (0, 10, 17, 15), (0, 10, 21, 31)]
theorem calL_flowRow : calH yL_flowRow cL_flowRow 5 (some .int) hh_flowRow 4 := ⟨tb_at 503 (by decide +kernel) (by decide +kernel), tb_at 26 (by decide +kernel) (by decide +kernel), tb_at 502 (by decide +kernel) (by decide +kernel), by decide +kernel, by decide +kernel, by decide +kernel⟩
abbrev hh_flow : List (Nat × Nat × Nat × Nat) := [(0, 9, 12, 13), (0, 9, 15, 15)]
theorem calL_flow : calH yL_flow cL_flow 4 (some .int) hh_flow 3 := ⟨tb_at 533 (by decide +kernel) (by decide +kernel), tb_at 26 (by decide +kernel) (by decide +kernel), tb_at 532 (by decide +kernel) (by decide +kernel), by decide +kernel, by decide +kernel, by decide +kernel⟩
abbrev hh_gate : List (Nat × Nat × Nat × Nat) := [(0, 9, 12, 13), (0, 9, 15, 15), (0, 9, 18, 31)]
theorem calL_gate : calH yL_gate cL_gate 4 (some .int) hh_gate 3 := ⟨tb_at 557 (by decide +kernel) (by decide +kernel), tb_at 26 (by decide +kernel) (by decide +kernel), tb_at 556 (by decide +kernel) (by decide +kernel), by decide +kernel, by decide +kernel, by decide +kernel⟩
abbrev hh_pattern : List (Nat × Nat × Nat × Nat) := [(0, 10, 13, 15)]
theorem calL_pattern : calH yL_pattern cL_pattern 5 (some .int) hh_pattern 4 := ⟨tb_at 570 (by decide +kernel) (by decide +kernel), tb_at 26 (by decide +kernel) (by decide +kernel), tb_at 569 (by decide +kernel) (by decide +kernel), by decide +kernel, by decide +kernel, by decide +kernel⟩
abbrev hh_molding : List (Nat × Nat × Nat × Nat) := [(0, 6, 9, 15)]
theorem calL_molding : calH yL_molding cL_molding 4 (some .int) hh_molding 3 := ⟨tb_at 578 (by decide +kernel) (by decide +kernel), tb_at 26 (by decide +kernel) (by decide +kernel), tb_at 577 (by decide +kernel) (by decide +kernel), by decide +kernel, by decide +kernel, by decide +kernel⟩
abbrev hh_pack : List (Nat × Nat × Nat × Nat) := [(0, 10, 13, 13), (0, 10, 17, 15), (0, 10, 21, 31)]
theorem calL_pack : calH yL_pack cL_pack 5 (some .int) hh_pack 4 := ⟨tb_at 593 (by decide +kernel) (by decide +kernel), tb_at 26 (by decide +kernel) (by decide +kernel), tb_at 592 (by decide +kernel) (by decide +kernel), by decide +kernel, by decide +kernel, by decide +kernel⟩
abbrev hh_packed : List (Nat × Nat × Nat × Nat) := [(0, 10, 13, 25)]
theorem calL_packed : calH yL_packed cL_packed 5 (some .int) hh_packed 4 := ⟨tb_at 618 (by decide +kernel) (by decide +kernel), tb_at 26 (by decide +kernel) (by decide +kernel), tb_at 617 (by decide +kernel) (by decide +kernel), by decide +kernel, by decide +kernel, by decide +kernel⟩
