/-! methods that throw: the world stays as it was -/
abbrev eISE : String := "java/lang/IllegalStateException"
abbrev eIAE : String := "java/lang/IllegalArgumentException"
abbrev eIOB : String := "java/lang/IndexOutOfBoundsException"
abbrev eUOE : String := "java/lang/UnsupportedOperationException"
abbrev xNm : List String := ["java/lang/RuntimeException", "java/lang/Exception"]
def xStr : List (Nat × String) := [(217, "there are 12 parts"), (228, "a size is 1 to 1,000 millimetres"), (214, "no such part"), (61, "no such face"), (68, "a face is 0, 1 or 2"), (75, "a fraction has the parts 0 and 1"), (219, "no face of the part cools"), (91, "a part is not joined to itself"), (98, "the parts are so already"), (226, "below 0"), (124, "there are 8 riser rows"), (135, "no riser row is great enough"), (145, "the part has no riser"), (151, "there are 8 flow rows"), (230, "an opening is 0 to 10,000"), (233, "a flow is 0 to 1,000,000"), (162, "openings rise and flows do not fall"), (224, "there are no flow rows"), (171, "no opening lets so much through"), (176, "a shrinkage is 0 to 100 thousandths"), (235, "a molding's size is 1 to 2,000"), (185, "there are 40 things"), (190, "the thing does not fit"), (198, "no such thing"), (200, "a thing begins along 0 and 1")]
def xW : List Cond := [.declares (Bundle.initS "java/lang/RuntimeException"), .declares (Bundle.initS "java/lang/Exception"), .declares (Bundle.initS Bundle.tN), .castable eISE eISE, .castable eIAE eIAE, .castable eIOB eIOB, .castable eUOE eUOE]
def xNc : List (String × String) := [(eIAE, eISE), (eIAE, eIOB), (eUOE, eIOB), (eISE, eIOB), (eUOE, eISE), (eUOE, eIAE)]
def xS (B0 : Nat) (U : State) : Prop := vx_Zq Bundle.tN "UNASSIGNED_STACK" Bundle.steD (gF B0) U U.heap ∧ vx_Zq Bundle.tN "SUPPRESSED_SENTINEL" Bundle.listD (gF B0) U U.heap ∧ (∀ q ∈ xStr, ∃ sa : Nat, vk_R RX q.1 q.2 sa U) ∧ (∀ w ∈ xW, va_Nw w U) ∧ ∀ q ∈ xNc, va_Nc q.1 q.2 U
theorem xW_warm {s U : State} (hW : s.WarmedH U.vm) : ∀ w ∈ xW, va_Nw w s → va_Nw w U := by
  intro w hw
  simp only [xW, List.mem_cons, List.not_mem_nil, or_false] at hw
  rcases hw with rfl | rfl | rfl | rfl | rfl | rfl | rfl
  · exact va_Nw.warmD hW
  · exact va_Nw.warmD hW
  · exact va_Nw.warmD hW
  · exact va_Nw.warmC hW
  · exact va_Nw.warmC hW
  · exact va_Nw.warmC hW
  · exact va_Nw.warmC hW
theorem xW_tab : ∀ w ∈ xW, w.onTables = true := by decide +kernel
theorem xS_to {B0 : Nat} {s U : State} {H : Heap} {locs : List Loc} (h : xS B0 s) (hS : va_S (gF B0) s.heap H locs) (hU : U.heap = H) (hW : s.WarmedH U.vm) : xS B0 U := by
  have hk : ∀ q : Nat, q < s.heap.size → ¬ gF B0 q → U.heap[q]? = s.heap[q]? := fun q h1 h2 => by rw [hU]; exact hS.2.1 q h1 h2
  exact ⟨(h.1.kept hk).moved hW.alike, (h.2.1.kept hk).moved hW.alike, fun q hq => by obtain ⟨sa, h9⟩ := h.2.2.1 q hq; exact ⟨sa, h9.warm hW⟩, fun w hw => xW_warm hW w hw (h.2.2.2.1 w hw), fun q hq => (h.2.2.2.2 q hq).moved hW.alike⟩
theorem xS_call {B0 : Nat} {U : State} {g : JFrame} {mk : MethodId} {x : Array Value} (h : xS B0 U) : xS B0 (U.calling g mk x) :=
  ⟨h.1.moved (u := U) (U := U.calling g mk x) (Vm.Alike.refl U.vm), h.2.1.moved (u := U) (U := U.calling g mk x) (Vm.Alike.refl U.vm), fun q hq => by obtain ⟨sa, h9⟩ := h.2.2.1 q hq; exact ⟨sa, h9.same rfl⟩, fun w hw => va_Nw.same (u := U) (U := U.calling g mk x) (xW_tab w hw) rfl (h.2.2.2.1 w hw), fun q hq => (h.2.2.2.2 q hq).moved (u := U) (U := U.calling g mk x) (Vm.Alike.refl U.vm)⟩
def xPc (D : va_G) (k : ClassId × ClassId × ClassId) (a : Nat → Nat) (B0 : Nat) (w : Nat → va_E) (av : List Value) : Array Value → State → Prop := va_Pc av (fun U => B0 ≤ U.heap.size ∧ gW D a w U.heap ∧ va_K D vwCl (gT k) U ∧ xS B0 U)
theorem xPc_blind {D : va_G} {k : ClassId × ClassId × ClassId} {a : Nat → Nat} {B0 : Nat} {w : Nat → va_E} {av : List Value} : FrameBlind (xPc D k a B0 w av) := fun x U g mk q => by
  obtain ⟨q0, q1, q2, q3, q4⟩ := q
  exact ⟨q0, q1, q2, va_K.moved (u := U) (U := U.calling g mk x) (Vm.Alike.refl U.vm) q3, xS_call q4⟩
/-- E0 is thrown, the world is as it was -/
def xX (D : va_G) (k : ClassId × ClassId × ClassId) (a : Nat → Nat) (B0 : Nat) (w : Nat → va_E) (E0 : String) : String → State → State → Prop := vx_X (S := Nat → va_E) (fun w1 => w1 = w) (fun E w1 t => E = E0 ∧ gB D k a w1 t) (gF B0)
def xNo : Array Value → State → Outcome → State → Prop := fun _ _ _ _ => False
/-- a method that always throws E0 -/
abbrev xMet (l : Launch) (y : MethodName) (b : ByteArray) (maxL : Nat) (ret : Option FieldType) (rm : Room) (D : va_G) (k : ClassId × ClassId × ClassId) (a : Nat → Nat) (B0 : Nat) (w : Nat → va_E) (av : List Value) (E0 : String) : Prop := vx_Met l y (tbw y b maxL ret) rm (xPc D k a B0 w av) xNo (xX D k a B0 w E0) rm.cells rm.slots (gF B0)
section XOF
variable {l : Launch} {D : va_G} {k : ClassId × ClassId × ClassId} {a : Nat → Nat} {B0 : Nat} {w : Nat → va_E}
theorem x_ofW {y : MethodName} {b : ByteArray} {nL : Nat} {ret : Option FieldType} {rm : Room} {av : List Value} {E0 : String} (hy : plainName y.cls = true) (hsl : Nat.ble (lg_sl av).length nL = true)
    (body : ∀ (p : Program) (e : Env) (s : State) (m : MethodId) (args : Array Value) (below : List Frame) (meth : Method) (c : Code) (Q : State → Prop), (∀ t, vx_MQ below xNo (xX D k a B0 w E0) args s rm.cells rm.slots (gF B0) t → Q t) → (∀ x ∈ c.exceptionTable.toList, False) → p.tables.exec = Jvm.exec → c.code = b → meth.sig.returnType = ret → meth.locks = false → c.maxLocals = nL → s.vm.findClass y.cls = some m.cls → (∀ w ∈ TB, w.before args s = true) → B0 ≤ s.heap.size → gW D a w s.heap → va_K D vwCl (gT k) s → va_S (gF B0) s.heap s.heap [] → xS B0 s → ∀ ls : Array Slot, lv_has ls nL (lv_args 0 av) →
      W p l e rm s m args below meth c s.heap [] 0 0 Q (F0 m 0 ls [])) : xMet l y b nL ret rm D k a B0 w av E0 := by
  refine vx_ofW (cc := b) (maxL := nL) (ret := ret) hy rfl ?_
  intro p e s m args below meth c s₁ B hml ht hv
  obtain ⟨rfl, h1, h2, h3, h4⟩ := hv
  have hts := atoms_spec (ws := tbw y b nL ret) B.pre
  have hl := lv_entry av (n := nL) (Nat.le_of_ble_eq_true hsl)
  rw [lg_entry_eq]
  exact body p e s m av.toArray below meth c _ (fun _ h => h) ht B.exec B.bytes B.returns B.notSynchronized hml (findClass_of_methodNamed B.named) (fun w hw => hts w (List.mem_cons_of_mem _ hw)) h1 h2 h3 va_S.rf h4 _ hl
end XOF
/-- the words of a throw -/
def xOK (E : String) (ik ic : Nat) : Prop := Bundle.fit E = true ∧ Cond.classLink RX ik E ∈ TB ∧ Cond.initialized E ∈ TB ∧ (∀ w ∈ (vx_atS RX ic E xNm).filter goodWord, w ∈ TB) ∧ (∀ w ∈ (vx_atS RX ic E xNm).filter (fun w => !goodWord w), w ∈ xW) ∧ ∀ w ∈ Cond.classLink RX ik E :: Cond.initialized E :: vx_atS RX ic E xNm, vx_ot w = true
theorem xat_eISE : ∀ w ∈ (vx_atS RX 100 eISE xNm).filter goodWord, w ∈ lw_tbl := by decide +kernel
theorem xok_eISE : xOK eISE 96 100 := ⟨by decide +kernel, tb_at 182 (by decide +kernel) (by decide +kernel), tb_at 36 (by decide +kernel) (by decide +kernel), fun w h => tb_mem (xat_eISE w h) (List.mem_filter.mp h).2, by decide +kernel, by decide +kernel⟩
theorem xat_eIAE : ∀ w ∈ (vx_atS RX 70 eIAE xNm).filter goodWord, w ∈ lw_tbl := by decide +kernel
theorem xok_eIAE : xOK eIAE 66 70 := ⟨by decide +kernel, tb_at 254 (by decide +kernel) (by decide +kernel), tb_at 37 (by decide +kernel) (by decide +kernel), fun w h => tb_mem (xat_eIAE w h) (List.mem_filter.mp h).2, by decide +kernel, by decide +kernel⟩
theorem xat_eIOB : ∀ w ∈ (vx_atS RX 63 eIOB xNm).filter goodWord, w ∈ lw_tbl := by decide +kernel
theorem xok_eIOB : xOK eIOB 59 63 := ⟨by decide +kernel, tb_at 313 (by decide +kernel) (by decide +kernel), tb_at 38 (by decide +kernel) (by decide +kernel), fun w h => tb_mem (xat_eIOB w h) (List.mem_filter.mp h).2, by decide +kernel, by decide +kernel⟩
theorem xat_eUOE : ∀ w ∈ (vx_atS RX 137 eUOE xNm).filter goodWord, w ∈ lw_tbl := by decide +kernel
theorem xok_eUOE : xOK eUOE 133 137 := ⟨by decide +kernel, tb_at 353 (by decide +kernel) (by decide +kernel), tb_at 39 (by decide +kernel) (by decide +kernel), fun w h => tb_mem (xat_eUOE w h) (List.mem_filter.mp h).2, by decide +kernel, by decide +kernel⟩
section XROWS
variable {p : Program} {l : Launch} {e : Env} {R : Room} {s : State} {m : MethodId} {args : Array Value} {below : List Frame} {meth : Method} {c : Code} {H : Heap} {locs : List Loc} {cells slots : Nat} {Q : State → Prop}
variable {cc : ByteArray} {pc : Nat} {ls : Array Slot} {rest st As : List Value} {D : va_G} {k : ClassId × ClassId × ClassId} {a : Nat → Nat} {B0 : Nat} {w : Nat → va_E}
variable {y : MethodName} {b : ByteArray} {maxL nL n index : Nat} {ret : Option FieldType} {rm : Room} {own : String}
/-- throw new E("text") -/
theorem x_throw {E0 text : String} {ik is ic mc ms : Nat} (hQ : ∀ t, vx_MQ below xNo (xX D k a B0 w E0) args s mc ms (gF B0) t → Q t) (hl9 : l.stackTraces = false) (hE : xOK E0 ik ic) (hstr : (is, text) ∈ xStr) (hx : p.tables.exec = Jvm.exec) (hb : c.code = cc) (hml : c.maxLocals = nL) (hown : s.vm.findClass RX = some m.cls) (hts : ∀ w ∈ TB, w.before args s = true) (hG : gW D a w H) (hK : va_K D vwCl (gT k) s) (hS : va_S (gF B0) s.heap H locs) (hXS : xS B0 s) (hlk : meth.locks = false) (htab : ∀ x ∈ c.exceptionTable.toList, False) (hsz : ls.size = nL)
    (d0 : decode cc pc = .ok (.new ik, 3)) (d3 : decode cc (pc + 3) = .ok (.dup, 1)) (d4 : decode cc (pc + 4) = .ok (.ldc is, 2)) (d6 : decode cc (pc + 6) = .ok (.invokespecial ic, 3)) (d9 : decode cc (pc + 9) = .ok (.athrow, 1))
    (hR1 : 5 < R.frames) (hR2 : (rest.map fun v => v.category).sum + 82 ≤ R.locals) (hR3 : cells + 1 ≤ R.cells) (hR4 : slots + 6 ≤ R.slots) (h1 : cells + 1 ≤ mc) (h2 : slots + 6 ≤ ms) : W p l e R s m args below meth c H locs cells slots Q (F0 m pc ls rest) := by
  obtain ⟨sa, hsa⟩ := hXS.2.2.1 _ hstr
  intro T hT X
  obtain ⟨t, a1, b1⟩ := (vx_throwS (Qc := xNo) (XC := xX D k a B0 w E0) (free := gF B0) (mc := mc) (ms := ms) (A := gF B0) (own := RX) (cls := E0) (text := text) (names := xNm) (ik := ik) (is := is) (ic := ic) (sa := sa) hx hb hl9 hown hE.1 (by decide) (hts _ hE.2.1) (hts _ hE.2.2.1) hsa (vx_hat (B := xW) (fun w hw => hts w (hE.2.2.2.1 w hw)) hE.2.2.2.2.1 (fun w hw => va_Nw.use (xW_tab w hw) (hXS.2.2.2.1 w hw))) hE.2.2.2.2.2 hXS.1 hXS.2.1 hS (hsz.trans hml.symm) d0 d3 d4 d6 d9 (fun x hx9 => (htab x hx9).elim) hR1 hR2 hR3 hR4 hlk
    (fun t ha hz hq => ⟨w, rfl, ⟨rfl, gW_kept hG hq, va_K.moved ha hK⟩, ⟨Nat.le_trans hS.1 hz, fun q h1 h2 => by rw [hq q (Nat.lt_of_lt_of_le h1 hS.1)]; exact hS.2.1 q h1 h2⟩⟩) hS.2.2 h1 h2) T hT X
  exact ⟨t, a1, hQ t b1⟩
/-- what a call that throws hands on -/
theorem x_callB {E0 : String} {st0 : List Value} {mc ms : Nat} {a9 : Array Value} (hr : vx_Run p l e R s m args below meth c H locs cells slots mc ms (F0 m pc ls st0) rest (xNo a9) (xX D k a B0 w E0) (gF B0)) (hS : va_S (gF B0) s.heap H locs)
    (kx : ∀ (ce : Cell) (q9 : Addr) (H1 : Heap) (locs1 : List Loc), gW D a w H1 → va_S (gF B0) s.heap H1 locs1 → H1[q9]? = some ce → ce.vm = .none → s.vm.findClass E0 = some ce.cls → vx_W p l e R s m args below meth c H1 locs1 (cells + mc) (slots + ms) Q (F0 m pc ls rest) q9) : W p l e R s m args below meth c H locs cells slots Q (F0 m pc ls st0) := by
  intro T hT X
  rcases hr T hT X with ⟨v, st₀, t, T', L, h0, X', hL, e1, e2, hno, st9⟩ | ⟨q, st₀, t, T', L, E, ce, h0, X', hL, e1, e2, ⟨u, hu, ⟨hE, hb9⟩, hF⟩, hce, hcv, hcl, st9⟩
  · exact hno.elim
  · subst hu; subst hE
    obtain ⟨k1, k2, k3⟩ := vx_keep (A1 := gF B0) h0 e1 hS (fun q _ h => h) (fun q h => h) hL hF
    obtain ⟨t2, a1, b1⟩ := kx ce q T'.heap (locs ++ L) (by rw [e1]; exact hb9.1) k3 (by rw [e1]; exact hce) hcv hcl T' rfl X'
    exact ⟨t2, st9.trans a1, b1⟩
theorem x_out {E0 : String} {ce : Cell} {q : Addr} {mc ms : Nat} (hQ : ∀ t, vx_MQ below xNo (xX D k a B0 w E0) args s mc ms (gF B0) t → Q t) (htab : ∀ x ∈ c.exceptionTable.toList, False) (hlk : meth.locks = false) (hG : gW D a w H) (hK : va_K D vwCl (gT k) s) (hS : va_S (gF B0) s.heap H locs) (hce : H[q]? = some ce) (hv : ce.vm = .none) (hcl : s.vm.findClass E0 = some ce.cls) (h1 : cells ≤ mc) (h2 : slots ≤ ms) : vx_W p l e R s m args below meth c H locs cells slots Q (F0 m pc ls rest) q := by
  intro T hT X
  obtain ⟨t, a1, b1⟩ := (vx_out (Qc := xNo) (XC := xX D k a B0 w E0) (free := gF B0) (E := E0) (fun x hx9 => (htab x hx9).elim) hlk hce hv hcl (fun t ht ha => ⟨w, rfl, ⟨rfl, by rw [ht]; exact hG, va_K.moved ha hK⟩, hS.F ht⟩) hS.2.2 h1 h2) T hT X
  exact ⟨t, a1, hQ t b1⟩
theorem x_VX {E0 : String} {i : Nat} (hM : xMet l y b maxL ret rm D k a B0 w (.ref (a i) :: As) E0) (hc : cal y b maxL ret n) (hv : calV y) (hl : Cond.methodLink own index y ∈ TB) (hx : p.tables.exec = Jvm.exec) (hb : c.code = cc) (hml : c.maxLocals = nL) (hown : s.vm.findClass own = some m.cls) (hts : ∀ w ∈ TB, w.before args s = true) (hB : B0 ≤ s.heap.size) (hG : gW D a w H) (hK : va_K D vwCl (gT k) s) (hS : va_S (gF B0) s.heap H locs) (hXS : xS B0 s)
    (hi : i < gN) {ci : Nat} {fs : List Value} {T : u_T} {N : Nat} (he : w i = .inr (ci, fs)) (hcl : vwCl[ci]? = some (y.cls, T, N)) (hR : rm.frames + 1 ≤ R.frames ∧ 8 + (maxL + 11) + rm.locals ≤ R.locals) (hn : As.length = n) (hsz : ls.size = nL) (hst : st = As.reverse ++ .ref (a i) :: rest) (hW : (rest.map fun v => v.category).sum ≤ 8) (hdg : decode cc pc = .ok (.invokevirtual index, 3)) (hf : cells + rm.cells ≤ R.cells ∧ slots + rm.slots ≤ R.slots)
    (kx : ∀ (ce : Cell) (q9 : Addr) (H1 : Heap) (locs1 : List Loc), gW D a w H1 → va_S (gF B0) s.heap H1 locs1 → H1[q9]? = some ce → ce.vm = .none → s.vm.findClass E0 = some ce.cls → vx_W p l e R s m args below meth c H1 locs1 (cells + rm.cells) (slots + rm.slots) Q (F0 m pc ls rest) q9) : W p l e R s m args below meth c H locs cells slots Q (F0 m pc ls st) := by
  subst hst
  exact x_callB (vx_runV (As := As) (rest := rest) ⟨hx, hb, hml, hown, hts⟩ hM (g_cwV hts hc hv hl hR) ⟨xPc_blind, va_recv hK (g_one hG hi he) (q0 := 0) hcl rfl, fun U hU hW => ⟨rfl, by rw [hU]; exact Nat.le_trans hB hS.1, by rw [hU]; exact hG, va_K.moved hW.alike hK, xS_to hXS hS hU hW⟩⟩ rfl hn hsz rfl (lv_room hW) hdg hf) hS kx
theorem x_VB {E0 : String} {i : Nat} {mc ms : Nat} (hQ : ∀ t, vx_MQ below xNo (xX D k a B0 w E0) args s mc ms (gF B0) t → Q t) (htab : ∀ x ∈ c.exceptionTable.toList, False) (hlk : meth.locks = false) (hM : xMet l y b maxL ret rm D k a B0 w (.ref (a i) :: As) E0) (hc : cal y b maxL ret n) (hv : calV y) (hl : Cond.methodLink own index y ∈ TB) (hx : p.tables.exec = Jvm.exec) (hb : c.code = cc) (hml : c.maxLocals = nL) (hown : s.vm.findClass own = some m.cls) (hts : ∀ w ∈ TB, w.before args s = true) (hB : B0 ≤ s.heap.size) (hG : gW D a w H) (hK : va_K D vwCl (gT k) s) (hS : va_S (gF B0) s.heap H locs) (hXS : xS B0 s)
    (hi : i < gN) {ci : Nat} {fs : List Value} {T : u_T} {N : Nat} (he : w i = .inr (ci, fs)) (hcl : vwCl[ci]? = some (y.cls, T, N)) (hR : rm.frames + 1 ≤ R.frames ∧ 8 + (maxL + 11) + rm.locals ≤ R.locals) (hn : As.length = n) (hsz : ls.size = nL) (hst : st = As.reverse ++ .ref (a i) :: rest) (hW : (rest.map fun v => v.category).sum ≤ 8) (hdg : decode cc pc = .ok (.invokevirtual index, 3)) (hf : cells + rm.cells ≤ R.cells ∧ slots + rm.slots ≤ R.slots) (h1 : cells + rm.cells ≤ mc) (h2 : slots + rm.slots ≤ ms) : W p l e R s m args below meth c H locs cells slots Q (F0 m pc ls st) :=
  x_VX hM hc hv hl hx hb hml hown hts hB hG hK hS hXS hi he hcl hR hn hsz hst hW hdg hf (fun ce q9 H1 locs1 hG1 hS1 hce hcv hcl9 => x_out hQ htab hlk hG1 hK hS1 hce hcv hcl9 h1 h2)
theorem x_SX {E0 : String} (hM : xMet l y b maxL ret rm D k a B0 w (As) E0) (hc : cal y b maxL ret n) (hv : calS y) (hl : Cond.methodLink own index y ∈ TB) (hx : p.tables.exec = Jvm.exec) (hb : c.code = cc) (hml : c.maxLocals = nL) (hown : s.vm.findClass own = some m.cls) (hts : ∀ w ∈ TB, w.before args s = true) (hB : B0 ≤ s.heap.size) (hG : gW D a w H) (hK : va_K D vwCl (gT k) s) (hS : va_S (gF B0) s.heap H locs) (hXS : xS B0 s)
    (hR : rm.frames + 1 ≤ R.frames ∧ 8 + (maxL + 11) + rm.locals ≤ R.locals) (hn : As.length = n) (hsz : ls.size = nL) (hst : st = As.reverse ++ rest) (hW : (rest.map fun v => v.category).sum ≤ 8) (hdg : decode cc pc = .ok (.invokestatic index, 3)) (hf : cells + rm.cells ≤ R.cells ∧ slots + rm.slots ≤ R.slots)
    (kx : ∀ (ce : Cell) (q9 : Addr) (H1 : Heap) (locs1 : List Loc), gW D a w H1 → va_S (gF B0) s.heap H1 locs1 → H1[q9]? = some ce → ce.vm = .none → s.vm.findClass E0 = some ce.cls → vx_W p l e R s m args below meth c H1 locs1 (cells + rm.cells) (slots + rm.slots) Q (F0 m pc ls rest) q9) : W p l e R s m args below meth c H locs cells slots Q (F0 m pc ls st) := by
  subst hst
  exact x_callB (vx_runS (As := As) (rest := rest) ⟨hx, hb, hml, hown, hts⟩ hM (⟨g_cwB hts hc hl hR, hts _ hv⟩) ⟨xPc_blind, fun U hU hW => ⟨rfl, by rw [hU]; exact Nat.le_trans hB hS.1, by rw [hU]; exact hG, va_K.moved hW.alike hK, xS_to hXS hS hU hW⟩⟩ rfl hn hsz rfl (lv_room hW) hdg hf) hS kx
theorem x_SB {E0 : String} {mc ms : Nat} (hQ : ∀ t, vx_MQ below xNo (xX D k a B0 w E0) args s mc ms (gF B0) t → Q t) (htab : ∀ x ∈ c.exceptionTable.toList, False) (hlk : meth.locks = false) (hM : xMet l y b maxL ret rm D k a B0 w (As) E0) (hc : cal y b maxL ret n) (hv : calS y) (hl : Cond.methodLink own index y ∈ TB) (hx : p.tables.exec = Jvm.exec) (hb : c.code = cc) (hml : c.maxLocals = nL) (hown : s.vm.findClass own = some m.cls) (hts : ∀ w ∈ TB, w.before args s = true) (hB : B0 ≤ s.heap.size) (hG : gW D a w H) (hK : va_K D vwCl (gT k) s) (hS : va_S (gF B0) s.heap H locs) (hXS : xS B0 s)
    (hR : rm.frames + 1 ≤ R.frames ∧ 8 + (maxL + 11) + rm.locals ≤ R.locals) (hn : As.length = n) (hsz : ls.size = nL) (hst : st = As.reverse ++ rest) (hW : (rest.map fun v => v.category).sum ≤ 8) (hdg : decode cc pc = .ok (.invokestatic index, 3)) (hf : cells + rm.cells ≤ R.cells ∧ slots + rm.slots ≤ R.slots) (h1 : cells + rm.cells ≤ mc) (h2 : slots + rm.slots ≤ ms) : W p l e R s m args below meth c H locs cells slots Q (F0 m pc ls st) :=
  x_SX hM hc hv hl hx hb hml hown hts hB hG hK hS hXS hR hn hsz hst hW hdg hf (fun ce q9 H1 locs1 hG1 hS1 hce hcv hcl9 => x_out hQ htab hlk hG1 hK hS1 hce hcv hcl9 h1 h2)
end XROWS
