/-! my own layer: a world is a function from cell numbers to cells; numbers as nI, booleans as b2i -/
noncomputable def b2i (P : Prop) : Int32 := @ite Int32 P (Classical.propDecidable P) 1 0
theorem b2i_t {P : Prop} (h : P) : b2i P = 1 := if_pos h
theorem b2i_f {P : Prop} (h : ¬ P) : b2i P = 0 := if_neg h
theorem b2i_0 {P : Prop} : b2i P = 0 ↔ ¬ P := by
  by_cases h : P
  · rw [b2i_t h]; exact ⟨fun q => absurd q (by decide), fun q => absurd h q⟩
  · rw [b2i_f h]; exact ⟨fun _ => h, fun _ => rfl⟩
theorem b2i_1 {P : Prop} : b2i P = 1 ↔ P := by
  by_cases h : P
  · rw [b2i_t h]; exact ⟨fun _ => h, fun _ => rfl⟩
  · rw [b2i_f h]; exact ⟨fun q => absurd q (by decide), fun q => absurd q h⟩
theorem b2i_c {P Q : Prop} (h : P ↔ Q) : b2i P = b2i Q := by rw [propext h]
theorem b2i_nar (P : Prop) : narrow .boolean (.int (b2i P)) = .int (b2i P) := by
  by_cases h : P
  · rw [b2i_t h]; decide
  · rw [b2i_f h]; decide
theorem b2i_vnar (P : Prop) : vp_nar .boolean (b2i P) = b2i P := by
  by_cases h : P
  · rw [b2i_t h]; decide
  · rw [b2i_f h]; decide
def TB : List Cond := lw_tbl.filter goodWord
theorem tb_mem {w : Cond} (h : w ∈ lw_tbl) (g : goodWord w = true) : w ∈ TB := List.mem_filter.mpr ⟨h, g⟩
theorem tb_at (i : Nat) {w : Cond} (h : lw_tbl[i]? = some w) (g : goodWord w = true) : w ∈ TB := tb_mem (List.mem_of_getElem? h) g
theorem tb_good {w : Cond} (h : w ∈ TB) : (w.onTables && w.keeps) = true ∨ ∃ ty, w = .arrayClass ty := good_of_word (List.mem_filter.mp h).2
/-- a method's words: its code ahead of the table -/
abbrev tbw (y : MethodName) (b : ByteArray) (n : Nat) (r : Option FieldType) : List Cond := Cond.code y b n r :: TB
abbrev gN : Nat := 38
def gF (B0 : Nat) : Nat → Prop := fun q => B0 ≤ q
def gW (D : va_G) (a : Nat → Nat) (w : Nat → va_E) (H : Heap) : Prop := ∀ i, i < gN → va_at D vwCl (a i, w i) H
def gA (B0 : Nat) (a : Nat → Nat) : Prop := (∀ i j, i < gN → j < gN → a i = a j → i = j) ∧ ∀ i, i < gN → B0 ≤ a i
def gT (k : ClassId × ClassId × ClassId) : List (ClassId × FieldType) := [(k.1, .int), (k.2.1, .long), (k.2.2, .boolean)]
def gL (a : Nat → Nat) (w : Nat → va_E) : va_W := (List.range gN).map (fun i => (a i, w i))
theorem gL_at (a : Nat → Nat) (w : Nat → va_E) {i : Nat} (h : i < gN) : (gL a w)[i]? = some (a i, w i) := by
  simp [gL, List.getElem?_map, List.getElem?_range h]
theorem gL_of {a : Nat → Nat} {w : Nat → va_E} {k : Nat} {q : Nat × va_E} (h : (gL a w)[k]? = some q) : k < gN ∧ q = (a k, w k) := by
  by_cases hk : k < gN
  · rw [gL_at a w hk] at h; exact ⟨hk, (Option.some.inj h).symm⟩
  · rw [List.getElem?_eq_none (by simpa [gL] using hk)] at h; cases h
theorem gW_P {D : va_G} {a : Nat → Nat} {w : Nat → va_E} {H : Heap} (h : gW D a w H) : va_P D vwCl (gL a w) H := fun k q hq => by
  obtain ⟨h1, rfl⟩ := gL_of hq
  exact h k h1
theorem gP_W {D : va_G} {a : Nat → Nat} {w : Nat → va_E} {H : Heap} (h : va_P D vwCl (gL a w) H) : gW D a w H := fun i hi => h i _ (gL_at a w hi)
theorem gA_D {B0 : Nat} {a : Nat → Nat} (h : gA B0 a) (w : Nat → va_E) : va_D (gF B0) (gL a w) := by
  refine ⟨fun i j p q hp hq e => ?_, fun k q hq => ?_⟩
  · obtain ⟨h1, rfl⟩ := gL_of hp
    obtain ⟨h2, rfl⟩ := gL_of hq
    exact h.1 i j h1 h2 e
  · obtain ⟨h1, rfl⟩ := gL_of hq
    exact h.2 k h1
theorem gL_set (a : Nat → Nat) (w : Nat → va_E) {i : Nat} (hi : i < gN) (x : va_E) : (gL a w).set i (a i, x) = gL a (va_up w i x) := by
  apply List.ext_getElem?
  intro k
  by_cases hk : k < gN
  · rw [gL_at _ _ hk, List.getElem?_set]
    by_cases e : i = k
    · subst e
      simp [gL, hi, va_up]
    · have e' : ¬ k = i := fun q => e q.symm
      rw [if_neg e, gL_at _ _ hk]; simp [va_up, e']
  · rw [List.getElem?_eq_none (by simpa [gL] using hk), List.getElem?_eq_none (by simpa [gL] using hk)]
theorem gW_kept {D : va_G} {a : Nat → Nat} {w : Nat → va_E} {H H1 : Heap} (h : gW D a w H) (hq : ∀ q, q < H.size → H1[q]? = H[q]?) : gW D a w H1 := fun i hi => (h i hi).kept (hq _ (h i hi).lt)
/-- a contract that changes nothing -/
def roP {α : Type} (E : α) (w : Nat → va_E) : α → (Nat → va_E) → Prop := fun r w1 => r = E ∧ w1 = w
def roV (w : Nat → va_E) : (Nat → va_E) → Prop := fun w1 => True ∧ w1 = w
/-- a contract's start and end -/
def gPc (D : va_G) (k : ClassId × ClassId × ClassId) (a : Nat → Nat) (B0 : Nat) (w : Nat → va_E) (av : List Value) : Array Value → State → Prop := va_Pc av (fun U => B0 ≤ U.heap.size ∧ gW D a w U.heap ∧ va_K D vwCl (gT k) U)
def gB (D : va_G) (k : ClassId × ClassId × ClassId) (a : Nat → Nat) : (Nat → va_E) → State → Prop := fun w t => gW D a w t.heap ∧ va_K D vwCl (gT k) t
theorem gPc_blind {D : va_G} {k : ClassId × ClassId × ClassId} {a : Nat → Nat} {B0 : Nat} {w : Nat → va_E} {av : List Value} : FrameBlind (gPc D k a B0 w av) := fun x U g mk q => by
  obtain ⟨q0, q1, q2, q3⟩ := q
  exact ⟨q0, q1, q2, va_K.moved (u := U) (U := U.calling g mk x) (Vm.Alike.refl U.vm) q3⟩
/-- numbers of the machine told by their class: what a called method needs of the tables -/
def cal (y : MethodName) (b : ByteArray) (maxL : Nat) (ret : Option FieldType) (n : Nat) : Prop := Cond.code y b maxL ret ∈ TB ∧ Cond.initialized y.cls ∈ TB ∧ y.cls ≠ "java/lang/invoke/MethodHandle" ∧ y.cls ≠ "java/lang/invoke/VarHandle" ∧ (parseMethodDescriptor y.desc).map (fun d => d.parameters.length) = some n
def calV (y : MethodName) : Prop := Cond.instanceMethod y ∈ TB ∧ Cond.selects y.cls y y ∈ TB
def calS (y : MethodName) : Prop := Cond.static y ∈ TB
theorem tb_in {y : MethodName} {b : ByteArray} {maxL : Nat} {ret : Option FieldType} (h : Cond.code y b maxL ret ∈ TB) : GoodIn TB (tbw y b maxL ret) := fun w hw => by
  have h1 : w ∈ TB := (List.mem_cons.mp hw).elim (fun e => e ▸ h) id
  exact ⟨h1, tb_good h1⟩
section GCW
variable {R : Room} {s : State} {args : Array Value} {own : String} {index maxL n : Nat} {y : MethodName} {b : ByteArray} {ret : Option FieldType} {rm : Room}
theorem g_cwB (ht : ∀ w ∈ TB, w.before args s = true) (hc : cal y b maxL ret n) (hl : Cond.methodLink own index y ∈ TB) (hR : rm.frames + 1 ≤ R.frames ∧ 8 + (maxL + 11) + rm.locals ≤ R.locals) : CallB R s args own index y b maxL ret (tbw y b maxL ret) rm rm.cells rm.slots n :=
  callB_of n ht (tb_in hc.1) rfl rfl rfl (ht _ hc.2.1) (ht _ hl) hc.2.2 hR
theorem g_cwV (ht : ∀ w ∈ TB, w.before args s = true) (hc : cal y b maxL ret n) (hv : calV y) (hl : Cond.methodLink own index y ∈ TB) (hR : rm.frames + 1 ≤ R.frames ∧ 8 + (maxL + 11) + rm.locals ≤ R.locals) : CallW R s args own y.cls index y b maxL ret (tbw y b maxL ret) rm rm.cells rm.slots n :=
  ⟨g_cwB ht hc hl hR, ht _ hv.1, ht _ hv.2⟩
end GCW
section GOF
variable {l : Launch} {D : va_G} {k : ClassId × ClassId × ClassId} {a : Nat → Nat} {B0 : Nat} {w : Nat → va_E}
/-- the head of a contract -/
theorem g_ofW {y : MethodName} {b : ByteArray} {nL : Nat} {ret : Option FieldType} {rm : Room} {av : List Value} {Qc : Array Value → State → Outcome → State → Prop} {mc ms : Nat} {free : Addr → Prop} (hy : plainName y.cls = true) (hsl : Nat.ble (lg_sl av).length nL = true)
    (body : ∀ (p : Program) (e : Env) (s : State) (m : MethodId) (args : Array Value) (below : List Frame) (meth : Method) (c : Code) (Q : State → Prop), (∀ t, MQ below Qc args s mc ms free t → Q t) → p.tables.exec = Jvm.exec → c.code = b → meth.sig.returnType = ret → meth.locks = false → c.maxLocals = nL → s.vm.findClass y.cls = some m.cls → (∀ w ∈ TB, w.before args s = true) → B0 ≤ s.heap.size → gW D a w s.heap → va_K D vwCl (gT k) s → va_S (gF B0) s.heap s.heap [] → ∀ ls : Array Slot, lv_has ls nL (lv_args 0 av) →
      W p l e rm s m args below meth c s.heap [] 0 0 Q (F0 m 0 ls [])) : Met l y (tbw y b nL ret) rm (gPc D k a B0 w av) Qc mc ms free := by
  refine Met.ofW (cc := b) (maxL := nL) (ret := ret) hy rfl ?_
  intro p e s m args below meth c s₁ B hml hv
  obtain ⟨rfl, h1, h2, h3⟩ := hv
  have hts := atoms_spec (ws := tbw y b nL ret) B.pre
  have hl := lv_entry av (n := nL) (Nat.le_of_ble_eq_true hsl)
  rw [lg_entry_eq]
  exact body p e s m av.toArray below meth c _ (fun _ h => h) B.exec B.bytes B.returns B.notSynchronized hml (findClass_of_methodNamed B.named) (fun w hw => hts w (List.mem_cons_of_mem _ hw)) h1 h2 h3 va_S.rf _ hl
end GOF
section GROWS
variable {p : Program} {l : Launch} {e : Env} {R : Room} {s : State} {m : MethodId} {args : Array Value} {below : List Frame} {meth : Method} {c : Code} {H : Heap} {locs : List Loc} {cells slots : Nat} {Q : State → Prop}
variable {cc : ByteArray} {pc : Nat} {ls : Array Slot} {rest : List Value} {D : va_G} {k : ClassId × ClassId × ClassId} {a : Nat → Nat} {B0 : Nat} {w : Nat → va_E} {H0 : Heap}
/-! numbers that are nI -/
theorem ln_iadd (hx : p.tables.exec = Jvm.exec) (hb : c.code = cc) {x y : Nat} (hdg : decode cc pc = .ok (.iadd, 1)) (kk : W p l e R s m args below meth c H locs cells slots Q (F0 m (pc + 1) ls (.int (nI (x + y)) :: rest))) : W p l e R s m args below meth c H locs cells slots Q (F0 m pc ls (.int (nI y) :: .int (nI x) :: rest)) :=
  lv_iadd hx hb hdg (by rw [nI_add]; exact kk)
theorem ln_imul (hx : p.tables.exec = Jvm.exec) (hb : c.code = cc) {x y : Nat} (hdg : decode cc pc = .ok (.imul, 1)) (kk : W p l e R s m args below meth c H locs cells slots Q (F0 m (pc + 1) ls (.int (nI (x * y)) :: rest))) : W p l e R s m args below meth c H locs cells slots Q (F0 m pc ls (.int (nI y) :: .int (nI x) :: rest)) :=
  lv_imul hx hb hdg (by rw [pk_mul]; exact kk)
theorem ln_isub (hx : p.tables.exec = Jvm.exec) (hb : c.code = cc) {x y : Nat} (hdg : decode cc pc = .ok (.isub, 1)) (hle : y ≤ x) (kk : W p l e R s m args below meth c H locs cells slots Q (F0 m (pc + 1) ls (.int (nI (x - y)) :: rest))) : W p l e R s m args below meth c H locs cells slots Q (F0 m pc ls (.int (nI y) :: .int (nI x) :: rest)) :=
  lv_isub hx hb hdg (by rw [pk_sub hle]; exact kk)
section BR
variable {x y : Nat} {off : Int} {tgt : Nat}
theorem ln_icmp_ge (hx : p.tables.exec = Jvm.exec) (hb : c.code = cc) (hdg : decode cc pc = .ok (.if_icmp .ge off, 3)) (ht : (pc : Int) + off = (tgt : Int)) (h1 : x < 2 ^ 31) (h2 : y < 2 ^ 31) (kt : y ≤ x → W p l e R s m args below meth c H locs cells slots Q (F0 m tgt ls rest)) (kf : x < y → W p l e R s m args below meth c H locs cells slots Q (F0 m (pc + 3) ls rest)) : W p l e R s m args below meth c H locs cells slots Q (F0 m pc ls (.int (nI y) :: .int (nI x) :: rest)) :=
  lv_icmp_ge hx hb hdg ht (fun h => kt ((nI_leI h2 h1).mp h)) (fun h => kf (Nat.not_le.mp fun q => h ((nI_leI h2 h1).mpr q)))
theorem ln_icmp_gt (hx : p.tables.exec = Jvm.exec) (hb : c.code = cc) (hdg : decode cc pc = .ok (.if_icmp .gt off, 3)) (ht : (pc : Int) + off = (tgt : Int)) (h1 : x < 2 ^ 31) (h2 : y < 2 ^ 31) (kt : y < x → W p l e R s m args below meth c H locs cells slots Q (F0 m tgt ls rest)) (kf : x ≤ y → W p l e R s m args below meth c H locs cells slots Q (F0 m (pc + 3) ls rest)) : W p l e R s m args below meth c H locs cells slots Q (F0 m pc ls (.int (nI y) :: .int (nI x) :: rest)) :=
  lv_icmp_gt hx hb hdg ht (fun h => kt ((nI_ltI h2 h1).mp h)) (fun h => kf (Nat.not_lt.mp fun q => h ((nI_ltI h2 h1).mpr q)))
theorem ln_icmp_lt (hx : p.tables.exec = Jvm.exec) (hb : c.code = cc) (hdg : decode cc pc = .ok (.if_icmp .lt off, 3)) (ht : (pc : Int) + off = (tgt : Int)) (h1 : x < 2 ^ 31) (h2 : y < 2 ^ 31) (kt : x < y → W p l e R s m args below meth c H locs cells slots Q (F0 m tgt ls rest)) (kf : y ≤ x → W p l e R s m args below meth c H locs cells slots Q (F0 m (pc + 3) ls rest)) : W p l e R s m args below meth c H locs cells slots Q (F0 m pc ls (.int (nI y) :: .int (nI x) :: rest)) :=
  lv_icmp_lt hx hb hdg ht (fun h => kt ((nI_ltI h1 h2).mp h)) (fun h => kf (Nat.not_lt.mp fun q => h ((nI_ltI h1 h2).mpr q)))
theorem ln_icmp_le (hx : p.tables.exec = Jvm.exec) (hb : c.code = cc) (hdg : decode cc pc = .ok (.if_icmp .le off, 3)) (ht : (pc : Int) + off = (tgt : Int)) (h1 : x < 2 ^ 31) (h2 : y < 2 ^ 31) (kt : x ≤ y → W p l e R s m args below meth c H locs cells slots Q (F0 m tgt ls rest)) (kf : y < x → W p l e R s m args below meth c H locs cells slots Q (F0 m (pc + 3) ls rest)) : W p l e R s m args below meth c H locs cells slots Q (F0 m pc ls (.int (nI y) :: .int (nI x) :: rest)) :=
  lv_icmp_le hx hb hdg ht (fun h => kt ((nI_leI h1 h2).mp h)) (fun h => kf (Nat.not_le.mp fun q => h ((nI_leI h1 h2).mpr q)))
theorem ln_icmp_eq (hx : p.tables.exec = Jvm.exec) (hb : c.code = cc) (hdg : decode cc pc = .ok (.if_icmp .eq off, 3)) (ht : (pc : Int) + off = (tgt : Int)) (h1 : x < 2 ^ 31) (h2 : y < 2 ^ 31) (kt : x = y → W p l e R s m args below meth c H locs cells slots Q (F0 m tgt ls rest)) (kf : ¬ x = y → W p l e R s m args below meth c H locs cells slots Q (F0 m (pc + 3) ls rest)) : W p l e R s m args below meth c H locs cells slots Q (F0 m pc ls (.int (nI y) :: .int (nI x) :: rest)) :=
  lv_icmp_eq hx hb hdg ht (fun h => kt ((nI_eq h1 h2).mp h)) (fun h => kf (fun q => h ((nI_eq h1 h2).mpr q)))
theorem ln_icmp_ne (hx : p.tables.exec = Jvm.exec) (hb : c.code = cc) (hdg : decode cc pc = .ok (.if_icmp .ne off, 3)) (ht : (pc : Int) + off = (tgt : Int)) (h1 : x < 2 ^ 31) (h2 : y < 2 ^ 31) (kt : ¬ x = y → W p l e R s m args below meth c H locs cells slots Q (F0 m tgt ls rest)) (kf : x = y → W p l e R s m args below meth c H locs cells slots Q (F0 m (pc + 3) ls rest)) : W p l e R s m args below meth c H locs cells slots Q (F0 m pc ls (.int (nI y) :: .int (nI x) :: rest)) :=
  lv_icmp_ne hx hb hdg ht (fun h => kt (fun q => h ((nI_eq h1 h2).mpr q))) (fun h => kf ((nI_eq h1 h2).mp h))
theorem ln_if_lt (hx : p.tables.exec = Jvm.exec) (hb : c.code = cc) (hdg : decode cc pc = .ok (.ifCond .lt off, 3)) (ht : (pc : Int) + off = (tgt : Int)) (h1 : x < 2 ^ 31) (kf : W p l e R s m args below meth c H locs cells slots Q (F0 m (pc + 3) ls rest)) : W p l e R s m args below meth c H locs cells slots Q (F0 m pc ls (.int (nI x) :: rest)) :=
  lv_if_lt hx hb hdg ht (fun h => absurd h (nI_pos h1)) (fun _ => kf)
theorem ln_if_ge (hx : p.tables.exec = Jvm.exec) (hb : c.code = cc) (hdg : decode cc pc = .ok (.ifCond .ge off, 3)) (ht : (pc : Int) + off = (tgt : Int)) (h1 : x < 2 ^ 31) (kt : W p l e R s m args below meth c H locs cells slots Q (F0 m tgt ls rest)) : W p l e R s m args below meth c H locs cells slots Q (F0 m pc ls (.int (nI x) :: rest)) :=
  lv_if_ge hx hb hdg ht (fun _ => kt) (fun h => absurd (nI_pos' h1) h)
theorem ln_if_eq (hx : p.tables.exec = Jvm.exec) (hb : c.code = cc) (hdg : decode cc pc = .ok (.ifCond .eq off, 3)) (ht : (pc : Int) + off = (tgt : Int)) (h1 : x < 2 ^ 31) (kt : x = 0 → W p l e R s m args below meth c H locs cells slots Q (F0 m tgt ls rest)) (kf : ¬ x = 0 → W p l e R s m args below meth c H locs cells slots Q (F0 m (pc + 3) ls rest)) : W p l e R s m args below meth c H locs cells slots Q (F0 m pc ls (.int (nI x) :: rest)) :=
  lv_if_eq hx hb hdg ht (fun h => kt ((nI_eq h1 (by decide)).mp (h.trans nI_0.symm))) (fun h => kf (fun q => h (by rw [q]; exact nI_0)))
theorem ln_if_ne (hx : p.tables.exec = Jvm.exec) (hb : c.code = cc) (hdg : decode cc pc = .ok (.ifCond .ne off, 3)) (ht : (pc : Int) + off = (tgt : Int)) (h1 : x < 2 ^ 31) (kt : ¬ x = 0 → W p l e R s m args below meth c H locs cells slots Q (F0 m tgt ls rest)) (kf : x = 0 → W p l e R s m args below meth c H locs cells slots Q (F0 m (pc + 3) ls rest)) : W p l e R s m args below meth c H locs cells slots Q (F0 m pc ls (.int (nI x) :: rest)) :=
  lv_if_ne hx hb hdg ht (fun h => kt (fun q => h (by rw [q]; exact nI_0))) (fun h => kf ((nI_eq h1 (by decide)).mp (h.trans nI_0.symm)))
theorem ln_if_gt (hx : p.tables.exec = Jvm.exec) (hb : c.code = cc) (hdg : decode cc pc = .ok (.ifCond .gt off, 3)) (ht : (pc : Int) + off = (tgt : Int)) (h1 : x < 2 ^ 31) (kt : 0 < x → W p l e R s m args below meth c H locs cells slots Q (F0 m tgt ls rest)) (kf : x = 0 → W p l e R s m args below meth c H locs cells slots Q (F0 m (pc + 3) ls rest)) : W p l e R s m args below meth c H locs cells slots Q (F0 m pc ls (.int (nI x) :: rest)) :=
  lv_if_gt hx hb hdg ht (fun h => kt (by
    rcases Nat.eq_zero_or_pos x with q | q
    · rw [q, nI_0] at h; exact absurd h (by decide)
    · exact q)) (fun h => kf (by
    rcases Nat.eq_zero_or_pos x with q | q
    · exact q
    · exact absurd (by have := nI_lt q h1; rwa [nI_0] at this) h))
theorem ln_if_le (hx : p.tables.exec = Jvm.exec) (hb : c.code = cc) (hdg : decode cc pc = .ok (.ifCond .le off, 3)) (ht : (pc : Int) + off = (tgt : Int)) (h1 : x < 2 ^ 31) (kt : x = 0 → W p l e R s m args below meth c H locs cells slots Q (F0 m tgt ls rest)) (kf : 0 < x → W p l e R s m args below meth c H locs cells slots Q (F0 m (pc + 3) ls rest)) : W p l e R s m args below meth c H locs cells slots Q (F0 m pc ls (.int (nI x) :: rest)) :=
  lv_if_le hx hb hdg ht (fun h => kt (by
    rcases Nat.eq_zero_or_pos x with q | q
    · exact q
    · exact absurd h (nI_nle q h1))) (fun h => kf (by
    rcases Nat.eq_zero_or_pos x with q | q
    · rw [q, nI_0] at h; exact absurd (by decide) h
    · exact q))
theorem lb_if_eq (hx : p.tables.exec = Jvm.exec) (hb : c.code = cc) {P : Prop} (hdg : decode cc pc = .ok (.ifCond .eq off, 3)) (ht : (pc : Int) + off = (tgt : Int)) (kt : ¬ P → W p l e R s m args below meth c H locs cells slots Q (F0 m tgt ls rest)) (kf : P → W p l e R s m args below meth c H locs cells slots Q (F0 m (pc + 3) ls rest)) : W p l e R s m args below meth c H locs cells slots Q (F0 m pc ls (.int (b2i P) :: rest)) :=
  lv_if_eq hx hb hdg ht (fun h => kt (b2i_0.mp h)) (fun h => kf (Classical.not_not.mp fun q => h (b2i_0.mpr q)))
theorem lb_if_ne (hx : p.tables.exec = Jvm.exec) (hb : c.code = cc) {P : Prop} (hdg : decode cc pc = .ok (.ifCond .ne off, 3)) (ht : (pc : Int) + off = (tgt : Int)) (kt : P → W p l e R s m args below meth c H locs cells slots Q (F0 m tgt ls rest)) (kf : ¬ P → W p l e R s m args below meth c H locs cells slots Q (F0 m (pc + 3) ls rest)) : W p l e R s m args below meth c H locs cells slots Q (F0 m pc ls (.int (b2i P) :: rest)) :=
  lv_if_ne hx hb hdg ht (fun h => kt (Classical.not_not.mp fun q => h (b2i_0.mpr q))) (fun h => kf (b2i_0.mp h))
end BR
theorem lc_if_eq (hx : p.tables.exec = Jvm.exec) (hb : c.code = cc) {x y : Int64} {off : Int} {tgt : Nat} (hdg : decode cc pc = .ok (.ifCond .eq off, 3)) (ht : (pc : Int) + off = (tgt : Int)) (kt : x = y → W p l e R s m args below meth c H locs cells slots Q (F0 m tgt ls rest)) (kf : ¬ x = y → W p l e R s m args below meth c H locs cells slots Q (F0 m (pc + 3) ls rest)) : W p l e R s m args below meth c H locs cells slots Q (F0 m pc ls (.int (lg_cmp x y) :: rest)) :=
  lv_if_eq hx hb hdg ht (fun h => kt ((lg_cmp_eq x y).mp h)) (fun h => kf (fun q => h ((lg_cmp_eq x y).mpr q)))
theorem lc_if_ne (hx : p.tables.exec = Jvm.exec) (hb : c.code = cc) {x y : Int64} {off : Int} {tgt : Nat} (hdg : decode cc pc = .ok (.ifCond .ne off, 3)) (ht : (pc : Int) + off = (tgt : Int)) (kt : ¬ x = y → W p l e R s m args below meth c H locs cells slots Q (F0 m tgt ls rest)) (kf : x = y → W p l e R s m args below meth c H locs cells slots Q (F0 m (pc + 3) ls rest)) : W p l e R s m args below meth c H locs cells slots Q (F0 m pc ls (.int (lg_cmp x y) :: rest)) :=
  lv_if_ne hx hb hdg ht (fun h => kt (fun q => h ((lg_cmp_eq x y).mpr q))) (fun h => kf ((lg_cmp_eq x y).mp h))
theorem lc_if_lt (hx : p.tables.exec = Jvm.exec) (hb : c.code = cc) {x y : Int64} {off : Int} {tgt : Nat} (hdg : decode cc pc = .ok (.ifCond .lt off, 3)) (ht : (pc : Int) + off = (tgt : Int)) (kt : x < y → W p l e R s m args below meth c H locs cells slots Q (F0 m tgt ls rest)) (kf : y ≤ x → W p l e R s m args below meth c H locs cells slots Q (F0 m (pc + 3) ls rest)) : W p l e R s m args below meth c H locs cells slots Q (F0 m pc ls (.int (lg_cmp x y) :: rest)) :=
  lv_if_lt hx hb hdg ht (fun h => kt ((lg_cmp_lt x y).mp h)) (fun h => kf (Int64.not_lt.mp fun q => h ((lg_cmp_lt x y).mpr q)))
theorem lc_if_ge (hx : p.tables.exec = Jvm.exec) (hb : c.code = cc) {x y : Int64} {off : Int} {tgt : Nat} (hdg : decode cc pc = .ok (.ifCond .ge off, 3)) (ht : (pc : Int) + off = (tgt : Int)) (kt : y ≤ x → W p l e R s m args below meth c H locs cells slots Q (F0 m tgt ls rest)) (kf : x < y → W p l e R s m args below meth c H locs cells slots Q (F0 m (pc + 3) ls rest)) : W p l e R s m args below meth c H locs cells slots Q (F0 m pc ls (.int (lg_cmp x y) :: rest)) :=
  lv_if_ge hx hb hdg ht (fun h => kt ((lg_cmp_ge x y).mp h)) (fun h => kf (Int64.not_le.mp fun q => h ((lg_cmp_ge x y).mpr q)))
theorem lc_if_gt (hx : p.tables.exec = Jvm.exec) (hb : c.code = cc) {x y : Int64} {off : Int} {tgt : Nat} (hdg : decode cc pc = .ok (.ifCond .gt off, 3)) (ht : (pc : Int) + off = (tgt : Int)) (kt : y < x → W p l e R s m args below meth c H locs cells slots Q (F0 m tgt ls rest)) (kf : x ≤ y → W p l e R s m args below meth c H locs cells slots Q (F0 m (pc + 3) ls rest)) : W p l e R s m args below meth c H locs cells slots Q (F0 m pc ls (.int (lg_cmp x y) :: rest)) :=
  lv_if_gt hx hb hdg ht (fun h => kt ((lg_cmp_gt x y).mp h)) (fun h => kf (Int64.not_lt.mp fun q => h ((lg_cmp_gt x y).mpr q)))
theorem lc_if_le (hx : p.tables.exec = Jvm.exec) (hb : c.code = cc) {x y : Int64} {off : Int} {tgt : Nat} (hdg : decode cc pc = .ok (.ifCond .le off, 3)) (ht : (pc : Int) + off = (tgt : Int)) (kt : x ≤ y → W p l e R s m args below meth c H locs cells slots Q (F0 m tgt ls rest)) (kf : y < x → W p l e R s m args below meth c H locs cells slots Q (F0 m (pc + 3) ls rest)) : W p l e R s m args below meth c H locs cells slots Q (F0 m pc ls (.int (lg_cmp x y) :: rest)) :=
  lv_if_le hx hb hdg ht (fun h => kt ((lg_cmp_le x y).mp h)) (fun h => kf (Int64.not_le.mp fun q => h ((lg_cmp_le x y).mpr q)))
/-! the world's cells -/
theorem g_get (hx : p.tables.exec = Jvm.exec) (hb : c.code = cc) {own C : String} {T : u_T} {N ci index : Nat} (hts : ∀ w ∈ TB, w.before args s = true) (hin : ∀ w ∈ u_ws C T N, w ∈ TB) (hown : s.vm.findClass own = some m.cls) (hK : va_K D vwCl (gT k) s) (hG : gW D a w H) (i : Nat) (hi : i < gN) {fs : List Value} (he : w i = .inr (ci, fs)) (hc : vwCl[ci]? = some (C, T, N)) (j : Nat) (hj : j < N) (hlink : Cond.fieldLink own index (T j).1 (T j).2.1 (T j).2.2.1 ∈ TB) {v : Value} (hv : fs[j]? = some v) (hdg : decode cc pc = .ok (.getfield index, 3))
    (kk : W p l e R s m args below meth c H locs cells slots Q (F0 m (pc + 3) ls (v :: rest))) : W p l e R s m args below meth c H locs cells slots Q (F0 m pc ls (.ref (a i) :: rest)) :=
  va_get (D := D) (ws := [(a i, .inr (ci, fs))]) hx hb hts hin hown hK (fun z q hq => by
    match z, hq with
    | 0, hq => cases hq; have h9 := hG i hi; rw [he] at h9; exact h9
    | z + 1, hq => simp at hq) 0 rfl hc j hj (hts _ hlink) (fun _ h => h) hv hdg kk
theorem g_put (hx : p.tables.exec = Jvm.exec) (hb : c.code = cc) {own C : String} {T : u_T} {N ci index : Nat} (hts : ∀ w ∈ TB, w.before args s = true) (hin : ∀ w ∈ u_ws C T N, w ∈ TB) (ty0 : Nat → FieldType) (hty : ∀ j, j < N → parseFieldDescriptor (T j).2.2.1 = some (ty0 j)) (hnm : ∀ a, a < N → ∀ b, b < N → a ≠ b → (T a).2.1 ≠ (T b).2.1) (hown : s.vm.findClass own = some m.cls) (hK : va_K D vwCl (gT k) s) (hA : gA B0 a) (hG : gW D a w H) (hS : va_S (gF B0) H0 H locs) (i : Nat) (hi : i < gN) {fs : List Value} (he : w i = .inr (ci, fs)) (hc : vwCl[ci]? = some (C, T, N)) (j : Nat) (hj : j < N) (hlink : Cond.fieldLink own index (T j).1 (T j).2.1 (T j).2.2.1 ∈ TB) (hfin : (T j).2.2.2 = false) {ty : FieldType} {v : Value} (hd : parseFieldDescriptor (T j).2.2.1 = some ty) (hn : narrow ty v = v) (hfit : fits ty v = true) (hl : j < fs.length) (hdg : decode cc pc = .ok (.putfield index, 3))
    (kk : ∀ (H1 : Heap) (locs1 : List Loc), gW D a (va_up w i (.inr (ci, fs.set j v))) H1 → va_S (gF B0) H0 H1 locs1 → W p l e R s m args below meth c H1 locs1 cells slots Q (F0 m (pc + 3) ls rest)) : W p l e R s m args below meth c H locs cells slots Q (F0 m pc ls (v :: .ref (a i) :: rest)) :=
  va_put (D := D) (ws := gL a w) hx hb hts hin ty0 hty hnm hown hK (gW_P hG) (gA_D hA w) hS i ((gL_at a w hi).trans (by rw [he])) hc j hj (hts _ hlink) (fun _ h => h) hfin hd hn hfit hl hdg (fun H1 locs1 hP _ hS1 => kk H1 locs1 (gP_W (by rw [← gL_set a w hi]; exact hP)) hS1)
theorem g_one (hG : gW D a w H) {i : Nat} (hi : i < gN) {x : va_E} (he : w i = x) : va_P D vwCl [(a i, x)] H := fun z q hq => by
  match z, hq with
  | 0, hq => cases hq; have h9 := hG i hi; rw [he] at h9; exact h9
  | z + 1, hq => simp at hq
theorem g_iald (hx : p.tables.exec = Jvm.exec) (hb : c.code = cc) (hK : va_K D vwCl (gT k) s) (hG : gW D a w H) (i : Nat) (hi : i < gN) {n : Nat} {f : Nat → Int32} (he : w i = .inl (k.1, n, .inl f)) {j : Nat} (hj : j < n) (hn : n < 2 ^ 31) (hdg : decode cc pc = .ok (.iaload, 1))
    (kk : W p l e R s m args below meth c H locs cells slots Q (F0 m (pc + 1) ls (.int (f j) :: rest))) : W p l e R s m args below meth c H locs cells slots Q (F0 m pc ls (.int (nI j) :: .ref (a i) :: rest)) :=
  va_iald hx hb hK (g_one hG hi he) 0 0 rfl rfl (vp_in_nI hj hn) hdg (by rw [nI_clamp (Nat.lt_trans hj hn)]; exact kk)
theorem g_lald (hx : p.tables.exec = Jvm.exec) (hb : c.code = cc) (hK : va_K D vwCl (gT k) s) (hG : gW D a w H) (i : Nat) (hi : i < gN) {n : Nat} {f : Nat → Int64} (he : w i = .inl (k.2.1, n, .inr (.inl f))) {j : Nat} (hj : j < n) (hn : n < 2 ^ 31) (hdg : decode cc pc = .ok (.laload, 1))
    (kk : W p l e R s m args below meth c H locs cells slots Q (F0 m (pc + 1) ls (.long (f j) :: rest))) : W p l e R s m args below meth c H locs cells slots Q (F0 m pc ls (.int (nI j) :: .ref (a i) :: rest)) :=
  va_lald hx hb hK (g_one hG hi he) 0 1 rfl rfl (vp_in_nI hj hn) hdg (by rw [nI_clamp (Nat.lt_trans hj hn)]; exact kk)
theorem g_zald (hx : p.tables.exec = Jvm.exec) (hb : c.code = cc) (hK : va_K D vwCl (gT k) s) (hG : gW D a w H) (i : Nat) (hi : i < gN) {n : Nat} {f : Nat → Int32} (he : w i = .inl (k.2.2, n, .inl f)) {j : Nat} (hj : j < n) (hn : n < 2 ^ 31) (hdg : decode cc pc = .ok (.baload, 1))
    (kk : W p l e R s m args below meth c H locs cells slots Q (F0 m (pc + 1) ls (.int (f j) :: rest))) : W p l e R s m args below meth c H locs cells slots Q (F0 m pc ls (.int (nI j) :: .ref (a i) :: rest)) :=
  va_zald hx hb hK (g_one hG hi he) 0 2 rfl rfl (vp_in_nI hj hn) hdg (by rw [nI_clamp (Nat.lt_trans hj hn)]; exact kk)
theorem g_iast (hx : p.tables.exec = Jvm.exec) (hb : c.code = cc) (hK : va_K D vwCl (gT k) s) (hA : gA B0 a) (hG : gW D a w H) (hS : va_S (gF B0) H0 H locs) (i : Nat) (hi : i < gN) {n : Nat} {f : Nat → Int32} (he : w i = .inl (k.1, n, .inl f)) {j : Nat} {x : Int32} (hj : j < n) (hn : n < 2 ^ 31) (hdg : decode cc pc = .ok (.iastore, 1))
    (kk : ∀ (H1 : Heap) (locs1 : List Loc), gW D a (va_up w i (.inl (k.1, n, .inl (upd f j x)))) H1 → va_S (gF B0) H0 H1 locs1 → W p l e R s m args below meth c H1 locs1 cells slots Q (F0 m (pc + 1) ls rest)) : W p l e R s m args below meth c H locs cells slots Q (F0 m pc ls (.int x :: .int (nI j) :: .ref (a i) :: rest)) :=
  va_iast (ws := gL a w) hx hb hK (gW_P hG) (gA_D hA w) hS i 0 ((gL_at a w hi).trans (by rw [he])) rfl (vp_in_nI hj hn) hdg (fun H1 locs1 hP _ hS1 => kk H1 locs1 (gP_W (by rw [← gL_set a w hi]; rw [nI_clamp (Nat.lt_trans hj hn)] at hP; exact hP)) hS1)
theorem g_last (hx : p.tables.exec = Jvm.exec) (hb : c.code = cc) (hK : va_K D vwCl (gT k) s) (hA : gA B0 a) (hG : gW D a w H) (hS : va_S (gF B0) H0 H locs) (i : Nat) (hi : i < gN) {n : Nat} {f : Nat → Int64} (he : w i = .inl (k.2.1, n, .inr (.inl f))) {j : Nat} {x : Int64} (hj : j < n) (hn : n < 2 ^ 31) (hdg : decode cc pc = .ok (.lastore, 1))
    (kk : ∀ (H1 : Heap) (locs1 : List Loc), gW D a (va_up w i (.inl (k.2.1, n, .inr (.inl (vp_updL f j x))))) H1 → va_S (gF B0) H0 H1 locs1 → W p l e R s m args below meth c H1 locs1 cells slots Q (F0 m (pc + 1) ls rest)) : W p l e R s m args below meth c H locs cells slots Q (F0 m pc ls (.long x :: .int (nI j) :: .ref (a i) :: rest)) :=
  va_last (ws := gL a w) hx hb hK (gW_P hG) (gA_D hA w) hS i 1 ((gL_at a w hi).trans (by rw [he])) rfl (vp_in_nI hj hn) hdg (fun H1 locs1 hP _ hS1 => kk H1 locs1 (gP_W (by rw [← gL_set a w hi]; rw [nI_clamp (Nat.lt_trans hj hn)] at hP; exact hP)) hS1)
theorem g_zast (hx : p.tables.exec = Jvm.exec) (hb : c.code = cc) (hK : va_K D vwCl (gT k) s) (hA : gA B0 a) (hG : gW D a w H) (hS : va_S (gF B0) H0 H locs) (i : Nat) (hi : i < gN) {n : Nat} {f : Nat → Int32} (he : w i = .inl (k.2.2, n, .inl f)) {j : Nat} {P : Prop} (hj : j < n) (hn : n < 2 ^ 31) (hdg : decode cc pc = .ok (.bastore, 1))
    (kk : ∀ (H1 : Heap) (locs1 : List Loc), gW D a (va_up w i (.inl (k.2.2, n, .inl (upd f j (b2i P))))) H1 → va_S (gF B0) H0 H1 locs1 → W p l e R s m args below meth c H1 locs1 cells slots Q (F0 m (pc + 1) ls rest)) : W p l e R s m args below meth c H locs cells slots Q (F0 m pc ls (.int (b2i P) :: .int (nI j) :: .ref (a i) :: rest)) :=
  va_zast (ws := gL a w) hx hb hK (gW_P hG) (gA_D hA w) hS i 2 ((gL_at a w hi).trans (by rw [he])) rfl (vp_in_nI hj hn) hdg (fun H1 locs1 hP _ hS1 => kk H1 locs1 (gP_W (by rw [← gL_set a w hi]; rw [nI_clamp (Nat.lt_trans hj hn), b2i_vnar] at hP; exact hP)) hS1)
/-! the ends -/
theorem g_iret {mc ms : Nat} {post : Int32 → (Nat → va_E) → Prop} {v : Int32} (hQ : ∀ t, MQ below (va_Qi post (gB D k a) (gF B0)) args s mc ms (gF B0) t → Q t) (hx : p.tables.exec = Jvm.exec) (hb : c.code = cc) (hr : meth.sig.returnType = some .int) (hlk : meth.locks = false) (hG : gW D a w H) (hK : va_K D vwCl (gT k) s) (hS : va_S (gF B0) s.heap H locs) (h1 : cells ≤ mc) (h2 : slots ≤ ms) (hq : post v w) (hdg : decode cc pc = .ok (.ireturn, 1)) : W p l e R s m args below meth c H locs cells slots Q (F0 m pc ls [.int v]) := fun T hT X => by
  obtain ⟨t, a1, b1⟩ := (W.widen h1 h2 (W.iret (v := v) (Qc := va_Qi post (gB D k a) (gF B0)) (free := gF B0) hx hb hr (fun t ht hW => ⟨⟨v, w, rfl, hq, by rw [ht]; exact hG, va_K.moved hW.alike hK⟩, hS.F ht⟩) hS.2.2 hdg hlk)) T hT X
  exact ⟨t, a1, hQ t b1⟩
theorem g_zret {mc ms : Nat} {post : Int32 → (Nat → va_E) → Prop} {v : Int32} (hQ : ∀ t, MQ below (va_Qi post (gB D k a) (gF B0)) args s mc ms (gF B0) t → Q t) (hx : p.tables.exec = Jvm.exec) (hb : c.code = cc) (hr : meth.sig.returnType = some .boolean) (hlk : meth.locks = false) (hG : gW D a w H) (hK : va_K D vwCl (gT k) s) (hS : va_S (gF B0) s.heap H locs) (h1 : cells ≤ mc) (h2 : slots ≤ ms) (hn : narrow .boolean (.int v) = .int v) (hq : post v w) (hdg : decode cc pc = .ok (.ireturn, 1)) : W p l e R s m args below meth c H locs cells slots Q (F0 m pc ls [.int v]) := fun T hT X => by
  obtain ⟨t, a1, b1⟩ := (W.widen h1 h2 (W.zret (v := v) (Qc := va_Qi post (gB D k a) (gF B0)) (free := gF B0) hx hb hr hn (fun t ht hW => ⟨⟨v, w, rfl, hq, by rw [ht]; exact hG, va_K.moved hW.alike hK⟩, hS.F ht⟩) hS.2.2 hdg hlk)) T hT X
  exact ⟨t, a1, hQ t b1⟩
theorem g_lret {mc ms : Nat} {post : Int64 → (Nat → va_E) → Prop} {v : Int64} (hQ : ∀ t, MQ below (va_Ql post (gB D k a) (gF B0)) args s mc ms (gF B0) t → Q t) (hx : p.tables.exec = Jvm.exec) (hb : c.code = cc) (hr : meth.sig.returnType = some .long) (hlk : meth.locks = false) (hG : gW D a w H) (hK : va_K D vwCl (gT k) s) (hS : va_S (gF B0) s.heap H locs) (h1 : cells ≤ mc) (h2 : slots ≤ ms) (hq : post v w) (hdg : decode cc pc = .ok (.lreturn, 1)) : W p l e R s m args below meth c H locs cells slots Q (F0 m pc ls [.long v]) := fun T hT X => by
  obtain ⟨t, a1, b1⟩ := (W.widen h1 h2 (W.lret (v := v) (Qc := va_Ql post (gB D k a) (gF B0)) (free := gF B0) hx hb hr (fun t ht hW => ⟨⟨v, w, rfl, hq, by rw [ht]; exact hG, va_K.moved hW.alike hK⟩, hS.F ht⟩) hS.2.2 hdg hlk)) T hT X
  exact ⟨t, a1, hQ t b1⟩
theorem g_vret {mc ms : Nat} {post : (Nat → va_E) → Prop} (hQ : ∀ t, MQ below (va_Qv post (gB D k a) (gF B0)) args s mc ms (gF B0) t → Q t) (hx : p.tables.exec = Jvm.exec) (hb : c.code = cc) (hr : meth.sig.returnType = none) (hlk : meth.locks = false) (hG : gW D a w H) (hK : va_K D vwCl (gT k) s) (hS : va_S (gF B0) s.heap H locs) (h1 : cells ≤ mc) (h2 : slots ≤ ms) (hq : post w) (hdg : decode cc pc = .ok (.return_, 1)) : W p l e R s m args below meth c H locs cells slots Q (F0 m pc ls []) := fun T hT X => by
  obtain ⟨t, a1, b1⟩ := (W.widen h1 h2 (W.vret (Qc := va_Qv post (gB D k a) (gF B0)) (free := gF B0) hx hb hr (fun t ht hW => ⟨⟨w, rfl, hq, by rw [ht]; exact hG, va_K.moved hW.alike hK⟩, hS.F ht⟩) hS.2.2 hdg hlk)) T hT X
  exact ⟨t, a1, hQ t b1⟩
end GROWS
